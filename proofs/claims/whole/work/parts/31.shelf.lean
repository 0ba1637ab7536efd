theorem in_X7_wordsAt_X7 : ∀ w ∈ wsX70, w ∈ wsX7_wordsAt := by decide +kernel
theorem lk_X7_wordsAt_9 : Cond.fieldLink RX7 9 "PostingPlanner$Shelf" "words" "[I" ∈ wsX7_wordsAt := by decide +kernel
theorem in_X7_replace_X7 : ∀ w ∈ wsX70, w ∈ wsX7_replace := by decide +kernel
theorem lk_X7_replace_9 : Cond.fieldLink RX7 9 "PostingPlanner$Shelf" "words" "[I" ∈ wsX7_replace := by decide +kernel
theorem in_X7_allThere_X7 : ∀ w ∈ wsX70, w ∈ wsX7_allThere := by decide +kernel
theorem lk_X7_allThere_9 : Cond.fieldLink RX7 9 "PostingPlanner$Shelf" "words" "[I" ∈ wsX7_allThere := by decide +kernel
theorem in_X7_truthsOf_X7 : ∀ w ∈ wsX70, w ∈ wsX7_truthsOf := by decide +kernel
theorem lk_X7_truthsOf_9 : Cond.fieldLink RX7 9 "PostingPlanner$Shelf" "words" "[I" ∈ wsX7_truthsOf := by decide +kernel
theorem ini_X7_truthsOf_X10 : Cond.initialized RX10 ∈ wsX7_truthsOf := by decide +kernel
theorem st_X7_truthsOf_X10_isLiteralTrue : Cond.static yX10_isLiteralTrue ∈ wsX7_truthsOf := by decide +kernel
set_option maxHeartbeats 4000000 in
set_option maxRecDepth 100000 in
theorem c_isLiteralTrue (S : ST) (code w : Nat) (hc : code < 16) (hw : w < 256) : Ct yX10_isLiteralTrue wsX10_isLiteralTrue 0 [vi (code : Int), vi (w : Int)] S (fun v S1 => v = some (vi (b2i (litT code w))) ∧ S1 = S) := by
  refine Ct.of (nL := 2) (by decide) rfl (Nat.le_of_ble_eq_true rfl) (by decide) (fun X C Rr hnL => ?_)
  have hn : ∀ i, i < 2 → i < X.2.2.2.2.2 := fun i h => by rw [hnL]; exact h
  refine r_iload_n C dX10_isLiteralTrue_0 rfl rfl ?_
  refine r_iload_n C dX10_isLiteralTrue_1 rfl rfl ?_
  refine r_iconst C dX10_isLiteralTrue_2 ?_
  refine r_ishr (z := ((code / 2 ^ 1 : Nat) : Int)) C dX10_isLiteralTrue_3 (m_ishr (by omega) (by decide)) ?_
  refine r_ishr (z := ((w / 2 ^ (code / 2 ^ 1) : Nat) : Int)) C dX10_isLiteralTrue_4 (m_ishr (by omega) (by omega)) ?_
  refine r_iconst C dX10_isLiteralTrue_5 ?_
  refine r_iand (z := ((w / 2 ^ (code / 2 ^ 1) % 2 : Nat) : Int)) C dX10_isLiteralTrue_6 (m_iand1 (Nat.lt_of_le_of_lt (Nat.div_le_self _ _) (by omega))) ?_
  refine r_iload_n C dX10_isLiteralTrue_7 rfl rfl ?_
  refine r_iconst C dX10_isLiteralTrue_8 ?_
  refine r_iand (z := ((code % 2 : Nat) : Int)) C dX10_isLiteralTrue_9 (m_iand1 (by omega)) ?_
  refine r_icmp_eq (tgt := 17) C dX10_isLiteralTrue_10 (by decide) (by omega) (by omega) (fun h10 => ?_) (fun h10 => ?_)
  · skip
    refine r_iconst C dX10_isLiteralTrue_17 ?_
    exact r_zret C Rr (by decide) (⟨by rw [b2i_f (show litT code w = false from decide_eq_false (by rw [Nat.pow_one] at h10; omega))], rfl⟩) dX10_isLiteralTrue_18
  · skip
    refine r_iconst C dX10_isLiteralTrue_13 ?_
    refine r_goto (tgt := 18) C dX10_isLiteralTrue_14 (by decide) ?_
    exact r_zret C Rr (by decide) (⟨by rw [b2i_t (show litT code w = true from decide_eq_true (by rw [Nat.pow_one] at h10; omega))], rfl⟩) dX10_isLiteralTrue_18
set_option maxHeartbeats 4000000 in
set_option maxRecDepth 100000 in
theorem c_isEnough (S : ST) (t o kd nd : Int) (hk : 0 ≤ kd ∧ kd ≤ 2) (ht : -1000 ≤ t ∧ t ≤ 1000) (ho : -1000 ≤ o ∧ o ≤ 1000) (hd : -1000 ≤ nd ∧ nd ≤ 1000) : Ct yX10_isEnough wsX10_isEnough 0 [vi t, vi o, vi kd, vi nd] S (fun v S1 => v = some (vi (b2i (enough t o kd nd))) ∧ S1 = S) := by
  refine Ct.of (nL := 4) (by decide) rfl (Nat.le_of_ble_eq_true rfl) (by decide) (fun X C Rr hnL => ?_)
  have hn : ∀ i, i < 4 → i < X.2.2.2.2.2 := fun i h => by rw [hnL]; exact h
  refine r_iload_n C dX10_isEnough_0 rfl rfl ?_
  rcases (by omega : kd = 0 ∨ kd = 1 ∨ kd = 2) with rfl | rfl | rfl
  · refine r_lsw (tgt := 28) C dX10_isEnough_1 (by decide) (by omega) rfl (by decide) ?_
    refine r_iload_n C dX10_isEnough_28 rfl rfl ?_
    refine r_iload_n C dX10_isEnough_29 rfl rfl ?_
    refine r_icmp_ne (tgt := 37) C dX10_isEnough_30 (by decide) (by omega) (by omega) (fun h30 => ?_) (fun h30 => ?_)
    · skip
      refine r_iconst C dX10_isEnough_37 ?_
      exact r_zret C Rr (by decide) (⟨by rw [b2i_f (show enough t o 0 nd = false by simp [enough, h30])], rfl⟩) dX10_isEnough_38
    · skip
      refine r_iconst C dX10_isEnough_33 ?_
      refine r_goto (tgt := 38) C dX10_isEnough_34 (by decide) ?_
      exact r_zret C Rr (by decide) (⟨by rw [b2i_t (show enough t o 0 nd = true by simp [enough, h30])], rfl⟩) dX10_isEnough_38
  · refine r_lsw (tgt := 39) C dX10_isEnough_1 (by decide) (by omega) rfl (by decide) ?_
    refine r_iload_n C dX10_isEnough_39 rfl rfl ?_
    refine r_if_le (tgt := 47) C dX10_isEnough_40 (by decide) (by omega) (fun h40 => ?_) (fun h40 => ?_)
    · skip
      refine r_iconst C dX10_isEnough_47 ?_
      exact r_zret C Rr (by decide) (⟨by rw [b2i_f (show enough t o 1 nd = false by simp [enough]; omega)], rfl⟩) dX10_isEnough_48
    · skip
      refine r_iconst C dX10_isEnough_43 ?_
      refine r_goto (tgt := 48) C dX10_isEnough_44 (by decide) ?_
      exact r_zret C Rr (by decide) (⟨by rw [b2i_t (show enough t o 1 nd = true by simp [enough]; omega)], rfl⟩) dX10_isEnough_48
  · refine r_lsw (tgt := 49) C dX10_isEnough_1 (by decide) (by omega) rfl (by decide) ?_
    refine r_iload_n C dX10_isEnough_49 rfl rfl ?_
    refine r_iload_n C dX10_isEnough_50 rfl rfl ?_
    refine r_icmp_lt (tgt := 58) C dX10_isEnough_51 (by decide) (by omega) (by omega) (fun h51 => ?_) (fun h51 => ?_)
    · skip
      refine r_iconst C dX10_isEnough_58 ?_
      exact r_zret C Rr (by decide) (⟨by rw [b2i_f (show enough t o 2 nd = false by simp [enough]; omega)], rfl⟩) dX10_isEnough_59
    · skip
      refine r_iconst C dX10_isEnough_54 ?_
      refine r_goto (tgt := 59) C dX10_isEnough_55 (by decide) ?_
      exact r_zret C Rr (by decide) (⟨by rw [b2i_t (show enough t o 2 nd = true by simp [enough]; omega)], rfl⟩) dX10_isEnough_59
set_option maxHeartbeats 4000000 in
set_option maxRecDepth 100000 in
theorem c_contraryOf (S : ST) (code : Nat) (hc : code < 16) : Ct yX10_contraryOf wsX10_contraryOf 0 [vi (code : Int)] S (fun v S1 => v = some (vi ((ctr code : Nat) : Int)) ∧ S1 = S) := by
  refine Ct.of (nL := 1) (by decide) rfl (Nat.le_of_ble_eq_true rfl) (by decide) (fun X C Rr hnL => ?_)
  have hn : ∀ i, i < 1 → i < X.2.2.2.2.2 := fun i h => by rw [hnL]; exact h
  refine r_iload_n C dX10_contraryOf_0 rfl rfl ?_
  refine r_iconst C dX10_contraryOf_1 ?_
  refine r_ixor (z := ((ctr code : Nat) : Int)) C dX10_contraryOf_2 (m_ixor1 code hc) ?_
  exact r_iret C Rr (⟨rfl, rfl⟩) dX10_contraryOf_3
set_option maxHeartbeats 4000000 in
set_option maxRecDepth 100000 in
theorem c_codeOf (S : ST) (wd ng : Int) (h1 : 0 ≤ wd ∧ wd < 8) (h2 : ng = 0 ∨ ng = 1) : Ct yX10_codeOf wsX10_codeOf 0 [vi wd, vi ng] S (fun v S1 => v = some (vi (2 * wd + ng)) ∧ S1 = S) := by
  refine Ct.of (nL := 2) (by decide) rfl (Nat.le_of_ble_eq_true rfl) (by decide) (fun X C Rr hnL => ?_)
  have hn : ∀ i, i < 2 → i < X.2.2.2.2.2 := fun i h => by rw [hnL]; exact h
  refine r_iconst C dX10_codeOf_0 ?_
  refine r_iload_n C dX10_codeOf_1 rfl rfl ?_
  refine r_imul C dX10_codeOf_2 ?_
  refine r_iload_n C dX10_codeOf_3 rfl rfl ?_
  refine r_if_eq (tgt := 11) C dX10_codeOf_4 (by decide) (by omega) (fun h4 => ?_) (fun h4 => ?_)
  · skip
    refine r_iconst C dX10_codeOf_11 ?_
    refine r_iadd C dX10_codeOf_12 ?_
    exact r_iret C Rr (⟨by rw [h4], rfl⟩) dX10_codeOf_13
  · skip
    refine r_iconst C dX10_codeOf_7 ?_
    refine r_goto (tgt := 12) C dX10_codeOf_8 (by decide) ?_
    refine r_iadd C dX10_codeOf_12 ?_
    exact r_iret C Rr (⟨by rw [show ng = 1 by omega], rfl⟩) dX10_codeOf_13
set_option maxHeartbeats 4000000 in
set_option maxRecDepth 100000 in
theorem c_firstOf (S : ST) (B fr : Nat) (hB : B < 2 ^ 40) (hf : fr ≤ 40) : Ct yX10_firstOf wsX10_firstOf 0 [vl (B : Int), vi (fr : Int)] S (fun v S1 => v = some (vi ((fo (fun k => B.testBit k) (40 - fr) fr : Nat) : Int)) ∧ S1 = S) := by
  refine Ct.of (nL := 4) (by decide) rfl (Nat.le_of_ble_eq_true rfl) (by decide) (fun X C Rr hnL => ?_)
  have hn : ∀ i, i < 4 → i < X.2.2.2.2.2 := fun i h => by rw [hnL]; exact h
  refine r_iload_n C dX10_firstOf_0 rfl rfl ?_
  refine r_istore_n (lv' := [(3, _), (0, _), (2, _)]) C dX10_firstOf_1 rfl (hn _ (by decide)) rfl ?_
  have loop2 : ∀ (k d : Nat) (hk : 40 - d < k) (hd : d ≤ 40) (hfo : fo (fun k => B.testBit k) (40 - d) d = fo (fun k => B.testBit k) (40 - fr) fr), At X 0 0 2 [(0, vl (B : Int)), (3, vi (d : Int))] [] S := by
    intro k
    induction k with
    | zero => intro d hk hd hfo; exact absurd hk (by omega)
    | succ k ih =>
      intro d hk hd hfo
      refine r_iload_n C dX10_firstOf_2 rfl rfl ?_
      refine r_bipush C dX10_firstOf_3 (by decide) ?_
      refine r_icmp_ge (tgt := 26) C dX10_firstOf_5 (by decide) (by omega) (by omega) (fun h5 => ?_) (fun h5 => ?_)
      · skip
        refine r_bipush C dX10_firstOf_26 (by decide) ?_
        exact r_iret C Rr (⟨by rw [← hfo, show d = 40 by omega]; rfl, rfl⟩) dX10_firstOf_28
      · skip
        refine r_lload_n C dX10_firstOf_8 rfl rfl ?_
        refine r_iload_n C dX10_firstOf_9 rfl rfl ?_
        refine r_lshr (z := ((B / 2 ^ d : Nat) : Int)) C dX10_firstOf_10 (m_lshr (by omega) (by omega)) ?_
        refine r_lconst C dX10_firstOf_11 ?_
        refine r_land (z := ((B / 2 ^ d % 2 : Nat) : Int)) C dX10_firstOf_12 (m_land1 _) ?_
        refine r_lconst C dX10_firstOf_13 ?_
        refine r_lcmp (z := (if B / 2 ^ d % 2 = 1 then 0 else -1)) C dX10_firstOf_14 (m_cmp _ (by omega)) ?_
        refine r_if_ne (tgt := 20) C dX10_firstOf_15 (by decide) (by split <;> omega) (fun h15 => ?_) (fun h15 => ?_)
        · skip
          have hb1 : ¬ B / 2 ^ d % 2 = 1 := fun q => h15 (if_pos q)
          refine r_iinc (lv' := [(3, _), (0, _)]) C dX10_firstOf_20 rfl (hn _ (by decide)) rfl ?_
          refine r_goto (tgt := 2) C dX10_firstOf_23 (by decide) ?_
          exact At_lv (by simp) (ih (d + 1) (by omega) (by omega) (by rw [← hfo, fo_step (d := d) _ (by omega), if_neg (by rw [Nat.testBit_eq_decide_div_mod_eq]; simpa using hb1)]))
        · skip
          refine r_iload_n C dX10_firstOf_18 rfl rfl ?_
          exact r_iret C Rr (⟨by rw [← hfo, fo_step (d := d) _ (by omega), if_pos (by rw [Nat.testBit_eq_decide_div_mod_eq]; exact decide_eq_true (by by_cases q : B / 2 ^ d % 2 = 1; exact q; rw [if_neg q] at h15; omega))], rfl⟩) dX10_firstOf_19
  exact At_lv (by simp) (loop2 (41 - fr) fr (by omega) hf rfl)
set_option maxHeartbeats 4000000 in
set_option maxRecDepth 100000 in
theorem c_wordsAt (S : ST) (d : Int) (hd : -2147483648 ≤ d ∧ d < 2147483648) (hW : IW S) : Ct yX7_wordsAt wsX7_wordsAt 0 [vr (some (1, 0)), vi d] S (fun v S1 => v = some (vi (if 0 ≤ d ∧ d < 40 then ai S 2 0 d.toNat else -1)) ∧ S1 = S) := by
  refine Ct.of (nL := 2) (by decide) rfl (Nat.le_of_ble_eq_true rfl) (by decide) (fun X C Rr hnL => ?_)
  have hn : ∀ i, i < 2 → i < X.2.2.2.2.2 := fun i h => by rw [hnL]; exact h
  refine r_iload_n C dX7_wordsAt_0 rfl rfl ?_
  refine r_if_lt (tgt := 22) C dX7_wordsAt_1 (by decide) (by omega) (fun h1 => ?_) (fun h1 => ?_)
  · skip
    refine r_iconst C dX7_wordsAt_22 ?_
    exact r_iret C Rr (⟨by rw [if_neg (by omega)], rfl⟩) dX7_wordsAt_23
  · skip
    refine r_iload_n C dX7_wordsAt_4 rfl rfl ?_
    refine r_aload_n C dX7_wordsAt_5 rfl rfl ?_
    refine r_getf C mid_1 (hp_1 _) rfl 0 (by decide) in_X7_wordsAt_X7 lk_X7_wordsAt_9 (Or.inl rfl) rfl dX7_wordsAt_6 ?_
    refine r_alen C mid_2 (Or.inl ⟨_, (hp_2 _)⟩) (fun _ => ⟨_, rfl⟩) dX7_wordsAt_9 ?_
    refine r_icmp_ge (tgt := 22) C dX7_wordsAt_10 (by decide) (by omega) (by omega) (fun h10 => ?_) (fun h10 => ?_)
    · skip
      refine r_iconst C dX7_wordsAt_22 ?_
      exact r_iret C Rr (⟨by rw [if_neg (by omega)], rfl⟩) dX7_wordsAt_23
    · skip
      refine r_aload_n C dX7_wordsAt_13 rfl rfl ?_
      refine r_getf C mid_1 (hp_1 _) rfl 0 (by decide) in_X7_wordsAt_X7 lk_X7_wordsAt_9 (Or.inl rfl) rfl dX7_wordsAt_14 ?_
      refine r_iload_n C dX7_wordsAt_17 rfl rfl ?_
      refine r_iald (j := d.toNat) C mid_2 (hp_2 _) rfl (by omega) (by omega) (by decide) dX7_wordsAt_18 ?_
      refine r_goto (tgt := 23) C dX7_wordsAt_19 (by decide) ?_
      exact r_iret C Rr (⟨by rw [if_pos (by omega)], rfl⟩) dX7_wordsAt_23
set_option maxHeartbeats 4000000 in
set_option maxRecDepth 100000 in
theorem c_replace (S : ST) (d : Nat) (w : Int) (hd : d < 40) (hw : -1 ≤ w ∧ w ≤ 255) (hW : IW S) : Ct yX7_replace wsX7_replace 0 [vr (some (1, 0)), vi (d : Int), vi w] S (fun v S1 => v = some (vi (b2i (thr S d))) ∧ S1 = sa S 2 0 d w) := by
  refine Ct.of (nL := 4) (by decide) rfl (Nat.le_of_ble_eq_true rfl) (by decide) (fun X C Rr hnL => ?_)
  have hn : ∀ i, i < 4 → i < X.2.2.2.2.2 := fun i h => by rw [hnL]; exact h
  have hWd := hW d hd
  refine r_iload_n C dX7_replace_0 rfl rfl ?_
  refine r_if_lt (tgt := 13) C dX7_replace_1 (by decide) (by omega) (fun h1 => ?_) (fun h1 => ?_)
  · exact absurd h1 (by omega)
  refine r_iload_n C dX7_replace_4 rfl rfl ?_
  refine r_aload_n C dX7_replace_5 rfl rfl ?_
  refine r_getf C mid_1 (hp_1 _) rfl 0 (by decide) in_X7_replace_X7 lk_X7_replace_9 (Or.inl rfl) rfl dX7_replace_6 ?_
  refine r_alen C mid_2 (Or.inl ⟨_, (hp_2 _)⟩) (fun _ => ⟨_, rfl⟩) dX7_replace_9 ?_
  refine r_icmp_lt (tgt := 15) C dX7_replace_10 (by decide) (by omega) (by omega) (fun h10 => ?_) (fun h10 => ?_)
  · skip
    refine r_aload_n C dX7_replace_15 rfl rfl ?_
    refine r_getf C mid_1 (hp_1 _) rfl 0 (by decide) in_X7_replace_X7 lk_X7_replace_9 (Or.inl rfl) rfl dX7_replace_16 ?_
    refine r_iload_n C dX7_replace_19 rfl rfl ?_
    refine r_iald (j := _) C mid_2 (hp_2 _) rfl (rfl) (by omega) (by decide) dX7_replace_20 ?_
    refine r_iconst C dX7_replace_21 ?_
    refine r_icmp_eq (tgt := 29) C dX7_replace_22 (by decide) (by omega) (by omega) (fun h22 => ?_) (fun h22 => ?_)
    · skip
      refine r_iconst C dX7_replace_29 ?_
      refine r_istore_n (lv' := [(3, _), (0, _), (1, _), (2, _)]) C dX7_replace_30 rfl (hn _ (by decide)) rfl ?_
      refine r_aload_n C dX7_replace_31 rfl rfl ?_
      refine r_getf C mid_1 (hp_1 _) rfl 0 (by decide) in_X7_replace_X7 lk_X7_replace_9 (Or.inl rfl) rfl dX7_replace_32 ?_
      refine r_iload_n C dX7_replace_35 rfl rfl ?_
      refine r_iload_n C dX7_replace_36 rfl rfl ?_
      refine r_iast (j := _) C mid_2 (hp_2 _) rfl (rfl) (by omega) (by decide) (ha_2 _ _ _) dX7_replace_37 ?_
      refine r_iload_n C dX7_replace_38 rfl rfl ?_
      exact r_zret C Rr (by decide) (⟨by rw [b2i_f (show thr S d = false from decide_eq_false (fun q => q h22))], rfl⟩) dX7_replace_39
    · skip
      refine r_iconst C dX7_replace_25 ?_
      refine r_goto (tgt := 30) C dX7_replace_26 (by decide) ?_
      refine r_istore_n (lv' := [(3, _), (0, _), (1, _), (2, _)]) C dX7_replace_30 rfl (hn _ (by decide)) rfl ?_
      refine r_aload_n C dX7_replace_31 rfl rfl ?_
      refine r_getf C mid_1 (hp_1 _) rfl 0 (by decide) in_X7_replace_X7 lk_X7_replace_9 (Or.inl rfl) rfl dX7_replace_32 ?_
      refine r_iload_n C dX7_replace_35 rfl rfl ?_
      refine r_iload_n C dX7_replace_36 rfl rfl ?_
      refine r_iast (j := _) C mid_2 (hp_2 _) rfl (rfl) (by omega) (by decide) (ha_2 _ _ _) dX7_replace_37 ?_
      refine r_iload_n C dX7_replace_38 rfl rfl ?_
      exact r_zret C Rr (by decide) (⟨by rw [b2i_t (show thr S d = true from decide_eq_true h22)], rfl⟩) dX7_replace_39
  · exact absurd h10 (by omega)
set_option maxHeartbeats 4000000 in
set_option maxRecDepth 100000 in
theorem c_allThere (S : ST) (hW : IW S) : Ct yX7_allThere wsX7_allThere 0 [vr (some (1, 0))] S (fun v S1 => v = some (vl ((bset (thr S) 40 : Nat) : Int)) ∧ S1 = S) := by
  refine Ct.of (nL := 4) (by decide) rfl (Nat.le_of_ble_eq_true rfl) (by decide) (fun X C Rr hnL => ?_)
  have hn : ∀ i, i < 4 → i < X.2.2.2.2.2 := fun i h => by rw [hnL]; exact h
  refine r_lconst C dX7_allThere_0 ?_
  refine r_lstore_n (lv' := [(1, _), (0, _)]) C dX7_allThere_1 rfl (hn _ (by decide)) rfl ?_
  refine r_iconst C dX7_allThere_2 ?_
  refine r_istore_n (lv' := [(3, _), (1, _), (0, _)]) C dX7_allThere_3 rfl (hn _ (by decide)) rfl ?_
  have loop4 : ∀ (k i : Nat) (hk : 40 - i < k) (hi : i ≤ 40), At X 0 0 4 [(0, vr (some (1, 0))), (1, vl ((bset (thr S) i : Nat) : Int)), (3, vi (i : Int))] [] S := by
    intro k
    induction k with
    | zero => intro i hk hi; exact absurd hk (by omega)
    | succ k ih =>
      intro i hk hi
      have hWi : i < 40 → -1 ≤ ai S 2 0 i ∧ ai S 2 0 i ≤ 255 := hW i
      refine r_iload_n C dX7_allThere_4 rfl rfl ?_
      refine r_aload_n C dX7_allThere_5 rfl rfl ?_
      refine r_getf C mid_1 (hp_1 _) rfl 0 (by decide) in_X7_allThere_X7 lk_X7_allThere_9 (Or.inl rfl) rfl dX7_allThere_6 ?_
      refine r_alen C mid_2 (Or.inl ⟨_, (hp_2 _)⟩) (fun _ => ⟨_, rfl⟩) dX7_allThere_9 ?_
      refine r_icmp_ge (tgt := 35) C dX7_allThere_10 (by decide) (by omega) (by omega) (fun h10 => ?_) (fun h10 => ?_)
      · skip
        refine r_lload_n C dX7_allThere_35 rfl rfl ?_
        exact r_lret C Rr (⟨by rw [show i = 40 by omega], rfl⟩) dX7_allThere_36
      · skip
        refine r_aload_n C dX7_allThere_13 rfl rfl ?_
        refine r_getf C mid_1 (hp_1 _) rfl 0 (by decide) in_X7_allThere_X7 lk_X7_allThere_9 (Or.inl rfl) rfl dX7_allThere_14 ?_
        refine r_iload_n C dX7_allThere_17 rfl rfl ?_
        refine r_iald (j := _) C mid_2 (hp_2 _) rfl (rfl) (by omega) (by decide) dX7_allThere_18 ?_
        refine r_iconst C dX7_allThere_19 ?_
        refine r_icmp_eq (tgt := 29) C dX7_allThere_20 (by decide) (by omega) (by omega) (fun h20 => ?_) (fun h20 => ?_)
        · skip
          refine r_iinc (lv' := [(3, _), (0, _), (1, _)]) C dX7_allThere_29 rfl (hn _ (by decide)) rfl ?_
          have e1 : bset (thr S) (i + 1) = bset (thr S) i := if_neg (by unfold thr; simp [h20])
          refine r_goto (tgt := 4) C dX7_allThere_32 (by decide) ?_
          exact At_lv (by simp [e1]) (ih (i + 1) (by omega) (by omega))
        · skip
          refine r_lload_n C dX7_allThere_23 rfl rfl ?_
          refine r_lconst C dX7_allThere_24 ?_
          refine r_iload_n C dX7_allThere_25 rfl rfl ?_
          refine r_lshl (z := ((2 ^ i : Nat) : Int)) C dX7_allThere_26 (m_lshl1 (by omega)) ?_
          refine r_lor (z := ((bset (thr S) i ||| 2 ^ i : Nat) : Int)) C dX7_allThere_27 (m_lor _ _) ?_
          refine r_lstore_n (lv' := [(1, _), (0, _), (3, _)]) C dX7_allThere_28 rfl (hn _ (by decide)) rfl ?_
          refine r_iinc (lv' := [(3, _), (1, _), (0, _)]) C dX7_allThere_29 rfl (hn _ (by decide)) rfl ?_
          have e1 : bset (thr S) (i + 1) = bset (thr S) i ||| 2 ^ i := if_pos (by unfold thr; simp [h20])
          refine r_goto (tgt := 4) C dX7_allThere_32 (by decide) ?_
          exact At_lv (by simp [e1]) (ih (i + 1) (by omega) (by omega))
  exact At_lv (by simp [bset]) (loop4 41 0 (by omega) (by omega))
set_option maxHeartbeats 4000000 in
set_option maxRecDepth 100000 in
theorem c_truthsOf (S : ST) (code : Nat) (hc : code < 16) (hW : IW S) : Ct yX7_truthsOf wsX7_truthsOf 1 [vr (some (1, 0)), vi (code : Int)] S (fun v S1 => v = some (vl ((bset (tru S code) 40 : Nat) : Int)) ∧ S1 = S) := by
  refine Ct.of (nL := 5) (by decide) rfl (Nat.le_of_ble_eq_true rfl) (by decide) (fun X C Rr hnL => ?_)
  have hn : ∀ i, i < 5 → i < X.2.2.2.2.2 := fun i h => by rw [hnL]; exact h
  refine r_lconst C dX7_truthsOf_0 ?_
  refine r_lstore_n (lv' := [(2, _), (0, _), (1, _)]) C dX7_truthsOf_1 rfl (hn _ (by decide)) rfl ?_
  refine r_iconst C dX7_truthsOf_2 ?_
  refine r_istore (lv' := [(4, _), (2, _), (0, _), (1, _)]) C dX7_truthsOf_3 (hn _ (by decide)) rfl ?_
  have loop5 : ∀ (k i : Nat) (hk : 40 - i < k) (hi : i ≤ 40), At X 0 0 5 [(0, vr (some (1, 0))), (1, vi (code : Int)), (2, vl ((bset (tru S code) i : Nat) : Int)), (4, vi (i : Int))] [] S := by
    intro k
    induction k with
    | zero => intro i hk hi; exact absurd hk (by omega)
    | succ k ih =>
      intro i hk hi
      have hWi : i < 40 → -1 ≤ ai S 2 0 i ∧ ai S 2 0 i ≤ 255 := hW i
      refine r_iload C dX7_truthsOf_5 rfl ?_
      refine r_aload_n C dX7_truthsOf_7 rfl rfl ?_
      refine r_getf C mid_1 (hp_1 _) rfl 0 (by decide) in_X7_truthsOf_X7 lk_X7_truthsOf_9 (Or.inl rfl) rfl dX7_truthsOf_8 ?_
      refine r_alen C mid_2 (Or.inl ⟨_, (hp_2 _)⟩) (fun _ => ⟨_, rfl⟩) dX7_truthsOf_11 ?_
      refine r_icmp_ge (tgt := 53) C dX7_truthsOf_12 (by decide) (by omega) (by omega) (fun h12 => ?_) (fun h12 => ?_)
      · skip
        refine r_lload_n C dX7_truthsOf_53 rfl rfl ?_
        exact r_lret C Rr (⟨by rw [show i = 40 by omega], rfl⟩) dX7_truthsOf_54
      · skip
        refine r_aload_n C dX7_truthsOf_15 rfl rfl ?_
        refine r_getf C mid_1 (hp_1 _) rfl 0 (by decide) in_X7_truthsOf_X7 lk_X7_truthsOf_9 (Or.inl rfl) rfl dX7_truthsOf_16 ?_
        refine r_iload C dX7_truthsOf_19 rfl ?_
        refine r_iald (j := _) C mid_2 (hp_2 _) rfl (rfl) (by omega) (by decide) dX7_truthsOf_21 ?_
        refine r_iconst C dX7_truthsOf_22 ?_
        refine r_icmp_eq (tgt := 47) C dX7_truthsOf_23 (by decide) (by omega) (by omega) (fun h23 => ?_) (fun h23 => ?_)
        · skip
          refine r_iinc (lv' := [(4, _), (0, _), (1, _), (2, _)]) C dX7_truthsOf_47 rfl (hn _ (by decide)) rfl ?_
          have e1 : bset (tru S code) (i + 1) = bset (tru S code) i := if_neg (by unfold tru thr; simp [h23])
          refine r_goto (tgt := 5) C dX7_truthsOf_50 (by decide) ?_
          exact At_lv (by simp [e1]) (ih (i + 1) (by omega) (by omega))
        · skip
          refine r_iload_n C dX7_truthsOf_26 rfl rfl ?_
          refine r_aload_n C dX7_truthsOf_27 rfl rfl ?_
          refine r_getf C mid_1 (hp_1 _) rfl 0 (by decide) in_X7_truthsOf_X7 lk_X7_truthsOf_9 (Or.inl rfl) rfl dX7_truthsOf_28 ?_
          refine r_iload C dX7_truthsOf_31 rfl ?_
          refine r_iald (j := _) C mid_2 (hp_2 _) rfl (rfl) (by omega) (by decide) dX7_truthsOf_33 ?_
          refine At_val (v' := vi ((ai S 2 0 i).toNat : Int)) (by congr 1; omega) ?_
          refine r_callSN (as := [_, _]) (na := 2) (rest := []) C (by decide +kernel) ini_X7_truthsOf_X10 st_X7_truthsOf_X10_isLiteralTrue (c_isLiteralTrue S code (ai S 2 0 i).toNat hc (by omega)) gX7_truthsOf_X10_isLiteralTrue_n21 (by decide +kernel) (by decide) (by decide) rfl (Nat.le_of_ble_eq_true rfl) rfl dX7_truthsOf_34 rfl (fun v1 S1 hp1 => ?_)
          obtain ⟨rfl, e9⟩ := hp1
          subst S1
          refine r_if_eq (tgt := 47) C dX7_truthsOf_37 (by decide) (by have := b2i_01 (litT code (ai S 2 0 i).toNat); omega) (fun h37 => ?_) (fun h37 => ?_)
          · skip
            refine r_iinc (lv' := [(4, _), (0, _), (1, _), (2, _)]) C dX7_truthsOf_47 rfl (hn _ (by decide)) rfl ?_
            have e1 : bset (tru S code) (i + 1) = bset (tru S code) i := if_neg (by unfold tru; cases q : litT code (ai S 2 0 i).toNat; simp; rw [b2i_t q] at h37; omega)
            refine r_goto (tgt := 5) C dX7_truthsOf_50 (by decide) ?_
            exact At_lv (by simp [e1]) (ih (i + 1) (by omega) (by omega))
          · skip
            refine r_lload_n C dX7_truthsOf_40 rfl rfl ?_
            refine r_lconst C dX7_truthsOf_41 ?_
            refine r_iload C dX7_truthsOf_42 rfl ?_
            refine r_lshl (z := ((2 ^ i : Nat) : Int)) C dX7_truthsOf_44 (m_lshl1 (by omega)) ?_
            refine r_lor (z := ((bset (tru S code) i ||| 2 ^ i : Nat) : Int)) C dX7_truthsOf_45 (m_lor _ _) ?_
            refine r_lstore_n (lv' := [(2, _), (0, _), (1, _), (4, _)]) C dX7_truthsOf_46 rfl (hn _ (by decide)) rfl ?_
            refine r_iinc (lv' := [(4, _), (2, _), (0, _), (1, _)]) C dX7_truthsOf_47 rfl (hn _ (by decide)) rfl ?_
            have e1 : bset (tru S code) (i + 1) = bset (tru S code) i ||| 2 ^ i := if_pos (by unfold tru thr; cases q : litT code (ai S 2 0 i).toNat; exact absurd (b2i_f q) h37; simp [h23])
            refine r_goto (tgt := 5) C dX7_truthsOf_50 (by decide) ?_
            exact At_lv (by simp [e1]) (ih (i + 1) (by omega) (by omega))
  exact At_lv (by simp [bset]) (loop5 41 0 (by omega) (by omega))
