theorem in_X9_restart_X9 : ∀ w ∈ wsX90, w ∈ wsX9_restart := by decide +kernel
theorem lk_X9_restart_15 : Cond.fieldLink RX9 15 "PostingPlanner$ToldClause" "kind" "I" ∈ wsX9_restart := by decide +kernel
theorem lk_X9_restart_19 : Cond.fieldLink RX9 19 "PostingPlanner$ToldClause" "need" "I" ∈ wsX9_restart := by decide +kernel
theorem lk_X9_restart_22 : Cond.fieldLink RX9 22 "PostingPlanner$ToldClause" "isNegated" "Z" ∈ wsX9_restart := by decide +kernel
theorem lk_X9_restart_26 : Cond.fieldLink RX9 26 "PostingPlanner$ToldClause" "size" "I" ∈ wsX9_restart := by decide +kernel
theorem in_X9_append_X9 : ∀ w ∈ wsX90, w ∈ wsX9_append := by decide +kernel
theorem lk_X9_append_26 : Cond.fieldLink RX9 26 "PostingPlanner$ToldClause" "size" "I" ∈ wsX9_append := by decide +kernel
theorem lk_X9_append_9 : Cond.fieldLink RX9 9 "PostingPlanner$ToldClause" "codes" "[I" ∈ wsX9_append := by decide +kernel
theorem in_X9_isTrueOf_X9 : ∀ w ∈ wsX90, w ∈ wsX9_isTrueOf := by decide +kernel
theorem lk_X9_isTrueOf_26 : Cond.fieldLink RX9 26 "PostingPlanner$ToldClause" "size" "I" ∈ wsX9_isTrueOf := by decide +kernel
theorem lk_X9_isTrueOf_15 : Cond.fieldLink RX9 15 "PostingPlanner$ToldClause" "kind" "I" ∈ wsX9_isTrueOf := by decide +kernel
theorem lk_X9_isTrueOf_19 : Cond.fieldLink RX9 19 "PostingPlanner$ToldClause" "need" "I" ∈ wsX9_isTrueOf := by decide +kernel
theorem ini_X9_isTrueOf_X10 : Cond.initialized RX10 ∈ wsX9_isTrueOf := by decide +kernel
theorem st_X9_isTrueOf_X10_isEnough : Cond.static yX10_isEnough ∈ wsX9_isTrueOf := by decide +kernel
theorem lk_X9_isTrueOf_22 : Cond.fieldLink RX9 22 "PostingPlanner$ToldClause" "isNegated" "Z" ∈ wsX9_isTrueOf := by decide +kernel
theorem lk_X9_isTrueOf_9 : Cond.fieldLink RX9 9 "PostingPlanner$ToldClause" "codes" "[I" ∈ wsX9_isTrueOf := by decide +kernel
theorem st_X9_isTrueOf_X10_isLiteralTrue : Cond.static yX10_isLiteralTrue ∈ wsX9_isTrueOf := by decide +kernel
theorem in_X5_restart_X5 : ∀ w ∈ wsX50, w ∈ wsX5_restart := by decide +kernel
theorem lk_X5_restart_22 : Cond.fieldLink RX5 22 "PostingPlanner$Question" "size" "I" ∈ wsX5_restart := by decide +kernel
theorem lk_X5_restart_18 : Cond.fieldLink RX5 18 "PostingPlanner$Question" "kind" "I" ∈ wsX5_restart := by decide +kernel
theorem lk_X5_restart_25 : Cond.fieldLink RX5 25 "PostingPlanner$Question" "need" "I" ∈ wsX5_restart := by decide +kernel
theorem in_X5_append_X5 : ∀ w ∈ wsX50, w ∈ wsX5_append := by decide +kernel
theorem lk_X5_append_22 : Cond.fieldLink RX5 22 "PostingPlanner$Question" "size" "I" ∈ wsX5_append := by decide +kernel
theorem lk_X5_append_11 : Cond.fieldLink RX5 11 "PostingPlanner$Question" "clauses" "[LPostingPlanner$ToldClause;" ∈ wsX5_append := by decide +kernel
theorem in_X5_toldAt_X5 : ∀ w ∈ wsX50, w ∈ wsX5_toldAt := by decide +kernel
theorem lk_X5_toldAt_22 : Cond.fieldLink RX5 22 "PostingPlanner$Question" "size" "I" ∈ wsX5_toldAt := by decide +kernel
theorem lk_X5_toldAt_11 : Cond.fieldLink RX5 11 "PostingPlanner$Question" "clauses" "[LPostingPlanner$ToldClause;" ∈ wsX5_toldAt := by decide +kernel
theorem in_X5_isTrueOf_X5 : ∀ w ∈ wsX50, w ∈ wsX5_isTrueOf := by decide +kernel
theorem lk_X5_isTrueOf_22 : Cond.fieldLink RX5 22 "PostingPlanner$Question" "size" "I" ∈ wsX5_isTrueOf := by decide +kernel
theorem lk_X5_isTrueOf_18 : Cond.fieldLink RX5 18 "PostingPlanner$Question" "kind" "I" ∈ wsX5_isTrueOf := by decide +kernel
theorem lk_X5_isTrueOf_25 : Cond.fieldLink RX5 25 "PostingPlanner$Question" "need" "I" ∈ wsX5_isTrueOf := by decide +kernel
theorem ini_X5_isTrueOf_X10 : Cond.initialized RX10 ∈ wsX5_isTrueOf := by decide +kernel
theorem st_X5_isTrueOf_X10_isEnough : Cond.static yX10_isEnough ∈ wsX5_isTrueOf := by decide +kernel
set_option maxHeartbeats 4000000 in
set_option maxRecDepth 100000 in
theorem c_Trestart (S : ST) (x : Nat) (kd nd b : Int) (hx : x < 5) (hb : b = 0 ∨ b = 1) : Ct yX9_restart wsX9_restart 0 [vr (some (5, x)), vi kd, vi nd, vi b] S (fun v S1 => v = none ∧ S1 = si (si (si (si S 5 1 x kd) 5 2 x nd) 5 3 x b) 5 4 x 0) := by
  refine Ct.of (nL := 4) (by decide) rfl (Nat.le_of_ble_eq_true rfl) (by decide) (fun X C Rr hnL => ?_)
  have hn : ∀ i, i < 4 → i < X.2.2.2.2.2 := fun i h => by rw [hnL]; exact h
  refine r_aload_n C dX9_restart_0 rfl rfl ?_
  refine r_iload_n C dX9_restart_1 rfl rfl ?_
  refine r_putf  C (mid_5 (by omega)) (hp_5 _ _) rfl 1 (by decide) in_X9_restart_X9 lk_X9_restart_15 (Or.inl rfl) tyX9 tyX9_ok nmX9 rfl (tyX9_ok 1 (by decide)) (fun _ => rfl) (fun _ => rfl) (Nat.le_of_ble_eq_true rfl) (hs_5_1 _ _ _) dX9_restart_2 ?_
  refine r_aload_n C dX9_restart_5 rfl rfl ?_
  refine r_iload_n C dX9_restart_6 rfl rfl ?_
  refine r_putf  C (mid_5 (by omega)) (hp_5 _ _) rfl 2 (by decide) in_X9_restart_X9 lk_X9_restart_19 (Or.inl rfl) tyX9 tyX9_ok nmX9 rfl (tyX9_ok 2 (by decide)) (fun _ => rfl) (fun _ => rfl) (Nat.le_of_ble_eq_true rfl) (hs_5_2 _ _ _) dX9_restart_7 ?_
  refine r_aload_n C dX9_restart_10 rfl rfl ?_
  refine r_iload_n C dX9_restart_11 rfl rfl ?_
  refine r_putf  C (mid_5 (by omega)) (hp_5 _ _) rfl 3 (by decide) in_X9_restart_X9 lk_X9_restart_22 (Or.inl rfl) tyX9 tyX9_ok nmX9 rfl (tyX9_ok 3 (by decide)) (fun _ => by rcases hb with rfl | rfl <;> rfl) (fun _ => by rcases hb with rfl | rfl <;> rfl) (Nat.le_of_ble_eq_true rfl) (hs_5_3 _ _ _) dX9_restart_12 ?_
  refine r_aload_n C dX9_restart_15 rfl rfl ?_
  refine r_iconst C dX9_restart_16 ?_
  refine r_putf  C (mid_5 (by omega)) (hp_5 _ _) rfl 4 (by decide) in_X9_restart_X9 lk_X9_restart_26 (Or.inl rfl) tyX9 tyX9_ok nmX9 rfl (tyX9_ok 4 (by decide)) (fun _ => rfl) (fun _ => rfl) (Nat.le_of_ble_eq_true rfl) (hs_5_4 _ _ _) dX9_restart_17 ?_
  exact r_vret C Rr (⟨rfl, rfl⟩) dX9_restart_20
set_option maxHeartbeats 4000000 in
set_option maxRecDepth 100000 in
theorem c_Tappend (S : ST) (x : Nat) (c : Int) (hx : x < 5) (hz : 0 ≤ iv S 5 4 x ∧ iv S 5 4 x ≤ 6) : Ct yX9_append wsX9_append 0 [vr (some (5, x)), vi c] S (fun v S1 => v = some (vi (b2i (decide (iv S 5 4 x < 6)))) ∧ S1 = if iv S 5 4 x < 6 then si (sa S 6 x (iv S 5 4 x).toNat c) 5 4 x (iv S 5 4 x + 1) else S) := by
  refine Ct.of (nL := 2) (by decide) rfl (Nat.le_of_ble_eq_true rfl) (by decide) (fun X C Rr hnL => ?_)
  have hn : ∀ i, i < 2 → i < X.2.2.2.2.2 := fun i h => by rw [hnL]; exact h
  refine r_aload_n C dX9_append_0 rfl rfl ?_
  refine r_getf C (mid_5 (by omega)) (hp_5 _ _) rfl 4 (by decide) in_X9_append_X9 lk_X9_append_26 (Or.inl rfl) rfl dX9_append_1 ?_
  refine r_if_lt (tgt := 19) C dX9_append_4 (by decide) (by omega) (fun h4 => ?_) (fun h4 => ?_)
  · exact absurd h4 (by omega)
  refine r_aload_n C dX9_append_7 rfl rfl ?_
  refine r_getf C (mid_5 (by omega)) (hp_5 _ _) rfl 4 (by decide) in_X9_append_X9 lk_X9_append_26 (Or.inl rfl) rfl dX9_append_8 ?_
  refine r_aload_n C dX9_append_11 rfl rfl ?_
  refine r_getf C (mid_5 (by omega)) (hp_5 _ _) rfl 0 (by decide) in_X9_append_X9 lk_X9_append_9 (Or.inl rfl) rfl dX9_append_12 ?_
  refine r_alen C (mid_6 (by omega)) (Or.inl ⟨_, (hp_6 _ _)⟩) (fun _ => ⟨_, rfl⟩) dX9_append_15 ?_
  refine r_icmp_lt (tgt := 21) C dX9_append_16 (by decide) (by omega) (by omega) (fun h16 => ?_) (fun h16 => ?_)
  · skip
    refine r_aload_n C dX9_append_21 rfl rfl ?_
    refine r_getf C (mid_5 (by omega)) (hp_5 _ _) rfl 0 (by decide) in_X9_append_X9 lk_X9_append_9 (Or.inl rfl) rfl dX9_append_22 ?_
    refine r_aload_n C dX9_append_25 rfl rfl ?_
    refine r_getf C (mid_5 (by omega)) (hp_5 _ _) rfl 4 (by decide) in_X9_append_X9 lk_X9_append_26 (Or.inl rfl) rfl dX9_append_26 ?_
    refine r_iload_n C dX9_append_29 rfl rfl ?_
    refine r_iast (j := (iv S 5 4 x).toNat) C (mid_6 (by omega)) (hp_6 _ _) rfl (by omega) (by omega) (by decide) (ha_6 _ _ _ _) dX9_append_30 ?_
    refine r_aload_n C dX9_append_31 rfl rfl ?_
    refine r_dup C rfl dX9_append_32 ?_
    refine r_getf C (mid_5 (by omega)) (hp_5 _ _) rfl 4 (by decide) in_X9_append_X9 lk_X9_append_26 (Or.inl rfl) rfl dX9_append_33 ?_
    refine At_val (v' := vi (iv S 5 4 x)) (rfl) ?_
    refine r_iconst C dX9_append_36 ?_
    refine r_iadd C dX9_append_37 ?_
    refine r_putf  C (mid_5 (by omega)) (hp_5 _ _) rfl 4 (by decide) in_X9_append_X9 lk_X9_append_26 (Or.inl rfl) tyX9 tyX9_ok nmX9 rfl (tyX9_ok 4 (by decide)) (fun _ => rfl) (fun _ => rfl) (Nat.le_of_ble_eq_true rfl) (hs_5_4 _ _ _) dX9_append_38 ?_
    refine r_iconst C dX9_append_41 ?_
    exact r_zret C Rr (by decide) (⟨by rw [b2i_t (decide_eq_true (by omega))], by rw [if_pos (by omega)]⟩) dX9_append_42
  · skip
    refine r_iconst C dX9_append_19 ?_
    exact r_zret C Rr (by decide) (⟨by rw [b2i_f (decide_eq_false (by omega))], by rw [if_neg (by omega)]⟩) dX9_append_20
set_option maxHeartbeats 4000000 in
set_option maxRecDepth 100000 in
theorem c_TisTrueOf (S : ST) (x w : Nat) (hx : x < 5) (hw : w < 256) (hQ : IQ S) : Ct yX9_isTrueOf wsX9_isTrueOf 1 [vr (some (5, x)), vi (w : Int)] S (fun v S1 => v = some (vi (b2i (ctT S x w))) ∧ S1 = S) := by
  refine Ct.of (nL := 4) (by decide) rfl (Nat.le_of_ble_eq_true rfl) (by decide) (fun X C Rr hnL => ?_)
  have hn : ∀ i, i < 4 → i < X.2.2.2.2.2 := fun i h => by rw [hnL]; exact h
  obtain ⟨hk, hd, hb, hz, hcs⟩ := hQ.2.2.2 x hx
  refine r_iconst C dX9_isTrueOf_0 ?_
  refine r_istore_n (lv' := [(2, _), (0, _), (1, _)]) C dX9_isTrueOf_1 rfl (hn _ (by decide)) rfl ?_
  refine r_iconst C dX9_isTrueOf_2 ?_
  refine r_istore_n (lv' := [(3, _), (2, _), (0, _), (1, _)]) C dX9_isTrueOf_3 rfl (hn _ (by decide)) rfl ?_
  have loop4 : ∀ (k i : Nat) (hk2 : 7 - i < k) (hi : (i : Int) ≤ iv S 5 4 x), At X 0 0 4 [(0, vr (some (5, x))), (1, vi (w : Int)), (2, vi ((cnt (fun j => litT (ai S 6 x j).toNat w) 0 i : Nat) : Int)), (3, vi (i : Int))] [] S := by
    intro k
    induction k with
    | zero => intro i hk2 hi; exact absurd hk2 (by omega)
    | succ k ih =>
      intro i hk2 hi
      have hci : i < 6 → 0 ≤ ai S 6 x i ∧ ai S 6 x i < 16 := hcs i
      refine r_iload_n C dX9_isTrueOf_4 rfl rfl ?_
      refine r_aload_n C dX9_isTrueOf_5 rfl rfl ?_
      refine r_getf C (mid_5 (by omega)) (hp_5 _ _) rfl 4 (by decide) in_X9_isTrueOf_X9 lk_X9_isTrueOf_26 (Or.inl rfl) rfl dX9_isTrueOf_6 ?_
      refine r_icmp_ge (tgt := 43) C dX9_isTrueOf_9 (by decide) (by omega) (by omega) (fun h9 => ?_) (fun h9 => ?_)
      · skip
        have hi2 : (i : Int) = iv S 5 4 x := by omega
        have hi3 : i = (iv S 5 4 x).toNat := by omega
        have hle := cnt_le (fun j => litT (ai S 6 x j).toNat w) 0 i
        refine r_iload_n C dX9_isTrueOf_43 rfl rfl ?_
        refine r_aload_n C dX9_isTrueOf_44 rfl rfl ?_
        refine r_getf C (mid_5 (by omega)) (hp_5 _ _) rfl 4 (by decide) in_X9_isTrueOf_X9 lk_X9_isTrueOf_26 (Or.inl rfl) rfl dX9_isTrueOf_45 ?_
        refine r_aload_n C dX9_isTrueOf_48 rfl rfl ?_
        refine r_getf C (mid_5 (by omega)) (hp_5 _ _) rfl 1 (by decide) in_X9_isTrueOf_X9 lk_X9_isTrueOf_15 (Or.inl rfl) rfl dX9_isTrueOf_49 ?_
        refine r_aload_n C dX9_isTrueOf_52 rfl rfl ?_
        refine r_getf C (mid_5 (by omega)) (hp_5 _ _) rfl 2 (by decide) in_X9_isTrueOf_X9 lk_X9_isTrueOf_19 (Or.inl rfl) rfl dX9_isTrueOf_53 ?_
        refine r_callSN (as := [_, _, _, _]) (na := 4) (rest := []) C (by decide +kernel) ini_X9_isTrueOf_X10 st_X9_isTrueOf_X10_isEnough (c_isEnough S _ _ _ _ hk (by omega) (by omega) (by omega)) gX9_isTrueOf_X10_isEnough_n33 (by decide +kernel) (by decide) (by decide) rfl (Nat.le_of_ble_eq_true rfl) rfl dX9_isTrueOf_56 rfl (fun v1 S1 hp1 => ?_)
        obtain ⟨rfl, e9⟩ := hp1
        subst S1
        refine r_aload_n C dX9_isTrueOf_59 rfl rfl ?_
        refine r_getf C (mid_5 (by omega)) (hp_5 _ _) rfl 3 (by decide) in_X9_isTrueOf_X9 lk_X9_isTrueOf_22 (Or.inl rfl) rfl dX9_isTrueOf_60 ?_
        refine r_icmp_eq (tgt := 70) C dX9_isTrueOf_63 (by decide) (by have := b2i_01 (enough ((cnt (fun j => litT (ai S 6 x j).toNat w) 0 i : Nat) : Int) (iv S 5 4 x) (iv S 5 1 x) (iv S 5 2 x)); omega) (by omega) (fun h63 => ?_) (fun h63 => ?_)
        · skip
          refine r_iconst C dX9_isTrueOf_70 ?_
          exact r_zret C Rr (by decide) (⟨by rw [b2i_f (show ctT S x w = false by unfold ctT; rw [← hi3]; cases q : enough ((cnt (fun j => litT (ai S 6 x j).toNat w) 0 i : Nat) : Int) (iv S 5 4 x) (iv S 5 1 x) (iv S 5 2 x) <;> simp only [q, b2i, if_true, if_false, Bool.false_eq_true] at h63 <;> simp <;> omega)], rfl⟩) dX9_isTrueOf_71
        · skip
          refine r_iconst C dX9_isTrueOf_66 ?_
          refine r_goto (tgt := 71) C dX9_isTrueOf_67 (by decide) ?_
          exact r_zret C Rr (by decide) (⟨by rw [b2i_t (show ctT S x w = true by unfold ctT; rw [← hi3]; cases q : enough ((cnt (fun j => litT (ai S 6 x j).toNat w) 0 i : Nat) : Int) (iv S 5 4 x) (iv S 5 1 x) (iv S 5 2 x) <;> simp only [q, b2i, if_true, if_false, Bool.false_eq_true] at h63 <;> simp <;> omega)], rfl⟩) dX9_isTrueOf_71
      · skip
        refine r_iload_n C dX9_isTrueOf_12 rfl rfl ?_
        refine r_aload_n C dX9_isTrueOf_13 rfl rfl ?_
        refine r_getf C (mid_5 (by omega)) (hp_5 _ _) rfl 0 (by decide) in_X9_isTrueOf_X9 lk_X9_isTrueOf_9 (Or.inl rfl) rfl dX9_isTrueOf_14 ?_
        refine r_alen C (mid_6 (by omega)) (Or.inl ⟨_, (hp_6 _ _)⟩) (fun _ => ⟨_, rfl⟩) dX9_isTrueOf_17 ?_
        refine r_icmp_ge (tgt := 43) C dX9_isTrueOf_18 (by decide) (by omega) (by omega) (fun h18 => ?_) (fun h18 => ?_)
        · skip
          have hi2 : (i : Int) = iv S 5 4 x := by omega
          have hi3 : i = (iv S 5 4 x).toNat := by omega
          have hle := cnt_le (fun j => litT (ai S 6 x j).toNat w) 0 i
          refine r_iload_n C dX9_isTrueOf_43 rfl rfl ?_
          refine r_aload_n C dX9_isTrueOf_44 rfl rfl ?_
          refine r_getf C (mid_5 (by omega)) (hp_5 _ _) rfl 4 (by decide) in_X9_isTrueOf_X9 lk_X9_isTrueOf_26 (Or.inl rfl) rfl dX9_isTrueOf_45 ?_
          refine r_aload_n C dX9_isTrueOf_48 rfl rfl ?_
          refine r_getf C (mid_5 (by omega)) (hp_5 _ _) rfl 1 (by decide) in_X9_isTrueOf_X9 lk_X9_isTrueOf_15 (Or.inl rfl) rfl dX9_isTrueOf_49 ?_
          refine r_aload_n C dX9_isTrueOf_52 rfl rfl ?_
          refine r_getf C (mid_5 (by omega)) (hp_5 _ _) rfl 2 (by decide) in_X9_isTrueOf_X9 lk_X9_isTrueOf_19 (Or.inl rfl) rfl dX9_isTrueOf_53 ?_
          refine r_callSN (as := [_, _, _, _]) (na := 4) (rest := []) C (by decide +kernel) ini_X9_isTrueOf_X10 st_X9_isTrueOf_X10_isEnough (c_isEnough S _ _ _ _ hk (by omega) (by omega) (by omega)) gX9_isTrueOf_X10_isEnough_n33 (by decide +kernel) (by decide) (by decide) rfl (Nat.le_of_ble_eq_true rfl) rfl dX9_isTrueOf_56 rfl (fun v1 S1 hp1 => ?_)
          obtain ⟨rfl, e9⟩ := hp1
          subst S1
          refine r_aload_n C dX9_isTrueOf_59 rfl rfl ?_
          refine r_getf C (mid_5 (by omega)) (hp_5 _ _) rfl 3 (by decide) in_X9_isTrueOf_X9 lk_X9_isTrueOf_22 (Or.inl rfl) rfl dX9_isTrueOf_60 ?_
          refine r_icmp_eq (tgt := 70) C dX9_isTrueOf_63 (by decide) (by have := b2i_01 (enough ((cnt (fun j => litT (ai S 6 x j).toNat w) 0 i : Nat) : Int) (iv S 5 4 x) (iv S 5 1 x) (iv S 5 2 x)); omega) (by omega) (fun h63 => ?_) (fun h63 => ?_)
          · skip
            refine r_iconst C dX9_isTrueOf_70 ?_
            exact r_zret C Rr (by decide) (⟨by rw [b2i_f (show ctT S x w = false by unfold ctT; rw [← hi3]; cases q : enough ((cnt (fun j => litT (ai S 6 x j).toNat w) 0 i : Nat) : Int) (iv S 5 4 x) (iv S 5 1 x) (iv S 5 2 x) <;> simp only [q, b2i, if_true, if_false, Bool.false_eq_true] at h63 <;> simp <;> omega)], rfl⟩) dX9_isTrueOf_71
          · skip
            refine r_iconst C dX9_isTrueOf_66 ?_
            refine r_goto (tgt := 71) C dX9_isTrueOf_67 (by decide) ?_
            exact r_zret C Rr (by decide) (⟨by rw [b2i_t (show ctT S x w = true by unfold ctT; rw [← hi3]; cases q : enough ((cnt (fun j => litT (ai S 6 x j).toNat w) 0 i : Nat) : Int) (iv S 5 4 x) (iv S 5 1 x) (iv S 5 2 x) <;> simp only [q, b2i, if_true, if_false, Bool.false_eq_true] at h63 <;> simp <;> omega)], rfl⟩) dX9_isTrueOf_71
        · skip
          refine r_aload_n C dX9_isTrueOf_21 rfl rfl ?_
          refine r_getf C (mid_5 (by omega)) (hp_5 _ _) rfl 0 (by decide) in_X9_isTrueOf_X9 lk_X9_isTrueOf_9 (Or.inl rfl) rfl dX9_isTrueOf_22 ?_
          refine r_iload_n C dX9_isTrueOf_25 rfl rfl ?_
          refine r_iald (j := _) C (mid_6 (by omega)) (hp_6 _ _) rfl (rfl) (by omega) (by decide) dX9_isTrueOf_26 ?_
          refine At_val (v' := vi ((ai S 6 x i).toNat : Int)) (by congr 1; omega) ?_
          refine r_iload_n C dX9_isTrueOf_27 rfl rfl ?_
          refine r_callSN (as := [_, _]) (na := 2) (rest := []) C (by decide +kernel) ini_X9_isTrueOf_X10 st_X9_isTrueOf_X10_isLiteralTrue (c_isLiteralTrue S (ai S 6 x i).toNat w (by omega) hw) gX9_isTrueOf_X10_isLiteralTrue_n29 (by decide +kernel) (by decide) (by decide) rfl (Nat.le_of_ble_eq_true rfl) rfl dX9_isTrueOf_28 rfl (fun v1 S1 hp1 => ?_)
          obtain ⟨rfl, e9⟩ := hp1
          subst S1
          refine r_if_eq (tgt := 37) C dX9_isTrueOf_31 (by decide) (by have := b2i_01 (litT (ai S 6 x i).toNat w); omega) (fun h31 => ?_) (fun h31 => ?_)
          · skip
            refine r_iinc (lv' := [(3, _), (0, _), (1, _), (2, _)]) C dX9_isTrueOf_37 rfl (hn _ (by decide)) rfl ?_
            have e1 : cnt (fun j => litT (ai S 6 x j).toNat w) 0 (i + 1) = cnt (fun j => litT (ai S 6 x j).toNat w) 0 i := cnt0_no (p := fun j => litT (ai S 6 x j).toNat w) (b2i_0 h31)
            refine r_goto (tgt := 4) C dX9_isTrueOf_40 (by decide) ?_
            exact At_lv (by simp [e1]) (ih (i + 1) (by omega) (by omega))
          · skip
            refine r_iinc (lv' := [(2, _), (0, _), (1, _), (3, _)]) C dX9_isTrueOf_34 rfl (hn _ (by decide)) rfl ?_
            refine r_iinc (lv' := [(3, _), (2, _), (0, _), (1, _)]) C dX9_isTrueOf_37 rfl (hn _ (by decide)) rfl ?_
            have e1 : cnt (fun j => litT (ai S 6 x j).toNat w) 0 (i + 1) = cnt (fun j => litT (ai S 6 x j).toNat w) 0 i + 1 := cnt0_yes (p := fun j => litT (ai S 6 x j).toNat w) (b2i_1 h31)
            refine r_goto (tgt := 4) C dX9_isTrueOf_40 (by decide) ?_
            exact At_lv (by simp [e1]) (ih (i + 1) (by omega) (by omega))
  exact At_lv (by simp [cnt]) (loop4 8 0 (by omega) (by omega))
set_option maxHeartbeats 4000000 in
set_option maxRecDepth 100000 in
theorem c_Qrestart (S : ST) (kd nd : Int) : Ct yX5_restart wsX5_restart 0 [vr (some (3, 0)), vi kd, vi nd] S (fun v S1 => v = some (vi (iv S 3 3 0)) ∧ S1 = si (si (si S 3 1 0 kd) 3 2 0 nd) 3 3 0 0) := by
  refine Ct.of (nL := 4) (by decide) rfl (Nat.le_of_ble_eq_true rfl) (by decide) (fun X C Rr hnL => ?_)
  have hn : ∀ i, i < 4 → i < X.2.2.2.2.2 := fun i h => by rw [hnL]; exact h
  refine r_aload_n C dX5_restart_0 rfl rfl ?_
  refine r_getf C mid_3 (hp_3 _) rfl 3 (by decide) in_X5_restart_X5 lk_X5_restart_22 (Or.inl rfl) rfl dX5_restart_1 ?_
  refine r_istore_n (lv' := [(3, _), (0, _), (1, _), (2, _)]) C dX5_restart_4 rfl (hn _ (by decide)) rfl ?_
  refine r_aload_n C dX5_restart_5 rfl rfl ?_
  refine r_iload_n C dX5_restart_6 rfl rfl ?_
  refine r_putf  C mid_3 (hp_3 _) rfl 1 (by decide) in_X5_restart_X5 lk_X5_restart_18 (Or.inl rfl) tyX5 tyX5_ok nmX5 rfl (tyX5_ok 1 (by decide)) (fun _ => rfl) (fun _ => rfl) (Nat.le_of_ble_eq_true rfl) (hs_3_1 _ _) dX5_restart_7 ?_
  refine r_aload_n C dX5_restart_10 rfl rfl ?_
  refine r_iload_n C dX5_restart_11 rfl rfl ?_
  refine r_putf  C mid_3 (hp_3 _) rfl 2 (by decide) in_X5_restart_X5 lk_X5_restart_25 (Or.inl rfl) tyX5 tyX5_ok nmX5 rfl (tyX5_ok 2 (by decide)) (fun _ => rfl) (fun _ => rfl) (Nat.le_of_ble_eq_true rfl) (hs_3_2 _ _) dX5_restart_12 ?_
  refine r_aload_n C dX5_restart_15 rfl rfl ?_
  refine r_iconst C dX5_restart_16 ?_
  refine r_putf  C mid_3 (hp_3 _) rfl 3 (by decide) in_X5_restart_X5 lk_X5_restart_22 (Or.inl rfl) tyX5 tyX5_ok nmX5 rfl (tyX5_ok 3 (by decide)) (fun _ => rfl) (fun _ => rfl) (Nat.le_of_ble_eq_true rfl) (hs_3_3 _ _) dX5_restart_17 ?_
  refine r_iload_n C dX5_restart_20 rfl rfl ?_
  exact r_iret C Rr (⟨rfl, rfl⟩) dX5_restart_21
set_option maxHeartbeats 4000000 in
set_option maxRecDepth 100000 in
theorem c_Qappend (S : ST) (kd nd b : Int) (hb : b = 0 ∨ b = 1) (hz : 0 ≤ iv S 3 3 0 ∧ iv S 3 3 0 ≤ 5) : Ct yX5_append wsX5_append 1 [vr (some (3, 0)), vi kd, vi nd, vi b] S (fun v S1 => v = some (vi (if iv S 3 3 0 < 5 then iv S 3 3 0 else -1)) ∧ S1 = if iv S 3 3 0 < 5 then si (si (si (si (si S 5 1 (iv S 3 3 0).toNat kd) 5 2 (iv S 3 3 0).toNat nd) 5 3 (iv S 3 3 0).toNat b) 5 4 (iv S 3 3 0).toNat 0) 3 3 0 (iv S 3 3 0 + 1) else S) := by
  refine Ct.of (nL := 4) (by decide) rfl (Nat.le_of_ble_eq_true rfl) (by decide) (fun X C Rr hnL => ?_)
  have hn : ∀ i, i < 4 → i < X.2.2.2.2.2 := fun i h => by rw [hnL]; exact h
  refine r_aload_n C dX5_append_0 rfl rfl ?_
  refine r_getf C mid_3 (hp_3 _) rfl 3 (by decide) in_X5_append_X5 lk_X5_append_22 (Or.inl rfl) rfl dX5_append_1 ?_
  refine r_if_lt (tgt := 31) C dX5_append_4 (by decide) (by omega) (fun h4 => ?_) (fun h4 => ?_)
  · exact absurd h4 (by omega)
  refine r_aload_n C dX5_append_7 rfl rfl ?_
  refine r_getf C mid_3 (hp_3 _) rfl 3 (by decide) in_X5_append_X5 lk_X5_append_22 (Or.inl rfl) rfl dX5_append_8 ?_
  refine r_aload_n C dX5_append_11 rfl rfl ?_
  refine r_getf C mid_3 (hp_3 _) rfl 0 (by decide) in_X5_append_X5 lk_X5_append_11 (Or.inl rfl) rfl dX5_append_12 ?_
  refine r_alen C mid_4 (Or.inr ⟨_, (hp_4 _)⟩) (fun _ => ⟨_, rfl⟩) dX5_append_15 ?_
  refine r_icmp_ge (tgt := 31) C dX5_append_16 (by decide) (by omega) (by omega) (fun h16 => ?_) (fun h16 => ?_)
  · skip
    refine r_iconst C dX5_append_31 ?_
    exact r_iret C Rr (⟨by rw [if_neg (by omega)], by rw [if_neg (by omega)]⟩) dX5_append_32
  · skip
    refine r_aload_n C dX5_append_19 rfl rfl ?_
    refine r_getf C mid_3 (hp_3 _) rfl 0 (by decide) in_X5_append_X5 lk_X5_append_11 (Or.inl rfl) rfl dX5_append_20 ?_
    refine r_aload_n C dX5_append_23 rfl rfl ?_
    refine r_getf C mid_3 (hp_3 _) rfl 3 (by decide) in_X5_append_X5 lk_X5_append_22 (Or.inl rfl) rfl dX5_append_24 ?_
    refine r_aald (j := (iv S 3 3 0).toNat) C mid_4 (hp_4 _) (fun _ => rfl) (by omega) (by omega) (by decide) dX5_append_27 ?_
    refine r_ifnonnull (tgt := 33) C dX5_append_28 (by decide) (fun i28 h28 => ?_) (fun h => by cases h)
    clear h28
    refine r_aload_n C dX5_append_33 rfl rfl ?_
    refine r_getf C mid_3 (hp_3 _) rfl 0 (by decide) in_X5_append_X5 lk_X5_append_11 (Or.inl rfl) rfl dX5_append_34 ?_
    refine r_aload_n C dX5_append_37 rfl rfl ?_
    refine r_getf C mid_3 (hp_3 _) rfl 3 (by decide) in_X5_append_X5 lk_X5_append_22 (Or.inl rfl) rfl dX5_append_38 ?_
    refine r_aald (j := (iv S 3 3 0).toNat) C mid_4 (hp_4 _) (fun _ => rfl) (by omega) (by omega) (by decide) dX5_append_41 ?_
    refine r_iload_n C dX5_append_42 rfl rfl ?_
    refine r_iload_n C dX5_append_43 rfl rfl ?_
    refine r_iload_n C dX5_append_44 rfl rfl ?_
    refine r_callV (as := [_, _, _]) (na := 3) (rest := []) C (mid_5 (by omega)) (hp_5 _ _) rfl (c_Trestart S (iv S 3 3 0).toNat kd nd b (by omega) hb) gX5_append_X9_restart (by decide +kernel) (by decide) (by decide) rfl (Nat.le_of_ble_eq_true rfl) rfl dX5_append_45 rfl (fun v1 S1 hp1 => ?_)
    obtain ⟨rfl, e9⟩ := hp1
    subst S1
    refine r_aload_n C dX5_append_48 rfl rfl ?_
    refine r_dup C rfl dX5_append_49 ?_
    refine r_getf C mid_3 (hp_3 _) rfl 3 (by decide) in_X5_append_X5 lk_X5_append_22 (Or.inl rfl) rfl dX5_append_50 ?_
    refine At_val (v' := vi (iv S 3 3 0)) (rfl) ?_
    refine r_iconst C dX5_append_53 ?_
    refine r_iadd C dX5_append_54 ?_
    refine r_putf  C mid_3 (hp_3 _) rfl 3 (by decide) in_X5_append_X5 lk_X5_append_22 (Or.inl rfl) tyX5 tyX5_ok nmX5 rfl (tyX5_ok 3 (by decide)) (fun _ => rfl) (fun _ => rfl) (Nat.le_of_ble_eq_true rfl) (hs_3_3 _ _) dX5_append_55 ?_
    refine r_aload_n C dX5_append_58 rfl rfl ?_
    refine r_getf C mid_3 (hp_3 _) rfl 3 (by decide) in_X5_append_X5 lk_X5_append_22 (Or.inl rfl) rfl dX5_append_59 ?_
    refine At_val (v' := vi (iv S 3 3 0 + 1)) (by simp [iv, si, up3]) ?_
    refine r_iconst C dX5_append_62 ?_
    refine r_isub C dX5_append_63 ?_
    exact r_iret C Rr (⟨by rw [if_pos (by omega)]; congr 2; omega, by rw [if_pos (by omega)]⟩) dX5_append_64
set_option maxHeartbeats 4000000 in
set_option maxRecDepth 100000 in
theorem c_toldAt (S : ST) (d : Int) (hd : -2147483648 ≤ d ∧ d < 2147483648) (hz : 0 ≤ iv S 3 3 0 ∧ iv S 3 3 0 ≤ 5) : Ct yX5_toldAt wsX5_toldAt 0 [vr (some (3, 0)), vi d] S (fun v S1 => v = some (vr (if 0 ≤ d ∧ d < iv S 3 3 0 then some (5, d.toNat) else none)) ∧ S1 = S) := by
  refine Ct.of (nL := 2) (by decide) rfl (Nat.le_of_ble_eq_true rfl) (by decide) (fun X C Rr hnL => ?_)
  have hn : ∀ i, i < 2 → i < X.2.2.2.2.2 := fun i h => by rw [hnL]; exact h
  refine r_iload_n C dX5_toldAt_0 rfl rfl ?_
  refine r_if_lt (tgt := 30) C dX5_toldAt_1 (by decide) (by omega) (fun h1 => ?_) (fun h1 => ?_)
  · skip
    refine r_null C dX5_toldAt_30 ?_
    exact r_aret C Rr (⟨by rw [if_neg (by omega)], rfl⟩) dX5_toldAt_31
  · skip
    refine r_iload_n C dX5_toldAt_4 rfl rfl ?_
    refine r_aload_n C dX5_toldAt_5 rfl rfl ?_
    refine r_getf C mid_3 (hp_3 _) rfl 3 (by decide) in_X5_toldAt_X5 lk_X5_toldAt_22 (Or.inl rfl) rfl dX5_toldAt_6 ?_
    refine r_icmp_ge (tgt := 30) C dX5_toldAt_9 (by decide) (by omega) (by omega) (fun h9 => ?_) (fun h9 => ?_)
    · skip
      refine r_null C dX5_toldAt_30 ?_
      exact r_aret C Rr (⟨by rw [if_neg (by omega)], rfl⟩) dX5_toldAt_31
    · skip
      refine r_iload_n C dX5_toldAt_12 rfl rfl ?_
      refine r_aload_n C dX5_toldAt_13 rfl rfl ?_
      refine r_getf C mid_3 (hp_3 _) rfl 0 (by decide) in_X5_toldAt_X5 lk_X5_toldAt_11 (Or.inl rfl) rfl dX5_toldAt_14 ?_
      refine r_alen C mid_4 (Or.inr ⟨_, (hp_4 _)⟩) (fun _ => ⟨_, rfl⟩) dX5_toldAt_17 ?_
      refine r_icmp_ge (tgt := 30) C dX5_toldAt_18 (by decide) (by omega) (by omega) (fun h18 => ?_) (fun h18 => ?_)
      · skip
        refine r_null C dX5_toldAt_30 ?_
        exact r_aret C Rr (⟨by rw [if_neg (by omega)], rfl⟩) dX5_toldAt_31
      · skip
        refine r_aload_n C dX5_toldAt_21 rfl rfl ?_
        refine r_getf C mid_3 (hp_3 _) rfl 0 (by decide) in_X5_toldAt_X5 lk_X5_toldAt_11 (Or.inl rfl) rfl dX5_toldAt_22 ?_
        refine r_iload_n C dX5_toldAt_25 rfl rfl ?_
        refine r_aald (j := d.toNat) C mid_4 (hp_4 _) (fun _ => rfl) (by omega) (by omega) (by decide) dX5_toldAt_26 ?_
        refine r_goto (tgt := 31) C dX5_toldAt_27 (by decide) ?_
        exact r_aret C Rr (⟨by rw [if_pos (by omega)], rfl⟩) dX5_toldAt_31
set_option maxHeartbeats 4000000 in
set_option maxRecDepth 100000 in
theorem c_QisTrueOf (S : ST) (w : Nat) (hw : w < 256) (hQ : IQ S) : Ct yX5_isTrueOf wsX5_isTrueOf 2 [vr (some (3, 0)), vi (w : Int)] S (fun v S1 => v = some (vi (b2i (qT S w))) ∧ S1 = S) := by
  refine Ct.of (nL := 5) (by decide) rfl (Nat.le_of_ble_eq_true rfl) (by decide) (fun X C Rr hnL => ?_)
  have hn : ∀ i, i < 5 → i < X.2.2.2.2.2 := fun i h => by rw [hnL]; exact h
  obtain ⟨hz, hk, hd, hcl⟩ := id hQ
  refine r_iconst C dX5_isTrueOf_0 ?_
  refine r_istore_n (lv' := [(2, _), (0, _), (1, _)]) C dX5_isTrueOf_1 rfl (hn _ (by decide)) rfl ?_
  refine r_iconst C dX5_isTrueOf_2 ?_
  refine r_istore_n (lv' := [(3, _), (2, _), (0, _), (1, _)]) C dX5_isTrueOf_3 rfl (hn _ (by decide)) rfl ?_
  have loop4 : ∀ (k i : Nat) (hk2 : 6 - i < k) (hi : (i : Int) ≤ iv S 3 3 0), At X 0 0 4 [(0, vr (some (3, 0))), (1, vi (w : Int)), (2, vi ((cnt (fun x => ctT S x w) 0 i : Nat) : Int)), (3, vi (i : Int))] [] S := by
    intro k
    induction k with
    | zero => intro i hk2 hi; exact absurd hk2 (by omega)
    | succ k ih =>
      intro i hk2 hi
      refine r_iload_n C dX5_isTrueOf_4 rfl rfl ?_
      refine r_aload_n C dX5_isTrueOf_5 rfl rfl ?_
      refine r_getf C mid_3 (hp_3 _) rfl 3 (by decide) in_X5_isTrueOf_X5 lk_X5_isTrueOf_22 (Or.inl rfl) rfl dX5_isTrueOf_6 ?_
      refine r_icmp_ge (tgt := 42) C dX5_isTrueOf_9 (by decide) (by omega) (by omega) (fun h9 => ?_) (fun h9 => ?_)
      · skip
        have hi3 : i = (iv S 3 3 0).toNat := by omega
        have hle := cnt_le (fun x => ctT S x w) 0 i
        refine r_iload_n C dX5_isTrueOf_42 rfl rfl ?_
        refine r_aload_n C dX5_isTrueOf_43 rfl rfl ?_
        refine r_getf C mid_3 (hp_3 _) rfl 3 (by decide) in_X5_isTrueOf_X5 lk_X5_isTrueOf_22 (Or.inl rfl) rfl dX5_isTrueOf_44 ?_
        refine r_aload_n C dX5_isTrueOf_47 rfl rfl ?_
        refine r_getf C mid_3 (hp_3 _) rfl 1 (by decide) in_X5_isTrueOf_X5 lk_X5_isTrueOf_18 (Or.inl rfl) rfl dX5_isTrueOf_48 ?_
        refine r_aload_n C dX5_isTrueOf_51 rfl rfl ?_
        refine r_getf C mid_3 (hp_3 _) rfl 2 (by decide) in_X5_isTrueOf_X5 lk_X5_isTrueOf_25 (Or.inl rfl) rfl dX5_isTrueOf_52 ?_
        refine r_callSN (as := [_, _, _, _]) (na := 4) (rest := []) C (by decide +kernel) ini_X5_isTrueOf_X10 st_X5_isTrueOf_X10_isEnough (c_isEnough S _ _ _ _ hk (by omega) (by omega) (by omega)) gX5_isTrueOf_X10_isEnough_n40 (by decide +kernel) (by decide) (by decide) rfl (Nat.le_of_ble_eq_true rfl) rfl dX5_isTrueOf_55 rfl (fun v1 S1 hp1 => ?_)
        obtain ⟨rfl, e9⟩ := hp1
        subst S1
        exact r_zret C Rr (b2i_01 _) (⟨by unfold qT; rw [← hi3], rfl⟩) dX5_isTrueOf_58
      · skip
        refine r_aload_n C dX5_isTrueOf_12 rfl rfl ?_
        refine r_iload_n C dX5_isTrueOf_13 rfl rfl ?_
        refine r_callV (as := [_]) (na := 1) (rest := []) C mid_3 (hp_3 _) rfl (c_toldAt S (i : Int) (by omega) hz) gX5_isTrueOf_X5_toldAt (by decide +kernel) (by decide) (by decide) rfl (Nat.le_of_ble_eq_true rfl) rfl dX5_isTrueOf_14 rfl (fun v1 S1 hp1 => ?_)
        obtain ⟨rfl, e9⟩ := hp1
        subst S1
        refine At_val (v' := vr (some (5, i))) (by rw [if_pos (by omega)]; rfl) ?_
        refine r_astore (lv' := [(4, _), (0, _), (1, _), (2, _), (3, _)]) C dX5_isTrueOf_17 (hn _ (by decide)) rfl ?_
        refine r_aload C dX5_isTrueOf_19 rfl ?_
        refine r_ifnull (tgt := 36) C dX5_isTrueOf_21 (by decide) (fun h => by cases h) (fun i21 h21 => ?_)
        clear h21
        refine r_aload C dX5_isTrueOf_24 rfl ?_
        refine r_iload_n C dX5_isTrueOf_26 rfl rfl ?_
        refine r_callV (as := [_]) (na := 1) (rest := []) C (mid_5 (by omega)) (hp_5 _ _) rfl (c_TisTrueOf S i w (by omega) hw hQ) gX5_isTrueOf_X9_isTrueOf (by decide +kernel) (by decide) (by decide) rfl (Nat.le_of_ble_eq_true rfl) rfl dX5_isTrueOf_27 rfl (fun v1 S1 hp1 => ?_)
        obtain ⟨rfl, e9⟩ := hp1
        subst S1
        refine r_if_eq (tgt := 36) C dX5_isTrueOf_30 (by decide) (by have := b2i_01 (ctT S i w); omega) (fun h30 => ?_) (fun h30 => ?_)
        · skip
          refine r_iinc (lv' := [(3, _), (4, _), (0, _), (1, _), (2, _)]) C dX5_isTrueOf_36 rfl (hn _ (by decide)) rfl ?_
          have e1 : cnt (fun x => ctT S x w) 0 (i + 1) = cnt (fun x => ctT S x w) 0 i := cnt0_no (p := fun x => ctT S x w) (b2i_0 h30)
          refine r_goto (tgt := 4) C dX5_isTrueOf_39 (by decide) ?_
          exact At_lv (by simp [e1]) (ih (i + 1) (by omega) (by omega))
        · skip
          refine r_iinc (lv' := [(2, _), (4, _), (0, _), (1, _), (3, _)]) C dX5_isTrueOf_33 rfl (hn _ (by decide)) rfl ?_
          refine r_iinc (lv' := [(3, _), (2, _), (4, _), (0, _), (1, _)]) C dX5_isTrueOf_36 rfl (hn _ (by decide)) rfl ?_
          have e1 : cnt (fun x => ctT S x w) 0 (i + 1) = cnt (fun x => ctT S x w) 0 i + 1 := cnt0_yes (p := fun x => ctT S x w) (b2i_1 h30)
          refine r_goto (tgt := 4) C dX5_isTrueOf_39 (by decide) ?_
          exact At_lv (by simp [e1]) (ih (i + 1) (by omega) (by omega))
  exact At_lv (by simp [cnt]) (loop4 7 0 (by omega) (by omega))
