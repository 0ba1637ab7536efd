theorem pop_le {B : Nat} (h : B < 2 ^ 40) : pop B ≤ 40 := by
  have h1 : pop B = cnt (fun k => B.testBit k) 0 40 + cnt (fun k => B.testBit k) (0 + 40) 24 := cnt_split _ 0 40 24
  have h2 : cnt (fun k => B.testBit k) (0 + 40) 24 = 0 := by
    have : ∀ n, cnt (fun k => B.testBit k) (0 + 40) n = 0 := by
      intro n
      induction n with
      | zero => rfl
      | succ n ih =>
        unfold cnt
        rw [ih, if_neg]
        rw [Nat.testBit_lt_two_pow (Nat.lt_of_lt_of_le h (Nat.pow_le_pow_right (by decide) (by omega)))]
        decide
    exact this 24
  have h3 := cnt_le (fun k => B.testBit k) 0 40
  omega
theorem in_X0_restart_X3 : ∀ w ∈ wsX30, w ∈ wsX0_restart := by decide +kernel
theorem lk_X0_restart_15 : Cond.fieldLink RX0 15 "PostingPlanner$Group" "kind" "I" ∈ wsX0_restart := by decide +kernel
theorem lk_X0_restart_19 : Cond.fieldLink RX0 19 "PostingPlanner$Group" "need" "I" ∈ wsX0_restart := by decide +kernel
theorem lk_X0_restart_22 : Cond.fieldLink RX0 22 "PostingPlanner$Group" "size" "I" ∈ wsX0_restart := by decide +kernel
theorem lk_X0_restart_25 : Cond.fieldLink RX0 25 "PostingPlanner$Group" "there" "J" ∈ wsX0_restart := by decide +kernel
theorem lk_X0_restart_29 : Cond.fieldLink RX0 29 "PostingPlanner$Group" "place" "I" ∈ wsX0_restart := by decide +kernel
theorem sm_X0_restart_Group_place : Cond.sameField "PostingPlanner$Group" "PostingPlanner$Part" "place" "I" ∈ wsX0_restart := by decide +kernel
theorem in_X0_partAt_X3 : ∀ w ∈ wsX30, w ∈ wsX0_partAt := by decide +kernel
theorem lk_X0_partAt_22 : Cond.fieldLink RX0 22 "PostingPlanner$Group" "size" "I" ∈ wsX0_partAt := by decide +kernel
theorem lk_X0_partAt_9 : Cond.fieldLink RX0 9 "PostingPlanner$Group" "parts" "[LPostingPlanner$Part;" ∈ wsX0_partAt := by decide +kernel
theorem in_X0_hasRank_X3 : ∀ w ∈ wsX30, w ∈ wsX0_hasRank := by decide +kernel
theorem lk_X0_hasRank_22 : Cond.fieldLink RX0 22 "PostingPlanner$Group" "size" "I" ∈ wsX0_hasRank := by decide +kernel
theorem in_X0_hasRank_X4 : ∀ w ∈ wsX40, w ∈ wsX0_hasRank := by decide +kernel
theorem lk_X0_hasRank_36 : Cond.fieldLink RX0 36 "PostingPlanner$Part" "rank" "I" ∈ wsX0_hasRank := by decide +kernel
theorem in_X0_keep_X3 : ∀ w ∈ wsX30, w ∈ wsX0_keep := by decide +kernel
theorem lk_X0_keep_22 : Cond.fieldLink RX0 22 "PostingPlanner$Group" "size" "I" ∈ wsX0_keep := by decide +kernel
theorem lk_X0_keep_9 : Cond.fieldLink RX0 9 "PostingPlanner$Group" "parts" "[LPostingPlanner$Part;" ∈ wsX0_keep := by decide +kernel
theorem in_X0_isFixed_X3 : ∀ w ∈ wsX30, w ∈ wsX0_isFixed := by decide +kernel
theorem lk_X0_isFixed_15 : Cond.fieldLink RX0 15 "PostingPlanner$Group" "kind" "I" ∈ wsX0_isFixed := by decide +kernel
theorem in_X0_fix_X3 : ∀ w ∈ wsX30, w ∈ wsX0_fix := by decide +kernel
theorem lk_X0_fix_15 : Cond.fieldLink RX0 15 "PostingPlanner$Group" "kind" "I" ∈ wsX0_fix := by decide +kernel
theorem lk_X0_fix_22 : Cond.fieldLink RX0 22 "PostingPlanner$Group" "size" "I" ∈ wsX0_fix := by decide +kernel
theorem in_X0_settleSome_X3 : ∀ w ∈ wsX30, w ∈ wsX0_settleSome := by decide +kernel
theorem lk_X0_settleSome_15 : Cond.fieldLink RX0 15 "PostingPlanner$Group" "kind" "I" ∈ wsX0_settleSome := by decide +kernel
theorem lk_X0_settleSome_19 : Cond.fieldLink RX0 19 "PostingPlanner$Group" "need" "I" ∈ wsX0_settleSome := by decide +kernel
theorem in_X0_settleEmpty_X3 : ∀ w ∈ wsX30, w ∈ wsX0_settleEmpty := by decide +kernel
theorem lk_X0_settleEmpty_22 : Cond.fieldLink RX0 22 "PostingPlanner$Group" "size" "I" ∈ wsX0_settleEmpty := by decide +kernel
theorem lk_X0_settleEmpty_15 : Cond.fieldLink RX0 15 "PostingPlanner$Group" "kind" "I" ∈ wsX0_settleEmpty := by decide +kernel
theorem in_X0_leastEstimate_X3 : ∀ w ∈ wsX30, w ∈ wsX0_leastEstimate := by decide +kernel
theorem lk_X0_leastEstimate_22 : Cond.fieldLink RX0 22 "PostingPlanner$Group" "size" "I" ∈ wsX0_leastEstimate := by decide +kernel
theorem in_X0_leastEstimate_X4 : ∀ w ∈ wsX40, w ∈ wsX0_leastEstimate := by decide +kernel
theorem lk_X0_leastEstimate_66 : Cond.fieldLink RX0 66 "PostingPlanner$Part" "estimate" "I" ∈ wsX0_leastEstimate := by decide +kernel
theorem lk_X0_leastEstimate_60 : Cond.methodLink RX0 60 Lib.Math.min.name ∈ wsX0_leastEstimate := by decide +kernel
theorem st_X0_leastEstimate_Mmin : Cond.static Lib.Math.min.name ∈ wsX0_leastEstimate := by decide +kernel
theorem ini_X0_leastEstimate_Math : Cond.initialized "java/lang/Math" ∈ wsX0_leastEstimate := by decide +kernel
theorem co_X0_leastEstimate_Mmin : Cond.code Lib.Math.min.name Lib.Math.min.code 2 (some .int) ∈ wsX0_leastEstimate := by decide +kernel
theorem in_X0_sumOfEstimates_X3 : ∀ w ∈ wsX30, w ∈ wsX0_sumOfEstimates := by decide +kernel
theorem lk_X0_sumOfEstimates_22 : Cond.fieldLink RX0 22 "PostingPlanner$Group" "size" "I" ∈ wsX0_sumOfEstimates := by decide +kernel
theorem in_X0_sumOfEstimates_X4 : ∀ w ∈ wsX40, w ∈ wsX0_sumOfEstimates := by decide +kernel
theorem lk_X0_sumOfEstimates_66 : Cond.fieldLink RX0 66 "PostingPlanner$Part" "estimate" "I" ∈ wsX0_sumOfEstimates := by decide +kernel
theorem in_X0_appraise_X3 : ∀ w ∈ wsX30, w ∈ wsX0_appraise := by decide +kernel
theorem lk_X0_appraise_25 : Cond.fieldLink RX0 25 "PostingPlanner$Group" "there" "J" ∈ wsX0_appraise := by decide +kernel
theorem lk_X0_appraise_15 : Cond.fieldLink RX0 15 "PostingPlanner$Group" "kind" "I" ∈ wsX0_appraise := by decide +kernel
theorem lk_X0_appraise_53 : Cond.fieldLink RX0 53 "PostingPlanner$Group" "estimate" "I" ∈ wsX0_appraise := by decide +kernel
theorem sm_X0_appraise_Group_estimate : Cond.sameField "PostingPlanner$Group" "PostingPlanner$Part" "estimate" "I" ∈ wsX0_appraise := by decide +kernel
theorem lk_X0_appraise_60 : Cond.methodLink RX0 60 Lib.Math.min.name ∈ wsX0_appraise := by decide +kernel
theorem st_X0_appraise_Mmin : Cond.static Lib.Math.min.name ∈ wsX0_appraise := by decide +kernel
theorem ini_X0_appraise_Math : Cond.initialized "java/lang/Math" ∈ wsX0_appraise := by decide +kernel
theorem co_X0_appraise_Mmin : Cond.code Lib.Math.min.name Lib.Math.min.code 2 (some .int) ∈ wsX0_appraise := by decide +kernel
theorem lk_X0_appraise_19 : Cond.fieldLink RX0 19 "PostingPlanner$Group" "need" "I" ∈ wsX0_appraise := by decide +kernel
theorem in_X0_isBefore_X4 : ∀ w ∈ wsX40, w ∈ wsX0_isBefore := by decide +kernel
theorem lk_X0_isBefore_66 : Cond.fieldLink RX0 66 "PostingPlanner$Part" "estimate" "I" ∈ wsX0_isBefore := by decide +kernel
theorem lk_X0_isBefore_36 : Cond.fieldLink RX0 36 "PostingPlanner$Part" "rank" "I" ∈ wsX0_isBefore := by decide +kernel
theorem in_X0_restart_X2 : ∀ w ∈ wsX20, w ∈ wsX0_restart := by decide +kernel
theorem in_X0_partAt_X2 : ∀ w ∈ wsX20, w ∈ wsX0_partAt := by decide +kernel
theorem in_X0_keep_X2 : ∀ w ∈ wsX20, w ∈ wsX0_keep := by decide +kernel
theorem in_X0_isFixed_X2 : ∀ w ∈ wsX20, w ∈ wsX0_isFixed := by decide +kernel
theorem in_X0_fix_X2 : ∀ w ∈ wsX20, w ∈ wsX0_fix := by decide +kernel
theorem in_X0_settleSome_X2 : ∀ w ∈ wsX20, w ∈ wsX0_settleSome := by decide +kernel
theorem in_X0_settleEmpty_X2 : ∀ w ∈ wsX20, w ∈ wsX0_settleEmpty := by decide +kernel
theorem in_X0_leastEstimate_X2 : ∀ w ∈ wsX20, w ∈ wsX0_leastEstimate := by decide +kernel
theorem in_X0_sumOfEstimates_X2 : ∀ w ∈ wsX20, w ∈ wsX0_sumOfEstimates := by decide +kernel
theorem in_X0_appraise_X2 : ∀ w ∈ wsX20, w ∈ wsX0_appraise := by decide +kernel
theorem in_X0_isBefore_X3 : ∀ w ∈ wsX30, w ∈ wsX0_isBefore := by decide +kernel
set_option maxHeartbeats 4000000 in
set_option maxRecDepth 100000 in
theorem c_restart_C (S : ST) (y : Nat) (hy : y < 10) (kd nd : Int) (B : Nat) : Ct yX0_restart wsX0_restart 0 [vr (some (11, y)), vi kd, vi nd, vl (B : Int)] S (fun v S1 => v = none ∧ S1 = si (sj (si (si (si S 11 1 y kd) 11 2 y nd) 11 3 y 0) 11 4 y B) 11 7 y (-1)) := by
  refine Ct.of (nL := 5) (by decide) rfl (Nat.le_of_ble_eq_true rfl) (by decide) (fun X C Rr hnL => ?_)
  have hn : ∀ i, i < 5 → i < X.2.2.2.2.2 := fun i h => by rw [hnL]; exact h
  refine r_aload_n C dX0_restart_0 rfl rfl ?_
  refine r_iload_n C dX0_restart_1 rfl rfl ?_
  refine r_putf  C (mid_11 hy) (hp_11 _ _) rfl 1 (by decide) in_X0_restart_X3 lk_X0_restart_15 (Or.inl rfl) tyX3 tyX3_ok nmX3 rfl (tyX3_ok 1 (by decide)) (fun _ => rfl) (fun _ => rfl) (Nat.le_of_ble_eq_true rfl) (hs_11_1 _ _ _) dX0_restart_2 ?_
  refine r_aload_n C dX0_restart_5 rfl rfl ?_
  refine r_iload_n C dX0_restart_6 rfl rfl ?_
  refine r_putf  C (mid_11 hy) (hp_11 _ _) rfl 2 (by decide) in_X0_restart_X3 lk_X0_restart_19 (Or.inl rfl) tyX3 tyX3_ok nmX3 rfl (tyX3_ok 2 (by decide)) (fun _ => rfl) (fun _ => rfl) (Nat.le_of_ble_eq_true rfl) (hs_11_2 _ _ _) dX0_restart_7 ?_
  refine r_aload_n C dX0_restart_10 rfl rfl ?_
  refine r_iconst C dX0_restart_11 ?_
  refine r_putf  C (mid_11 hy) (hp_11 _ _) rfl 3 (by decide) in_X0_restart_X3 lk_X0_restart_22 (Or.inl rfl) tyX3 tyX3_ok nmX3 rfl (tyX3_ok 3 (by decide)) (fun _ => rfl) (fun _ => rfl) (Nat.le_of_ble_eq_true rfl) (hs_11_3 _ _ _) dX0_restart_12 ?_
  refine r_aload_n C dX0_restart_15 rfl rfl ?_
  refine r_lload_n C dX0_restart_16 rfl rfl ?_
  refine r_putf  C (mid_11 hy) (hp_11 _ _) rfl 4 (by decide) in_X0_restart_X3 lk_X0_restart_25 (Or.inl rfl) tyX3 tyX3_ok nmX3 rfl (tyX3_ok 4 (by decide)) (fun _ => rfl) (fun _ => rfl) (Nat.le_of_ble_eq_true rfl) (hs_11_4 _ _ _) dX0_restart_17 ?_
  refine r_aload_n C dX0_restart_20 rfl rfl ?_
  refine r_iconst C dX0_restart_21 ?_
  refine r_putf  C (mid_11 hy) (hp_11 _ _) rfl 7 (by decide) in_X0_restart_X3 lk_X0_restart_29 (Or.inr sm_X0_restart_Group_place) tyX3 tyX3_ok nmX3 rfl (tyX3_ok 7 (by decide)) (fun _ => rfl) (fun _ => rfl) (Nat.le_of_ble_eq_true rfl) (hs_11_7 _ _ _) dX0_restart_22 ?_
  exact r_vret C Rr (⟨rfl, rfl⟩) dX0_restart_25
set_option maxHeartbeats 4000000 in
set_option maxRecDepth 100000 in
theorem c_partAt_C (S : ST) (y : Nat) (hy : y < 10) (d : Int) (hd : -2147483648 ≤ d ∧ d < 2147483648) (hz : 0 ≤ iv S 11 3 y ∧ iv S 11 3 y ≤ 6)  : Ct yX0_partAt wsX0_partAt 0 [vr (some (11, y)), vi d] S (fun v S1 => v = some (vr (if 0 ≤ d ∧ d < iv S 11 3 y then (ar S 12 y d.toNat).map (fun v => ((14, v) : Idn)) else none)) ∧ S1 = S) := by
  refine Ct.of (nL := 2) (by decide) rfl (Nat.le_of_ble_eq_true rfl) (by decide) (fun X C Rr hnL => ?_)
  have hn : ∀ i, i < 2 → i < X.2.2.2.2.2 := fun i h => by rw [hnL]; exact h
  refine r_iload_n C dX0_partAt_0 rfl rfl ?_
  refine r_if_lt (tgt := 30) C dX0_partAt_1 (by decide) (by omega) (fun h1 => ?_) (fun h1 => ?_)
  · skip
    refine r_null C dX0_partAt_30 ?_
    exact r_aret C Rr (⟨by rw [if_neg (by omega)], rfl⟩) dX0_partAt_31
  · skip
    refine r_iload_n C dX0_partAt_4 rfl rfl ?_
    refine r_aload_n C dX0_partAt_5 rfl rfl ?_
    refine r_getf C (mid_11 hy) (hp_11 _ _) rfl 3 (by decide) in_X0_partAt_X3 lk_X0_partAt_22 (Or.inl rfl) rfl dX0_partAt_6 ?_
    refine r_icmp_ge (tgt := 30) C dX0_partAt_9 (by decide) (by omega) (by omega) (fun h9 => ?_) (fun h9 => ?_)
    · skip
      refine r_null C dX0_partAt_30 ?_
      exact r_aret C Rr (⟨by rw [if_neg (by omega)], rfl⟩) dX0_partAt_31
    · skip
      refine r_iload_n C dX0_partAt_12 rfl rfl ?_
      refine r_aload_n C dX0_partAt_13 rfl rfl ?_
      refine r_getf C (mid_11 hy) (hp_11 _ _) rfl 0 (by decide) in_X0_partAt_X3 lk_X0_partAt_9 (Or.inl rfl) rfl dX0_partAt_14 ?_
      refine r_alen C (mid_12 hy) (Or.inr ⟨_, (hp_12 _ _)⟩) (fun _ => ⟨_, rfl⟩) dX0_partAt_17 ?_
      refine r_icmp_ge (tgt := 30) C dX0_partAt_18 (by decide) (by omega) (by omega) (fun h18 => ?_) (fun h18 => ?_)
      · skip
        refine r_null C dX0_partAt_30 ?_
        exact r_aret C Rr (⟨by rw [if_neg (by omega)], rfl⟩) dX0_partAt_31
      · skip
        refine r_aload_n C dX0_partAt_21 rfl rfl ?_
        refine r_getf C (mid_11 hy) (hp_11 _ _) rfl 0 (by decide) in_X0_partAt_X3 lk_X0_partAt_9 (Or.inl rfl) rfl dX0_partAt_22 ?_
        refine r_iload_n C dX0_partAt_25 rfl rfl ?_
        refine r_aald (j := d.toNat) C (mid_12 hy) (hp_12 _ _) (fun _ => rfl) (by omega) (by omega) (by decide) dX0_partAt_26 ?_
        refine r_goto (tgt := 31) C dX0_partAt_27 (by decide) ?_
        exact r_aret C Rr (⟨by rw [if_pos (by omega)], rfl⟩) dX0_partAt_31
set_option maxHeartbeats 4000000 in
set_option maxRecDepth 100000 in
theorem c_hasRank_C (S : ST) (y : Nat) (hy : y < 10) (rk : Nat) (hrk : rk < 16) (hL : IL S) (hG : GP S 11 12 y 60)  : Ct yX0_hasRank wsX0_hasRank 1 [vr (some (11, y)), vi (rk : Int)] S (fun v S1 => v = some (vi (b2i (anyb (fun j => decide (iv S 14 0 (pa S 12 y j) = rk)) (iv S 11 3 y).toNat))) ∧ S1 = S) := by
  refine Ct.of (nL := 4) (by decide) rfl (Nat.le_of_ble_eq_true rfl) (by decide) (fun X C Rr hnL => ?_)
  have hn : ∀ i, i < 4 → i < X.2.2.2.2.2 := fun i h => by rw [hnL]; exact h
  obtain ⟨hz, hps⟩ := id hG
  refine r_iconst C dX0_hasRank_0 ?_
  refine r_istore_n (lv' := [(2, _), (0, _), (1, _)]) C dX0_hasRank_1 rfl (hn _ (by decide)) rfl ?_
  have loop2 : ∀ (k i : Nat) (hk : 7 - i < k) (hi : (i : Int) ≤ iv S 11 3 y) (hf : anyb (fun j => decide (iv S 14 0 (pa S 12 y j) = rk)) i = false), At X 0 0 2 [(0, vr (some (11, y))), (1, vi (rk : Int)), (2, vi (i : Int))] [] S := by
    intro k
    induction k with
    | zero => intro i hk hi hf; exact absurd hk (by omega)
    | succ k ih =>
      intro i hk hi hf
      refine r_iload_n C dX0_hasRank_2 rfl rfl ?_
      refine r_aload_n C dX0_hasRank_3 rfl rfl ?_
      refine r_getf C (mid_11 hy) (hp_11 _ _) rfl 3 (by decide) in_X0_hasRank_X3 lk_X0_hasRank_22 (Or.inl rfl) rfl dX0_hasRank_4 ?_
      refine r_icmp_ge (tgt := 36) C dX0_hasRank_7 (by decide) (by omega) (by omega) (fun h7 => ?_) (fun h7 => ?_)
      · skip
        refine r_iconst C dX0_hasRank_36 ?_
        exact r_zret C Rr (by decide) (⟨by rw [b2i_f (by rw [show (iv S 11 3 y).toNat = i by omega]; exact hf)], rfl⟩) dX0_hasRank_37
      · skip
        refine r_aload_n C dX0_hasRank_10 rfl rfl ?_
        refine r_iload_n C dX0_hasRank_11 rfl rfl ?_
        refine r_callU (as := [_]) (na := 1) (rest := []) C (mid_11 hy) (hp_11 _ _) rfl (c_partAt_C S y hy (i : Int) (by omega) hz) gX0_hasRank_X0_partAt_u32X3 (by decide +kernel) (by decide) (by decide) rfl (Nat.le_of_ble_eq_true rfl) rfl dX0_hasRank_12 rfl (fun v1 S1 hp1 => ?_)
        obtain ⟨rfl, e9⟩ := hp1
        subst S1
        have hpi := hps i (by omega)
        refine At_val (v' := vr (some (14, pa S 12 y i))) (by rw [if_pos (by omega), Int.toNat_natCast, hpi.1]; rfl) ?_
        refine r_astore_n (lv' := [(3, _), (0, _), (1, _), (2, _)]) C dX0_hasRank_15 rfl (hn _ (by decide)) rfl ?_
        refine r_aload_n C dX0_hasRank_16 rfl rfl ?_
        refine r_ifnull (tgt := 30) C dX0_hasRank_17 (by decide) (fun h => by cases h) (fun i17 h17 => ?_)
        clear h17
        refine r_aload_n C dX0_hasRank_20 rfl rfl ?_
        refine r_getf C (mid_14 hpi.2) (hp_14 _ _) rfl 0 (by decide) in_X0_hasRank_X4 lk_X0_hasRank_36 (Or.inl rfl) rfl dX0_hasRank_21 ?_
        have hLi := hL _ hpi.2
        refine r_iload_n C dX0_hasRank_24 rfl rfl ?_
        refine r_icmp_ne (tgt := 30) C dX0_hasRank_25 (by decide) (by omega) (by omega) (fun h25 => ?_) (fun h25 => ?_)
        · skip
          refine r_iinc (lv' := [(2, _), (3, _), (0, _), (1, _)]) C dX0_hasRank_30 rfl (hn _ (by decide)) rfl ?_
          refine r_goto (tgt := 2) C dX0_hasRank_33 (by decide) ?_
          exact At_lv (by simp) (ih (i + 1) (by omega) (by omega) (by unfold anyb; rw [hf, Bool.false_or]; exact decide_eq_false h25))
        · skip
          refine r_iconst C dX0_hasRank_28 ?_
          exact r_zret C Rr (by decide) (⟨by rw [b2i_t (anyb_t _ ⟨i, by omega, decide_eq_true h25⟩)], rfl⟩) dX0_hasRank_29
  exact At_lv (by simp) (loop2 8 0 (by omega) (by omega) rfl)
set_option maxHeartbeats 4000000 in
set_option maxRecDepth 100000 in
theorem c_keep_C (S : ST) (y : Nat) (hy : y < 10) (p : Nat) (hp0 : p < 60) (hz : 0 ≤ iv S 11 3 y ∧ iv S 11 3 y ≤ 6)  : Ct yX0_keep wsX0_keep 0 [vr (some (11, y)), vr (some (14, p))] S (fun v S1 => v = none ∧ S1 = if iv S 11 3 y < 6 then si (sr S 12 y (iv S 11 3 y).toNat (some p)) 11 3 y (iv S 11 3 y + 1) else S) := by
  refine Ct.of (nL := 2) (by decide) rfl (Nat.le_of_ble_eq_true rfl) (by decide) (fun X C Rr hnL => ?_)
  have hn : ∀ i, i < 2 → i < X.2.2.2.2.2 := fun i h => by rw [hnL]; exact h
  refine r_aload_n C dX0_keep_0 rfl rfl ?_
  refine r_getf C (mid_11 hy) (hp_11 _ _) rfl 3 (by decide) in_X0_keep_X3 lk_X0_keep_22 (Or.inl rfl) rfl dX0_keep_1 ?_
  refine r_if_lt (tgt := 39) C dX0_keep_4 (by decide) (by omega) (fun h4 => ?_) (fun h4 => ?_)
  · exact absurd h4 (by omega)
  refine r_aload_n C dX0_keep_7 rfl rfl ?_
  refine r_getf C (mid_11 hy) (hp_11 _ _) rfl 3 (by decide) in_X0_keep_X3 lk_X0_keep_22 (Or.inl rfl) rfl dX0_keep_8 ?_
  refine r_aload_n C dX0_keep_11 rfl rfl ?_
  refine r_getf C (mid_11 hy) (hp_11 _ _) rfl 0 (by decide) in_X0_keep_X3 lk_X0_keep_9 (Or.inl rfl) rfl dX0_keep_12 ?_
  refine r_alen C (mid_12 hy) (Or.inr ⟨_, (hp_12 _ _)⟩) (fun _ => ⟨_, rfl⟩) dX0_keep_15 ?_
  refine r_icmp_ge (tgt := 39) C dX0_keep_16 (by decide) (by omega) (by omega) (fun h16 => ?_) (fun h16 => ?_)
  · skip
    exact r_vret C Rr (⟨rfl, by rw [if_neg (by omega)]⟩) dX0_keep_39
  · skip
    refine r_aload_n C dX0_keep_19 rfl rfl ?_
    refine r_getf C (mid_11 hy) (hp_11 _ _) rfl 0 (by decide) in_X0_keep_X3 lk_X0_keep_9 (Or.inl rfl) rfl dX0_keep_20 ?_
    refine r_aload_n C dX0_keep_23 rfl rfl ?_
    refine r_getf C (mid_11 hy) (hp_11 _ _) rfl 3 (by decide) in_X0_keep_X3 lk_X0_keep_22 (Or.inl rfl) rfl dX0_keep_24 ?_
    refine r_aload_n C dX0_keep_27 rfl rfl ?_
    refine r_aast14 (j := (iv S 11 3 y).toNat) C (mid_12 hy) (hp_12 _ _) (mid_14 hp0) (hp_14 _ _) rfl (by omega) (by omega) (by decide) (ha_12 _ _ _ (some p)) dX0_keep_28 ?_
    refine r_aload_n C dX0_keep_29 rfl rfl ?_
    refine r_dup C rfl dX0_keep_30 ?_
    refine r_getf C (mid_11 hy) (hp_11 _ _) rfl 3 (by decide) in_X0_keep_X3 lk_X0_keep_22 (Or.inl rfl) rfl dX0_keep_31 ?_
    refine At_val (v' := vi (iv S 11 3 y)) (rfl) ?_
    refine r_iconst C dX0_keep_34 ?_
    refine r_iadd C dX0_keep_35 ?_
    refine r_putf  C (mid_11 hy) (hp_11 _ _) rfl 3 (by decide) in_X0_keep_X3 lk_X0_keep_22 (Or.inl rfl) tyX3 tyX3_ok nmX3 rfl (tyX3_ok 3 (by decide)) (fun _ => rfl) (fun _ => rfl) (Nat.le_of_ble_eq_true rfl) (hs_11_3 _ _ _) dX0_keep_36 ?_
    exact r_vret C Rr (⟨rfl, by rw [if_pos (by omega)]⟩) dX0_keep_39
set_option maxHeartbeats 4000000 in
set_option maxRecDepth 100000 in
theorem c_isFixed_C (S : ST) (y : Nat) (hy : y < 10) (hN : GN S 11 y)  : Ct yX0_isFixed wsX0_isFixed 0 [vr (some (11, y))] S (fun v S1 => v = some (vi (b2i (decide (iv S 11 1 y = 3 ∨ iv S 11 1 y = 4)))) ∧ S1 = S) := by
  refine Ct.of (nL := 1) (by decide) rfl (Nat.le_of_ble_eq_true rfl) (by decide) (fun X C Rr hnL => ?_)
  have hn : ∀ i, i < 1 → i < X.2.2.2.2.2 := fun i h => by rw [hnL]; exact h
  obtain ⟨hk, hnd, hes, hpl, hth⟩ := id hN
  refine r_aload_n C dX0_isFixed_0 rfl rfl ?_
  refine r_getf C (mid_11 hy) (hp_11 _ _) rfl 1 (by decide) in_X0_isFixed_X3 lk_X0_isFixed_15 (Or.inl rfl) rfl dX0_isFixed_1 ?_
  refine r_iconst C dX0_isFixed_4 ?_
  refine r_icmp_eq (tgt := 16) C dX0_isFixed_5 (by decide) (by omega) (by omega) (fun h5 => ?_) (fun h5 => ?_)
  · skip
    refine r_iconst C dX0_isFixed_16 ?_
    refine r_goto (tgt := 21) C dX0_isFixed_17 (by decide) ?_
    exact r_zret C Rr (by decide) (⟨by rw [b2i_t (decide_eq_true (by omega))], rfl⟩) dX0_isFixed_21
  · skip
    refine r_aload_n C dX0_isFixed_8 rfl rfl ?_
    refine r_getf C (mid_11 hy) (hp_11 _ _) rfl 1 (by decide) in_X0_isFixed_X3 lk_X0_isFixed_15 (Or.inl rfl) rfl dX0_isFixed_9 ?_
    refine r_iconst C dX0_isFixed_12 ?_
    refine r_icmp_ne (tgt := 20) C dX0_isFixed_13 (by decide) (by omega) (by omega) (fun h13 => ?_) (fun h13 => ?_)
    · skip
      refine r_iconst C dX0_isFixed_20 ?_
      exact r_zret C Rr (by decide) (⟨by rw [b2i_f (decide_eq_false (by omega))], rfl⟩) dX0_isFixed_21
    · skip
      refine r_iconst C dX0_isFixed_16 ?_
      refine r_goto (tgt := 21) C dX0_isFixed_17 (by decide) ?_
      exact r_zret C Rr (by decide) (⟨by rw [b2i_t (decide_eq_true (by omega))], rfl⟩) dX0_isFixed_21
set_option maxHeartbeats 4000000 in
set_option maxRecDepth 100000 in
theorem c_fix_C (S : ST) (y : Nat) (hy : y < 10) (k : Int) : Ct yX0_fix wsX0_fix 0 [vr (some (11, y)), vi k] S (fun v S1 => v = none ∧ S1 = setKS S 11 y k 0) := by
  refine Ct.of (nL := 2) (by decide) rfl (Nat.le_of_ble_eq_true rfl) (by decide) (fun X C Rr hnL => ?_)
  have hn : ∀ i, i < 2 → i < X.2.2.2.2.2 := fun i h => by rw [hnL]; exact h
  refine r_aload_n C dX0_fix_0 rfl rfl ?_
  refine r_iload_n C dX0_fix_1 rfl rfl ?_
  refine r_putf  C (mid_11 hy) (hp_11 _ _) rfl 1 (by decide) in_X0_fix_X3 lk_X0_fix_15 (Or.inl rfl) tyX3 tyX3_ok nmX3 rfl (tyX3_ok 1 (by decide)) (fun _ => rfl) (fun _ => rfl) (Nat.le_of_ble_eq_true rfl) (hs_11_1 _ _ _) dX0_fix_2 ?_
  refine r_aload_n C dX0_fix_5 rfl rfl ?_
  refine r_iconst C dX0_fix_6 ?_
  refine r_putf  C (mid_11 hy) (hp_11 _ _) rfl 3 (by decide) in_X0_fix_X3 lk_X0_fix_22 (Or.inl rfl) tyX3 tyX3_ok nmX3 rfl (tyX3_ok 3 (by decide)) (fun _ => rfl) (fun _ => rfl) (Nat.le_of_ble_eq_true rfl) (hs_11_3 _ _ _) dX0_fix_7 ?_
  exact r_vret C Rr (⟨rfl, rfl⟩) dX0_fix_10
set_option maxHeartbeats 4000000 in
set_option maxRecDepth 100000 in
theorem c_settleSome_C (S : ST) (y : Nat) (hy : y < 10) (cn : Int) (hcn : 0 ≤ cn ∧ cn ≤ 6) (hN : GN S 11 y)  : Ct yX0_settleSome wsX0_settleSome 1 [vr (some (11, y)), vi cn] S (fun v S1 => v = none ∧ S1 = if iv S 11 1 y = 2 then setKS S 11 y (someK (iv S 11 2 y) cn) (if someK (iv S 11 2 y) cn = 3 ∨ someK (iv S 11 2 y) cn = 4 then 0 else iv S 11 3 y) else S) := by
  refine Ct.of (nL := 2) (by decide) rfl (Nat.le_of_ble_eq_true rfl) (by decide) (fun X C Rr hnL => ?_)
  have hn : ∀ i, i < 2 → i < X.2.2.2.2.2 := fun i h => by rw [hnL]; exact h
  obtain ⟨hk, hnd, hes, hpl, hth⟩ := id hN
  refine r_aload_n C dX0_settleSome_0 rfl rfl ?_
  refine r_getf C (mid_11 hy) (hp_11 _ _) rfl 1 (by decide) in_X0_settleSome_X3 lk_X0_settleSome_15 (Or.inl rfl) rfl dX0_settleSome_1 ?_
  refine r_iconst C dX0_settleSome_4 ?_
  refine r_icmp_eq (tgt := 9) C dX0_settleSome_5 (by decide) (by omega) (by omega) (fun h5 => ?_) (fun h5 => ?_)
  · skip
    refine r_aload_n C dX0_settleSome_9 rfl rfl ?_
    refine r_getf C (mid_11 hy) (hp_11 _ _) rfl 2 (by decide) in_X0_settleSome_X3 lk_X0_settleSome_19 (Or.inl rfl) rfl dX0_settleSome_10 ?_
    refine r_if_gt (tgt := 24) C dX0_settleSome_13 (by decide) (by omega) (fun h13 => ?_) (fun h13 => ?_)
    · skip
      refine r_aload_n C dX0_settleSome_24 rfl rfl ?_
      refine r_getf C (mid_11 hy) (hp_11 _ _) rfl 2 (by decide) in_X0_settleSome_X3 lk_X0_settleSome_19 (Or.inl rfl) rfl dX0_settleSome_25 ?_
      refine r_iload_n C dX0_settleSome_28 rfl rfl ?_
      refine r_icmp_le (tgt := 40) C dX0_settleSome_29 (by decide) (by omega) (by omega) (fun h29 => ?_) (fun h29 => ?_)
      · skip
        refine r_aload_n C dX0_settleSome_40 rfl rfl ?_
        refine r_getf C (mid_11 hy) (hp_11 _ _) rfl 2 (by decide) in_X0_settleSome_X3 lk_X0_settleSome_19 (Or.inl rfl) rfl dX0_settleSome_41 ?_
        refine r_iconst C dX0_settleSome_44 ?_
        refine r_icmp_ne (tgt := 56) C dX0_settleSome_45 (by decide) (by omega) (by omega) (fun h45 => ?_) (fun h45 => ?_)
        · skip
          refine r_aload_n C dX0_settleSome_56 rfl rfl ?_
          refine r_getf C (mid_11 hy) (hp_11 _ _) rfl 2 (by decide) in_X0_settleSome_X3 lk_X0_settleSome_19 (Or.inl rfl) rfl dX0_settleSome_57 ?_
          refine r_iload_n C dX0_settleSome_60 rfl rfl ?_
          refine r_icmp_ne (tgt := 69) C dX0_settleSome_61 (by decide) (by omega) (by omega) (fun h61 => ?_) (fun h61 => ?_)
          · skip
            exact r_vret C Rr (⟨rfl, by rw [if_pos h5, show someK (iv S 11 2 y) cn = 2 by unfold someK; rw [if_neg (by omega), if_neg (by omega), if_neg (by omega), if_neg (by omega)]]; show S = setKS S 11 y 2 (iv S 11 3 y); rw [← h5]; exact (setKS_id S 11 y).symm⟩) dX0_settleSome_69
          · skip
            have es : someK (iv S 11 2 y) cn = 0 := by unfold someK; rw [if_neg (by omega), if_neg (by omega), if_neg (by omega), if_pos (by omega)]
            refine r_aload_n C dX0_settleSome_64 rfl rfl ?_
            refine r_iconst C dX0_settleSome_65 ?_
            refine r_putf  C (mid_11 hy) (hp_11 _ _) rfl 1 (by decide) in_X0_settleSome_X3 lk_X0_settleSome_15 (Or.inl rfl) tyX3 tyX3_ok nmX3 rfl (tyX3_ok 1 (by decide)) (fun _ => rfl) (fun _ => rfl) (Nat.le_of_ble_eq_true rfl) (hs_11_1 _ _ _) dX0_settleSome_66 ?_
            exact r_vret C Rr (⟨rfl, by rw [if_pos h5, es]; first | rfl | exact (setKS_self _ _ _ _).symm⟩) dX0_settleSome_69
        · skip
          refine r_aload_n C dX0_settleSome_48 rfl rfl ?_
          refine r_iconst C dX0_settleSome_49 ?_
          refine r_putf  C (mid_11 hy) (hp_11 _ _) rfl 1 (by decide) in_X0_settleSome_X3 lk_X0_settleSome_15 (Or.inl rfl) tyX3 tyX3_ok nmX3 rfl (tyX3_ok 1 (by decide)) (fun _ => rfl) (fun _ => rfl) (Nat.le_of_ble_eq_true rfl) (hs_11_1 _ _ _) dX0_settleSome_50 ?_
          have es : someK (iv S 11 2 y) cn = 1 := by unfold someK; rw [if_neg (by omega), if_neg (by omega), if_pos (by omega)]
          refine r_goto (tgt := 69) C dX0_settleSome_53 (by decide) ?_
          exact r_vret C Rr (⟨rfl, by rw [if_pos h5, es]; first | rfl | exact (setKS_self _ _ _ _).symm⟩) dX0_settleSome_69
      · skip
        refine r_aload_n C dX0_settleSome_32 rfl rfl ?_
        refine r_iconst C dX0_settleSome_33 ?_
        refine r_callU (as := [_]) (na := 1) (rest := []) C (mid_11 hy) (hp_11 _ _) rfl (c_fix_C S y hy 4) gX0_settleSome_X0_fix_u39X3 (by decide +kernel) (by decide) (by decide) rfl (Nat.le_of_ble_eq_true rfl) rfl dX0_settleSome_34 rfl (fun v1 S1 hp1 => ?_)
        obtain ⟨rfl, e9⟩ := hp1
        subst S1
        have es : someK (iv S 11 2 y) cn = 4 := by unfold someK; rw [if_neg (by omega), if_pos (by omega)]
        refine r_goto (tgt := 69) C dX0_settleSome_37 (by decide) ?_
        exact r_vret C Rr (⟨rfl, by rw [if_pos h5, es]; first | rfl | exact (setKS_self _ _ _ _).symm⟩) dX0_settleSome_69
    · skip
      refine r_aload_n C dX0_settleSome_16 rfl rfl ?_
      refine r_iconst C dX0_settleSome_17 ?_
      refine r_callU (as := [_]) (na := 1) (rest := []) C (mid_11 hy) (hp_11 _ _) rfl (c_fix_C S y hy 3) gX0_settleSome_X0_fix_u39X3 (by decide +kernel) (by decide) (by decide) rfl (Nat.le_of_ble_eq_true rfl) rfl dX0_settleSome_18 rfl (fun v1 S1 hp1 => ?_)
      obtain ⟨rfl, e9⟩ := hp1
      subst S1
      have es : someK (iv S 11 2 y) cn = 3 := by unfold someK; rw [if_pos (by omega)]
      refine r_goto (tgt := 69) C dX0_settleSome_21 (by decide) ?_
      exact r_vret C Rr (⟨rfl, by rw [if_pos h5, es]; first | rfl | exact (setKS_self _ _ _ _).symm⟩) dX0_settleSome_69
  · skip
    exact r_vret C Rr (⟨rfl, by rw [if_neg h5]⟩) dX0_settleSome_8
set_option maxHeartbeats 4000000 in
set_option maxRecDepth 100000 in
theorem c_settleEmpty_C (S : ST) (y : Nat) (hy : y < 10) (hN : GN S 11 y) (hz : 0 ≤ iv S 11 3 y ∧ iv S 11 3 y ≤ 6)  : Ct yX0_settleEmpty wsX0_settleEmpty 1 [vr (some (11, y))] S (fun v S1 => v = none ∧ S1 = if iv S 11 3 y = 0 ∧ iv S 11 1 y = 0 then setKS S 11 y 3 0 else if iv S 11 3 y = 0 ∧ iv S 11 1 y = 1 then setKS S 11 y 4 0 else S) := by
  refine Ct.of (nL := 1) (by decide) rfl (Nat.le_of_ble_eq_true rfl) (by decide) (fun X C Rr hnL => ?_)
  have hn : ∀ i, i < 1 → i < X.2.2.2.2.2 := fun i h => by rw [hnL]; exact h
  obtain ⟨hk, hnd, hes, hpl, hth⟩ := id hN
  refine r_aload_n C dX0_settleEmpty_0 rfl rfl ?_
  refine r_getf C (mid_11 hy) (hp_11 _ _) rfl 3 (by decide) in_X0_settleEmpty_X3 lk_X0_settleEmpty_22 (Or.inl rfl) rfl dX0_settleEmpty_1 ?_
  refine r_if_ne (tgt := 22) C dX0_settleEmpty_4 (by decide) (by omega) (fun h4 => ?_) (fun h4 => ?_)
  · skip
    refine r_aload_n C dX0_settleEmpty_22 rfl rfl ?_
    refine r_getf C (mid_11 hy) (hp_11 _ _) rfl 3 (by decide) in_X0_settleEmpty_X3 lk_X0_settleEmpty_22 (Or.inl rfl) rfl dX0_settleEmpty_23 ?_
    refine r_if_ne (tgt := 42) C dX0_settleEmpty_26 (by decide) (by omega) (fun h26 => ?_) (fun h26 => ?_)
    · skip
      exact r_vret C Rr (⟨rfl, by first | (exfalso; omega) | rw [if_pos (by omega)] | rw [if_neg (by omega), if_pos (by omega)] | rw [if_neg (by omega), if_neg (by omega)]⟩) dX0_settleEmpty_42
    · skip
      refine r_aload_n C dX0_settleEmpty_29 rfl rfl ?_
      refine r_getf C (mid_11 hy) (hp_11 _ _) rfl 1 (by decide) in_X0_settleEmpty_X3 lk_X0_settleEmpty_15 (Or.inl rfl) rfl dX0_settleEmpty_30 ?_
      refine r_iconst C dX0_settleEmpty_33 ?_
      refine r_icmp_ne (tgt := 42) C dX0_settleEmpty_34 (by decide) (by omega) (by omega) (fun h34 => ?_) (fun h34 => ?_)
      · skip
        exact r_vret C Rr (⟨rfl, by first | (exfalso; omega) | rw [if_pos (by omega)] | rw [if_neg (by omega), if_pos (by omega)] | rw [if_neg (by omega), if_neg (by omega)]⟩) dX0_settleEmpty_42
      · skip
        refine r_aload_n C dX0_settleEmpty_37 rfl rfl ?_
        refine r_iconst C dX0_settleEmpty_38 ?_
        refine r_callU (as := [_]) (na := 1) (rest := []) C (mid_11 hy) (hp_11 _ _) rfl (c_fix_C S y hy 4) gX0_settleEmpty_X0_fix_u39X3 (by decide +kernel) (by decide) (by decide) rfl (Nat.le_of_ble_eq_true rfl) rfl dX0_settleEmpty_39 rfl (fun v1 S1 hp1 => ?_)
        obtain ⟨rfl, e9⟩ := hp1
        subst S1
        exact r_vret C Rr (⟨rfl, by first | (exfalso; omega) | rw [if_pos (by omega)] | rw [if_neg (by omega), if_pos (by omega)] | rw [if_neg (by omega), if_neg (by omega)]⟩) dX0_settleEmpty_42
  · skip
    refine r_aload_n C dX0_settleEmpty_7 rfl rfl ?_
    refine r_getf C (mid_11 hy) (hp_11 _ _) rfl 1 (by decide) in_X0_settleEmpty_X3 lk_X0_settleEmpty_15 (Or.inl rfl) rfl dX0_settleEmpty_8 ?_
    refine r_if_ne (tgt := 22) C dX0_settleEmpty_11 (by decide) (by omega) (fun h11 => ?_) (fun h11 => ?_)
    · skip
      refine r_aload_n C dX0_settleEmpty_22 rfl rfl ?_
      refine r_getf C (mid_11 hy) (hp_11 _ _) rfl 3 (by decide) in_X0_settleEmpty_X3 lk_X0_settleEmpty_22 (Or.inl rfl) rfl dX0_settleEmpty_23 ?_
      refine r_if_ne (tgt := 42) C dX0_settleEmpty_26 (by decide) (by omega) (fun h26 => ?_) (fun h26 => ?_)
      · skip
        exact r_vret C Rr (⟨rfl, by first | (exfalso; omega) | rw [if_pos (by omega)] | rw [if_neg (by omega), if_pos (by omega)] | rw [if_neg (by omega), if_neg (by omega)]⟩) dX0_settleEmpty_42
      · skip
        refine r_aload_n C dX0_settleEmpty_29 rfl rfl ?_
        refine r_getf C (mid_11 hy) (hp_11 _ _) rfl 1 (by decide) in_X0_settleEmpty_X3 lk_X0_settleEmpty_15 (Or.inl rfl) rfl dX0_settleEmpty_30 ?_
        refine r_iconst C dX0_settleEmpty_33 ?_
        refine r_icmp_ne (tgt := 42) C dX0_settleEmpty_34 (by decide) (by omega) (by omega) (fun h34 => ?_) (fun h34 => ?_)
        · skip
          exact r_vret C Rr (⟨rfl, by first | (exfalso; omega) | rw [if_pos (by omega)] | rw [if_neg (by omega), if_pos (by omega)] | rw [if_neg (by omega), if_neg (by omega)]⟩) dX0_settleEmpty_42
        · skip
          refine r_aload_n C dX0_settleEmpty_37 rfl rfl ?_
          refine r_iconst C dX0_settleEmpty_38 ?_
          refine r_callU (as := [_]) (na := 1) (rest := []) C (mid_11 hy) (hp_11 _ _) rfl (c_fix_C S y hy 4) gX0_settleEmpty_X0_fix_u39X3 (by decide +kernel) (by decide) (by decide) rfl (Nat.le_of_ble_eq_true rfl) rfl dX0_settleEmpty_39 rfl (fun v1 S1 hp1 => ?_)
          obtain ⟨rfl, e9⟩ := hp1
          subst S1
          exact r_vret C Rr (⟨rfl, by first | (exfalso; omega) | rw [if_pos (by omega)] | rw [if_neg (by omega), if_pos (by omega)] | rw [if_neg (by omega), if_neg (by omega)]⟩) dX0_settleEmpty_42
    · skip
      refine r_aload_n C dX0_settleEmpty_14 rfl rfl ?_
      refine r_iconst C dX0_settleEmpty_15 ?_
      refine r_callU (as := [_]) (na := 1) (rest := []) C (mid_11 hy) (hp_11 _ _) rfl (c_fix_C S y hy 3) gX0_settleEmpty_X0_fix_u39X3 (by decide +kernel) (by decide) (by decide) rfl (Nat.le_of_ble_eq_true rfl) rfl dX0_settleEmpty_16 rfl (fun v1 S1 hp1 => ?_)
      obtain ⟨rfl, e9⟩ := hp1
      subst S1
      refine r_goto (tgt := 42) C dX0_settleEmpty_19 (by decide) ?_
      exact r_vret C Rr (⟨rfl, by first | (exfalso; omega) | rw [if_pos (by omega)] | rw [if_neg (by omega), if_pos (by omega)] | rw [if_neg (by omega), if_neg (by omega)]⟩) dX0_settleEmpty_42
set_option maxHeartbeats 4000000 in
set_option maxRecDepth 100000 in
theorem c_leastEstimate_C (S : ST) (y : Nat) (hy : y < 10) (m : Int) (hm : 0 ≤ m ∧ m ≤ 40) (hE : ∀ p, p < 60 → 0 ≤ (iv S 14 1 p) ∧ (iv S 14 1 p) ≤ 40) (hG : GP S 11 12 y 60)  : Ct yX0_leastEstimate wsX0_leastEstimate 1 [vr (some (11, y)), vi m] S (fun v S1 => v = some (vi (leastF (fun j => iv S 14 1 (pa S 12 y j)) m (iv S 11 3 y).toNat)) ∧ S1 = S) := by
  refine Ct.of (nL := 5) (by decide) rfl (Nat.le_of_ble_eq_true rfl) (by decide) (fun X C Rr hnL => ?_)
  have hn : ∀ i, i < 5 → i < X.2.2.2.2.2 := fun i h => by rw [hnL]; exact h
  obtain ⟨hz, hps⟩ := id hG
  refine r_iload_n C dX0_leastEstimate_0 rfl rfl ?_
  refine r_istore_n (lv' := [(2, _), (0, _), (1, _)]) C dX0_leastEstimate_1 rfl (hn _ (by decide)) rfl ?_
  refine r_iconst C dX0_leastEstimate_2 ?_
  refine r_istore_n (lv' := [(3, _), (2, _), (0, _), (1, _)]) C dX0_leastEstimate_3 rfl (hn _ (by decide)) rfl ?_
  have loop4 : ∀ (k i : Nat) (hk : 7 - i < k) (hi : (i : Int) ≤ iv S 11 3 y), At X 0 0 4 [(0, vr (some (11, y))), (1, vi m), (2, vi (leastF (fun j => iv S 14 1 (pa S 12 y j)) m i)), (3, vi (i : Int))] [] S := by
    intro k
    induction k with
    | zero => intro i hk hi; exact absurd hk (by omega)
    | succ k ih =>
      intro i hk hi
      have hlb := leastF_b (e := (fun j => iv S 14 1 (pa S 12 y j))) hm i (fun j hj => hE _ (hps j (by omega)).2)
      refine r_iload_n C dX0_leastEstimate_4 rfl rfl ?_
      refine r_aload_n C dX0_leastEstimate_5 rfl rfl ?_
      refine r_getf C (mid_11 hy) (hp_11 _ _) rfl 3 (by decide) in_X0_leastEstimate_X3 lk_X0_leastEstimate_22 (Or.inl rfl) rfl dX0_leastEstimate_6 ?_
      refine r_icmp_ge (tgt := 40) C dX0_leastEstimate_9 (by decide) (by omega) (by omega) (fun h9 => ?_) (fun h9 => ?_)
      · skip
        refine r_iload_n C dX0_leastEstimate_40 rfl rfl ?_
        exact r_iret C Rr (⟨by rw [show (iv S 11 3 y).toNat = i by omega], rfl⟩) dX0_leastEstimate_41
      · skip
        refine r_aload_n C dX0_leastEstimate_12 rfl rfl ?_
        refine r_iload_n C dX0_leastEstimate_13 rfl rfl ?_
        refine r_callU (as := [_]) (na := 1) (rest := []) C (mid_11 hy) (hp_11 _ _) rfl (c_partAt_C S y hy (i : Int) (by omega) hz) gX0_leastEstimate_X0_partAt_u32X3 (by decide +kernel) (by decide) (by decide) rfl (Nat.le_of_ble_eq_true rfl) rfl dX0_leastEstimate_14 rfl (fun v1 S1 hp1 => ?_)
        obtain ⟨rfl, e9⟩ := hp1
        subst S1
        have hpi := hps i (by omega)
        refine At_val (v' := vr (some (14, pa S 12 y i))) (by rw [if_pos (by omega), Int.toNat_natCast, hpi.1]; rfl) ?_
        refine r_astore (lv' := [(4, _), (0, _), (1, _), (2, _), (3, _)]) C dX0_leastEstimate_17 (hn _ (by decide)) rfl ?_
        refine r_aload C dX0_leastEstimate_19 rfl ?_
        refine r_ifnull (tgt := 34) C dX0_leastEstimate_21 (by decide) (fun h => by cases h) (fun i21 h21 => ?_)
        clear h21
        refine r_iload_n C dX0_leastEstimate_24 rfl rfl ?_
        refine r_aload C dX0_leastEstimate_25 rfl ?_
        refine r_getf C (mid_14 hpi.2) (hp_14 _ _) rfl 1 (by decide) in_X0_leastEstimate_X4 lk_X0_leastEstimate_66 (Or.inl rfl) rfl dX0_leastEstimate_27 ?_
        have hEi := hE _ hpi.2
        refine r_mmin C (by decide) lk_X0_leastEstimate_60 st_X0_leastEstimate_Mmin ini_X0_leastEstimate_Math co_X0_leastEstimate_Mmin (by omega) (by omega) (Nat.le_of_ble_eq_true rfl) dX0_leastEstimate_30 ?_
        refine r_istore_n (lv' := [(2, _), (4, _), (0, _), (1, _), (3, _)]) C dX0_leastEstimate_33 rfl (hn _ (by decide)) rfl ?_
        refine r_iinc (lv' := [(3, _), (2, _), (4, _), (0, _), (1, _)]) C dX0_leastEstimate_34 rfl (hn _ (by decide)) rfl ?_
        refine r_goto (tgt := 4) C dX0_leastEstimate_37 (by decide) ?_
        exact At_lv (by simp [leastF]) (ih (i + 1) (by omega) (by omega))
  exact At_lv (by simp [leastF]) (loop4 8 0 (by omega) (by omega))
set_option maxHeartbeats 4000000 in
set_option maxRecDepth 100000 in
theorem c_sumOfEstimates_C (S : ST) (y : Nat) (hy : y < 10) (hE : ∀ p, p < 60 → 0 ≤ (iv S 14 1 p) ∧ (iv S 14 1 p) ≤ 40) (hG : GP S 11 12 y 60)  : Ct yX0_sumOfEstimates wsX0_sumOfEstimates 1 [vr (some (11, y))] S (fun v S1 => v = some (vi (sumF (fun j => iv S 14 1 (pa S 12 y j)) (iv S 11 3 y).toNat)) ∧ S1 = S) := by
  refine Ct.of (nL := 4) (by decide) rfl (Nat.le_of_ble_eq_true rfl) (by decide) (fun X C Rr hnL => ?_)
  have hn : ∀ i, i < 4 → i < X.2.2.2.2.2 := fun i h => by rw [hnL]; exact h
  obtain ⟨hz, hps⟩ := id hG
  refine r_iconst C dX0_sumOfEstimates_0 ?_
  refine r_istore_n (lv' := [(1, _), (0, _)]) C dX0_sumOfEstimates_1 rfl (hn _ (by decide)) rfl ?_
  refine r_iconst C dX0_sumOfEstimates_2 ?_
  refine r_istore_n (lv' := [(2, _), (1, _), (0, _)]) C dX0_sumOfEstimates_3 rfl (hn _ (by decide)) rfl ?_
  have loop4 : ∀ (k i : Nat) (hk : 7 - i < k) (hi : (i : Int) ≤ iv S 11 3 y), At X 0 0 4 [(0, vr (some (11, y))), (1, vi (sumF (fun j => iv S 14 1 (pa S 12 y j)) i)), (2, vi (i : Int))] [] S := by
    intro k
    induction k with
    | zero => intro i hk hi; exact absurd hk (by omega)
    | succ k ih =>
      intro i hk hi
      refine r_iload_n C dX0_sumOfEstimates_4 rfl rfl ?_
      refine r_aload_n C dX0_sumOfEstimates_5 rfl rfl ?_
      refine r_getf C (mid_11 hy) (hp_11 _ _) rfl 3 (by decide) in_X0_sumOfEstimates_X3 lk_X0_sumOfEstimates_22 (Or.inl rfl) rfl dX0_sumOfEstimates_6 ?_
      refine r_icmp_ge (tgt := 35) C dX0_sumOfEstimates_9 (by decide) (by omega) (by omega) (fun h9 => ?_) (fun h9 => ?_)
      · skip
        refine r_iload_n C dX0_sumOfEstimates_35 rfl rfl ?_
        exact r_iret C Rr (⟨by rw [show (iv S 11 3 y).toNat = i by omega], rfl⟩) dX0_sumOfEstimates_36
      · skip
        refine r_aload_n C dX0_sumOfEstimates_12 rfl rfl ?_
        refine r_iload_n C dX0_sumOfEstimates_13 rfl rfl ?_
        refine r_callU (as := [_]) (na := 1) (rest := []) C (mid_11 hy) (hp_11 _ _) rfl (c_partAt_C S y hy (i : Int) (by omega) hz) gX0_sumOfEstimates_X0_partAt_u32X3 (by decide +kernel) (by decide) (by decide) rfl (Nat.le_of_ble_eq_true rfl) rfl dX0_sumOfEstimates_14 rfl (fun v1 S1 hp1 => ?_)
        obtain ⟨rfl, e9⟩ := hp1
        subst S1
        have hpi := hps i (by omega)
        refine At_val (v' := vr (some (14, pa S 12 y i))) (by rw [if_pos (by omega), Int.toNat_natCast, hpi.1]; rfl) ?_
        refine r_astore_n (lv' := [(3, _), (0, _), (1, _), (2, _)]) C dX0_sumOfEstimates_17 rfl (hn _ (by decide)) rfl ?_
        refine r_aload_n C dX0_sumOfEstimates_18 rfl rfl ?_
        refine r_ifnull (tgt := 29) C dX0_sumOfEstimates_19 (by decide) (fun h => by cases h) (fun i19 h19 => ?_)
        clear h19
        refine r_iload_n C dX0_sumOfEstimates_22 rfl rfl ?_
        refine r_aload_n C dX0_sumOfEstimates_23 rfl rfl ?_
        refine r_getf C (mid_14 hpi.2) (hp_14 _ _) rfl 1 (by decide) in_X0_sumOfEstimates_X4 lk_X0_sumOfEstimates_66 (Or.inl rfl) rfl dX0_sumOfEstimates_24 ?_
        refine r_iadd C dX0_sumOfEstimates_27 ?_
        refine r_istore_n (lv' := [(1, _), (3, _), (0, _), (2, _)]) C dX0_sumOfEstimates_28 rfl (hn _ (by decide)) rfl ?_
        refine r_iinc (lv' := [(2, _), (1, _), (3, _), (0, _)]) C dX0_sumOfEstimates_29 rfl (hn _ (by decide)) rfl ?_
        refine r_goto (tgt := 4) C dX0_sumOfEstimates_32 (by decide) ?_
        exact At_lv (by simp [sumF]) (ih (i + 1) (by omega) (by omega))
  exact At_lv (by simp [sumF]) (loop4 8 0 (by omega) (by omega))
set_option maxHeartbeats 4000000 in
set_option maxRecDepth 100000 in
theorem c_appraise_C (S : ST) (y : Nat) (hy : y < 10) (hN : GN S 11 y) (hE : ∀ p, p < 60 → 0 ≤ (iv S 14 1 p) ∧ (iv S 14 1 p) ≤ 40) (hG : GP S 11 12 y 60)  : Ct yX0_appraise wsX0_appraise 2 [vr (some (11, y))] S (fun v S1 => v = none ∧ S1 = si S 11 6 y (aprF (iv S 11 1 y) (iv S 11 2 y) (pop (jv S 11 4 y) : Int) (leastF (fun j => iv S 14 1 (pa S 12 y j)) (pop (jv S 11 4 y) : Int) (iv S 11 3 y).toNat) (sumF (fun j => iv S 14 1 (pa S 12 y j)) (iv S 11 3 y).toNat))) := by
  refine Ct.of (nL := 2) (by decide) rfl (Nat.le_of_ble_eq_true rfl) (by decide) (fun X C Rr hnL => ?_)
  have hn : ∀ i, i < 2 → i < X.2.2.2.2.2 := fun i h => by rw [hnL]; exact h
  obtain ⟨hk, hnd, hes, hpl, hth⟩ := id hN
  obtain ⟨hz, hps⟩ := id hG
  have hpp := pop_le hth
  have hsb := sumF_b (e := (fun j => iv S 14 1 (pa S 12 y j))) (iv S 11 3 y).toNat (fun j hj => hE _ (hps j (by omega)).2)
  refine r_aload_n C dX0_appraise_0 rfl rfl ?_
  refine r_getf C (mid_11 hy) (hp_11 _ _) rfl 4 (by decide) in_X0_appraise_X3 lk_X0_appraise_25 (Or.inl rfl) rfl dX0_appraise_1 ?_
  refine r_callS (as := [_]) (na := 1) (rest := []) C (c_bitCount S (jv S 11 4 y) hth) gX0_appraise_J13_bitCount_95d88 (by decide +kernel) (by decide) (by decide) rfl (Nat.le_of_ble_eq_true rfl) rfl dX0_appraise_4 rfl (fun v1 S1 hp1 => ?_)
  obtain ⟨rfl, e9⟩ := hp1
  subst S1
  refine r_istore_n (lv' := [(1, _), (0, _)]) C dX0_appraise_7 rfl (hn _ (by decide)) rfl ?_
  refine r_aload_n C dX0_appraise_8 rfl rfl ?_
  refine r_getf C (mid_11 hy) (hp_11 _ _) rfl 1 (by decide) in_X0_appraise_X3 lk_X0_appraise_15 (Or.inl rfl) rfl dX0_appraise_9 ?_
  rcases (by omega : iv S 11 1 y = 0 ∨ iv S 11 1 y = 1 ∨ iv S 11 1 y = 2 ∨ iv S 11 1 y = 3 ∨ iv S 11 1 y = 4) with hkk | hkk | hkk | hkk | hkk
  · refine At_val (v' := vi 0) (by rw [hkk]) ?_
    refine r_tin (tgt := 44) C dX0_appraise_12 (by omega) (by decide) (by decide) rfl (by decide) ?_
    refine r_aload_n C dX0_appraise_44 rfl rfl ?_
    refine r_aload_n C dX0_appraise_45 rfl rfl ?_
    refine r_iload_n C dX0_appraise_46 rfl rfl ?_
    refine r_callU (as := [_]) (na := 1) (rest := [_]) C (mid_11 hy) (hp_11 _ _) rfl (c_leastEstimate_C S y hy _ (by omega) hE hG) gX0_appraise_X0_leastEstimate_u49X3 (by decide +kernel) (by decide) (by decide) rfl (Nat.le_of_ble_eq_true rfl) rfl dX0_appraise_47 rfl (fun v1 S1 hp1 => ?_)
    obtain ⟨rfl, e9⟩ := hp1
    subst S1
    refine r_putf  C (mid_11 hy) (hp_11 _ _) rfl 6 (by decide) in_X0_appraise_X3 lk_X0_appraise_53 (Or.inr sm_X0_appraise_Group_estimate) tyX3 tyX3_ok nmX3 rfl (tyX3_ok 6 (by decide)) (fun _ => rfl) (fun _ => rfl) (Nat.le_of_ble_eq_true rfl) (hs_11_6 _ _ _) dX0_appraise_50 ?_
    refine r_goto (tgt := 116) C dX0_appraise_53 (by decide) ?_
    exact r_vret C Rr (⟨rfl, by unfold aprF; simp [hkk]⟩) dX0_appraise_116
  · refine At_val (v' := vi 1) (by rw [hkk]) ?_
    refine r_tin (tgt := 56) C dX0_appraise_12 (by omega) (by decide) (by decide) rfl (by decide) ?_
    refine r_aload_n C dX0_appraise_56 rfl rfl ?_
    refine r_aload_n C dX0_appraise_57 rfl rfl ?_
    refine r_callU (as := []) (na := 0) (rest := [_]) C (mid_11 hy) (hp_11 _ _) rfl (c_sumOfEstimates_C S y hy hE hG) gX0_appraise_X0_sumOfEstimates_u56X3 (by decide +kernel) (by decide) (by decide) rfl (Nat.le_of_ble_eq_true rfl) rfl dX0_appraise_58 rfl (fun v1 S1 hp1 => ?_)
    obtain ⟨rfl, e9⟩ := hp1
    subst S1
    refine r_iload_n C dX0_appraise_61 rfl rfl ?_
    refine r_mmin C (by decide) lk_X0_appraise_60 st_X0_appraise_Mmin ini_X0_appraise_Math co_X0_appraise_Mmin (by omega) (by omega) (Nat.le_of_ble_eq_true rfl) dX0_appraise_62 ?_
    refine r_putf  C (mid_11 hy) (hp_11 _ _) rfl 6 (by decide) in_X0_appraise_X3 lk_X0_appraise_53 (Or.inr sm_X0_appraise_Group_estimate) tyX3 tyX3_ok nmX3 rfl (tyX3_ok 6 (by decide)) (fun _ => rfl) (fun _ => rfl) (Nat.le_of_ble_eq_true rfl) (hs_11_6 _ _ _) dX0_appraise_65 ?_
    refine r_goto (tgt := 116) C dX0_appraise_68 (by decide) ?_
    exact r_vret C Rr (⟨rfl, by unfold aprF; simp [hkk]⟩) dX0_appraise_116
  · refine At_val (v' := vi 2) (by rw [hkk]) ?_
    refine r_tin (tgt := 71) C dX0_appraise_12 (by omega) (by decide) (by decide) rfl (by decide) ?_
    refine r_aload_n C dX0_appraise_71 rfl rfl ?_
    refine r_aload_n C dX0_appraise_72 rfl rfl ?_
    refine r_getf C (mid_11 hy) (hp_11 _ _) rfl 2 (by decide) in_X0_appraise_X3 lk_X0_appraise_19 (Or.inl rfl) rfl dX0_appraise_73 ?_
    refine r_iconst C dX0_appraise_76 ?_
    refine r_icmp_ge (tgt := 84) C dX0_appraise_77 (by decide) (by omega) (by omega) (fun h77 => ?_) (fun h77 => ?_)
    · skip
      refine r_aload_n C dX0_appraise_84 rfl rfl ?_
      refine r_callU (as := []) (na := 0) (rest := [_]) C (mid_11 hy) (hp_11 _ _) rfl (c_sumOfEstimates_C S y hy hE hG) gX0_appraise_X0_sumOfEstimates_u56X3 (by decide +kernel) (by decide) (by decide) rfl (Nat.le_of_ble_eq_true rfl) rfl dX0_appraise_85 rfl (fun v1 S1 hp1 => ?_)
      obtain ⟨rfl, e9⟩ := hp1
      subst S1
      refine r_aload_n C dX0_appraise_88 rfl rfl ?_
      refine r_getf C (mid_11 hy) (hp_11 _ _) rfl 2 (by decide) in_X0_appraise_X3 lk_X0_appraise_19 (Or.inl rfl) rfl dX0_appraise_89 ?_
      refine r_idiv (z := (sumF (fun j => iv S 14 1 (pa S 12 y j)) (iv S 11 3 y).toNat) / iv S 11 2 y) C dX0_appraise_92 (m_ne0 (by omega)) (m_idiv (by omega) (by omega)) ?_
      have hdv : 0 ≤ (sumF (fun j => iv S 14 1 (pa S 12 y j)) (iv S 11 3 y).toNat) / iv S 11 2 y ∧ (sumF (fun j => iv S 14 1 (pa S 12 y j)) (iv S 11 3 y).toNat) / iv S 11 2 y ≤ 240 := ⟨Int.ediv_nonneg (by omega) (by omega), Int.le_trans (Int.ediv_le_self _ (by omega)) (by omega)⟩
      refine r_iload_n C dX0_appraise_93 rfl rfl ?_
      refine r_mmin C (by decide) lk_X0_appraise_60 st_X0_appraise_Mmin ini_X0_appraise_Math co_X0_appraise_Mmin (by omega) (by omega) (Nat.le_of_ble_eq_true rfl) dX0_appraise_94 ?_
      refine r_putf  C (mid_11 hy) (hp_11 _ _) rfl 6 (by decide) in_X0_appraise_X3 lk_X0_appraise_53 (Or.inr sm_X0_appraise_Group_estimate) tyX3 tyX3_ok nmX3 rfl (tyX3_ok 6 (by decide)) (fun _ => rfl) (fun _ => rfl) (Nat.le_of_ble_eq_true rfl) (hs_11_6 _ _ _) dX0_appraise_97 ?_
      refine r_goto (tgt := 116) C dX0_appraise_100 (by decide) ?_
      exact r_vret C Rr (⟨rfl, by unfold aprF; rw [hkk, if_neg (by omega), if_neg (by omega), if_pos rfl]; first | rw [if_neg (by omega)] | rw [if_pos (by omega)]⟩) dX0_appraise_116
    · skip
      refine r_iload_n C dX0_appraise_80 rfl rfl ?_
      refine r_goto (tgt := 97) C dX0_appraise_81 (by decide) ?_
      refine r_putf  C (mid_11 hy) (hp_11 _ _) rfl 6 (by decide) in_X0_appraise_X3 lk_X0_appraise_53 (Or.inr sm_X0_appraise_Group_estimate) tyX3 tyX3_ok nmX3 rfl (tyX3_ok 6 (by decide)) (fun _ => rfl) (fun _ => rfl) (Nat.le_of_ble_eq_true rfl) (hs_11_6 _ _ _) dX0_appraise_97 ?_
      refine r_goto (tgt := 116) C dX0_appraise_100 (by decide) ?_
      exact r_vret C Rr (⟨rfl, by unfold aprF; rw [hkk, if_neg (by omega), if_neg (by omega), if_pos rfl]; first | rw [if_neg (by omega)] | rw [if_pos (by omega)]⟩) dX0_appraise_116
  · refine At_val (v' := vi 3) (by rw [hkk]) ?_
    refine r_tin (tgt := 103) C dX0_appraise_12 (by omega) (by decide) (by decide) rfl (by decide) ?_
    refine r_aload_n C dX0_appraise_103 rfl rfl ?_
    refine r_iload_n C dX0_appraise_104 rfl rfl ?_
    refine r_putf  C (mid_11 hy) (hp_11 _ _) rfl 6 (by decide) in_X0_appraise_X3 lk_X0_appraise_53 (Or.inr sm_X0_appraise_Group_estimate) tyX3 tyX3_ok nmX3 rfl (tyX3_ok 6 (by decide)) (fun _ => rfl) (fun _ => rfl) (Nat.le_of_ble_eq_true rfl) (hs_11_6 _ _ _) dX0_appraise_105 ?_
    refine r_goto (tgt := 116) C dX0_appraise_108 (by decide) ?_
    exact r_vret C Rr (⟨rfl, by unfold aprF; simp [hkk]⟩) dX0_appraise_116
  · refine At_val (v' := vi 4) (by rw [hkk]) ?_
    refine r_tout (tgt := 111) C dX0_appraise_12 (by omega) (by omega) (by decide) ?_
    refine r_aload_n C dX0_appraise_111 rfl rfl ?_
    refine r_iconst C dX0_appraise_112 ?_
    refine r_putf  C (mid_11 hy) (hp_11 _ _) rfl 6 (by decide) in_X0_appraise_X3 lk_X0_appraise_53 (Or.inr sm_X0_appraise_Group_estimate) tyX3 tyX3_ok nmX3 rfl (tyX3_ok 6 (by decide)) (fun _ => rfl) (fun _ => rfl) (Nat.le_of_ble_eq_true rfl) (hs_11_6 _ _ _) dX0_appraise_113 ?_
    exact r_vret C Rr (⟨rfl, by unfold aprF; simp [hkk]⟩) dX0_appraise_116
set_option maxHeartbeats 4000000 in
set_option maxRecDepth 100000 in
theorem c_isBefore_C (S : ST) (y : Nat) (hy : y < 10) (p q : Nat) (hp0 : p < 60) (hq0 : q < 60) (hE : ∀ p, p < 60 → 0 ≤ (iv S 14 1 p) ∧ (iv S 14 1 p) ≤ 40) (hL : IL S)  : Ct yX0_isBefore wsX0_isBefore 0 [vr (some (11, y)), vr (some (14, p)), vr (some (14, q))] S (fun v S1 => v = some (vi (b2i (decide ((iv S 14 1 p) < (iv S 14 1 q) ∨ ((iv S 14 1 p) = (iv S 14 1 q) ∧ (iv S 14 0 p) < (iv S 14 0 q)))))) ∧ S1 = S) := by
  refine Ct.of (nL := 3) (by decide) rfl (Nat.le_of_ble_eq_true rfl) (by decide) (fun X C Rr hnL => ?_)
  have hn : ∀ i, i < 3 → i < X.2.2.2.2.2 := fun i h => by rw [hnL]; exact h
  have hEp := hE p hp0
  have hEq := hE q hq0
  have hLp := hL p hp0
  have hLq := hL q hq0
  refine r_aload_n C dX0_isBefore_0 rfl rfl ?_
  refine r_ifnull (tgt := 8) C dX0_isBefore_1 (by decide) (fun h => by cases h) (fun i1 h1 => ?_)
  clear h1
  refine r_aload_n C dX0_isBefore_4 rfl rfl ?_
  refine r_ifnonnull (tgt := 10) C dX0_isBefore_5 (by decide) (fun i5 h5 => ?_) (fun h => by cases h)
  clear h5
  refine r_aload_n C dX0_isBefore_10 rfl rfl ?_
  refine r_getf C (mid_14 hp0) (hp_14 _ _) rfl 1 (by decide) in_X0_isBefore_X4 lk_X0_isBefore_66 (Or.inl rfl) rfl dX0_isBefore_11 ?_
  refine r_aload_n C dX0_isBefore_14 rfl rfl ?_
  refine r_getf C (mid_14 hq0) (hp_14 _ _) rfl 1 (by decide) in_X0_isBefore_X4 lk_X0_isBefore_66 (Or.inl rfl) rfl dX0_isBefore_15 ?_
  refine r_icmp_eq (tgt := 38) C dX0_isBefore_18 (by decide) (by omega) (by omega) (fun h18 => ?_) (fun h18 => ?_)
  · skip
    refine r_aload_n C dX0_isBefore_38 rfl rfl ?_
    refine r_getf C (mid_14 hp0) (hp_14 _ _) rfl 0 (by decide) in_X0_isBefore_X4 lk_X0_isBefore_36 (Or.inl rfl) rfl dX0_isBefore_39 ?_
    refine r_aload_n C dX0_isBefore_42 rfl rfl ?_
    refine r_getf C (mid_14 hq0) (hp_14 _ _) rfl 0 (by decide) in_X0_isBefore_X4 lk_X0_isBefore_36 (Or.inl rfl) rfl dX0_isBefore_43 ?_
    refine r_icmp_ge (tgt := 53) C dX0_isBefore_46 (by decide) (by omega) (by omega) (fun h46 => ?_) (fun h46 => ?_)
    · skip
      refine r_iconst C dX0_isBefore_53 ?_
      exact r_zret C Rr (by decide) (⟨by first | rw [b2i_t (decide_eq_true (by omega))] | rw [b2i_f (decide_eq_false (by omega))], rfl⟩) dX0_isBefore_54
    · skip
      refine r_iconst C dX0_isBefore_49 ?_
      refine r_goto (tgt := 54) C dX0_isBefore_50 (by decide) ?_
      exact r_zret C Rr (by decide) (⟨by first | rw [b2i_t (decide_eq_true (by omega))] | rw [b2i_f (decide_eq_false (by omega))], rfl⟩) dX0_isBefore_54
  · skip
    refine r_aload_n C dX0_isBefore_21 rfl rfl ?_
    refine r_getf C (mid_14 hp0) (hp_14 _ _) rfl 1 (by decide) in_X0_isBefore_X4 lk_X0_isBefore_66 (Or.inl rfl) rfl dX0_isBefore_22 ?_
    refine r_aload_n C dX0_isBefore_25 rfl rfl ?_
    refine r_getf C (mid_14 hq0) (hp_14 _ _) rfl 1 (by decide) in_X0_isBefore_X4 lk_X0_isBefore_66 (Or.inl rfl) rfl dX0_isBefore_26 ?_
    refine r_icmp_ge (tgt := 36) C dX0_isBefore_29 (by decide) (by omega) (by omega) (fun h29 => ?_) (fun h29 => ?_)
    · skip
      refine r_iconst C dX0_isBefore_36 ?_
      exact r_zret C Rr (by decide) (⟨by first | rw [b2i_t (decide_eq_true (by omega))] | rw [b2i_f (decide_eq_false (by omega))], rfl⟩) dX0_isBefore_37
    · skip
      refine r_iconst C dX0_isBefore_32 ?_
      refine r_goto (tgt := 37) C dX0_isBefore_33 (by decide) ?_
      exact r_zret C Rr (by decide) (⟨by first | rw [b2i_t (decide_eq_true (by omega))] | rw [b2i_f (decide_eq_false (by omega))], rfl⟩) dX0_isBefore_37
set_option maxHeartbeats 4000000 in
set_option maxRecDepth 100000 in
theorem c_restart_P (S : ST) (y : Nat) (hy : y < 2) (kd nd : Int) (B : Nat) : Ct yX0_restart wsX0_restart 0 [vr (some (8, y)), vi kd, vi nd, vl (B : Int)] S (fun v S1 => v = none ∧ S1 = si (sj (si (si (si S 8 1 y kd) 8 2 y nd) 8 3 y 0) 8 4 y B) 8 7 y (-1)) := by
  refine Ct.of (nL := 5) (by decide) rfl (Nat.le_of_ble_eq_true rfl) (by decide) (fun X C Rr hnL => ?_)
  have hn : ∀ i, i < 5 → i < X.2.2.2.2.2 := fun i h => by rw [hnL]; exact h
  refine r_aload_n C dX0_restart_0 rfl rfl ?_
  refine r_iload_n C dX0_restart_1 rfl rfl ?_
  refine r_putf  C (mid_8 hy) (hp_8 _ _) rfl 1 (by decide) in_X0_restart_X2 lk_X0_restart_15 (Or.inl rfl) tyX2 tyX2_ok nmX2 rfl (tyX2_ok 1 (by decide)) (fun _ => rfl) (fun _ => rfl) (Nat.le_of_ble_eq_true rfl) (hs_8_1 _ _ _) dX0_restart_2 ?_
  refine r_aload_n C dX0_restart_5 rfl rfl ?_
  refine r_iload_n C dX0_restart_6 rfl rfl ?_
  refine r_putf  C (mid_8 hy) (hp_8 _ _) rfl 2 (by decide) in_X0_restart_X2 lk_X0_restart_19 (Or.inl rfl) tyX2 tyX2_ok nmX2 rfl (tyX2_ok 2 (by decide)) (fun _ => rfl) (fun _ => rfl) (Nat.le_of_ble_eq_true rfl) (hs_8_2 _ _ _) dX0_restart_7 ?_
  refine r_aload_n C dX0_restart_10 rfl rfl ?_
  refine r_iconst C dX0_restart_11 ?_
  refine r_putf  C (mid_8 hy) (hp_8 _ _) rfl 3 (by decide) in_X0_restart_X2 lk_X0_restart_22 (Or.inl rfl) tyX2 tyX2_ok nmX2 rfl (tyX2_ok 3 (by decide)) (fun _ => rfl) (fun _ => rfl) (Nat.le_of_ble_eq_true rfl) (hs_8_3 _ _ _) dX0_restart_12 ?_
  refine r_aload_n C dX0_restart_15 rfl rfl ?_
  refine r_lload_n C dX0_restart_16 rfl rfl ?_
  refine r_putf  C (mid_8 hy) (hp_8 _ _) rfl 4 (by decide) in_X0_restart_X2 lk_X0_restart_25 (Or.inl rfl) tyX2 tyX2_ok nmX2 rfl (tyX2_ok 4 (by decide)) (fun _ => rfl) (fun _ => rfl) (Nat.le_of_ble_eq_true rfl) (hs_8_4 _ _ _) dX0_restart_17 ?_
  refine r_aload_n C dX0_restart_20 rfl rfl ?_
  refine r_iconst C dX0_restart_21 ?_
  refine r_putf  C (mid_8 hy) (hp_8 _ _) rfl 7 (by decide) in_X0_restart_X2 lk_X0_restart_29 (Or.inr sm_X0_restart_Group_place) tyX2 tyX2_ok nmX2 rfl (tyX2_ok 7 (by decide)) (fun _ => rfl) (fun _ => rfl) (Nat.le_of_ble_eq_true rfl) (hs_8_7 _ _ _) dX0_restart_22 ?_
  exact r_vret C Rr (⟨rfl, rfl⟩) dX0_restart_25
set_option maxHeartbeats 4000000 in
set_option maxRecDepth 100000 in
theorem c_partAt_P (S : ST) (y : Nat) (hy : y < 2) (d : Int) (hd : -2147483648 ≤ d ∧ d < 2147483648) (hz : 0 ≤ iv S 8 3 y ∧ iv S 8 3 y ≤ 6)  : Ct yX0_partAt wsX0_partAt 0 [vr (some (8, y)), vi d] S (fun v S1 => v = some (vr (if 0 ≤ d ∧ d < iv S 8 3 y then (ar S 9 y d.toNat).map (fun v => ((11, v) : Idn)) else none)) ∧ S1 = S) := by
  refine Ct.of (nL := 2) (by decide) rfl (Nat.le_of_ble_eq_true rfl) (by decide) (fun X C Rr hnL => ?_)
  have hn : ∀ i, i < 2 → i < X.2.2.2.2.2 := fun i h => by rw [hnL]; exact h
  refine r_iload_n C dX0_partAt_0 rfl rfl ?_
  refine r_if_lt (tgt := 30) C dX0_partAt_1 (by decide) (by omega) (fun h1 => ?_) (fun h1 => ?_)
  · skip
    refine r_null C dX0_partAt_30 ?_
    exact r_aret C Rr (⟨by rw [if_neg (by omega)], rfl⟩) dX0_partAt_31
  · skip
    refine r_iload_n C dX0_partAt_4 rfl rfl ?_
    refine r_aload_n C dX0_partAt_5 rfl rfl ?_
    refine r_getf C (mid_8 hy) (hp_8 _ _) rfl 3 (by decide) in_X0_partAt_X2 lk_X0_partAt_22 (Or.inl rfl) rfl dX0_partAt_6 ?_
    refine r_icmp_ge (tgt := 30) C dX0_partAt_9 (by decide) (by omega) (by omega) (fun h9 => ?_) (fun h9 => ?_)
    · skip
      refine r_null C dX0_partAt_30 ?_
      exact r_aret C Rr (⟨by rw [if_neg (by omega)], rfl⟩) dX0_partAt_31
    · skip
      refine r_iload_n C dX0_partAt_12 rfl rfl ?_
      refine r_aload_n C dX0_partAt_13 rfl rfl ?_
      refine r_getf C (mid_8 hy) (hp_8 _ _) rfl 0 (by decide) in_X0_partAt_X2 lk_X0_partAt_9 (Or.inl rfl) rfl dX0_partAt_14 ?_
      refine r_alen C (mid_9 hy) (Or.inr ⟨_, (hp_9 _ _)⟩) (fun _ => ⟨_, rfl⟩) dX0_partAt_17 ?_
      refine r_icmp_ge (tgt := 30) C dX0_partAt_18 (by decide) (by omega) (by omega) (fun h18 => ?_) (fun h18 => ?_)
      · skip
        refine r_null C dX0_partAt_30 ?_
        exact r_aret C Rr (⟨by rw [if_neg (by omega)], rfl⟩) dX0_partAt_31
      · skip
        refine r_aload_n C dX0_partAt_21 rfl rfl ?_
        refine r_getf C (mid_8 hy) (hp_8 _ _) rfl 0 (by decide) in_X0_partAt_X2 lk_X0_partAt_9 (Or.inl rfl) rfl dX0_partAt_22 ?_
        refine r_iload_n C dX0_partAt_25 rfl rfl ?_
        refine r_aald (j := d.toNat) C (mid_9 hy) (hp_9 _ _) (fun _ => rfl) (by omega) (by omega) (by decide) dX0_partAt_26 ?_
        refine r_goto (tgt := 31) C dX0_partAt_27 (by decide) ?_
        exact r_aret C Rr (⟨by rw [if_pos (by omega)], rfl⟩) dX0_partAt_31
set_option maxHeartbeats 4000000 in
set_option maxRecDepth 100000 in
theorem c_keep_P (S : ST) (y : Nat) (hy : y < 2) (p : Nat) (hp0 : p < 10) (hz : 0 ≤ iv S 8 3 y ∧ iv S 8 3 y ≤ 6)  : Ct yX0_keep wsX0_keep 0 [vr (some (8, y)), vr (some (11, p))] S (fun v S1 => v = none ∧ S1 = if iv S 8 3 y < 6 then si (sr S 9 y (iv S 8 3 y).toNat (some p)) 8 3 y (iv S 8 3 y + 1) else S) := by
  refine Ct.of (nL := 2) (by decide) rfl (Nat.le_of_ble_eq_true rfl) (by decide) (fun X C Rr hnL => ?_)
  have hn : ∀ i, i < 2 → i < X.2.2.2.2.2 := fun i h => by rw [hnL]; exact h
  refine r_aload_n C dX0_keep_0 rfl rfl ?_
  refine r_getf C (mid_8 hy) (hp_8 _ _) rfl 3 (by decide) in_X0_keep_X2 lk_X0_keep_22 (Or.inl rfl) rfl dX0_keep_1 ?_
  refine r_if_lt (tgt := 39) C dX0_keep_4 (by decide) (by omega) (fun h4 => ?_) (fun h4 => ?_)
  · exact absurd h4 (by omega)
  refine r_aload_n C dX0_keep_7 rfl rfl ?_
  refine r_getf C (mid_8 hy) (hp_8 _ _) rfl 3 (by decide) in_X0_keep_X2 lk_X0_keep_22 (Or.inl rfl) rfl dX0_keep_8 ?_
  refine r_aload_n C dX0_keep_11 rfl rfl ?_
  refine r_getf C (mid_8 hy) (hp_8 _ _) rfl 0 (by decide) in_X0_keep_X2 lk_X0_keep_9 (Or.inl rfl) rfl dX0_keep_12 ?_
  refine r_alen C (mid_9 hy) (Or.inr ⟨_, (hp_9 _ _)⟩) (fun _ => ⟨_, rfl⟩) dX0_keep_15 ?_
  refine r_icmp_ge (tgt := 39) C dX0_keep_16 (by decide) (by omega) (by omega) (fun h16 => ?_) (fun h16 => ?_)
  · skip
    exact r_vret C Rr (⟨rfl, by rw [if_neg (by omega)]⟩) dX0_keep_39
  · skip
    refine r_aload_n C dX0_keep_19 rfl rfl ?_
    refine r_getf C (mid_8 hy) (hp_8 _ _) rfl 0 (by decide) in_X0_keep_X2 lk_X0_keep_9 (Or.inl rfl) rfl dX0_keep_20 ?_
    refine r_aload_n C dX0_keep_23 rfl rfl ?_
    refine r_getf C (mid_8 hy) (hp_8 _ _) rfl 3 (by decide) in_X0_keep_X2 lk_X0_keep_22 (Or.inl rfl) rfl dX0_keep_24 ?_
    refine r_aload_n C dX0_keep_27 rfl rfl ?_
    refine r_aast11 (j := (iv S 8 3 y).toNat) C (mid_9 hy) (hp_9 _ _) (mid_11 hp0) (hp_11 _ _) rfl (by omega) (by omega) (by decide) (ha_9 _ _ _ (some p)) dX0_keep_28 ?_
    refine r_aload_n C dX0_keep_29 rfl rfl ?_
    refine r_dup C rfl dX0_keep_30 ?_
    refine r_getf C (mid_8 hy) (hp_8 _ _) rfl 3 (by decide) in_X0_keep_X2 lk_X0_keep_22 (Or.inl rfl) rfl dX0_keep_31 ?_
    refine At_val (v' := vi (iv S 8 3 y)) (rfl) ?_
    refine r_iconst C dX0_keep_34 ?_
    refine r_iadd C dX0_keep_35 ?_
    refine r_putf  C (mid_8 hy) (hp_8 _ _) rfl 3 (by decide) in_X0_keep_X2 lk_X0_keep_22 (Or.inl rfl) tyX2 tyX2_ok nmX2 rfl (tyX2_ok 3 (by decide)) (fun _ => rfl) (fun _ => rfl) (Nat.le_of_ble_eq_true rfl) (hs_8_3 _ _ _) dX0_keep_36 ?_
    exact r_vret C Rr (⟨rfl, by rw [if_pos (by omega)]⟩) dX0_keep_39
set_option maxHeartbeats 4000000 in
set_option maxRecDepth 100000 in
theorem c_isFixed_P (S : ST) (y : Nat) (hy : y < 2) (hN : GN S 8 y)  : Ct yX0_isFixed wsX0_isFixed 0 [vr (some (8, y))] S (fun v S1 => v = some (vi (b2i (decide (iv S 8 1 y = 3 ∨ iv S 8 1 y = 4)))) ∧ S1 = S) := by
  refine Ct.of (nL := 1) (by decide) rfl (Nat.le_of_ble_eq_true rfl) (by decide) (fun X C Rr hnL => ?_)
  have hn : ∀ i, i < 1 → i < X.2.2.2.2.2 := fun i h => by rw [hnL]; exact h
  obtain ⟨hk, hnd, hes, hpl, hth⟩ := id hN
  refine r_aload_n C dX0_isFixed_0 rfl rfl ?_
  refine r_getf C (mid_8 hy) (hp_8 _ _) rfl 1 (by decide) in_X0_isFixed_X2 lk_X0_isFixed_15 (Or.inl rfl) rfl dX0_isFixed_1 ?_
  refine r_iconst C dX0_isFixed_4 ?_
  refine r_icmp_eq (tgt := 16) C dX0_isFixed_5 (by decide) (by omega) (by omega) (fun h5 => ?_) (fun h5 => ?_)
  · skip
    refine r_iconst C dX0_isFixed_16 ?_
    refine r_goto (tgt := 21) C dX0_isFixed_17 (by decide) ?_
    exact r_zret C Rr (by decide) (⟨by rw [b2i_t (decide_eq_true (by omega))], rfl⟩) dX0_isFixed_21
  · skip
    refine r_aload_n C dX0_isFixed_8 rfl rfl ?_
    refine r_getf C (mid_8 hy) (hp_8 _ _) rfl 1 (by decide) in_X0_isFixed_X2 lk_X0_isFixed_15 (Or.inl rfl) rfl dX0_isFixed_9 ?_
    refine r_iconst C dX0_isFixed_12 ?_
    refine r_icmp_ne (tgt := 20) C dX0_isFixed_13 (by decide) (by omega) (by omega) (fun h13 => ?_) (fun h13 => ?_)
    · skip
      refine r_iconst C dX0_isFixed_20 ?_
      exact r_zret C Rr (by decide) (⟨by rw [b2i_f (decide_eq_false (by omega))], rfl⟩) dX0_isFixed_21
    · skip
      refine r_iconst C dX0_isFixed_16 ?_
      refine r_goto (tgt := 21) C dX0_isFixed_17 (by decide) ?_
      exact r_zret C Rr (by decide) (⟨by rw [b2i_t (decide_eq_true (by omega))], rfl⟩) dX0_isFixed_21
set_option maxHeartbeats 4000000 in
set_option maxRecDepth 100000 in
theorem c_fix_P (S : ST) (y : Nat) (hy : y < 2) (k : Int) : Ct yX0_fix wsX0_fix 0 [vr (some (8, y)), vi k] S (fun v S1 => v = none ∧ S1 = setKS S 8 y k 0) := by
  refine Ct.of (nL := 2) (by decide) rfl (Nat.le_of_ble_eq_true rfl) (by decide) (fun X C Rr hnL => ?_)
  have hn : ∀ i, i < 2 → i < X.2.2.2.2.2 := fun i h => by rw [hnL]; exact h
  refine r_aload_n C dX0_fix_0 rfl rfl ?_
  refine r_iload_n C dX0_fix_1 rfl rfl ?_
  refine r_putf  C (mid_8 hy) (hp_8 _ _) rfl 1 (by decide) in_X0_fix_X2 lk_X0_fix_15 (Or.inl rfl) tyX2 tyX2_ok nmX2 rfl (tyX2_ok 1 (by decide)) (fun _ => rfl) (fun _ => rfl) (Nat.le_of_ble_eq_true rfl) (hs_8_1 _ _ _) dX0_fix_2 ?_
  refine r_aload_n C dX0_fix_5 rfl rfl ?_
  refine r_iconst C dX0_fix_6 ?_
  refine r_putf  C (mid_8 hy) (hp_8 _ _) rfl 3 (by decide) in_X0_fix_X2 lk_X0_fix_22 (Or.inl rfl) tyX2 tyX2_ok nmX2 rfl (tyX2_ok 3 (by decide)) (fun _ => rfl) (fun _ => rfl) (Nat.le_of_ble_eq_true rfl) (hs_8_3 _ _ _) dX0_fix_7 ?_
  exact r_vret C Rr (⟨rfl, rfl⟩) dX0_fix_10
set_option maxHeartbeats 4000000 in
set_option maxRecDepth 100000 in
theorem c_settleSome_P (S : ST) (y : Nat) (hy : y < 2) (cn : Int) (hcn : 0 ≤ cn ∧ cn ≤ 6) (hN : GN S 8 y)  : Ct yX0_settleSome wsX0_settleSome 1 [vr (some (8, y)), vi cn] S (fun v S1 => v = none ∧ S1 = if iv S 8 1 y = 2 then setKS S 8 y (someK (iv S 8 2 y) cn) (if someK (iv S 8 2 y) cn = 3 ∨ someK (iv S 8 2 y) cn = 4 then 0 else iv S 8 3 y) else S) := by
  refine Ct.of (nL := 2) (by decide) rfl (Nat.le_of_ble_eq_true rfl) (by decide) (fun X C Rr hnL => ?_)
  have hn : ∀ i, i < 2 → i < X.2.2.2.2.2 := fun i h => by rw [hnL]; exact h
  obtain ⟨hk, hnd, hes, hpl, hth⟩ := id hN
  refine r_aload_n C dX0_settleSome_0 rfl rfl ?_
  refine r_getf C (mid_8 hy) (hp_8 _ _) rfl 1 (by decide) in_X0_settleSome_X2 lk_X0_settleSome_15 (Or.inl rfl) rfl dX0_settleSome_1 ?_
  refine r_iconst C dX0_settleSome_4 ?_
  refine r_icmp_eq (tgt := 9) C dX0_settleSome_5 (by decide) (by omega) (by omega) (fun h5 => ?_) (fun h5 => ?_)
  · skip
    refine r_aload_n C dX0_settleSome_9 rfl rfl ?_
    refine r_getf C (mid_8 hy) (hp_8 _ _) rfl 2 (by decide) in_X0_settleSome_X2 lk_X0_settleSome_19 (Or.inl rfl) rfl dX0_settleSome_10 ?_
    refine r_if_gt (tgt := 24) C dX0_settleSome_13 (by decide) (by omega) (fun h13 => ?_) (fun h13 => ?_)
    · skip
      refine r_aload_n C dX0_settleSome_24 rfl rfl ?_
      refine r_getf C (mid_8 hy) (hp_8 _ _) rfl 2 (by decide) in_X0_settleSome_X2 lk_X0_settleSome_19 (Or.inl rfl) rfl dX0_settleSome_25 ?_
      refine r_iload_n C dX0_settleSome_28 rfl rfl ?_
      refine r_icmp_le (tgt := 40) C dX0_settleSome_29 (by decide) (by omega) (by omega) (fun h29 => ?_) (fun h29 => ?_)
      · skip
        refine r_aload_n C dX0_settleSome_40 rfl rfl ?_
        refine r_getf C (mid_8 hy) (hp_8 _ _) rfl 2 (by decide) in_X0_settleSome_X2 lk_X0_settleSome_19 (Or.inl rfl) rfl dX0_settleSome_41 ?_
        refine r_iconst C dX0_settleSome_44 ?_
        refine r_icmp_ne (tgt := 56) C dX0_settleSome_45 (by decide) (by omega) (by omega) (fun h45 => ?_) (fun h45 => ?_)
        · skip
          refine r_aload_n C dX0_settleSome_56 rfl rfl ?_
          refine r_getf C (mid_8 hy) (hp_8 _ _) rfl 2 (by decide) in_X0_settleSome_X2 lk_X0_settleSome_19 (Or.inl rfl) rfl dX0_settleSome_57 ?_
          refine r_iload_n C dX0_settleSome_60 rfl rfl ?_
          refine r_icmp_ne (tgt := 69) C dX0_settleSome_61 (by decide) (by omega) (by omega) (fun h61 => ?_) (fun h61 => ?_)
          · skip
            exact r_vret C Rr (⟨rfl, by rw [if_pos h5, show someK (iv S 8 2 y) cn = 2 by unfold someK; rw [if_neg (by omega), if_neg (by omega), if_neg (by omega), if_neg (by omega)]]; show S = setKS S 8 y 2 (iv S 8 3 y); rw [← h5]; exact (setKS_id S 8 y).symm⟩) dX0_settleSome_69
          · skip
            have es : someK (iv S 8 2 y) cn = 0 := by unfold someK; rw [if_neg (by omega), if_neg (by omega), if_neg (by omega), if_pos (by omega)]
            refine r_aload_n C dX0_settleSome_64 rfl rfl ?_
            refine r_iconst C dX0_settleSome_65 ?_
            refine r_putf  C (mid_8 hy) (hp_8 _ _) rfl 1 (by decide) in_X0_settleSome_X2 lk_X0_settleSome_15 (Or.inl rfl) tyX2 tyX2_ok nmX2 rfl (tyX2_ok 1 (by decide)) (fun _ => rfl) (fun _ => rfl) (Nat.le_of_ble_eq_true rfl) (hs_8_1 _ _ _) dX0_settleSome_66 ?_
            exact r_vret C Rr (⟨rfl, by rw [if_pos h5, es]; first | rfl | exact (setKS_self _ _ _ _).symm⟩) dX0_settleSome_69
        · skip
          refine r_aload_n C dX0_settleSome_48 rfl rfl ?_
          refine r_iconst C dX0_settleSome_49 ?_
          refine r_putf  C (mid_8 hy) (hp_8 _ _) rfl 1 (by decide) in_X0_settleSome_X2 lk_X0_settleSome_15 (Or.inl rfl) tyX2 tyX2_ok nmX2 rfl (tyX2_ok 1 (by decide)) (fun _ => rfl) (fun _ => rfl) (Nat.le_of_ble_eq_true rfl) (hs_8_1 _ _ _) dX0_settleSome_50 ?_
          have es : someK (iv S 8 2 y) cn = 1 := by unfold someK; rw [if_neg (by omega), if_neg (by omega), if_pos (by omega)]
          refine r_goto (tgt := 69) C dX0_settleSome_53 (by decide) ?_
          exact r_vret C Rr (⟨rfl, by rw [if_pos h5, es]; first | rfl | exact (setKS_self _ _ _ _).symm⟩) dX0_settleSome_69
      · skip
        refine r_aload_n C dX0_settleSome_32 rfl rfl ?_
        refine r_iconst C dX0_settleSome_33 ?_
        refine r_callU (as := [_]) (na := 1) (rest := []) C (mid_8 hy) (hp_8 _ _) rfl (c_fix_P S y hy 4) gX0_settleSome_X0_fix_u39X2 (by decide +kernel) (by decide) (by decide) rfl (Nat.le_of_ble_eq_true rfl) rfl dX0_settleSome_34 rfl (fun v1 S1 hp1 => ?_)
        obtain ⟨rfl, e9⟩ := hp1
        subst S1
        have es : someK (iv S 8 2 y) cn = 4 := by unfold someK; rw [if_neg (by omega), if_pos (by omega)]
        refine r_goto (tgt := 69) C dX0_settleSome_37 (by decide) ?_
        exact r_vret C Rr (⟨rfl, by rw [if_pos h5, es]; first | rfl | exact (setKS_self _ _ _ _).symm⟩) dX0_settleSome_69
    · skip
      refine r_aload_n C dX0_settleSome_16 rfl rfl ?_
      refine r_iconst C dX0_settleSome_17 ?_
      refine r_callU (as := [_]) (na := 1) (rest := []) C (mid_8 hy) (hp_8 _ _) rfl (c_fix_P S y hy 3) gX0_settleSome_X0_fix_u39X2 (by decide +kernel) (by decide) (by decide) rfl (Nat.le_of_ble_eq_true rfl) rfl dX0_settleSome_18 rfl (fun v1 S1 hp1 => ?_)
      obtain ⟨rfl, e9⟩ := hp1
      subst S1
      have es : someK (iv S 8 2 y) cn = 3 := by unfold someK; rw [if_pos (by omega)]
      refine r_goto (tgt := 69) C dX0_settleSome_21 (by decide) ?_
      exact r_vret C Rr (⟨rfl, by rw [if_pos h5, es]; first | rfl | exact (setKS_self _ _ _ _).symm⟩) dX0_settleSome_69
  · skip
    exact r_vret C Rr (⟨rfl, by rw [if_neg h5]⟩) dX0_settleSome_8
set_option maxHeartbeats 4000000 in
set_option maxRecDepth 100000 in
theorem c_settleEmpty_P (S : ST) (y : Nat) (hy : y < 2) (hN : GN S 8 y) (hz : 0 ≤ iv S 8 3 y ∧ iv S 8 3 y ≤ 6)  : Ct yX0_settleEmpty wsX0_settleEmpty 1 [vr (some (8, y))] S (fun v S1 => v = none ∧ S1 = if iv S 8 3 y = 0 ∧ iv S 8 1 y = 0 then setKS S 8 y 3 0 else if iv S 8 3 y = 0 ∧ iv S 8 1 y = 1 then setKS S 8 y 4 0 else S) := by
  refine Ct.of (nL := 1) (by decide) rfl (Nat.le_of_ble_eq_true rfl) (by decide) (fun X C Rr hnL => ?_)
  have hn : ∀ i, i < 1 → i < X.2.2.2.2.2 := fun i h => by rw [hnL]; exact h
  obtain ⟨hk, hnd, hes, hpl, hth⟩ := id hN
  refine r_aload_n C dX0_settleEmpty_0 rfl rfl ?_
  refine r_getf C (mid_8 hy) (hp_8 _ _) rfl 3 (by decide) in_X0_settleEmpty_X2 lk_X0_settleEmpty_22 (Or.inl rfl) rfl dX0_settleEmpty_1 ?_
  refine r_if_ne (tgt := 22) C dX0_settleEmpty_4 (by decide) (by omega) (fun h4 => ?_) (fun h4 => ?_)
  · skip
    refine r_aload_n C dX0_settleEmpty_22 rfl rfl ?_
    refine r_getf C (mid_8 hy) (hp_8 _ _) rfl 3 (by decide) in_X0_settleEmpty_X2 lk_X0_settleEmpty_22 (Or.inl rfl) rfl dX0_settleEmpty_23 ?_
    refine r_if_ne (tgt := 42) C dX0_settleEmpty_26 (by decide) (by omega) (fun h26 => ?_) (fun h26 => ?_)
    · skip
      exact r_vret C Rr (⟨rfl, by first | (exfalso; omega) | rw [if_pos (by omega)] | rw [if_neg (by omega), if_pos (by omega)] | rw [if_neg (by omega), if_neg (by omega)]⟩) dX0_settleEmpty_42
    · skip
      refine r_aload_n C dX0_settleEmpty_29 rfl rfl ?_
      refine r_getf C (mid_8 hy) (hp_8 _ _) rfl 1 (by decide) in_X0_settleEmpty_X2 lk_X0_settleEmpty_15 (Or.inl rfl) rfl dX0_settleEmpty_30 ?_
      refine r_iconst C dX0_settleEmpty_33 ?_
      refine r_icmp_ne (tgt := 42) C dX0_settleEmpty_34 (by decide) (by omega) (by omega) (fun h34 => ?_) (fun h34 => ?_)
      · skip
        exact r_vret C Rr (⟨rfl, by first | (exfalso; omega) | rw [if_pos (by omega)] | rw [if_neg (by omega), if_pos (by omega)] | rw [if_neg (by omega), if_neg (by omega)]⟩) dX0_settleEmpty_42
      · skip
        refine r_aload_n C dX0_settleEmpty_37 rfl rfl ?_
        refine r_iconst C dX0_settleEmpty_38 ?_
        refine r_callU (as := [_]) (na := 1) (rest := []) C (mid_8 hy) (hp_8 _ _) rfl (c_fix_P S y hy 4) gX0_settleEmpty_X0_fix_u39X2 (by decide +kernel) (by decide) (by decide) rfl (Nat.le_of_ble_eq_true rfl) rfl dX0_settleEmpty_39 rfl (fun v1 S1 hp1 => ?_)
        obtain ⟨rfl, e9⟩ := hp1
        subst S1
        exact r_vret C Rr (⟨rfl, by first | (exfalso; omega) | rw [if_pos (by omega)] | rw [if_neg (by omega), if_pos (by omega)] | rw [if_neg (by omega), if_neg (by omega)]⟩) dX0_settleEmpty_42
  · skip
    refine r_aload_n C dX0_settleEmpty_7 rfl rfl ?_
    refine r_getf C (mid_8 hy) (hp_8 _ _) rfl 1 (by decide) in_X0_settleEmpty_X2 lk_X0_settleEmpty_15 (Or.inl rfl) rfl dX0_settleEmpty_8 ?_
    refine r_if_ne (tgt := 22) C dX0_settleEmpty_11 (by decide) (by omega) (fun h11 => ?_) (fun h11 => ?_)
    · skip
      refine r_aload_n C dX0_settleEmpty_22 rfl rfl ?_
      refine r_getf C (mid_8 hy) (hp_8 _ _) rfl 3 (by decide) in_X0_settleEmpty_X2 lk_X0_settleEmpty_22 (Or.inl rfl) rfl dX0_settleEmpty_23 ?_
      refine r_if_ne (tgt := 42) C dX0_settleEmpty_26 (by decide) (by omega) (fun h26 => ?_) (fun h26 => ?_)
      · skip
        exact r_vret C Rr (⟨rfl, by first | (exfalso; omega) | rw [if_pos (by omega)] | rw [if_neg (by omega), if_pos (by omega)] | rw [if_neg (by omega), if_neg (by omega)]⟩) dX0_settleEmpty_42
      · skip
        refine r_aload_n C dX0_settleEmpty_29 rfl rfl ?_
        refine r_getf C (mid_8 hy) (hp_8 _ _) rfl 1 (by decide) in_X0_settleEmpty_X2 lk_X0_settleEmpty_15 (Or.inl rfl) rfl dX0_settleEmpty_30 ?_
        refine r_iconst C dX0_settleEmpty_33 ?_
        refine r_icmp_ne (tgt := 42) C dX0_settleEmpty_34 (by decide) (by omega) (by omega) (fun h34 => ?_) (fun h34 => ?_)
        · skip
          exact r_vret C Rr (⟨rfl, by first | (exfalso; omega) | rw [if_pos (by omega)] | rw [if_neg (by omega), if_pos (by omega)] | rw [if_neg (by omega), if_neg (by omega)]⟩) dX0_settleEmpty_42
        · skip
          refine r_aload_n C dX0_settleEmpty_37 rfl rfl ?_
          refine r_iconst C dX0_settleEmpty_38 ?_
          refine r_callU (as := [_]) (na := 1) (rest := []) C (mid_8 hy) (hp_8 _ _) rfl (c_fix_P S y hy 4) gX0_settleEmpty_X0_fix_u39X2 (by decide +kernel) (by decide) (by decide) rfl (Nat.le_of_ble_eq_true rfl) rfl dX0_settleEmpty_39 rfl (fun v1 S1 hp1 => ?_)
          obtain ⟨rfl, e9⟩ := hp1
          subst S1
          exact r_vret C Rr (⟨rfl, by first | (exfalso; omega) | rw [if_pos (by omega)] | rw [if_neg (by omega), if_pos (by omega)] | rw [if_neg (by omega), if_neg (by omega)]⟩) dX0_settleEmpty_42
    · skip
      refine r_aload_n C dX0_settleEmpty_14 rfl rfl ?_
      refine r_iconst C dX0_settleEmpty_15 ?_
      refine r_callU (as := [_]) (na := 1) (rest := []) C (mid_8 hy) (hp_8 _ _) rfl (c_fix_P S y hy 3) gX0_settleEmpty_X0_fix_u39X2 (by decide +kernel) (by decide) (by decide) rfl (Nat.le_of_ble_eq_true rfl) rfl dX0_settleEmpty_16 rfl (fun v1 S1 hp1 => ?_)
      obtain ⟨rfl, e9⟩ := hp1
      subst S1
      refine r_goto (tgt := 42) C dX0_settleEmpty_19 (by decide) ?_
      exact r_vret C Rr (⟨rfl, by first | (exfalso; omega) | rw [if_pos (by omega)] | rw [if_neg (by omega), if_pos (by omega)] | rw [if_neg (by omega), if_neg (by omega)]⟩) dX0_settleEmpty_42
set_option maxHeartbeats 4000000 in
set_option maxRecDepth 100000 in
theorem c_leastEstimate_P (S : ST) (y : Nat) (hy : y < 2) (m : Int) (hm : 0 ≤ m ∧ m ≤ 40) (hE : ∀ p, p < 10 → 0 ≤ (iv S 11 6 p) ∧ (iv S 11 6 p) ≤ 40) (hG : GP S 8 9 y 10)  : Ct yX0_leastEstimate wsX0_leastEstimate 1 [vr (some (8, y)), vi m] S (fun v S1 => v = some (vi (leastF (fun j => iv S 11 6 (pa S 9 y j)) m (iv S 8 3 y).toNat)) ∧ S1 = S) := by
  refine Ct.of (nL := 5) (by decide) rfl (Nat.le_of_ble_eq_true rfl) (by decide) (fun X C Rr hnL => ?_)
  have hn : ∀ i, i < 5 → i < X.2.2.2.2.2 := fun i h => by rw [hnL]; exact h
  obtain ⟨hz, hps⟩ := id hG
  refine r_iload_n C dX0_leastEstimate_0 rfl rfl ?_
  refine r_istore_n (lv' := [(2, _), (0, _), (1, _)]) C dX0_leastEstimate_1 rfl (hn _ (by decide)) rfl ?_
  refine r_iconst C dX0_leastEstimate_2 ?_
  refine r_istore_n (lv' := [(3, _), (2, _), (0, _), (1, _)]) C dX0_leastEstimate_3 rfl (hn _ (by decide)) rfl ?_
  have loop4 : ∀ (k i : Nat) (hk : 7 - i < k) (hi : (i : Int) ≤ iv S 8 3 y), At X 0 0 4 [(0, vr (some (8, y))), (1, vi m), (2, vi (leastF (fun j => iv S 11 6 (pa S 9 y j)) m i)), (3, vi (i : Int))] [] S := by
    intro k
    induction k with
    | zero => intro i hk hi; exact absurd hk (by omega)
    | succ k ih =>
      intro i hk hi
      have hlb := leastF_b (e := (fun j => iv S 11 6 (pa S 9 y j))) hm i (fun j hj => hE _ (hps j (by omega)).2)
      refine r_iload_n C dX0_leastEstimate_4 rfl rfl ?_
      refine r_aload_n C dX0_leastEstimate_5 rfl rfl ?_
      refine r_getf C (mid_8 hy) (hp_8 _ _) rfl 3 (by decide) in_X0_leastEstimate_X2 lk_X0_leastEstimate_22 (Or.inl rfl) rfl dX0_leastEstimate_6 ?_
      refine r_icmp_ge (tgt := 40) C dX0_leastEstimate_9 (by decide) (by omega) (by omega) (fun h9 => ?_) (fun h9 => ?_)
      · skip
        refine r_iload_n C dX0_leastEstimate_40 rfl rfl ?_
        exact r_iret C Rr (⟨by rw [show (iv S 8 3 y).toNat = i by omega], rfl⟩) dX0_leastEstimate_41
      · skip
        refine r_aload_n C dX0_leastEstimate_12 rfl rfl ?_
        refine r_iload_n C dX0_leastEstimate_13 rfl rfl ?_
        refine r_callU (as := [_]) (na := 1) (rest := []) C (mid_8 hy) (hp_8 _ _) rfl (c_partAt_P S y hy (i : Int) (by omega) hz) gX0_leastEstimate_X0_partAt_u32X2 (by decide +kernel) (by decide) (by decide) rfl (Nat.le_of_ble_eq_true rfl) rfl dX0_leastEstimate_14 rfl (fun v1 S1 hp1 => ?_)
        obtain ⟨rfl, e9⟩ := hp1
        subst S1
        have hpi := hps i (by omega)
        refine At_val (v' := vr (some (11, pa S 9 y i))) (by rw [if_pos (by omega), Int.toNat_natCast, hpi.1]; rfl) ?_
        refine r_astore (lv' := [(4, _), (0, _), (1, _), (2, _), (3, _)]) C dX0_leastEstimate_17 (hn _ (by decide)) rfl ?_
        refine r_aload C dX0_leastEstimate_19 rfl ?_
        refine r_ifnull (tgt := 34) C dX0_leastEstimate_21 (by decide) (fun h => by cases h) (fun i21 h21 => ?_)
        clear h21
        refine r_iload_n C dX0_leastEstimate_24 rfl rfl ?_
        refine r_aload C dX0_leastEstimate_25 rfl ?_
        refine r_getf C (mid_11 hpi.2) (hp_11 _ _) rfl 6 (by decide) in_X0_leastEstimate_X3 lk_X0_leastEstimate_66 (Or.inl rfl) rfl dX0_leastEstimate_27 ?_
        have hEi := hE _ hpi.2
        refine r_mmin C (by decide) lk_X0_leastEstimate_60 st_X0_leastEstimate_Mmin ini_X0_leastEstimate_Math co_X0_leastEstimate_Mmin (by omega) (by omega) (Nat.le_of_ble_eq_true rfl) dX0_leastEstimate_30 ?_
        refine r_istore_n (lv' := [(2, _), (4, _), (0, _), (1, _), (3, _)]) C dX0_leastEstimate_33 rfl (hn _ (by decide)) rfl ?_
        refine r_iinc (lv' := [(3, _), (2, _), (4, _), (0, _), (1, _)]) C dX0_leastEstimate_34 rfl (hn _ (by decide)) rfl ?_
        refine r_goto (tgt := 4) C dX0_leastEstimate_37 (by decide) ?_
        exact At_lv (by simp [leastF]) (ih (i + 1) (by omega) (by omega))
  exact At_lv (by simp [leastF]) (loop4 8 0 (by omega) (by omega))
set_option maxHeartbeats 4000000 in
set_option maxRecDepth 100000 in
theorem c_sumOfEstimates_P (S : ST) (y : Nat) (hy : y < 2) (hE : ∀ p, p < 10 → 0 ≤ (iv S 11 6 p) ∧ (iv S 11 6 p) ≤ 40) (hG : GP S 8 9 y 10)  : Ct yX0_sumOfEstimates wsX0_sumOfEstimates 1 [vr (some (8, y))] S (fun v S1 => v = some (vi (sumF (fun j => iv S 11 6 (pa S 9 y j)) (iv S 8 3 y).toNat)) ∧ S1 = S) := by
  refine Ct.of (nL := 4) (by decide) rfl (Nat.le_of_ble_eq_true rfl) (by decide) (fun X C Rr hnL => ?_)
  have hn : ∀ i, i < 4 → i < X.2.2.2.2.2 := fun i h => by rw [hnL]; exact h
  obtain ⟨hz, hps⟩ := id hG
  refine r_iconst C dX0_sumOfEstimates_0 ?_
  refine r_istore_n (lv' := [(1, _), (0, _)]) C dX0_sumOfEstimates_1 rfl (hn _ (by decide)) rfl ?_
  refine r_iconst C dX0_sumOfEstimates_2 ?_
  refine r_istore_n (lv' := [(2, _), (1, _), (0, _)]) C dX0_sumOfEstimates_3 rfl (hn _ (by decide)) rfl ?_
  have loop4 : ∀ (k i : Nat) (hk : 7 - i < k) (hi : (i : Int) ≤ iv S 8 3 y), At X 0 0 4 [(0, vr (some (8, y))), (1, vi (sumF (fun j => iv S 11 6 (pa S 9 y j)) i)), (2, vi (i : Int))] [] S := by
    intro k
    induction k with
    | zero => intro i hk hi; exact absurd hk (by omega)
    | succ k ih =>
      intro i hk hi
      refine r_iload_n C dX0_sumOfEstimates_4 rfl rfl ?_
      refine r_aload_n C dX0_sumOfEstimates_5 rfl rfl ?_
      refine r_getf C (mid_8 hy) (hp_8 _ _) rfl 3 (by decide) in_X0_sumOfEstimates_X2 lk_X0_sumOfEstimates_22 (Or.inl rfl) rfl dX0_sumOfEstimates_6 ?_
      refine r_icmp_ge (tgt := 35) C dX0_sumOfEstimates_9 (by decide) (by omega) (by omega) (fun h9 => ?_) (fun h9 => ?_)
      · skip
        refine r_iload_n C dX0_sumOfEstimates_35 rfl rfl ?_
        exact r_iret C Rr (⟨by rw [show (iv S 8 3 y).toNat = i by omega], rfl⟩) dX0_sumOfEstimates_36
      · skip
        refine r_aload_n C dX0_sumOfEstimates_12 rfl rfl ?_
        refine r_iload_n C dX0_sumOfEstimates_13 rfl rfl ?_
        refine r_callU (as := [_]) (na := 1) (rest := []) C (mid_8 hy) (hp_8 _ _) rfl (c_partAt_P S y hy (i : Int) (by omega) hz) gX0_sumOfEstimates_X0_partAt_u32X2 (by decide +kernel) (by decide) (by decide) rfl (Nat.le_of_ble_eq_true rfl) rfl dX0_sumOfEstimates_14 rfl (fun v1 S1 hp1 => ?_)
        obtain ⟨rfl, e9⟩ := hp1
        subst S1
        have hpi := hps i (by omega)
        refine At_val (v' := vr (some (11, pa S 9 y i))) (by rw [if_pos (by omega), Int.toNat_natCast, hpi.1]; rfl) ?_
        refine r_astore_n (lv' := [(3, _), (0, _), (1, _), (2, _)]) C dX0_sumOfEstimates_17 rfl (hn _ (by decide)) rfl ?_
        refine r_aload_n C dX0_sumOfEstimates_18 rfl rfl ?_
        refine r_ifnull (tgt := 29) C dX0_sumOfEstimates_19 (by decide) (fun h => by cases h) (fun i19 h19 => ?_)
        clear h19
        refine r_iload_n C dX0_sumOfEstimates_22 rfl rfl ?_
        refine r_aload_n C dX0_sumOfEstimates_23 rfl rfl ?_
        refine r_getf C (mid_11 hpi.2) (hp_11 _ _) rfl 6 (by decide) in_X0_sumOfEstimates_X3 lk_X0_sumOfEstimates_66 (Or.inl rfl) rfl dX0_sumOfEstimates_24 ?_
        refine r_iadd C dX0_sumOfEstimates_27 ?_
        refine r_istore_n (lv' := [(1, _), (3, _), (0, _), (2, _)]) C dX0_sumOfEstimates_28 rfl (hn _ (by decide)) rfl ?_
        refine r_iinc (lv' := [(2, _), (1, _), (3, _), (0, _)]) C dX0_sumOfEstimates_29 rfl (hn _ (by decide)) rfl ?_
        refine r_goto (tgt := 4) C dX0_sumOfEstimates_32 (by decide) ?_
        exact At_lv (by simp [sumF]) (ih (i + 1) (by omega) (by omega))
  exact At_lv (by simp [sumF]) (loop4 8 0 (by omega) (by omega))
set_option maxHeartbeats 4000000 in
set_option maxRecDepth 100000 in
theorem c_appraise_P (S : ST) (y : Nat) (hy : y < 2) (hN : GN S 8 y) (hE : ∀ p, p < 10 → 0 ≤ (iv S 11 6 p) ∧ (iv S 11 6 p) ≤ 40) (hG : GP S 8 9 y 10)  : Ct yX0_appraise wsX0_appraise 2 [vr (some (8, y))] S (fun v S1 => v = none ∧ S1 = si S 8 6 y (aprF (iv S 8 1 y) (iv S 8 2 y) (pop (jv S 8 4 y) : Int) (leastF (fun j => iv S 11 6 (pa S 9 y j)) (pop (jv S 8 4 y) : Int) (iv S 8 3 y).toNat) (sumF (fun j => iv S 11 6 (pa S 9 y j)) (iv S 8 3 y).toNat))) := by
  refine Ct.of (nL := 2) (by decide) rfl (Nat.le_of_ble_eq_true rfl) (by decide) (fun X C Rr hnL => ?_)
  have hn : ∀ i, i < 2 → i < X.2.2.2.2.2 := fun i h => by rw [hnL]; exact h
  obtain ⟨hk, hnd, hes, hpl, hth⟩ := id hN
  obtain ⟨hz, hps⟩ := id hG
  have hpp := pop_le hth
  have hsb := sumF_b (e := (fun j => iv S 11 6 (pa S 9 y j))) (iv S 8 3 y).toNat (fun j hj => hE _ (hps j (by omega)).2)
  refine r_aload_n C dX0_appraise_0 rfl rfl ?_
  refine r_getf C (mid_8 hy) (hp_8 _ _) rfl 4 (by decide) in_X0_appraise_X2 lk_X0_appraise_25 (Or.inl rfl) rfl dX0_appraise_1 ?_
  refine r_callS (as := [_]) (na := 1) (rest := []) C (c_bitCount S (jv S 8 4 y) hth) gX0_appraise_J13_bitCount_95d88 (by decide +kernel) (by decide) (by decide) rfl (Nat.le_of_ble_eq_true rfl) rfl dX0_appraise_4 rfl (fun v1 S1 hp1 => ?_)
  obtain ⟨rfl, e9⟩ := hp1
  subst S1
  refine r_istore_n (lv' := [(1, _), (0, _)]) C dX0_appraise_7 rfl (hn _ (by decide)) rfl ?_
  refine r_aload_n C dX0_appraise_8 rfl rfl ?_
  refine r_getf C (mid_8 hy) (hp_8 _ _) rfl 1 (by decide) in_X0_appraise_X2 lk_X0_appraise_15 (Or.inl rfl) rfl dX0_appraise_9 ?_
  rcases (by omega : iv S 8 1 y = 0 ∨ iv S 8 1 y = 1 ∨ iv S 8 1 y = 2 ∨ iv S 8 1 y = 3 ∨ iv S 8 1 y = 4) with hkk | hkk | hkk | hkk | hkk
  · refine At_val (v' := vi 0) (by rw [hkk]) ?_
    refine r_tin (tgt := 44) C dX0_appraise_12 (by omega) (by decide) (by decide) rfl (by decide) ?_
    refine r_aload_n C dX0_appraise_44 rfl rfl ?_
    refine r_aload_n C dX0_appraise_45 rfl rfl ?_
    refine r_iload_n C dX0_appraise_46 rfl rfl ?_
    refine r_callU (as := [_]) (na := 1) (rest := [_]) C (mid_8 hy) (hp_8 _ _) rfl (c_leastEstimate_P S y hy _ (by omega) hE hG) gX0_appraise_X0_leastEstimate_u49X2 (by decide +kernel) (by decide) (by decide) rfl (Nat.le_of_ble_eq_true rfl) rfl dX0_appraise_47 rfl (fun v1 S1 hp1 => ?_)
    obtain ⟨rfl, e9⟩ := hp1
    subst S1
    refine r_putf  C (mid_8 hy) (hp_8 _ _) rfl 6 (by decide) in_X0_appraise_X2 lk_X0_appraise_53 (Or.inr sm_X0_appraise_Group_estimate) tyX2 tyX2_ok nmX2 rfl (tyX2_ok 6 (by decide)) (fun _ => rfl) (fun _ => rfl) (Nat.le_of_ble_eq_true rfl) (hs_8_6 _ _ _) dX0_appraise_50 ?_
    refine r_goto (tgt := 116) C dX0_appraise_53 (by decide) ?_
    exact r_vret C Rr (⟨rfl, by unfold aprF; simp [hkk]⟩) dX0_appraise_116
  · refine At_val (v' := vi 1) (by rw [hkk]) ?_
    refine r_tin (tgt := 56) C dX0_appraise_12 (by omega) (by decide) (by decide) rfl (by decide) ?_
    refine r_aload_n C dX0_appraise_56 rfl rfl ?_
    refine r_aload_n C dX0_appraise_57 rfl rfl ?_
    refine r_callU (as := []) (na := 0) (rest := [_]) C (mid_8 hy) (hp_8 _ _) rfl (c_sumOfEstimates_P S y hy hE hG) gX0_appraise_X0_sumOfEstimates_u56X2 (by decide +kernel) (by decide) (by decide) rfl (Nat.le_of_ble_eq_true rfl) rfl dX0_appraise_58 rfl (fun v1 S1 hp1 => ?_)
    obtain ⟨rfl, e9⟩ := hp1
    subst S1
    refine r_iload_n C dX0_appraise_61 rfl rfl ?_
    refine r_mmin C (by decide) lk_X0_appraise_60 st_X0_appraise_Mmin ini_X0_appraise_Math co_X0_appraise_Mmin (by omega) (by omega) (Nat.le_of_ble_eq_true rfl) dX0_appraise_62 ?_
    refine r_putf  C (mid_8 hy) (hp_8 _ _) rfl 6 (by decide) in_X0_appraise_X2 lk_X0_appraise_53 (Or.inr sm_X0_appraise_Group_estimate) tyX2 tyX2_ok nmX2 rfl (tyX2_ok 6 (by decide)) (fun _ => rfl) (fun _ => rfl) (Nat.le_of_ble_eq_true rfl) (hs_8_6 _ _ _) dX0_appraise_65 ?_
    refine r_goto (tgt := 116) C dX0_appraise_68 (by decide) ?_
    exact r_vret C Rr (⟨rfl, by unfold aprF; simp [hkk]⟩) dX0_appraise_116
  · refine At_val (v' := vi 2) (by rw [hkk]) ?_
    refine r_tin (tgt := 71) C dX0_appraise_12 (by omega) (by decide) (by decide) rfl (by decide) ?_
    refine r_aload_n C dX0_appraise_71 rfl rfl ?_
    refine r_aload_n C dX0_appraise_72 rfl rfl ?_
    refine r_getf C (mid_8 hy) (hp_8 _ _) rfl 2 (by decide) in_X0_appraise_X2 lk_X0_appraise_19 (Or.inl rfl) rfl dX0_appraise_73 ?_
    refine r_iconst C dX0_appraise_76 ?_
    refine r_icmp_ge (tgt := 84) C dX0_appraise_77 (by decide) (by omega) (by omega) (fun h77 => ?_) (fun h77 => ?_)
    · skip
      refine r_aload_n C dX0_appraise_84 rfl rfl ?_
      refine r_callU (as := []) (na := 0) (rest := [_]) C (mid_8 hy) (hp_8 _ _) rfl (c_sumOfEstimates_P S y hy hE hG) gX0_appraise_X0_sumOfEstimates_u56X2 (by decide +kernel) (by decide) (by decide) rfl (Nat.le_of_ble_eq_true rfl) rfl dX0_appraise_85 rfl (fun v1 S1 hp1 => ?_)
      obtain ⟨rfl, e9⟩ := hp1
      subst S1
      refine r_aload_n C dX0_appraise_88 rfl rfl ?_
      refine r_getf C (mid_8 hy) (hp_8 _ _) rfl 2 (by decide) in_X0_appraise_X2 lk_X0_appraise_19 (Or.inl rfl) rfl dX0_appraise_89 ?_
      refine r_idiv (z := (sumF (fun j => iv S 11 6 (pa S 9 y j)) (iv S 8 3 y).toNat) / iv S 8 2 y) C dX0_appraise_92 (m_ne0 (by omega)) (m_idiv (by omega) (by omega)) ?_
      have hdv : 0 ≤ (sumF (fun j => iv S 11 6 (pa S 9 y j)) (iv S 8 3 y).toNat) / iv S 8 2 y ∧ (sumF (fun j => iv S 11 6 (pa S 9 y j)) (iv S 8 3 y).toNat) / iv S 8 2 y ≤ 240 := ⟨Int.ediv_nonneg (by omega) (by omega), Int.le_trans (Int.ediv_le_self _ (by omega)) (by omega)⟩
      refine r_iload_n C dX0_appraise_93 rfl rfl ?_
      refine r_mmin C (by decide) lk_X0_appraise_60 st_X0_appraise_Mmin ini_X0_appraise_Math co_X0_appraise_Mmin (by omega) (by omega) (Nat.le_of_ble_eq_true rfl) dX0_appraise_94 ?_
      refine r_putf  C (mid_8 hy) (hp_8 _ _) rfl 6 (by decide) in_X0_appraise_X2 lk_X0_appraise_53 (Or.inr sm_X0_appraise_Group_estimate) tyX2 tyX2_ok nmX2 rfl (tyX2_ok 6 (by decide)) (fun _ => rfl) (fun _ => rfl) (Nat.le_of_ble_eq_true rfl) (hs_8_6 _ _ _) dX0_appraise_97 ?_
      refine r_goto (tgt := 116) C dX0_appraise_100 (by decide) ?_
      exact r_vret C Rr (⟨rfl, by unfold aprF; rw [hkk, if_neg (by omega), if_neg (by omega), if_pos rfl]; first | rw [if_neg (by omega)] | rw [if_pos (by omega)]⟩) dX0_appraise_116
    · skip
      refine r_iload_n C dX0_appraise_80 rfl rfl ?_
      refine r_goto (tgt := 97) C dX0_appraise_81 (by decide) ?_
      refine r_putf  C (mid_8 hy) (hp_8 _ _) rfl 6 (by decide) in_X0_appraise_X2 lk_X0_appraise_53 (Or.inr sm_X0_appraise_Group_estimate) tyX2 tyX2_ok nmX2 rfl (tyX2_ok 6 (by decide)) (fun _ => rfl) (fun _ => rfl) (Nat.le_of_ble_eq_true rfl) (hs_8_6 _ _ _) dX0_appraise_97 ?_
      refine r_goto (tgt := 116) C dX0_appraise_100 (by decide) ?_
      exact r_vret C Rr (⟨rfl, by unfold aprF; rw [hkk, if_neg (by omega), if_neg (by omega), if_pos rfl]; first | rw [if_neg (by omega)] | rw [if_pos (by omega)]⟩) dX0_appraise_116
  · refine At_val (v' := vi 3) (by rw [hkk]) ?_
    refine r_tin (tgt := 103) C dX0_appraise_12 (by omega) (by decide) (by decide) rfl (by decide) ?_
    refine r_aload_n C dX0_appraise_103 rfl rfl ?_
    refine r_iload_n C dX0_appraise_104 rfl rfl ?_
    refine r_putf  C (mid_8 hy) (hp_8 _ _) rfl 6 (by decide) in_X0_appraise_X2 lk_X0_appraise_53 (Or.inr sm_X0_appraise_Group_estimate) tyX2 tyX2_ok nmX2 rfl (tyX2_ok 6 (by decide)) (fun _ => rfl) (fun _ => rfl) (Nat.le_of_ble_eq_true rfl) (hs_8_6 _ _ _) dX0_appraise_105 ?_
    refine r_goto (tgt := 116) C dX0_appraise_108 (by decide) ?_
    exact r_vret C Rr (⟨rfl, by unfold aprF; simp [hkk]⟩) dX0_appraise_116
  · refine At_val (v' := vi 4) (by rw [hkk]) ?_
    refine r_tout (tgt := 111) C dX0_appraise_12 (by omega) (by omega) (by decide) ?_
    refine r_aload_n C dX0_appraise_111 rfl rfl ?_
    refine r_iconst C dX0_appraise_112 ?_
    refine r_putf  C (mid_8 hy) (hp_8 _ _) rfl 6 (by decide) in_X0_appraise_X2 lk_X0_appraise_53 (Or.inr sm_X0_appraise_Group_estimate) tyX2 tyX2_ok nmX2 rfl (tyX2_ok 6 (by decide)) (fun _ => rfl) (fun _ => rfl) (Nat.le_of_ble_eq_true rfl) (hs_8_6 _ _ _) dX0_appraise_113 ?_
    exact r_vret C Rr (⟨rfl, by unfold aprF; simp [hkk]⟩) dX0_appraise_116
set_option maxHeartbeats 4000000 in
set_option maxRecDepth 100000 in
theorem c_isBefore_P (S : ST) (y : Nat) (hy : y < 2) (p q : Nat) (hp0 : p < 10) (hq0 : q < 10) (hE : ∀ p, p < 10 → 0 ≤ (iv S 11 6 p) ∧ (iv S 11 6 p) ≤ 40)  : Ct yX0_isBefore wsX0_isBefore 0 [vr (some (8, y)), vr (some (11, p)), vr (some (11, q))] S (fun v S1 => v = some (vi (b2i (decide ((iv S 11 6 p) < (iv S 11 6 q) ∨ ((iv S 11 6 p) = (iv S 11 6 q) ∧ ((p % 5 : Nat) : Int) < ((q % 5 : Nat) : Int)))))) ∧ S1 = S) := by
  refine Ct.of (nL := 3) (by decide) rfl (Nat.le_of_ble_eq_true rfl) (by decide) (fun X C Rr hnL => ?_)
  have hn : ∀ i, i < 3 → i < X.2.2.2.2.2 := fun i h => by rw [hnL]; exact h
  have hEp := hE p hp0
  have hEq := hE q hq0
  refine r_aload_n C dX0_isBefore_0 rfl rfl ?_
  refine r_ifnull (tgt := 8) C dX0_isBefore_1 (by decide) (fun h => by cases h) (fun i1 h1 => ?_)
  clear h1
  refine r_aload_n C dX0_isBefore_4 rfl rfl ?_
  refine r_ifnonnull (tgt := 10) C dX0_isBefore_5 (by decide) (fun i5 h5 => ?_) (fun h => by cases h)
  clear h5
  refine r_aload_n C dX0_isBefore_10 rfl rfl ?_
  refine r_getf C (mid_11 hp0) (hp_11 _ _) rfl 6 (by decide) in_X0_isBefore_X3 lk_X0_isBefore_66 (Or.inl rfl) rfl dX0_isBefore_11 ?_
  refine r_aload_n C dX0_isBefore_14 rfl rfl ?_
  refine r_getf C (mid_11 hq0) (hp_11 _ _) rfl 6 (by decide) in_X0_isBefore_X3 lk_X0_isBefore_66 (Or.inl rfl) rfl dX0_isBefore_15 ?_
  refine r_icmp_eq (tgt := 38) C dX0_isBefore_18 (by decide) (by omega) (by omega) (fun h18 => ?_) (fun h18 => ?_)
  · skip
    refine r_aload_n C dX0_isBefore_38 rfl rfl ?_
    refine r_getf C (mid_11 hp0) (hp_11 _ _) rfl 5 (by decide) in_X0_isBefore_X3 lk_X0_isBefore_36 (Or.inl rfl) rfl dX0_isBefore_39 ?_
    refine r_aload_n C dX0_isBefore_42 rfl rfl ?_
    refine r_getf C (mid_11 hq0) (hp_11 _ _) rfl 5 (by decide) in_X0_isBefore_X3 lk_X0_isBefore_36 (Or.inl rfl) rfl dX0_isBefore_43 ?_
    refine r_icmp_ge (tgt := 53) C dX0_isBefore_46 (by decide) (by omega) (by omega) (fun h46 => ?_) (fun h46 => ?_)
    · skip
      refine r_iconst C dX0_isBefore_53 ?_
      exact r_zret C Rr (by decide) (⟨by first | rw [b2i_t (decide_eq_true (by omega))] | rw [b2i_f (decide_eq_false (by omega))], rfl⟩) dX0_isBefore_54
    · skip
      refine r_iconst C dX0_isBefore_49 ?_
      refine r_goto (tgt := 54) C dX0_isBefore_50 (by decide) ?_
      exact r_zret C Rr (by decide) (⟨by first | rw [b2i_t (decide_eq_true (by omega))] | rw [b2i_f (decide_eq_false (by omega))], rfl⟩) dX0_isBefore_54
  · skip
    refine r_aload_n C dX0_isBefore_21 rfl rfl ?_
    refine r_getf C (mid_11 hp0) (hp_11 _ _) rfl 6 (by decide) in_X0_isBefore_X3 lk_X0_isBefore_66 (Or.inl rfl) rfl dX0_isBefore_22 ?_
    refine r_aload_n C dX0_isBefore_25 rfl rfl ?_
    refine r_getf C (mid_11 hq0) (hp_11 _ _) rfl 6 (by decide) in_X0_isBefore_X3 lk_X0_isBefore_66 (Or.inl rfl) rfl dX0_isBefore_26 ?_
    refine r_icmp_ge (tgt := 36) C dX0_isBefore_29 (by decide) (by omega) (by omega) (fun h29 => ?_) (fun h29 => ?_)
    · skip
      refine r_iconst C dX0_isBefore_36 ?_
      exact r_zret C Rr (by decide) (⟨by first | rw [b2i_t (decide_eq_true (by omega))] | rw [b2i_f (decide_eq_false (by omega))], rfl⟩) dX0_isBefore_37
    · skip
      refine r_iconst C dX0_isBefore_32 ?_
      refine r_goto (tgt := 37) C dX0_isBefore_33 (by decide) ?_
      exact r_zret C Rr (by decide) (⟨by first | rw [b2i_t (decide_eq_true (by omega))] | rw [b2i_f (decide_eq_false (by omega))], rfl⟩) dX0_isBefore_37
