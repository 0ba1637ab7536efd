theorem litSk_ge (S : ST) (p d : Nat) : 0 ≤ iv (litSk S p d) 14 2 p := by
  unfold litSk
  split
  · omega
  · simp [iv, si, up3]
theorem in_X4_make_X4 : ∀ w ∈ wsX40, w ∈ wsX4_make := by decide +kernel
theorem lk_X4_make_15 : Cond.fieldLink RX4 15 "PostingPlanner$PlannedLiteral" "there" "J" ∈ wsX4_make := by decide +kernel
theorem lk_X4_make_19 : Cond.fieldLink RX4 19 "PostingPlanner$PlannedLiteral" "truths" "J" ∈ wsX4_make := by decide +kernel
theorem lk_X4_make_22 : Cond.fieldLink RX4 22 "PostingPlanner$PlannedLiteral" "rank" "I" ∈ wsX4_make := by decide +kernel
theorem sm_X4_make_PlannedLiteral_rank : Cond.sameField "PostingPlanner$PlannedLiteral" "PostingPlanner$Part" "rank" "I" ∈ wsX4_make := by decide +kernel
theorem lk_X4_make_32 : Cond.fieldLink RX4 32 "PostingPlanner$PlannedLiteral" "estimate" "I" ∈ wsX4_make := by decide +kernel
theorem sm_X4_make_PlannedLiteral_estimate : Cond.sameField "PostingPlanner$PlannedLiteral" "PostingPlanner$Part" "estimate" "I" ∈ wsX4_make := by decide +kernel
theorem lk_X4_make_35 : Cond.fieldLink RX4 35 "PostingPlanner$PlannedLiteral" "place" "I" ∈ wsX4_make := by decide +kernel
theorem sm_X4_make_PlannedLiteral_place : Cond.sameField "PostingPlanner$PlannedLiteral" "PostingPlanner$Part" "place" "I" ∈ wsX4_make := by decide +kernel
theorem in_X4_cost_X4 : ∀ w ∈ wsX40, w ∈ wsX4_cost := by decide +kernel
theorem lk_X4_cost_22 : Cond.fieldLink RX4 22 "PostingPlanner$PlannedLiteral" "rank" "I" ∈ wsX4_cost := by decide +kernel
theorem sm_X4_cost_PlannedLiteral_rank : Cond.sameField "PostingPlanner$PlannedLiteral" "PostingPlanner$Part" "rank" "I" ∈ wsX4_cost := by decide +kernel
theorem lk_X4_cost_15 : Cond.fieldLink RX4 15 "PostingPlanner$PlannedLiteral" "there" "J" ∈ wsX4_cost := by decide +kernel
theorem lk_X4_cost_35 : Cond.fieldLink RX4 35 "PostingPlanner$PlannedLiteral" "place" "I" ∈ wsX4_cost := by decide +kernel
theorem sm_X4_cost_PlannedLiteral_place : Cond.sameField "PostingPlanner$PlannedLiteral" "PostingPlanner$Part" "place" "I" ∈ wsX4_cost := by decide +kernel
theorem in_X4_seek_X4 : ∀ w ∈ wsX40, w ∈ wsX4_seek := by decide +kernel
theorem lk_X4_seek_35 : Cond.fieldLink RX4 35 "PostingPlanner$PlannedLiteral" "place" "I" ∈ wsX4_seek := by decide +kernel
theorem sm_X4_seek_PlannedLiteral_place : Cond.sameField "PostingPlanner$PlannedLiteral" "PostingPlanner$Part" "place" "I" ∈ wsX4_seek := by decide +kernel
theorem lk_X4_seek_19 : Cond.fieldLink RX4 19 "PostingPlanner$PlannedLiteral" "truths" "J" ∈ wsX4_seek := by decide +kernel
theorem ini_X4_seek_X10 : Cond.initialized RX10 ∈ wsX4_seek := by decide +kernel
theorem st_X4_seek_X10_firstOf : Cond.static yX10_firstOf ∈ wsX4_seek := by decide +kernel
theorem lk_X4_seek_9 : Cond.fieldLink RX4 9 "PostingPlanner$PlannedLiteral" "tally" "LPostingPlanner$Tally;" ∈ wsX4_seek := by decide +kernel
theorem in_X4_seek_X8 : ∀ w ∈ wsX80, w ∈ wsX4_seek := by decide +kernel
theorem lk_X4_seek_42 : Cond.fieldLink RX4 42 "PostingPlanner$Tally" "sum" "I" ∈ wsX4_seek := by decide +kernel
theorem in_X0_placesUpTo_X3 : ∀ w ∈ wsX30, w ∈ wsX0_placesUpTo := by decide +kernel
theorem lk_X0_placesUpTo_22 : Cond.fieldLink RX0 22 "PostingPlanner$Group" "size" "I" ∈ wsX0_placesUpTo := by decide +kernel
theorem in_X0_placesUpTo_X4 : ∀ w ∈ wsX40, w ∈ wsX0_placesUpTo := by decide +kernel
theorem lk_X0_placesUpTo_90 : Cond.fieldLink RX0 90 "PostingPlanner$Part" "place" "I" ∈ wsX0_placesUpTo := by decide +kernel
theorem in_X0_neededPlace_X3 : ∀ w ∈ wsX30, w ∈ wsX0_neededPlace := by decide +kernel
theorem lk_X0_neededPlace_22 : Cond.fieldLink RX0 22 "PostingPlanner$Group" "size" "I" ∈ wsX0_neededPlace := by decide +kernel
theorem in_X0_neededPlace_X4 : ∀ w ∈ wsX40, w ∈ wsX0_neededPlace := by decide +kernel
theorem lk_X0_neededPlace_90 : Cond.fieldLink RX0 90 "PostingPlanner$Part" "place" "I" ∈ wsX0_neededPlace := by decide +kernel
theorem lk_X0_neededPlace_19 : Cond.fieldLink RX0 19 "PostingPlanner$Group" "need" "I" ∈ wsX0_neededPlace := by decide +kernel
theorem in_X0_seekAny_X3 : ∀ w ∈ wsX30, w ∈ wsX0_seekAny := by decide +kernel
theorem lk_X0_seekAny_22 : Cond.fieldLink RX0 22 "PostingPlanner$Group" "size" "I" ∈ wsX0_seekAny := by decide +kernel
theorem lk_X0_seekAny_60 : Cond.methodLink RX0 60 Lib.Math.min.name ∈ wsX0_seekAny := by decide +kernel
theorem st_X0_seekAny_Mmin : Cond.static Lib.Math.min.name ∈ wsX0_seekAny := by decide +kernel
theorem ini_X0_seekAny_Math : Cond.initialized "java/lang/Math" ∈ wsX0_seekAny := by decide +kernel
theorem co_X0_seekAny_Mmin : Cond.code Lib.Math.min.name Lib.Math.min.code 2 (some .int) ∈ wsX0_seekAny := by decide +kernel
theorem in_X0_seekAll_X3 : ∀ w ∈ wsX30, w ∈ wsX0_seekAll := by decide +kernel
theorem lk_X0_seekAll_22 : Cond.fieldLink RX0 22 "PostingPlanner$Group" "size" "I" ∈ wsX0_seekAll := by decide +kernel
theorem in_X0_seek_X3 : ∀ w ∈ wsX30, w ∈ wsX0_seek := by decide +kernel
theorem lk_X0_seek_29 : Cond.fieldLink RX0 29 "PostingPlanner$Group" "place" "I" ∈ wsX0_seek := by decide +kernel
theorem sm_X0_seek_Group_place : Cond.sameField "PostingPlanner$Group" "PostingPlanner$Part" "place" "I" ∈ wsX0_seek := by decide +kernel
theorem lk_X0_seek_15 : Cond.fieldLink RX0 15 "PostingPlanner$Group" "kind" "I" ∈ wsX0_seek := by decide +kernel
theorem lk_X0_seek_25 : Cond.fieldLink RX0 25 "PostingPlanner$Group" "there" "J" ∈ wsX0_seek := by decide +kernel
theorem ini_X0_seek_X10 : Cond.initialized RX10 ∈ wsX0_seek := by decide +kernel
theorem st_X0_seek_X10_firstOf : Cond.static yX10_firstOf ∈ wsX0_seek := by decide +kernel
theorem in_X0_placesUpTo_X2 : ∀ w ∈ wsX20, w ∈ wsX0_placesUpTo := by decide +kernel
theorem in_X0_neededPlace_X2 : ∀ w ∈ wsX20, w ∈ wsX0_neededPlace := by decide +kernel
theorem in_X0_seekAny_X2 : ∀ w ∈ wsX20, w ∈ wsX0_seekAny := by decide +kernel
theorem in_X0_seekAll_X2 : ∀ w ∈ wsX20, w ∈ wsX0_seekAll := by decide +kernel
theorem in_X0_seek_X2 : ∀ w ∈ wsX20, w ∈ wsX0_seek := by decide +kernel
set_option maxHeartbeats 4000000 in
set_option maxRecDepth 100000 in
theorem c_Lmake (S : ST) (p : Nat) (hp0 : p < 60) (cd : Int) (Tb B : Nat) (hT : Tb < 2 ^ 40) : Ct yX4_make wsX4_make 1 [vr (some (14, p)), vi cd, vl (Tb : Int), vl (B : Int)] S (fun v S1 => v = none ∧ S1 = si (si (si (sj (sj S 14 4 p B) 14 5 p Tb) 14 0 p cd) 14 1 p ((pop Tb : Nat) : Int)) 14 2 p (-1)) := by
  refine Ct.of (nL := 6) (by decide) rfl (Nat.le_of_ble_eq_true rfl) (by decide) (fun X C Rr hnL => ?_)
  have hn : ∀ i, i < 6 → i < X.2.2.2.2.2 := fun i h => by rw [hnL]; exact h
  refine r_aload_n C dX4_make_0 rfl rfl ?_
  refine r_lload C dX4_make_1 rfl ?_
  refine r_putf  C (mid_14 hp0) (hp_14 _ _) rfl 4 (by decide) in_X4_make_X4 lk_X4_make_15 (Or.inl rfl) tyX4 tyX4_ok nmX4 rfl (tyX4_ok 4 (by decide)) (fun _ => rfl) (fun _ => rfl) (Nat.le_of_ble_eq_true rfl) (hs_14_4 _ _ _) dX4_make_3 ?_
  refine r_aload_n C dX4_make_6 rfl rfl ?_
  refine r_lload_n C dX4_make_7 rfl rfl ?_
  refine r_putf  C (mid_14 hp0) (hp_14 _ _) rfl 5 (by decide) in_X4_make_X4 lk_X4_make_19 (Or.inl rfl) tyX4 tyX4_ok nmX4 rfl (tyX4_ok 5 (by decide)) (fun _ => rfl) (fun _ => rfl) (Nat.le_of_ble_eq_true rfl) (hs_14_5 _ _ _) dX4_make_8 ?_
  refine r_aload_n C dX4_make_11 rfl rfl ?_
  refine r_iload_n C dX4_make_12 rfl rfl ?_
  refine r_putf  C (mid_14 hp0) (hp_14 _ _) rfl 0 (by decide) in_X4_make_X4 lk_X4_make_22 (Or.inr sm_X4_make_PlannedLiteral_rank) tyX4 tyX4_ok nmX4 rfl (tyX4_ok 0 (by decide)) (fun _ => rfl) (fun _ => rfl) (Nat.le_of_ble_eq_true rfl) (hs_14_0 _ _ _) dX4_make_13 ?_
  refine r_aload_n C dX4_make_16 rfl rfl ?_
  refine r_aload_n C dX4_make_17 rfl rfl ?_
  refine r_getf C (mid_14 hp0) (hp_14 _ _) rfl 5 (by decide) in_X4_make_X4 lk_X4_make_19 (Or.inl rfl) rfl dX4_make_18 ?_
  refine At_val (v' := vl (Tb : Int)) (by simp [jv, sj, si, up3]) ?_
  refine r_callS (as := [_]) (na := 1) (rest := [_]) C (c_bitCount _ Tb hT) gX4_make_J13_bitCount_95d88 (by decide +kernel) (by decide) (by decide) rfl (Nat.le_of_ble_eq_true rfl) rfl dX4_make_21 rfl (fun v1 S1 hp1 => ?_)
  obtain ⟨rfl, e9⟩ := hp1
  subst S1
  refine r_putf  C (mid_14 hp0) (hp_14 _ _) rfl 1 (by decide) in_X4_make_X4 lk_X4_make_32 (Or.inr sm_X4_make_PlannedLiteral_estimate) tyX4 tyX4_ok nmX4 rfl (tyX4_ok 1 (by decide)) (fun _ => rfl) (fun _ => rfl) (Nat.le_of_ble_eq_true rfl) (hs_14_1 _ _ _) dX4_make_24 ?_
  refine r_aload_n C dX4_make_27 rfl rfl ?_
  refine r_iconst C dX4_make_28 ?_
  refine r_putf  C (mid_14 hp0) (hp_14 _ _) rfl 2 (by decide) in_X4_make_X4 lk_X4_make_35 (Or.inr sm_X4_make_PlannedLiteral_place) tyX4 tyX4_ok nmX4 rfl (tyX4_ok 2 (by decide)) (fun _ => rfl) (fun _ => rfl) (Nat.le_of_ble_eq_true rfl) (hs_14_2 _ _ _) dX4_make_29 ?_
  exact r_vret C Rr (⟨rfl, rfl⟩) dX4_make_32
set_option maxHeartbeats 4000000 in
set_option maxRecDepth 100000 in
theorem c_Lcost (S : ST) (p fr q : Nat) (hp0 : p < 60) (hf : fr ≤ 40) (hr : 0 ≤ iv S 14 0 p ∧ iv S 14 0 p < 16) (hq : iv S 14 2 p = (q : Int)) (hq2 : q ≤ 40) (hB : jv S 14 4 p < 2 ^ 40) : Ct yX4_cost wsX4_cost 1 [vr (some (14, p)), vi (fr : Int)] S (fun v S1 => v = some (vi (litCost S p fr q)) ∧ S1 = S) := by
  refine Ct.of (nL := 4) (by decide) rfl (Nat.le_of_ble_eq_true rfl) (by decide) (fun X C Rr hnL => ?_)
  have hn : ∀ i, i < 4 → i < X.2.2.2.2.2 := fun i h => by rw [hnL]; exact h
  have hd1 : jv S 14 4 p / 2 ^ fr < 2 ^ 40 := Nat.lt_of_le_of_lt (Nat.div_le_self _ _) hB
  have hd2 : jv S 14 4 p / 2 ^ q < 2 ^ 40 := Nat.lt_of_le_of_lt (Nat.div_le_self _ _) hB
  refine r_aload_n C dX4_cost_0 rfl rfl ?_
  refine r_getf C (mid_14 hp0) (hp_14 _ _) rfl 0 (by decide) in_X4_cost_X4 lk_X4_cost_22 (Or.inr sm_X4_cost_PlannedLiteral_rank) rfl dX4_cost_1 ?_
  refine At_val (v' := vi ((iv S 14 0 p).toNat : Int)) (by congr 1; omega) ?_
  refine r_iconst C dX4_cost_4 ?_
  refine r_iand (z := (((iv S 14 0 p).toNat % 2 : Nat) : Int)) C dX4_cost_5 (m_iand1 (by omega)) ?_
  refine r_iconst C dX4_cost_6 ?_
  refine r_icmp_ne (tgt := 14) C dX4_cost_7 (by decide) (by omega) (by omega) (fun h7 => ?_) (fun h7 => ?_)
  · skip
    refine r_iconst C dX4_cost_14 ?_
    refine r_istore_n (lv' := [(2, _), (0, _), (1, _)]) C dX4_cost_15 rfl (hn _ (by decide)) rfl ?_
    refine r_iload_n C dX4_cost_16 rfl rfl ?_
    refine r_if_ne (tgt := 22) C dX4_cost_17 (by decide) (by omega) (fun h17 => ?_) (fun h17 => ?_)
    · exact absurd rfl h17
    refine r_iconst C dX4_cost_20 ?_
    exact r_iret C Rr (⟨by unfold litCost; rw [if_neg (by omega)], rfl⟩) dX4_cost_21
  · skip
    refine r_iconst C dX4_cost_10 ?_
    refine r_goto (tgt := 15) C dX4_cost_11 (by decide) ?_
    refine r_istore_n (lv' := [(2, _), (0, _), (1, _)]) C dX4_cost_15 rfl (hn _ (by decide)) rfl ?_
    refine r_iload_n C dX4_cost_16 rfl rfl ?_
    refine r_if_ne (tgt := 22) C dX4_cost_17 (by decide) (by omega) (fun h17 => ?_) (fun h17 => ?_)
    · skip
      refine r_aload_n C dX4_cost_22 rfl rfl ?_
      refine r_getf C (mid_14 hp0) (hp_14 _ _) rfl 4 (by decide) in_X4_cost_X4 lk_X4_cost_15 (Or.inl rfl) rfl dX4_cost_23 ?_
      refine r_iload_n C dX4_cost_26 rfl rfl ?_
      refine r_lushr (z := ((jv S 14 4 p / 2 ^ fr : Nat) : Int)) C dX4_cost_27 (m_lushr (by omega) (by omega)) ?_
      refine r_callS (as := [_]) (na := 1) (rest := []) C (c_bitCount S _ hd1) gX4_cost_J13_bitCount_95d88 (by decide +kernel) (by decide) (by decide) rfl (Nat.le_of_ble_eq_true rfl) rfl dX4_cost_28 rfl (fun v1 S1 hp1 => ?_)
      obtain ⟨rfl, e9⟩ := hp1
      subst S1
      refine r_aload_n C dX4_cost_31 rfl rfl ?_
      refine r_getf C (mid_14 hp0) (hp_14 _ _) rfl 4 (by decide) in_X4_cost_X4 lk_X4_cost_15 (Or.inl rfl) rfl dX4_cost_32 ?_
      refine r_aload_n C dX4_cost_35 rfl rfl ?_
      refine r_getf C (mid_14 hp0) (hp_14 _ _) rfl 2 (by decide) in_X4_cost_X4 lk_X4_cost_35 (Or.inr sm_X4_cost_PlannedLiteral_place) rfl dX4_cost_36 ?_
      refine At_val (v' := vi (q : Int)) (by rw [hq]) ?_
      refine r_lushr (z := ((jv S 14 4 p / 2 ^ q : Nat) : Int)) C dX4_cost_39 (m_lushr (by omega) (by omega)) ?_
      refine r_callS (as := [_]) (na := 1) (rest := [_]) C (c_bitCount S _ hd2) gX4_cost_J13_bitCount_95d88 (by decide +kernel) (by decide) (by decide) rfl (Nat.le_of_ble_eq_true rfl) rfl dX4_cost_40 rfl (fun v1 S1 hp1 => ?_)
      obtain ⟨rfl, e9⟩ := hp1
      subst S1
      refine r_isub C dX4_cost_43 ?_
      refine r_istore_n (lv' := [(3, _), (2, _), (0, _), (1, _)]) C dX4_cost_44 rfl (hn _ (by decide)) rfl ?_
      refine r_iload_n C dX4_cost_45 rfl rfl ?_
      refine r_iconst C dX4_cost_46 ?_
      refine r_iadd C dX4_cost_47 ?_
      exact r_iret C Rr (⟨by unfold litCost; rw [if_pos (by omega)], rfl⟩) dX4_cost_48
    · exact absurd h17 (by decide)
set_option maxHeartbeats 4000000 in
set_option maxRecDepth 100000 in
theorem c_Lseek (S : ST) (p d : Nat) (dep : Int) (hp0 : p < 60) (hd : d ≤ 40) (hL : IL S) : Ct yX4_seek wsX4_seek 2 [vr (some (14, p)), vi (d : Int), vi dep] S (fun v S1 => v = some (vi (iv S1 14 2 p)) ∧ S1 = litSk S p d) := by
  refine Ct.of (nL := 3) (by decide) rfl (Nat.le_of_ble_eq_true rfl) (by decide) (fun X C Rr hnL => ?_)
  have hn : ∀ i, i < 3 → i < X.2.2.2.2.2 := fun i h => by rw [hnL]; exact h
  obtain ⟨h1r, h2e, h3p, h4b, h5t⟩ := hL p hp0
  have hfb := fsT_b (B := jv S 14 5 p) hd
  refine r_aload_n C dX4_seek_0 rfl rfl ?_
  refine r_getf C (mid_14 hp0) (hp_14 _ _) rfl 2 (by decide) in_X4_seek_X4 lk_X4_seek_35 (Or.inr sm_X4_seek_PlannedLiteral_place) rfl dX4_seek_1 ?_
  refine r_iload_n C dX4_seek_4 rfl rfl ?_
  refine r_icmp_ge (tgt := 37) C dX4_seek_5 (by decide) (by omega) (by omega) (fun h5 => ?_) (fun h5 => ?_)
  · skip
    refine r_aload_n C dX4_seek_37 rfl rfl ?_
    refine r_getf C (mid_14 hp0) (hp_14 _ _) rfl 2 (by decide) in_X4_seek_X4 lk_X4_seek_35 (Or.inr sm_X4_seek_PlannedLiteral_place) rfl dX4_seek_38 ?_
    exact r_iret C Rr (⟨rfl, by unfold litSk; rw [if_pos h5]⟩) dX4_seek_41
  · skip
    refine r_aload_n C dX4_seek_8 rfl rfl ?_
    refine r_aload_n C dX4_seek_9 rfl rfl ?_
    refine r_getf C (mid_14 hp0) (hp_14 _ _) rfl 5 (by decide) in_X4_seek_X4 lk_X4_seek_19 (Or.inl rfl) rfl dX4_seek_10 ?_
    refine r_iload_n C dX4_seek_13 rfl rfl ?_
    refine r_callSN (as := [_, _]) (na := 2) (rest := [_]) C (by decide +kernel) ini_X4_seek_X10 st_X4_seek_X10_firstOf (c_firstOf S (jv S 14 5 p) d h5t hd) gX4_seek_X10_firstOf_n38 (by decide +kernel) (by decide) (by decide) rfl (Nat.le_of_ble_eq_true rfl) rfl dX4_seek_14 rfl (fun v1 S1 hp1 => ?_)
    obtain ⟨rfl, e9⟩ := hp1
    subst S1
    refine r_putf  C (mid_14 hp0) (hp_14 _ _) rfl 2 (by decide) in_X4_seek_X4 lk_X4_seek_35 (Or.inr sm_X4_seek_PlannedLiteral_place) tyX4 tyX4_ok nmX4 rfl (tyX4_ok 2 (by decide)) (fun _ => rfl) (fun _ => rfl) (Nat.le_of_ble_eq_true rfl) (hs_14_2 _ _ _) dX4_seek_17 ?_
    refine r_aload_n C dX4_seek_20 rfl rfl ?_
    refine r_getf C (mid_14 hp0) (hp_14 _ _) rfl 3 (by decide) in_X4_seek_X4 lk_X4_seek_9 (Or.inl rfl) rfl dX4_seek_21 ?_
    refine r_dup C rfl dX4_seek_24 ?_
    refine r_getf C (mid_7 (by omega)) (hp_7 _ _) rfl 0 (by decide) in_X4_seek_X8 lk_X4_seek_42 (Or.inl rfl) rfl dX4_seek_25 ?_
    refine r_aload_n C dX4_seek_28 rfl rfl ?_
    refine r_iload_n C dX4_seek_29 rfl rfl ?_
    refine r_callV (as := [_]) (na := 1) (rest := [_, _]) C (mid_14 hp0) (hp_14 _ _) rfl (c_Lcost (si S 14 2 p ((fsT (jv S 14 5 p) d) : Nat)) p d (fsT (jv S 14 5 p) d) hp0 hd (by simpa [iv, si, up3] using h1r) (by simp [iv, si, up3]) hfb.2 h4b) gX4_seek_X4_cost (by decide +kernel) (by decide) (by decide) rfl (Nat.le_of_ble_eq_true rfl) rfl dX4_seek_30 rfl (fun v1 S1 hp1 => ?_)
    obtain ⟨rfl, e9⟩ := hp1
    subst S1
    have e2 : litCost (si S 14 2 p ((fsT (jv S 14 5 p) d) : Nat)) p d (fsT (jv S 14 5 p) d) = litCost S p d (fsT (jv S 14 5 p) d) := by simp [litCost, iv, si, up3, jv]
    have e3 : iv (si S 14 2 p ((fsT (jv S 14 5 p) d) : Nat)) 7 0 (p / 30) = iv S 7 0 (p / 30) := by simp [iv, si, up3]
    refine r_iadd C dX4_seek_33 ?_
    refine At_val (v' := vi (iv S 7 0 (p / 30) + litCost S p d (fsT (jv S 14 5 p) d))) (by rw [← e2, ← e3]; rfl) ?_
    refine r_putf  C (mid_7 (by omega)) (hp_7 _ _) rfl 0 (by decide) in_X4_seek_X8 lk_X4_seek_42 (Or.inl rfl) tyX8 tyX8_ok nmX8 rfl (tyX8_ok 0 (by decide)) (fun _ => rfl) (fun _ => rfl) (Nat.le_of_ble_eq_true rfl) (hs_7_0 _ _ _) dX4_seek_34 ?_
    refine r_aload_n C dX4_seek_37 rfl rfl ?_
    refine r_getf C (mid_14 hp0) (hp_14 _ _) rfl 2 (by decide) in_X4_seek_X4 lk_X4_seek_35 (Or.inr sm_X4_seek_PlannedLiteral_place) rfl dX4_seek_38 ?_
    exact r_iret C Rr (⟨rfl, by unfold litSk; rw [if_neg (by omega)]⟩) dX4_seek_41
set_option maxHeartbeats 4000000 in
set_option maxRecDepth 100000 in
theorem c_placesUpTo_C (S : ST) (y : Nat) (hy : y < 10) (b : Int) (hb : -1 ≤ b ∧ b ≤ 40) (hR : RI S) : Ct yX0_placesUpTo wsX0_placesUpTo 1 [vr (some (11, y)), vi b] S (fun v S1 => v = some (vi ((upTo (plC y S) (iv S 11 3 y).toNat b : Nat) : Int)) ∧ S1 = S) := by
  refine Ct.of (nL := 5) (by decide) rfl (Nat.le_of_ble_eq_true rfl) (by decide) (fun X C Rr hnL => ?_)
  have hn : ∀ i, i < 5 → i < X.2.2.2.2.2 := fun i h => by rw [hnL]; exact h
  obtain ⟨hz, hps⟩ := id (hR.2.1 y hy).2
  have hplb : ∀ p, p < 60 → -1 ≤ (iv S 14 2 p) ∧ (iv S 14 2 p) ≤ 40 := hR.pl.1
  refine r_iconst C dX0_placesUpTo_0 ?_
  refine r_istore_n (lv' := [(2, _), (0, _), (1, _)]) C dX0_placesUpTo_1 rfl (hn _ (by decide)) rfl ?_
  refine r_iconst C dX0_placesUpTo_2 ?_
  refine r_istore_n (lv' := [(3, _), (2, _), (0, _), (1, _)]) C dX0_placesUpTo_3 rfl (hn _ (by decide)) rfl ?_
  have loop4 : ∀ (k i : Nat) (hk : 7 - i < k) (hi : (i : Int) ≤ (iv S 11 3 y)), At X 0 0 4 [(0, vr (some (11, y))), (1, vi b), (2, vi ((upTo (plC y S) i b : Nat) : Int)), (3, vi (i : Int))] [] S := by
    intro k
    induction k with
    | zero => intro i hk hi; exact absurd hk (by omega)
    | succ k ih =>
      intro i hk hi
      refine r_iload_n C dX0_placesUpTo_4 rfl rfl ?_
      refine r_aload_n C dX0_placesUpTo_5 rfl rfl ?_
      refine r_getf C (mid_11 hy) (hp_11 _ _) rfl 3 (by decide) in_X0_placesUpTo_X3 lk_X0_placesUpTo_22 (Or.inl rfl) rfl dX0_placesUpTo_6 ?_
      refine r_icmp_ge (tgt := 42) C dX0_placesUpTo_9 (by decide) (by omega) (by omega) (fun h9 => ?_) (fun h9 => ?_)
      · skip
        refine r_iload_n C dX0_placesUpTo_42 rfl rfl ?_
        exact r_iret C Rr (⟨by rw [show (iv S 11 3 y).toNat = i by omega], rfl⟩) dX0_placesUpTo_43
      · skip
        refine r_aload_n C dX0_placesUpTo_12 rfl rfl ?_
        refine r_iload_n C dX0_placesUpTo_13 rfl rfl ?_
        refine r_callU (as := [_]) (na := 1) (rest := []) C (mid_11 hy) (hp_11 _ _) rfl (c_partAt_C S y hy (i : Int) (by omega) hz) gX0_placesUpTo_X0_partAt_u32X3 (by decide +kernel) (by decide) (by decide) rfl (Nat.le_of_ble_eq_true rfl) rfl dX0_placesUpTo_14 rfl (fun v1 S1 hp1 => ?_)
        obtain ⟨rfl, e9⟩ := hp1
        subst S1
        have hpi := hps i (by omega)
        refine At_val (v' := vr (some (14, pa S 12 y i))) (by rw [if_pos (by omega), Int.toNat_natCast, hpi.1]; rfl) ?_
        refine r_astore (lv' := [(4, _), (0, _), (1, _), (2, _), (3, _)]) C dX0_placesUpTo_17 (hn _ (by decide)) rfl ?_
        refine r_aload C dX0_placesUpTo_19 rfl ?_
        refine r_ifnull (tgt := 36) C dX0_placesUpTo_21 (by decide) (fun h => by cases h) (fun i21 h21 => ?_)
        clear h21
        refine r_aload C dX0_placesUpTo_24 rfl ?_
        refine r_getf C (mid_14 hpi.2) (hp_14 _ _) rfl 2 (by decide) in_X0_placesUpTo_X4 lk_X0_placesUpTo_90 (Or.inl rfl) rfl dX0_placesUpTo_26 ?_
        have hpb := hplb _ hpi.2
        refine r_iload_n C dX0_placesUpTo_29 rfl rfl ?_
        refine r_icmp_gt (tgt := 36) C dX0_placesUpTo_30 (by decide) (by omega) (by omega) (fun h30 => ?_) (fun h30 => ?_)
        · skip
          refine r_iinc (lv' := [(3, _), (4, _), (0, _), (1, _), (2, _)]) C dX0_placesUpTo_36 rfl (hn _ (by decide)) rfl ?_
          have e1 : upTo (plC y S) (i + 1) b = upTo (plC y S) i b := cnt0_no (p := fun j => decide ((plC y S) j ≤ b)) (decide_eq_false (show ¬ (iv S 14 2 (pa S 12 y i)) ≤ b by omega))
          refine r_goto (tgt := 4) C dX0_placesUpTo_39 (by decide) ?_
          exact At_lv (by simp [e1]) (ih (i + 1) (by omega) (by omega))
        · skip
          refine r_iinc (lv' := [(2, _), (4, _), (0, _), (1, _), (3, _)]) C dX0_placesUpTo_33 rfl (hn _ (by decide)) rfl ?_
          refine r_iinc (lv' := [(3, _), (2, _), (4, _), (0, _), (1, _)]) C dX0_placesUpTo_36 rfl (hn _ (by decide)) rfl ?_
          have e1 : upTo (plC y S) (i + 1) b = upTo (plC y S) i b + 1 := cnt0_yes (p := fun j => decide ((plC y S) j ≤ b)) (decide_eq_true (show (iv S 14 2 (pa S 12 y i)) ≤ b by omega))
          refine r_goto (tgt := 4) C dX0_placesUpTo_39 (by decide) ?_
          exact At_lv (by simp [e1]) (ih (i + 1) (by omega) (by omega))
  exact At_lv (by simp [upTo, cnt]) (loop4 8 0 (by omega) (by omega))
set_option maxHeartbeats 4000000 in
set_option maxRecDepth 100000 in
theorem c_neededPlace_C (S : ST) (y : Nat) (hy : y < 10) (hR : RI S) : Ct yX0_neededPlace wsX0_neededPlace 2 [vr (some (11, y))] S (fun v S1 => v = some (vi (ndP (plC y S) (iv S 11 2 y) (iv S 11 3 y).toNat (iv S 11 3 y).toNat)) ∧ S1 = S) := by
  refine Ct.of (nL := 4) (by decide) rfl (Nat.le_of_ble_eq_true rfl) (by decide) (fun X C Rr hnL => ?_)
  have hn : ∀ i, i < 4 → i < X.2.2.2.2.2 := fun i h => by rw [hnL]; exact h
  obtain ⟨hz, hps⟩ := id (hR.2.1 y hy).2
  have hplb : ∀ p, p < 60 → -1 ≤ (iv S 14 2 p) ∧ (iv S 14 2 p) ≤ 40 := hR.pl.1
  refine r_bipush C dX0_neededPlace_0 (by decide) ?_
  refine r_istore_n (lv' := [(1, _), (0, _)]) C dX0_neededPlace_2 rfl (hn _ (by decide)) rfl ?_
  refine r_iconst C dX0_neededPlace_3 ?_
  refine r_istore_n (lv' := [(2, _), (1, _), (0, _)]) C dX0_neededPlace_4 rfl (hn _ (by decide)) rfl ?_
  have loop5 : ∀ (k i : Nat) (hk : 7 - i < k) (hi : (i : Int) ≤ (iv S 11 3 y)), At X 0 0 5 [(0, vr (some (11, y))), (1, vi (ndP (plC y S) (iv S 11 2 y) (iv S 11 3 y).toNat i)), (2, vi (i : Int))] [] S := by
    intro k
    induction k with
    | zero => intro i hk hi; exact absurd hk (by omega)
    | succ k ih =>
      intro i hk hi
      have hlb := ndP_b (pl := (plC y S)) (need := iv S 11 2 y) (n := (iv S 11 3 y).toNat) i (fun j hj => hplb _ (hps j (by omega)).2)
      refine r_iload_n C dX0_neededPlace_5 rfl rfl ?_
      refine r_aload_n C dX0_neededPlace_6 rfl rfl ?_
      refine r_getf C (mid_11 hy) (hp_11 _ _) rfl 3 (by decide) in_X0_neededPlace_X3 lk_X0_neededPlace_22 (Or.inl rfl) rfl dX0_neededPlace_7 ?_
      refine r_icmp_ge (tgt := 57) C dX0_neededPlace_10 (by decide) (by omega) (by omega) (fun h10 => ?_) (fun h10 => ?_)
      · skip
        refine r_iload_n C dX0_neededPlace_57 rfl rfl ?_
        exact r_iret C Rr (⟨by rw [show i = (iv S 11 3 y).toNat by omega], rfl⟩) dX0_neededPlace_58
      · skip
        refine r_aload_n C dX0_neededPlace_13 rfl rfl ?_
        refine r_iload_n C dX0_neededPlace_14 rfl rfl ?_
        refine r_callU (as := [_]) (na := 1) (rest := []) C (mid_11 hy) (hp_11 _ _) rfl (c_partAt_C S y hy (i : Int) (by omega) hz) gX0_neededPlace_X0_partAt_u32X3 (by decide +kernel) (by decide) (by decide) rfl (Nat.le_of_ble_eq_true rfl) rfl dX0_neededPlace_15 rfl (fun v1 S1 hp1 => ?_)
        obtain ⟨rfl, e9⟩ := hp1
        subst S1
        have hpi := hps i (by omega)
        refine At_val (v' := vr (some (14, pa S 12 y i))) (by rw [if_pos (by omega), Int.toNat_natCast, hpi.1]; rfl) ?_
        refine r_astore_n (lv' := [(3, _), (0, _), (1, _), (2, _)]) C dX0_neededPlace_18 rfl (hn _ (by decide)) rfl ?_
        refine r_aload_n C dX0_neededPlace_19 rfl rfl ?_
        refine r_ifnull (tgt := 51) C dX0_neededPlace_20 (by decide) (fun h => by cases h) (fun i20 h20 => ?_)
        clear h20
        refine r_aload_n C dX0_neededPlace_23 rfl rfl ?_
        refine r_getf C (mid_14 hpi.2) (hp_14 _ _) rfl 2 (by decide) in_X0_neededPlace_X4 lk_X0_neededPlace_90 (Or.inl rfl) rfl dX0_neededPlace_24 ?_
        have hpb := hplb _ hpi.2
        refine r_iload_n C dX0_neededPlace_27 rfl rfl ?_
        refine r_icmp_ge (tgt := 51) C dX0_neededPlace_28 (by decide) (by omega) (by omega) (fun h28 => ?_) (fun h28 => ?_)
        · skip
          refine r_iinc (lv' := [(2, _), (3, _), (0, _), (1, _)]) C dX0_neededPlace_51 rfl (hn _ (by decide)) rfl ?_
          have e1 : ndP (plC y S) (iv S 11 2 y) (iv S 11 3 y).toNat (i + 1) = (ndP (plC y S) (iv S 11 2 y) (iv S 11 3 y).toNat i) := if_neg (fun q => by have q1 : (iv S 14 2 (pa S 12 y i)) < (ndP (plC y S) (iv S 11 2 y) (iv S 11 3 y).toNat i) := q.1; omega)
          refine r_goto (tgt := 5) C dX0_neededPlace_54 (by decide) ?_
          exact At_lv (by simp [e1]) (ih (i + 1) (by omega) (by omega))
        · skip
          refine r_aload_n C dX0_neededPlace_31 rfl rfl ?_
          refine r_aload_n C dX0_neededPlace_32 rfl rfl ?_
          refine r_getf C (mid_14 hpi.2) (hp_14 _ _) rfl 2 (by decide) in_X0_neededPlace_X4 lk_X0_neededPlace_90 (Or.inl rfl) rfl dX0_neededPlace_33 ?_
          refine r_callU (as := [_]) (na := 1) (rest := []) C (mid_11 hy) (hp_11 _ _) rfl (c_placesUpTo_C S y hy (iv S 14 2 (pa S 12 y i)) hpb hR) gX0_neededPlace_X0_placesUpTo_u91X3 (by decide +kernel) (by decide) (by decide) rfl (Nat.le_of_ble_eq_true rfl) rfl dX0_neededPlace_36 rfl (fun v1 S1 hp1 => ?_)
          obtain ⟨rfl, e9⟩ := hp1
          subst S1
          refine r_aload_n C dX0_neededPlace_39 rfl rfl ?_
          refine r_getf C (mid_11 hy) (hp_11 _ _) rfl 2 (by decide) in_X0_neededPlace_X3 lk_X0_neededPlace_19 (Or.inl rfl) rfl dX0_neededPlace_40 ?_
          have hul := cnt_le (fun j => decide ((plC y S) j ≤ (iv S 14 2 (pa S 12 y i)))) 0 (iv S 11 3 y).toNat
          have hnd := (hR.2.1 y hy).1.2.1
          have hu0 : (upTo (plC y S) (iv S 11 3 y).toNat (iv S 14 2 (pa S 12 y i)) : Int) ≤ 6 := by unfold upTo; omega
          refine r_icmp_lt (tgt := 51) C dX0_neededPlace_43 (by decide) (by omega) (by omega) (fun h43 => ?_) (fun h43 => ?_)
          · skip
            refine r_iinc (lv' := [(2, _), (3, _), (0, _), (1, _)]) C dX0_neededPlace_51 rfl (hn _ (by decide)) rfl ?_
            have e1 : ndP (plC y S) (iv S 11 2 y) (iv S 11 3 y).toNat (i + 1) = (ndP (plC y S) (iv S 11 2 y) (iv S 11 3 y).toNat i) := if_neg (fun q => by have q1 : iv S 11 2 y ≤ (upTo (plC y S) (iv S 11 3 y).toNat (iv S 14 2 (pa S 12 y i)) : Nat) := q.2; omega)
            refine r_goto (tgt := 5) C dX0_neededPlace_54 (by decide) ?_
            exact At_lv (by simp [e1]) (ih (i + 1) (by omega) (by omega))
          · skip
            refine r_aload_n C dX0_neededPlace_46 rfl rfl ?_
            refine r_getf C (mid_14 hpi.2) (hp_14 _ _) rfl 2 (by decide) in_X0_neededPlace_X4 lk_X0_neededPlace_90 (Or.inl rfl) rfl dX0_neededPlace_47 ?_
            refine r_istore_n (lv' := [(1, _), (3, _), (0, _), (2, _)]) C dX0_neededPlace_50 rfl (hn _ (by decide)) rfl ?_
            refine r_iinc (lv' := [(2, _), (1, _), (3, _), (0, _)]) C dX0_neededPlace_51 rfl (hn _ (by decide)) rfl ?_
            have e1 : ndP (plC y S) (iv S 11 2 y) (iv S 11 3 y).toNat (i + 1) = (iv S 14 2 (pa S 12 y i)) := if_pos ⟨h28, h43⟩
            refine r_goto (tgt := 5) C dX0_neededPlace_54 (by decide) ?_
            exact At_lv (by simp [e1]) (ih (i + 1) (by omega) (by omega))
  exact At_lv (by simp [ndP]) (loop5 8 0 (by omega) (by omega))
set_option maxHeartbeats 4000000 in
set_option maxRecDepth 100000 in
theorem c_seekAny_C (S : ST) (y : Nat) (hy : y < 10) (d : Nat) (dep : Int) (hdep : 0 ≤ dep ∧ dep ≤ 1) (hd : d < 40) (hR : RI S) : Ct yX0_seekAny wsX0_seekAny 3 [vr (some (11, y)), vi (d : Int), vi dep] S (fun v S1 => v = some (vi (((gAnyA (lsk y) d (iv S 11 3 y).toNat S).1 : Nat) : Int)) ∧ S1 = (gAnyA (lsk y) d (iv S 11 3 y).toNat S).2) := by
  refine Ct.of (nL := 6) (by decide) rfl (Nat.le_of_ble_eq_true rfl) (by decide) (fun X C Rr hnL => ?_)
  have hn : ∀ i, i < 6 → i < X.2.2.2.2.2 := fun i h => by rw [hnL]; exact h
  obtain ⟨hz, hps⟩ := id (hR.2.1 y hy).2
  have hplb : ∀ p, p < 60 → -1 ≤ (iv S 14 2 p) ∧ (iv S 14 2 p) ≤ 40 := hR.pl.1
  refine r_bipush C dX0_seekAny_0 (by decide) ?_
  refine r_istore_n (lv' := [(3, _), (0, _), (1, _), (2, _)]) C dX0_seekAny_2 rfl (hn _ (by decide)) rfl ?_
  refine r_iconst C dX0_seekAny_3 ?_
  refine r_istore (lv' := [(4, _), (3, _), (0, _), (1, _), (2, _)]) C dX0_seekAny_4 (hn _ (by decide)) rfl ?_
  have loop6 : ∀ (k i : Nat) (l : Nat) (Si : ST) (hk : 7 - i < k) (hi : (i : Int) ≤ (iv S 11 3 y)) (he : (gAnyA (lsk y) d i S) = (l, Si)) (hl : l ≤ 40) (hRi : RI Si) (hSi : RS S Si), At X 0 0 6 [(0, vr (some (11, y))), (1, vi (d : Int)), (2, vi dep), (3, vi (l : Int)), (4, vi (i : Int))] [] Si := by
    intro k
    induction k with
    | zero => intro i l Si hk hi he hl hRi hSi; exact absurd hk (by omega)
    | succ k ih =>
      intro i l Si hk hi he hl hRi hSi
      have hzi := (hRi.2.1 y hy).2.1
      have hni := hSi.n y
      refine r_iload C dX0_seekAny_6 rfl ?_
      refine r_aload_n C dX0_seekAny_8 rfl rfl ?_
      refine r_getf C (mid_11 hy) (hp_11 _ _) rfl 3 (by decide) in_X0_seekAny_X3 lk_X0_seekAny_22 (Or.inl rfl) rfl dX0_seekAny_9 ?_
      refine r_icmp_ge (tgt := 48) C dX0_seekAny_12 (by decide) (by omega) (by omega) (fun h12 => ?_) (fun h12 => ?_)
      · skip
        refine r_iload_n C dX0_seekAny_48 rfl rfl ?_
        exact r_iret C Rr (⟨by rw [show (iv S 11 3 y).toNat = i by omega, he], by rw [show (iv S 11 3 y).toNat = i by omega, he]⟩) dX0_seekAny_49
      · skip
        refine r_aload_n C dX0_seekAny_15 rfl rfl ?_
        refine r_iload C dX0_seekAny_16 rfl ?_
        refine r_callU (as := [_]) (na := 1) (rest := []) C (mid_11 hy) (hp_11 _ _) rfl (c_partAt_C Si y hy (i : Int) (by omega) hzi) gX0_seekAny_X0_partAt_u32X3 (by decide +kernel) (by decide) (by decide) rfl (Nat.le_of_ble_eq_true rfl) rfl dX0_seekAny_18 rfl (fun v1 S1 hp1 => ?_)
        obtain ⟨rfl, e9⟩ := hp1
        subst S1
        have hpi := (hRi.2.1 y hy).2.2 i (by omega)
        refine At_val (v' := vr (some (14, pa Si 12 y i))) (by rw [if_pos (by omega), Int.toNat_natCast, hpi.1]; rfl) ?_
        refine r_astore (lv' := [(5, _), (0, _), (1, _), (2, _), (3, _), (4, _)]) C dX0_seekAny_21 (hn _ (by decide)) rfl ?_
        refine r_aload C dX0_seekAny_23 rfl ?_
        refine r_ifnull (tgt := 42) C dX0_seekAny_25 (by decide) (fun h => by cases h) (fun i25 h25 => ?_)
        clear h25
        refine r_iload_n C dX0_seekAny_28 rfl rfl ?_
        refine r_aload C dX0_seekAny_29 rfl ?_
        refine r_iload_n C dX0_seekAny_31 rfl rfl ?_
        refine r_iload_n C dX0_seekAny_32 rfl rfl ?_
        refine r_iconst C dX0_seekAny_33 ?_
        refine r_iadd C dX0_seekAny_34 ?_
        refine r_callA (as := [_, _]) (na := 2) (rest := [_]) C (mid_14 hpi.2) (hp_14 _ _) rfl (c_Lseek Si (pa Si 12 y i) d _ (hpi).2 (by omega) hRi.1) gX0_seekAny_X4_seek_u84X4 (by decide +kernel) (by decide) (by decide) rfl (Nat.le_of_ble_eq_true rfl) rfl dX0_seekAny_35 rfl (fun v1 S1 hp1 => ?_)
        obtain ⟨rfl, e9⟩ := hp1
        subst S1
        have hIn := lsk_inv (S := S) (y := y) i d Si (by omega) ⟨hRi, hSi⟩
        have hpl2 : -1 ≤ iv (litSk Si (pa Si 12 y i) d) 14 2 (pa Si 12 y i) ∧ iv (litSk Si (pa Si 12 y i) d) 14 2 (pa Si 12 y i) ≤ 40 := hIn.1.pl.1 _ hpi.2
        have hge : 0 ≤ iv (litSk Si (pa Si 12 y i) d) 14 2 (pa Si 12 y i) := litSk_ge _ _ _
        refine At_val (v' := vi (((lsk y i d Si).1 : Nat) : Int)) (by show vi _ = vi _; congr 1; exact (Int.toNat_of_nonneg hge).symm) ?_
        have hr40 : (lsk y i d Si).1 ≤ 40 := by show (iv (litSk Si (pa Si 12 y i) d) 14 2 (pa Si 12 y i)).toNat ≤ 40; omega
        show At X _ _ _ _ _ (lsk y i d Si).2
        refine r_mmin C (by decide) lk_X0_seekAny_60 st_X0_seekAny_Mmin ini_X0_seekAny_Math co_X0_seekAny_Mmin (by omega) (by omega) (Nat.le_of_ble_eq_true rfl) dX0_seekAny_38 ?_
        refine At_val (v' := vi ((min l (lsk y i d Si).1 : Nat) : Int)) (by congr 1; omega) ?_
        refine r_istore_n (lv' := [(3, _), (5, _), (0, _), (1, _), (2, _), (4, _)]) C dX0_seekAny_41 rfl (hn _ (by decide)) rfl ?_
        refine r_iinc (lv' := [(4, _), (3, _), (5, _), (0, _), (1, _), (2, _)]) C dX0_seekAny_42 rfl (hn _ (by decide)) rfl ?_
        refine r_goto (tgt := 6) C dX0_seekAny_45 (by decide) ?_
        exact At_lv (by simp) (ih (i + 1) (min l (lsk y i d Si).1) (lsk y i d Si).2 (by omega) (by omega) (by show (min (gAnyA (lsk y) d i S).1 (lsk y i d (gAnyA (lsk y) d i S).2).1, (lsk y i d (gAnyA (lsk y) d i S).2).2) = _; rw [he]) (by omega) hIn.1 hIn.2)
  exact At_lv (by simp) (loop6 8 0 40 S (by omega) (by omega) rfl (Nat.le_refl 40) hR (RS.rf S))
set_option maxHeartbeats 4000000 in
set_option maxRecDepth 100000 in
theorem c_seekSome_C (S : ST) (y : Nat) (hy : y < 10) (d : Nat) (dep : Int) (hdep : 0 ≤ dep ∧ dep ≤ 1) (hd : d < 40) (hR : RI S) : Ct yX0_seekSome wsX0_seekSome 4 [vr (some (11, y)), vi (d : Int), vi dep] S (fun v S1 => v = some (vi (((gSome (lsk y) (fun s => ndP (plC y s) (iv S 11 2 y) (iv S 11 3 y).toNat (iv S 11 3 y).toNat) (iv S 11 3 y).toNat (40) d S).1 : Nat) : Int)) ∧ S1 = (gSome (lsk y) (fun s => ndP (plC y s) (iv S 11 2 y) (iv S 11 3 y).toNat (iv S 11 3 y).toNat) (iv S 11 3 y).toNat (40) d S).2) := by
  refine Ct.of (nL := 6) (by decide) rfl (Nat.le_of_ble_eq_true rfl) (by decide) (fun X C Rr hnL => ?_)
  have hn : ∀ i, i < 6 → i < X.2.2.2.2.2 := fun i h => by rw [hnL]; exact h
  obtain ⟨hz, hps⟩ := id (hR.2.1 y hy).2
  have hplb : ∀ p, p < 60 → -1 ≤ (iv S 14 2 p) ∧ (iv S 14 2 p) ≤ 40 := hR.pl.1
  refine r_iload_n C dX0_seekSome_0 rfl rfl ?_
  refine r_istore_n (lv' := [(3, _), (0, _), (1, _), (2, _)]) C dX0_seekSome_1 rfl (hn _ (by decide)) rfl ?_
  refine r_iconst C dX0_seekSome_2 ?_
  refine r_istore (lv' := [(4, _), (3, _), (0, _), (1, _), (2, _)]) C dX0_seekSome_3 (hn _ (by decide)) rfl ?_
  have loop5 : ∀ (k r : Nat) (w : Nat) (Si : ST) (hk : 40 - r < k) (hr : r ≤ 40) (he : gSome (lsk y) (fun s => ndP (plC y s) (iv S 11 2 y) (iv S 11 3 y).toNat (iv S 11 3 y).toNat) (iv S 11 3 y).toNat (40 - r) w Si = gSome (lsk y) (fun s => ndP (plC y s) (iv S 11 2 y) (iv S 11 3 y).toNat (iv S 11 3 y).toNat) (iv S 11 3 y).toNat (40) d S) (hw : w ≤ 40) (hRi : RI Si) (hSi : RS S Si), At X 0 0 5 [(0, vr (some (11, y))), (1, vi (d : Int)), (2, vi dep), (3, vi (w : Int)), (4, vi (r : Int))] [] Si := by
    intro k
    induction k with
    | zero => intro r w Si hk hr he hw hRi hSi; exact absurd hk (by omega)
    | succ k ih =>
      intro r w Si hk hr he hw hRi hSi
      refine r_iload C dX0_seekSome_5 rfl ?_
      refine r_bipush C dX0_seekSome_7 (by decide) ?_
      refine r_icmp_ge (tgt := 48) C dX0_seekSome_9 (by decide) (by omega) (by omega) (fun h9 => ?_) (fun h9 => ?_)
      · skip
        refine r_bipush C dX0_seekSome_48 (by decide) ?_
        exact r_iret C Rr (⟨by rw [← he, show 40 - r = 0 by omega]; rfl, by rw [← he, show 40 - r = 0 by omega]; rfl⟩) dX0_seekSome_50
      · skip
        refine r_iload_n C dX0_seekSome_12 rfl rfl ?_
        refine r_bipush C dX0_seekSome_13 (by decide) ?_
        refine r_icmp_ge (tgt := 48) C dX0_seekSome_15 (by decide) (by omega) (by omega) (fun h15 => ?_) (fun h15 => ?_)
        · skip
          refine r_bipush C dX0_seekSome_48 (by decide) ?_
          exact r_iret C Rr (⟨by rw [← he]; cases hf : 40 - r with | zero => rfl | succ f => unfold gSome; rw [if_neg (by omega)]; rfl, by rw [← he]; cases hf : 40 - r with | zero => rfl | succ f => conv => rhs; unfold gSome; rw [if_neg (by omega)]⟩) dX0_seekSome_50
        · skip
          refine r_aload_n C dX0_seekSome_18 rfl rfl ?_
          refine r_iload_n C dX0_seekSome_19 rfl rfl ?_
          refine r_iload_n C dX0_seekSome_20 rfl rfl ?_
          refine r_callU (as := [_, _]) (na := 2) (rest := []) C (mid_11 hy) (hp_11 _ _) rfl (c_seekAny_C Si y hy w dep hdep (by omega) hRi) gX0_seekSome_X0_seekAny_u74X3 (by decide +kernel) (by decide) (by decide) rfl (Nat.le_of_ble_eq_true rfl) rfl dX0_seekSome_21 rfl (fun v1 S1 hp1 => ?_)
          obtain ⟨rfl, e9⟩ := hp1
          subst S1
          have hIn := gAnyA_inv (sk := lsk y) (d := w) (n := (iv S 11 3 y).toNat) (I := fun q => RI q ∧ RS S q) (fun j s hj hs => by obtain ⟨hRi, hSi⟩ := hs; exact lsk_inv (S := S) (y := y) j w s (by omega) ⟨hRi, hSi⟩) (iv Si 11 3 y).toNat Si (by rw [hSi.n]; exact Nat.le_refl _) ⟨hRi, hSi⟩
          rw [hSi.n y] at hIn ⊢
          refine r_pop C rfl dX0_seekSome_24 ?_
          refine r_aload_n C dX0_seekSome_25 rfl rfl ?_
          refine r_callU (as := []) (na := 0) (rest := []) C (mid_11 hy) (hp_11 _ _) rfl (c_neededPlace_C _ y hy hIn.1) gX0_seekSome_X0_neededPlace_u87X3 (by decide +kernel) (by decide) (by decide) rfl (Nat.le_of_ble_eq_true rfl) rfl dX0_seekSome_26 rfl (fun v1 S1 hp1 => ?_)
          obtain ⟨rfl, e9⟩ := hp1
          subst S1
          rw [hIn.2.n y, hIn.2.d y]
          have hnb := ndP_b (pl := plC y (gAnyA (lsk y) w (iv S 11 3 y).toNat Si).2) (need := iv S 11 2 y) (n := (iv S 11 3 y).toNat) (iv S 11 3 y).toNat (fun j hj => hIn.1.pl.1 _ (by have q := (hIn.1.2.1 y hy).2.2 j (by rw [hIn.2.n]; omega); exact q.2))
          refine r_istore (lv' := [(5, _), (0, _), (1, _), (2, _), (3, _), (4, _)]) C dX0_seekSome_29 (hn _ (by decide)) rfl ?_
          refine r_iload C dX0_seekSome_31 rfl ?_
          refine r_iload_n C dX0_seekSome_33 rfl rfl ?_
          refine r_icmp_gt (tgt := 39) C dX0_seekSome_34 (by decide) (by omega) (by omega) (fun h34 => ?_) (fun h34 => ?_)
          · skip
            refine r_iload C dX0_seekSome_39 rfl ?_
            refine At_val (v' := vi (((ndP (plC y (gAnyA (lsk y) w (iv S 11 3 y).toNat Si).2) (iv S 11 2 y) (iv S 11 3 y).toNat (iv S 11 3 y).toNat).toNat : Nat) : Int)) (by congr 1; omega) ?_
            refine r_istore_n (lv' := [(3, _), (5, _), (0, _), (1, _), (2, _), (4, _)]) C dX0_seekSome_41 rfl (hn _ (by decide)) rfl ?_
            refine r_iinc (lv' := [(4, _), (3, _), (5, _), (0, _), (1, _), (2, _)]) C dX0_seekSome_42 rfl (hn _ (by decide)) rfl ?_
            refine r_goto (tgt := 5) C dX0_seekSome_45 (by decide) ?_
            exact At_lv (by simp) (ih (r + 1) (ndP (plC y (gAnyA (lsk y) w (iv S 11 3 y).toNat Si).2) (iv S 11 2 y) (iv S 11 3 y).toNat (iv S 11 3 y).toNat).toNat _ (by omega) (by omega) (by rw [← he, show 40 - r = (40 - (r + 1)) + 1 by omega]; conv => rhs; unfold gSome; rw [if_pos (by omega), if_neg (by omega)]) (by omega) hIn.1 hIn.2)
          · skip
            refine r_iload_n C dX0_seekSome_37 rfl rfl ?_
            exact r_iret C Rr (⟨by rw [← he, show 40 - r = (40 - (r + 1)) + 1 by omega]; unfold gSome; rw [if_pos (by omega), if_pos h34], by rw [← he, show 40 - r = (40 - (r + 1)) + 1 by omega]; conv => rhs; unfold gSome; rw [if_pos (by omega), if_pos h34]⟩) dX0_seekSome_38
  exact At_lv (by simp) (loop5 41 0 d S (by omega) (by omega) rfl (by omega) hR (RS.rf S))
set_option maxHeartbeats 4000000 in
set_option maxRecDepth 100000 in
theorem c_seekAll_C (S : ST) (y : Nat) (hy : y < 10) (d : Nat) (dep : Int) (hdep : 0 ≤ dep ∧ dep ≤ 1) (hd : d < 40) (hR : RI S) : Ct yX0_seekAll wsX0_seekAll 4 [vr (some (11, y)), vi (d : Int), vi dep] S (fun v S1 => v = some (vi (((gAll (lsk y) (iv S 11 3 y).toNat (1000) d 0 S).1 : Nat) : Int)) ∧ S1 = (gAll (lsk y) (iv S 11 3 y).toNat (1000) d 0 S).2) := by
  refine Ct.of (nL := 8) (by decide) rfl (Nat.le_of_ble_eq_true rfl) (by decide) (fun X C Rr hnL => ?_)
  have hn : ∀ i, i < 8 → i < X.2.2.2.2.2 := fun i h => by rw [hnL]; exact h
  obtain ⟨hz, hps⟩ := id (hR.2.1 y hy).2
  have hplb : ∀ p, p < 60 → -1 ≤ (iv S 14 2 p) ∧ (iv S 14 2 p) ≤ 40 := hR.pl.1
  refine r_iload_n C dX0_seekAll_0 rfl rfl ?_
  refine r_istore_n (lv' := [(3, _), (0, _), (1, _), (2, _)]) C dX0_seekAll_1 rfl (hn _ (by decide)) rfl ?_
  refine r_iconst C dX0_seekAll_2 ?_
  refine r_istore (lv' := [(4, _), (3, _), (0, _), (1, _), (2, _)]) C dX0_seekAll_3 (hn _ (by decide)) rfl ?_
  refine r_iconst C dX0_seekAll_5 ?_
  refine r_istore (lv' := [(5, _), (4, _), (3, _), (0, _), (1, _), (2, _)]) C dX0_seekAll_6 (hn _ (by decide)) rfl ?_
  have loop8 : ∀ (k st : Nat) (w g : Nat) (Si : ST) (hk : 1000 - st < k) (hst : st ≤ 1000) (he : gAll (lsk y) (iv S 11 3 y).toNat (1000 - st) w g Si = gAll (lsk y) (iv S 11 3 y).toNat (1000) d 0 S) (hw : w < 40) (hg : (g : Int) ≤ (iv S 11 3 y)) (hRi : RI Si) (hSi : RS S Si), At X 0 0 8 [(0, vr (some (11, y))), (1, vi (d : Int)), (2, vi dep), (3, vi (w : Int)), (4, vi (g : Int)), (5, vi (st : Int))] [] Si := by
    intro k
    induction k with
    | zero => intro st w g Si hk hst he hw hg hRi hSi; exact absurd hk (by omega)
    | succ k ih =>
      intro st w g Si hk hst he hw hg hRi hSi
      have hzi := (hRi.2.1 y hy).2.1
      have hni := hSi.n y
      refine r_iload C dX0_seekAll_8 rfl ?_
      refine r_aload_n C dX0_seekAll_10 rfl rfl ?_
      refine r_getf C (mid_11 hy) (hp_11 _ _) rfl 3 (by decide) in_X0_seekAll_X3 lk_X0_seekAll_22 (Or.inl rfl) rfl dX0_seekAll_11 ?_
      refine r_icmp_ge (tgt := 88) C dX0_seekAll_14 (by decide) (by omega) (by omega) (fun h14 => ?_) (fun h14 => ?_)
      · skip
        refine r_iload_n C dX0_seekAll_88 rfl rfl ?_
        exact r_iret C Rr (⟨by rw [← he]; cases hf : 1000 - st with | zero => rfl | succ f => unfold gAll; rw [if_neg (by omega)], by rw [← he]; cases hf : 1000 - st with | zero => rfl | succ f => conv => rhs; unfold gAll; rw [if_neg (by omega)]⟩) dX0_seekAll_89
      · skip
        refine r_iload C dX0_seekAll_17 rfl ?_
        refine r_sipush C dX0_seekAll_19 (by decide) ?_
        refine r_icmp_ge (tgt := 88) C dX0_seekAll_22 (by decide) (by omega) (by omega) (fun h22 => ?_) (fun h22 => ?_)
        · skip
          refine r_iload_n C dX0_seekAll_88 rfl rfl ?_
          exact r_iret C Rr (⟨by rw [← he, show 1000 - st = 0 by omega]; rfl, by rw [← he, show 1000 - st = 0 by omega]; rfl⟩) dX0_seekAll_89
        · skip
          refine r_aload_n C dX0_seekAll_25 rfl rfl ?_
          refine r_iload C dX0_seekAll_26 rfl ?_
          refine r_callU (as := [_]) (na := 1) (rest := []) C (mid_11 hy) (hp_11 _ _) rfl (c_partAt_C Si y hy (g : Int) (by omega) hzi) gX0_seekAll_X0_partAt_u32X3 (by decide +kernel) (by decide) (by decide) rfl (Nat.le_of_ble_eq_true rfl) rfl dX0_seekAll_28 rfl (fun v1 S1 hp1 => ?_)
          obtain ⟨rfl, e9⟩ := hp1
          subst S1
          have hpi := (hRi.2.1 y hy).2.2 g (by omega)
          refine At_val (v' := vr (some (14, pa Si 12 y g))) (by rw [if_pos (by omega), Int.toNat_natCast, hpi.1]; rfl) ?_
          refine r_astore (lv' := [(6, _), (0, _), (1, _), (2, _), (3, _), (4, _), (5, _)]) C dX0_seekAll_31 (hn _ (by decide)) rfl ?_
          refine r_aload C dX0_seekAll_33 rfl ?_
          refine r_ifnonnull (tgt := 43) C dX0_seekAll_35 (by decide) (fun i35 h35 => ?_) (fun h => by cases h)
          clear h35
          refine r_aload C dX0_seekAll_43 rfl ?_
          refine r_iload_n C dX0_seekAll_45 rfl rfl ?_
          refine r_iload_n C dX0_seekAll_46 rfl rfl ?_
          refine r_iconst C dX0_seekAll_47 ?_
          refine r_iadd C dX0_seekAll_48 ?_
          refine r_callA (as := [_, _]) (na := 2) (rest := []) C (mid_14 hpi.2) (hp_14 _ _) rfl (c_Lseek Si (pa Si 12 y g) w _ (hpi).2 (by omega) hRi.1) gX0_seekAll_X4_seek_u84X4 (by decide +kernel) (by decide) (by decide) rfl (Nat.le_of_ble_eq_true rfl) rfl dX0_seekAll_49 rfl (fun v1 S1 hp1 => ?_)
          obtain ⟨rfl, e9⟩ := hp1
          subst S1
          have hIn := lsk_inv (S := S) (y := y) g w Si (by omega) ⟨hRi, hSi⟩
          have hpl2 : -1 ≤ iv (litSk Si (pa Si 12 y g) w) 14 2 (pa Si 12 y g) ∧ iv (litSk Si (pa Si 12 y g) w) 14 2 (pa Si 12 y g) ≤ 40 := hIn.1.pl.1 _ hpi.2
          have hge : 0 ≤ iv (litSk Si (pa Si 12 y g) w) 14 2 (pa Si 12 y g) := litSk_ge _ _ _
          refine At_val (v' := vi (((lsk y g w Si).1 : Nat) : Int)) (by show vi _ = vi _; congr 1; exact (Int.toNat_of_nonneg hge).symm) ?_
          have hr40 : (lsk y g w Si).1 ≤ 40 := by show (iv (litSk Si (pa Si 12 y g) w) 14 2 (pa Si 12 y g)).toNat ≤ 40; omega
          show At X _ _ _ _ _ (lsk y g w Si).2
          refine r_istore (lv' := [(7, _), (6, _), (0, _), (1, _), (2, _), (3, _), (4, _), (5, _)]) C dX0_seekAll_52 (hn _ (by decide)) rfl ?_
          refine r_iload C dX0_seekAll_54 rfl ?_
          refine r_bipush C dX0_seekAll_56 (by decide) ?_
          refine r_icmp_lt (tgt := 64) C dX0_seekAll_58 (by decide) (by omega) (by omega) (fun h58 => ?_) (fun h58 => ?_)
          · skip
            refine r_iload C dX0_seekAll_64 rfl ?_
            refine r_iload_n C dX0_seekAll_66 rfl rfl ?_
            refine r_icmp_le (tgt := 79) C dX0_seekAll_67 (by decide) (by omega) (by omega) (fun h67 => ?_) (fun h67 => ?_)
            · skip
              refine r_iinc (lv' := [(4, _), (7, _), (6, _), (0, _), (1, _), (2, _), (3, _), (5, _)]) C dX0_seekAll_79 rfl (hn _ (by decide)) rfl ?_
              refine r_iinc (lv' := [(5, _), (4, _), (7, _), (6, _), (0, _), (1, _), (2, _), (3, _)]) C dX0_seekAll_82 rfl (hn _ (by decide)) rfl ?_
              have e1 : gAll (lsk y) (iv S 11 3 y).toNat (1000 - (st + 1)) w (g + 1) (lsk y g w Si).2 = gAll (lsk y) (iv S 11 3 y).toNat (1000) d 0 S := by rw [← he, show 1000 - st = (1000 - (st + 1)) + 1 by omega]; (conv => rhs; unfold gAll); rw [if_pos (by omega), if_neg (by omega), if_neg (by omega)]
              have e0 : g + 1 = g + 1 := rfl
              refine r_goto (tgt := 8) C dX0_seekAll_85 (by decide) ?_
              first | exact At_lv (by simp) (ih (st + 1) _ (g + 1) _ (by omega) (by omega) e1 (by omega) (by omega) hIn.1 hIn.2) | exact At_lv (by simp) (ih (st + 1) _ 0 _ (by omega) (by omega) e1 (by omega) (by omega) hIn.1 hIn.2)
            · skip
              refine r_iload C dX0_seekAll_70 rfl ?_
              refine r_istore_n (lv' := [(3, _), (7, _), (6, _), (0, _), (1, _), (2, _), (4, _), (5, _)]) C dX0_seekAll_72 rfl (hn _ (by decide)) rfl ?_
              refine r_iconst C dX0_seekAll_73 ?_
              refine r_istore (lv' := [(4, _), (3, _), (7, _), (6, _), (0, _), (1, _), (2, _), (5, _)]) C dX0_seekAll_74 (hn _ (by decide)) rfl ?_
              refine r_goto (tgt := 82) C dX0_seekAll_76 (by decide) ?_
              refine r_iinc (lv' := [(5, _), (4, _), (3, _), (7, _), (6, _), (0, _), (1, _), (2, _)]) C dX0_seekAll_82 rfl (hn _ (by decide)) rfl ?_
              have e1 : gAll (lsk y) (iv S 11 3 y).toNat (1000 - (st + 1)) (lsk y g w Si).1 0 (lsk y g w Si).2 = gAll (lsk y) (iv S 11 3 y).toNat (1000) d 0 S := by rw [← he, show 1000 - st = (1000 - (st + 1)) + 1 by omega]; (conv => rhs; unfold gAll); rw [if_pos (by omega), if_neg (by omega), if_pos (by omega)]
              refine r_goto (tgt := 8) C dX0_seekAll_85 (by decide) ?_
              first | exact At_lv (by simp) (ih (st + 1) _ (g + 1) _ (by omega) (by omega) e1 (by omega) (by omega) hIn.1 hIn.2) | exact At_lv (by simp) (ih (st + 1) _ 0 _ (by omega) (by omega) e1 (by omega) (by omega) hIn.1 hIn.2)
          · skip
            refine r_bipush C dX0_seekAll_61 (by decide) ?_
            exact r_iret C Rr (⟨by rw [← he, show 1000 - st = (1000 - (st + 1)) + 1 by omega]; (conv => rhs; unfold gAll); rw [if_pos (by omega), if_pos (by omega)]; rfl, by rw [← he, show 1000 - st = (1000 - (st + 1)) + 1 by omega]; (conv => rhs; unfold gAll); rw [if_pos (by omega), if_pos (by omega)]⟩) dX0_seekAll_63
  exact At_lv (by simp) (loop8 1001 0 d 0 S (by omega) (by omega) rfl hd (by omega) hR (RS.rf S))
set_option maxHeartbeats 4000000 in
set_option maxRecDepth 100000 in
theorem c_seek_C (S : ST) (y : Nat) (hy : y < 10) (d : Nat) (dep : Int) (hdep : 0 ≤ dep ∧ dep ≤ 1) (hd : d < 40) (hR : RI S) : Ct yX0_seek wsX0_seek 5 [vr (some (11, y)), vi (d : Int), vi dep] S (fun v S1 => v = some (vi (((clSk y d S).1 : Nat) : Int)) ∧ S1 = (clSk y d S).2) := by
  refine Ct.of (nL := 3) (by decide) rfl (Nat.le_of_ble_eq_true rfl) (by decide) (fun X C Rr hnL => ?_)
  have hn : ∀ i, i < 3 → i < X.2.2.2.2.2 := fun i h => by rw [hnL]; exact h
  obtain ⟨hz, hps⟩ := id (hR.2.1 y hy).2
  have hplb : ∀ p, p < 60 → -1 ≤ (iv S 14 2 p) ∧ (iv S 14 2 p) ≤ 40 := hR.pl.1
  obtain ⟨-, -, -, hplq, hth⟩ := (hR.2.1 y hy).1
  refine r_iload_n C dX0_seek_0 rfl rfl ?_
  refine r_iconst C dX0_seek_1 ?_
  refine r_icmp_le (tgt := 8) C dX0_seek_2 (by decide) (by omega) (by omega) (fun h2 => ?_) (fun h2 => ?_)
  · skip
    refine r_aload_n C dX0_seek_8 rfl rfl ?_
    refine r_getf C (mid_11 hy) (hp_11 _ _) rfl 7 (by decide) in_X0_seek_X3 lk_X0_seek_29 (Or.inr sm_X0_seek_Group_place) rfl dX0_seek_9 ?_
    refine r_iload_n C dX0_seek_12 rfl rfl ?_
    refine r_icmp_lt (tgt := 21) C dX0_seek_13 (by decide) (by omega) (by omega) (fun h13 => ?_) (fun h13 => ?_)
    · skip
      refine r_aload_n C dX0_seek_21 rfl rfl ?_
      refine r_getf C (mid_11 hy) (hp_11 _ _) rfl 1 (by decide) in_X0_seek_X3 lk_X0_seek_15 (Or.inl rfl) rfl dX0_seek_22 ?_
      have hk1 := (hR.2.1 y hy).1.1
      have ef : clSk y d S = ((grpSk 11 (lsk y) (plC y) y d S).1, si (grpSk 11 (lsk y) (plC y) y d S).2 11 7 y ((grpSk 11 (lsk y) (plC y) y d S).1 : Nat)) := if_neg (by omega)
      rcases (by omega : iv S 11 1 y = 0 ∨ iv S 11 1 y = 1 ∨ iv S 11 1 y = 2 ∨ iv S 11 1 y = 3 ∨ iv S 11 1 y = 4) with hkk | hkk | hkk | hkk | hkk
      · refine At_val (v' := vi 0) (by rw [hkk]) ?_
        refine r_tin (tgt := 56) C dX0_seek_25 (by omega) (by decide) (by decide) rfl (by decide) ?_
        refine r_aload_n C dX0_seek_56 rfl rfl ?_
        refine r_aload_n C dX0_seek_57 rfl rfl ?_
        refine r_iload_n C dX0_seek_58 rfl rfl ?_
        refine r_iload_n C dX0_seek_59 rfl rfl ?_
        refine r_callU (as := [_, _]) (na := 2) (rest := [_]) C (mid_11 hy) (hp_11 _ _) rfl (c_seekAll_C S y hy d dep (by omega) hd hR) gX0_seek_X0_seekAll_u71X3 (by decide +kernel) (by decide) (by decide) rfl (Nat.le_of_ble_eq_true rfl) rfl dX0_seek_60 rfl (fun v1 S1 hp1 => ?_)
        obtain ⟨rfl, e9⟩ := hp1
        subst S1
        have eg : (grpSk 11 (lsk y) (plC y) y d S) = gAll (lsk y) (iv S 11 3 y).toNat (1000) d 0 S := by unfold grpSk; rw [hkk]; rfl
        rw [← eg]
        refine r_putf  C (mid_11 hy) (hp_11 _ _) rfl 7 (by decide) in_X0_seek_X3 lk_X0_seek_29 (Or.inr sm_X0_seek_Group_place) tyX3 tyX3_ok nmX3 rfl (tyX3_ok 7 (by decide)) (fun _ => rfl) (fun _ => rfl) (Nat.le_of_ble_eq_true rfl) (hs_11_7 _ _ _) dX0_seek_63 ?_
        refine r_goto (tgt := 116) C dX0_seek_66 (by decide) ?_
        refine r_aload_n C dX0_seek_116 rfl rfl ?_
        refine r_getf C (mid_11 hy) (hp_11 _ _) rfl 7 (by decide) in_X0_seek_X3 lk_X0_seek_29 (Or.inr sm_X0_seek_Group_place) rfl dX0_seek_117 ?_
        exact r_iret C Rr (⟨by rw [ef]; simp [iv, si, up3], by rw [ef]; try (show si S 11 7 y _ = si (grpSk 11 (lsk y) (plC y) y d S).2 11 7 y _; rw [← eg2])⟩) dX0_seek_120
      · refine At_val (v' := vi 1) (by rw [hkk]) ?_
        refine r_tin (tgt := 69) C dX0_seek_25 (by omega) (by decide) (by decide) rfl (by decide) ?_
        refine r_aload_n C dX0_seek_69 rfl rfl ?_
        refine r_aload_n C dX0_seek_70 rfl rfl ?_
        refine r_iload_n C dX0_seek_71 rfl rfl ?_
        refine r_iload_n C dX0_seek_72 rfl rfl ?_
        refine r_callU (as := [_, _]) (na := 2) (rest := [_]) C (mid_11 hy) (hp_11 _ _) rfl (c_seekAny_C S y hy d dep (by omega) hd hR) gX0_seek_X0_seekAny_u74X3 (by decide +kernel) (by decide) (by decide) rfl (Nat.le_of_ble_eq_true rfl) rfl dX0_seek_73 rfl (fun v1 S1 hp1 => ?_)
        obtain ⟨rfl, e9⟩ := hp1
        subst S1
        have eg : (grpSk 11 (lsk y) (plC y) y d S) = gAnyA (lsk y) d (iv S 11 3 y).toNat S := by unfold grpSk; rw [hkk]; rfl
        rw [← eg]
        refine r_putf  C (mid_11 hy) (hp_11 _ _) rfl 7 (by decide) in_X0_seek_X3 lk_X0_seek_29 (Or.inr sm_X0_seek_Group_place) tyX3 tyX3_ok nmX3 rfl (tyX3_ok 7 (by decide)) (fun _ => rfl) (fun _ => rfl) (Nat.le_of_ble_eq_true rfl) (hs_11_7 _ _ _) dX0_seek_76 ?_
        refine r_goto (tgt := 116) C dX0_seek_79 (by decide) ?_
        refine r_aload_n C dX0_seek_116 rfl rfl ?_
        refine r_getf C (mid_11 hy) (hp_11 _ _) rfl 7 (by decide) in_X0_seek_X3 lk_X0_seek_29 (Or.inr sm_X0_seek_Group_place) rfl dX0_seek_117 ?_
        exact r_iret C Rr (⟨by rw [ef]; simp [iv, si, up3], by rw [ef]; try (show si S 11 7 y _ = si (grpSk 11 (lsk y) (plC y) y d S).2 11 7 y _; rw [← eg2])⟩) dX0_seek_120
      · refine At_val (v' := vi 2) (by rw [hkk]) ?_
        refine r_tin (tgt := 82) C dX0_seek_25 (by omega) (by decide) (by decide) rfl (by decide) ?_
        refine r_aload_n C dX0_seek_82 rfl rfl ?_
        refine r_aload_n C dX0_seek_83 rfl rfl ?_
        refine r_iload_n C dX0_seek_84 rfl rfl ?_
        refine r_iload_n C dX0_seek_85 rfl rfl ?_
        refine r_callU (as := [_, _]) (na := 2) (rest := [_]) C (mid_11 hy) (hp_11 _ _) rfl (c_seekSome_C S y hy d dep (by omega) hd hR) gX0_seek_X0_seekSome_u77X3 (by decide +kernel) (by decide) (by decide) rfl (Nat.le_of_ble_eq_true rfl) rfl dX0_seek_86 rfl (fun v1 S1 hp1 => ?_)
        obtain ⟨rfl, e9⟩ := hp1
        subst S1
        have eg : (grpSk 11 (lsk y) (plC y) y d S) = gSome (lsk y) (fun s => ndP (plC y s) (iv S 11 2 y) (iv S 11 3 y).toNat (iv S 11 3 y).toNat) (iv S 11 3 y).toNat (40) d S := by unfold grpSk; rw [hkk]; rfl
        rw [← eg]
        refine r_putf  C (mid_11 hy) (hp_11 _ _) rfl 7 (by decide) in_X0_seek_X3 lk_X0_seek_29 (Or.inr sm_X0_seek_Group_place) tyX3 tyX3_ok nmX3 rfl (tyX3_ok 7 (by decide)) (fun _ => rfl) (fun _ => rfl) (Nat.le_of_ble_eq_true rfl) (hs_11_7 _ _ _) dX0_seek_89 ?_
        refine r_goto (tgt := 116) C dX0_seek_92 (by decide) ?_
        refine r_aload_n C dX0_seek_116 rfl rfl ?_
        refine r_getf C (mid_11 hy) (hp_11 _ _) rfl 7 (by decide) in_X0_seek_X3 lk_X0_seek_29 (Or.inr sm_X0_seek_Group_place) rfl dX0_seek_117 ?_
        exact r_iret C Rr (⟨by rw [ef]; simp [iv, si, up3], by rw [ef]; try (show si S 11 7 y _ = si (grpSk 11 (lsk y) (plC y) y d S).2 11 7 y _; rw [← eg2])⟩) dX0_seek_120
      · refine At_val (v' := vi 3) (by rw [hkk]) ?_
        refine r_tin (tgt := 95) C dX0_seek_25 (by omega) (by decide) (by decide) rfl (by decide) ?_
        refine r_aload_n C dX0_seek_95 rfl rfl ?_
        refine r_aload_n C dX0_seek_96 rfl rfl ?_
        refine r_getf C (mid_11 hy) (hp_11 _ _) rfl 4 (by decide) in_X0_seek_X3 lk_X0_seek_25 (Or.inl rfl) rfl dX0_seek_97 ?_
        refine r_iload_n C dX0_seek_100 rfl rfl ?_
        refine r_callSN (as := [_, _]) (na := 2) (rest := [_]) C (by decide +kernel) ini_X0_seek_X10 st_X0_seek_X10_firstOf (c_firstOf S (jv S 11 4 y) d hth (by omega)) gX0_seek_X10_firstOf_n80 (by decide +kernel) (by decide) (by decide) rfl (Nat.le_of_ble_eq_true rfl) rfl dX0_seek_101 rfl (fun v1 S1 hp1 => ?_)
        obtain ⟨rfl, e9⟩ := hp1
        subst S1
        have eg : (grpSk 11 (lsk y) (plC y) y d S) = (fsT (jv S 11 4 y) d, S) := by unfold grpSk; rw [hkk]; rfl
        refine At_val (v' := vi ((((grpSk 11 (lsk y) (plC y) y d S)).1 : Nat) : Int)) (by rw [eg]; rfl) ?_
        show At X _ _ _ _ _ (fsT (jv S 11 4 y) d, S).2
        rw [← eg]
        refine r_putf  C (mid_11 hy) (hp_11 _ _) rfl 7 (by decide) in_X0_seek_X3 lk_X0_seek_29 (Or.inr sm_X0_seek_Group_place) tyX3 tyX3_ok nmX3 rfl (tyX3_ok 7 (by decide)) (fun _ => rfl) (fun _ => rfl) (Nat.le_of_ble_eq_true rfl) (hs_11_7 _ _ _) dX0_seek_104 ?_
        refine r_goto (tgt := 116) C dX0_seek_107 (by decide) ?_
        refine r_aload_n C dX0_seek_116 rfl rfl ?_
        refine r_getf C (mid_11 hy) (hp_11 _ _) rfl 7 (by decide) in_X0_seek_X3 lk_X0_seek_29 (Or.inr sm_X0_seek_Group_place) rfl dX0_seek_117 ?_
        exact r_iret C Rr (⟨by rw [ef]; simp [iv, si, up3], by rw [ef]; try (show si S 11 7 y _ = si (grpSk 11 (lsk y) (plC y) y d S).2 11 7 y _; rw [← eg2])⟩) dX0_seek_120
      · refine At_val (v' := vi 4) (by rw [hkk]) ?_
        refine r_tout (tgt := 110) C dX0_seek_25 (by omega) (by omega) (by decide) ?_
        refine r_aload_n C dX0_seek_110 rfl rfl ?_
        refine r_bipush C dX0_seek_111 (by decide) ?_
        have eg : (grpSk 11 (lsk y) (plC y) y d S) = (40, S) := by unfold grpSk; rw [hkk]; rfl
        refine At_val (v' := vi ((((grpSk 11 (lsk y) (plC y) y d S)).1 : Nat) : Int)) (by rw [eg]; rfl) ?_
        have eg2 : S = (grpSk 11 (lsk y) (plC y) y d S).2 := by rw [eg]
        refine r_putf  C (mid_11 hy) (hp_11 _ _) rfl 7 (by decide) in_X0_seek_X3 lk_X0_seek_29 (Or.inr sm_X0_seek_Group_place) tyX3 tyX3_ok nmX3 rfl (tyX3_ok 7 (by decide)) (fun _ => rfl) (fun _ => rfl) (Nat.le_of_ble_eq_true rfl) (hs_11_7 _ _ _) dX0_seek_113 ?_
        refine r_aload_n C dX0_seek_116 rfl rfl ?_
        refine r_getf C (mid_11 hy) (hp_11 _ _) rfl 7 (by decide) in_X0_seek_X3 lk_X0_seek_29 (Or.inr sm_X0_seek_Group_place) rfl dX0_seek_117 ?_
        exact r_iret C Rr (⟨by rw [ef]; simp [iv, si, up3], by rw [ef]; try (show si S 11 7 y _ = si (grpSk 11 (lsk y) (plC y) y d S).2 11 7 y _; rw [← eg2])⟩) dX0_seek_120
    · skip
      refine r_aload_n C dX0_seek_16 rfl rfl ?_
      refine r_getf C (mid_11 hy) (hp_11 _ _) rfl 7 (by decide) in_X0_seek_X3 lk_X0_seek_29 (Or.inr sm_X0_seek_Group_place) rfl dX0_seek_17 ?_
      exact r_iret C Rr (⟨by unfold clSk; rw [if_pos h13]; congr 2; show iv S 11 7 y = ((iv S 11 7 y).toNat : Int); omega, by unfold clSk; rw [if_pos h13]⟩) dX0_seek_20
  · exact absurd h2 (by omega)
theorem clSk_le {S : ST} {y d : Nat} (hd : d < 40) (hR : RI S) (hy : y < 10) : (clSk y d S).1 ≤ 40 := by
  unfold clSk
  split
  · have := (hR.2.1 y hy).1.2.2.2.1
    show (iv S 11 7 y).toNat ≤ 40
    omega
  · exact (grpSk_inv (t := 11) (sk := lsk y) (pl := plC y) (y := y) (I := fun q => RI q ∧ RS S q) hd (fun j w s _ hw hs => lsk_inv j w s hw hs) ⟨hR, RS.rf S⟩).2

set_option maxHeartbeats 4000000 in
set_option maxRecDepth 100000 in
theorem c_placesUpTo_P (S : ST) (y : Nat) (hy : y < 2) (b : Int) (hb : -1 ≤ b ∧ b ≤ 40) (hR : RI S) : Ct yX0_placesUpTo wsX0_placesUpTo 1 [vr (some (8, y)), vi b] S (fun v S1 => v = some (vi ((upTo (plP y S) (iv S 8 3 y).toNat b : Nat) : Int)) ∧ S1 = S) := by
  refine Ct.of (nL := 5) (by decide) rfl (Nat.le_of_ble_eq_true rfl) (by decide) (fun X C Rr hnL => ?_)
  have hn : ∀ i, i < 5 → i < X.2.2.2.2.2 := fun i h => by rw [hnL]; exact h
  obtain ⟨hz, hps⟩ := id (hR.2.2 y hy).2
  have hplb : ∀ p, p < 10 → -1 ≤ (iv S 11 7 p) ∧ (iv S 11 7 p) ≤ 40 := hR.pl.2.1
  refine r_iconst C dX0_placesUpTo_0 ?_
  refine r_istore_n (lv' := [(2, _), (0, _), (1, _)]) C dX0_placesUpTo_1 rfl (hn _ (by decide)) rfl ?_
  refine r_iconst C dX0_placesUpTo_2 ?_
  refine r_istore_n (lv' := [(3, _), (2, _), (0, _), (1, _)]) C dX0_placesUpTo_3 rfl (hn _ (by decide)) rfl ?_
  have loop4 : ∀ (k i : Nat) (hk : 7 - i < k) (hi : (i : Int) ≤ (iv S 8 3 y)), At X 0 0 4 [(0, vr (some (8, y))), (1, vi b), (2, vi ((upTo (plP y S) i b : Nat) : Int)), (3, vi (i : Int))] [] S := by
    intro k
    induction k with
    | zero => intro i hk hi; exact absurd hk (by omega)
    | succ k ih =>
      intro i hk hi
      refine r_iload_n C dX0_placesUpTo_4 rfl rfl ?_
      refine r_aload_n C dX0_placesUpTo_5 rfl rfl ?_
      refine r_getf C (mid_8 hy) (hp_8 _ _) rfl 3 (by decide) in_X0_placesUpTo_X2 lk_X0_placesUpTo_22 (Or.inl rfl) rfl dX0_placesUpTo_6 ?_
      refine r_icmp_ge (tgt := 42) C dX0_placesUpTo_9 (by decide) (by omega) (by omega) (fun h9 => ?_) (fun h9 => ?_)
      · skip
        refine r_iload_n C dX0_placesUpTo_42 rfl rfl ?_
        exact r_iret C Rr (⟨by rw [show (iv S 8 3 y).toNat = i by omega], rfl⟩) dX0_placesUpTo_43
      · skip
        refine r_aload_n C dX0_placesUpTo_12 rfl rfl ?_
        refine r_iload_n C dX0_placesUpTo_13 rfl rfl ?_
        refine r_callU (as := [_]) (na := 1) (rest := []) C (mid_8 hy) (hp_8 _ _) rfl (c_partAt_P S y hy (i : Int) (by omega) hz) gX0_placesUpTo_X0_partAt_u32X2 (by decide +kernel) (by decide) (by decide) rfl (Nat.le_of_ble_eq_true rfl) rfl dX0_placesUpTo_14 rfl (fun v1 S1 hp1 => ?_)
        obtain ⟨rfl, e9⟩ := hp1
        subst S1
        have hpi := hps i (by omega)
        refine At_val (v' := vr (some (11, pa S 9 y i))) (by rw [if_pos (by omega), Int.toNat_natCast, hpi.1]; rfl) ?_
        refine r_astore (lv' := [(4, _), (0, _), (1, _), (2, _), (3, _)]) C dX0_placesUpTo_17 (hn _ (by decide)) rfl ?_
        refine r_aload C dX0_placesUpTo_19 rfl ?_
        refine r_ifnull (tgt := 36) C dX0_placesUpTo_21 (by decide) (fun h => by cases h) (fun i21 h21 => ?_)
        clear h21
        refine r_aload C dX0_placesUpTo_24 rfl ?_
        refine r_getf C (mid_11 hpi.2) (hp_11 _ _) rfl 7 (by decide) in_X0_placesUpTo_X3 lk_X0_placesUpTo_90 (Or.inl rfl) rfl dX0_placesUpTo_26 ?_
        have hpb := hplb _ hpi.2
        refine r_iload_n C dX0_placesUpTo_29 rfl rfl ?_
        refine r_icmp_gt (tgt := 36) C dX0_placesUpTo_30 (by decide) (by omega) (by omega) (fun h30 => ?_) (fun h30 => ?_)
        · skip
          refine r_iinc (lv' := [(3, _), (4, _), (0, _), (1, _), (2, _)]) C dX0_placesUpTo_36 rfl (hn _ (by decide)) rfl ?_
          have e1 : upTo (plP y S) (i + 1) b = upTo (plP y S) i b := cnt0_no (p := fun j => decide ((plP y S) j ≤ b)) (decide_eq_false (show ¬ (iv S 11 7 (pa S 9 y i)) ≤ b by omega))
          refine r_goto (tgt := 4) C dX0_placesUpTo_39 (by decide) ?_
          exact At_lv (by simp [e1]) (ih (i + 1) (by omega) (by omega))
        · skip
          refine r_iinc (lv' := [(2, _), (4, _), (0, _), (1, _), (3, _)]) C dX0_placesUpTo_33 rfl (hn _ (by decide)) rfl ?_
          refine r_iinc (lv' := [(3, _), (2, _), (4, _), (0, _), (1, _)]) C dX0_placesUpTo_36 rfl (hn _ (by decide)) rfl ?_
          have e1 : upTo (plP y S) (i + 1) b = upTo (plP y S) i b + 1 := cnt0_yes (p := fun j => decide ((plP y S) j ≤ b)) (decide_eq_true (show (iv S 11 7 (pa S 9 y i)) ≤ b by omega))
          refine r_goto (tgt := 4) C dX0_placesUpTo_39 (by decide) ?_
          exact At_lv (by simp [e1]) (ih (i + 1) (by omega) (by omega))
  exact At_lv (by simp [upTo, cnt]) (loop4 8 0 (by omega) (by omega))
set_option maxHeartbeats 4000000 in
set_option maxRecDepth 100000 in
theorem c_neededPlace_P (S : ST) (y : Nat) (hy : y < 2) (hR : RI S) : Ct yX0_neededPlace wsX0_neededPlace 2 [vr (some (8, y))] S (fun v S1 => v = some (vi (ndP (plP y S) (iv S 8 2 y) (iv S 8 3 y).toNat (iv S 8 3 y).toNat)) ∧ S1 = S) := by
  refine Ct.of (nL := 4) (by decide) rfl (Nat.le_of_ble_eq_true rfl) (by decide) (fun X C Rr hnL => ?_)
  have hn : ∀ i, i < 4 → i < X.2.2.2.2.2 := fun i h => by rw [hnL]; exact h
  obtain ⟨hz, hps⟩ := id (hR.2.2 y hy).2
  have hplb : ∀ p, p < 10 → -1 ≤ (iv S 11 7 p) ∧ (iv S 11 7 p) ≤ 40 := hR.pl.2.1
  refine r_bipush C dX0_neededPlace_0 (by decide) ?_
  refine r_istore_n (lv' := [(1, _), (0, _)]) C dX0_neededPlace_2 rfl (hn _ (by decide)) rfl ?_
  refine r_iconst C dX0_neededPlace_3 ?_
  refine r_istore_n (lv' := [(2, _), (1, _), (0, _)]) C dX0_neededPlace_4 rfl (hn _ (by decide)) rfl ?_
  have loop5 : ∀ (k i : Nat) (hk : 7 - i < k) (hi : (i : Int) ≤ (iv S 8 3 y)), At X 0 0 5 [(0, vr (some (8, y))), (1, vi (ndP (plP y S) (iv S 8 2 y) (iv S 8 3 y).toNat i)), (2, vi (i : Int))] [] S := by
    intro k
    induction k with
    | zero => intro i hk hi; exact absurd hk (by omega)
    | succ k ih =>
      intro i hk hi
      have hlb := ndP_b (pl := (plP y S)) (need := iv S 8 2 y) (n := (iv S 8 3 y).toNat) i (fun j hj => hplb _ (hps j (by omega)).2)
      refine r_iload_n C dX0_neededPlace_5 rfl rfl ?_
      refine r_aload_n C dX0_neededPlace_6 rfl rfl ?_
      refine r_getf C (mid_8 hy) (hp_8 _ _) rfl 3 (by decide) in_X0_neededPlace_X2 lk_X0_neededPlace_22 (Or.inl rfl) rfl dX0_neededPlace_7 ?_
      refine r_icmp_ge (tgt := 57) C dX0_neededPlace_10 (by decide) (by omega) (by omega) (fun h10 => ?_) (fun h10 => ?_)
      · skip
        refine r_iload_n C dX0_neededPlace_57 rfl rfl ?_
        exact r_iret C Rr (⟨by rw [show i = (iv S 8 3 y).toNat by omega], rfl⟩) dX0_neededPlace_58
      · skip
        refine r_aload_n C dX0_neededPlace_13 rfl rfl ?_
        refine r_iload_n C dX0_neededPlace_14 rfl rfl ?_
        refine r_callU (as := [_]) (na := 1) (rest := []) C (mid_8 hy) (hp_8 _ _) rfl (c_partAt_P S y hy (i : Int) (by omega) hz) gX0_neededPlace_X0_partAt_u32X2 (by decide +kernel) (by decide) (by decide) rfl (Nat.le_of_ble_eq_true rfl) rfl dX0_neededPlace_15 rfl (fun v1 S1 hp1 => ?_)
        obtain ⟨rfl, e9⟩ := hp1
        subst S1
        have hpi := hps i (by omega)
        refine At_val (v' := vr (some (11, pa S 9 y i))) (by rw [if_pos (by omega), Int.toNat_natCast, hpi.1]; rfl) ?_
        refine r_astore_n (lv' := [(3, _), (0, _), (1, _), (2, _)]) C dX0_neededPlace_18 rfl (hn _ (by decide)) rfl ?_
        refine r_aload_n C dX0_neededPlace_19 rfl rfl ?_
        refine r_ifnull (tgt := 51) C dX0_neededPlace_20 (by decide) (fun h => by cases h) (fun i20 h20 => ?_)
        clear h20
        refine r_aload_n C dX0_neededPlace_23 rfl rfl ?_
        refine r_getf C (mid_11 hpi.2) (hp_11 _ _) rfl 7 (by decide) in_X0_neededPlace_X3 lk_X0_neededPlace_90 (Or.inl rfl) rfl dX0_neededPlace_24 ?_
        have hpb := hplb _ hpi.2
        refine r_iload_n C dX0_neededPlace_27 rfl rfl ?_
        refine r_icmp_ge (tgt := 51) C dX0_neededPlace_28 (by decide) (by omega) (by omega) (fun h28 => ?_) (fun h28 => ?_)
        · skip
          refine r_iinc (lv' := [(2, _), (3, _), (0, _), (1, _)]) C dX0_neededPlace_51 rfl (hn _ (by decide)) rfl ?_
          have e1 : ndP (plP y S) (iv S 8 2 y) (iv S 8 3 y).toNat (i + 1) = (ndP (plP y S) (iv S 8 2 y) (iv S 8 3 y).toNat i) := if_neg (fun q => by have q1 : (iv S 11 7 (pa S 9 y i)) < (ndP (plP y S) (iv S 8 2 y) (iv S 8 3 y).toNat i) := q.1; omega)
          refine r_goto (tgt := 5) C dX0_neededPlace_54 (by decide) ?_
          exact At_lv (by simp [e1]) (ih (i + 1) (by omega) (by omega))
        · skip
          refine r_aload_n C dX0_neededPlace_31 rfl rfl ?_
          refine r_aload_n C dX0_neededPlace_32 rfl rfl ?_
          refine r_getf C (mid_11 hpi.2) (hp_11 _ _) rfl 7 (by decide) in_X0_neededPlace_X3 lk_X0_neededPlace_90 (Or.inl rfl) rfl dX0_neededPlace_33 ?_
          refine r_callU (as := [_]) (na := 1) (rest := []) C (mid_8 hy) (hp_8 _ _) rfl (c_placesUpTo_P S y hy (iv S 11 7 (pa S 9 y i)) hpb hR) gX0_neededPlace_X0_placesUpTo_u91X2 (by decide +kernel) (by decide) (by decide) rfl (Nat.le_of_ble_eq_true rfl) rfl dX0_neededPlace_36 rfl (fun v1 S1 hp1 => ?_)
          obtain ⟨rfl, e9⟩ := hp1
          subst S1
          refine r_aload_n C dX0_neededPlace_39 rfl rfl ?_
          refine r_getf C (mid_8 hy) (hp_8 _ _) rfl 2 (by decide) in_X0_neededPlace_X2 lk_X0_neededPlace_19 (Or.inl rfl) rfl dX0_neededPlace_40 ?_
          have hul := cnt_le (fun j => decide ((plP y S) j ≤ (iv S 11 7 (pa S 9 y i)))) 0 (iv S 8 3 y).toNat
          have hnd := (hR.2.2 y hy).1.2.1
          have hu0 : (upTo (plP y S) (iv S 8 3 y).toNat (iv S 11 7 (pa S 9 y i)) : Int) ≤ 6 := by unfold upTo; omega
          refine r_icmp_lt (tgt := 51) C dX0_neededPlace_43 (by decide) (by omega) (by omega) (fun h43 => ?_) (fun h43 => ?_)
          · skip
            refine r_iinc (lv' := [(2, _), (3, _), (0, _), (1, _)]) C dX0_neededPlace_51 rfl (hn _ (by decide)) rfl ?_
            have e1 : ndP (plP y S) (iv S 8 2 y) (iv S 8 3 y).toNat (i + 1) = (ndP (plP y S) (iv S 8 2 y) (iv S 8 3 y).toNat i) := if_neg (fun q => by have q1 : iv S 8 2 y ≤ (upTo (plP y S) (iv S 8 3 y).toNat (iv S 11 7 (pa S 9 y i)) : Nat) := q.2; omega)
            refine r_goto (tgt := 5) C dX0_neededPlace_54 (by decide) ?_
            exact At_lv (by simp [e1]) (ih (i + 1) (by omega) (by omega))
          · skip
            refine r_aload_n C dX0_neededPlace_46 rfl rfl ?_
            refine r_getf C (mid_11 hpi.2) (hp_11 _ _) rfl 7 (by decide) in_X0_neededPlace_X3 lk_X0_neededPlace_90 (Or.inl rfl) rfl dX0_neededPlace_47 ?_
            refine r_istore_n (lv' := [(1, _), (3, _), (0, _), (2, _)]) C dX0_neededPlace_50 rfl (hn _ (by decide)) rfl ?_
            refine r_iinc (lv' := [(2, _), (1, _), (3, _), (0, _)]) C dX0_neededPlace_51 rfl (hn _ (by decide)) rfl ?_
            have e1 : ndP (plP y S) (iv S 8 2 y) (iv S 8 3 y).toNat (i + 1) = (iv S 11 7 (pa S 9 y i)) := if_pos ⟨h28, h43⟩
            refine r_goto (tgt := 5) C dX0_neededPlace_54 (by decide) ?_
            exact At_lv (by simp [e1]) (ih (i + 1) (by omega) (by omega))
  exact At_lv (by simp [ndP]) (loop5 8 0 (by omega) (by omega))
set_option maxHeartbeats 4000000 in
set_option maxRecDepth 100000 in
theorem c_seekAny_P (S : ST) (y : Nat) (hy : y < 2) (d : Nat) (dep : Int) (hdep : dep = 0) (hd : d < 40) (hR : RI S) : Ct yX0_seekAny wsX0_seekAny 6 [vr (some (8, y)), vi (d : Int), vi dep] S (fun v S1 => v = some (vi (((gAnyA (psk y) d (iv S 8 3 y).toNat S).1 : Nat) : Int)) ∧ S1 = (gAnyA (psk y) d (iv S 8 3 y).toNat S).2) := by
  refine Ct.of (nL := 6) (by decide) rfl (Nat.le_of_ble_eq_true rfl) (by decide) (fun X C Rr hnL => ?_)
  have hn : ∀ i, i < 6 → i < X.2.2.2.2.2 := fun i h => by rw [hnL]; exact h
  obtain ⟨hz, hps⟩ := id (hR.2.2 y hy).2
  have hplb : ∀ p, p < 10 → -1 ≤ (iv S 11 7 p) ∧ (iv S 11 7 p) ≤ 40 := hR.pl.2.1
  refine r_bipush C dX0_seekAny_0 (by decide) ?_
  refine r_istore_n (lv' := [(3, _), (0, _), (1, _), (2, _)]) C dX0_seekAny_2 rfl (hn _ (by decide)) rfl ?_
  refine r_iconst C dX0_seekAny_3 ?_
  refine r_istore (lv' := [(4, _), (3, _), (0, _), (1, _), (2, _)]) C dX0_seekAny_4 (hn _ (by decide)) rfl ?_
  have loop6 : ∀ (k i : Nat) (l : Nat) (Si : ST) (hk : 7 - i < k) (hi : (i : Int) ≤ (iv S 8 3 y)) (he : (gAnyA (psk y) d i S) = (l, Si)) (hl : l ≤ 40) (hRi : RI Si) (hSi : RS S Si), At X 0 0 6 [(0, vr (some (8, y))), (1, vi (d : Int)), (2, vi dep), (3, vi (l : Int)), (4, vi (i : Int))] [] Si := by
    intro k
    induction k with
    | zero => intro i l Si hk hi he hl hRi hSi; exact absurd hk (by omega)
    | succ k ih =>
      intro i l Si hk hi he hl hRi hSi
      have hzi := (hRi.2.2 y hy).2.1
      have hni := hSi.nP y
      refine r_iload C dX0_seekAny_6 rfl ?_
      refine r_aload_n C dX0_seekAny_8 rfl rfl ?_
      refine r_getf C (mid_8 hy) (hp_8 _ _) rfl 3 (by decide) in_X0_seekAny_X2 lk_X0_seekAny_22 (Or.inl rfl) rfl dX0_seekAny_9 ?_
      refine r_icmp_ge (tgt := 48) C dX0_seekAny_12 (by decide) (by omega) (by omega) (fun h12 => ?_) (fun h12 => ?_)
      · skip
        refine r_iload_n C dX0_seekAny_48 rfl rfl ?_
        exact r_iret C Rr (⟨by rw [show (iv S 8 3 y).toNat = i by omega, he], by rw [show (iv S 8 3 y).toNat = i by omega, he]⟩) dX0_seekAny_49
      · skip
        refine r_aload_n C dX0_seekAny_15 rfl rfl ?_
        refine r_iload C dX0_seekAny_16 rfl ?_
        refine r_callU (as := [_]) (na := 1) (rest := []) C (mid_8 hy) (hp_8 _ _) rfl (c_partAt_P Si y hy (i : Int) (by omega) hzi) gX0_seekAny_X0_partAt_u32X2 (by decide +kernel) (by decide) (by decide) rfl (Nat.le_of_ble_eq_true rfl) rfl dX0_seekAny_18 rfl (fun v1 S1 hp1 => ?_)
        obtain ⟨rfl, e9⟩ := hp1
        subst S1
        have hpi := (hRi.2.2 y hy).2.2 i (by omega)
        refine At_val (v' := vr (some (11, pa Si 9 y i))) (by rw [if_pos (by omega), Int.toNat_natCast, hpi.1]; rfl) ?_
        refine r_astore (lv' := [(5, _), (0, _), (1, _), (2, _), (3, _), (4, _)]) C dX0_seekAny_21 (hn _ (by decide)) rfl ?_
        refine r_aload C dX0_seekAny_23 rfl ?_
        refine r_ifnull (tgt := 42) C dX0_seekAny_25 (by decide) (fun h => by cases h) (fun i25 h25 => ?_)
        clear h25
        refine r_iload_n C dX0_seekAny_28 rfl rfl ?_
        refine r_aload C dX0_seekAny_29 rfl ?_
        refine r_iload_n C dX0_seekAny_31 rfl rfl ?_
        refine r_iload_n C dX0_seekAny_32 rfl rfl ?_
        refine r_iconst C dX0_seekAny_33 ?_
        refine r_iadd C dX0_seekAny_34 ?_
        refine r_callA (as := [_, _]) (na := 2) (rest := [_]) C (mid_11 hpi.2) (hp_11 _ _) rfl (c_seek_C Si (pa Si 9 y i) (hpi).2 d _ (by omega) (by omega) hRi) gX0_seekAny_X0_seek_u84X3 (by decide +kernel) (by decide) (by decide) rfl (Nat.le_of_ble_eq_true rfl) rfl dX0_seekAny_35 rfl (fun v1 S1 hp1 => ?_)
        obtain ⟨rfl, e9⟩ := hp1
        subst S1
        have hIn := clSk_inv (S := S) (s := Si) (y := pa Si 9 y i) (d := d) (by omega) ⟨hRi, hSi⟩
        have hr40 : (psk y i d Si).1 ≤ 40 := clSk_le (by omega) hRi hpi.2
        show At X _ _ _ _ (vi (((psk y i d Si).1 : Nat) : Int) :: _) (psk y i d Si).2
        refine r_mmin C (by decide) lk_X0_seekAny_60 st_X0_seekAny_Mmin ini_X0_seekAny_Math co_X0_seekAny_Mmin (by omega) (by omega) (Nat.le_of_ble_eq_true rfl) dX0_seekAny_38 ?_
        refine At_val (v' := vi ((min l (psk y i d Si).1 : Nat) : Int)) (by congr 1; omega) ?_
        refine r_istore_n (lv' := [(3, _), (5, _), (0, _), (1, _), (2, _), (4, _)]) C dX0_seekAny_41 rfl (hn _ (by decide)) rfl ?_
        refine r_iinc (lv' := [(4, _), (3, _), (5, _), (0, _), (1, _), (2, _)]) C dX0_seekAny_42 rfl (hn _ (by decide)) rfl ?_
        refine r_goto (tgt := 6) C dX0_seekAny_45 (by decide) ?_
        exact At_lv (by simp) (ih (i + 1) (min l (psk y i d Si).1) (psk y i d Si).2 (by omega) (by omega) (by show (min (gAnyA (psk y) d i S).1 (psk y i d (gAnyA (psk y) d i S).2).1, (psk y i d (gAnyA (psk y) d i S).2).2) = _; rw [he]) (by omega) hIn.1 hIn.2)
  exact At_lv (by simp) (loop6 8 0 40 S (by omega) (by omega) rfl (Nat.le_refl 40) hR (RS.rf S))
set_option maxHeartbeats 4000000 in
set_option maxRecDepth 100000 in
theorem c_seekSome_P (S : ST) (y : Nat) (hy : y < 2) (d : Nat) (dep : Int) (hdep : dep = 0) (hd : d < 40) (hR : RI S) : Ct yX0_seekSome wsX0_seekSome 7 [vr (some (8, y)), vi (d : Int), vi dep] S (fun v S1 => v = some (vi (((gSome (psk y) (fun s => ndP (plP y s) (iv S 8 2 y) (iv S 8 3 y).toNat (iv S 8 3 y).toNat) (iv S 8 3 y).toNat (40) d S).1 : Nat) : Int)) ∧ S1 = (gSome (psk y) (fun s => ndP (plP y s) (iv S 8 2 y) (iv S 8 3 y).toNat (iv S 8 3 y).toNat) (iv S 8 3 y).toNat (40) d S).2) := by
  refine Ct.of (nL := 6) (by decide) rfl (Nat.le_of_ble_eq_true rfl) (by decide) (fun X C Rr hnL => ?_)
  have hn : ∀ i, i < 6 → i < X.2.2.2.2.2 := fun i h => by rw [hnL]; exact h
  obtain ⟨hz, hps⟩ := id (hR.2.2 y hy).2
  have hplb : ∀ p, p < 10 → -1 ≤ (iv S 11 7 p) ∧ (iv S 11 7 p) ≤ 40 := hR.pl.2.1
  refine r_iload_n C dX0_seekSome_0 rfl rfl ?_
  refine r_istore_n (lv' := [(3, _), (0, _), (1, _), (2, _)]) C dX0_seekSome_1 rfl (hn _ (by decide)) rfl ?_
  refine r_iconst C dX0_seekSome_2 ?_
  refine r_istore (lv' := [(4, _), (3, _), (0, _), (1, _), (2, _)]) C dX0_seekSome_3 (hn _ (by decide)) rfl ?_
  have loop5 : ∀ (k r : Nat) (w : Nat) (Si : ST) (hk : 40 - r < k) (hr : r ≤ 40) (he : gSome (psk y) (fun s => ndP (plP y s) (iv S 8 2 y) (iv S 8 3 y).toNat (iv S 8 3 y).toNat) (iv S 8 3 y).toNat (40 - r) w Si = gSome (psk y) (fun s => ndP (plP y s) (iv S 8 2 y) (iv S 8 3 y).toNat (iv S 8 3 y).toNat) (iv S 8 3 y).toNat (40) d S) (hw : w ≤ 40) (hRi : RI Si) (hSi : RS S Si), At X 0 0 5 [(0, vr (some (8, y))), (1, vi (d : Int)), (2, vi dep), (3, vi (w : Int)), (4, vi (r : Int))] [] Si := by
    intro k
    induction k with
    | zero => intro r w Si hk hr he hw hRi hSi; exact absurd hk (by omega)
    | succ k ih =>
      intro r w Si hk hr he hw hRi hSi
      refine r_iload C dX0_seekSome_5 rfl ?_
      refine r_bipush C dX0_seekSome_7 (by decide) ?_
      refine r_icmp_ge (tgt := 48) C dX0_seekSome_9 (by decide) (by omega) (by omega) (fun h9 => ?_) (fun h9 => ?_)
      · skip
        refine r_bipush C dX0_seekSome_48 (by decide) ?_
        exact r_iret C Rr (⟨by rw [← he, show 40 - r = 0 by omega]; rfl, by rw [← he, show 40 - r = 0 by omega]; rfl⟩) dX0_seekSome_50
      · skip
        refine r_iload_n C dX0_seekSome_12 rfl rfl ?_
        refine r_bipush C dX0_seekSome_13 (by decide) ?_
        refine r_icmp_ge (tgt := 48) C dX0_seekSome_15 (by decide) (by omega) (by omega) (fun h15 => ?_) (fun h15 => ?_)
        · skip
          refine r_bipush C dX0_seekSome_48 (by decide) ?_
          exact r_iret C Rr (⟨by rw [← he]; cases hf : 40 - r with | zero => rfl | succ f => unfold gSome; rw [if_neg (by omega)]; rfl, by rw [← he]; cases hf : 40 - r with | zero => rfl | succ f => conv => rhs; unfold gSome; rw [if_neg (by omega)]⟩) dX0_seekSome_50
        · skip
          refine r_aload_n C dX0_seekSome_18 rfl rfl ?_
          refine r_iload_n C dX0_seekSome_19 rfl rfl ?_
          refine r_iload_n C dX0_seekSome_20 rfl rfl ?_
          refine r_callU (as := [_, _]) (na := 2) (rest := []) C (mid_8 hy) (hp_8 _ _) rfl (c_seekAny_P Si y hy w dep hdep (by omega) hRi) gX0_seekSome_X0_seekAny_u74X2 (by decide +kernel) (by decide) (by decide) rfl (Nat.le_of_ble_eq_true rfl) rfl dX0_seekSome_21 rfl (fun v1 S1 hp1 => ?_)
          obtain ⟨rfl, e9⟩ := hp1
          subst S1
          have hIn := gAnyA_inv (sk := psk y) (d := w) (n := (iv S 8 3 y).toNat) (I := fun q => RI q ∧ RS S q) (fun j s hj hs => by obtain ⟨hRi, hSi⟩ := hs; exact clSk_inv (S := S) (s := s) (y := pa s 9 y j) (d := w) (by omega) ⟨hRi, hSi⟩) (iv Si 8 3 y).toNat Si (by rw [hSi.nP]; exact Nat.le_refl _) ⟨hRi, hSi⟩
          rw [hSi.nP y] at hIn ⊢
          refine r_pop C rfl dX0_seekSome_24 ?_
          refine r_aload_n C dX0_seekSome_25 rfl rfl ?_
          refine r_callU (as := []) (na := 0) (rest := []) C (mid_8 hy) (hp_8 _ _) rfl (c_neededPlace_P _ y hy hIn.1) gX0_seekSome_X0_neededPlace_u87X2 (by decide +kernel) (by decide) (by decide) rfl (Nat.le_of_ble_eq_true rfl) rfl dX0_seekSome_26 rfl (fun v1 S1 hp1 => ?_)
          obtain ⟨rfl, e9⟩ := hp1
          subst S1
          rw [hIn.2.nP y, hIn.2.dP y]
          have hnb := ndP_b (pl := plP y (gAnyA (psk y) w (iv S 8 3 y).toNat Si).2) (need := iv S 8 2 y) (n := (iv S 8 3 y).toNat) (iv S 8 3 y).toNat (fun j hj => hIn.1.pl.2.1 _ (by have q := (hIn.1.2.2 y hy).2.2 j (by rw [hIn.2.nP]; omega); exact q.2))
          refine r_istore (lv' := [(5, _), (0, _), (1, _), (2, _), (3, _), (4, _)]) C dX0_seekSome_29 (hn _ (by decide)) rfl ?_
          refine r_iload C dX0_seekSome_31 rfl ?_
          refine r_iload_n C dX0_seekSome_33 rfl rfl ?_
          refine r_icmp_gt (tgt := 39) C dX0_seekSome_34 (by decide) (by omega) (by omega) (fun h34 => ?_) (fun h34 => ?_)
          · skip
            refine r_iload C dX0_seekSome_39 rfl ?_
            refine At_val (v' := vi (((ndP (plP y (gAnyA (psk y) w (iv S 8 3 y).toNat Si).2) (iv S 8 2 y) (iv S 8 3 y).toNat (iv S 8 3 y).toNat).toNat : Nat) : Int)) (by congr 1; omega) ?_
            refine r_istore_n (lv' := [(3, _), (5, _), (0, _), (1, _), (2, _), (4, _)]) C dX0_seekSome_41 rfl (hn _ (by decide)) rfl ?_
            refine r_iinc (lv' := [(4, _), (3, _), (5, _), (0, _), (1, _), (2, _)]) C dX0_seekSome_42 rfl (hn _ (by decide)) rfl ?_
            refine r_goto (tgt := 5) C dX0_seekSome_45 (by decide) ?_
            exact At_lv (by simp) (ih (r + 1) (ndP (plP y (gAnyA (psk y) w (iv S 8 3 y).toNat Si).2) (iv S 8 2 y) (iv S 8 3 y).toNat (iv S 8 3 y).toNat).toNat _ (by omega) (by omega) (by rw [← he, show 40 - r = (40 - (r + 1)) + 1 by omega]; conv => rhs; unfold gSome; rw [if_pos (by omega), if_neg (by omega)]) (by omega) hIn.1 hIn.2)
          · skip
            refine r_iload_n C dX0_seekSome_37 rfl rfl ?_
            exact r_iret C Rr (⟨by rw [← he, show 40 - r = (40 - (r + 1)) + 1 by omega]; unfold gSome; rw [if_pos (by omega), if_pos h34], by rw [← he, show 40 - r = (40 - (r + 1)) + 1 by omega]; conv => rhs; unfold gSome; rw [if_pos (by omega), if_pos h34]⟩) dX0_seekSome_38
  exact At_lv (by simp) (loop5 41 0 d S (by omega) (by omega) rfl (by omega) hR (RS.rf S))
set_option maxHeartbeats 4000000 in
set_option maxRecDepth 100000 in
theorem c_seekAll_P (S : ST) (y : Nat) (hy : y < 2) (d : Nat) (dep : Int) (hdep : dep = 0) (hd : d < 40) (hR : RI S) : Ct yX0_seekAll wsX0_seekAll 7 [vr (some (8, y)), vi (d : Int), vi dep] S (fun v S1 => v = some (vi (((gAll (psk y) (iv S 8 3 y).toNat (1000) d 0 S).1 : Nat) : Int)) ∧ S1 = (gAll (psk y) (iv S 8 3 y).toNat (1000) d 0 S).2) := by
  refine Ct.of (nL := 8) (by decide) rfl (Nat.le_of_ble_eq_true rfl) (by decide) (fun X C Rr hnL => ?_)
  have hn : ∀ i, i < 8 → i < X.2.2.2.2.2 := fun i h => by rw [hnL]; exact h
  obtain ⟨hz, hps⟩ := id (hR.2.2 y hy).2
  have hplb : ∀ p, p < 10 → -1 ≤ (iv S 11 7 p) ∧ (iv S 11 7 p) ≤ 40 := hR.pl.2.1
  refine r_iload_n C dX0_seekAll_0 rfl rfl ?_
  refine r_istore_n (lv' := [(3, _), (0, _), (1, _), (2, _)]) C dX0_seekAll_1 rfl (hn _ (by decide)) rfl ?_
  refine r_iconst C dX0_seekAll_2 ?_
  refine r_istore (lv' := [(4, _), (3, _), (0, _), (1, _), (2, _)]) C dX0_seekAll_3 (hn _ (by decide)) rfl ?_
  refine r_iconst C dX0_seekAll_5 ?_
  refine r_istore (lv' := [(5, _), (4, _), (3, _), (0, _), (1, _), (2, _)]) C dX0_seekAll_6 (hn _ (by decide)) rfl ?_
  have loop8 : ∀ (k st : Nat) (w g : Nat) (Si : ST) (hk : 1000 - st < k) (hst : st ≤ 1000) (he : gAll (psk y) (iv S 8 3 y).toNat (1000 - st) w g Si = gAll (psk y) (iv S 8 3 y).toNat (1000) d 0 S) (hw : w < 40) (hg : (g : Int) ≤ (iv S 8 3 y)) (hRi : RI Si) (hSi : RS S Si), At X 0 0 8 [(0, vr (some (8, y))), (1, vi (d : Int)), (2, vi dep), (3, vi (w : Int)), (4, vi (g : Int)), (5, vi (st : Int))] [] Si := by
    intro k
    induction k with
    | zero => intro st w g Si hk hst he hw hg hRi hSi; exact absurd hk (by omega)
    | succ k ih =>
      intro st w g Si hk hst he hw hg hRi hSi
      have hzi := (hRi.2.2 y hy).2.1
      have hni := hSi.nP y
      refine r_iload C dX0_seekAll_8 rfl ?_
      refine r_aload_n C dX0_seekAll_10 rfl rfl ?_
      refine r_getf C (mid_8 hy) (hp_8 _ _) rfl 3 (by decide) in_X0_seekAll_X2 lk_X0_seekAll_22 (Or.inl rfl) rfl dX0_seekAll_11 ?_
      refine r_icmp_ge (tgt := 88) C dX0_seekAll_14 (by decide) (by omega) (by omega) (fun h14 => ?_) (fun h14 => ?_)
      · skip
        refine r_iload_n C dX0_seekAll_88 rfl rfl ?_
        exact r_iret C Rr (⟨by rw [← he]; cases hf : 1000 - st with | zero => rfl | succ f => unfold gAll; rw [if_neg (by omega)], by rw [← he]; cases hf : 1000 - st with | zero => rfl | succ f => conv => rhs; unfold gAll; rw [if_neg (by omega)]⟩) dX0_seekAll_89
      · skip
        refine r_iload C dX0_seekAll_17 rfl ?_
        refine r_sipush C dX0_seekAll_19 (by decide) ?_
        refine r_icmp_ge (tgt := 88) C dX0_seekAll_22 (by decide) (by omega) (by omega) (fun h22 => ?_) (fun h22 => ?_)
        · skip
          refine r_iload_n C dX0_seekAll_88 rfl rfl ?_
          exact r_iret C Rr (⟨by rw [← he, show 1000 - st = 0 by omega]; rfl, by rw [← he, show 1000 - st = 0 by omega]; rfl⟩) dX0_seekAll_89
        · skip
          refine r_aload_n C dX0_seekAll_25 rfl rfl ?_
          refine r_iload C dX0_seekAll_26 rfl ?_
          refine r_callU (as := [_]) (na := 1) (rest := []) C (mid_8 hy) (hp_8 _ _) rfl (c_partAt_P Si y hy (g : Int) (by omega) hzi) gX0_seekAll_X0_partAt_u32X2 (by decide +kernel) (by decide) (by decide) rfl (Nat.le_of_ble_eq_true rfl) rfl dX0_seekAll_28 rfl (fun v1 S1 hp1 => ?_)
          obtain ⟨rfl, e9⟩ := hp1
          subst S1
          have hpi := (hRi.2.2 y hy).2.2 g (by omega)
          refine At_val (v' := vr (some (11, pa Si 9 y g))) (by rw [if_pos (by omega), Int.toNat_natCast, hpi.1]; rfl) ?_
          refine r_astore (lv' := [(6, _), (0, _), (1, _), (2, _), (3, _), (4, _), (5, _)]) C dX0_seekAll_31 (hn _ (by decide)) rfl ?_
          refine r_aload C dX0_seekAll_33 rfl ?_
          refine r_ifnonnull (tgt := 43) C dX0_seekAll_35 (by decide) (fun i35 h35 => ?_) (fun h => by cases h)
          clear h35
          refine r_aload C dX0_seekAll_43 rfl ?_
          refine r_iload_n C dX0_seekAll_45 rfl rfl ?_
          refine r_iload_n C dX0_seekAll_46 rfl rfl ?_
          refine r_iconst C dX0_seekAll_47 ?_
          refine r_iadd C dX0_seekAll_48 ?_
          refine r_callA (as := [_, _]) (na := 2) (rest := []) C (mid_11 hpi.2) (hp_11 _ _) rfl (c_seek_C Si (pa Si 9 y g) (hpi).2 w _ (by omega) (by omega) hRi) gX0_seekAll_X0_seek_u84X3 (by decide +kernel) (by decide) (by decide) rfl (Nat.le_of_ble_eq_true rfl) rfl dX0_seekAll_49 rfl (fun v1 S1 hp1 => ?_)
          obtain ⟨rfl, e9⟩ := hp1
          subst S1
          have hIn := clSk_inv (S := S) (s := Si) (y := pa Si 9 y g) (d := w) (by omega) ⟨hRi, hSi⟩
          have hr40 : (psk y g w Si).1 ≤ 40 := clSk_le (by omega) hRi hpi.2
          show At X _ _ _ _ (vi (((psk y g w Si).1 : Nat) : Int) :: _) (psk y g w Si).2
          refine r_istore (lv' := [(7, _), (6, _), (0, _), (1, _), (2, _), (3, _), (4, _), (5, _)]) C dX0_seekAll_52 (hn _ (by decide)) rfl ?_
          refine r_iload C dX0_seekAll_54 rfl ?_
          refine r_bipush C dX0_seekAll_56 (by decide) ?_
          refine r_icmp_lt (tgt := 64) C dX0_seekAll_58 (by decide) (by omega) (by omega) (fun h58 => ?_) (fun h58 => ?_)
          · skip
            refine r_iload C dX0_seekAll_64 rfl ?_
            refine r_iload_n C dX0_seekAll_66 rfl rfl ?_
            refine r_icmp_le (tgt := 79) C dX0_seekAll_67 (by decide) (by omega) (by omega) (fun h67 => ?_) (fun h67 => ?_)
            · skip
              refine r_iinc (lv' := [(4, _), (7, _), (6, _), (0, _), (1, _), (2, _), (3, _), (5, _)]) C dX0_seekAll_79 rfl (hn _ (by decide)) rfl ?_
              refine r_iinc (lv' := [(5, _), (4, _), (7, _), (6, _), (0, _), (1, _), (2, _), (3, _)]) C dX0_seekAll_82 rfl (hn _ (by decide)) rfl ?_
              have e1 : gAll (psk y) (iv S 8 3 y).toNat (1000 - (st + 1)) w (g + 1) (psk y g w Si).2 = gAll (psk y) (iv S 8 3 y).toNat (1000) d 0 S := by rw [← he, show 1000 - st = (1000 - (st + 1)) + 1 by omega]; (conv => rhs; unfold gAll); rw [if_pos (by omega), if_neg (by omega), if_neg (by omega)]
              have e0 : g + 1 = g + 1 := rfl
              refine r_goto (tgt := 8) C dX0_seekAll_85 (by decide) ?_
              first | exact At_lv (by simp) (ih (st + 1) _ (g + 1) _ (by omega) (by omega) e1 (by omega) (by omega) hIn.1 hIn.2) | exact At_lv (by simp) (ih (st + 1) _ 0 _ (by omega) (by omega) e1 (by omega) (by omega) hIn.1 hIn.2)
            · skip
              refine r_iload C dX0_seekAll_70 rfl ?_
              refine r_istore_n (lv' := [(3, _), (7, _), (6, _), (0, _), (1, _), (2, _), (4, _), (5, _)]) C dX0_seekAll_72 rfl (hn _ (by decide)) rfl ?_
              refine r_iconst C dX0_seekAll_73 ?_
              refine r_istore (lv' := [(4, _), (3, _), (7, _), (6, _), (0, _), (1, _), (2, _), (5, _)]) C dX0_seekAll_74 (hn _ (by decide)) rfl ?_
              refine r_goto (tgt := 82) C dX0_seekAll_76 (by decide) ?_
              refine r_iinc (lv' := [(5, _), (4, _), (3, _), (7, _), (6, _), (0, _), (1, _), (2, _)]) C dX0_seekAll_82 rfl (hn _ (by decide)) rfl ?_
              have e1 : gAll (psk y) (iv S 8 3 y).toNat (1000 - (st + 1)) (psk y g w Si).1 0 (psk y g w Si).2 = gAll (psk y) (iv S 8 3 y).toNat (1000) d 0 S := by rw [← he, show 1000 - st = (1000 - (st + 1)) + 1 by omega]; (conv => rhs; unfold gAll); rw [if_pos (by omega), if_neg (by omega), if_pos (by omega)]
              refine r_goto (tgt := 8) C dX0_seekAll_85 (by decide) ?_
              first | exact At_lv (by simp) (ih (st + 1) _ (g + 1) _ (by omega) (by omega) e1 (by omega) (by omega) hIn.1 hIn.2) | exact At_lv (by simp) (ih (st + 1) _ 0 _ (by omega) (by omega) e1 (by omega) (by omega) hIn.1 hIn.2)
          · skip
            refine r_bipush C dX0_seekAll_61 (by decide) ?_
            exact r_iret C Rr (⟨by rw [← he, show 1000 - st = (1000 - (st + 1)) + 1 by omega]; (conv => rhs; unfold gAll); rw [if_pos (by omega), if_pos (by omega)]; rfl, by rw [← he, show 1000 - st = (1000 - (st + 1)) + 1 by omega]; (conv => rhs; unfold gAll); rw [if_pos (by omega), if_pos (by omega)]⟩) dX0_seekAll_63
  exact At_lv (by simp) (loop8 1001 0 d 0 S (by omega) (by omega) rfl hd (by omega) hR (RS.rf S))
set_option maxHeartbeats 4000000 in
set_option maxRecDepth 100000 in
theorem c_seek_P (S : ST) (y : Nat) (hy : y < 2) (d : Nat) (dep : Int) (hdep : dep = 0) (hd : d < 40) (hR : RI S) : Ct yX0_seek wsX0_seek 8 [vr (some (8, y)), vi (d : Int), vi dep] S (fun v S1 => v = some (vi (((plSk y d S).1 : Nat) : Int)) ∧ S1 = (plSk y d S).2) := by
  refine Ct.of (nL := 3) (by decide) rfl (Nat.le_of_ble_eq_true rfl) (by decide) (fun X C Rr hnL => ?_)
  have hn : ∀ i, i < 3 → i < X.2.2.2.2.2 := fun i h => by rw [hnL]; exact h
  obtain ⟨hz, hps⟩ := id (hR.2.2 y hy).2
  have hplb : ∀ p, p < 10 → -1 ≤ (iv S 11 7 p) ∧ (iv S 11 7 p) ≤ 40 := hR.pl.2.1
  obtain ⟨-, -, -, hplq, hth⟩ := (hR.2.2 y hy).1
  refine r_iload_n C dX0_seek_0 rfl rfl ?_
  refine r_iconst C dX0_seek_1 ?_
  refine r_icmp_le (tgt := 8) C dX0_seek_2 (by decide) (by omega) (by omega) (fun h2 => ?_) (fun h2 => ?_)
  · skip
    refine r_aload_n C dX0_seek_8 rfl rfl ?_
    refine r_getf C (mid_8 hy) (hp_8 _ _) rfl 7 (by decide) in_X0_seek_X2 lk_X0_seek_29 (Or.inr sm_X0_seek_Group_place) rfl dX0_seek_9 ?_
    refine r_iload_n C dX0_seek_12 rfl rfl ?_
    refine r_icmp_lt (tgt := 21) C dX0_seek_13 (by decide) (by omega) (by omega) (fun h13 => ?_) (fun h13 => ?_)
    · skip
      refine r_aload_n C dX0_seek_21 rfl rfl ?_
      refine r_getf C (mid_8 hy) (hp_8 _ _) rfl 1 (by decide) in_X0_seek_X2 lk_X0_seek_15 (Or.inl rfl) rfl dX0_seek_22 ?_
      have hk1 := (hR.2.2 y hy).1.1
      have ef : plSk y d S = ((grpSk 8 (psk y) (plP y) y d S).1, si (grpSk 8 (psk y) (plP y) y d S).2 8 7 y ((grpSk 8 (psk y) (plP y) y d S).1 : Nat)) := if_neg (by omega)
      rcases (by omega : iv S 8 1 y = 0 ∨ iv S 8 1 y = 1 ∨ iv S 8 1 y = 2 ∨ iv S 8 1 y = 3 ∨ iv S 8 1 y = 4) with hkk | hkk | hkk | hkk | hkk
      · refine At_val (v' := vi 0) (by rw [hkk]) ?_
        refine r_tin (tgt := 56) C dX0_seek_25 (by omega) (by decide) (by decide) rfl (by decide) ?_
        refine r_aload_n C dX0_seek_56 rfl rfl ?_
        refine r_aload_n C dX0_seek_57 rfl rfl ?_
        refine r_iload_n C dX0_seek_58 rfl rfl ?_
        refine r_iload_n C dX0_seek_59 rfl rfl ?_
        refine r_callU (as := [_, _]) (na := 2) (rest := [_]) C (mid_8 hy) (hp_8 _ _) rfl (c_seekAll_P S y hy d dep (by omega) hd hR) gX0_seek_X0_seekAll_u71X2 (by decide +kernel) (by decide) (by decide) rfl (Nat.le_of_ble_eq_true rfl) rfl dX0_seek_60 rfl (fun v1 S1 hp1 => ?_)
        obtain ⟨rfl, e9⟩ := hp1
        subst S1
        have eg : (grpSk 8 (psk y) (plP y) y d S) = gAll (psk y) (iv S 8 3 y).toNat (1000) d 0 S := by unfold grpSk; rw [hkk]; rfl
        rw [← eg]
        refine r_putf  C (mid_8 hy) (hp_8 _ _) rfl 7 (by decide) in_X0_seek_X2 lk_X0_seek_29 (Or.inr sm_X0_seek_Group_place) tyX2 tyX2_ok nmX2 rfl (tyX2_ok 7 (by decide)) (fun _ => rfl) (fun _ => rfl) (Nat.le_of_ble_eq_true rfl) (hs_8_7 _ _ _) dX0_seek_63 ?_
        refine r_goto (tgt := 116) C dX0_seek_66 (by decide) ?_
        refine r_aload_n C dX0_seek_116 rfl rfl ?_
        refine r_getf C (mid_8 hy) (hp_8 _ _) rfl 7 (by decide) in_X0_seek_X2 lk_X0_seek_29 (Or.inr sm_X0_seek_Group_place) rfl dX0_seek_117 ?_
        exact r_iret C Rr (⟨by rw [ef]; simp [iv, si, up3], by rw [ef]; try (show si S 8 7 y _ = si (grpSk 8 (psk y) (plP y) y d S).2 8 7 y _; rw [← eg2])⟩) dX0_seek_120
      · refine At_val (v' := vi 1) (by rw [hkk]) ?_
        refine r_tin (tgt := 69) C dX0_seek_25 (by omega) (by decide) (by decide) rfl (by decide) ?_
        refine r_aload_n C dX0_seek_69 rfl rfl ?_
        refine r_aload_n C dX0_seek_70 rfl rfl ?_
        refine r_iload_n C dX0_seek_71 rfl rfl ?_
        refine r_iload_n C dX0_seek_72 rfl rfl ?_
        refine r_callU (as := [_, _]) (na := 2) (rest := [_]) C (mid_8 hy) (hp_8 _ _) rfl (c_seekAny_P S y hy d dep (by omega) hd hR) gX0_seek_X0_seekAny_u74X2 (by decide +kernel) (by decide) (by decide) rfl (Nat.le_of_ble_eq_true rfl) rfl dX0_seek_73 rfl (fun v1 S1 hp1 => ?_)
        obtain ⟨rfl, e9⟩ := hp1
        subst S1
        have eg : (grpSk 8 (psk y) (plP y) y d S) = gAnyA (psk y) d (iv S 8 3 y).toNat S := by unfold grpSk; rw [hkk]; rfl
        rw [← eg]
        refine r_putf  C (mid_8 hy) (hp_8 _ _) rfl 7 (by decide) in_X0_seek_X2 lk_X0_seek_29 (Or.inr sm_X0_seek_Group_place) tyX2 tyX2_ok nmX2 rfl (tyX2_ok 7 (by decide)) (fun _ => rfl) (fun _ => rfl) (Nat.le_of_ble_eq_true rfl) (hs_8_7 _ _ _) dX0_seek_76 ?_
        refine r_goto (tgt := 116) C dX0_seek_79 (by decide) ?_
        refine r_aload_n C dX0_seek_116 rfl rfl ?_
        refine r_getf C (mid_8 hy) (hp_8 _ _) rfl 7 (by decide) in_X0_seek_X2 lk_X0_seek_29 (Or.inr sm_X0_seek_Group_place) rfl dX0_seek_117 ?_
        exact r_iret C Rr (⟨by rw [ef]; simp [iv, si, up3], by rw [ef]; try (show si S 8 7 y _ = si (grpSk 8 (psk y) (plP y) y d S).2 8 7 y _; rw [← eg2])⟩) dX0_seek_120
      · refine At_val (v' := vi 2) (by rw [hkk]) ?_
        refine r_tin (tgt := 82) C dX0_seek_25 (by omega) (by decide) (by decide) rfl (by decide) ?_
        refine r_aload_n C dX0_seek_82 rfl rfl ?_
        refine r_aload_n C dX0_seek_83 rfl rfl ?_
        refine r_iload_n C dX0_seek_84 rfl rfl ?_
        refine r_iload_n C dX0_seek_85 rfl rfl ?_
        refine r_callU (as := [_, _]) (na := 2) (rest := [_]) C (mid_8 hy) (hp_8 _ _) rfl (c_seekSome_P S y hy d dep (by omega) hd hR) gX0_seek_X0_seekSome_u77X2 (by decide +kernel) (by decide) (by decide) rfl (Nat.le_of_ble_eq_true rfl) rfl dX0_seek_86 rfl (fun v1 S1 hp1 => ?_)
        obtain ⟨rfl, e9⟩ := hp1
        subst S1
        have eg : (grpSk 8 (psk y) (plP y) y d S) = gSome (psk y) (fun s => ndP (plP y s) (iv S 8 2 y) (iv S 8 3 y).toNat (iv S 8 3 y).toNat) (iv S 8 3 y).toNat (40) d S := by unfold grpSk; rw [hkk]; rfl
        rw [← eg]
        refine r_putf  C (mid_8 hy) (hp_8 _ _) rfl 7 (by decide) in_X0_seek_X2 lk_X0_seek_29 (Or.inr sm_X0_seek_Group_place) tyX2 tyX2_ok nmX2 rfl (tyX2_ok 7 (by decide)) (fun _ => rfl) (fun _ => rfl) (Nat.le_of_ble_eq_true rfl) (hs_8_7 _ _ _) dX0_seek_89 ?_
        refine r_goto (tgt := 116) C dX0_seek_92 (by decide) ?_
        refine r_aload_n C dX0_seek_116 rfl rfl ?_
        refine r_getf C (mid_8 hy) (hp_8 _ _) rfl 7 (by decide) in_X0_seek_X2 lk_X0_seek_29 (Or.inr sm_X0_seek_Group_place) rfl dX0_seek_117 ?_
        exact r_iret C Rr (⟨by rw [ef]; simp [iv, si, up3], by rw [ef]; try (show si S 8 7 y _ = si (grpSk 8 (psk y) (plP y) y d S).2 8 7 y _; rw [← eg2])⟩) dX0_seek_120
      · refine At_val (v' := vi 3) (by rw [hkk]) ?_
        refine r_tin (tgt := 95) C dX0_seek_25 (by omega) (by decide) (by decide) rfl (by decide) ?_
        refine r_aload_n C dX0_seek_95 rfl rfl ?_
        refine r_aload_n C dX0_seek_96 rfl rfl ?_
        refine r_getf C (mid_8 hy) (hp_8 _ _) rfl 4 (by decide) in_X0_seek_X2 lk_X0_seek_25 (Or.inl rfl) rfl dX0_seek_97 ?_
        refine r_iload_n C dX0_seek_100 rfl rfl ?_
        refine r_callSN (as := [_, _]) (na := 2) (rest := [_]) C (by decide +kernel) ini_X0_seek_X10 st_X0_seek_X10_firstOf (c_firstOf S (jv S 8 4 y) d hth (by omega)) gX0_seek_X10_firstOf_n80 (by decide +kernel) (by decide) (by decide) rfl (Nat.le_of_ble_eq_true rfl) rfl dX0_seek_101 rfl (fun v1 S1 hp1 => ?_)
        obtain ⟨rfl, e9⟩ := hp1
        subst S1
        have eg : (grpSk 8 (psk y) (plP y) y d S) = (fsT (jv S 8 4 y) d, S) := by unfold grpSk; rw [hkk]; rfl
        refine At_val (v' := vi ((((grpSk 8 (psk y) (plP y) y d S)).1 : Nat) : Int)) (by rw [eg]; rfl) ?_
        show At X _ _ _ _ _ (fsT (jv S 8 4 y) d, S).2
        rw [← eg]
        refine r_putf  C (mid_8 hy) (hp_8 _ _) rfl 7 (by decide) in_X0_seek_X2 lk_X0_seek_29 (Or.inr sm_X0_seek_Group_place) tyX2 tyX2_ok nmX2 rfl (tyX2_ok 7 (by decide)) (fun _ => rfl) (fun _ => rfl) (Nat.le_of_ble_eq_true rfl) (hs_8_7 _ _ _) dX0_seek_104 ?_
        refine r_goto (tgt := 116) C dX0_seek_107 (by decide) ?_
        refine r_aload_n C dX0_seek_116 rfl rfl ?_
        refine r_getf C (mid_8 hy) (hp_8 _ _) rfl 7 (by decide) in_X0_seek_X2 lk_X0_seek_29 (Or.inr sm_X0_seek_Group_place) rfl dX0_seek_117 ?_
        exact r_iret C Rr (⟨by rw [ef]; simp [iv, si, up3], by rw [ef]; try (show si S 8 7 y _ = si (grpSk 8 (psk y) (plP y) y d S).2 8 7 y _; rw [← eg2])⟩) dX0_seek_120
      · refine At_val (v' := vi 4) (by rw [hkk]) ?_
        refine r_tout (tgt := 110) C dX0_seek_25 (by omega) (by omega) (by decide) ?_
        refine r_aload_n C dX0_seek_110 rfl rfl ?_
        refine r_bipush C dX0_seek_111 (by decide) ?_
        have eg : (grpSk 8 (psk y) (plP y) y d S) = (40, S) := by unfold grpSk; rw [hkk]; rfl
        refine At_val (v' := vi ((((grpSk 8 (psk y) (plP y) y d S)).1 : Nat) : Int)) (by rw [eg]; rfl) ?_
        have eg2 : S = (grpSk 8 (psk y) (plP y) y d S).2 := by rw [eg]
        refine r_putf  C (mid_8 hy) (hp_8 _ _) rfl 7 (by decide) in_X0_seek_X2 lk_X0_seek_29 (Or.inr sm_X0_seek_Group_place) tyX2 tyX2_ok nmX2 rfl (tyX2_ok 7 (by decide)) (fun _ => rfl) (fun _ => rfl) (Nat.le_of_ble_eq_true rfl) (hs_8_7 _ _ _) dX0_seek_113 ?_
        refine r_aload_n C dX0_seek_116 rfl rfl ?_
        refine r_getf C (mid_8 hy) (hp_8 _ _) rfl 7 (by decide) in_X0_seek_X2 lk_X0_seek_29 (Or.inr sm_X0_seek_Group_place) rfl dX0_seek_117 ?_
        exact r_iret C Rr (⟨by rw [ef]; simp [iv, si, up3], by rw [ef]; try (show si S 8 7 y _ = si (grpSk 8 (psk y) (plP y) y d S).2 8 7 y _; rw [← eg2])⟩) dX0_seek_120
    · skip
      refine r_aload_n C dX0_seek_16 rfl rfl ?_
      refine r_getf C (mid_8 hy) (hp_8 _ _) rfl 7 (by decide) in_X0_seek_X2 lk_X0_seek_29 (Or.inr sm_X0_seek_Group_place) rfl dX0_seek_17 ?_
      exact r_iret C Rr (⟨by unfold plSk; rw [if_pos h13]; congr 2; show iv S 8 7 y = ((iv S 8 7 y).toNat : Int); omega, by unfold plSk; rw [if_pos h13]⟩) dX0_seek_20
  · exact absurd h2 (by omega)
