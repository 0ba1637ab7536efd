theorem lkL_put_13 : Cond.classLink RL 13 "java/lang/IndexOutOfBoundsException" ∈ wsL_put := by decide +kernel
theorem lkL_put_15 : Cond.classLink RL 15 "java/lang/IllegalArgumentException" ∈ wsL_put := by decide +kernel
theorem lkL_drop_13 : Cond.classLink RL 13 "java/lang/IndexOutOfBoundsException" ∈ wsL_drop := by decide +kernel
theorem lkL_count_13 : Cond.classLink RL 13 "java/lang/IndexOutOfBoundsException" ∈ wsL_count := by decide +kernel
theorem lkL_ask_15 : Cond.classLink RL 15 "java/lang/IllegalArgumentException" ∈ wsL_ask := by decide +kernel
theorem lkL_clause_33 : Cond.classLink RL 33 "java/lang/IllegalStateException" ∈ wsL_clause := by decide +kernel
theorem lkL_clause_15 : Cond.classLink RL 15 "java/lang/IllegalArgumentException" ∈ wsL_clause := by decide +kernel
theorem lkL_literal_33 : Cond.classLink RL 33 "java/lang/IllegalStateException" ∈ wsL_literal := by decide +kernel
theorem lkL_literal_13 : Cond.classLink RL 13 "java/lang/IndexOutOfBoundsException" ∈ wsL_literal := by decide +kernel
theorem lkL_matches_13 : Cond.classLink RL 13 "java/lang/IndexOutOfBoundsException" ∈ wsL_matches := by decide +kernel
theorem lkL_clauseAt_15 : Cond.classLink RL 15 "java/lang/IllegalArgumentException" ∈ wsL_clauseAt := by decide +kernel
theorem lkL_kindAt_15 : Cond.classLink RL 15 "java/lang/IllegalArgumentException" ∈ wsL_kindAt := by decide +kernel
theorem lkL_estimateAt_15 : Cond.classLink RL 15 "java/lang/IllegalArgumentException" ∈ wsL_estimateAt := by decide +kernel
theorem lkL_literalAt_15 : Cond.classLink RL 15 "java/lang/IllegalArgumentException" ∈ wsL_literalAt := by decide +kernel
theorem lkL_leap_33 : Cond.classLink RL 33 "java/lang/IllegalStateException" ∈ wsL_leap := by decide +kernel
theorem lkL_leap_13 : Cond.classLink RL 13 "java/lang/IndexOutOfBoundsException" ∈ wsL_leap := by decide +kernel
theorem lkL_next_33 : Cond.classLink RL 33 "java/lang/IllegalStateException" ∈ wsL_next := by decide +kernel
theorem lkL_readings_33 : Cond.classLink RL 33 "java/lang/IllegalStateException" ∈ wsL_readings := by decide +kernel
set_option maxHeartbeats 4000000 in
set_option maxRecDepth 100000 in
theorem l_put (S : ST) (d w : Int) (hd : -2147483648 ≤ d ∧ d < 2147483648) (hw : -2147483648 ≤ w ∧ w < 2147483648) (hCI : CI S) : CtH yL_put wsL_put 8 2 [vr (some (0, 0)), vi d, vi w, vr (some (30, 0))] S (fun v1 S1 => (v1 = some (vi 0) ∧ S1 = sa (sa S 2 0 d.toNat w) 30 0 0 (b2i (thr S d.toNat)) ∧ (0 ≤ d ∧ d < 40) ∧ 0 ≤ w ∧ w ≤ 255) ∨ (v1 = some (vi 1) ∧ S1 = S ∧ ¬ (0 ≤ d ∧ d < 40)) ∨ (v1 = some (vi 2) ∧ S1 = S ∧ (0 ≤ d ∧ d < 40) ∧ ¬ (0 ≤ w ∧ w ≤ 255))) := by
  refine CtH.of (nL := 5) (hh := [(0, 17, 20, 13), (0, 17, 24, 15)]) (by decide) rfl (Nat.le_of_ble_eq_true rfl) (by decide) (fun X C T hnL => ?_)
  refine r_aload_n C dL_put_0 rfl rfl ?_
  refine r_iconst C dL_put_1 ?_
  refine r_aload_n C dL_put_2 rfl rfl ?_
  refine r_iload_n C dL_put_3 rfl rfl ?_
  refine r_iload_n C dL_put_4 rfl rfl ?_
  refine h_callV (as := [vi d, vi w]) (na := 2) (rest := [vi 0, vr (some (30, 0))]) C T mid_0 (hp_0 _) rfl (c_put S d w hd hw hCI) gL_put_X10_put (by decide +kernel) (by decide) (by decide) rfl (Nat.le_of_ble_eq_true rfl) rfl dL_put_5 rfl (by decide) (by decide) (fun v1 S1 hp1 => ?_) (fun E S1 hx1 => ?_)
  · obtain ⟨rfl, e9, hr1⟩ := hp1
    subst S1
    refine r_if_eq (tgt := 15) C dL_put_8 (by decide) (by have := b2i_01 (thr S d.toNat); omega) (fun hb => ?_) (fun hb => ?_)
    · skip
      refine r_lconst C dL_put_15 ?_
      refine At_val (v' := vl (b2i (thr S d.toNat))) (congrArg vl hb.symm) ?_
      refine r_last (j := 0) C mid_30 (hp_30 _) rfl rfl (by decide) (by decide) (ha_30 _ _ _) dL_put_16 ?_
      refine r_goto (tgt := 28) C dL_put_17 (by decide) ?_
      refine r_iconst C dL_put_28 ?_
      exact h_iret C T (by decide) (by decide) (Or.inl ⟨rfl, rfl, hr1⟩) dL_put_29
    · skip
      refine r_lconst C dL_put_11 ?_
      refine r_goto (tgt := 16) C dL_put_12 (by decide) ?_
      refine At_val (v' := vl (b2i (thr S d.toNat))) (congrArg vl (by rw [b2i_1 hb]; rfl)) ?_
      refine r_last (j := 0) C mid_30 (hp_30 _) rfl rfl (by decide) (by decide) (ha_30 _ _ _) dL_put_16 ?_
      refine r_goto (tgt := 28) C dL_put_17 (by decide) ?_
      refine r_iconst C dL_put_28 ?_
      exact h_iret C T (by decide) (by decide) (Or.inl ⟨rfl, rfl, hr1⟩) dL_put_29
  · obtain ⟨rfl, ⟨rfl, hx⟩ | ⟨rfl, hx, hy⟩⟩ := hx1
    · refine ⟨by decide +kernel, [], ⟨0, 17, 20, 13⟩, [⟨0, 17, 24, 15⟩], rfl, fun z hz => absurd hz List.not_mem_nil, by decide, by decide, lkL_put_13, ?_⟩
      show HA X _ _ 20 _ _
      refine ha_astore (lv' := []) C dL_put_20 (by rw [hnL]; decide) (fun q hq => absurd hq List.not_mem_nil) ?_
      refine r_iconst C dL_put_22 ?_
      exact h_iret C T (by decide) (by decide) (Or.inr (Or.inl ⟨rfl, rfl, hx⟩)) dL_put_23
    · refine ⟨by decide +kernel, [⟨0, 17, 20, 13⟩], ⟨0, 17, 24, 15⟩, [], rfl, fun z hz => by rw [List.mem_singleton.mp hz]; exact ⟨by decide, "java/lang/IndexOutOfBoundsException", by decide +kernel, by decide, lkL_put_13⟩, by decide, by decide, lkL_put_15, ?_⟩
      show HA X _ _ 24 _ _
      refine ha_astore (lv' := []) C dL_put_24 (by rw [hnL]; decide) (fun q hq => absurd hq List.not_mem_nil) ?_
      refine r_iconst C dL_put_26 ?_
      exact h_iret C T (by decide) (by decide) (Or.inr (Or.inr (⟨rfl, rfl, hx, hy⟩))) dL_put_27
set_option maxHeartbeats 4000000 in
set_option maxRecDepth 100000 in
theorem l_drop (S : ST) (d : Int) (hd : -2147483648 ≤ d ∧ d < 2147483648) (hCI : CI S) : CtH yL_drop wsL_drop 8 1 [vr (some (0, 0)), vi d, vr (some (30, 0))] S (fun v1 S1 => (v1 = some (vi 0) ∧ S1 = sa (sa S 2 0 d.toNat (-1)) 30 0 0 (b2i (thr S d.toNat)) ∧ (0 ≤ d ∧ d < 40)) ∨ (v1 = some (vi 1) ∧ S1 = S ∧ ¬ (0 ≤ d ∧ d < 40))) := by
  refine CtH.of (nL := 4) (hh := [(0, 16, 19, 13)]) (by decide) rfl (Nat.le_of_ble_eq_true rfl) (by decide) (fun X C T hnL => ?_)
  refine r_aload_n C dL_drop_0 rfl rfl ?_
  refine r_iconst C dL_drop_1 ?_
  refine r_aload_n C dL_drop_2 rfl rfl ?_
  refine r_iload_n C dL_drop_3 rfl rfl ?_
  refine h_callV (as := [vi d]) (na := 1) (rest := [vi 0, vr (some (30, 0))]) C T mid_0 (hp_0 _) rfl (c_drop S d hd hCI) gL_drop_X10_drop (by decide +kernel) (by decide) (by decide) rfl (Nat.le_of_ble_eq_true rfl) rfl dL_drop_4 rfl (by decide) (by decide) (fun v1 S1 hp1 => ?_) (fun E S1 hx1 => ?_)
  · obtain ⟨rfl, e9, hr1⟩ := hp1
    subst S1
    refine r_if_eq (tgt := 14) C dL_drop_7 (by decide) (by have := b2i_01 (thr S d.toNat); omega) (fun hb => ?_) (fun hb => ?_)
    · skip
      refine r_lconst C dL_drop_14 ?_
      refine At_val (v' := vl (b2i (thr S d.toNat))) (congrArg vl hb.symm) ?_
      refine r_last (j := 0) C mid_30 (hp_30 _) rfl rfl (by decide) (by decide) (ha_30 _ _ _) dL_drop_15 ?_
      refine r_goto (tgt := 22) C dL_drop_16 (by decide) ?_
      refine r_iconst C dL_drop_22 ?_
      exact h_iret C T (by decide) (by decide) (Or.inl ⟨rfl, rfl, hr1⟩) dL_drop_23
    · skip
      refine r_lconst C dL_drop_10 ?_
      refine r_goto (tgt := 15) C dL_drop_11 (by decide) ?_
      refine At_val (v' := vl (b2i (thr S d.toNat))) (congrArg vl (by rw [b2i_1 hb]; rfl)) ?_
      refine r_last (j := 0) C mid_30 (hp_30 _) rfl rfl (by decide) (by decide) (ha_30 _ _ _) dL_drop_15 ?_
      refine r_goto (tgt := 22) C dL_drop_16 (by decide) ?_
      refine r_iconst C dL_drop_22 ?_
      exact h_iret C T (by decide) (by decide) (Or.inl ⟨rfl, rfl, hr1⟩) dL_drop_23
  · obtain ⟨rfl, rfl, hx⟩ := hx1
    refine ⟨by decide +kernel, [], ⟨0, 16, 19, 13⟩, [], rfl, fun z hz => absurd hz List.not_mem_nil, by decide, by decide, lkL_drop_13, ?_⟩
    show HA X _ _ 19 _ _
    refine ha_astore_n (lv' := []) C dL_drop_19 rfl (by rw [hnL]; decide) (fun q hq => absurd hq List.not_mem_nil) ?_
    refine r_iconst C dL_drop_20 ?_
    exact h_iret C T (by decide) (by decide) (Or.inr (⟨rfl, rfl, hx⟩)) dL_drop_21
set_option maxHeartbeats 4000000 in
set_option maxRecDepth 100000 in
theorem l_count (S : ST) (d : Int) (hd : -2147483648 ≤ d ∧ d < 2147483648) (hCI : CI S) : CtH yL_count wsL_count 8 1 [vr (some (0, 0)), vi d, vr (some (30, 0))] S (fun v1 S1 => (v1 = some (vi 0) ∧ S1 = sa (S) 30 0 0 (w32 ((pop (bset (tru S (2 * d.toNat)) 40) : Nat) : Int)) ∧ (0 ≤ d ∧ d < 8)) ∨ (v1 = some (vi 1) ∧ S1 = S ∧ ¬ (0 ≤ d ∧ d < 8))) := by
  refine CtH.of (nL := 4) (hh := [(0, 9, 12, 13)]) (by decide) rfl (Nat.le_of_ble_eq_true rfl) (by decide) (fun X C T hnL => ?_)
  refine r_aload_n C dL_count_0 rfl rfl ?_
  refine r_iconst C dL_count_1 ?_
  refine r_aload_n C dL_count_2 rfl rfl ?_
  refine r_iload_n C dL_count_3 rfl rfl ?_
  refine h_callV (as := [vi d]) (na := 1) (rest := [vi 0, vr (some (30, 0))]) C T mid_0 (hp_0 _) rfl (c_count S d hd hCI) gL_count_X10_count (by decide +kernel) (by decide) (by decide) rfl (Nat.le_of_ble_eq_true rfl) rfl dL_count_4 rfl (by decide) (by decide) (fun v1 S1 hp1 => ?_) (fun E S1 hx1 => ?_)
  · obtain ⟨rfl, e9, hr1⟩ := hp1
    subst S1
    refine r_i2lx C dL_count_7 ?_
    refine r_last (j := 0) C mid_30 (hp_30 _) rfl rfl (by decide) (by decide) (ha_30 _ _ _) dL_count_8 ?_
    refine r_goto (tgt := 15) C dL_count_9 (by decide) ?_
    refine r_iconst C dL_count_15 ?_
    exact h_iret C T (by decide) (by decide) (Or.inl ⟨rfl, rfl, hr1⟩) dL_count_16
  · obtain ⟨rfl, rfl, hx⟩ := hx1
    refine ⟨by decide +kernel, [], ⟨0, 9, 12, 13⟩, [], rfl, fun z hz => absurd hz List.not_mem_nil, by decide, by decide, lkL_count_13, ?_⟩
    show HA X _ _ 12 _ _
    refine ha_astore_n (lv' := []) C dL_count_12 rfl (by rw [hnL]; decide) (fun q hq => absurd hq List.not_mem_nil) ?_
    refine r_iconst C dL_count_13 ?_
    exact h_iret C T (by decide) (by decide) (Or.inr (⟨rfl, rfl, hx⟩)) dL_count_14
set_option maxHeartbeats 4000000 in
set_option maxRecDepth 100000 in
theorem l_ask (S : ST) (kd nd : Int) (hkd : -2147483648 ≤ kd ∧ kd < 2147483648) (hnd : -2147483648 ≤ nd ∧ nd < 2147483648) (hCI : CI S) : CtH yL_ask wsL_ask 8 1 [vr (some (0, 0)), vi kd, vi nd, vr (some (30, 0))] S (fun v1 S1 => (v1 = some (vi 0) ∧ S1 = sa (si (si (si S 3 1 0 kd) 3 2 0 nd) 3 3 0 0) 30 0 0 (w32 (iv S 3 3 0)) ∧ ((kd = 0 ∧ nd = 0) ∨ (kd = 1 ∧ nd = 0) ∨ (kd = 2 ∧ 1 ≤ nd ∧ nd ≤ 5))) ∨ (v1 = some (vi 1) ∧ S1 = S ∧ ¬ ((kd = 0 ∧ nd = 0) ∨ (kd = 1 ∧ nd = 0) ∨ (kd = 2 ∧ 1 ≤ nd ∧ nd ≤ 5)))) := by
  refine CtH.of (nL := 5) (hh := [(0, 10, 13, 15)]) (by decide) rfl (Nat.le_of_ble_eq_true rfl) (by decide) (fun X C T hnL => ?_)
  refine r_aload_n C dL_ask_0 rfl rfl ?_
  refine r_iconst C dL_ask_1 ?_
  refine r_aload_n C dL_ask_2 rfl rfl ?_
  refine r_iload_n C dL_ask_3 rfl rfl ?_
  refine r_iload_n C dL_ask_4 rfl rfl ?_
  refine h_callV (as := [vi kd, vi nd]) (na := 2) (rest := [vi 0, vr (some (30, 0))]) C T mid_0 (hp_0 _) rfl (c_ask S kd nd hkd hnd hCI) gL_ask_X10_ask (by decide +kernel) (by decide) (by decide) rfl (Nat.le_of_ble_eq_true rfl) rfl dL_ask_5 rfl (by decide) (by decide) (fun v1 S1 hp1 => ?_) (fun E S1 hx1 => ?_)
  · obtain ⟨rfl, e9, hr1⟩ := hp1
    subst S1
    refine r_i2lx C dL_ask_8 ?_
    refine r_last (j := 0) C mid_30 (hp_30 _) rfl rfl (by decide) (by decide) (ha_30 _ _ _) dL_ask_9 ?_
    refine r_goto (tgt := 17) C dL_ask_10 (by decide) ?_
    refine r_iconst C dL_ask_17 ?_
    exact h_iret C T (by decide) (by decide) (Or.inl ⟨rfl, rfl, hr1⟩) dL_ask_18
  · obtain ⟨rfl, rfl, hx⟩ := hx1
    refine ⟨by decide +kernel, [], ⟨0, 10, 13, 15⟩, [], rfl, fun z hz => absurd hz List.not_mem_nil, by decide, by decide, lkL_ask_15, ?_⟩
    show HA X _ _ 13 _ _
    refine ha_astore (lv' := []) C dL_ask_13 (by rw [hnL]; decide) (fun q hq => absurd hq List.not_mem_nil) ?_
    refine r_iconst C dL_ask_15 ?_
    exact h_iret C T (by decide) (by decide) (Or.inr (⟨rfl, rfl, hx⟩)) dL_ask_16
set_option maxHeartbeats 4000000 in
set_option maxRecDepth 100000 in
theorem l_clause (S : ST) (kd nd b : Int) (hkd : -2147483648 ≤ kd ∧ kd < 2147483648) (hnd : -2147483648 ≤ nd ∧ nd < 2147483648) (hb : b = 0 ∨ b = 1) (hCI : CI S) : CtH yL_clause wsL_clause 8 2 [vr (some (0, 0)), vi kd, vi nd, vi b, vr (some (30, 0))] S (fun v1 S1 => (v1 = some (vi 0) ∧ S1 = sa (si (si (si (si (si S 5 1 (iv S 3 3 0).toNat kd) 5 2 (iv S 3 3 0).toNat nd) 5 3 (iv S 3 3 0).toNat b) 5 4 (iv S 3 3 0).toNat 0) 3 3 0 (iv S 3 3 0 + 1)) 30 0 0 (w32 (iv S 3 3 0)) ∧ ((kd = 0 ∧ nd = 0) ∨ (kd = 1 ∧ nd = 0) ∨ (kd = 2 ∧ 1 ≤ nd ∧ nd ≤ 6)) ∧ iv S 3 3 0 < 5) ∨ (v1 = some (vi 1) ∧ S1 = S ∧ ¬ ((kd = 0 ∧ nd = 0) ∨ (kd = 1 ∧ nd = 0) ∨ (kd = 2 ∧ 1 ≤ nd ∧ nd ≤ 6))) ∨ (v1 = some (vi 2) ∧ S1 = S ∧ ((kd = 0 ∧ nd = 0) ∨ (kd = 1 ∧ nd = 0) ∨ (kd = 2 ∧ 1 ≤ nd ∧ nd ≤ 6)) ∧ ¬ iv S 3 3 0 < 5)) := by
  refine CtH.of (nL := 6) (hh := [(0, 12, 15, 15), (0, 12, 19, 33)]) (by decide) rfl (Nat.le_of_ble_eq_true rfl) (by decide) (fun X C T hnL => ?_)
  refine r_aload C dL_clause_0 rfl ?_
  refine r_iconst C dL_clause_2 ?_
  refine r_aload_n C dL_clause_3 rfl rfl ?_
  refine r_iload_n C dL_clause_4 rfl rfl ?_
  refine r_iload_n C dL_clause_5 rfl rfl ?_
  refine r_iload_n C dL_clause_6 rfl rfl ?_
  refine h_callV (as := [vi kd, vi nd, vi b]) (na := 3) (rest := [vi 0, vr (some (30, 0))]) C T mid_0 (hp_0 _) rfl (c_clause S kd nd b hkd hnd hb hCI) gL_clause_X10_clause (by decide +kernel) (by decide) (by decide) rfl (Nat.le_of_ble_eq_true rfl) rfl dL_clause_7 rfl (by decide) (by decide) (fun v1 S1 hp1 => ?_) (fun E S1 hx1 => ?_)
  · obtain ⟨rfl, e9, hr1⟩ := hp1
    subst S1
    refine r_i2lx C dL_clause_10 ?_
    refine r_last (j := 0) C mid_30 (hp_30 _) rfl rfl (by decide) (by decide) (ha_30 _ _ _) dL_clause_11 ?_
    refine r_goto (tgt := 23) C dL_clause_12 (by decide) ?_
    refine r_iconst C dL_clause_23 ?_
    exact h_iret C T (by decide) (by decide) (Or.inl ⟨rfl, rfl, hr1⟩) dL_clause_24
  · obtain ⟨rfl, ⟨rfl, hx⟩ | ⟨rfl, hx, hy⟩⟩ := hx1
    · refine ⟨by decide +kernel, [], ⟨0, 12, 15, 15⟩, [⟨0, 12, 19, 33⟩], rfl, fun z hz => absurd hz List.not_mem_nil, by decide, by decide, lkL_clause_15, ?_⟩
      show HA X _ _ 15 _ _
      refine ha_astore (lv' := []) C dL_clause_15 (by rw [hnL]; decide) (fun q hq => absurd hq List.not_mem_nil) ?_
      refine r_iconst C dL_clause_17 ?_
      exact h_iret C T (by decide) (by decide) (Or.inr (Or.inl ⟨rfl, rfl, hx⟩)) dL_clause_18
    · refine ⟨by decide +kernel, [⟨0, 12, 15, 15⟩], ⟨0, 12, 19, 33⟩, [], rfl, fun z hz => by rw [List.mem_singleton.mp hz]; exact ⟨by decide, "java/lang/IllegalArgumentException", by decide +kernel, by decide, lkL_clause_15⟩, by decide, by decide, lkL_clause_33, ?_⟩
      show HA X _ _ 19 _ _
      refine ha_astore (lv' := []) C dL_clause_19 (by rw [hnL]; decide) (fun q hq => absurd hq List.not_mem_nil) ?_
      refine r_iconst C dL_clause_21 ?_
      exact h_iret C T (by decide) (by decide) (Or.inr (Or.inr (⟨rfl, rfl, hx, hy⟩))) dL_clause_22
set_option maxHeartbeats 4000000 in
set_option maxRecDepth 100000 in
theorem l_literal (S : ST) (cn wd b : Int) (hcn : -2147483648 ≤ cn ∧ cn < 2147483648) (hwd : -2147483648 ≤ wd ∧ wd < 2147483648) (hb : b = 0 ∨ b = 1) (hCI : CI S) : CtH yL_literal wsL_literal 8 2 [vr (some (0, 0)), vi cn, vi wd, vi b, vr (some (30, 0))] S (fun v1 S1 => (v1 = some (vi 0) ∧ S1 = sa (si (sa S 6 cn.toNat (iv S 5 4 cn.toNat).toNat (2 * wd + b)) 5 4 cn.toNat (iv S 5 4 cn.toNat + 1)) 30 0 0 (w32 (iv S 5 4 cn.toNat + 1)) ∧ (0 ≤ cn ∧ cn < iv S 3 3 0) ∧ (0 ≤ wd ∧ wd < 8) ∧ iv S 5 4 cn.toNat < 6) ∨ (v1 = some (vi 1) ∧ S1 = S ∧ ¬ ((0 ≤ cn ∧ cn < iv S 3 3 0) ∧ (0 ≤ wd ∧ wd < 8))) ∨ (v1 = some (vi 2) ∧ S1 = S ∧ (0 ≤ cn ∧ cn < iv S 3 3 0) ∧ (0 ≤ wd ∧ wd < 8) ∧ ¬ iv S 5 4 cn.toNat < 6)) := by
  refine CtH.of (nL := 6) (hh := [(0, 12, 15, 13), (0, 12, 19, 33)]) (by decide) rfl (Nat.le_of_ble_eq_true rfl) (by decide) (fun X C T hnL => ?_)
  refine r_aload C dL_literal_0 rfl ?_
  refine r_iconst C dL_literal_2 ?_
  refine r_aload_n C dL_literal_3 rfl rfl ?_
  refine r_iload_n C dL_literal_4 rfl rfl ?_
  refine r_iload_n C dL_literal_5 rfl rfl ?_
  refine r_iload_n C dL_literal_6 rfl rfl ?_
  refine h_callV (as := [vi cn, vi wd, vi b]) (na := 3) (rest := [vi 0, vr (some (30, 0))]) C T mid_0 (hp_0 _) rfl (c_literal S cn wd b hcn hwd hb hCI) gL_literal_X10_literal (by decide +kernel) (by decide) (by decide) rfl (Nat.le_of_ble_eq_true rfl) rfl dL_literal_7 rfl (by decide) (by decide) (fun v1 S1 hp1 => ?_) (fun E S1 hx1 => ?_)
  · obtain ⟨rfl, e9, hr1⟩ := hp1
    subst S1
    refine r_i2lx C dL_literal_10 ?_
    refine r_last (j := 0) C mid_30 (hp_30 _) rfl rfl (by decide) (by decide) (ha_30 _ _ _) dL_literal_11 ?_
    refine r_goto (tgt := 23) C dL_literal_12 (by decide) ?_
    refine r_iconst C dL_literal_23 ?_
    exact h_iret C T (by decide) (by decide) (Or.inl ⟨rfl, rfl, hr1⟩) dL_literal_24
  · obtain ⟨rfl, ⟨rfl, hx⟩ | ⟨rfl, hx, hz, hy⟩⟩ := hx1
    · refine ⟨by decide +kernel, [], ⟨0, 12, 15, 13⟩, [⟨0, 12, 19, 33⟩], rfl, fun z hz => absurd hz List.not_mem_nil, by decide, by decide, lkL_literal_13, ?_⟩
      show HA X _ _ 15 _ _
      refine ha_astore (lv' := []) C dL_literal_15 (by rw [hnL]; decide) (fun q hq => absurd hq List.not_mem_nil) ?_
      refine r_iconst C dL_literal_17 ?_
      exact h_iret C T (by decide) (by decide) (Or.inr (Or.inl ⟨rfl, rfl, hx⟩)) dL_literal_18
    · refine ⟨by decide +kernel, [⟨0, 12, 15, 13⟩], ⟨0, 12, 19, 33⟩, [], rfl, fun z hz => by rw [List.mem_singleton.mp hz]; exact ⟨by decide, "java/lang/IndexOutOfBoundsException", by decide +kernel, by decide, lkL_literal_13⟩, by decide, by decide, lkL_literal_33, ?_⟩
      show HA X _ _ 19 _ _
      refine ha_astore (lv' := []) C dL_literal_19 (by rw [hnL]; decide) (fun q hq => absurd hq List.not_mem_nil) ?_
      refine r_iconst C dL_literal_21 ?_
      exact h_iret C T (by decide) (by decide) (Or.inr (Or.inr (⟨rfl, rfl, hx, hz, hy⟩))) dL_literal_22
set_option maxHeartbeats 4000000 in
set_option maxRecDepth 100000 in
theorem l_matches (S : ST) (d : Int) (hd : -2147483648 ≤ d ∧ d < 2147483648) (hCI : CI S) : CtH yL_matches wsL_matches 8 1 [vr (some (0, 0)), vi d, vr (some (30, 0))] S (fun v1 S1 => (v1 = some (vi 0) ∧ S1 = sa (S) 30 0 0 (b2i (thr S d.toNat && qT S (ai S 2 0 d.toNat).toNat)) ∧ (0 ≤ d ∧ d < 40)) ∨ (v1 = some (vi 1) ∧ S1 = S ∧ ¬ (0 ≤ d ∧ d < 40))) := by
  refine CtH.of (nL := 4) (hh := [(0, 16, 19, 13)]) (by decide) rfl (Nat.le_of_ble_eq_true rfl) (by decide) (fun X C T hnL => ?_)
  refine r_aload_n C dL_matches_0 rfl rfl ?_
  refine r_iconst C dL_matches_1 ?_
  refine r_aload_n C dL_matches_2 rfl rfl ?_
  refine r_iload_n C dL_matches_3 rfl rfl ?_
  refine h_callV (as := [vi d]) (na := 1) (rest := [vi 0, vr (some (30, 0))]) C T mid_0 (hp_0 _) rfl (c_matches S d hd hCI) gL_matches_X10_matches (by decide +kernel) (by decide) (by decide) rfl (Nat.le_of_ble_eq_true rfl) rfl dL_matches_4 rfl (by decide) (by decide) (fun v1 S1 hp1 => ?_) (fun E S1 hx1 => ?_)
  · obtain ⟨rfl, e9, hr1⟩ := hp1
    subst S1
    refine r_if_eq (tgt := 14) C dL_matches_7 (by decide) (by have := b2i_01 ((thr S d.toNat && qT S (ai S 2 0 d.toNat).toNat)); omega) (fun hb => ?_) (fun hb => ?_)
    · skip
      refine r_lconst C dL_matches_14 ?_
      refine At_val (v' := vl (b2i ((thr S d.toNat && qT S (ai S 2 0 d.toNat).toNat)))) (congrArg vl hb.symm) ?_
      refine r_last (j := 0) C mid_30 (hp_30 _) rfl rfl (by decide) (by decide) (ha_30 _ _ _) dL_matches_15 ?_
      refine r_goto (tgt := 22) C dL_matches_16 (by decide) ?_
      refine r_iconst C dL_matches_22 ?_
      exact h_iret C T (by decide) (by decide) (Or.inl ⟨rfl, rfl, hr1⟩) dL_matches_23
    · skip
      refine r_lconst C dL_matches_10 ?_
      refine r_goto (tgt := 15) C dL_matches_11 (by decide) ?_
      refine At_val (v' := vl (b2i ((thr S d.toNat && qT S (ai S 2 0 d.toNat).toNat)))) (congrArg vl (by rw [b2i_1 hb]; rfl)) ?_
      refine r_last (j := 0) C mid_30 (hp_30 _) rfl rfl (by decide) (by decide) (ha_30 _ _ _) dL_matches_15 ?_
      refine r_goto (tgt := 22) C dL_matches_16 (by decide) ?_
      refine r_iconst C dL_matches_22 ?_
      exact h_iret C T (by decide) (by decide) (Or.inl ⟨rfl, rfl, hr1⟩) dL_matches_23
  · obtain ⟨rfl, rfl, hx⟩ := hx1
    refine ⟨by decide +kernel, [], ⟨0, 16, 19, 13⟩, [], rfl, fun z hz => absurd hz List.not_mem_nil, by decide, by decide, lkL_matches_13, ?_⟩
    show HA X _ _ 19 _ _
    refine ha_astore_n (lv' := []) C dL_matches_19 rfl (by rw [hnL]; decide) (fun q hq => absurd hq List.not_mem_nil) ?_
    refine r_iconst C dL_matches_20 ?_
    exact h_iret C T (by decide) (by decide) (Or.inr (⟨rfl, rfl, hx⟩)) dL_matches_21
set_option maxHeartbeats 4000000 in
set_option maxRecDepth 100000 in
theorem l_clauseAt (S : ST) (d : Int) (hd : -2147483648 ≤ d ∧ d < 2147483648) (hCI : CI S) : CtH yL_clauseAt wsL_clauseAt 8 1 [vr (some (0, 0)), vi d, vr (some (30, 0))] S (fun v1 S1 => (v1 = some (vi 0) ∧ S1 = sa (pmkF 0 S) 30 0 0 (w32 ((((pa (pmkF 0 S) 9 0 d.toNat % 5) % 5 : Nat) : Int))) ∧ (0 ≤ d ∧ d < iv (pmkF 0 S) 8 3 0)) ∨ (v1 = some (vi 1) ∧ S1 = pmkF 0 S ∧ ¬ (0 ≤ d ∧ d < iv (pmkF 0 S) 8 3 0))) := by
  refine CtH.of (nL := 4) (hh := [(0, 9, 12, 15)]) (by decide) rfl (Nat.le_of_ble_eq_true rfl) (by decide) (fun X C T hnL => ?_)
  refine r_aload_n C dL_clauseAt_0 rfl rfl ?_
  refine r_iconst C dL_clauseAt_1 ?_
  refine r_aload_n C dL_clauseAt_2 rfl rfl ?_
  refine r_iload_n C dL_clauseAt_3 rfl rfl ?_
  refine h_callV (as := [vi d]) (na := 1) (rest := [vi 0, vr (some (30, 0))]) C T mid_0 (hp_0 _) rfl (c_clauseAt S d hd hCI) gL_clauseAt_X10_clauseAt (by decide +kernel) (by decide) (by decide) rfl (Nat.le_of_ble_eq_true rfl) rfl dL_clauseAt_4 rfl (by decide) (by decide) (fun v1 S1 hp1 => ?_) (fun E S1 hx1 => ?_)
  · obtain ⟨rfl, e9, hr1⟩ := hp1
    subst S1
    refine r_i2lx C dL_clauseAt_7 ?_
    refine r_last (j := 0) C mid_30 (hp_30 _) rfl rfl (by decide) (by decide) (ha_30 _ _ _) dL_clauseAt_8 ?_
    refine r_goto (tgt := 15) C dL_clauseAt_9 (by decide) ?_
    refine r_iconst C dL_clauseAt_15 ?_
    exact h_iret C T (by decide) (by decide) (Or.inl ⟨rfl, rfl, hr1⟩) dL_clauseAt_16
  · obtain ⟨rfl, rfl, hx⟩ := hx1
    refine ⟨by decide +kernel, [], ⟨0, 9, 12, 15⟩, [], rfl, fun z hz => absurd hz List.not_mem_nil, by decide, by decide, lkL_clauseAt_15, ?_⟩
    show HA X _ _ 12 _ _
    refine ha_astore_n (lv' := []) C dL_clauseAt_12 rfl (by rw [hnL]; decide) (fun q hq => absurd hq List.not_mem_nil) ?_
    refine r_iconst C dL_clauseAt_13 ?_
    exact h_iret C T (by decide) (by decide) (Or.inr (⟨rfl, rfl, hx⟩)) dL_clauseAt_14
set_option maxHeartbeats 4000000 in
set_option maxRecDepth 100000 in
theorem l_kindAt (S : ST) (d : Int) (hd : -2147483648 ≤ d ∧ d < 2147483648) (hCI : CI S) : CtH yL_kindAt wsL_kindAt 8 1 [vr (some (0, 0)), vi d, vr (some (30, 0))] S (fun v1 S1 => (v1 = some (vi 0) ∧ S1 = sa (pmkF 0 S) 30 0 0 (w32 (iv (pmkF 0 S) 11 1 (pa (pmkF 0 S) 9 0 d.toNat % 5))) ∧ (0 ≤ d ∧ d < iv (pmkF 0 S) 8 3 0)) ∨ (v1 = some (vi 1) ∧ S1 = pmkF 0 S ∧ ¬ (0 ≤ d ∧ d < iv (pmkF 0 S) 8 3 0))) := by
  refine CtH.of (nL := 4) (hh := [(0, 9, 12, 15)]) (by decide) rfl (Nat.le_of_ble_eq_true rfl) (by decide) (fun X C T hnL => ?_)
  refine r_aload_n C dL_kindAt_0 rfl rfl ?_
  refine r_iconst C dL_kindAt_1 ?_
  refine r_aload_n C dL_kindAt_2 rfl rfl ?_
  refine r_iload_n C dL_kindAt_3 rfl rfl ?_
  refine h_callV (as := [vi d]) (na := 1) (rest := [vi 0, vr (some (30, 0))]) C T mid_0 (hp_0 _) rfl (c_kindAt S d hd hCI) gL_kindAt_X10_kindAt (by decide +kernel) (by decide) (by decide) rfl (Nat.le_of_ble_eq_true rfl) rfl dL_kindAt_4 rfl (by decide) (by decide) (fun v1 S1 hp1 => ?_) (fun E S1 hx1 => ?_)
  · obtain ⟨rfl, e9, hr1⟩ := hp1
    subst S1
    refine r_i2lx C dL_kindAt_7 ?_
    refine r_last (j := 0) C mid_30 (hp_30 _) rfl rfl (by decide) (by decide) (ha_30 _ _ _) dL_kindAt_8 ?_
    refine r_goto (tgt := 15) C dL_kindAt_9 (by decide) ?_
    refine r_iconst C dL_kindAt_15 ?_
    exact h_iret C T (by decide) (by decide) (Or.inl ⟨rfl, rfl, hr1⟩) dL_kindAt_16
  · obtain ⟨rfl, rfl, hx⟩ := hx1
    refine ⟨by decide +kernel, [], ⟨0, 9, 12, 15⟩, [], rfl, fun z hz => absurd hz List.not_mem_nil, by decide, by decide, lkL_kindAt_15, ?_⟩
    show HA X _ _ 12 _ _
    refine ha_astore_n (lv' := []) C dL_kindAt_12 rfl (by rw [hnL]; decide) (fun q hq => absurd hq List.not_mem_nil) ?_
    refine r_iconst C dL_kindAt_13 ?_
    exact h_iret C T (by decide) (by decide) (Or.inr (⟨rfl, rfl, hx⟩)) dL_kindAt_14
set_option maxHeartbeats 4000000 in
set_option maxRecDepth 100000 in
theorem l_estimateAt (S : ST) (d : Int) (hd : -2147483648 ≤ d ∧ d < 2147483648) (hCI : CI S) : CtH yL_estimateAt wsL_estimateAt 8 1 [vr (some (0, 0)), vi d, vr (some (30, 0))] S (fun v1 S1 => (v1 = some (vi 0) ∧ S1 = sa (pmkF 0 S) 30 0 0 (w32 (iv (pmkF 0 S) 11 6 (pa (pmkF 0 S) 9 0 d.toNat % 5))) ∧ (0 ≤ d ∧ d < iv (pmkF 0 S) 8 3 0)) ∨ (v1 = some (vi 1) ∧ S1 = pmkF 0 S ∧ ¬ (0 ≤ d ∧ d < iv (pmkF 0 S) 8 3 0))) := by
  refine CtH.of (nL := 4) (hh := [(0, 9, 12, 15)]) (by decide) rfl (Nat.le_of_ble_eq_true rfl) (by decide) (fun X C T hnL => ?_)
  refine r_aload_n C dL_estimateAt_0 rfl rfl ?_
  refine r_iconst C dL_estimateAt_1 ?_
  refine r_aload_n C dL_estimateAt_2 rfl rfl ?_
  refine r_iload_n C dL_estimateAt_3 rfl rfl ?_
  refine h_callV (as := [vi d]) (na := 1) (rest := [vi 0, vr (some (30, 0))]) C T mid_0 (hp_0 _) rfl (c_estimateAt S d hd hCI) gL_estimateAt_X10_estimateAt (by decide +kernel) (by decide) (by decide) rfl (Nat.le_of_ble_eq_true rfl) rfl dL_estimateAt_4 rfl (by decide) (by decide) (fun v1 S1 hp1 => ?_) (fun E S1 hx1 => ?_)
  · obtain ⟨rfl, e9, hr1⟩ := hp1
    subst S1
    refine r_i2lx C dL_estimateAt_7 ?_
    refine r_last (j := 0) C mid_30 (hp_30 _) rfl rfl (by decide) (by decide) (ha_30 _ _ _) dL_estimateAt_8 ?_
    refine r_goto (tgt := 15) C dL_estimateAt_9 (by decide) ?_
    refine r_iconst C dL_estimateAt_15 ?_
    exact h_iret C T (by decide) (by decide) (Or.inl ⟨rfl, rfl, hr1⟩) dL_estimateAt_16
  · obtain ⟨rfl, rfl, hx⟩ := hx1
    refine ⟨by decide +kernel, [], ⟨0, 9, 12, 15⟩, [], rfl, fun z hz => absurd hz List.not_mem_nil, by decide, by decide, lkL_estimateAt_15, ?_⟩
    show HA X _ _ 12 _ _
    refine ha_astore_n (lv' := []) C dL_estimateAt_12 rfl (by rw [hnL]; decide) (fun q hq => absurd hq List.not_mem_nil) ?_
    refine r_iconst C dL_estimateAt_13 ?_
    exact h_iret C T (by decide) (by decide) (Or.inr (⟨rfl, rfl, hx⟩)) dL_estimateAt_14
set_option maxHeartbeats 4000000 in
set_option maxRecDepth 100000 in
theorem l_literalAt (S : ST) (d j : Int) (hd : -2147483648 ≤ d ∧ d < 2147483648) (hj : -2147483648 ≤ j ∧ j < 2147483648) (hCI : CI S) : CtH yL_literalAt wsL_literalAt 8 2 [vr (some (0, 0)), vi d, vi j, vr (some (30, 0))] S (fun v1 S1 => (v1 = some (vi 0) ∧ S1 = sa (pmkF 0 S) 30 0 0 (w32 (iv (pmkF 0 S) 14 0 (pa (pmkF 0 S) 12 (pa (pmkF 0 S) 9 0 d.toNat % 5) j.toNat))) ∧ (0 ≤ d ∧ d < iv (pmkF 0 S) 8 3 0) ∧ (0 ≤ j ∧ j < iv (pmkF 0 S) 11 3 (pa (pmkF 0 S) 9 0 d.toNat % 5))) ∨ (v1 = some (vi 1) ∧ S1 = pmkF 0 S ∧ ¬ ((0 ≤ d ∧ d < iv (pmkF 0 S) 8 3 0) ∧ (0 ≤ j ∧ j < iv (pmkF 0 S) 11 3 (pa (pmkF 0 S) 9 0 d.toNat % 5))))) := by
  refine CtH.of (nL := 5) (hh := [(0, 10, 13, 15)]) (by decide) rfl (Nat.le_of_ble_eq_true rfl) (by decide) (fun X C T hnL => ?_)
  refine r_aload_n C dL_literalAt_0 rfl rfl ?_
  refine r_iconst C dL_literalAt_1 ?_
  refine r_aload_n C dL_literalAt_2 rfl rfl ?_
  refine r_iload_n C dL_literalAt_3 rfl rfl ?_
  refine r_iload_n C dL_literalAt_4 rfl rfl ?_
  refine h_callV (as := [vi d, vi j]) (na := 2) (rest := [vi 0, vr (some (30, 0))]) C T mid_0 (hp_0 _) rfl (c_literalAt S d j hd hj hCI) gL_literalAt_X10_literalAt (by decide +kernel) (by decide) (by decide) rfl (Nat.le_of_ble_eq_true rfl) rfl dL_literalAt_5 rfl (by decide) (by decide) (fun v1 S1 hp1 => ?_) (fun E S1 hx1 => ?_)
  · obtain ⟨rfl, e9, hr1⟩ := hp1
    subst S1
    refine r_i2lx C dL_literalAt_8 ?_
    refine r_last (j := 0) C mid_30 (hp_30 _) rfl rfl (by decide) (by decide) (ha_30 _ _ _) dL_literalAt_9 ?_
    refine r_goto (tgt := 17) C dL_literalAt_10 (by decide) ?_
    refine r_iconst C dL_literalAt_17 ?_
    exact h_iret C T (by decide) (by decide) (Or.inl ⟨rfl, rfl, hr1⟩) dL_literalAt_18
  · obtain ⟨rfl, rfl, hx⟩ := hx1
    refine ⟨by decide +kernel, [], ⟨0, 10, 13, 15⟩, [], rfl, fun z hz => absurd hz List.not_mem_nil, by decide, by decide, lkL_literalAt_15, ?_⟩
    show HA X _ _ 13 _ _
    refine ha_astore (lv' := []) C dL_literalAt_13 (by rw [hnL]; decide) (fun q hq => absurd hq List.not_mem_nil) ?_
    refine r_iconst C dL_literalAt_15 ?_
    exact h_iret C T (by decide) (by decide) (Or.inr (⟨rfl, rfl, hx⟩)) dL_literalAt_16
set_option maxHeartbeats 4000000 in
set_option maxRecDepth 100000 in
theorem l_leap (S : ST) (d : Int) (hd : -2147483648 ≤ d ∧ d < 2147483648) (hCI : CI S) (hb : iv S 15 2 0 = 0 ∨ iv S 15 2 0 = 1) (hg : -1 ≤ iv S 15 3 0 ∧ iv S 15 3 0 ≤ 39) : CtH yL_leap wsL_leap 11 2 [vr (some (0, 0)), vi d, vr (some (30, 0))] S (fun v1 S1 => (v1 = some (vi 0) ∧ S1 = sa ((advF d S).2) 30 0 0 (w32 (advF d S).1) ∧ (0 ≤ d ∧ d < 40) ∧ iv S 15 2 0 = 1) ∨ (v1 = some (vi 1) ∧ S1 = S ∧ ¬ (0 ≤ d ∧ d < 40)) ∨ (v1 = some (vi 2) ∧ S1 = S ∧ (0 ≤ d ∧ d < 40) ∧ iv S 15 2 0 = 0)) := by
  refine CtH.of (nL := 4) (hh := [(0, 9, 12, 13), (0, 9, 15, 33)]) (by decide) rfl (Nat.le_of_ble_eq_true rfl) (by decide) (fun X C T hnL => ?_)
  refine r_aload_n C dL_leap_0 rfl rfl ?_
  refine r_iconst C dL_leap_1 ?_
  refine r_aload_n C dL_leap_2 rfl rfl ?_
  refine r_iload_n C dL_leap_3 rfl rfl ?_
  refine h_callV (as := [vi d]) (na := 1) (rest := [vi 0, vr (some (30, 0))]) C T mid_0 (hp_0 _) rfl (c_leap S d hd hCI hb hg) gL_leap_X10_leap (by decide +kernel) (by decide) (by decide) rfl (Nat.le_of_ble_eq_true rfl) rfl dL_leap_4 rfl (by decide) (by decide) (fun v1 S1 hp1 => ?_) (fun E S1 hx1 => ?_)
  · obtain ⟨rfl, e9, hr1⟩ := hp1
    subst S1
    refine r_i2lx C dL_leap_7 ?_
    refine r_last (j := 0) C mid_30 (hp_30 _) rfl rfl (by decide) (by decide) (ha_30 _ _ _) dL_leap_8 ?_
    refine r_goto (tgt := 18) C dL_leap_9 (by decide) ?_
    refine r_iconst C dL_leap_18 ?_
    exact h_iret C T (by decide) (by decide) (Or.inl ⟨rfl, rfl, hr1⟩) dL_leap_19
  · obtain ⟨rfl, ⟨rfl, hx⟩ | ⟨rfl, hx, hy⟩⟩ := hx1
    · refine ⟨by decide +kernel, [], ⟨0, 9, 12, 13⟩, [⟨0, 9, 15, 33⟩], rfl, fun z hz => absurd hz List.not_mem_nil, by decide, by decide, lkL_leap_13, ?_⟩
      show HA X _ _ 12 _ _
      refine ha_astore_n (lv' := []) C dL_leap_12 rfl (by rw [hnL]; decide) (fun q hq => absurd hq List.not_mem_nil) ?_
      refine r_iconst C dL_leap_13 ?_
      exact h_iret C T (by decide) (by decide) (Or.inr (Or.inl ⟨rfl, rfl, hx⟩)) dL_leap_14
    · refine ⟨by decide +kernel, [⟨0, 9, 12, 13⟩], ⟨0, 9, 15, 33⟩, [], rfl, fun z hz => by rw [List.mem_singleton.mp hz]; exact ⟨by decide, "java/lang/IndexOutOfBoundsException", by decide +kernel, by decide, lkL_leap_13⟩, by decide, by decide, lkL_leap_33, ?_⟩
      show HA X _ _ 15 _ _
      refine ha_astore_n (lv' := []) C dL_leap_15 rfl (by rw [hnL]; decide) (fun q hq => absurd hq List.not_mem_nil) ?_
      refine r_iconst C dL_leap_16 ?_
      exact h_iret C T (by decide) (by decide) (Or.inr (Or.inr (⟨rfl, rfl, hx, hy⟩))) dL_leap_17
set_option maxHeartbeats 4000000 in
set_option maxRecDepth 100000 in
theorem l_next (S : ST) (hCI : CI S) (hb : iv S 15 2 0 = 0 ∨ iv S 15 2 0 = 1) (hg : -1 ≤ iv S 15 3 0 ∧ iv S 15 3 0 ≤ 39) : CtH yL_next wsL_next 11 1 [vr (some (0, 0)), vr (some (30, 0))] S (fun v1 S1 => (v1 = some (vi 0) ∧ S1 = sa ((advF 0 S).2) 30 0 0 (w32 (advF 0 S).1) ∧ iv S 15 2 0 = 1) ∨ (v1 = some (vi 1) ∧ S1 = S ∧ iv S 15 2 0 = 0)) := by
  refine CtH.of (nL := 3) (hh := [(0, 8, 11, 33)]) (by decide) rfl (Nat.le_of_ble_eq_true rfl) (by decide) (fun X C T hnL => ?_)
  refine r_aload_n C dL_next_0 rfl rfl ?_
  refine r_iconst C dL_next_1 ?_
  refine r_aload_n C dL_next_2 rfl rfl ?_
  refine h_callV (as := []) (na := 0) (rest := [vi 0, vr (some (30, 0))]) C T mid_0 (hp_0 _) rfl (c_next S hCI hb hg) gL_next_X10_next (by decide +kernel) (by decide) (by decide) rfl (Nat.le_of_ble_eq_true rfl) rfl dL_next_3 rfl (by decide) (by decide) (fun v1 S1 hp1 => ?_) (fun E S1 hx1 => ?_)
  · obtain ⟨rfl, e9, hr1⟩ := hp1
    subst S1
    refine r_i2lx C dL_next_6 ?_
    refine r_last (j := 0) C mid_30 (hp_30 _) rfl rfl (by decide) (by decide) (ha_30 _ _ _) dL_next_7 ?_
    refine r_goto (tgt := 14) C dL_next_8 (by decide) ?_
    refine r_iconst C dL_next_14 ?_
    exact h_iret C T (by decide) (by decide) (Or.inl ⟨rfl, rfl, hr1⟩) dL_next_15
  · obtain ⟨rfl, rfl, hx⟩ := hx1
    refine ⟨by decide +kernel, [], ⟨0, 8, 11, 33⟩, [], rfl, fun z hz => absurd hz List.not_mem_nil, by decide, by decide, lkL_next_33, ?_⟩
    show HA X _ _ 11 _ _
    refine ha_astore_n (lv' := []) C dL_next_11 rfl (by rw [hnL]; decide) (fun q hq => absurd hq List.not_mem_nil) ?_
    refine r_iconst C dL_next_12 ?_
    exact h_iret C T (by decide) (by decide) (Or.inr (⟨rfl, rfl, hx⟩)) dL_next_13
set_option maxHeartbeats 4000000 in
set_option maxRecDepth 100000 in
theorem l_readings (S : ST) (hb : iv S 15 2 0 = 0 ∨ iv S 15 2 0 = 1) (hg : -1 ≤ iv S 15 3 0 ∧ iv S 15 3 0 ≤ 39) : CtH yL_readings wsL_readings 8 1 [vr (some (0, 0)), vr (some (30, 0))] S (fun v1 S1 => (v1 = some (vi 0) ∧ S1 = sa (S) 30 0 0 (w32 (iv S 7 0 1)) ∧ iv S 15 2 0 = 1) ∨ (v1 = some (vi 1) ∧ S1 = S ∧ iv S 15 2 0 = 0)) := by
  refine CtH.of (nL := 3) (hh := [(0, 8, 11, 33)]) (by decide) rfl (Nat.le_of_ble_eq_true rfl) (by decide) (fun X C T hnL => ?_)
  refine r_aload_n C dL_readings_0 rfl rfl ?_
  refine r_iconst C dL_readings_1 ?_
  refine r_aload_n C dL_readings_2 rfl rfl ?_
  refine h_callV (as := []) (na := 0) (rest := [vi 0, vr (some (30, 0))]) C T mid_0 (hp_0 _) rfl (c_readings S hb hg) gL_readings_X10_readings (by decide +kernel) (by decide) (by decide) rfl (Nat.le_of_ble_eq_true rfl) rfl dL_readings_3 rfl (by decide) (by decide) (fun v1 S1 hp1 => ?_) (fun E S1 hx1 => ?_)
  · obtain ⟨rfl, e9, hr1⟩ := hp1
    subst S1
    refine r_i2lx C dL_readings_6 ?_
    refine r_last (j := 0) C mid_30 (hp_30 _) rfl rfl (by decide) (by decide) (ha_30 _ _ _) dL_readings_7 ?_
    refine r_goto (tgt := 14) C dL_readings_8 (by decide) ?_
    refine r_iconst C dL_readings_14 ?_
    exact h_iret C T (by decide) (by decide) (Or.inl ⟨rfl, rfl, hr1⟩) dL_readings_15
  · obtain ⟨rfl, rfl, hx⟩ := hx1
    refine ⟨by decide +kernel, [], ⟨0, 8, 11, 33⟩, [], rfl, fun z hz => absurd hz List.not_mem_nil, by decide, by decide, lkL_readings_33, ?_⟩
    show HA X _ _ 11 _ _
    refine ha_astore_n (lv' := []) C dL_readings_11 rfl (by rw [hnL]; decide) (fun q hq => absurd hq List.not_mem_nil) ?_
    refine r_iconst C dL_readings_12 ?_
    exact h_iret C T (by decide) (by decide) (Or.inr (⟨rfl, rfl, hx⟩)) dL_readings_13
