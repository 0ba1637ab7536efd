set_option maxHeartbeats 4000000 in
set_option maxRecDepth 100000 in
theorem n_X1 (q sz : Nat) (e : AC) : CtG yX1_init wsX1_init 1 0 0 [av q] q sz (fun D cy H => CA D cy q e H) (fun D cy H => H.size = sz ∧ CA D cy q e H) := by
  refine CtG.of (nL := 1) "<init>" (by decide) rfl rfl (Nat.le_of_ble_eq_true rfl) (by decide) (fun X D cy C T hnL => ?_)
  have hrm := T.room
  have hn : ∀ j, j < 1 → j < X.2.2.2.2.2 := fun j h => by rw [hnL]; exact h
  refine g_aload_n C dX1_init_0 rfl rfl ?_
  refine g_obj C (by decide +kernel) (by decide +kernel) (by decide +kernel) (by decide) (Nat.le_of_ble_eq_true rfl) dX1_init_1 ?_
  exact g_vret C T (fun H h => ⟨h.1, h.2⟩) dX1_init_4 (by omega) (by omega)
set_option maxHeartbeats 4000000 in
set_option maxRecDepth 100000 in
theorem n_X8 (q sz : Nat) (e : AC) : CtG yX8_init wsX8_init 1 0 0 [av q] q sz (fun D cy H => CA D cy q e H) (fun D cy H => H.size = sz ∧ CA D cy q e H) := by
  refine CtG.of (nL := 1) "<init>" (by decide) rfl rfl (Nat.le_of_ble_eq_true rfl) (by decide) (fun X D cy C T hnL => ?_)
  have hrm := T.room
  have hn : ∀ j, j < 1 → j < X.2.2.2.2.2 := fun j h => by rw [hnL]; exact h
  refine g_aload_n C dX8_init_0 rfl rfl ?_
  refine g_obj C (by decide +kernel) (by decide +kernel) (by decide +kernel) (by decide) (Nat.le_of_ble_eq_true rfl) dX8_init_1 ?_
  exact g_vret C T (fun H h => ⟨h.1, h.2⟩) dX8_init_4 (by omega) (by omega)
set_option maxHeartbeats 4000000 in
set_option maxRecDepth 100000 in
theorem n_X4 (q sz : Nat) (t : Nat) : CtG yX4_init wsX4_init 2 0 0 [av q, av t] q sz (fun D cy H => CA D cy q (.inl (2, [vi 0, vi 0, vi 0, vr none, vl 0, vl 0])) H) (fun D cy H => H.size = sz ∧ CA D cy q (.inl (2, [vi 0, vi 0, vi 0, av t, vl 0, vl 0])) H) := by
  refine CtG.of (nL := 2) "<init>" (by decide) rfl rfl (Nat.le_of_ble_eq_true rfl) (by decide) (fun X D cy C T hnL => ?_)
  have hrm := T.room
  have hn : ∀ j, j < 2 → j < X.2.2.2.2.2 := fun j h => by rw [hnL]; exact h
  refine g_aload_n C dX4_init_0 rfl rfl ?_
  refine g_callN C (as := []) (rest := []) (na := 0) (a := q) (sz := sz) (P' := fun H => H.size = sz ∧ CA D cy q (.inl (2, [vi 0, vi 0, vi 0, vr none, vl 0, vl 0])) H) (fun H h => h) (by first | exact Or.inl rfl | exact Or.inr (by omega)) (by omega) (n_X1 q sz (.inl (2, [vi 0, vi 0, vi 0, vr none, vl 0, vl 0]))) gX4_init_X1_init_n3 (by decide +kernel) (by decide +kernel) (by decide +kernel) rfl (by decide +kernel) (by decide) (by decide) rfl (Nat.le_of_ble_eq_true rfl) rfl dX4_init_1 rfl (by omega) (by omega) (fun H H1 hP z o h1 => ?_) ?_
  · obtain ⟨-, -⟩ := hP
    exact h1
  refine g_aload_n C dX4_init_4 rfl rfl ?_
  refine g_aload_n C dX4_init_5 rfl rfl ?_
  refine g_putf C (Cn := RX4) (T := TX4) (N := 6) (ci := 2) (a := q) (fs := [vi 0, vi 0, vi 0, vr none, vl 0, vl 0]) (v := av t) (P' := fun H => H.size = sz ∧ CA D cy q (.inl (2, [vi 0, vi 0, vi 0, av t, vl 0, vl 0])) H) (fun H h => h.2) (by first | exact Or.inl rfl | exact Or.inr (by omega)) rfl 3 (by decide) (by decide +kernel) (by decide +kernel) (Or.inl rfl) tyX4 tyX4_ok nmX4 (by first | exact Or.inl rfl | exact Or.inr ⟨rfl, rfl⟩) T.name rfl rfl rfl (Nat.le_of_ble_eq_true rfl) dX4_init_6 (fun H H1 hP z o h1 => ?_) ?_
  · obtain ⟨s0, -⟩ := hP
    exact ⟨z.trans s0, h1⟩
  exact g_vret C T (fun H h => h) dX4_init_9 (by omega) (by omega)
set_option maxHeartbeats 4000000 in
set_option maxRecDepth 100000 in
theorem n_X9 (q sz : Nat) (hq : q < sz) : CtG yX9_init wsX9_init 1 1 6 [av q] q sz (fun D cy H => CA D cy q (.inl (7, [vr none, vi 0, vi 0, vi 0, vi 0])) H) (fun D cy H => H.size = sz + 1 ∧ CA D cy q (.inl (7, [av (sz), vi 0, vi 0, vi 0, vi 0])) H ∧ CA D cy sz (.inr (.inl (0, 6, fun _ => 0))) H) := by
  refine CtG.of (nL := 1) "<init>" (by decide) rfl rfl (Nat.le_of_ble_eq_true rfl) (by decide) (fun X D cy C T hnL => ?_)
  have hrm := T.room
  have hn : ∀ j, j < 1 → j < X.2.2.2.2.2 := fun j h => by rw [hnL]; exact h
  refine g_aload_n C dX9_init_0 rfl rfl ?_
  refine g_obj C (by decide +kernel) (by decide +kernel) (by decide +kernel) (by decide) (Nat.le_of_ble_eq_true rfl) dX9_init_1 ?_
  refine g_aload_n C dX9_init_4 rfl rfl ?_
  refine g_bipush C dX9_init_5 (by decide) ?_
  refine g_newi C (t := 0) (N := 6) (h := sz) (ty := .int) (P' := fun H => H.size = sz + 1 ∧ CA D cy q (.inl (7, [vr none, vi 0, vi 0, vi 0, vi 0])) H ∧ CA D cy sz (.inr (.inl (0, 6, fun _ => 0))) H) (fun H h => h.1) (by decide +kernel) rfl rfl (fun U cA h => h) rfl rfl (by decide) (by decide) (by omega) (by omega) dX9_init_7 (fun H H1 hP z o h1 => ?_) ?_
  · obtain ⟨s0, a0⟩ := hP
    exact ⟨z, a0.kept (o q hq), h1⟩
  refine g_putf C (Cn := RX9) (T := TX9) (N := 5) (ci := 7) (a := q) (fs := [vr none, vi 0, vi 0, vi 0, vi 0]) (v := av sz) (P' := fun H => H.size = sz + 1 ∧ CA D cy q (.inl (7, [av (sz), vi 0, vi 0, vi 0, vi 0])) H ∧ CA D cy sz (.inr (.inl (0, 6, fun _ => 0))) H) (fun H h => h.2.1) (by first | exact Or.inl rfl | exact Or.inr (by omega)) rfl 0 (by decide) (by decide +kernel) (by decide +kernel) (Or.inl rfl) tyX9 tyX9_ok nmX9 (by first | exact Or.inl rfl | exact Or.inr ⟨rfl, rfl⟩) T.name rfl rfl rfl (Nat.le_of_ble_eq_true rfl) dX9_init_9 (fun H H1 hP z o h1 => ?_) ?_
  · obtain ⟨s0, -, a1⟩ := hP
    exact ⟨z.trans s0, h1, a1.kept (o sz (by omega))⟩
  exact g_vret C T (fun H h => h) dX9_init_12 (by omega) (by omega)
set_option maxHeartbeats 4000000 in
set_option maxRecDepth 100000 in
theorem n_X0_X2 (q sz : Nat) (hq : q < sz) : CtG yX0_init wsX0_init 2 1 6 [av q] q sz (fun D cy H => CA D cy q (.inl (0, [vr none, vi 0, vi 0, vi 0, vl 0, vi 0, vi 0, vi 0, vr none])) H) (fun D cy H => H.size = sz + 1 ∧ CA D cy q (.inl (0, [av sz, vi 0, vi 0, vi 0, vl 0, vi 0, vi 0, vi 0, vr none])) H ∧ CA D cy sz (.inr (.inr (.inl (2, 6, fun _ => none)))) H) := by
  refine CtG.of (nL := 1) "<init>" (by decide) rfl rfl (Nat.le_of_ble_eq_true rfl) (by decide) (fun X D cy C T hnL => ?_)
  have hrm := T.room
  have hn : ∀ j, j < 1 → j < X.2.2.2.2.2 := fun j h => by rw [hnL]; exact h
  refine g_aload_n C dX0_init_0 rfl rfl ?_
  refine g_callN C (as := []) (rest := []) (na := 0) (a := q) (sz := sz) (P' := fun H => H.size = sz ∧ CA D cy q (.inl (0, [vr none, vi 0, vi 0, vi 0, vl 0, vi 0, vi 0, vi 0, vr none])) H) (fun H h => h) (by first | exact Or.inl rfl | exact Or.inr (by omega)) (by omega) (n_X1 q sz (.inl (0, [vr none, vi 0, vi 0, vi 0, vl 0, vi 0, vi 0, vi 0, vr none]))) gX0_init_X1_init_n3 (by decide +kernel) (by decide +kernel) (by decide +kernel) rfl (by decide +kernel) (by decide) (by decide) rfl (Nat.le_of_ble_eq_true rfl) rfl dX0_init_1 rfl (by omega) (by omega) (fun H H1 hP z o h1 => ?_) ?_
  · obtain ⟨-, -⟩ := hP
    exact h1
  refine g_aload_n C dX0_init_4 rfl rfl ?_
  refine g_bipush C dX0_init_5 (by decide) ?_
  refine g_newq C (Cn := "PostingPlanner$Part") (t := 2) (N := 6) (h := sz) (P' := fun H => H.size = sz + 1 ∧ CA D cy q (.inl (0, [vr none, vi 0, vi 0, vi 0, vl 0, vi 0, vi 0, vi 0, vr none])) H ∧ CA D cy sz (.inr (.inr (.inl (2, 6, fun _ => none)))) H) (fun H h => h.1) (by decide +kernel) (fun U h => h.1.1) rfl rfl (by decide) (by omega) (by omega) dX0_init_7 (fun H H1 hP z o h1 => ?_) ?_
  · obtain ⟨s0, a0⟩ := hP
    exact ⟨z, a0.kept (o q hq), h1⟩
  refine g_putf C (Cn := RX2) (T := TX2) (N := 9) (ci := 0) (a := q) (fs := [vr none, vi 0, vi 0, vi 0, vl 0, vi 0, vi 0, vi 0, vr none]) (v := av sz) (P' := fun H => H.size = sz + 1 ∧ CA D cy q (.inl (0, [av sz, vi 0, vi 0, vi 0, vl 0, vi 0, vi 0, vi 0, vr none])) H ∧ CA D cy sz (.inr (.inr (.inl (2, 6, fun _ => none)))) H) (fun H h => h.2.1) (by first | exact Or.inl rfl | exact Or.inr (by omega)) rfl 0 (by decide) (by decide +kernel) (by decide +kernel) (Or.inl rfl) tyX2 tyX2_ok nmX2 (by first | exact Or.inl rfl | exact Or.inr ⟨rfl, rfl⟩) T.name rfl rfl rfl (Nat.le_of_ble_eq_true rfl) dX0_init_10 (fun H H1 hP z o h1 => ?_) ?_
  · obtain ⟨s0, -, a1⟩ := hP
    exact ⟨z.trans s0, h1, a1.kept (o sz (by omega))⟩
  exact g_vret C T (fun H h => h) dX0_init_13 (by omega) (by omega)
set_option maxHeartbeats 4000000 in
set_option maxRecDepth 100000 in
theorem n_X0_X3 (q sz : Nat) (hq : q < sz) : CtG yX0_init wsX0_init 2 1 6 [av q] q sz (fun D cy H => CA D cy q (.inl (1, [vr none, vi 0, vi 0, vi 0, vl 0, vi 0, vi 0, vi 0, vr none])) H) (fun D cy H => H.size = sz + 1 ∧ CA D cy q (.inl (1, [av sz, vi 0, vi 0, vi 0, vl 0, vi 0, vi 0, vi 0, vr none])) H ∧ CA D cy sz (.inr (.inr (.inl (2, 6, fun _ => none)))) H) := by
  refine CtG.of (nL := 1) "<init>" (by decide) rfl rfl (Nat.le_of_ble_eq_true rfl) (by decide) (fun X D cy C T hnL => ?_)
  have hrm := T.room
  have hn : ∀ j, j < 1 → j < X.2.2.2.2.2 := fun j h => by rw [hnL]; exact h
  refine g_aload_n C dX0_init_0 rfl rfl ?_
  refine g_callN C (as := []) (rest := []) (na := 0) (a := q) (sz := sz) (P' := fun H => H.size = sz ∧ CA D cy q (.inl (1, [vr none, vi 0, vi 0, vi 0, vl 0, vi 0, vi 0, vi 0, vr none])) H) (fun H h => h) (by first | exact Or.inl rfl | exact Or.inr (by omega)) (by omega) (n_X1 q sz (.inl (1, [vr none, vi 0, vi 0, vi 0, vl 0, vi 0, vi 0, vi 0, vr none]))) gX0_init_X1_init_n3 (by decide +kernel) (by decide +kernel) (by decide +kernel) rfl (by decide +kernel) (by decide) (by decide) rfl (Nat.le_of_ble_eq_true rfl) rfl dX0_init_1 rfl (by omega) (by omega) (fun H H1 hP z o h1 => ?_) ?_
  · obtain ⟨-, -⟩ := hP
    exact h1
  refine g_aload_n C dX0_init_4 rfl rfl ?_
  refine g_bipush C dX0_init_5 (by decide) ?_
  refine g_newq C (Cn := "PostingPlanner$Part") (t := 2) (N := 6) (h := sz) (P' := fun H => H.size = sz + 1 ∧ CA D cy q (.inl (1, [vr none, vi 0, vi 0, vi 0, vl 0, vi 0, vi 0, vi 0, vr none])) H ∧ CA D cy sz (.inr (.inr (.inl (2, 6, fun _ => none)))) H) (fun H h => h.1) (by decide +kernel) (fun U h => h.1.1) rfl rfl (by decide) (by omega) (by omega) dX0_init_7 (fun H H1 hP z o h1 => ?_) ?_
  · obtain ⟨s0, a0⟩ := hP
    exact ⟨z, a0.kept (o q hq), h1⟩
  refine g_putf C (Cn := RX3) (T := TX3) (N := 9) (ci := 1) (a := q) (fs := [vr none, vi 0, vi 0, vi 0, vl 0, vi 0, vi 0, vi 0, vr none]) (v := av sz) (P' := fun H => H.size = sz + 1 ∧ CA D cy q (.inl (1, [av sz, vi 0, vi 0, vi 0, vl 0, vi 0, vi 0, vi 0, vr none])) H ∧ CA D cy sz (.inr (.inr (.inl (2, 6, fun _ => none)))) H) (fun H h => h.2.1) (by first | exact Or.inl rfl | exact Or.inr (by omega)) rfl 0 (by decide) (by decide +kernel) (by decide +kernel) (Or.inl rfl) tyX3 tyX3_ok nmX3 (by first | exact Or.inl rfl | exact Or.inr ⟨rfl, rfl⟩) T.name rfl rfl rfl (Nat.le_of_ble_eq_true rfl) dX0_init_10 (fun H H1 hP z o h1 => ?_) ?_
  · obtain ⟨s0, -, a1⟩ := hP
    exact ⟨z.trans s0, h1, a1.kept (o sz (by omega))⟩
  exact g_vret C T (fun H h => h) dX0_init_13 (by omega) (by omega)
/-- a clause of a plan at b, its tally at t, its rank r -/
def CL (D : va_G) (cy : Nat → ClassId) (b t : Nat) (r : Int) (H : Heap) : Prop := CA D cy b (.inl (1, [av (b + 1), vi 0, vi 0, vi 0, vl 0, vi r, vi 0, vi 0, av (b + 2)])) H ∧ CA D cy (b + 1) (.inr (.inr (.inl (2, 6, fun _ => none)))) H ∧ CA D cy (b + 2) (.inr (.inr (.inl (4, 6, fun j => some (0, b + 3 + j))))) H ∧ ∀ j, j < 6 → CA D cy (b + 3 + j) (.inl (2, [vi 0, vi 0, vi 0, av t, vl 0, vl 0])) H
theorem CL.kept {D : va_G} {cy : Nat → ClassId} {b t : Nat} {r : Int} {H H1 : Heap} (h : CL D cy b t r H) (o : ∀ x, b ≤ x → x < b + 9 → H1[x]? = H[x]?) : CL D cy b t r H1 := ⟨h.1.kept (o _ (by omega) (by omega)), h.2.1.kept (o _ (by omega) (by omega)), h.2.2.1.kept (o _ (by omega) (by omega)), fun j hj => (h.2.2.2 j hj).kept (o _ (by omega) (by omega))⟩
set_option maxHeartbeats 4000000 in
set_option maxRecDepth 100000 in
theorem n_X3 (q t : Nat) (r : Int) (hr : -2147483648 ≤ r ∧ r < 2147483648) : CtG yX3_init wsX3_init 3 8 48 [av q, vi r, av t] q (q + 1) (fun D cy H => CA D cy q (.inl (1, [vr none, vi 0, vi 0, vi 0, vl 0, vi 0, vi 0, vi 0, vr none])) H) (fun D cy H => H.size = q + 9 ∧ CL D cy q t r H) := by
  refine CtG.of (nL := 4) "<init>" (by decide) rfl rfl (Nat.le_of_ble_eq_true rfl) (by decide) (fun X D cy C T hnL => ?_)
  have hrm := T.room
  have hn : ∀ j, j < 4 → j < X.2.2.2.2.2 := fun j h => by rw [hnL]; exact h
  refine g_aload_n C dX3_init_0 rfl rfl ?_
  refine g_callI C (as := []) (rest := []) (na := 0) (a := q) (sz := q + 1) (P' := fun H => H.size = q + 2 ∧ CA D cy q (.inl (1, [av (q + 1), vi 0, vi 0, vi 0, vl 0, vi 0, vi 0, vi 0, vr none])) H ∧ CA D cy (q + 1) (.inr (.inr (.inl (2, 6, fun _ => none)))) H) (fun H h => h) (by first | exact Or.inl rfl | exact Or.inr (by omega)) (by omega) (n_X0_X3 q (q + 1) (by omega)) gX3_init_X0_init (by decide +kernel) (by decide +kernel) (by decide +kernel) rfl (by decide +kernel) (by decide) (by decide) rfl (Nat.le_of_ble_eq_true rfl) rfl dX3_init_1 rfl (by omega) (by omega) (fun H H1 hP z o h1 => ?_) ?_
  · obtain ⟨-, -⟩ := hP
    exact h1
  refine g_aload_n C dX3_init_4 rfl rfl ?_
  refine g_iload_n C dX3_init_5 rfl rfl ?_
  refine g_putf C (ref := RX3) (Cn := RX3) (T := TX3) (N := 9) (ci := 1) (a := q) (fs := [av (q + 1), vi 0, vi 0, vi 0, vl 0, vi 0, vi 0, vi 0, vr none]) (v := vi r) (P' := fun H => H.size = q + 2 ∧ CA D cy q (.inl (1, [av (q + 1), vi 0, vi 0, vi 0, vl 0, vi r, vi 0, vi 0, vr none])) H ∧ CA D cy (q + 1) (.inr (.inr (.inl (2, 6, fun _ => none)))) H) (fun H h => h.2.1) (by first | exact Or.inl rfl | exact Or.inr (by omega)) rfl 5 (by decide) (by decide +kernel) (by decide +kernel) (Or.inr (by decide +kernel)) tyX3 tyX3_ok nmX3 (by first | exact Or.inl rfl | exact Or.inr ⟨rfl, rfl⟩) T.name rfl rfl rfl (Nat.le_of_ble_eq_true rfl) dX3_init_6 (fun H H1 hP z o h1 => ?_) ?_
  · obtain ⟨s0, -, a1⟩ := hP
    exact ⟨z.trans s0, h1, a1.kept (o _ (by omega))⟩
  refine g_aload_n C dX3_init_9 rfl rfl ?_
  refine g_bipush C dX3_init_10 (by decide) ?_
  refine g_newq C (Cn := "PostingPlanner$PlannedLiteral") (t := 4) (N := 6) (h := q + 2) (P' := fun H => H.size = q + 3 ∧ CA D cy q (.inl (1, [av (q + 1), vi 0, vi 0, vi 0, vl 0, vi r, vi 0, vi 0, vr none])) H ∧ CA D cy (q + 1) (.inr (.inr (.inl (2, 6, fun _ => none)))) H ∧ CA D cy (q + 2) (.inr (.inr (.inl (4, 6, fun _ => none)))) H) (fun H h => h.1) (by decide +kernel) (fun U h => h.1.2.2.1) rfl rfl (by decide) (by omega) (by omega) dX3_init_12 (fun H H1 hP z o h1 => ?_) ?_
  · obtain ⟨s0, a0, a1⟩ := hP
    exact ⟨z, a0.kept (o _ (by omega)), a1.kept (o _ (by omega)), h1⟩
  refine g_putf C (Cn := RX3) (T := TX3) (N := 9) (ci := 1) (a := q) (fs := [av (q + 1), vi 0, vi 0, vi 0, vl 0, vi r, vi 0, vi 0, vr none]) (v := av (q + 2)) (P' := fun H => H.size = q + 3 ∧ CA D cy q (.inl (1, [av (q + 1), vi 0, vi 0, vi 0, vl 0, vi r, vi 0, vi 0, av (q + 2)])) H ∧ CA D cy (q + 1) (.inr (.inr (.inl (2, 6, fun _ => none)))) H ∧ CA D cy (q + 2) (.inr (.inr (.inl (4, 6, fun _ => none)))) H) (fun H h => h.2.1) (by first | exact Or.inl rfl | exact Or.inr (by omega)) rfl 8 (by decide) (by decide +kernel) (by decide +kernel) (Or.inl rfl) tyX3 tyX3_ok nmX3 (by first | exact Or.inl rfl | exact Or.inr ⟨rfl, rfl⟩) T.name rfl rfl rfl (Nat.le_of_ble_eq_true rfl) dX3_init_15 (fun H H1 hP z o h1 => ?_) ?_
  · obtain ⟨s0, -, a1, a2⟩ := hP
    exact ⟨z.trans s0, h1, a1.kept (o _ (by omega)), a2.kept (o _ (by omega))⟩
  refine g_iconst C dX3_init_18 ?_
  refine g_istore_n (lv' := [(3, vi ((0 : Nat) : Int)), (0, av q), (1, vi r), (2, av t)]) C dX3_init_19 rfl (hn _ (by decide)) rfl ?_
  refine Gt_cs (c' := 2 + 0) (s' := 12 + 6 * 0) (by omega) (by omega) ?_
  have loop : ∀ (f i : Nat), 6 - i < f → i ≤ 6 → Gt X (2 + i) (12 + 6 * i) 20 [(3, vi (i : Int)), (0, av q), (1, vi r), (2, av t)] [] (fun H => H.size = q + 3 + i ∧ CA D cy q (.inl (1, [av (q + 1), vi 0, vi 0, vi 0, vl 0, vi r, vi 0, vi 0, av (q + 2)])) H ∧ CA D cy (q + 1) (.inr (.inr (.inl (2, 6, fun _ => none)))) H ∧ CA D cy (q + 2) (.inr (.inr (.inl (4, 6, fun j => if j < i then some (0, q + 3 + j) else none)))) H ∧ ∀ j, j < i → CA D cy (q + 3 + j) (.inl (2, [vi 0, vi 0, vi 0, av t, vl 0, vl 0])) H) := by
    intro f
    induction f with
    | zero => intro i h; omega
    | succ f ih =>
      intro i hf hi
      refine g_iload_n C dX3_init_20 rfl rfl ?_
      refine g_aload_n C dX3_init_21 rfl rfl ?_
      refine g_getf C (Cn := RX3) (T := TX3) (N := 9) (ci := 1) (a := q) (fs := [av (q + 1), vi 0, vi 0, vi 0, vl 0, vi r, vi 0, vi 0, av (q + 2)]) (fun H h => h.2.1) rfl 8 (by decide) (by decide +kernel) (by decide +kernel) (Or.inl rfl) rfl dX3_init_22 ?_
      refine g_alen C (fun H h => h.2.2.2.1) rfl dX3_init_25 ?_
      refine g_icmp_ge (tgt := 49) C dX3_init_26 (by decide) (by omega) (by omega) (fun h9 => ?_) (fun h9 => ?_)
      · have hi6 : i = 6 := by omega
        subst hi6
        refine g_vret C T (fun H h => ?_) dX3_init_49 (by omega) (by omega)
        obtain ⟨s0, a0, a1, a2, a3⟩ := h
        exact ⟨s0, a0, a1, a2.cgq (fun j hj => if_pos hj), a3⟩
      refine g_aload_n C dX3_init_29 rfl rfl ?_
      refine g_getf C (Cn := RX3) (T := TX3) (N := 9) (ci := 1) (a := q) (fs := [av (q + 1), vi 0, vi 0, vi 0, vl 0, vi r, vi 0, vi 0, av (q + 2)]) (fun H h => h.2.1) rfl 8 (by decide) (by decide +kernel) (by decide +kernel) (Or.inl rfl) rfl dX3_init_30 ?_
      refine g_iload_n C dX3_init_33 rfl rfl ?_
      refine g_new C (Cn := RX4) (T := TX4) (N := 6) (ci := 2) (h := q + 3 + i) (fs := [vi 0, vi 0, vi 0, vr none, vl 0, vl 0]) (P' := fun H => H.size = q + 3 + i + 1 ∧ CA D cy q (.inl (1, [av (q + 1), vi 0, vi 0, vi 0, vl 0, vi r, vi 0, vi 0, av (q + 2)])) H ∧ CA D cy (q + 1) (.inr (.inr (.inl (2, 6, fun _ => none)))) H ∧ CA D cy (q + 2) (.inr (.inr (.inl (4, 6, fun j => if j < i then some (0, q + 3 + j) else none)))) H ∧ (∀ j, j < i → CA D cy (q + 3 + j) (.inl (2, [vi 0, vi 0, vi 0, av t, vl 0, vl 0])) H) ∧ CA D cy (q + 3 + i) (.inl (2, [vi 0, vi 0, vi 0, vr none, vl 0, vl 0])) H) (fun H h => h.1) rfl (by decide +kernel) tyX4 tyX4_ok (by decide +kernel) (by decide +kernel) (by decide +kernel) (fun j hj => by (iterate 6 (rcases j with _ | j; · rfl)); omega) (by omega) (by omega) dX3_init_34 (fun H H1 hP z o h1 => ?_) ?_
      · obtain ⟨s0, a0, a1, a2, a3⟩ := hP
        exact ⟨z, a0.kept (o _ (by omega)), a1.kept (o _ (by omega)), a2.kept (o _ (by omega)), fun j hj => (a3 j hj).kept (o _ (by omega)), h1⟩
      refine g_dup C rfl dX3_init_37 ?_
      refine g_aload_n C dX3_init_38 rfl rfl ?_
      refine g_callI C (as := [av t]) (rest := [av (q + 3 + i), vi (i : Int), av (q + 2)]) (na := 1) (a := q + 3 + i) (sz := q + 3 + i + 1) (P' := fun H => H.size = q + 3 + i + 1 ∧ CA D cy q (.inl (1, [av (q + 1), vi 0, vi 0, vi 0, vl 0, vi r, vi 0, vi 0, av (q + 2)])) H ∧ CA D cy (q + 1) (.inr (.inr (.inl (2, 6, fun _ => none)))) H ∧ CA D cy (q + 2) (.inr (.inr (.inl (4, 6, fun j => if j < i then some (0, q + 3 + j) else none)))) H ∧ (∀ j, j < i → CA D cy (q + 3 + j) (.inl (2, [vi 0, vi 0, vi 0, av t, vl 0, vl 0])) H) ∧ CA D cy (q + 3 + i) (.inl (2, [vi 0, vi 0, vi 0, av t, vl 0, vl 0])) H) (fun H h => ⟨h.1, h.2.2.2.2.2⟩) (by first | exact Or.inl rfl | exact Or.inr (by omega)) (by omega) (n_X4 (q + 3 + i) (q + 3 + i + 1) t) gX3_init_X4_init (by decide +kernel) (by decide +kernel) (by decide +kernel) rfl (by decide +kernel) (by decide) (by decide) rfl (Nat.le_of_ble_eq_true rfl) rfl dX3_init_39 rfl (by omega) (by omega) (fun H H1 hP z o h1 => ?_) ?_
      · obtain ⟨s0, a0, a1, a2, a3, -⟩ := hP
        exact ⟨h1.1, a0.kept (o _ (by omega) (by omega)), a1.kept (o _ (by omega) (by omega)), a2.kept (o _ (by omega) (by omega)), fun j hj => (a3 j hj).kept (o _ (by omega) (by omega)), h1.2⟩
      refine g_aast C (j := i) (v := q + 3 + i) (ci := 2) (P' := fun H => H.size = q + 3 + i + 1 ∧ CA D cy q (.inl (1, [av (q + 1), vi 0, vi 0, vi 0, vl 0, vi r, vi 0, vi 0, av (q + 2)])) H ∧ CA D cy (q + 1) (.inr (.inr (.inl (2, 6, fun _ => none)))) H ∧ CA D cy (q + 2) (.inr (.inr (.inl (4, 6, fun j => if j < i + 1 then some (0, q + 3 + j) else none)))) H ∧ ∀ j, j < i + 1 → CA D cy (q + 3 + j) (.inl (2, [vi 0, vi 0, vi 0, av t, vl 0, vl 0])) H) (fun H h => h.2.2.2.1) (by first | exact Or.inl rfl | exact Or.inr (by omega)) rfl rfl (fun H h => h.2.2.2.2.2) rfl (by omega) (by decide) dX3_init_42 (fun H H1 hP z o h1 => ?_) ?_
      · obtain ⟨s0, a0, a1, a2, a3, a4⟩ := hP
        exact ⟨z.trans s0, a0.kept (o _ (by omega)), a1.kept (o _ (by omega)), h1.cgq (fun j hj => by unfold upF; by_cases e : j = i <;> by_cases e2 : j < i <;> simp [e, e2] <;> omega), fun j hj => (Nat.lt_or_ge j i).elim (fun h => (a3 j h).kept (o _ (by omega))) (fun h => by cases (show j = i from by omega); exact a4.kept (o _ (by omega)))⟩
      refine g_iinc (z := (i : Int)) (lv' := [(3, vi (((i + 1 : Nat)) : Int)), (0, av q), (1, vi r), (2, av t)]) C dX3_init_43 rfl (hn _ (by decide)) rfl ?_
      refine g_goto (tgt := 20) C dX3_init_46 (by decide) ?_
      exact Gt_cs (by omega) (by omega) (Gt_mono (fun H h => h) (ih (i + 1) (by omega) (by omega)))
  exact Gt_mono (fun H h => ⟨h.1, h.2.1, h.2.2.1, h.2.2.2, fun j hj => absurd hj (Nat.not_lt_zero j)⟩) (loop 7 0 (by omega) (by omega))
