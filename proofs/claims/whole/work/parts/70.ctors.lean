/-- a plan at q, what is its own from sz, its tally at t -/
def PL (D : va_G) (cy : Nat → ClassId) (q sz t : Nat) (H : Heap) : Prop := CA D cy q (.inl (0, [av sz, vi 0, vi 0, vi 0, vl 0, vi 0, vi 0, vi 0, av (sz + 1)])) H ∧ CA D cy sz (.inr (.inr (.inl (2, 6, fun _ => none)))) H ∧ CA D cy (sz + 1) (.inr (.inr (.inl (3, 5, fun j => some (0, sz + 2 + 9 * j))))) H ∧ ∀ j, j < 5 → CL D cy (sz + 2 + 9 * j) t ((j : Nat) : Int) H
theorem PL.kept {D : va_G} {cy : Nat → ClassId} {q sz t : Nat} {H H1 : Heap} (h : PL D cy q sz t H) (o : ∀ x, x = q ∨ (sz ≤ x ∧ x < sz + 47) → H1[x]? = H[x]?) : PL D cy q sz t H1 := ⟨h.1.kept (o _ (Or.inl rfl)), h.2.1.kept (o _ (by omega)), h.2.2.1.kept (o _ (by omega)), fun j hj => (h.2.2.2 j hj).kept (fun x h1 h2 => o x (by omega))⟩
def QS (D : va_G) (cy : Nat → ClassId) (q sz : Nat) (H : Heap) : Prop := CA D cy q (.inl (3, [av sz, vi 0, vi 0, vi 0])) H ∧ CA D cy sz (.inr (.inr (.inl (5, 5, fun j => some (0, sz + 1 + 2 * j))))) H ∧ ∀ j, j < 5 → CA D cy (sz + 1 + 2 * j) (.inl (7, [av (sz + 1 + 2 * j + 1), vi 0, vi 0, vi 0, vi 0])) H ∧ CA D cy (sz + 1 + 2 * j + 1) (.inr (.inl (0, 6, fun _ => 0))) H
theorem QS.kept {D : va_G} {cy : Nat → ClassId} {q sz : Nat} {H H1 : Heap} (h : QS D cy q sz H) (o : ∀ x, x = q ∨ (sz ≤ x ∧ x < sz + 11) → H1[x]? = H[x]?) : QS D cy q sz H1 := ⟨h.1.kept (o _ (Or.inl rfl)), h.2.1.kept (o _ (by omega)), fun j hj => ⟨(h.2.2 j hj).1.kept (o _ (by omega)), (h.2.2 j hj).2.kept (o _ (by omega))⟩⟩
def RNs (D : va_G) (cy : Nat → ClassId) (q sz : Nat) (H : Heap) : Prop := CA D cy q (.inl (4, [av sz, av (sz + 1), vi 0, vi 0])) H ∧ CA D cy sz (.inl (6, [vi 0])) H ∧ PL D cy (sz + 1) (sz + 2) sz H
theorem RNs.kept {D : va_G} {cy : Nat → ClassId} {q sz : Nat} {H H1 : Heap} (h : RNs D cy q sz H) (o : ∀ x, x = q ∨ (sz ≤ x ∧ x < sz + 49) → H1[x]? = H[x]?) : RNs D cy q sz H1 := ⟨h.1.kept (o _ (Or.inl rfl)), h.2.1.kept (o _ (by omega)), h.2.2.kept (fun x hx => o x (by omega))⟩
set_option maxHeartbeats 4000000 in
set_option maxRecDepth 100000 in
theorem n_X2 (q sz : Nat) (t : Nat) (hq : q < sz) : CtG yX2_init wsX2_init 4 47 296 [av q, av t] q sz (fun D cy H => CA D cy q (.inl (0, [vr none, vi 0, vi 0, vi 0, vl 0, vi 0, vi 0, vi 0, vr none])) H) (fun D cy H => H.size = sz + 47 ∧ PL D cy q sz t H) := by
  refine CtG.of (nL := 3) "<init>" (by decide) rfl rfl (Nat.le_of_ble_eq_true rfl) (by decide) (fun X D cy C T hnL => ?_)
  have hrm := T.room
  have hn : ∀ j, j < 3 → j < X.2.2.2.2.2 := fun j h => by rw [hnL]; exact h
  refine g_aload_n C dX2_init_0 rfl rfl ?_
  refine g_callI C (as := []) (rest := []) (na := 0) (a := q) (sz := sz) (P' := fun H => H.size = sz + 1 ∧ CA D cy (q) (.inl (0, [av sz, vi 0, vi 0, vi 0, vl 0, vi 0, vi 0, vi 0, vr none])) H ∧ CA D cy (sz) (.inr (.inr (.inl (2, 6, fun _ => none)))) H) (fun H h => h) (by first | exact Or.inl rfl | exact Or.inr (by omega)) (by omega) (n_X0_X2 q sz hq) gX2_init_X0_init (by decide +kernel) (by decide +kernel) (by decide +kernel) rfl (by decide +kernel) (by decide) (by decide) rfl (Nat.le_of_ble_eq_true rfl) rfl dX2_init_1 rfl (by omega) (by omega) (fun H H1 hP z o h1 => ?_) ?_
  · obtain ⟨s0, -⟩ := hP
    exact ⟨h1.1, h1.2.1, h1.2.2⟩
  refine g_aload_n C dX2_init_4 rfl rfl ?_
  refine g_iconst C dX2_init_5 ?_
  refine g_newq C (Cn := "PostingPlanner$PlannedClause") (t := 3) (N := 5) (h := sz + 1) (P' := fun H => H.size = sz + 2 ∧ CA D cy (q) (.inl (0, [av sz, vi 0, vi 0, vi 0, vl 0, vi 0, vi 0, vi 0, vr none])) H ∧ CA D cy (sz) (.inr (.inr (.inl (2, 6, fun _ => none)))) H ∧ CA D cy (sz + 1) (.inr (.inr (.inl (3, 5, fun _ => none)))) H) (fun H h => h.1) (by decide +kernel) (fun U h => h.1.2.1) rfl rfl (by decide) (by omega) (by omega) dX2_init_6 (fun H H1 hP z o h1 => ?_) ?_
  · obtain ⟨s0, a0, a1⟩ := hP
    exact ⟨z, a0.kept (o _ (by omega)), a1.kept (o _ (by omega)), h1⟩
  refine g_putf C (Cn := RX2) (T := TX2) (N := 9) (ci := 0) (a := q) (fs := [av sz, vi 0, vi 0, vi 0, vl 0, vi 0, vi 0, vi 0, vr none]) (v := av (sz + 1)) (P' := fun H => H.size = sz + 2 ∧ CA D cy (q) (.inl (0, [av sz, vi 0, vi 0, vi 0, vl 0, vi 0, vi 0, vi 0, av (sz + 1)])) H ∧ CA D cy (sz) (.inr (.inr (.inl (2, 6, fun _ => none)))) H ∧ CA D cy (sz + 1) (.inr (.inr (.inl (3, 5, fun _ => none)))) H) (fun H h => h.2.1) (by first | exact Or.inl rfl | exact Or.inr (by omega)) rfl 8 (by decide) (by decide +kernel) (by decide +kernel) (Or.inl rfl) tyX2 tyX2_ok nmX2 (by first | exact Or.inl rfl | exact Or.inr ⟨rfl, rfl⟩) T.name rfl rfl rfl (Nat.le_of_ble_eq_true rfl) dX2_init_9 (fun H H1 hP z o h1 => ?_) ?_
  · obtain ⟨s0, -, a1, a2⟩ := hP
    exact ⟨z.trans s0, h1, a1.kept (o _ (by omega)), a2.kept (o _ (by omega))⟩
  refine g_iconst C dX2_init_12 ?_
  refine g_istore_n (lv' := [(2, vi (((0 : Nat) : Int))), (0, av q), (1, av t)]) C dX2_init_13 rfl (hn _ (by decide)) rfl ?_
  refine Gt_cs (c' := 2 + 9 * 0) (s' := 11 + 57 * 0) (by omega) (by omega) ?_
  have loop : ∀ (f i : Nat), 5 - i < f → i ≤ 5 → Gt X (2 + 9 * i) (11 + 57 * i) 14 [(2, vi ((i : Int))), (0, av q), (1, av t)] [] (fun H => H.size = sz + 2 + 9 * (i) ∧ CA D cy (q) (.inl (0, [av sz, vi 0, vi 0, vi 0, vl 0, vi 0, vi 0, vi 0, av (sz + 1)])) H ∧ CA D cy (sz) (.inr (.inr (.inl (2, 6, fun _ => none)))) H ∧ CA D cy (sz + 1) (.inr (.inr (.inl (3, 5, fun j => if j < i then some (0, sz + 2 + 9 * j) else none)))) H ∧ (∀ j, j < i → CL D cy (sz + 2 + 9 * j) t ((j : Nat) : Int) H)) := by
    intro f
    induction f with
    | zero => intro i h; omega
    | succ f ih =>
      intro i hf hi
      refine g_iload_n C dX2_init_14 rfl rfl ?_
      refine g_aload_n C dX2_init_15 rfl rfl ?_
      refine g_getf C (Cn := RX2) (T := TX2) (N := 9) (ci := 0) (a := q) (fs := [av sz, vi 0, vi 0, vi 0, vl 0, vi 0, vi 0, vi 0, av (sz + 1)]) (fun H h => h.2.1) rfl 8 (by decide) (by decide +kernel) (by decide +kernel) (Or.inl rfl) rfl dX2_init_16 ?_
      refine g_alen C (fun H h => h.2.2.2.1) rfl dX2_init_19 ?_
      refine g_icmp_ge (tgt := 44) C dX2_init_20 (by decide) (by omega) (by omega) (fun h9 => ?_) (fun h9 => ?_)
      · have hi5 : i = 5 := by omega
        subst hi5
        refine g_vret C T (fun H h => ?_) dX2_init_44 (by omega) (by omega)
        obtain ⟨s0, a0, a1, a2, a3⟩ := h
        exact ⟨s0, a0, a1, a2.cgq (fun j hj => if_pos hj), a3⟩
      refine g_aload_n C dX2_init_23 rfl rfl ?_
      refine g_getf C (Cn := RX2) (T := TX2) (N := 9) (ci := 0) (a := q) (fs := [av sz, vi 0, vi 0, vi 0, vl 0, vi 0, vi 0, vi 0, av (sz + 1)]) (fun H h => h.2.1) rfl 8 (by decide) (by decide +kernel) (by decide +kernel) (Or.inl rfl) rfl dX2_init_24 ?_
      refine g_iload_n C dX2_init_27 rfl rfl ?_
      refine g_new C (Cn := RX3) (T := TX3) (N := 9) (ci := 1) (h := sz + 2 + 9 * i) (fs := [vr none, vi 0, vi 0, vi 0, vl 0, vi 0, vi 0, vi 0, vr none]) (P' := fun H => H.size = sz + 2 + 9 * i + 1 ∧ CA D cy (q) (.inl (0, [av sz, vi 0, vi 0, vi 0, vl 0, vi 0, vi 0, vi 0, av (sz + 1)])) H ∧ CA D cy (sz) (.inr (.inr (.inl (2, 6, fun _ => none)))) H ∧ CA D cy (sz + 1) (.inr (.inr (.inl (3, 5, fun j => if j < i then some (0, sz + 2 + 9 * j) else none)))) H ∧ (∀ j, j < i → CL D cy (sz + 2 + 9 * j) t ((j : Nat) : Int) H) ∧ CA D cy (sz + 2 + 9 * i) (.inl (1, [vr none, vi 0, vi 0, vi 0, vl 0, vi 0, vi 0, vi 0, vr none])) H) (fun H h => h.1) rfl (by decide +kernel) tyX3 tyX3_ok (by decide +kernel) (by decide +kernel) (by decide +kernel) (fun j hj => by (iterate 9 (rcases j with _ | j; · rfl)); omega) (by omega) (by omega) dX2_init_28 (fun H H1 hP z o h1 => ?_) ?_
      · obtain ⟨s0, a0, a1, a2, a3⟩ := hP
        exact ⟨z, a0.kept (o _ (by omega)), a1.kept (o _ (by omega)), a2.kept (o _ (by omega)), fun j hj => (a3 j hj).kept (fun x h1 h2 => o x (by omega)), h1⟩
      refine g_dup C rfl dX2_init_31 ?_
      refine g_iload_n C dX2_init_32 rfl rfl ?_
      refine g_aload_n C dX2_init_33 rfl rfl ?_
      refine g_callI C (as := [vi (i : Int), av t]) (rest := [av (sz + 2 + 9 * i), vi (i : Int), av (sz + 1)]) (na := 2) (a := sz + 2 + 9 * i) (sz := sz + 2 + 9 * i + 1) (P' := fun H => H.size = sz + 2 + 9 * i + 9 ∧ CA D cy (q) (.inl (0, [av sz, vi 0, vi 0, vi 0, vl 0, vi 0, vi 0, vi 0, av (sz + 1)])) H ∧ CA D cy (sz) (.inr (.inr (.inl (2, 6, fun _ => none)))) H ∧ CA D cy (sz + 1) (.inr (.inr (.inl (3, 5, fun j => if j < i then some (0, sz + 2 + 9 * j) else none)))) H ∧ (∀ j, j < i → CL D cy (sz + 2 + 9 * j) t ((j : Nat) : Int) H) ∧ CL D cy (sz + 2 + 9 * i) t (i : Int) H) (fun H h => ⟨h.1, h.2.2.2.2.2⟩) (by first | exact Or.inl rfl | exact Or.inr (by omega)) (by omega) (n_X3 (sz + 2 + 9 * i) t (i : Int) (by omega)) gX2_init_X3_init (by decide +kernel) (by decide +kernel) (by decide +kernel) rfl (by decide +kernel) (by decide) (by decide) rfl (Nat.le_of_ble_eq_true rfl) rfl dX2_init_34 rfl (by omega) (by omega) (fun H H1 hP z o h1 => ?_) ?_
      · obtain ⟨s0, a0, a1, a2, a3, -⟩ := hP
        exact ⟨h1.1, a0.kept (o _ (by omega) (by omega)), a1.kept (o _ (by omega) (by omega)), a2.kept (o _ (by omega) (by omega)), fun j hj => (a3 j hj).kept (fun x h1 h2 => o x (by omega) (by omega)), h1.2⟩
      refine g_aast C (j := i) (v := sz + 2 + 9 * i) (ci := 1) (P' := fun H => H.size = sz + 2 + 9 * (i + 1) ∧ CA D cy (q) (.inl (0, [av sz, vi 0, vi 0, vi 0, vl 0, vi 0, vi 0, vi 0, av (sz + 1)])) H ∧ CA D cy (sz) (.inr (.inr (.inl (2, 6, fun _ => none)))) H ∧ CA D cy (sz + 1) (.inr (.inr (.inl (3, 5, fun j => if j < i + 1 then some (0, sz + 2 + 9 * j) else none)))) H ∧ (∀ j, j < i + 1 → CL D cy (sz + 2 + 9 * j) t ((j : Nat) : Int) H)) (fun H h => h.2.2.2.1) (by first | exact Or.inl rfl | exact Or.inr (by omega)) rfl rfl (fun H h => h.2.2.2.2.2.1) rfl (by omega) (by decide) dX2_init_37 (fun H H1 hP z o h1 => ?_) ?_
      · obtain ⟨s0, a0, a1, -, a3, a4⟩ := hP
        exact ⟨by omega, a0.kept (o _ (by omega)), a1.kept (o _ (by omega)), h1.cgq (fun j hj => by unfold upF; by_cases e : j = i <;> by_cases e2 : j < i <;> simp [e, e2] <;> omega), fun j hj => (Nat.lt_or_ge j i).elim (fun h => (a3 j h).kept (fun x h1 h2 => o x (by omega))) (fun h => by cases (show j = i from by omega); exact a4.kept (fun x h1 h2 => o x (by omega)))⟩
      refine g_iinc (z := (i : Int)) (lv' := [(2, vi ((((i + 1 : Nat)) : Int))), (0, av q), (1, av t)]) C dX2_init_38 rfl (hn _ (by decide)) rfl ?_
      refine g_goto (tgt := 14) C dX2_init_41 (by decide) ?_
      exact Gt_cs (by omega) (by omega) (ih (i + 1) (by omega) (by omega))
  exact Gt_mono (fun H h => ⟨h.1, h.2.1, h.2.2.1, h.2.2.2, fun j hj => absurd hj (Nat.not_lt_zero j)⟩) (loop 6 0 (by omega) (by omega))
set_option maxHeartbeats 4000000 in
set_option maxRecDepth 100000 in
theorem n_X5 (q sz : Nat) (hq : q < sz) : CtG yX5_init wsX5_init 2 11 60 [av q] q sz (fun D cy H => CA D cy q (.inl (3, [vr none, vi 0, vi 0, vi 0])) H) (fun D cy H => H.size = sz + 11 ∧ QS D cy q sz H) := by
  refine CtG.of (nL := 2) "<init>" (by decide) rfl rfl (Nat.le_of_ble_eq_true rfl) (by decide) (fun X D cy C T hnL => ?_)
  have hrm := T.room
  have hn : ∀ j, j < 2 → j < X.2.2.2.2.2 := fun j h => by rw [hnL]; exact h
  refine g_aload_n C dX5_init_0 rfl rfl ?_
  refine g_obj C (by decide +kernel) (by decide +kernel) (by decide +kernel) (by decide) (Nat.le_of_ble_eq_true rfl) dX5_init_1 ?_
  refine g_aload_n C dX5_init_4 rfl rfl ?_
  refine g_iconst C dX5_init_5 ?_
  refine g_newq C (Cn := "PostingPlanner$ToldClause") (t := 5) (N := 5) (h := sz) (P' := fun H => H.size = sz + 1 ∧ CA D cy (q) (.inl (3, [vr none, vi 0, vi 0, vi 0])) H ∧ CA D cy (sz) (.inr (.inr (.inl (5, 5, fun _ => none)))) H) (fun H h => h.1) (by decide +kernel) (fun U h => h.1.2.2.2) rfl rfl (by decide) (by omega) (by omega) dX5_init_6 (fun H H1 hP z o h1 => ?_) ?_
  · obtain ⟨s0, a0⟩ := hP
    exact ⟨z, a0.kept (o _ (by omega)), h1⟩
  refine g_putf C (Cn := RX5) (T := TX5) (N := 4) (ci := 3) (a := q) (fs := [vr none, vi 0, vi 0, vi 0]) (v := av sz) (P' := fun H => H.size = sz + 1 ∧ CA D cy (q) (.inl (3, [av sz, vi 0, vi 0, vi 0])) H ∧ CA D cy (sz) (.inr (.inr (.inl (5, 5, fun _ => none)))) H) (fun H h => h.2.1) (by first | exact Or.inl rfl | exact Or.inr (by omega)) rfl 0 (by decide) (by decide +kernel) (by decide +kernel) (Or.inl rfl) tyX5 tyX5_ok nmX5 (by first | exact Or.inl rfl | exact Or.inr ⟨rfl, rfl⟩) T.name rfl rfl rfl (Nat.le_of_ble_eq_true rfl) dX5_init_9 (fun H H1 hP z o h1 => ?_) ?_
  · obtain ⟨s0, -, a1⟩ := hP
    exact ⟨z.trans s0, h1, a1.kept (o _ (by omega))⟩
  refine g_iconst C dX5_init_12 ?_
  refine g_istore_n (lv' := [(1, vi (((0 : Nat) : Int))), (0, av q)]) C dX5_init_13 rfl (hn _ (by decide)) rfl ?_
  refine Gt_cs (c' := 1 + 2 * 0) (s' := 5 + 11 * 0) (by omega) (by omega) ?_
  have loop : ∀ (f i : Nat), 5 - i < f → i ≤ 5 → Gt X (1 + 2 * i) (5 + 11 * i) 14 [(1, vi ((i : Int))), (0, av q)] [] (fun H => H.size = sz + 1 + 2 * (i) ∧ CA D cy (q) (.inl (3, [av sz, vi 0, vi 0, vi 0])) H ∧ CA D cy (sz) (.inr (.inr (.inl (5, 5, fun j => if j < i then some (0, sz + 1 + 2 * j) else none)))) H ∧ (∀ j, j < i → CA D cy (sz + 1 + 2 * j) (.inl (7, [av (sz + 1 + 2 * j + 1), vi 0, vi 0, vi 0, vi 0])) H ∧ CA D cy (sz + 1 + 2 * j + 1) (.inr (.inl (0, 6, fun _ => 0))) H)) := by
    intro f
    induction f with
    | zero => intro i h; omega
    | succ f ih =>
      intro i hf hi
      refine g_iload_n C dX5_init_14 rfl rfl ?_
      refine g_aload_n C dX5_init_15 rfl rfl ?_
      refine g_getf C (Cn := RX5) (T := TX5) (N := 4) (ci := 3) (a := q) (fs := [av sz, vi 0, vi 0, vi 0]) (fun H h => h.2.1) rfl 0 (by decide) (by decide +kernel) (by decide +kernel) (Or.inl rfl) rfl dX5_init_16 ?_
      refine g_alen C (fun H h => h.2.2.1) rfl dX5_init_19 ?_
      refine g_icmp_ge (tgt := 42) C dX5_init_20 (by decide) (by omega) (by omega) (fun h9 => ?_) (fun h9 => ?_)
      · have hi5 : i = 5 := by omega
        subst hi5
        refine g_aload_n C dX5_init_42 rfl rfl ?_
        refine g_iconst C dX5_init_43 ?_
        refine g_putf C (Cn := RX5) (T := TX5) (N := 4) (ci := 3) (a := q) (fs := [av sz, vi 0, vi 0, vi 0]) (v := vi 0) (P' := fun H => H.size = sz + 1 + 2 * (5) ∧ CA D cy (q) (.inl (3, [av sz, vi 0, vi 0, vi 0])) H ∧ CA D cy (sz) (.inr (.inr (.inl (5, 5, fun j => if j < 5 then some (0, sz + 1 + 2 * j) else none)))) H ∧ (∀ j, j < 5 → CA D cy (sz + 1 + 2 * j) (.inl (7, [av (sz + 1 + 2 * j + 1), vi 0, vi 0, vi 0, vi 0])) H ∧ CA D cy (sz + 1 + 2 * j + 1) (.inr (.inl (0, 6, fun _ => 0))) H)) (fun H h => h.2.1) (by first | exact Or.inl rfl | exact Or.inr (by omega)) rfl 1 (by decide) (by decide +kernel) (by decide +kernel) (Or.inl rfl) tyX5 tyX5_ok nmX5 (by first | exact Or.inl rfl | exact Or.inr ⟨rfl, rfl⟩) T.name rfl rfl rfl (Nat.le_of_ble_eq_true rfl) dX5_init_44 (fun H H1 hP z o h1 => ?_) ?_
        · obtain ⟨s0, -, a1, a2⟩ := hP
          exact ⟨z.trans s0, h1, a1.kept (o _ (by omega)), fun j hj => ⟨(a2 j hj).1.kept (o _ (by omega)), (a2 j hj).2.kept (o _ (by omega))⟩⟩
        refine g_vret C T (fun H h => ?_) dX5_init_47 (by omega) (by omega)
        obtain ⟨s0, a0, a1, a2⟩ := h
        exact ⟨s0, a0, a1.cgq (fun j hj => if_pos hj), a2⟩
      refine g_aload_n C dX5_init_23 rfl rfl ?_
      refine g_getf C (Cn := RX5) (T := TX5) (N := 4) (ci := 3) (a := q) (fs := [av sz, vi 0, vi 0, vi 0]) (fun H h => h.2.1) rfl 0 (by decide) (by decide +kernel) (by decide +kernel) (Or.inl rfl) rfl dX5_init_24 ?_
      refine g_iload_n C dX5_init_27 rfl rfl ?_
      refine g_new C (Cn := RX9) (T := TX9) (N := 5) (ci := 7) (h := sz + 1 + 2 * i) (fs := [vr none, vi 0, vi 0, vi 0, vi 0]) (P' := fun H => H.size = sz + 1 + 2 * i + 1 ∧ CA D cy (q) (.inl (3, [av sz, vi 0, vi 0, vi 0])) H ∧ CA D cy (sz) (.inr (.inr (.inl (5, 5, fun j => if j < i then some (0, sz + 1 + 2 * j) else none)))) H ∧ (∀ j, j < i → CA D cy (sz + 1 + 2 * j) (.inl (7, [av (sz + 1 + 2 * j + 1), vi 0, vi 0, vi 0, vi 0])) H ∧ CA D cy (sz + 1 + 2 * j + 1) (.inr (.inl (0, 6, fun _ => 0))) H) ∧ CA D cy (sz + 1 + 2 * i) (.inl (7, [vr none, vi 0, vi 0, vi 0, vi 0])) H) (fun H h => h.1) rfl (by decide +kernel) tyX9 tyX9_ok (by decide +kernel) (by decide +kernel) (by decide +kernel) (fun j hj => by (iterate 5 (rcases j with _ | j; · rfl)); omega) (by omega) (by omega) dX5_init_28 (fun H H1 hP z o h1 => ?_) ?_
      · obtain ⟨s0, a0, a1, a2⟩ := hP
        exact ⟨z, a0.kept (o _ (by omega)), a1.kept (o _ (by omega)), fun j hj => ⟨(a2 j hj).1.kept (o _ (by omega)), (a2 j hj).2.kept (o _ (by omega))⟩, h1⟩
      refine g_dup C rfl dX5_init_31 ?_
      refine g_callI C (as := []) (rest := [av (sz + 1 + 2 * i), vi (i : Int), av sz]) (na := 0) (a := sz + 1 + 2 * i) (sz := sz + 1 + 2 * i + 1) (P' := fun H => H.size = sz + 1 + 2 * i + 1 + 1 ∧ CA D cy (q) (.inl (3, [av sz, vi 0, vi 0, vi 0])) H ∧ CA D cy (sz) (.inr (.inr (.inl (5, 5, fun j => if j < i then some (0, sz + 1 + 2 * j) else none)))) H ∧ (∀ j, j < i → CA D cy (sz + 1 + 2 * j) (.inl (7, [av (sz + 1 + 2 * j + 1), vi 0, vi 0, vi 0, vi 0])) H ∧ CA D cy (sz + 1 + 2 * j + 1) (.inr (.inl (0, 6, fun _ => 0))) H) ∧ CA D cy (sz + 1 + 2 * i) (.inl (7, [av (sz + 1 + 2 * i + 1), vi 0, vi 0, vi 0, vi 0])) H ∧ CA D cy (sz + 1 + 2 * i + 1) (.inr (.inl (0, 6, fun _ => 0))) H) (fun H h => ⟨h.1, h.2.2.2.2⟩) (by first | exact Or.inl rfl | exact Or.inr (by omega)) (by omega) (n_X9 (sz + 1 + 2 * i) (sz + 1 + 2 * i + 1) (by omega)) gX5_init_X9_init (by decide +kernel) (by decide +kernel) (by decide +kernel) rfl (by decide +kernel) (by decide) (by decide) rfl (Nat.le_of_ble_eq_true rfl) rfl dX5_init_32 rfl (by omega) (by omega) (fun H H1 hP z o h1 => ?_) ?_
      · obtain ⟨s0, a0, a1, a2, -⟩ := hP
        exact ⟨h1.1, a0.kept (o _ (by omega) (by omega)), a1.kept (o _ (by omega) (by omega)), fun j hj => ⟨(a2 j hj).1.kept (o _ (by omega) (by omega)), (a2 j hj).2.kept (o _ (by omega) (by omega))⟩, h1.2.1, h1.2.2⟩
      refine g_aast C (j := i) (v := sz + 1 + 2 * i) (ci := 7) (P' := fun H => H.size = sz + 1 + 2 * (i + 1) ∧ CA D cy (q) (.inl (3, [av sz, vi 0, vi 0, vi 0])) H ∧ CA D cy (sz) (.inr (.inr (.inl (5, 5, fun j => if j < i + 1 then some (0, sz + 1 + 2 * j) else none)))) H ∧ (∀ j, j < i + 1 → CA D cy (sz + 1 + 2 * j) (.inl (7, [av (sz + 1 + 2 * j + 1), vi 0, vi 0, vi 0, vi 0])) H ∧ CA D cy (sz + 1 + 2 * j + 1) (.inr (.inl (0, 6, fun _ => 0))) H)) (fun H h => h.2.2.1) (by first | exact Or.inl rfl | exact Or.inr (by omega)) rfl rfl (fun H h => h.2.2.2.2.1) rfl (by omega) (by decide) dX5_init_35 (fun H H1 hP z o h1 => ?_) ?_
      · obtain ⟨s0, a0, -, a2, a3, a4⟩ := hP
        exact ⟨by omega, a0.kept (o _ (by omega)), h1.cgq (fun j hj => by unfold upF; by_cases e : j = i <;> by_cases e2 : j < i <;> simp [e, e2] <;> omega), fun j hj => (Nat.lt_or_ge j i).elim (fun h => ⟨(a2 j h).1.kept (o _ (by omega)), (a2 j h).2.kept (o _ (by omega))⟩) (fun h => by cases (show j = i from by omega); exact ⟨a3.kept (o _ (by omega)), a4.kept (o _ (by omega))⟩)⟩
      refine g_iinc (z := (i : Int)) (lv' := [(1, vi ((((i + 1 : Nat)) : Int))), (0, av q)]) C dX5_init_36 rfl (hn _ (by decide)) rfl ?_
      refine g_goto (tgt := 14) C dX5_init_39 (by decide) ?_
      exact Gt_cs (by omega) (by omega) (ih (i + 1) (by omega) (by omega))
  exact Gt_mono (fun H h => ⟨h.1, h.2.1, h.2.2, fun j hj => absurd hj (Nat.not_lt_zero j)⟩) (loop 6 0 (by omega) (by omega))
set_option maxHeartbeats 4000000 in
set_option maxRecDepth 100000 in
theorem n_X6 (q sz : Nat) (hq : q < sz) : CtG yX6_init wsX6_init 5 49 306 [av q] q sz (fun D cy H => CA D cy q (.inl (4, [vr none, vr none, vi 0, vi 0])) H) (fun D cy H => H.size = sz + 49 ∧ RNs D cy q sz H) := by
  refine CtG.of (nL := 1) "<init>" (by decide) rfl rfl (Nat.le_of_ble_eq_true rfl) (by decide) (fun X D cy C T hnL => ?_)
  have hrm := T.room
  have hn : ∀ j, j < 1 → j < X.2.2.2.2.2 := fun j h => by rw [hnL]; exact h
  refine g_aload_n C dX6_init_0 rfl rfl ?_
  refine g_obj C (by decide +kernel) (by decide +kernel) (by decide +kernel) (by decide) (Nat.le_of_ble_eq_true rfl) dX6_init_1 ?_
  refine g_aload_n C dX6_init_4 rfl rfl ?_
  refine g_new C (Cn := RX8) (T := TX8) (N := 1) (ci := 6) (h := sz) (fs := [vi 0]) (P' := fun H => H.size = sz + 1 ∧ CA D cy (q) (.inl (4, [vr none, vr none, vi 0, vi 0])) H ∧ CA D cy (sz) (.inl (6, [vi 0])) H) (fun H h => h.1) rfl (by decide +kernel) tyX8 tyX8_ok (by decide +kernel) (by decide +kernel) (by decide +kernel) (fun j hj => by (iterate 1 (rcases j with _ | j; · rfl)); omega) (by omega) (by omega) dX6_init_5 (fun H H1 hP z o h1 => ?_) ?_
  · obtain ⟨s0, a0⟩ := hP
    exact ⟨z, a0.kept (o _ (by omega)), h1⟩
  refine g_dup C rfl dX6_init_8 ?_
  refine g_callN C (as := []) (rest := [av sz, av q]) (na := 0) (a := sz) (sz := sz + 1) (P' := fun H => H.size = sz + 1 ∧ CA D cy (q) (.inl (4, [vr none, vr none, vi 0, vi 0])) H ∧ CA D cy (sz) (.inl (6, [vi 0])) H) (fun H h => ⟨h.1, h.2.2⟩) (by first | exact Or.inl rfl | exact Or.inr (by omega)) (by omega) (n_X8 sz (sz + 1) (.inl (6, [vi 0]))) gX6_init_X8_init_n11 (by decide +kernel) (by decide +kernel) (by decide +kernel) rfl (by decide +kernel) (by decide) (by decide) rfl (Nat.le_of_ble_eq_true rfl) rfl dX6_init_9 rfl (by omega) (by omega) (fun H H1 hP z o h1 => ?_) ?_
  · obtain ⟨s0, a0, -⟩ := hP
    exact ⟨h1.1, a0.kept (o _ (by omega) (by omega)), h1.2⟩
  refine g_putf C (Cn := RX6) (T := TX6) (N := 4) (ci := 4) (a := q) (fs := [vr none, vr none, vi 0, vi 0]) (v := av sz) (P' := fun H => H.size = sz + 1 ∧ CA D cy (q) (.inl (4, [av sz, vr none, vi 0, vi 0])) H ∧ CA D cy (sz) (.inl (6, [vi 0])) H) (fun H h => h.2.1) (by first | exact Or.inl rfl | exact Or.inr (by omega)) rfl 0 (by decide) (by decide +kernel) (by decide +kernel) (Or.inl rfl) tyX6 tyX6_ok nmX6 (by first | exact Or.inl rfl | exact Or.inr ⟨rfl, rfl⟩) T.name rfl rfl rfl (Nat.le_of_ble_eq_true rfl) dX6_init_12 (fun H H1 hP z o h1 => ?_) ?_
  · obtain ⟨s0, -, a1⟩ := hP
    exact ⟨z.trans s0, h1, a1.kept (o _ (by omega))⟩
  refine g_aload_n C dX6_init_15 rfl rfl ?_
  refine g_new C (Cn := RX2) (T := TX2) (N := 9) (ci := 0) (h := sz + 1) (fs := [vr none, vi 0, vi 0, vi 0, vl 0, vi 0, vi 0, vi 0, vr none]) (P' := fun H => H.size = sz + 2 ∧ CA D cy (q) (.inl (4, [av sz, vr none, vi 0, vi 0])) H ∧ CA D cy (sz) (.inl (6, [vi 0])) H ∧ CA D cy (sz + 1) (.inl (0, [vr none, vi 0, vi 0, vi 0, vl 0, vi 0, vi 0, vi 0, vr none])) H) (fun H h => h.1) rfl (by decide +kernel) tyX2 tyX2_ok (by decide +kernel) (by decide +kernel) (by decide +kernel) (fun j hj => by (iterate 9 (rcases j with _ | j; · rfl)); omega) (by omega) (by omega) dX6_init_16 (fun H H1 hP z o h1 => ?_) ?_
  · obtain ⟨s0, a0, a1⟩ := hP
    exact ⟨z, a0.kept (o _ (by omega)), a1.kept (o _ (by omega)), h1⟩
  refine g_dup C rfl dX6_init_19 ?_
  refine g_aload_n C dX6_init_20 rfl rfl ?_
  refine g_getf C (Cn := RX6) (T := TX6) (N := 4) (ci := 4) (a := q) (fs := [av sz, vr none, vi 0, vi 0]) (fun H h => h.2.1) rfl 0 (by decide) (by decide +kernel) (by decide +kernel) (Or.inl rfl) rfl dX6_init_21 ?_
  refine g_callI C (as := [av sz]) (rest := [av (sz + 1), av q]) (na := 1) (a := sz + 1) (sz := sz + 2) (P' := fun H => H.size = sz + 49 ∧ CA D cy (q) (.inl (4, [av sz, vr none, vi 0, vi 0])) H ∧ CA D cy (sz) (.inl (6, [vi 0])) H ∧ PL D cy (sz + 1) (sz + 2) sz H) (fun H h => ⟨h.1, h.2.2.2⟩) (by first | exact Or.inl rfl | exact Or.inr (by omega)) (by omega) (n_X2 (sz + 1) (sz + 2) sz (by omega)) gX6_init_X2_init (by decide +kernel) (by decide +kernel) (by decide +kernel) rfl (by decide +kernel) (by decide) (by decide) rfl (Nat.le_of_ble_eq_true rfl) rfl dX6_init_24 rfl (by omega) (by omega) (fun H H1 hP z o h1 => ?_) ?_
  · obtain ⟨s0, a0, a1, -⟩ := hP
    exact ⟨h1.1, a0.kept (o _ (by omega) (by omega)), a1.kept (o _ (by omega) (by omega)), h1.2⟩
  refine g_putf C (Cn := RX6) (T := TX6) (N := 4) (ci := 4) (a := q) (fs := [av sz, vr none, vi 0, vi 0]) (v := av (sz + 1)) (P' := fun H => H.size = sz + 49 ∧ CA D cy (q) (.inl (4, [av sz, av (sz + 1), vi 0, vi 0])) H ∧ CA D cy (sz) (.inl (6, [vi 0])) H ∧ PL D cy (sz + 1) (sz + 2) sz H) (fun H h => h.2.1) (by first | exact Or.inl rfl | exact Or.inr (by omega)) rfl 1 (by decide) (by decide +kernel) (by decide +kernel) (Or.inl rfl) tyX6 tyX6_ok nmX6 (by first | exact Or.inl rfl | exact Or.inr ⟨rfl, rfl⟩) T.name rfl rfl rfl (Nat.le_of_ble_eq_true rfl) dX6_init_27 (fun H H1 hP z o h1 => ?_) ?_
  · obtain ⟨s0, -, a1, a2⟩ := hP
    exact ⟨z.trans s0, h1, a1.kept (o _ (by omega)), a2.kept (fun x hx => o x (by omega))⟩
  exact g_vret C T (fun H h => h) dX6_init_30 (by omega) (by omega)
set_option maxHeartbeats 4000000 in
set_option maxRecDepth 100000 in
theorem n_fill (q sz : Nat) : CtG yJ7_fill_53178 wsJ7_fill_53178 1 0 0 [av q, vi (-1)] q sz (fun D cy H => CA D cy q (.inr (.inl (0, 40, fun _ => 0))) H) (fun D cy H => H.size = sz ∧ CA D cy q (.inr (.inl (0, 40, fun _ => -1))) H) := by
  refine CtG.of (nL := 4) "fill" (by decide) rfl rfl (Nat.le_of_ble_eq_true rfl) (by decide) (fun X D cy C T hnL => ?_)
  have hrm := T.room
  have hn : ∀ j, j < 4 → j < X.2.2.2.2.2 := fun j h => by rw [hnL]; exact h
  refine g_iconst C dJ7_fill_53178_0 ?_
  refine g_istore_n (lv' := [(2, vi ((0 : Nat) : Int)), (0, av q), (1, vi (-1))]) C dJ7_fill_53178_1 rfl (hn _ (by decide)) rfl ?_
  refine g_aload_n C dJ7_fill_53178_2 rfl rfl ?_
  refine g_aleni C (fun H h => h.2) rfl dJ7_fill_53178_3 ?_
  refine g_istore_n (lv' := [(3, vi ((40 : Nat) : Int)), (2, vi ((0 : Nat) : Int)), (0, av q), (1, vi (-1))]) C dJ7_fill_53178_4 rfl (hn _ (by decide)) rfl ?_
  refine Gt_lv (lv' := [(2, vi ((0 : Nat) : Int)), (3, vi ((40 : Nat) : Int)), (0, av q), (1, vi (-1))]) (by simp) ?_
  have loop : ∀ (f i : Nat), 40 - i < f → i ≤ 40 → Gt X 0 0 5 [(2, vi (i : Int)), (3, vi ((40 : Nat) : Int)), (0, av q), (1, vi (-1))] [] (fun H => H.size = sz ∧ CA D cy q (.inr (.inl (0, 40, fun j => if j < i then -1 else 0))) H) := by
    intro f
    induction f with
    | zero => intro i h; omega
    | succ f ih =>
      intro i hf hi
      refine g_iload_n C dJ7_fill_53178_5 rfl rfl ?_
      refine g_iload_n C dJ7_fill_53178_6 rfl rfl ?_
      refine g_icmp_ge (tgt := 20) C dJ7_fill_53178_7 (by decide) (by omega) (by omega) (fun h9 => ?_) (fun h9 => ?_)
      · have hi5 : i = 40 := by omega
        subst hi5
        exact g_vret C T (fun H h => ⟨h.1, h.2.cgi (fun j hj => if_pos hj)⟩) dJ7_fill_53178_20 (by omega) (by omega)
      refine g_aload_n C dJ7_fill_53178_10 rfl rfl ?_
      refine g_iload_n C dJ7_fill_53178_11 rfl rfl ?_
      refine g_iload_n C dJ7_fill_53178_12 rfl rfl ?_
      refine g_iast C (j := i) (P' := fun H => H.size = sz ∧ CA D cy q (.inr (.inl (0, 40, fun j => if j < i + 1 then -1 else 0))) H) (fun H h => h.2) (Or.inl rfl) rfl (by omega) (by decide) dJ7_fill_53178_13 (fun H H1 hP z o h1 => ⟨z.trans hP.1, h1.cgi (fun j hj => by unfold upF; by_cases e : j = i <;> by_cases e2 : j < i <;> simp [e, e2] <;> omega)⟩) ?_
      refine g_iinc (z := (i : Int)) (lv' := [(2, vi (((i + 1 : Nat)) : Int)), (3, vi ((40 : Nat) : Int)), (0, av q), (1, vi (-1))]) C dJ7_fill_53178_14 rfl (hn _ (by decide)) rfl ?_
      refine g_goto (tgt := 5) C dJ7_fill_53178_17 (by decide) ?_
      exact ih (i + 1) (by omega) (by omega)
  exact Gt_mono (fun H h => h) (loop 41 0 (by omega) (by omega))
set_option maxHeartbeats 4000000 in
set_option maxRecDepth 100000 in
theorem n_X7 (q sz : Nat) (hq : q < sz) : CtG yX7_init wsX7_init 2 1 40 [av q] q sz (fun D cy H => CA D cy q (.inl (5, [vr none])) H) (fun D cy H => H.size = sz + 1 ∧ CA D cy q (.inl (5, [av sz])) H ∧ CA D cy sz (.inr (.inl (0, 40, fun _ => -1))) H) := by
  refine CtG.of (nL := 1) "<init>" (by decide) rfl rfl (Nat.le_of_ble_eq_true rfl) (by decide) (fun X D cy C T hnL => ?_)
  have hrm := T.room
  have hn : ∀ j, j < 1 → j < X.2.2.2.2.2 := fun j h => by rw [hnL]; exact h
  refine g_aload_n C dX7_init_0 rfl rfl ?_
  refine g_obj C (by decide +kernel) (by decide +kernel) (by decide +kernel) (by decide) (Nat.le_of_ble_eq_true rfl) dX7_init_1 ?_
  refine g_aload_n C dX7_init_4 rfl rfl ?_
  refine g_bipush C dX7_init_5 (by decide) ?_
  refine g_newi C (t := 0) (N := 40) (h := sz) (ty := .int) (P' := fun H => H.size = sz + 1 ∧ CA D cy (q) (.inl (5, [vr none])) H ∧ CA D cy (sz) (.inr (.inl (0, 40, fun _ => 0))) H) (fun H h => h.1) (by decide +kernel) rfl rfl (fun U cA h => h) rfl rfl (by decide) (by decide) (by omega) (by omega) dX7_init_7 (fun H H1 hP z o h1 => ?_) ?_
  · obtain ⟨s0, a0⟩ := hP
    exact ⟨z, a0.kept (o _ (by omega)), h1⟩
  refine g_putf C (Cn := RX7) (T := TX7) (N := 1) (ci := 5) (a := q) (fs := [vr none]) (v := av sz) (P' := fun H => H.size = sz + 1 ∧ CA D cy (q) (.inl (5, [av sz])) H ∧ CA D cy (sz) (.inr (.inl (0, 40, fun _ => 0))) H) (fun H h => h.2.1) (by first | exact Or.inl rfl | exact Or.inr (by omega)) rfl 0 (by decide) (by decide +kernel) (by decide +kernel) (Or.inl rfl) tyX7 tyX7_ok nmX7 (by first | exact Or.inl rfl | exact Or.inr ⟨rfl, rfl⟩) T.name rfl rfl rfl (Nat.le_of_ble_eq_true rfl) dX7_init_9 (fun H H1 hP z o h1 => ?_) ?_
  · obtain ⟨s0, -, a1⟩ := hP
    exact ⟨z.trans s0, h1, a1.kept (o _ (by omega))⟩
  refine g_aload_n C dX7_init_12 rfl rfl ?_
  refine g_getf C (Cn := RX7) (T := TX7) (N := 1) (ci := 5) (a := q) (fs := [av sz]) (fun H h => h.2.1) rfl 0 (by decide) (by decide +kernel) (by decide +kernel) (Or.inl rfl) rfl dX7_init_13 ?_
  refine g_iconst C dX7_init_16 ?_
  refine g_callS C (as := [av sz, vi (-1)]) (rest := []) (na := 2) (a := sz) (sz := sz + 1) (P' := fun H => H.size = sz + 1 ∧ CA D cy (q) (.inl (5, [av sz])) H ∧ CA D cy (sz) (.inr (.inl (0, 40, fun _ => -1))) H) (fun H h => ⟨h.1, h.2.2⟩) (by first | exact Or.inl rfl | exact Or.inr (by omega)) (by omega) (n_fill sz (sz + 1)) gX7_init_J7_fill_53178 (by decide +kernel) (by decide) (by decide) rfl (Nat.le_of_ble_eq_true rfl) rfl dX7_init_17 rfl (by omega) (by omega) (fun H H1 hP z o h1 => ?_) ?_
  · obtain ⟨s0, a0, -⟩ := hP
    exact ⟨h1.1, a0.kept (o _ (by omega) (by omega)), h1.2⟩
  exact g_vret C T (fun H h => h) dX7_init_20 (by omega) (by omega)
set_option maxHeartbeats 4000000 in
set_option maxRecDepth 100000 in
theorem n_X10 (q sz : Nat) (hq : q < sz) : CtG yX10_init wsX10_init 6 113 721 [av q] q sz (fun D cy H => CA D cy q (.inl (8, [vr none, vr none, vr none, vr none])) H) (fun D cy H => H.size = sz + 113 ∧ CA D cy (q) (.inl (8, [av sz, av (sz + 2), av (sz + 14), av (sz + 63)])) H ∧ CA D cy (sz) (.inl (5, [av (sz + 1)])) H ∧ CA D cy (sz + 1) (.inr (.inl (0, 40, fun _ => -1))) H ∧ QS D cy (sz + 2) (sz + 3) H ∧ PL D cy (sz + 14) (sz + 16) (sz + 15) H ∧ CA D cy (sz + 15) (.inl (6, [vi 0])) H ∧ RNs D cy (sz + 63) (sz + 64) H) := by
  refine CtG.of (nL := 1) "<init>" (by decide) rfl rfl (Nat.le_of_ble_eq_true rfl) (by decide) (fun X D cy C T hnL => ?_)
  have hrm := T.room
  have hn : ∀ j, j < 1 → j < X.2.2.2.2.2 := fun j h => by rw [hnL]; exact h
  refine g_aload_n C dX10_init_0 rfl rfl ?_
  refine g_obj C (by decide +kernel) (by decide +kernel) (by decide +kernel) (by decide) (Nat.le_of_ble_eq_true rfl) dX10_init_1 ?_
  refine g_aload_n C dX10_init_4 rfl rfl ?_
  refine g_new C (Cn := RX7) (T := TX7) (N := 1) (ci := 5) (h := sz) (fs := [vr none]) (P' := fun H => H.size = sz + 1 ∧ CA D cy (q) (.inl (8, [vr none, vr none, vr none, vr none])) H ∧ CA D cy (sz) (.inl (5, [vr none])) H) (fun H h => h.1) rfl (by decide +kernel) tyX7 tyX7_ok (by decide +kernel) (by decide +kernel) (by decide +kernel) (fun j hj => by (iterate 1 (rcases j with _ | j; · rfl)); omega) (by omega) (by omega) dX10_init_5 (fun H H1 hP z o h1 => ?_) ?_
  · obtain ⟨s0, a0⟩ := hP
    exact ⟨z, a0.kept (o _ (by omega)), h1⟩
  refine g_dup C rfl dX10_init_8 ?_
  refine g_callI C (as := []) (rest := [av sz, av q]) (na := 0) (a := sz) (sz := sz + 1) (P' := fun H => H.size = sz + 2 ∧ CA D cy (q) (.inl (8, [vr none, vr none, vr none, vr none])) H ∧ CA D cy (sz) (.inl (5, [av (sz + 1)])) H ∧ CA D cy (sz + 1) (.inr (.inl (0, 40, fun _ => -1))) H) (fun H h => ⟨h.1, h.2.2⟩) (by first | exact Or.inl rfl | exact Or.inr (by omega)) (by omega) (n_X7 sz (sz + 1) (by omega)) gX10_init_X7_init (by decide +kernel) (by decide +kernel) (by decide +kernel) rfl (by decide +kernel) (by decide) (by decide) rfl (Nat.le_of_ble_eq_true rfl) rfl dX10_init_9 rfl (by omega) (by omega) (fun H H1 hP z o h1 => ?_) ?_
  · obtain ⟨s0, a0, -⟩ := hP
    exact ⟨h1.1, a0.kept (o _ (by omega) (by omega)), h1.2.1, h1.2.2⟩
  refine g_putf C (Cn := RX10) (T := TX10) (N := 4) (ci := 8) (a := q) (fs := [vr none, vr none, vr none, vr none]) (v := av sz) (P' := fun H => H.size = sz + 2 ∧ CA D cy (q) (.inl (8, [av sz, vr none, vr none, vr none])) H ∧ CA D cy (sz) (.inl (5, [av (sz + 1)])) H ∧ CA D cy (sz + 1) (.inr (.inl (0, 40, fun _ => -1))) H) (fun H h => h.2.1) (by first | exact Or.inl rfl | exact Or.inr (by omega)) rfl 0 (by decide) (by decide +kernel) (by decide +kernel) (Or.inl rfl) tyX10 tyX10_ok nmX10 (by first | exact Or.inl rfl | exact Or.inr ⟨rfl, rfl⟩) T.name rfl rfl rfl (Nat.le_of_ble_eq_true rfl) dX10_init_12 (fun H H1 hP z o h1 => ?_) ?_
  · obtain ⟨s0, -, a1, a2⟩ := hP
    exact ⟨z.trans s0, h1, a1.kept (o _ (by omega)), a2.kept (o _ (by omega))⟩
  refine g_aload_n C dX10_init_15 rfl rfl ?_
  refine g_new C (Cn := RX5) (T := TX5) (N := 4) (ci := 3) (h := sz + 2) (fs := [vr none, vi 0, vi 0, vi 0]) (P' := fun H => H.size = sz + 3 ∧ CA D cy (q) (.inl (8, [av sz, vr none, vr none, vr none])) H ∧ CA D cy (sz) (.inl (5, [av (sz + 1)])) H ∧ CA D cy (sz + 1) (.inr (.inl (0, 40, fun _ => -1))) H ∧ CA D cy (sz + 2) (.inl (3, [vr none, vi 0, vi 0, vi 0])) H) (fun H h => h.1) rfl (by decide +kernel) tyX5 tyX5_ok (by decide +kernel) (by decide +kernel) (by decide +kernel) (fun j hj => by (iterate 4 (rcases j with _ | j; · rfl)); omega) (by omega) (by omega) dX10_init_16 (fun H H1 hP z o h1 => ?_) ?_
  · obtain ⟨s0, a0, a1, a2⟩ := hP
    exact ⟨z, a0.kept (o _ (by omega)), a1.kept (o _ (by omega)), a2.kept (o _ (by omega)), h1⟩
  refine g_dup C rfl dX10_init_19 ?_
  refine g_callI C (as := []) (rest := [av (sz + 2), av q]) (na := 0) (a := sz + 2) (sz := sz + 3) (P' := fun H => H.size = sz + 14 ∧ CA D cy (q) (.inl (8, [av sz, vr none, vr none, vr none])) H ∧ CA D cy (sz) (.inl (5, [av (sz + 1)])) H ∧ CA D cy (sz + 1) (.inr (.inl (0, 40, fun _ => -1))) H ∧ QS D cy (sz + 2) (sz + 3) H) (fun H h => ⟨h.1, h.2.2.2.2⟩) (by first | exact Or.inl rfl | exact Or.inr (by omega)) (by omega) (n_X5 (sz + 2) (sz + 3) (by omega)) gX10_init_X5_init (by decide +kernel) (by decide +kernel) (by decide +kernel) rfl (by decide +kernel) (by decide) (by decide) rfl (Nat.le_of_ble_eq_true rfl) rfl dX10_init_20 rfl (by omega) (by omega) (fun H H1 hP z o h1 => ?_) ?_
  · obtain ⟨s0, a0, a1, a2, -⟩ := hP
    exact ⟨h1.1, a0.kept (o _ (by omega) (by omega)), a1.kept (o _ (by omega) (by omega)), a2.kept (o _ (by omega) (by omega)), h1.2⟩
  refine g_putf C (Cn := RX10) (T := TX10) (N := 4) (ci := 8) (a := q) (fs := [av sz, vr none, vr none, vr none]) (v := av (sz + 2)) (P' := fun H => H.size = sz + 14 ∧ CA D cy (q) (.inl (8, [av sz, av (sz + 2), vr none, vr none])) H ∧ CA D cy (sz) (.inl (5, [av (sz + 1)])) H ∧ CA D cy (sz + 1) (.inr (.inl (0, 40, fun _ => -1))) H ∧ QS D cy (sz + 2) (sz + 3) H) (fun H h => h.2.1) (by first | exact Or.inl rfl | exact Or.inr (by omega)) rfl 1 (by decide) (by decide +kernel) (by decide +kernel) (Or.inl rfl) tyX10 tyX10_ok nmX10 (by first | exact Or.inl rfl | exact Or.inr ⟨rfl, rfl⟩) T.name rfl rfl rfl (Nat.le_of_ble_eq_true rfl) dX10_init_23 (fun H H1 hP z o h1 => ?_) ?_
  · obtain ⟨s0, -, a1, a2, a3⟩ := hP
    exact ⟨z.trans s0, h1, a1.kept (o _ (by omega)), a2.kept (o _ (by omega)), a3.kept (fun x hx => o x (by omega))⟩
  refine g_aload_n C dX10_init_26 rfl rfl ?_
  refine g_new C (Cn := RX2) (T := TX2) (N := 9) (ci := 0) (h := sz + 14) (fs := [vr none, vi 0, vi 0, vi 0, vl 0, vi 0, vi 0, vi 0, vr none]) (P' := fun H => H.size = sz + 15 ∧ CA D cy (q) (.inl (8, [av sz, av (sz + 2), vr none, vr none])) H ∧ CA D cy (sz) (.inl (5, [av (sz + 1)])) H ∧ CA D cy (sz + 1) (.inr (.inl (0, 40, fun _ => -1))) H ∧ QS D cy (sz + 2) (sz + 3) H ∧ CA D cy (sz + 14) (.inl (0, [vr none, vi 0, vi 0, vi 0, vl 0, vi 0, vi 0, vi 0, vr none])) H) (fun H h => h.1) rfl (by decide +kernel) tyX2 tyX2_ok (by decide +kernel) (by decide +kernel) (by decide +kernel) (fun j hj => by (iterate 9 (rcases j with _ | j; · rfl)); omega) (by omega) (by omega) dX10_init_27 (fun H H1 hP z o h1 => ?_) ?_
  · obtain ⟨s0, a0, a1, a2, a3⟩ := hP
    exact ⟨z, a0.kept (o _ (by omega)), a1.kept (o _ (by omega)), a2.kept (o _ (by omega)), a3.kept (fun x hx => o x (by omega)), h1⟩
  refine g_dup C rfl dX10_init_30 ?_
  refine g_new C (Cn := RX8) (T := TX8) (N := 1) (ci := 6) (h := sz + 15) (fs := [vi 0]) (P' := fun H => H.size = sz + 16 ∧ CA D cy (q) (.inl (8, [av sz, av (sz + 2), vr none, vr none])) H ∧ CA D cy (sz) (.inl (5, [av (sz + 1)])) H ∧ CA D cy (sz + 1) (.inr (.inl (0, 40, fun _ => -1))) H ∧ QS D cy (sz + 2) (sz + 3) H ∧ CA D cy (sz + 14) (.inl (0, [vr none, vi 0, vi 0, vi 0, vl 0, vi 0, vi 0, vi 0, vr none])) H ∧ CA D cy (sz + 15) (.inl (6, [vi 0])) H) (fun H h => h.1) rfl (by decide +kernel) tyX8 tyX8_ok (by decide +kernel) (by decide +kernel) (by decide +kernel) (fun j hj => by (iterate 1 (rcases j with _ | j; · rfl)); omega) (by omega) (by omega) dX10_init_31 (fun H H1 hP z o h1 => ?_) ?_
  · obtain ⟨s0, a0, a1, a2, a3, a4⟩ := hP
    exact ⟨z, a0.kept (o _ (by omega)), a1.kept (o _ (by omega)), a2.kept (o _ (by omega)), a3.kept (fun x hx => o x (by omega)), a4.kept (o _ (by omega)), h1⟩
  refine g_dup C rfl dX10_init_34 ?_
  refine g_callN C (as := []) (rest := [av (sz + 15), av (sz + 14), av (sz + 14), av q]) (na := 0) (a := sz + 15) (sz := sz + 16) (P' := fun H => H.size = sz + 16 ∧ CA D cy (q) (.inl (8, [av sz, av (sz + 2), vr none, vr none])) H ∧ CA D cy (sz) (.inl (5, [av (sz + 1)])) H ∧ CA D cy (sz + 1) (.inr (.inl (0, 40, fun _ => -1))) H ∧ QS D cy (sz + 2) (sz + 3) H ∧ CA D cy (sz + 14) (.inl (0, [vr none, vi 0, vi 0, vi 0, vl 0, vi 0, vi 0, vi 0, vr none])) H ∧ CA D cy (sz + 15) (.inl (6, [vi 0])) H) (fun H h => ⟨h.1, h.2.2.2.2.2.2⟩) (by first | exact Or.inl rfl | exact Or.inr (by omega)) (by omega) (n_X8 (sz + 15) (sz + 16) (.inl (6, [vi 0]))) gX10_init_X8_init_n27 (by decide +kernel) (by decide +kernel) (by decide +kernel) rfl (by decide +kernel) (by decide) (by decide) rfl (Nat.le_of_ble_eq_true rfl) rfl dX10_init_35 rfl (by omega) (by omega) (fun H H1 hP z o h1 => ?_) ?_
  · obtain ⟨s0, a0, a1, a2, a3, a4, -⟩ := hP
    exact ⟨h1.1, a0.kept (o _ (by omega) (by omega)), a1.kept (o _ (by omega) (by omega)), a2.kept (o _ (by omega) (by omega)), a3.kept (fun x hx => o x (by omega) (by omega)), a4.kept (o _ (by omega) (by omega)), h1.2⟩
  refine g_callI C (as := [av (sz + 15)]) (rest := [av (sz + 14), av q]) (na := 1) (a := sz + 14) (sz := sz + 16) (P' := fun H => H.size = sz + 63 ∧ CA D cy (q) (.inl (8, [av sz, av (sz + 2), vr none, vr none])) H ∧ CA D cy (sz) (.inl (5, [av (sz + 1)])) H ∧ CA D cy (sz + 1) (.inr (.inl (0, 40, fun _ => -1))) H ∧ QS D cy (sz + 2) (sz + 3) H ∧ PL D cy (sz + 14) (sz + 16) (sz + 15) H ∧ CA D cy (sz + 15) (.inl (6, [vi 0])) H) (fun H h => ⟨h.1, h.2.2.2.2.2.1⟩) (by first | exact Or.inl rfl | exact Or.inr (by omega)) (by omega) (n_X2 (sz + 14) (sz + 16) (sz + 15) (by omega)) gX10_init_X2_init (by decide +kernel) (by decide +kernel) (by decide +kernel) rfl (by decide +kernel) (by decide) (by decide) rfl (Nat.le_of_ble_eq_true rfl) rfl dX10_init_38 rfl (by omega) (by omega) (fun H H1 hP z o h1 => ?_) ?_
  · obtain ⟨s0, a0, a1, a2, a3, -, a5⟩ := hP
    exact ⟨h1.1, a0.kept (o _ (by omega) (by omega)), a1.kept (o _ (by omega) (by omega)), a2.kept (o _ (by omega) (by omega)), a3.kept (fun x hx => o x (by omega) (by omega)), h1.2, a5.kept (o _ (by omega) (by omega))⟩
  refine g_putf C (Cn := RX10) (T := TX10) (N := 4) (ci := 8) (a := q) (fs := [av sz, av (sz + 2), vr none, vr none]) (v := av (sz + 14)) (P' := fun H => H.size = sz + 63 ∧ CA D cy (q) (.inl (8, [av sz, av (sz + 2), av (sz + 14), vr none])) H ∧ CA D cy (sz) (.inl (5, [av (sz + 1)])) H ∧ CA D cy (sz + 1) (.inr (.inl (0, 40, fun _ => -1))) H ∧ QS D cy (sz + 2) (sz + 3) H ∧ PL D cy (sz + 14) (sz + 16) (sz + 15) H ∧ CA D cy (sz + 15) (.inl (6, [vi 0])) H) (fun H h => h.2.1) (by first | exact Or.inl rfl | exact Or.inr (by omega)) rfl 2 (by decide) (by decide +kernel) (by decide +kernel) (Or.inl rfl) tyX10 tyX10_ok nmX10 (by first | exact Or.inl rfl | exact Or.inr ⟨rfl, rfl⟩) T.name rfl rfl rfl (Nat.le_of_ble_eq_true rfl) dX10_init_41 (fun H H1 hP z o h1 => ?_) ?_
  · obtain ⟨s0, -, a1, a2, a3, a4, a5⟩ := hP
    exact ⟨z.trans s0, h1, a1.kept (o _ (by omega)), a2.kept (o _ (by omega)), a3.kept (fun x hx => o x (by omega)), a4.kept (fun x hx => o x (by omega)), a5.kept (o _ (by omega))⟩
  refine g_aload_n C dX10_init_44 rfl rfl ?_
  refine g_new C (Cn := RX6) (T := TX6) (N := 4) (ci := 4) (h := sz + 63) (fs := [vr none, vr none, vi 0, vi 0]) (P' := fun H => H.size = sz + 64 ∧ CA D cy (q) (.inl (8, [av sz, av (sz + 2), av (sz + 14), vr none])) H ∧ CA D cy (sz) (.inl (5, [av (sz + 1)])) H ∧ CA D cy (sz + 1) (.inr (.inl (0, 40, fun _ => -1))) H ∧ QS D cy (sz + 2) (sz + 3) H ∧ PL D cy (sz + 14) (sz + 16) (sz + 15) H ∧ CA D cy (sz + 15) (.inl (6, [vi 0])) H ∧ CA D cy (sz + 63) (.inl (4, [vr none, vr none, vi 0, vi 0])) H) (fun H h => h.1) rfl (by decide +kernel) tyX6 tyX6_ok (by decide +kernel) (by decide +kernel) (by decide +kernel) (fun j hj => by (iterate 4 (rcases j with _ | j; · rfl)); omega) (by omega) (by omega) dX10_init_45 (fun H H1 hP z o h1 => ?_) ?_
  · obtain ⟨s0, a0, a1, a2, a3, a4, a5⟩ := hP
    exact ⟨z, a0.kept (o _ (by omega)), a1.kept (o _ (by omega)), a2.kept (o _ (by omega)), a3.kept (fun x hx => o x (by omega)), a4.kept (fun x hx => o x (by omega)), a5.kept (o _ (by omega)), h1⟩
  refine g_dup C rfl dX10_init_48 ?_
  refine g_callI C (as := []) (rest := [av (sz + 63), av q]) (na := 0) (a := sz + 63) (sz := sz + 64) (P' := fun H => H.size = sz + 113 ∧ CA D cy (q) (.inl (8, [av sz, av (sz + 2), av (sz + 14), vr none])) H ∧ CA D cy (sz) (.inl (5, [av (sz + 1)])) H ∧ CA D cy (sz + 1) (.inr (.inl (0, 40, fun _ => -1))) H ∧ QS D cy (sz + 2) (sz + 3) H ∧ PL D cy (sz + 14) (sz + 16) (sz + 15) H ∧ CA D cy (sz + 15) (.inl (6, [vi 0])) H ∧ RNs D cy (sz + 63) (sz + 64) H) (fun H h => ⟨h.1, h.2.2.2.2.2.2.2⟩) (by first | exact Or.inl rfl | exact Or.inr (by omega)) (by omega) (n_X6 (sz + 63) (sz + 64) (by omega)) gX10_init_X6_init (by decide +kernel) (by decide +kernel) (by decide +kernel) rfl (by decide +kernel) (by decide) (by decide) rfl (Nat.le_of_ble_eq_true rfl) rfl dX10_init_49 rfl (by omega) (by omega) (fun H H1 hP z o h1 => ?_) ?_
  · obtain ⟨s0, a0, a1, a2, a3, a4, a5, -⟩ := hP
    exact ⟨h1.1, a0.kept (o _ (by omega) (by omega)), a1.kept (o _ (by omega) (by omega)), a2.kept (o _ (by omega) (by omega)), a3.kept (fun x hx => o x (by omega) (by omega)), a4.kept (fun x hx => o x (by omega) (by omega)), a5.kept (o _ (by omega) (by omega)), h1.2⟩
  refine g_putf C (Cn := RX10) (T := TX10) (N := 4) (ci := 8) (a := q) (fs := [av sz, av (sz + 2), av (sz + 14), vr none]) (v := av (sz + 63)) (P' := fun H => H.size = sz + 113 ∧ CA D cy (q) (.inl (8, [av sz, av (sz + 2), av (sz + 14), av (sz + 63)])) H ∧ CA D cy (sz) (.inl (5, [av (sz + 1)])) H ∧ CA D cy (sz + 1) (.inr (.inl (0, 40, fun _ => -1))) H ∧ QS D cy (sz + 2) (sz + 3) H ∧ PL D cy (sz + 14) (sz + 16) (sz + 15) H ∧ CA D cy (sz + 15) (.inl (6, [vi 0])) H ∧ RNs D cy (sz + 63) (sz + 64) H) (fun H h => h.2.1) (by first | exact Or.inl rfl | exact Or.inr (by omega)) rfl 3 (by decide) (by decide +kernel) (by decide +kernel) (Or.inl rfl) tyX10 tyX10_ok nmX10 (by first | exact Or.inl rfl | exact Or.inr ⟨rfl, rfl⟩) T.name rfl rfl rfl (Nat.le_of_ble_eq_true rfl) dX10_init_52 (fun H H1 hP z o h1 => ?_) ?_
  · obtain ⟨s0, -, a1, a2, a3, a4, a5, a6⟩ := hP
    exact ⟨z.trans s0, h1, a1.kept (o _ (by omega)), a2.kept (o _ (by omega)), a3.kept (fun x hx => o x (by omega)), a4.kept (fun x hx => o x (by omega)), a5.kept (o _ (by omega)), a6.kept (fun x hx => o x (by omega))⟩
  exact g_vret C T (fun H h => h) dX10_init_55 (by omega) (by omega)
