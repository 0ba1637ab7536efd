/-! what holds where the law starts -/
theorem str_at {own tx : String} {k : Nat} {A : Array Value} {U : State} (h : (Cond.stringRef own k tx).before A U = true) : ∃ a, vk_R own k tx a U := by
  have h0 := h
  simp only [Cond.before, Cond.holds, Cond.value] at h0
  cases hc : U.vm.findClass own with
  | none => simp [hc] at h0
  | some c =>
    cases hr : U.resolvedAt? own k with
    | none => simp [hc, hr] at h0
    | some r =>
      cases r with
      | string a =>
        refine ⟨a, h, ?_⟩
        cases hk : U.vm.classes[c]? with
        | none => simp [State.resolvedAt?, hc, hk] at hr
        | some kk =>
          simp [State.resolvedAt?, hc, hk] at hr
          simp [Term.eval, hc, hk, hr]
      | _ => simp [hc, hr] at h0
def gvL : List Cond := flatC (Jvm.Cond.and given_1 narrow_1) ++ lw_tbl
set_option maxRecDepth 20000 in
theorem gv_nwl : (∀ q ∈ nwl, Cond.methodLinkNest q.1 q.2.1 q.2.2 "PostingPlanner" ∈ gvL) ∧ Cond.castable RX3 "PostingPlanner$Part" ∈ gvL ∧ Cond.castable RX4 "PostingPlanner$Part" ∈ gvL ∧ Cond.declares ⟨"PostingPlanner$Part", "seek", "(II)I"⟩ ∈ gvL := by decide +kernel
set_option maxRecDepth 20000 in
theorem gv_nwc : (∀ q ∈ nwc, Cond.methodLinkNest q.1 q.2.1 q.2.2 "PostingPlanner" ∈ gvL) ∧ ∀ C ∈ ["PostingPlanner$Part", "PostingPlanner$PlannedClause", "PostingPlanner$PlannedLiteral", "PostingPlanner$ToldClause"], Cond.arrayOver (.object C) ∈ gvL := by decide +kernel
set_option maxRecDepth 20000 in
theorem gv_ex : (∀ x ∈ thEx, ∀ y ∈ thEx, x ≠ y → Cond.not (.castable x y) ∈ gvL) ∧ (∀ x ∈ thEx, Cond.castable x x ∈ gvL) ∧ (∀ x ∈ thD, Cond.declares (Bundle.initS x) ∈ gvL) ∧ ∀ q ∈ thStr, Cond.stringRef RX10 q.1 q.2 ∈ gvL := by decide +kernel
set_option maxRecDepth 20000 in
theorem gv_st : Cond.laysStatic Bundle.tN "UNASSIGNED_STACK" Bundle.steD ∈ gvL ∧ Cond.initialized Bundle.tN ∈ gvL ∧ Cond.isRef (.static Bundle.tN "UNASSIGNED_STACK" Bundle.steD) ∈ gvL ∧ Cond.laysStatic Bundle.tN "SUPPRESSED_SENTINEL" Bundle.listD ∈ gvL ∧ Cond.isRef (.static Bundle.tN "SUPPRESSED_SENTINEL" Bundle.listD) ∈ gvL := by decide +kernel
theorem arr_p {s : State} {args : Array Value} {ty : FieldType} (h : (Cond.arrayClass ty).before args s = true) (hr : ∀ (cA : ClassId), s.vm.findClass ("[" ++ ty.toString) = some cA → va_RA s cA ty) : ∃ cA, ArrOfT s cA ty ∧ va_RA s cA ty := by
  obtain ⟨cA, kA, comp, h1, h2, h3⟩ := Cond.arrayClass_spec h
  exact ⟨cA, fun N z => ⟨(fun k h => by cases h), kA, h2, comp, h3⟩, hr cA h1⟩
theorem arr_q {s : State} {args : Array Value} {C : String} (h : (Cond.arrayOver (.object C)).before args s = true) : ∃ cA, ArrOfT s cA (.object C) ∧ va_RA s cA (.object C) := by
  obtain ⟨comp, cA, kA, h1, -, h2, h3, h4⟩ := Cond.arrayOver_spec h
  exact ⟨cA, fun N z => ⟨(fun k h => by cases h), kA, h2, comp, h3⟩, kA, comp, h2, h3, h1, h4⟩
theorem law_words {p : Program} {s : State} {m : MethodId} {meth : Method} {c : Code} {b L : Nat} {xs : Nat → Int32} (C0 : lw_At p s m meth c b L xs) : (∀ w ∈ wsL_law, w.before #[Value.ref b] s = true) ∧ NwOK s ∧ NcOK s ∧ AOK s ∧ XOK (fun q => s.heap.size ≤ q) s ∧ ∃ (D : va_G) (cy : Nat → ClassId), va_K D vwCl (tysOf cy) s := by
  obtain ⟨hx, hb, hr, hml, hown, hts0, hX, hbl, hlocks, hgv⟩ := C0
  have hts : ∀ w ∈ wsL_law, w.before #[Value.ref b] s = true := wsL_ok hts0
  have hg : ∀ w ∈ gvL, w.before #[Value.ref b] s = true := fun w hw => (List.mem_append.mp hw).elim (fun h => flat_of_before _ hgv w h) (fun h => hts0 w h)
  have hnA : ∀ a : Nat, a < s.heap.size → ¬ s.heap.size ≤ a := fun a h => by omega
  refine ⟨hts, ⟨fun q hq => va_Nw.of rfl (hg _ (gv_nwl.1 q hq)), va_Nw.of rfl (hg _ gv_nwl.2.1), va_Nw.of rfl (hg _ gv_nwl.2.2.1), va_Nw.of rfl (hg _ gv_nwl.2.2.2)⟩, fun x hx y hy hxy => va_Nc.of (hg _ (gv_ex.1 x hx y hy hxy)), ⟨⟨va_AO.of (hg _ (gv_nwc.2 _ (by decide))), va_AO.of (hg _ (gv_nwc.2 _ (by decide))), va_AO.of (hg _ (gv_nwc.2 _ (by decide))), va_AO.of (hg _ (gv_nwc.2 _ (by decide)))⟩, fun q hq => va_Nw.of rfl (hg _ (gv_nwc.1 q hq))⟩, ⟨fun q hq => str_at (hg _ (gv_ex.2.2.2 q hq)), fun x hx => va_Nw.of rfl (hg _ (gv_ex.2.2.1 x hx)), fun x hx => va_Nw.of rfl (hg _ (gv_ex.2.1 x hx)), vx_Zqof (hg _ gv_st.1) (hg _ gv_st.2.1) (hg _ gv_st.2.2.1) hnA, vx_Zqof (hg _ gv_st.2.2.2.1) (hg _ gv_st.2.1) (hg _ gv_st.2.2.2.2) hnA⟩, ?_⟩
  have hcls : ∀ k : Nat, ∃ z : ClassId × (Nat → Nat), ∀ q : vw_C, vwCl[k]? = some q → u_Kn s q.1 q.2.1 q.2.2 z.1 z.2 := by
    have one : ∀ {C : String} {T : u_T} {N : Nat} (n : Nat), (∀ w ∈ u_ws C T N, w ∈ wsL_law) → Cond.instantiable C n ∈ wsL_law → ∃ z : ClassId × (Nat → Nat), ∀ q : vw_C, some (C, T, N) = some q → u_Kn s q.1 q.2.1 q.2.2 z.1 z.2 := fun n h1 h2 => by
      obtain ⟨cC, iS, h⟩ := u_known (n := n) hts h1 (hts _ h2)
      exact ⟨(cC, iS), fun q hq => by cases hq; exact h⟩
    intro k
    match k with
    | 0 => exact one 9 inlX2 (by decide +kernel)
    | 1 => exact one 9 inlX3 (by decide +kernel)
    | 2 => exact one 6 inlX4 (by decide +kernel)
    | 3 => exact one 4 inlX5 (by decide +kernel)
    | 4 => exact one 4 inlX6 (by decide +kernel)
    | 5 => exact one 1 inlX7 (by decide +kernel)
    | 6 => exact one 1 inlX8 (by decide +kernel)
    | 7 => exact one 5 inlX9 (by decide +kernel)
    | 8 => exact one 4 inlX10 (by decide +kernel)
    | 9 => exact one 35 inlX11 (by decide +kernel)
    | k + 10 => exact ⟨(0, fun _ => 0), fun q hq => by simp [vwCl] at hq⟩
  obtain ⟨f, hf⟩ := Classical.skolem.mp hcls
  obtain ⟨c0, k0⟩ := arr_p (ty := .int) (hts (.arrayClass .int) (by decide +kernel)) (fun _ h => h)
  obtain ⟨c1, k1⟩ := arr_p (ty := .boolean) (hts (.arrayClass .boolean) (by decide +kernel)) (fun _ h => h)
  obtain ⟨c6, k6⟩ := arr_p (ty := .long) (hts (.arrayClass .long) (by decide +kernel)) (fun _ h => h)
  obtain ⟨c2, k2⟩ := arr_q (hg _ (gv_nwc.2 "PostingPlanner$Part" (by decide)))
  obtain ⟨c3, k3⟩ := arr_q (hg _ (gv_nwc.2 "PostingPlanner$PlannedClause" (by decide)))
  obtain ⟨c4, k4⟩ := arr_q (hg _ (gv_nwc.2 "PostingPlanner$PlannedLiteral" (by decide)))
  obtain ⟨c5, k5⟩ := arr_q (hg _ (gv_nwc.2 "PostingPlanner$ToldClause" (by decide)))
  refine ⟨(fun k => (f k).1, fun k => (f k).2), fun k => if k = 0 then c0 else if k = 1 then c1 else if k = 2 then c2 else if k = 3 then c3 else if k = 4 then c4 else if k = 5 then c5 else c6, fun k q hq => hf k q hq, fun k q hq => ?_⟩
  match k, hq with
  | 0, hq => cases hq; exact k0
  | 1, hq => cases hq; exact k1
  | 2, hq => cases hq; exact k2
  | 3, hq => cases hq; exact k3
  | 4, hq => cases hq; exact k4
  | 5, hq => cases hq; exact k5
  | 6, hq => cases hq; exact k6
  | k + 7, hq => simp [tysOf] at hq
