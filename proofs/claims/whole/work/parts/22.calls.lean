/-! CONTRACTS of methods that return -/
def AA (ad : Idn → Nat) (sz : Nat) : Addr → Prop := fun q => (∃ i ∈ ids, q = ad i) ∨ sz ≤ q
def Pr (D : va_G) (cy : Nat → ClassId) (ad : Idn → Nat) (S : ST) (sz : Nat) (U : State) : Prop := U.heap.size = sz ∧ va_P D vwCl (wl cy ad (hp S)) U.heap ∧ va_K D vwCl (tysOf cy) U ∧ NwOK U
def Qq (D : va_G) (cy : Nat → ClassId) (ad : Idn → Nat) (A : Addr → Prop) (post : Option AV → ST → Prop) : Array Value → State → Outcome → State → Prop := fun _ st oc t => (∃ (v : Option AV) (S' : ST), oc = .returned (v.map (tv ad)) ∧ post v S' ∧ va_P D vwCl (wl cy ad (hp S')) t.heap ∧ va_K D vwCl (tysOf cy) t) ∧ va_F A st t
def Ct (y : MethodName) (ws : List Cond) (n : Nat) (args : List AV) (S : ST) (post : Option AV → ST → Prop) : Prop := ∀ (l : Launch) (D : va_G) (cy : Nat → ClassId) (ad : Idn → Nat) (sz : Nat), AdOK ad → Met l y ws (rmN n) (va_Pc (args.map (tv ad)) (Pr D cy ad S sz)) (Qq D cy ad (AA ad sz) post) 0 0 (AA ad sz)
/-- the end of such a body -/
def Rx (X : XT) (ret : Option FieldType) (post : Option AV → ST → Prop) : Prop := match X with
  | ((p, l, e, R, s), (m, args, below, meth, c), Q, (D, cy, ad), (A, nL)) => Q = MQ below (Qq D cy ad A post) args s 0 0 A ∧ meth.sig.returnType = ret ∧ meth.locks = false
def lva (k : Nat) (as : List AV) : List (Nat × AV) := match as with
  | [] => []
  | a :: r => (k, a) :: lva (if catA a = 2 then k + 2 else k + 1) r
theorem lva_map (ad : Idn → Nat) : ∀ (as : List AV) (k : Nat), lv_args k (as.map (tv ad)) = (lva k as).map (fun q => (q.1, tv ad q.2))
  | [], k => rfl
  | a :: r, k => by
    have ih := lva_map ad r (if catA a = 2 then k + 2 else k + 1)
    show (k, tv ad a) :: lv_args (if (tv ad a).category = 2 then k + 2 else k + 1) (r.map (tv ad)) = _
    rw [tv_cat, ih]
    rfl
def sumc (as : List AV) : Nat := match as with
  | [] => 0
  | a :: r => catA a + sumc r
theorem sl_cons (v : Value) (vs : List Value) : (lg_sl (v :: vs)).length = v.category + (lg_sl vs).length := by
  rcases lv_cat v with h | h <;> simp [lg_sl, h] <;> omega
theorem sl_len (ad : Idn → Nat) : ∀ as : List AV, (lg_sl (as.map (tv ad))).length = sumc as
  | [] => rfl
  | a :: r => by
    have ih := sl_len ad r
    rw [List.map_cons, sl_cons, tv_cat, ih]
    rfl
theorem Ct.of {y : MethodName} {ws ws' : List Cond} {cc : ByteArray} {nL n : Nat} {ret : Option FieldType} {as : List AV} {S : ST} {post : Option AV → ST → Prop}
    (hy : plainName y.cls = true) (hw : ws = .code y cc nL ret :: ws') (ha : sumc as ≤ nL) (hnL : nL < 64)
    (body : ∀ X : XT, Cx X cc y.cls ws n → Rx X ret post → X.2.2.2.2.2 = nL → At X 0 0 0 (lva 0 as) [] S) : Ct y ws n as S post := by
  intro l D cy ad sz hAd
  refine Met.ofW (cc := cc) (maxL := nL) (ret := ret) hy hw ?_
  intro p e s m args below meth c s₁ B hml hv
  obtain ⟨rfl, hsz, hP, hK, hNw⟩ := hv
  subst hsz
  have hts := atoms_spec (ws := ws) B.pre
  have hown : s.vm.findClass y.cls = some m.cls := findClass_of_methodNamed B.named
  have hl := lv_entry (as.map (tv ad)) (n := nL) (by rw [sl_len]; exact ha)
  rw [lva_map] at hl
  rw [lg_entry_eq]
  exact body ((p, l, e, (headSpec ws (rmN n)).room, s), (m, _, below, meth, c), _, (D, cy, ad), (AA ad s.heap.size, nL)) ⟨B.exec, B.bytes, hml, hown, hts, hK, hAd, fun i hi => Or.inl ⟨i, hi, rfl⟩, fun q hq => Or.inr hq, hNw, ⟨Nat.le_refl _, Nat.le_refl _⟩, hnL⟩ ⟨rfl, B.returns, B.notSynchronized⟩ rfl s.heap [] _ hP va_S.rf hl
section RET
variable {X : XT} {cc : ByteArray} {own : String} {Ts : List Cond} {n pc : Nat} {lv : List (Nat × AV)} {st : List AV} {S : ST} {post : Option AV → ST → Prop}
theorem r_iret {z : Int} (C : Cx X cc own Ts n) (Rr : Rx X (some .int) post) (hq : post (some (vi z)) S) (d : decode cc pc = .ok (.ireturn, 1)) : At X 0 0 pc lv [vi z] S := by
  obtain ⟨⟨p, l, e, R, s⟩, ⟨m, args, below, meth, c⟩, Q, ⟨D, cy, ad⟩, ⟨A, nL⟩⟩ := X
  obtain ⟨hx, hb, hml, hown, hts, hK, hAd, hAi, hAs, hNw, hR, hnL⟩ := C
  obtain ⟨rfl, hr, hlk⟩ := Rr
  intro H locs ls hP hS hl
  exact W.iret hx hb hr (fun t ht hW => ⟨⟨some (vi z), S, rfl, hq, by rw [ht]; exact hP, va_K.moved hW.alike hK⟩, hS.F ht⟩) hS.2.2 d hlk
theorem r_zret {z : Int} (C : Cx X cc own Ts n) (Rr : Rx X (some .boolean) post) (hz : z = 0 ∨ z = 1) (hq : post (some (vi z)) S) (d : decode cc pc = .ok (.ireturn, 1)) : At X 0 0 pc lv [vi z] S := by
  obtain ⟨⟨p, l, e, R, s⟩, ⟨m, args, below, meth, c⟩, Q, ⟨D, cy, ad⟩, ⟨A, nL⟩⟩ := X
  obtain ⟨hx, hb, hml, hown, hts, hK, hAd, hAi, hAs, hNw, hR, hnL⟩ := C
  obtain ⟨rfl, hr, hlk⟩ := Rr
  intro H locs ls hP hS hl
  exact W.zret hx hb hr (by rcases hz with rfl | rfl <;> rfl) (fun t ht hW => ⟨⟨some (vi z), S, rfl, hq, by rw [ht]; exact hP, va_K.moved hW.alike hK⟩, hS.F ht⟩) hS.2.2 d hlk
theorem r_lret {z : Int} (C : Cx X cc own Ts n) (Rr : Rx X (some .long) post) (hq : post (some (vl z)) S) (d : decode cc pc = .ok (.lreturn, 1)) : At X 0 0 pc lv [vl z] S := by
  obtain ⟨⟨p, l, e, R, s⟩, ⟨m, args, below, meth, c⟩, Q, ⟨D, cy, ad⟩, ⟨A, nL⟩⟩ := X
  obtain ⟨hx, hb, hml, hown, hts, hK, hAd, hAi, hAs, hNw, hR, hnL⟩ := C
  obtain ⟨rfl, hr, hlk⟩ := Rr
  intro H locs ls hP hS hl
  exact W.lret hx hb hr (fun t ht hW => ⟨⟨some (vl z), S, rfl, hq, by rw [ht]; exact hP, va_K.moved hW.alike hK⟩, hS.F ht⟩) hS.2.2 d hlk
theorem r_vret (C : Cx X cc own Ts n) (Rr : Rx X none post) (hq : post none S) (d : decode cc pc = .ok (.return_, 1)) : At X 0 0 pc lv [] S := by
  obtain ⟨⟨p, l, e, R, s⟩, ⟨m, args, below, meth, c⟩, Q, ⟨D, cy, ad⟩, ⟨A, nL⟩⟩ := X
  obtain ⟨hx, hb, hml, hown, hts, hK, hAd, hAi, hAs, hNw, hR, hnL⟩ := C
  obtain ⟨rfl, hr, hlk⟩ := Rr
  intro H locs ls hP hS hl
  exact W.vret hx hb hr (fun t ht hW => ⟨⟨none, S, rfl, hq, by rw [ht]; exact hP, va_K.moved hW.alike hK⟩, hS.F ht⟩) hS.2.2 d hlk
theorem r_aret {o : Option Idn} {C0 : String} (C : Cx X cc own Ts n) (Rr : Rx X (some (.object C0)) post) (hq : post (some (vr o)) S) (d : decode cc pc = .ok (.areturn, 1)) : At X 0 0 pc lv [vr o] S := by
  obtain ⟨⟨p, l, e, R, s⟩, ⟨m, args, below, meth, c⟩, Q, ⟨D, cy, ad⟩, ⟨A, nL⟩⟩ := X
  obtain ⟨hx, hb, hml, hown, hts, hK, hAd, hAi, hAs, hNw, hR, hnL⟩ := C
  obtain ⟨rfl, hr, hlk⟩ := Rr
  intro H locs ls hP hS hl
  exact W.aret hx hb hr (Or.inl ⟨C0, rfl⟩) (va_rf_or _) (fun t ht hW => ⟨⟨some (vr o), S, rfl, hq, by rw [ht]; exact hP, va_K.moved hW.alike hK⟩, hS.F ht⟩) hS.2.2 d hlk
end RET
section CALLS
variable {X : XT} {cc : ByteArray} {own : String} {Ts : List Cond} {n cells slots pc : Nat} {lv : List (Nat × AV)} {st : List AV} {S : ST} {post : Option AV → ST → Prop}
theorem AA_in {A : Addr → Prop} {ad : Idn → Nat} {H0 H : Heap} {locs : List Loc} (hAi : ∀ i ∈ ids, A (ad i)) (hAs : ∀ q, H0.size ≤ q → A q) (hS : va_S A H0 H locs) : ∀ q, AA ad H.size q → A q := by
  intro q h
  rcases h with ⟨i, hi, rfl⟩ | h
  · exact hAi i hi
  · exact hAs q (Nat.le_trans hS.1 h)
theorem c_go {p : Program} {l : Launch} {e : Env} {R : Room} {s : State} {m : MethodId} {args : Array Value} {below : List Frame} {meth : Method} {c : Code} {Q : State → Prop} {D : va_G} {cy : Nat → ClassId} {ad : Idn → Nat} {A : Addr → Prop} {nL : Nat} {H : Heap} {locs : List Loc} {ls : Array Slot} {st0 : List Value} {rest : List AV} {a : Array Value}
    (hK : va_K D vwCl (tysOf cy) s) (hAi : ∀ i ∈ ids, A (ad i)) (hAs : ∀ q, s.heap.size ≤ q → A q) (hS : va_S A s.heap H locs) (hl : lv_has ls nL (lv.map (fun q => (q.1, tv ad q.2))))
    (hr : va_Run p l e R s m args below meth c H locs cells slots 0 0 (F0 m pc ls st0) (rest.map (tv ad)) (Qq D cy ad (AA ad H.size) post a) (AA ad H.size))
    (k : ∀ (v : Option AV) (S' : ST), post v S' → At ((p, l, e, R, s), (m, args, below, meth, c), Q, (D, cy, ad), (A, nL)) cells slots (pc + 3) lv (v.toList ++ rest) S') : W p l e R s m args below meth c H locs cells slots Q (F0 m pc ls st0) := by
  intro T hT Xs
  obtain ⟨v, st₀, t, T', L, h0, X', hL, e1, e2, ⟨⟨w, S', hv, hp, hw, hk1⟩, hz, hk⟩, stp⟩ := hr T hT Xs
  cases hv
  rw [h0] at hz hk
  have hin := AA_in hAi hAs hS
  have hS' : va_S A s.heap T'.heap (locs ++ L) := ⟨Nat.le_trans hS.1 (by rw [e1]; exact hz), fun q h1 h2 => by rw [e1, hk q (Nat.lt_of_lt_of_le h1 hS.1) (fun z => h2 (hin q z))]; exact hS.2.1 q h1 h2, fun q hq => by
      rcases List.mem_append.mp hq with h | h
      · exact hS.2.2 q h
      · exact hin _ (hL q h)⟩
  obtain ⟨t2, a1, b1⟩ := k w S' hp T'.heap (locs ++ L) ls (by rw [e1]; exact hw) hS' hl T' rfl X'
  refine ⟨t2, stp t2 ?_, b1⟩
  have e3 : (w.toList ++ rest).map (tv ad) = (w.map (tv ad)).toList ++ rest.map (tv ad) := by cases w <;> rfl
  rw [e3] at a1
  exact a1
theorem pr_pre {D : va_G} {cy : Nat → ClassId} {ad : Idn → Nat} {as : List AV} {s : State} {H : Heap} (hP : va_P D vwCl (wl cy ad (hp S)) H) (hK : va_K D vwCl (tysOf cy) s) (hNw : NwOK s) :
    FrameBlind (va_Pc (as.map (tv ad)) (Pr D cy ad S H.size)) ∧ ∀ U : State, U.heap = H → s.WarmedH U.vm → va_Pc (as.map (tv ad)) (Pr D cy ad S H.size) (as.map (tv ad)).toArray U :=
  ⟨fun a U g mk q => by
    obtain ⟨q0, q1, qP, qK, qN⟩ := q
    exact ⟨q0, q1, qP, va_K.moved (u := U) (U := U.calling g mk a) (Vm.Alike.refl U.vm) qK, NwOK.same (s := U) (U := U.calling g mk a) rfl qN⟩,
   fun U hU hW => ⟨rfl, by rw [hU], by rw [hU]; exact hP, va_K.moved hW.alike hK, NwOK.moved hW hNw⟩⟩
theorem rm_fit {k n nL' : Nat} {R : Room} (hR : n ≤ R.frames ∧ 40 * n ≤ R.locals) (hk : k < n) (hL : nL' ≤ 21) : (rmN k).frames + 1 ≤ R.frames ∧ 8 + (nL' + 11) + (rmN k).locals ≤ R.locals := by
  show k + 1 ≤ R.frames ∧ 8 + (nL' + 11) + 40 * k ≤ R.locals
  omega
theorem sumc_cat (ad : Idn → Nat) : ∀ as : List AV, ((as.map (tv ad)).map (fun v => v.category)).sum = sumc as
  | [] => rfl
  | a :: r => by
    have ih := sumc_cat ad r
    simp only [List.map_cons, List.sum_cons, sumc, tv_cat]
    rw [ih]
theorem r_callV (C : Cx X cc own Ts n) {idx k nL' na : Nat} {y : MethodName} {ws ws' : List Cond} {bytes : ByteArray} {ret : Option FieldType} {as rest : List AV} {i : Idn} {ci N : Nat} {Cn : String} {T : u_T} {fs : List AV} (hi : i ∈ ids) (hc : hp S i = .inl (ci, fs)) (hcl : vwCl[ci]? = some (Cn, T, N)) (hM : Ct y ws k (vr (some i) :: as) S post) (hG : GoodIn Ts (wsV own idx Cn y ws)) (hd : y.cls = Cn ∧ y.cls ≠ "java/lang/invoke/MethodHandle" ∧ y.cls ≠ "java/lang/invoke/VarHandle" ∧ (parseMethodDescriptor y.desc).map (fun d => d.parameters.length) = some na) (hk : k < n) (hL : nL' ≤ 21) (hna : as.length = na) (hsum : sumc rest ≤ 8) (hW : ws = .code y bytes nL' ret :: ws') (d : decode cc pc = .ok (.invokevirtual idx, 3)) (hst : st = as.reverse ++ vr (some i) :: rest) (kk : ∀ (v : Option AV) (S' : ST), post v S' → At X cells slots (pc + 3) lv (v.toList ++ rest) S') (hcf : cells ≤ X.1.2.2.2.1.cells := by first | exact Nat.zero_le _ | assumption) (hsf : slots ≤ X.1.2.2.2.1.slots := by first | exact Nat.zero_le _ | assumption) : At X cells slots pc lv st S := by
  subst hst
  obtain ⟨⟨p, l, e, R, s⟩, ⟨m, args, below, meth, c⟩, Q, ⟨D, cy, ad⟩, ⟨A, nL⟩⟩ := X
  obtain ⟨hx, hb, hml, hown, hts, hK, hAd, hAi, hAs, hNw, hR, hnL⟩ := C
  intro H locs ls hP hS hl
  have hpre := pr_pre (as := vr (some i) :: as) hP hK hNw
  refine c_go (rest := rest) hK hAi hAs hS hl (va_runV (As := as.map (tv ad)) ⟨hx, hb, hml, hown, hts⟩ (hM l D cy ad H.size hAd) (cwV na hts hG hW rfl rfl hd (rm_fit hR hk hL)) ⟨hpre.1, (by
    obtain ⟨q0, h0, h1⟩ := wl_get (cy := cy) (ad := ad) (h := hp S) hi
    rw [hc] at h1
    exact va_recv hK hP hcl h1), hpre.2⟩ rfl (by rw [List.length_map]; exact hna) hl.1 (by first | (simp; done) | (simp; rfl)) (lv_room (by rw [sumc_cat]; exact hsum)) d ⟨hcf, hsf⟩) kk
theorem r_callU (C : Cx X cc own Ts n) {idx k nL' na : Nat} {y : MethodName} {ws ws' : List Cond} {bytes : ByteArray} {ret : Option FieldType} {as rest : List AV} {i : Idn} {ci N : Nat} {Cn : String} {T : u_T} {fs : List AV} (hi : i ∈ ids) (hc : hp S i = .inl (ci, fs)) (hcl : vwCl[ci]? = some (Cn, T, N)) {owner : String} {x : MethodName} (hM : Ct y ws k (vr (some i) :: as) S post) (hG : GoodIn Ts (va_wsU own idx Cn owner x y ws)) (hd : y = ⟨owner, x.name, x.desc⟩ ∧ owner ≠ "java/lang/invoke/MethodHandle" ∧ owner ≠ "java/lang/invoke/VarHandle" ∧ (parseMethodDescriptor x.desc).map (fun d => d.parameters.length) = some na) (hk : k < n) (hL : nL' ≤ 21) (hna : as.length = na) (hsum : sumc rest ≤ 8) (hW : ws = .code y bytes nL' ret :: ws') (d : decode cc pc = .ok (.invokevirtual idx, 3)) (hst : st = as.reverse ++ vr (some i) :: rest) (kk : ∀ (v : Option AV) (S' : ST), post v S' → At X cells slots (pc + 3) lv (v.toList ++ rest) S') (hcf : cells ≤ X.1.2.2.2.1.cells := by first | exact Nat.zero_le _ | assumption) (hsf : slots ≤ X.1.2.2.2.1.slots := by first | exact Nat.zero_le _ | assumption) : At X cells slots pc lv st S := by
  subst hst
  obtain ⟨⟨p, l, e, R, s⟩, ⟨m, args, below, meth, c⟩, Q, ⟨D, cy, ad⟩, ⟨A, nL⟩⟩ := X
  obtain ⟨hx, hb, hml, hown, hts, hK, hAd, hAi, hAs, hNw, hR, hnL⟩ := C
  intro H locs ls hP hS hl
  have hpre := pr_pre (as := vr (some i) :: as) hP hK hNw
  refine c_go (rest := rest) hK hAi hAs hS hl (va_runU (As := as.map (tv ad)) ⟨hx, hb, hml, hown, hts⟩ (hM l D cy ad H.size hAd) (va_cwU na hts hG hW rfl rfl hd.1 hd.2 (rm_fit hR hk hL)) ⟨hpre.1, (by
    obtain ⟨q0, h0, h1⟩ := wl_get (cy := cy) (ad := ad) (h := hp S) hi
    rw [hc] at h1
    exact va_recv hK hP hcl h1), hpre.2⟩ rfl (by rw [List.length_map]; exact hna) hl.1 (by first | (simp; done) | (simp; rfl)) (lv_room (by rw [sumc_cat]; exact hsum)) d ⟨hcf, hsf⟩) kk
theorem r_callO (C : Cx X cc own Ts n) {idx k nL' na : Nat} {y : MethodName} {ws ws' : List Cond} {bytes : ByteArray} {ret : Option FieldType} {as rest : List AV} {i : Idn} {ci N : Nat} {Cn : String} {T : u_T} {fs : List AV} (hi : i ∈ ids) (hc : hp S i = .inl (ci, fs)) (hcl : vwCl[ci]? = some (Cn, T, N)) {owner : String} {x : MethodName} {b0 : ByteArray} {m0 : Nat} {r0 : Option FieldType} (hO : Cond.code ⟨owner, x.name, x.desc⟩ b0 m0 r0 ∈ Ts) (hM : Ct y ws k (vr (some i) :: as) S post) (hG : GoodIn Ts (va_wsO own idx Cn owner x y ws)) (hd : owner ≠ "java/lang/invoke/MethodHandle" ∧ owner ≠ "java/lang/invoke/VarHandle" ∧ (parseMethodDescriptor x.desc).map (fun d => d.parameters.length) = some na) (hk : k < n) (hL : nL' ≤ 21) (hna : as.length = na) (hsum : sumc rest ≤ 8) (hW : ws = .code y bytes nL' ret :: ws') (d : decode cc pc = .ok (.invokevirtual idx, 3)) (hst : st = as.reverse ++ vr (some i) :: rest) (kk : ∀ (v : Option AV) (S' : ST), post v S' → At X cells slots (pc + 3) lv (v.toList ++ rest) S') (hcf : cells ≤ X.1.2.2.2.1.cells := by first | exact Nat.zero_le _ | assumption) (hsf : slots ≤ X.1.2.2.2.1.slots := by first | exact Nat.zero_le _ | assumption) : At X cells slots pc lv st S := by
  subst hst
  obtain ⟨⟨p, l, e, R, s⟩, ⟨m, args, below, meth, c⟩, Q, ⟨D, cy, ad⟩, ⟨A, nL⟩⟩ := X
  obtain ⟨hx, hb, hml, hown, hts, hK, hAd, hAi, hAs, hNw, hR, hnL⟩ := C
  intro H locs ls hP hS hl
  have hpre := pr_pre (as := vr (some i) :: as) hP hK hNw
  refine c_go (rest := rest) hK hAi hAs hS hl (va_runU (As := as.map (tv ad)) ⟨hx, hb, hml, hown, hts⟩ (hM l D cy ad H.size hAd) (va_cwO na hts hG hW rfl rfl hO hd (rm_fit hR hk hL)) ⟨hpre.1, (by
    obtain ⟨q0, h0, h1⟩ := wl_get (cy := cy) (ad := ad) (h := hp S) hi
    rw [hc] at h1
    exact va_recv hK hP hcl h1), hpre.2⟩ rfl (by rw [List.length_map]; exact hna) hl.1 (by first | (simp; done) | (simp; rfl)) (lv_room (by rw [sumc_cat]; exact hsum)) d ⟨hcf, hsf⟩) kk
theorem r_callA (C : Cx X cc own Ts n) {idx k nL' na : Nat} {y : MethodName} {ws ws' : List Cond} {bytes : ByteArray} {ret : Option FieldType} {as rest : List AV} {i : Idn} {ci N : Nat} {Cn : String} {T : u_T} {fs : List AV} (hi : i ∈ ids) (hc : hp S i = .inl (ci, fs)) (hcl : vwCl[ci]? = some (Cn, T, N)) (hM : Ct y ws k (vr (some i) :: as) S post) (hG : GoodIn Ts (va_wsU own idx Cn "PostingPlanner$Part" ⟨"PostingPlanner$Part", "seek", "(II)I"⟩ y ws)) (hd : (parseMethodDescriptor "(II)I").map (fun d => d.parameters.length) = some na) (hk : k < n) (hL : nL' ≤ 21) (hna : as.length = na) (hsum : sumc rest ≤ 8) (hW : ws = .code y bytes nL' ret :: ws') (d : decode cc pc = .ok (.invokevirtual idx, 3)) (hst : st = as.reverse ++ vr (some i) :: rest) (kk : ∀ (v : Option AV) (S' : ST), post v S' → At X cells slots (pc + 3) lv (v.toList ++ rest) S') (hcf : cells ≤ X.1.2.2.2.1.cells := by first | exact Nat.zero_le _ | assumption) (hsf : slots ≤ X.1.2.2.2.1.slots := by first | exact Nat.zero_le _ | assumption) : At X cells slots pc lv st S := by
  subst hst
  obtain ⟨⟨p, l, e, R, s⟩, ⟨m, args, below, meth, c⟩, Q, ⟨D, cy, ad⟩, ⟨A, nL⟩⟩ := X
  obtain ⟨hx, hb, hml, hown, hts, hK, hAd, hAi, hAs, hNw, hR, hnL⟩ := C
  intro H locs ls hP hS hl
  have hpre := pr_pre (as := vr (some i) :: as) hP hK hNw
  refine c_go (rest := rest) hK hAi hAs hS hl (va_runU (As := as.map (tv ad)) ⟨hx, hb, hml, hown, hts⟩ (hM l D cy ad H.size hAd) (va_cwA na hts hG hW rfl rfl hNw.2.2.2 ⟨by decide, by decide, hd⟩ (rm_fit hR hk hL)) ⟨hpre.1, (by
    obtain ⟨q0, h0, h1⟩ := wl_get (cy := cy) (ad := ad) (h := hp S) hi
    rw [hc] at h1
    exact va_recv hK hP hcl h1), hpre.2⟩ rfl (by rw [List.length_map]; exact hna) hl.1 (by first | (simp; done) | (simp; rfl)) (lv_room (by rw [sumc_cat]; exact hsum)) d ⟨hcf, hsf⟩) kk
theorem r_callS (C : Cx X cc own Ts n) {idx k nL' na : Nat} {y : MethodName} {ws ws' : List Cond} {bytes : ByteArray} {ret : Option FieldType} {as rest : List AV} (hM : Ct y ws k as S post) (hG : GoodIn Ts (va_wsS own idx y ws)) (hd : y.cls ≠ "java/lang/invoke/MethodHandle" ∧ y.cls ≠ "java/lang/invoke/VarHandle" ∧ (parseMethodDescriptor y.desc).map (fun d => d.parameters.length) = some na) (hk : k < n) (hL : nL' ≤ 21) (hna : as.length = na) (hsum : sumc rest ≤ 8) (hW : ws = .code y bytes nL' ret :: ws') (d : decode cc pc = .ok (.invokestatic idx, 3)) (hst : st = as.reverse ++ rest) (kk : ∀ (v : Option AV) (S' : ST), post v S' → At X cells slots (pc + 3) lv (v.toList ++ rest) S') (hcf : cells ≤ X.1.2.2.2.1.cells := by first | exact Nat.zero_le _ | assumption) (hsf : slots ≤ X.1.2.2.2.1.slots := by first | exact Nat.zero_le _ | assumption) : At X cells slots pc lv st S := by
  subst hst
  obtain ⟨⟨p, l, e, R, s⟩, ⟨m, args, below, meth, c⟩, Q, ⟨D, cy, ad⟩, ⟨A, nL⟩⟩ := X
  obtain ⟨hx, hb, hml, hown, hts, hK, hAd, hAi, hAs, hNw, hR, hnL⟩ := C
  intro H locs ls hP hS hl
  have hpre := pr_pre (as := as) hP hK hNw
  refine c_go (rest := rest) hK hAi hAs hS hl (va_runS (As := as.map (tv ad)) ⟨hx, hb, hml, hown, hts⟩ (hM l D cy ad H.size hAd) (va_cwS na hts hG hW rfl rfl hd (rm_fit hR hk hL)) hpre rfl (by rw [List.length_map]; exact hna) hl.1 (by first | (simp; done) | (simp; rfl)) (lv_room (by rw [sumc_cat]; exact hsum)) d ⟨hcf, hsf⟩) kk
theorem r_callSN (C : Cx X cc own Ts n) {idx k nL' na : Nat} {y : MethodName} {ws ws' : List Cond} {bytes : ByteArray} {ret : Option FieldType} {as rest : List AV} (hNl : (own, idx, y) ∈ nwl) (hIni : Cond.initialized y.cls ∈ Ts) (hSt : Cond.static y ∈ Ts) (hM : Ct y ws k as S post) (hG : GoodIn Ts ws) (hd : y.cls ≠ "java/lang/invoke/MethodHandle" ∧ y.cls ≠ "java/lang/invoke/VarHandle" ∧ (parseMethodDescriptor y.desc).map (fun d => d.parameters.length) = some na) (hk : k < n) (hL : nL' ≤ 21) (hna : as.length = na) (hsum : sumc rest ≤ 8) (hW : ws = .code y bytes nL' ret :: ws') (d : decode cc pc = .ok (.invokestatic idx, 3)) (hst : st = as.reverse ++ rest) (kk : ∀ (v : Option AV) (S' : ST), post v S' → At X cells slots (pc + 3) lv (v.toList ++ rest) S') (hcf : cells ≤ X.1.2.2.2.1.cells := by first | exact Nat.zero_le _ | assumption) (hsf : slots ≤ X.1.2.2.2.1.slots := by first | exact Nat.zero_le _ | assumption) : At X cells slots pc lv st S := by
  subst hst
  obtain ⟨⟨p, l, e, R, s⟩, ⟨m, args, below, meth, c⟩, Q, ⟨D, cy, ad⟩, ⟨A, nL⟩⟩ := X
  obtain ⟨hx, hb, hml, hown, hts, hK, hAd, hAi, hAs, hNw, hR, hnL⟩ := C
  intro H locs ls hP hS hl
  have hpre := pr_pre (as := as) hP hK hNw
  refine c_go (rest := rest) hK hAi hAs hS hl (va_runSN (As := as.map (tv ad)) ⟨hx, hb, hml, hown, hts⟩ (hM l D cy ad H.size hAd) (⟨va_cnB na hts hG hW rfl rfl (hNw.1 _ hNl) (hts _ hIni) hd (rm_fit hR hk hL), hts _ hSt, trivial⟩) hpre rfl (by rw [List.length_map]; exact hna) hl.1 (by first | (simp; done) | (simp; rfl)) (lv_room (by rw [sumc_cat]; exact hsum)) d ⟨hcf, hsf⟩) kk
theorem r_mmax {a b : Int} {idx : Nat} {rest : List AV} (C : Cx X cc own Ts n) (hn : 0 < n) (hlk : Cond.methodLink own idx Lib.Math.max.name ∈ Ts) (hstt : Cond.static Lib.Math.max.name ∈ Ts) (hini : Cond.initialized "java/lang/Math" ∈ Ts) (hcode : Cond.code Lib.Math.max.name Lib.Math.max.code 2 (some .int) ∈ Ts) (ha : -2147483648 ≤ a ∧ a < 2147483648) (hb2 : -2147483648 ≤ b ∧ b < 2147483648) (hsum : sumc rest ≤ 8) (d : decode cc pc = .ok (.invokestatic idx, 3)) (k : At X cells slots (pc + 3) lv (vi (max a b) :: rest) S) (hcf : cells ≤ X.1.2.2.2.1.cells := by first | exact Nat.zero_le _ | assumption) (hsf : slots ≤ X.1.2.2.2.1.slots := by first | exact Nat.zero_le _ | assumption) : At X cells slots pc lv (vi b :: vi a :: rest) S := by
  obtain ⟨⟨p, l, e, R, s⟩, ⟨m, args, below, meth, c⟩, Q, ⟨D, cy, ad⟩, ⟨A, nL⟩⟩ := X
  obtain ⟨hx, hb, hml, hown, hts, hK, hAd, hAi, hAs, hNw, hR, hnL⟩ := C
  intro H locs ls hP hS hl
  have hh := k H locs ls hP hS hl
  have e0 : Int32.ofInt (max a b) = (if Int32.ofInt a < Int32.ofInt b then Int32.ofInt b else Int32.ofInt a) := by
    have h3 := i32_lt ha hb2
    by_cases q : a < b
    · rw [if_pos (h3.mpr q)]; congr 1; omega
    · rw [if_neg (fun z => q (h3.mp z))]; congr 1; omega
  simp only [List.map_cons, tv, e0] at hh
  have hf1 : 1 ≤ R.frames := by omega
  have hl1 : ((rest.map (tv ad)).map fun v => v.category).sum + 13 ≤ R.locals := by rw [sumc_cat]; omega
  exact va_mmax hx hb (hml.trans hl.1.symm) hown (hts _ hlk) (hts _ hstt) (hts _ hini) (hts _ hcode) hf1 hl1 hcf hsf d hh
theorem r_mmin {a b : Int} {idx : Nat} {rest : List AV} (C : Cx X cc own Ts n) (hn : 0 < n) (hlk : Cond.methodLink own idx Lib.Math.min.name ∈ Ts) (hstt : Cond.static Lib.Math.min.name ∈ Ts) (hini : Cond.initialized "java/lang/Math" ∈ Ts) (hcode : Cond.code Lib.Math.min.name Lib.Math.min.code 2 (some .int) ∈ Ts) (ha : -2147483648 ≤ a ∧ a < 2147483648) (hb2 : -2147483648 ≤ b ∧ b < 2147483648) (hsum : sumc rest ≤ 8) (d : decode cc pc = .ok (.invokestatic idx, 3)) (k : At X cells slots (pc + 3) lv (vi (min a b) :: rest) S) (hcf : cells ≤ X.1.2.2.2.1.cells := by first | exact Nat.zero_le _ | assumption) (hsf : slots ≤ X.1.2.2.2.1.slots := by first | exact Nat.zero_le _ | assumption) : At X cells slots pc lv (vi b :: vi a :: rest) S := by
  obtain ⟨⟨p, l, e, R, s⟩, ⟨m, args, below, meth, c⟩, Q, ⟨D, cy, ad⟩, ⟨A, nL⟩⟩ := X
  obtain ⟨hx, hb, hml, hown, hts, hK, hAd, hAi, hAs, hNw, hR, hnL⟩ := C
  intro H locs ls hP hS hl
  have hh := k H locs ls hP hS hl
  have e0 : Int32.ofInt (min a b) = (if Int32.ofInt b < Int32.ofInt a then Int32.ofInt b else Int32.ofInt a) := by
    have h3 := i32_lt hb2 ha
    by_cases q : b < a
    · rw [if_pos (h3.mpr q)]; congr 1; omega
    · rw [if_neg (fun z => q (h3.mp z))]; congr 1; omega
  simp only [List.map_cons, tv, e0] at hh
  have hf1 : 1 ≤ R.frames := by omega
  have hl1 : ((rest.map (tv ad)).map fun v => v.category).sum + 13 ≤ R.locals := by rw [sumc_cat]; omega
  exact va_mmin hx hb (hml.trans hl.1.symm) hown (hts _ hlk) (hts _ hstt) (hts _ hini) (hts _ hcode) hf1 hl1 hcf hsf d hh
end CALLS
