/-! METHODS THAT MAY THROW (follows vx_ rows of the kit's text of exceptions, over the layer's states) -/
def thStr : List (Nat × String) := [(48, "words is out of range"), (92, "the question has 5 clauses"), (101, "there is no such clause"), (109, "the clause has 6 literals"), (147, "index is out of range"), (169, "there is no such document"), (171, "there is no such word"), (173, "kind is out of range"), (175, "need is out of range"), (181, "there is no run"), (192, "place is out of range")]
def thEx : List String := ["java/lang/IndexOutOfBoundsException", "java/lang/IllegalArgumentException", "java/lang/IllegalStateException"]
def thUp : List String := ["java/lang/RuntimeException", "java/lang/Exception"]
def thD : List String := ["java/lang/RuntimeException", "java/lang/Exception", "java/lang/Throwable"]
def XOK (A : Addr → Prop) (U : State) : Prop :=
  (∀ q ∈ thStr, ∃ sa, vk_R RX10 q.1 q.2 sa U) ∧ (∀ x ∈ thD, va_Nw (.declares (Bundle.initS x)) U) ∧ (∀ x ∈ thEx, va_Nw (.castable x x) U) ∧
  vx_Zq Bundle.tN "UNASSIGNED_STACK" Bundle.steD A U U.heap ∧ vx_Zq Bundle.tN "SUPPRESSED_SENTINEL" Bundle.listD A U U.heap
theorem XOK.moved {A B : Addr → Prop} {s U : State} {H : Heap} {locs : List Loc} (hW : s.WarmedH U.vm) (hU : U.heap = H) (hS : va_S A s.heap H locs) (hB : ∀ q, B q → A q) (h : XOK A s) : XOK B U := by
  obtain ⟨a, b, c, d, e⟩ := h
  refine ⟨fun q hq => ?_, fun x hx => va_Nw.warmD hW (b x hx), fun x hx => va_Nw.warmC hW (c x hx), ?_, ?_⟩
  · obtain ⟨sa, h⟩ := a q hq
    exact ⟨sa, vk_R.warm hW h⟩
  · rw [hU]; exact vx_Zq.narrow (vx_Zq.moved hW.alike (vx_Zq.kept d hS.2.1)) hB
  · rw [hU]; exact vx_Zq.narrow (vx_Zq.moved hW.alike (vx_Zq.kept e hS.2.1)) hB
theorem XOK.same {A : Addr → Prop} {s U : State} (hv : U.vm = s.vm) (hh : U.heap = s.heap) (h : XOK A s) : XOK A U := by
  obtain ⟨a, b, c, d, e⟩ := h
  have hA : s.vm.Alike U.vm := by rw [hv]; exact Vm.Alike.refl s.vm
  refine ⟨fun q hq => ?_, fun x hx => va_Nw.same rfl hv.symm (b x hx), fun x hx => va_Nw.same rfl hv.symm (c x hx), ?_, ?_⟩
  · obtain ⟨sa, h⟩ := a q hq
    exact ⟨sa, vk_R.same hv h⟩
  · rw [hh]; exact vx_Zq.moved hA d
  · rw [hh]; exact vx_Zq.moved hA e
def PrX (D : va_G) (cy : Nat → ClassId) (ad : Idn → Nat) (S : ST) (sz : Nat) (U : State) : Prop := Pr D cy ad S sz U ∧ XOK (AA ad sz) U
def XQ (D : va_G) (cy : Nat → ClassId) (ad : Idn → Nat) (A : Addr → Prop) (px : String → ST → Prop) : String → State → State → Prop := vx_X (S := ST) (fun _ => True) (fun E u t => px E u ∧ va_P D vwCl (wl cy ad (hp u)) t.heap ∧ va_K D vwCl (tysOf cy) t) A
def rmX (n k : Nat) : Room := { frames := n, cells := k, slots := 6 * k, locals := 40 * n }
def CtX (y : MethodName) (ws : List Cond) (n k : Nat) (args : List AV) (S : ST) (post : Option AV → ST → Prop) (px : String → ST → Prop) : Prop := ∀ (l : Launch) (D : va_G) (cy : Nat → ClassId) (ad : Idn → Nat) (sz : Nat), l.stackTraces = false → AdOK ad → vx_Met l y ws (rmX n k) (va_Pc (args.map (tv ad)) (PrX D cy ad S sz)) (Qq D cy ad (AA ad sz) post) (XQ D cy ad (AA ad sz) px) k (6 * k) (AA ad sz)
def Tx (X : XT) (ret : Option FieldType) (post : Option AV → ST → Prop) (px : String → ST → Prop) (k : Nat) : Prop := match X with
  | ((p, l, e, R, s), (m, args, below, meth, c), Q, (D, cy, ad), (A, nL)) => Q = vx_MQ below (Qq D cy ad A post) (XQ D cy ad A px) args s k (6 * k) A ∧ meth.sig.returnType = ret ∧ meth.locks = false ∧ (∀ x ∈ c.exceptionTable.toList, False) ∧ l.stackTraces = false ∧ (k ≤ R.cells ∧ 6 * k ≤ R.slots) ∧ XOK A s
theorem CtX.of {y : MethodName} {ws ws' : List Cond} {cc : ByteArray} {nL n k : Nat} {ret : Option FieldType} {as : List AV} {S : ST} {post : Option AV → ST → Prop} {px : String → ST → Prop}
    (hy : plainName y.cls = true) (hw : ws = .code y cc nL ret :: ws') (ha : sumc as ≤ nL) (hnL : nL < 64)
    (body : ∀ X : XT, Cx X cc y.cls ws n → Tx X ret post px k → X.2.2.2.2.2 = nL → At X 0 0 0 (lva 0 as) [] S) : CtX y ws n k as S post px := by
  intro l D cy ad sz hst hAd
  refine vx_ofW (cc := cc) (maxL := nL) (ret := ret) hy hw ?_
  intro p e s m args below meth c s₁ B hml ht hv
  obtain ⟨rfl, ⟨hsz, hP, hK, hNw⟩, hX⟩ := hv
  subst hsz
  have hts := atoms_spec (ws := ws) B.pre
  have hown : s.vm.findClass y.cls = some m.cls := findClass_of_methodNamed B.named
  have hl := lv_entry (as.map (tv ad)) (n := nL) (by rw [sl_len]; exact ha)
  rw [lva_map] at hl
  rw [lg_entry_eq]
  exact body ((p, l, e, (headSpec ws (rmX n k)).room, s), (m, _, below, meth, c), _, (D, cy, ad), (AA ad s.heap.size, nL)) ⟨B.exec, B.bytes, hml, hown, hts, hK, hAd, fun i hi => Or.inl ⟨i, hi, rfl⟩, fun q hq => Or.inr hq, hNw, ⟨Nat.le_refl _, Nat.le_refl _⟩, hnL⟩ ⟨rfl, B.returns, B.notSynchronized, ht, hst, ⟨Nat.le_refl _, Nat.le_refl _⟩, hX⟩ rfl s.heap [] _ hP va_S.rf hl
theorem prX_pre {S : ST} {D : va_G} {cy : Nat → ClassId} {ad : Idn → Nat} {as : List AV} {s : State} {H : Heap} {A : Addr → Prop} {locs : List Loc} (hAi : ∀ i ∈ ids, A (ad i)) (hAs : ∀ q, s.heap.size ≤ q → A q) (hS : va_S A s.heap H locs) (hP : va_P D vwCl (wl cy ad (hp S)) H) (hK : va_K D vwCl (tysOf cy) s) (hNw : NwOK s) (hX : XOK A s) :
    FrameBlind (va_Pc (as.map (tv ad)) (PrX D cy ad S H.size)) ∧ ∀ U : State, U.heap = H → s.WarmedH U.vm → va_Pc (as.map (tv ad)) (PrX D cy ad S H.size) (as.map (tv ad)).toArray U :=
  ⟨fun a U g mk q => by
    obtain ⟨q0, ⟨q1, qP, qK, qN⟩, qX⟩ := q
    exact ⟨q0, ⟨q1, qP, va_K.moved (u := U) (U := U.calling g mk a) (Vm.Alike.refl U.vm) qK, NwOK.same (s := U) (U := U.calling g mk a) rfl qN⟩, XOK.same (s := U) (U := U.calling g mk a) rfl rfl qX⟩,
   fun U hU hW => ⟨rfl, ⟨by rw [hU], by rw [hU]; exact hP, va_K.moved hW.alike hK, NwOK.moved hW hNw⟩, by
    rw [← hU]
    have := XOK.moved hW hU hS (AA_in hAi hAs hS) hX
    rw [hU]; exact this⟩⟩
theorem rmX_fit {n k kx nL' : Nat} {R : Room} (hR : n ≤ R.frames ∧ 40 * n ≤ R.locals) (hk : k < n) (hL : nL' ≤ 21) : (rmX k kx).frames + 1 ≤ R.frames ∧ 8 + (nL' + 11) + (rmX k kx).locals ≤ R.locals := by
  show k + 1 ≤ R.frames ∧ 8 + (nL' + 11) + 40 * k ≤ R.locals
  omega
section XR
variable {X : XT} {cc : ByteArray} {own : String} {Ts : List Cond} {n k cells slots pc : Nat} {lv : List (Nat × AV)} {st : List AV} {S : ST} {post : Option AV → ST → Prop} {px : String → ST → Prop}
theorem Tx.room {ret : Option FieldType} (T : Tx X ret post px k) : k ≤ X.1.2.2.2.1.cells ∧ 6 * k ≤ X.1.2.2.2.1.slots := by
  obtain ⟨⟨p, l, e, R, s⟩, ⟨m, args, below, meth, c⟩, Q, ⟨D, cy, ad⟩, ⟨A, nL⟩⟩ := X
  exact T.2.2.2.2.2.1
theorem x_iret {z : Int} (C : Cx X cc own Ts n) (T : Tx X (some .int) post px k) (hc : cells ≤ k) (hs : slots ≤ 6 * k) (hq : post (some (vi z)) S) (d : decode cc pc = .ok (.ireturn, 1)) : At X cells slots pc lv [vi z] S := by
  obtain ⟨⟨p, l, e, R, s⟩, ⟨m, args, below, meth, c⟩, Q, ⟨D, cy, ad⟩, ⟨A, nL⟩⟩ := X
  obtain ⟨hx, hb, hml, hown, hts, hK, hAd, hAi, hAs, hNw, hR, hnL⟩ := C
  obtain ⟨rfl, hr, hlk, -⟩ := T
  intro H locs ls hP hS hl
  exact vx_ret (W.widen hc hs (W.iret hx hb hr (fun t ht hW => ⟨⟨some (vi z), S, rfl, hq, by rw [ht]; exact hP, va_K.moved hW.alike hK⟩, hS.F ht⟩) hS.2.2 d hlk))
theorem x_zret {z : Int} (C : Cx X cc own Ts n) (T : Tx X (some .boolean) post px k) (hz : z = 0 ∨ z = 1) (hc : cells ≤ k) (hs : slots ≤ 6 * k) (hq : post (some (vi z)) S) (d : decode cc pc = .ok (.ireturn, 1)) : At X cells slots pc lv [vi z] S := by
  obtain ⟨⟨p, l, e, R, s⟩, ⟨m, args, below, meth, c⟩, Q, ⟨D, cy, ad⟩, ⟨A, nL⟩⟩ := X
  obtain ⟨hx, hb, hml, hown, hts, hK, hAd, hAi, hAs, hNw, hR, hnL⟩ := C
  obtain ⟨rfl, hr, hlk, -⟩ := T
  intro H locs ls hP hS hl
  exact vx_ret (W.widen hc hs (W.zret hx hb hr (by rcases hz with rfl | rfl <;> rfl) (fun t ht hW => ⟨⟨some (vi z), S, rfl, hq, by rw [ht]; exact hP, va_K.moved hW.alike hK⟩, hS.F ht⟩) hS.2.2 d hlk))
theorem x_vret  (C : Cx X cc own Ts n) (T : Tx X none post px k) (hc : cells ≤ k) (hs : slots ≤ 6 * k) (hq : post (none) S) (d : decode cc pc = .ok (.return_, 1)) : At X cells slots pc lv [] S := by
  obtain ⟨⟨p, l, e, R, s⟩, ⟨m, args, below, meth, c⟩, Q, ⟨D, cy, ad⟩, ⟨A, nL⟩⟩ := X
  obtain ⟨hx, hb, hml, hown, hts, hK, hAd, hAi, hAs, hNw, hR, hnL⟩ := C
  obtain ⟨rfl, hr, hlk, -⟩ := T
  intro H locs ls hP hS hl
  exact vx_ret (W.widen hc hs (W.vret hx hb hr (fun t ht hW => ⟨⟨none, S, rfl, hq, by rw [ht]; exact hP, va_K.moved hW.alike hK⟩, hS.F ht⟩) hS.2.2 d hlk))
theorem x_aret {o : Option Idn} {C0 : String} (C : Cx X cc own Ts n) (T : Tx X (some (.object C0)) post px k) (hc : cells ≤ k) (hs : slots ≤ 6 * k) (hq : post (some (vr o)) S) (d : decode cc pc = .ok (.areturn, 1)) : At X cells slots pc lv [vr o] S := by
  obtain ⟨⟨p, l, e, R, s⟩, ⟨m, args, below, meth, c⟩, Q, ⟨D, cy, ad⟩, ⟨A, nL⟩⟩ := X
  obtain ⟨hx, hb, hml, hown, hts, hK, hAd, hAi, hAs, hNw, hR, hnL⟩ := C
  obtain ⟨rfl, hr, hlk, -⟩ := T
  intro H locs ls hP hS hl
  exact vx_ret (W.widen hc hs (W.aret hx hb hr (Or.inl ⟨C0, rfl⟩) (va_rf_or _) (fun t ht hW => ⟨⟨some (vr o), S, rfl, hq, by rw [ht]; exact hP, va_K.moved hW.alike hK⟩, hS.F ht⟩) hS.2.2 d hlk))
theorem x_throw {ret : Option FieldType} {is ik ic : Nat} {text cls : String} (C : Cx X cc RX10 Ts n) (T : Tx X ret post px k) (hcl : cls ∈ thEx) (hfit : Bundle.fit cls = true) (hstr : (is, text) ∈ thStr)
    (hin : ∀ w ∈ Cond.classLink RX10 ik cls :: Cond.initialized cls :: (vx_atS RX10 ic cls thUp).filter goodWord, w ∈ Ts)
    (hng : ∀ w ∈ (vx_atS RX10 ic cls thUp).filter (fun w => !goodWord w), w ∈ (thD.map (fun x => Cond.declares (Bundle.initS x)) ++ [Cond.castable cls cls]))
    (hgd : ∀ w ∈ Cond.classLink RX10 ik cls :: Cond.initialized cls :: vx_atS RX10 ic cls thUp, vx_ot w = true)
    (d0 : decode cc pc = .ok (.new ik, 3)) (d3 : decode cc (pc + 3) = .ok (.dup, 1)) (d4 : decode cc (pc + 4) = .ok (.ldc is, 2)) (d6 : decode cc (pc + 6) = .ok (.invokespecial ic, 3)) (d9 : decode cc (pc + 9) = .ok (.athrow, 1))
    (hn : 3 ≤ n) (hf : 5 < n) (hsum : sumc st ≤ 8) (hc : cells + 1 ≤ k) (hs : slots + 6 ≤ 6 * k) (hpx : px cls S) : At X cells slots pc lv st S := by
  obtain ⟨⟨p, l, e, R, s⟩, ⟨m, args, below, meth, c⟩, Q, ⟨D, cy, ad⟩, ⟨A, nL⟩⟩ := X
  obtain ⟨hx, hb, hml, hown, hts, hK, hAd, hAi, hAs, hNw, hR, hnL⟩ := C
  obtain ⟨rfl, hr, hlk, htab, hst, hRoom, hX1, hX2, hX3, hX4, hX5⟩ := T
  obtain ⟨sa, hsa⟩ := hX1 _ hstr
  intro H locs ls hP hS hl
  have hw : ∀ w ∈ Cond.classLink RX10 ik cls :: Cond.initialized cls :: (vx_atS RX10 ic cls thUp).filter goodWord, w.before args s = true := fun w h => hts w (hin w h)
  refine vx_throwS (names := thUp) hx hb hst hown hfit (by decide +kernel) (hw _ List.mem_cons_self) (hw _ (List.mem_cons_of_mem _ List.mem_cons_self)) hsa ?_ hgd hX4 hX5 hS (hl.1.trans hml.symm) d0 d3 d4 d6 d9
    (fun x h => (htab x h).elim) (show 2 + 3 < R.frames by omega) ?_ (Nat.le_trans hc hRoom.1) (Nat.le_trans hs hRoom.2) hlk ?_ hS.2.2 hc hs
  · refine vx_hat (fun w h => hw w (List.mem_cons_of_mem _ (List.mem_cons_of_mem _ h))) hng ?_
    intro w h
    rcases List.mem_append.mp h with h | h
    · obtain ⟨x, h1, rfl⟩ := List.mem_map.mp h
      exact va_Nw.use rfl (hX2 x h1)
    · rw [List.mem_singleton.mp h]
      exact va_Nw.use rfl (hX3 cls hcl)
  · rw [sumc_cat]
    show sumc st + (13 * (2 + 1) + 43) ≤ R.locals
    omega
  · intro t hal hsz hkp
    refine ⟨S, trivial, ⟨hpx, hP.kept (fun j q hj => hkp _ (vx_lt hP hj)), va_K.moved hal hK⟩, Nat.le_trans hS.1 hsz, fun q h1 h2 => ?_⟩
    rw [hkp q (Nat.lt_of_lt_of_le h1 hS.1)]
    exact hS.2.1 q h1 h2
theorem xc_go {p : Program} {l : Launch} {e : Env} {R : Room} {s : State} {m : MethodId} {args : Array Value} {below : List Frame} {meth : Method} {c : Code} {Q : State → Prop} {D : va_G} {cy : Nat → ClassId} {ad : Idn → Nat} {A : Addr → Prop} {nL kx : Nat} {H : Heap} {locs : List Loc} {ls : Array Slot} {st0 : List Value} {rest : List AV} {a : Array Value}
    (hAi : ∀ i ∈ ids, A (ad i)) (hAs : ∀ q, s.heap.size ≤ q → A q) (hS : va_S A s.heap H locs) (hl : lv_has ls nL (lv.map (fun q => (q.1, tv ad q.2))))
    (hr : vx_Run p l e R s m args below meth c H locs cells slots kx (6 * kx) (F0 m pc ls st0) (rest.map (tv ad)) (Qq D cy ad (AA ad H.size) post a) (XQ D cy ad (AA ad H.size) px) (AA ad H.size))
    (k : ∀ (v : Option AV) (S' : ST), post v S' → At ((p, l, e, R, s), (m, args, below, meth, c), Q, (D, cy, ad), (A, nL)) (cells + kx) (slots + 6 * kx) (pc + 3) lv (v.toList ++ rest) S')
    (kxx : ∀ (E : String) (S' : ST), px E S' → ∀ (H1 : Heap) (locs1 : List Loc) (q : Addr) (ce : Cell), va_P D vwCl (wl cy ad (hp S')) H1 → va_S A s.heap H1 locs1 → H1[q]? = some ce → ce.vm = .none → s.vm.findClass E = some ce.cls → vx_W p l e R s m args below meth c H1 locs1 (cells + kx) (slots + 6 * kx) Q (F0 m pc ls (rest.map (tv ad))) q) : W p l e R s m args below meth c H locs cells slots Q (F0 m pc ls st0) := by
  intro T hT Xs
  have hin := AA_in hAi hAs hS
  rcases hr T hT Xs with ⟨v, st₀, t, T', L, h0, X', hL, e1, e2, ⟨⟨w, S', hv, hp, hw, hk1⟩, hz, hk⟩, stp⟩ | ⟨q, st₀, t, T', L, E, ce, h0, X', hL, e1, e2, ⟨S', -, ⟨hp, hw, hk1⟩, hz, hk⟩, hce, hcv, hcl, stp⟩
  · cases hv
    rw [h0] at hz hk
    have hS' : va_S A s.heap T'.heap (locs ++ L) := ⟨Nat.le_trans hS.1 (by rw [e1]; exact hz), fun q h1 h2 => by rw [e1, hk q (Nat.lt_of_lt_of_le h1 hS.1) (fun z => h2 (hin q z))]; exact hS.2.1 q h1 h2, fun q hq => by
      rcases List.mem_append.mp hq with h | h
      · exact hS.2.2 q h
      · exact hin _ (hL q h)⟩
    obtain ⟨t2, a1, b1⟩ := k w S' hp T'.heap (locs ++ L) ls (by rw [e1]; exact hw) hS' hl T' rfl X'
    refine ⟨t2, stp t2 ?_, b1⟩
    have e3 : (w.toList ++ rest).map (tv ad) = (w.map (tv ad)).toList ++ rest.map (tv ad) := by cases w <;> rfl
    rw [e3] at a1
    exact a1
  · rw [h0] at hz hk
    have hS' : va_S A s.heap T'.heap (locs ++ L) := ⟨Nat.le_trans hS.1 (by rw [e1]; exact hz), fun q h1 h2 => by rw [e1, hk q (Nat.lt_of_lt_of_le h1 hS.1) (fun z => h2 (hin q z))]; exact hS.2.1 q h1 h2, fun q hq => by
      rcases List.mem_append.mp hq with h | h
      · exact hS.2.2 q h
      · exact hin _ (hL q h)⟩
    obtain ⟨t2, a1, b1⟩ := kxx E S' hp T'.heap (locs ++ L) q ce (by rw [e1]; exact hw) hS' (by rw [e1]; exact hce) hcv hcl T' rfl X'
    exact ⟨t2, stp.trans a1, b1⟩
/-- a call that may throw, out of a method that lets it go on to its caller -/
theorem x_callV {idx kl kx nL' na : Nat} {y : MethodName} {ws ws' : List Cond} {bytes : ByteArray} {ret ret0 : Option FieldType} {as rest : List AV} {i : Idn} {ci N : Nat} {Cn : String} {T0 : u_T} {fs : List AV} {post' : Option AV → ST → Prop} {px' : String → ST → Prop} (C : Cx X cc own Ts n) (T : Tx X ret0 post px k) (hi : i ∈ ids) (hc : hp S i = .inl (ci, fs)) (hcl : vwCl[ci]? = some (Cn, T0, N)) (hM : CtX y ws kl kx (vr (some i) :: as) S post' px') (hG : GoodIn Ts (wsV own idx Cn y ws)) (hd : y.cls = Cn ∧ y.cls ≠ "java/lang/invoke/MethodHandle" ∧ y.cls ≠ "java/lang/invoke/VarHandle" ∧ (parseMethodDescriptor y.desc).map (fun d => d.parameters.length) = some na) (hk : kl < n) (hL : nL' ≤ 21) (hna : as.length = na) (hsum : sumc rest ≤ 8) (hW : ws = .code y bytes nL' ret :: ws') (d : decode cc pc = .ok (.invokevirtual idx, 3)) (hst : st = as.reverse ++ vr (some i) :: rest) (hck : cells + kx ≤ k) (hsk : slots + 6 * kx ≤ 6 * k) (hpp : ∀ (E : String) (S' : ST), px' E S' → px E S') (kk : ∀ (v : Option AV) (S' : ST), post' v S' → At X (cells + kx) (slots + 6 * kx) (pc + 3) lv (v.toList ++ rest) S') : At X cells slots pc lv st S := by
  subst hst
  obtain ⟨⟨p, l, e, R, s⟩, ⟨m, args, below, meth, c⟩, Q, ⟨D, cy, ad⟩, ⟨A, nL⟩⟩ := X
  obtain ⟨hx, hb, hml, hown, hts, hK, hAd, hAi, hAs, hNw, hR, hnL⟩ := C
  obtain ⟨rfl, hr, hlk, htab, hstk, hRoom, hX⟩ := T
  intro H locs ls hP hS hl
  have hpre := prX_pre (as := vr (some i) :: as) hAi hAs hS hP hK hNw hX
  refine xc_go (rest := rest) hAi hAs hS hl (vx_runV (As := as.map (tv ad)) ⟨hx, hb, hml, hown, hts⟩ (hM l D cy ad H.size hstk hAd) (cwV na hts hG hW rfl rfl hd (rmX_fit hR hk hL)) ⟨hpre.1, (by
    obtain ⟨q0, h0, h1⟩ := wl_get (cy := cy) (ad := ad) (h := hp S) hi
    rw [hc] at h1
    exact va_recv hK hP hcl h1), hpre.2⟩ rfl (by rw [List.length_map]; exact hna) hl.1 (by first | (simp; done) | (simp; rfl)) (lv_room (by rw [sumc_cat]; exact hsum)) d ⟨Nat.le_trans hck hRoom.1, Nat.le_trans hsk hRoom.2⟩) kk ?_
  intro E S' hE H1 locs1 q ce hP1 hS1 hce hcv hcls
  exact vx_out (fun x h => (htab x h).elim) hlk hce hcv hcls (fun t ht hal => ⟨S', trivial, ⟨hpp E S' hE, by rw [ht]; exact hP1, va_K.moved hal hK⟩, by rw [ht]; exact hS1.1, fun q h1 h2 => by rw [ht]; exact hS1.2.1 q h1 h2⟩) hS1.2.2 hck hsk
end XR
