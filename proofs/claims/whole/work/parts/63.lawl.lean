/-! THE LAW: methods that catch, and its own rules -/
def NcOK (U : State) : Prop := ∀ x ∈ thEx, ∀ y ∈ thEx, x ≠ y → va_Nc x y U
theorem NcOK.moved {s U : State} (hv : s.vm.Alike U.vm) (h : NcOK s) : NcOK U := fun x hx y hy hxy => (h x hx y hy hxy).moved hv
def PrH (D : va_G) (cy : Nat → ClassId) (ad : Idn → Nat) (S : ST) (sz : Nat) (U : State) : Prop := PrX D cy ad S sz U ∧ NcOK U
def CtH (y : MethodName) (ws : List Cond) (n k : Nat) (args : List AV) (S : ST) (post : Option AV → ST → Prop) : Prop := ∀ (l : Launch) (D : va_G) (cy : Nat → ClassId) (ad : Idn → Nat) (sz : Nat), l.stackTraces = false → AdOK ad → vx_Met l y ws (rmX n k) (va_Pc (args.map (tv ad)) (PrH D cy ad S sz)) (Qq D cy ad (AA ad sz) post) (fun _ _ _ => False) k (6 * k) (AA ad sz)
def Hx (X : XT) (ret : Option FieldType) (post : Option AV → ST → Prop) (k : Nat) (hh : List (Nat × Nat × Nat × Nat)) : Prop := match X with
  | ((p, l, e, R, s), (m, args, below, meth, c), Q, (D, cy, ad), (A, nL)) => Q = vx_MQ below (Qq D cy ad A post) (fun _ _ _ => False) args s k (6 * k) A ∧ meth.sig.returnType = ret ∧ meth.locks = false ∧ c.exceptionTable.toList = tableOf hh ∧ l.stackTraces = false ∧ (k ≤ R.cells ∧ 6 * k ≤ R.slots) ∧ XOK A s ∧ NcOK s
theorem CtH.of {y : MethodName} {ws ws' : List Cond} {cc : ByteArray} {nL n k : Nat} {ret : Option FieldType} {hh : List (Nat × Nat × Nat × Nat)} {as : List AV} {S : ST} {post : Option AV → ST → Prop}
    (hy : plainName y.cls = true) (hw : ws = .codeWith y cc nL ret hh :: ws') (ha : sumc as ≤ nL) (hnL : nL < 64)
    (body : ∀ X : XT, Cx X cc y.cls ws n → Hx X ret post k hh → X.2.2.2.2.2 = nL → At X 0 0 0 (lva 0 as) [] S) : CtH y ws n k as S post := by
  intro l D cy ad sz hst hAd
  refine vx_ofWH (cc := cc) (maxL := nL) (ret := ret) (hh := hh) hy hw ?_
  intro p e s m args below meth c s₁ B hml hv
  obtain ⟨rfl, ⟨⟨hsz, hP, hK, hNw⟩, hX⟩, hNc⟩ := hv
  subst hsz
  have hts := atoms_spec (ws := ws) B.pre
  have hown : s.vm.findClass y.cls = some m.cls := findClass_of_methodNamed B.named
  have ht := vx_table (x := y) B (hts _ (by rw [hw]; exact List.mem_cons_self))
  have hl := lv_entry (as.map (tv ad)) (n := nL) (by rw [sl_len]; exact ha)
  rw [lva_map] at hl
  rw [lg_entry_eq]
  exact body ((p, l, e, (headSpec ws (rmX n k)).room, s), (m, _, below, meth, c), _, (D, cy, ad), (AA ad s.heap.size, nL)) ⟨B.exec, B.bytes, hml, hown, hts, hK, hAd, fun i hi => Or.inl ⟨i, hi, rfl⟩, fun q hq => Or.inr hq, hNw, ⟨Nat.le_refl _, Nat.le_refl _⟩, hnL⟩ ⟨rfl, B.returns, B.notSynchronized, ht, hst, ⟨Nat.le_refl _, Nat.le_refl _⟩, hX, hNc⟩ rfl s.heap [] _ hP va_S.rf hl
/-- at a handler, an exception on the stack -/
def HA (X : XT) (cells slots pc : Nat) (lv : List (Nat × AV)) (S : ST) : Prop := match X with
  | ((p, l, e, R, s), (m, args, below, meth, c), Q, (D, cy, ad), (A, nL)) => ∀ (q : Addr) (H : Heap) (locs : List Loc) (ls : Array Slot), va_P D vwCl (wl cy ad (hp S)) H → va_S A s.heap H locs → lv_has ls nL (lv.map (fun q => (q.1, tv ad q.2))) → W p l e R s m args below meth c H locs cells slots Q (F0 m pc ls [.ref q])
section HR
variable {X : XT} {cc : ByteArray} {own : String} {Ts : List Cond} {n k cells slots pc : Nat} {lv : List (Nat × AV)} {st : List AV} {S : ST} {post : Option AV → ST → Prop} {hh : List (Nat × Nat × Nat × Nat)}
theorem ls_fil {ls : Array Slot} {nL i : Nat} {ad : Idn → Nat} {v : Value} {lv lv' : List (Nat × AV)} (h : lv_has ls nL ((i, v) :: (lv.map (fun q => (q.1, tv ad q.2))).filter (fun q => !(q.1 == i) && !(q.1 + 1 == i && q.2.category == 2)))) (hs : ∀ q ∈ lv', q ∈ lv ∧ ¬ q.1 = i ∧ catA q.2 = 1) : lv_has ls nL (lv'.map (fun q => (q.1, tv ad q.2))) := ⟨h.1, h.2.1, fun q hq => by
  obtain ⟨r, hr, rfl⟩ := List.mem_map.mp hq
  obtain ⟨h1, h2, h3⟩ := hs r hr
  refine h.2.2 _ (List.mem_cons_of_mem _ (List.mem_filter.mpr ⟨List.mem_map.mpr ⟨r, h1, rfl⟩, ?_⟩))
  have e1 : (r.1 == i) = false := by simp [h2]
  have e2 : (catA r.2 == 2) = false := by rw [h3]; rfl
  simp only [tv_cat]
  rw [e1, e2, Bool.and_false]
  rfl⟩
theorem ha_astore (C : Cx X cc own Ts n) {i : Nat} {lv' : List (Nat × AV)} (d : decode cc pc = .ok (.astore i, 2)) (hn : i < X.2.2.2.2.2) (hs : ∀ q ∈ lv', q ∈ lv ∧ ¬ q.1 = i ∧ catA q.2 = 1) (k : At X cells slots (pc + 2) lv' [] S) : HA X cells slots pc lv S := by
  obtain ⟨⟨p, l, e, R, s⟩, ⟨m, args, below, meth, c⟩, Q, ⟨D, cy, ad⟩, ⟨A, nL⟩⟩ := X
  obtain ⟨hx, hb, hml, hown, hts, hK, hAd, hAi, hAs, hNw, hR, hnL⟩ := C
  intro q H locs ls hP hS hl
  exact lv_astore hx hb d hl hn rfl (fun ls hl => k H locs ls hP hS (ls_fil hl hs))
theorem ha_astore_n (C : Cx X cc own Ts n) {j : Fin 4} {i : Nat} {lv' : List (Nat × AV)} (d : decode cc pc = .ok (.astore_n j, 1)) (hi : (j : Nat) = i) (hn : i < X.2.2.2.2.2) (hs : ∀ q ∈ lv', q ∈ lv ∧ ¬ q.1 = i ∧ catA q.2 = 1) (k : At X cells slots (pc + 1) lv' [] S) : HA X cells slots pc lv S := by
  obtain ⟨⟨p, l, e, R, s⟩, ⟨m, args, below, meth, c⟩, Q, ⟨D, cy, ad⟩, ⟨A, nL⟩⟩ := X
  obtain ⟨hx, hb, hml, hown, hts, hK, hAd, hAi, hAs, hNw, hR, hnL⟩ := C
  intro q H locs ls hP hS hl
  exact lv_astore_n hx hb d hi hl hn rfl (fun ls hl => k H locs ls hP hS (ls_fil hl hs))
theorem h_iret {z : Int} (C : Cx X cc own Ts n) (T : Hx X (some .int) post k hh) (hc : cells ≤ k) (hs : slots ≤ 6 * k) (hq : post (some (vi z)) S) (d : decode cc pc = .ok (.ireturn, 1)) : At X cells slots pc lv [vi z] S := by
  obtain ⟨⟨p, l, e, R, s⟩, ⟨m, args, below, meth, c⟩, Q, ⟨D, cy, ad⟩, ⟨A, nL⟩⟩ := X
  obtain ⟨hx, hb, hml, hown, hts, hK, hAd, hAi, hAs, hNw, hR, hnL⟩ := C
  obtain ⟨rfl, hr, hlk, -⟩ := T
  intro H locs ls hP hS hl
  exact vx_ret (W.widen hc hs (W.iret hx hb hr (fun t ht hW => ⟨⟨some (vi z), S, rfl, hq, by rw [ht]; exact hP, va_K.moved hW.alike hK⟩, hS.F ht⟩) hS.2.2 d hlk))
/-- a call that may throw, and what it throws is caught here -/
theorem h_callV {idx kl kx nL' na : Nat} {y : MethodName} {ws ws' : List Cond} {bytes : ByteArray} {ret ret0 : Option FieldType} {as rest : List AV} {i : Idn} {ci N : Nat} {Cn : String} {T0 : u_T} {fs : List AV} {post' : Option AV → ST → Prop} {px' : String → ST → Prop} (C : Cx X cc RL Ts n) (T : Hx X ret0 post k hh) (hi : i ∈ ids) (hc : hp S i = .inl (ci, fs)) (hcl : vwCl[ci]? = some (Cn, T0, N)) (hM : CtX y ws kl kx (vr (some i) :: as) S post' px') (hG : GoodIn Ts (wsV RL idx Cn y ws)) (hd : y.cls = Cn ∧ y.cls ≠ "java/lang/invoke/MethodHandle" ∧ y.cls ≠ "java/lang/invoke/VarHandle" ∧ (parseMethodDescriptor y.desc).map (fun d => d.parameters.length) = some na) (hk : kl < n) (hL : nL' ≤ 21) (hna : as.length = na) (hsum : sumc rest ≤ 8) (hW : ws = .code y bytes nL' ret :: ws') (d : decode cc pc = .ok (.invokevirtual idx, 3)) (hst : st = as.reverse ++ vr (some i) :: rest) (hck : cells + kx ≤ k) (hsk : slots + 6 * kx ≤ 6 * k)
    (kk : ∀ (v : Option AV) (S' : ST), post' v S' → At X (cells + kx) (slots + 6 * kx) (pc + 3) lv (v.toList ++ rest) S')
    (kx9 : ∀ (E : String) (S' : ST), px' E S' → E ∈ thEx ∧ ∃ (pre : List ExceptionTableEntry) (x : ExceptionTableEntry) (suf : List ExceptionTableEntry), tableOf hh = pre ++ x :: suf ∧ (∀ z ∈ pre, z.catchType ≠ 0 ∧ ∃ nm ∈ thEx, E ≠ nm ∧ Cond.classLink RL z.catchType nm ∈ Ts) ∧ covers x pc = true ∧ x.catchType ≠ 0 ∧ Cond.classLink RL x.catchType E ∈ Ts ∧ HA X (cells + kx) (slots + 6 * kx) x.handlerPc lv S') : At X cells slots pc lv st S := by
  subst hst
  obtain ⟨⟨p, l, e, R, s⟩, ⟨m, args, below, meth, c⟩, Q, ⟨D, cy, ad⟩, ⟨A, nL⟩⟩ := X
  obtain ⟨hx, hb, hml, hown, hts, hK, hAd, hAi, hAs, hNw, hR, hnL⟩ := C
  obtain ⟨rfl, hr, hlk, htab, hstk, hRoom, hX, hNc⟩ := T
  intro H locs ls hP hS hl
  have hpre := prX_pre (as := vr (some i) :: as) hAi hAs hS hP hK hNw hX
  refine xc_go (rest := rest) hAi hAs hS hl (vx_runV (As := as.map (tv ad)) ⟨hx, hb, hml, hown, hts⟩ (hM l D cy ad H.size hstk hAd) (cwV na hts hG hW rfl rfl hd (rmX_fit hR hk hL)) ⟨hpre.1, (by
    obtain ⟨q0, h0, h1⟩ := wl_get (cy := cy) (ad := ad) (h := hp S) hi
    rw [hc] at h1
    exact va_recv hK hP hcl h1), hpre.2⟩ rfl (by rw [List.length_map]; exact hna) hl.1 (by first | (simp; done) | (simp; rfl)) (lv_room (by rw [sumc_cat]; exact hsum)) d ⟨Nat.le_trans hck hRoom.1, Nat.le_trans hsk hRoom.2⟩) kk ?_
  intro E S' hE H1 locs1 q ce hP1 hS1 hce hcv hcls
  obtain ⟨hE1, pre, x, suf, e1, e2, e3, e4, e5, e6⟩ := kx9 E S' hE
  refine vx_catch hown pre x suf (htab.trans e1) (fun z hz => Or.inr ?_) e3 e4 (hts _ e5) (va_Nw.use rfl (hX.2.2.1 E hE1)) hce hcv hcls (e6 q H1 locs1 ls hP1 hS1 hl)
  obtain ⟨z1, nm, z2, z3, z4⟩ := e2 z hz
  exact ⟨z1, nm, hts _ z4, hNc E hE1 nm z2 z3⟩
/-- an int made long, whatever it is -/
def w32 (a : Int) : Int := (Int32.ofInt a).toInt
theorem r_i2lx (C : Cx X cc own Ts n) {a : Int} (d : decode cc pc = .ok (.i2l, 1)) (k : At X cells slots (pc + 1) lv (vl (w32 a) :: st) S) : At X cells slots pc lv (vi a :: st) S := by
  have e : At X cells slots pc lv (vi (w32 a) :: st) S := r_i2l C d (i32_rng _) k
  obtain ⟨⟨p, l, e9, R, s⟩, ⟨m, args, below, meth, c⟩, Q, ⟨D, cy, ad⟩, ⟨A, nL⟩⟩ := X
  intro H locs ls hP hS hl
  have := e H locs ls hP hS hl
  simp only [List.map_cons, tv, w32, i32_of] at this ⊢
  exact this
end HR
/-! the law itself -/
/-- where the law stands: its script at the name (99, 0) -/
def LX (X : XT) (b L : Nat) (xs : Nat → Int32) : Prop := match X with
  | ((p, l, e, R, s), (m, args, below, meth, c), Q, (D, cy, ad), (A, nL)) => args = #[Value.ref b] ∧ R = room_1 ∧ Q = lw_Z below #[Value.ref b] s ∧ meth.sig.returnType = ret ∧ meth.locks = false ∧ (A = fun q : Nat => s.heap.size ≤ q) ∧ ad (99, 0) = b ∧ va_X b L xs s s.heap ∧ b < s.heap.size ∧ l.stackTraces = false ∧ XOK A s ∧ NcOK s ∧ L ≤ 2048
section LR
variable {X : XT} {Ts : List Cond} {n cells slots pc b L : Nat} {xs : Nat → Int32} {lv : List (Nat × AV)} {st : List AV} {S : ST}
theorem l_slen (C : Cx X code RL Ts n) (T : LX X b L xs) (d : decode code pc = .ok (.arraylength, 1)) (k : At X cells slots (pc + 1) lv (vi (L : Int) :: st) S) : At X cells slots pc lv (vr (some (99, 0)) :: st) S := by
  obtain ⟨⟨p, l, e, R, s⟩, ⟨m, args, below, meth, c⟩, Q, ⟨D, cy, ad⟩, ⟨A, nL⟩⟩ := X
  obtain ⟨hx, hb, hml, hown, hts, hK, hAd, hAi, hAs, hNw, hR, hnL⟩ := C
  obtain ⟨rfl, rfl, rfl, hr, hlk, rfl, rfl, hX, hbl, -⟩ := T
  intro H locs ls hP hS hl
  have h := k H locs ls hP hS hl
  refine va_slen hx hb hX hbl (Nat.not_le.mpr hbl) hS d ?_
  have e1 : Int32.ofInt (L : Int) = Int32.ofNat L := Int32.ofInt_eq_ofNat
  simp only [List.map_cons, tv, e1] at h
  exact h
theorem l_sld (C : Cx X code RL Ts n) (T : LX X b L xs) {z : Int} {j : Nat} (hz : z = (j : Int)) (hj : j < L) (d : decode code pc = .ok (.iaload, 1)) (k : At X cells slots (pc + 1) lv (vi (xs j).toInt :: st) S) : At X cells slots pc lv (vi z :: vr (some (99, 0)) :: st) S := by
  obtain ⟨⟨p, l, e, R, s⟩, ⟨m, args, below, meth, c⟩, Q, ⟨D, cy, ad⟩, ⟨A, nL⟩⟩ := X
  obtain ⟨hx, hb, hml, hown, hts, hK, hAd, hAi, hAs, hNw, hR, hnL⟩ := C
  obtain ⟨rfl, rfl, rfl, hr, hlk, rfl, rfl, hX, hbl, -, -, -, hL⟩ := T
  intro H locs ls hP hS hl
  have h := k H locs ls hP hS hl
  subst hz
  have h2 := va_sld (rest := st.map (tv ad)) (pc := pc) (ls := ls) (H := H) (locs := locs) (cells := cells) (slots := slots) (Q := lw_Z below #[Value.ref (ad (99, 0))] s) (R := room_1) (l := l) (e := e) (below := below) (meth := meth) (m := m) (args := #[Value.ref (ad (99, 0))]) (p := p) hx hb hX hbl (Nat.not_le.mpr hbl) hS (i := Int32.ofInt (j : Int)) (i32_in hj (by omega)) d
  rw [i32_cl (by omega)] at h2
  refine h2 ?_
  simp only [List.map_cons, tv, i32_of] at h
  exact h
theorem l_ret (C : Cx X code RL Ts n) (T : LX X b L xs) (hc : cells ≤ 646601) (hs : slots ≤ 7156300) (d : decode code pc = .ok (.ireturn, 1)) : At X cells slots pc lv [vi 1] S := by
  obtain ⟨⟨p, l, e, R, s⟩, ⟨m, args, below, meth, c⟩, Q, ⟨D, cy, ad⟩, ⟨A, nL⟩⟩ := X
  obtain ⟨hx, hb, hml, hown, hts, hK, hAd, hAi, hAs, hNw, hR, hnL⟩ := C
  obtain ⟨rfl, rfl, rfl, hr, hlk, rfl, rfl, hX, hbl, -⟩ := T
  intro H locs ls hP hS hl
  refine va_forget (fun q hq => hS.2.2 q hq) ?_
  refine W.widen hc hs ?_
  exact lw_ret hx hb hr hlk d
/-- one of its own methods, which catch what they call -/
theorem l_callH {idx kl kx nL' na : Nat} {y : MethodName} {ws ws' : List Cond} {bytes : ByteArray} {ret0 : Option FieldType} {hh : List (Nat × Nat × Nat × Nat)} {as rest : List AV} {post : Option AV → ST → Prop} (C : Cx X code RL Ts n) (T : LX X b L xs) (hM : CtH y ws kl kx as S post) (hG : GoodIn Ts (va_wsS RL idx y ws)) (hd : y.cls ≠ "java/lang/invoke/MethodHandle" ∧ y.cls ≠ "java/lang/invoke/VarHandle" ∧ (parseMethodDescriptor y.desc).map (fun d => d.parameters.length) = some na) (hk : kl < n) (hL : nL' ≤ 21) (hna : as.length = na) (hsum : sumc rest ≤ 8) (hW : ws = .codeWith y bytes nL' ret0 hh :: ws') (d : decode code pc = .ok (.invokestatic idx, 3)) (hst : st = as.reverse ++ rest) (hck : cells + kx ≤ 646601) (hsk : slots + 6 * kx ≤ 7156300)
    (kk : ∀ (v : Option AV) (S' : ST), post v S' → At X (cells + kx) (slots + 6 * kx) (pc + 3) lv (v.toList ++ rest) S') : At X cells slots pc lv st S := by
  subst hst
  obtain ⟨⟨p, l, e, R, s⟩, ⟨m, args, below, meth, c⟩, Q, ⟨D, cy, ad⟩, ⟨A, nL⟩⟩ := X
  obtain ⟨hx, hb, hml, hown, hts, hK, hAd, hAi, hAs, hNw, hR, hnL⟩ := C
  obtain ⟨rfl, rfl, rfl, hr, hlk, rfl, rfl, hX, hbl, hstk, hXo, hNc, hLL⟩ := T
  intro H locs ls hP hS hl
  have hpre := prX_pre (as := as) hAi hAs hS hP hK hNw hXo
  have hpre2 : FrameBlind (va_Pc (as.map (tv ad)) (PrH D cy ad S H.size)) ∧ ∀ U : State, U.heap = H → s.WarmedH U.vm → va_Pc (as.map (tv ad)) (PrH D cy ad S H.size) (as.map (tv ad)).toArray U := ⟨fun a U g mk q => by
    have h1 := hpre.1 a U g mk ⟨q.1, q.2.1⟩
    exact ⟨h1.1, h1.2, q.2.2.moved (Vm.Alike.refl U.vm)⟩, fun U hU hW => by
    have h1 := hpre.2 U hU hW
    exact ⟨h1.1, h1.2, hNc.moved hW.alike⟩⟩
  exact xc_go (px := fun _ _ => False) (rest := rest) hAi hAs hS hl (by
    have h9 := vx_runSX (p := p) (l := l) (R := room_1) (s := s) (m := m) (c := c) (e := e) (below := below) (meth := meth) (hh := hh) (As := as.map (tv ad)) (rest := rest.map (tv ad)) (H := H) (locs := locs) (cells := cells) (slots := slots) (g := F0 m pc ls ((as.reverse ++ rest).map (tv ad))) ⟨hx, hb, hml, hown, hts⟩ (hM l D cy ad H.size hstk hAd) (vx_cwSW na hts hG hW rfl rfl hd (rmX_fit hR hk hL)) hpre2 rfl (by rw [List.length_map]; exact hna) hl.1 (by first | (simp; done) | (simp; rfl)) (lv_room (by rw [sumc_cat]; exact hsum)) d ⟨hck, hsk⟩
    intro T hT X9
    rcases h9 T hT X9 with h | ⟨q, st₀, t, T', L9, E, ce, h0, X', hL9, e1, e2, hF, -⟩
    · exact Or.inl h
    · exact hF.elim) kk (fun _ _ h => h.elim)
end LR
theorem lcmp_self (x : Int64) : lg_cmp x x = Int32.ofInt 0 := by
  unfold lg_cmp
  simp
theorem LX.room {X : XT} {b L : Nat} {xs : Nat → Int32} (T : LX X b L xs) : X.1.2.2.2.1 = room_1 := by
  obtain ⟨⟨p, l, e, R, s⟩, ⟨m, args, below, meth, c⟩, Q, ⟨D, cy, ad⟩, ⟨A, nL⟩⟩ := X
  exact T.2.1
/-- a condition laid on the stack as 0 or 1 -/
theorem At_if01 {X : XT} {cc : ByteArray} {own : String} {Ts : List Cond} {n cells slots pc : Nat} {off off2 : Int} {lv : List (Nat × AV)} {st : List AV} {S : ST} {v : Int} {tgt jn : Nat} {a : Int} (C : Cx X cc own Ts n) (d0 : decode cc pc = .ok (.ifCond .eq off, 3)) (dt : decode cc tgt = .ok (.iconst 0, 1)) (d1 : decode cc (pc + 3) = .ok (.iconst 1, 1)) (dg : decode cc (pc + 4) = .ok (.goto off2, 3)) (h1 : (pc : Int) + off = (tgt : Int)) (h2 : ((pc + 4 : Nat) : Int) + off2 = (jn : Int)) (h3 : jn = tgt + 1) (ha : -2147483648 ≤ a ∧ a < 2147483648) (hv : v = (if a = 0 then 0 else 1)) (k : At X cells slots jn lv (vi v :: st) S) : At X cells slots pc lv (vi a :: st) S := by
  subst h3
  refine r_if_eq (tgt := tgt) C d0 h1 ha (fun h => ?_) (fun h => ?_)
  · refine r_iconst C dt ?_
    rw [hv, if_pos h] at k
    exact k
  · refine r_iconst C d1 ?_
    refine r_goto (tgt := tgt + 1) C dg h2 ?_
    rw [hv, if_neg h] at k
    exact k
