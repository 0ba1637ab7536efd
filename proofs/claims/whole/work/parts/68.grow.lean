/-! MAKING CELLS: a heap by what is said of it; an address q has the name (0, q) -/
def Gt (X : XT) (cells slots pc : Nat) (lv : List (Nat × AV)) (st : List AV) (P : Heap → Prop) : Prop := match X with
  | ((p, l, e, R, s), (m, args, below, meth, c), Q, (D, cy, ad), (A, nL)) => ∀ (H : Heap) (locs : List Loc) (ls : Array Slot), P H → va_S A s.heap H locs → lv_has ls nL (lv.map (fun q => (q.1, tv ad q.2))) → W p l e R s m args below meth c H locs cells slots Q (F0 m pc ls (st.map (tv ad)))
def nwc : List (String × Nat × MethodName) := [(RX0, 3, yX1_init), (RX4, 3, yX1_init), (RX6, 11, yX8_init), (RX10, 27, yX8_init)]
def AOK (U : State) : Prop := (va_AO "PostingPlanner$Part" U ∧ va_AO "PostingPlanner$PlannedClause" U ∧ va_AO "PostingPlanner$PlannedLiteral" U ∧ va_AO "PostingPlanner$ToldClause" U) ∧ ∀ q ∈ nwc, va_Nw (.methodLinkNest q.1 q.2.1 q.2.2 "PostingPlanner") U
theorem AOK.moved {s U : State} (hW : s.WarmedH U.vm) (h : AOK s) : AOK U := ⟨⟨h.1.1.moved hW.alike, h.1.2.1.moved hW.alike, h.1.2.2.1.moved hW.alike, h.1.2.2.2.moved hW.alike⟩, fun q hq => va_Nw.warmM hW (h.2 q hq)⟩
theorem AOK.same {s U : State} (e : s.vm = U.vm) (h : AOK s) : AOK U := ⟨⟨h.1.1.moved (e ▸ Vm.Alike.refl s.vm), h.1.2.1.moved (e ▸ Vm.Alike.refl s.vm), h.1.2.2.1.moved (e ▸ Vm.Alike.refl s.vm), h.1.2.2.2.moved (e ▸ Vm.Alike.refl s.vm)⟩, fun q hq => va_Nw.same rfl e (h.2 q hq)⟩
def AG (a sz : Nat) : Addr → Prop := fun q => q = a ∨ sz ≤ q
def rmG (n kc ks : Nat) : Room := { frames := n, cells := kc, slots := ks, locals := 40 * n }
def Gx (X : XT) (D : va_G) (cy : Nat → ClassId) (a sz : Nat) (cc : ByteArray) (own : String) (Ts : List Cond) (n : Nat) : Prop := match X with
  | ((p, l, e, R, s), (m, args, below, meth, c), Q, (D', cy', ad), (A, nL)) => p.tables.exec = Jvm.exec ∧ c.code = cc ∧ c.maxLocals = nL ∧ s.vm.findClass own = some m.cls ∧ (∀ w ∈ Ts, w.before args s = true) ∧ va_K D vwCl (tysOf cy) s ∧ AOK s ∧ (n ≤ R.frames ∧ 40 * n ≤ R.locals) ∧ nL < 64 ∧ (s.heap.size = sz ∧ A = AG a sz) ∧ D' = D ∧ cy' = cy ∧ ad = Prod.snd
abbrev av (q : Nat) : AV := vr (some (0, q))
def CA (D : va_G) (cy : Nat → ClassId) (q : Nat) (e : AC) (H : Heap) : Prop := va_at D vwCl (q, te cy Prod.snd e) H
theorem CA.kept {D : va_G} {cy : Nat → ClassId} {q : Nat} {e : AC} {H H1 : Heap} (h : CA D cy q e H) (g : H1[q]? = H[q]?) : CA D cy q e H1 := va_at.kept h g
/-- what a constructor promises -/
def CtG (y : MethodName) (ws : List Cond) (n kc ks : Nat) (as : List AV) (a sz : Nat) (Pre Post : va_G → (Nat → ClassId) → Heap → Prop) : Prop := ∀ (l : Launch) (D : va_G) (cy : Nat → ClassId), Met l y ws (rmG n kc ks) (va_Pc (as.map (tv Prod.snd)) (fun U => U.heap.size = sz ∧ Pre D cy U.heap ∧ va_K D vwCl (tysOf cy) U ∧ AOK U)) (va_Qv (fun _ : Unit => True) (fun _ t => Post D cy t.heap) (AG a sz)) kc ks (AG a sz)
def Gr (X : XT) (D : va_G) (cy : Nat → ClassId) (nm : String) (a sz kc ks : Nat) (Post : va_G → (Nat → ClassId) → Heap → Prop) : Prop := match X with
  | ((p, l, e, R, s), (m, args, below, meth, c), Q, _, (A, nL)) => Q = MQ below (va_Qv (fun _ : Unit => True) (fun _ t => Post D cy t.heap) (AG a sz)) args s kc ks A ∧ meth.sig.returnType = none ∧ meth.locks = false ∧ meth.name = nm ∧ kc ≤ R.cells ∧ ks ≤ R.slots
theorem CtG.of {y : MethodName} {ws ws' : List Cond} {cc : ByteArray} {nL n kc ks : Nat} {as : List AV} {a sz : Nat} {Pre Post : va_G → (Nat → ClassId) → Heap → Prop}
    (nm : String) (hy : plainName y.cls = true) (hyn : y.name = nm) (hw : ws = .code y cc nL none :: ws') (ha : sumc as ≤ nL) (hnL : nL < 64)
    (body : ∀ (X : XT) (D : va_G) (cy : Nat → ClassId), Gx X D cy a sz cc y.cls ws n → Gr X D cy nm a sz kc ks Post → X.2.2.2.2.2 = nL → Gt X 0 0 0 (lva 0 as) [] (fun H => H.size = sz ∧ Pre D cy H)) : CtG y ws n kc ks as a sz Pre Post := by
  intro l D cy
  refine Met.ofW (cc := cc) (maxL := nL) (ret := none) hy hw ?_
  intro p e s m args below meth c s₁ B hml hv
  obtain ⟨rfl, hsz, hP, hK, hAO⟩ := hv
  have hts := atoms_spec (ws := ws) B.pre
  have hown : s.vm.findClass y.cls = some m.cls := findClass_of_methodNamed B.named
  have hl := lv_entry (as.map (tv Prod.snd)) (n := nL) (by rw [sl_len]; exact ha)
  rw [lva_map] at hl
  rw [lg_entry_eq]
  exact body ((p, l, e, (headSpec ws (rmG n kc ks)).room, s), (m, _, below, meth, c), _, (D, cy, Prod.snd), (AG a sz, nL)) D cy ⟨B.exec, B.bytes, hml, hown, hts, hK, hAO, ⟨Nat.le_refl _, Nat.le_refl _⟩, hnL, ⟨hsz, rfl⟩, rfl, rfl, rfl⟩ ⟨rfl, B.returns, B.notSynchronized, (name_of_methodNamed B.named B.method).1.trans hyn, Nat.le_refl _, Nat.le_refl _⟩ rfl s.heap [] _ ⟨hsz, hP⟩ va_S.rf hl
section GR
variable {nm : String} {X : XT} {D : va_G} {cy : Nat → ClassId} {a0 sz0 : Nat} {cc : ByteArray} {own : String} {Ts : List Cond} {n cells slots pc : Nat} {lv : List (Nat × AV)} {st : List AV} {P P' : Heap → Prop} {Post : va_G → (Nat → ClassId) → Heap → Prop} {kc ks : Nat}
theorem Gr.name (T : Gr X D cy nm a0 sz0 kc ks Post) : X.2.1.2.2.2.1.name = nm := by
  obtain ⟨⟨p, l, e, R, s⟩, ⟨m, args, below, meth, c⟩, Q, ⟨D', cy', ad⟩, ⟨A, nL⟩⟩ := X
  exact T.2.2.2.1
theorem Gr.room (T : Gr X D cy nm a0 sz0 kc ks Post) : kc ≤ X.1.2.2.2.1.cells ∧ ks ≤ X.1.2.2.2.1.slots := by
  obtain ⟨⟨p, l, e, R, s⟩, ⟨m, args, below, meth, c⟩, Q, ⟨D', cy', ad⟩, ⟨A, nL⟩⟩ := X
  exact T.2.2.2.2
theorem Gt_cs {c' s' : Nat} (h1 : cells ≤ c') (h2 : slots ≤ s') (k : Gt X c' s' pc lv st P) : Gt X cells slots pc lv st P := by
  obtain ⟨⟨p, l, e, R, s⟩, ⟨m, args, below, meth, c⟩, Q, ⟨D', cy', ad⟩, ⟨A, nL⟩⟩ := X
  intro H locs ls hP hS hl
  exact W.widen h1 h2 (k H locs ls hP hS hl)
theorem arrV_cg {cI : ClassId} {N : Nat} {f g : Nat → Value} (h : ∀ j, j < N → f j = g j) : arrV cI N f = arrV cI N g := by
  have e : (fun j : Fin N => f j.val) = fun j => g j.val := funext fun j => h j.1 j.2
  unfold arrV
  rw [e]
theorem CA.cgq {q t N : Nat} {g g' : Nat → Option Idn} {H : Heap} (h : CA D cy q (.inr (.inr (.inl (t, N, g)))) H) (e : ∀ j, j < N → g j = g' j) : CA D cy q (.inr (.inr (.inl (t, N, g')))) H := by
  have h : H[q]? = some (vp_cell _ _) := h
  show H[q]? = some (vp_cell _ _)
  rw [h, vp_cell_q, vp_cell_q]
  exact congrArg some (arrV_cg (fun j hj => by rw [e j hj]))
theorem CA.cgi {q t N : Nat} {g g' : Nat → Int} {H : Heap} (h : CA D cy q (.inr (.inl (t, N, g))) H) (e : ∀ j, j < N → g j = g' j) : CA D cy q (.inr (.inl (t, N, g'))) H := by
  have h : H[q]? = some (vp_cell _ _) := h
  show H[q]? = some (vp_cell _ _)
  rw [h, vp_cell_i, vp_cell_i]
  exact congrArg some (arrV_cg (fun j hj => by rw [e j hj]))
theorem Gt_mono (h : ∀ H, P H → P' H) (k : Gt X cells slots pc lv st P') : Gt X cells slots pc lv st P := by
  obtain ⟨⟨p, l, e, R, s⟩, ⟨m, args, below, meth, c⟩, Q, ⟨D', cy', ad⟩, ⟨A, nL⟩⟩ := X
  intro H locs ls hP hS hl
  exact k H locs ls (h H hP) hS hl
theorem Gt_lv {lv' : List (Nat × AV)} (hs : ∀ q ∈ lv', q ∈ lv) (k : Gt X cells slots pc lv' st P) : Gt X cells slots pc lv st P := by
  obtain ⟨⟨p, l, e, R, s⟩, ⟨m, args, below, meth, c⟩, Q, ⟨D', cy', ad⟩, ⟨A, nL⟩⟩ := X
  intro H locs ls hP hS hl
  exact k H locs ls hP hS (ls_sub hl hs)
theorem g_iload_n (C : Gx X D cy a0 sz0 cc own Ts n) {j : Fin 4} {i : Nat} {z : Int} (d : decode cc pc = .ok (.iload_n j, 1)) (hi : (j : Nat) = i) (h : lv.lookup i = some (vi z)) (k : Gt X cells slots (pc + 1) lv (vi z :: st) P) : Gt X cells slots pc lv st P := by
  obtain ⟨⟨p, l, e, R, s⟩, ⟨m, args, below, meth, c⟩, Q, ⟨D', cy', ad⟩, ⟨A, nL⟩⟩ := X
  obtain ⟨hx, hb, hml, hown, hts, hK, hAO, hR, hnL, hA, rfl, rfl, rfl⟩ := C
  intro H locs ls hP hS hl
  exact lv_iload_n hx hb d hi (lk_at hl h) (k H locs ls hP hS hl)
theorem g_aload_n (C : Gx X D cy a0 sz0 cc own Ts n) {j : Fin 4} {i : Nat} {z : Option Idn} (d : decode cc pc = .ok (.aload_n j, 1)) (hi : (j : Nat) = i) (h : lv.lookup i = some (vr z)) (k : Gt X cells slots (pc + 1) lv (vr z :: st) P) : Gt X cells slots pc lv st P := by
  obtain ⟨⟨p, l, e, R, s⟩, ⟨m, args, below, meth, c⟩, Q, ⟨D', cy', ad⟩, ⟨A, nL⟩⟩ := X
  obtain ⟨hx, hb, hml, hown, hts, hK, hAO, hR, hnL, hA, rfl, rfl, rfl⟩ := C
  intro H locs ls hP hS hl
  cases z with
  | none => exact lv_aload_nN hx hb d hi (lk_at hl h) (k H locs ls hP hS hl)
  | some z => exact lv_aload_n hx hb d hi (lk_at hl h) (k H locs ls hP hS hl)
theorem g_istore_n (C : Gx X D cy a0 sz0 cc own Ts n) {j : Fin 4} {i : Nat} {z : Int} {lv' : List (Nat × AV)} (d : decode cc pc = .ok (.istore_n j, 1)) (hi : (j : Nat) = i) (hn : i < X.2.2.2.2.2) (hv : stl i (vi z) lv = lv') (k : Gt X cells slots (pc + 1) lv' st P) : Gt X cells slots pc lv (vi z :: st) P := by
  obtain ⟨⟨p, l, e, R, s⟩, ⟨m, args, below, meth, c⟩, Q, ⟨D', cy', ad⟩, ⟨A, nL⟩⟩ := X
  obtain ⟨hx, hb, hml, hown, hts, hK, hAO, hR, hnL, hA, rfl, rfl, rfl⟩ := C
  intro H locs ls hP hS hl
  exact lv_istore_n hx hb d hi hl hn (stl_1 (v := vi z) rfl) (fun ls hl => k H locs ls hP hS (hv ▸ hl))
theorem g_istore (C : Gx X D cy a0 sz0 cc own Ts n) {i : Nat} {z : Int} {lv' : List (Nat × AV)} (d : decode cc pc = .ok (.istore i, 2)) (hn : i < X.2.2.2.2.2) (hv : stl i (vi z) lv = lv') (k : Gt X cells slots (pc + 2) lv' st P) : Gt X cells slots pc lv (vi z :: st) P := by
  obtain ⟨⟨p, l, e, R, s⟩, ⟨m, args, below, meth, c⟩, Q, ⟨D', cy', ad⟩, ⟨A, nL⟩⟩ := X
  obtain ⟨hx, hb, hml, hown, hts, hK, hAO, hR, hnL, hA, rfl, rfl, rfl⟩ := C
  intro H locs ls hP hS hl
  exact lv_istore hx hb d hl hn (stl_1 (v := vi z) rfl) (fun ls hl => k H locs ls hP hS (hv ▸ hl))
theorem g_astore_n (C : Gx X D cy a0 sz0 cc own Ts n) {j : Fin 4} {i : Nat} {z : Option Idn} {lv' : List (Nat × AV)} (d : decode cc pc = .ok (.astore_n j, 1)) (hi : (j : Nat) = i) (hn : i < X.2.2.2.2.2) (hv : stl i (vr z) lv = lv') (k : Gt X cells slots (pc + 1) lv' st P) : Gt X cells slots pc lv (vr z :: st) P := by
  obtain ⟨⟨p, l, e, R, s⟩, ⟨m, args, below, meth, c⟩, Q, ⟨D', cy', ad⟩, ⟨A, nL⟩⟩ := X
  obtain ⟨hx, hb, hml, hown, hts, hK, hAO, hR, hnL, hA, rfl, rfl, rfl⟩ := C
  intro H locs ls hP hS hl
  cases z with
  | none => exact lv_astore_nN hx hb d hi hl hn (stl_1 (v := vr none) rfl) (fun ls hl => k H locs ls hP hS (hv ▸ hl))
  | some z => exact lv_astore_n hx hb d hi hl hn (stl_1 (v := vr (some z)) rfl) (fun ls hl => k H locs ls hP hS (hv ▸ hl))
theorem g_iinc (C : Gx X D cy a0 sz0 cc own Ts n) {i : Nat} {a z : Int} {lv' : List (Nat × AV)} (d : decode cc pc = .ok (.iinc i a, 3)) (h : lv.lookup i = some (vi z)) (hn : i < X.2.2.2.2.2) (hv : stl i (vi (z + a)) lv = lv') (k : Gt X cells slots (pc + 3) lv' st P) : Gt X cells slots pc lv st P := by
  obtain ⟨⟨p, l, e, R, s⟩, ⟨m, args, below, meth, c⟩, Q, ⟨D', cy', ad⟩, ⟨A, nL⟩⟩ := X
  obtain ⟨hx, hb, hml, hown, hts, hK, hAO, hR, hnL, hA, rfl, rfl, rfl⟩ := C
  intro H locs ls hP hS hl
  obtain ⟨q, hq⟩ := List.getElem?_of_mem (List.mem_map.mpr ⟨(i, vi z), lk_mem h, rfl⟩ : (i, tv Prod.snd (vi z)) ∈ lv.map (fun q => (q.1, tv Prod.snd q.2)))
  exact lv_iinc hx hb d hl (k := q) hq (Int32.ofInt_add z a).symm hn (stl_1 (v := vi (z + a)) rfl) (fun ls hl => k H locs ls hP hS (hv ▸ hl))
theorem g_iconst (C : Gx X D cy a0 sz0 cc own Ts n) {z : Int} (d : decode cc pc = .ok (.iconst z, 1)) (k : Gt X cells slots (pc + 1) lv (vi z :: st) P) : Gt X cells slots pc lv st P := by
  obtain ⟨⟨p, l, e, R, s⟩, ⟨m, args, below, meth, c⟩, Q, ⟨D', cy', ad⟩, ⟨A, nL⟩⟩ := X
  obtain ⟨hx, hb, hml, hown, hts, hK, hAO, hR, hnL, hA, rfl, rfl, rfl⟩ := C
  intro H locs ls hP hS hl
  exact lv_iconst hx hb d rfl (k H locs ls hP hS hl)
theorem g_bipush (C : Gx X D cy a0 sz0 cc own Ts n) {z : Int} (d : decode cc pc = .ok (.bipush z, 2)) (hz : (Int8.ofInt z).toInt32 = Int32.ofInt z) (k : Gt X cells slots (pc + 2) lv (vi z :: st) P) : Gt X cells slots pc lv st P := by
  obtain ⟨⟨p, l, e, R, s⟩, ⟨m, args, below, meth, c⟩, Q, ⟨D', cy', ad⟩, ⟨A, nL⟩⟩ := X
  obtain ⟨hx, hb, hml, hown, hts, hK, hAO, hR, hnL, hA, rfl, rfl, rfl⟩ := C
  intro H locs ls hP hS hl
  exact lv_bipush hx hb d hz (k H locs ls hP hS hl)
theorem g_dup (C : Gx X D cy a0 sz0 cc own Ts n) {v : AV} (hv : catA v = 1) (d : decode cc pc = .ok (.dup, 1)) (k : Gt X cells slots (pc + 1) lv (v :: v :: st) P) : Gt X cells slots pc lv (v :: st) P := by
  obtain ⟨⟨p, l, e, R, s⟩, ⟨m, args, below, meth, c⟩, Q, ⟨D', cy', ad⟩, ⟨A, nL⟩⟩ := X
  obtain ⟨hx, hb, hml, hown, hts, hK, hAO, hR, hnL, hA, rfl, rfl, rfl⟩ := C
  intro H locs ls hP hS hl
  exact lv_dup hx hb d ((tv_cat Prod.snd v).trans hv) (k H locs ls hP hS hl)
theorem g_goto (C : Gx X D cy a0 sz0 cc own Ts n) {off : Int} {tgt : Nat} (d : decode cc pc = .ok (.goto off, 3)) (ht : (pc : Int) + off = (tgt : Int)) (k : Gt X cells slots tgt lv st P) : Gt X cells slots pc lv st P := by
  obtain ⟨⟨p, l, e, R, s⟩, ⟨m, args, below, meth, c⟩, Q, ⟨D', cy', ad⟩, ⟨A, nL⟩⟩ := X
  obtain ⟨hx, hb, hml, hown, hts, hK, hAO, hR, hnL, hA, rfl, rfl, rfl⟩ := C
  intro H locs ls hP hS hl
  exact lv_goto hx hb d ht (k H locs ls hP hS hl)
theorem g_icmp_ge (C : Gx X D cy a0 sz0 cc own Ts n) {a b : Int} {off : Int} {tgt : Nat} (d : decode cc pc = .ok (.if_icmp .ge off, 3)) (ht : (pc : Int) + off = (tgt : Int)) (ha : -2147483648 ≤ a ∧ a < 2147483648) (hb2 : -2147483648 ≤ b ∧ b < 2147483648) (kt : b ≤ a → Gt X cells slots tgt lv st P) (kf : a < b → Gt X cells slots (pc + 3) lv st P) : Gt X cells slots pc lv (vi b :: vi a :: st) P := by
  obtain ⟨⟨p, l, e, R, s⟩, ⟨m, args, below, meth, c⟩, Q, ⟨D', cy', ad⟩, ⟨A, nL⟩⟩ := X
  obtain ⟨hx, hb, hml, hown, hts, hK, hAO, hR, hnL, hA, rfl, rfl, rfl⟩ := C
  intro H locs ls hP hS hl
  exact lv_icmp_ge hx hb d ht (fun q => kt ((i32_le hb2 ha).mp q) H locs ls hP hS hl) (fun q => kf (Int.not_le.mp fun z => q ((i32_le hb2 ha).mpr z)) H locs ls hP hS hl)
theorem g_vret (C : Gx X D cy a0 sz0 cc own Ts n) (T : Gr X D cy nm a0 sz0 kc ks Post) (hq : ∀ H, P H → Post D cy H) (d : decode cc pc = .ok (.return_, 1)) (hc : cells ≤ kc := by omega) (hs : slots ≤ ks := by omega) : Gt X cells slots pc lv [] P := by
  obtain ⟨⟨p, l, e, R, s⟩, ⟨m, args, below, meth, c⟩, Q, ⟨D', cy', ad⟩, ⟨A, nL⟩⟩ := X
  obtain ⟨hx, hb, hml, hown, hts, hK, hAO, hR, hnL, hA, rfl, rfl, rfl⟩ := C
  obtain ⟨rfl, hr, hlk, -⟩ := T
  obtain ⟨hz, rfl⟩ := hA
  intro H locs ls hP hS hl
  exact W.widen hc hs (W.vret hx hb hr (fun t ht hW => ⟨⟨(), rfl, trivial, (ht ▸ hq H hP : Post D' cy' t.heap)⟩, hS.F ht⟩) hS.2.2 d hlk)
theorem g_obj (C : Gx X D cy a0 sz0 cc own Ts n) {idx q : Nat} (h1 : Cond.methodLink own idx objectInit ∈ Ts) (h2 : Cond.instanceMethod objectInit ∈ Ts) (h3 : Cond.code objectInit ⟨#[0xb1]⟩ 1 none ∈ Ts) (hn : 1 ≤ n) (hsum : sumc st ≤ 8) (d : decode cc pc = .ok (.invokespecial idx, 3)) (k : Gt X cells slots (pc + 3) lv st P) : Gt X cells slots pc lv (av q :: st) P := by
  obtain ⟨⟨p, l, e, R, s⟩, ⟨m, args, below, meth, c⟩, Q, ⟨D', cy', ad⟩, ⟨A, nL⟩⟩ := X
  obtain ⟨hx, hb, hml, hown, hts, hK, hAO, hR, hnL, hA, rfl, rfl, rfl⟩ := C
  intro H locs ls hP hS hl
  refine W.objInit hx hb hown (hts _ h1) (hts _ h2) (hts _ h3) rfl (by rw [hml]; exact hl.1) rfl d (by omega) ?_ (k H locs ls hP hS hl)
  have e : ((st.map (tv Prod.snd)).map fun v => v.category).sum = sumc st := sumc_cat _ _
  show 2 * 0 + ((st.map (tv Prod.snd)).map fun v => v.category).sum + 12 ≤ R.locals
  rw [e]
  omega
theorem g_new (C : Gx X D cy a0 sz0 cc own Ts n) {Cn : String} {T : u_T} {N ci idx h : Nat} {fs : List AV} (hh : ∀ H, P H → H.size = h) (hcl : vwCl[ci]? = some (Cn, T, N)) (hin : ∀ w ∈ u_ws Cn T N, w ∈ Ts) (ty0 : Nat → FieldType) (hty : ∀ k, k < N → parseFieldDescriptor (T k).2.2.1 = some (ty0 k)) (hw1 : Cond.classLink own idx Cn ∈ Ts) (hw2 : Cond.instantiable Cn N ∈ Ts) (hw3 : Cond.initialized Cn ∈ Ts) (hfs : ∀ j, j < N → defaultValue (ty0 j) = vp_V (fs.map (tv Prod.snd)) j) (hc : cells + 1 ≤ X.1.2.2.2.1.cells) (hs : slots + N ≤ X.1.2.2.2.1.slots) (d : decode cc pc = .ok (.new idx, 3))
    (hP' : ∀ H H1 : Heap, P H → H1.size = h + 1 → (∀ q : Nat, q < h → H1[q]? = H[q]?) → CA D cy h (.inl (ci, fs)) H1 → P' H1) (k : Gt X (cells + 1) (slots + N) (pc + 3) lv (av h :: st) P') : Gt X cells slots pc lv st P := by
  obtain ⟨⟨p, l, e, R, s⟩, ⟨m, args, below, meth, c⟩, Q, ⟨D', cy', ad⟩, ⟨A, nL⟩⟩ := X
  obtain ⟨hx, hb, hml, hown, hts, hK, hAO, hR, hnL, hA, rfl, rfl, rfl⟩ := C
  intro H locs ls hP hS hl
  have hKn := hK.1 ci _ hcl
  have hh2 := hh H hP
  have hS1 := hS.1
  refine W.newcK hx hb hown (hts _ hw1) (hts _ hw2) (hts _ hw3) rfl d hc hs hKn.2.1 hh2 fun H1 kC hkC e1 z1 o1 => ?_
  exact k H1 locs ls (hP' H H1 hP z1 o1 ⟨_, hcl, (u_born ty0 hts hin hKn hkC e1 hty).to hfs⟩) ⟨by omega, fun x h1 h2 => (o1 x (by omega)).trans (hS.2.1 x h1 h2), hS.2.2⟩ hl
/-- an array of ints or of booleans -/
theorem g_newi (C : Gx X D cy a0 sz0 cc own Ts n) {atype : ArrayType} {t N h : Nat} {ty : FieldType} {z : Int} (hh : ∀ H, P H → H.size = h) (hw : Cond.arrayClass (newarray.typeOf atype) ∈ Ts) (hty : newarray.typeOf atype = ty) (ht : (tysOf cy)[t]? = some (cy t, ty)) (hra : ∀ (U : State) (cA : ClassId), va_RA U cA ty → U.vm.findClass ("[" ++ ty.toString) = some cA) (hd : defaultValue ty = .int 0) (hz : z = (N : Int)) (hN : N ≤ 2048) (hbytes : N * componentBytes ty ≤ 536870912) (hc : cells + 1 ≤ X.1.2.2.2.1.cells) (hs : slots + N ≤ X.1.2.2.2.1.slots) (d : decode cc pc = .ok (.newarray atype, 2))
    (hP' : ∀ H H1 : Heap, P H → H1.size = h + 1 → (∀ q : Nat, q < h → H1[q]? = H[q]?) → CA D cy h (.inr (.inl (t, N, fun _ => 0))) H1 → P' H1) (k : Gt X (cells + 1) (slots + N) (pc + 2) lv (av h :: st) P') : Gt X cells slots pc lv (vi z :: st) P := by
  obtain ⟨⟨p, l, e, R, s⟩, ⟨m, args, below, meth, c⟩, Q, ⟨D', cy', ad⟩, ⟨A, nL⟩⟩ := X
  obtain ⟨hx, hb, hml, hown, hts, hK, hAO, hR, hnL, hA, rfl, rfl, rfl⟩ := C
  subst hty
  subst hz
  intro H locs ls hP hS hl
  have hh2 := hh H hP
  have hS1 := hS.1
  have hi := i32_in (N := N + 1) (j := N) (by omega) (by omega)
  refine va_newaK hx hb (hts _ hw) rfl d rfl (n := Int32.ofInt (N : Int)) (fun q => hi (Or.inl q)) (i32_cl (by omega)) hbytes hc hs hh2 fun H1 cA e1 z1 o1 hAr hNm => ?_
  have hcA : cA = cy' t := Option.some.inj (hNm.symm.trans (hra s (cy' t) (hK.2 t _ ht).2))
  subst hcA
  refine k H1 locs ls (hP' H H1 hP z1 o1 ?_) ⟨by omega, fun x h1 h2 => (o1 x (by omega)).trans (hS.2.1 x h1 h2), hS.2.2⟩ hl
  show H1[h]? = some (vp_cell _ _)
  rw [e1, vp_cell_i, hd]
  rfl
/-- an array of longs -/
theorem g_newl (C : Gx X D cy a0 sz0 cc own Ts n) {atype : ArrayType} {N h : Nat} {z : Int} (hh : ∀ H, P H → H.size = h) (hw : Cond.arrayClass (newarray.typeOf atype) ∈ Ts) (hty : newarray.typeOf atype = .long) (hz : z = (N : Int)) (hN : N ≤ 2048) (hc : cells + 1 ≤ X.1.2.2.2.1.cells) (hs : slots + N ≤ X.1.2.2.2.1.slots) (d : decode cc pc = .ok (.newarray atype, 2))
    (hP' : ∀ H H1 : Heap, P H → H1.size = h + 1 → (∀ q : Nat, q < h → H1[q]? = H[q]?) → CA D cy h (.inr (.inr (.inr (6, N, fun _ => 0)))) H1 → P' H1) (k : Gt X (cells + 1) (slots + N) (pc + 2) lv (av h :: st) P') : Gt X cells slots pc lv (vi z :: st) P := by
  obtain ⟨⟨p, l, e, R, s⟩, ⟨m, args, below, meth, c⟩, Q, ⟨D', cy', ad⟩, ⟨A, nL⟩⟩ := X
  obtain ⟨hx, hb, hml, hown, hts, hK, hAO, hR, hnL, hA, rfl, rfl, rfl⟩ := C
  subst hz
  intro H locs ls hP hS hl
  have hh2 := hh H hP
  have hS1 := hS.1
  have hi := i32_in (N := N + 1) (j := N) (by omega) (by omega)
  refine va_newaK hx hb (hts _ hw) rfl d rfl (n := Int32.ofInt (N : Int)) (fun q => hi (Or.inl q)) (i32_cl (by omega)) (by rw [hty]; show N * 8 ≤ _; omega) hc hs hh2 fun H1 cA e1 z1 o1 hAr hNm => ?_
  rw [hty] at hNm e1
  have hcA : cA = cy' 6 := Option.some.inj (hNm.symm.trans (hK.2 6 _ rfl).2)
  subst hcA
  refine k H1 locs ls (hP' H H1 hP z1 o1 ?_) ⟨by omega, fun x h1 h2 => (o1 x (by omega)).trans (hS.2.1 x h1 h2), hS.2.2⟩ hl
  show H1[h]? = some (vp_cell _ _)
  rw [e1, vp_cell_l]
  rfl
/-- an array of references -/
theorem g_newq (C : Gx X D cy a0 sz0 cc own Ts n) {Cn : String} {t N h idx : Nat} {z : Int} (hh : ∀ H, P H → H.size = h) (hw : Cond.classLink own idx Cn ∈ Ts) (hao : ∀ U, AOK U → va_AO Cn U) (ht : (tysOf cy)[t]? = some (cy t, .object Cn)) (hz : z = (N : Int)) (hN : N ≤ 2048) (hc : cells + 1 ≤ X.1.2.2.2.1.cells) (hs : slots + N ≤ X.1.2.2.2.1.slots) (d : decode cc pc = .ok (.anewarray idx, 3))
    (hP' : ∀ H H1 : Heap, P H → H1.size = h + 1 → (∀ q : Nat, q < h → H1[q]? = H[q]?) → CA D cy h (.inr (.inr (.inl (t, N, fun _ => none)))) H1 → P' H1) (k : Gt X (cells + 1) (slots + N) (pc + 3) lv (av h :: st) P') : Gt X cells slots pc lv (vi z :: st) P := by
  obtain ⟨⟨p, l, e, R, s⟩, ⟨m, args, below, meth, c⟩, Q, ⟨D', cy', ad⟩, ⟨A, nL⟩⟩ := X
  obtain ⟨hx, hb, hml, hown, hts, hK, hAO, hR, hnL, hA, rfl, rfl, rfl⟩ := C
  subst hz
  intro H locs ls hP hS hl
  have hh2 := hh H hP
  have hS1 := hS.1
  have hi := i32_in (N := N + 1) (j := N) (by omega) (by omega)
  have hcl : (Int32.ofInt (N : Int)).toNatClampNeg = N := i32_cl (by omega)
  refine W.anew (n := Int32.ofInt (N : Int)) hx hb hown (hts _ hw) (va_AO.use (hao s hAO)) rfl d rfl (fun q => hi (Or.inl q)) (by rw [hcl]; omega) hc (by rw [hcl]; exact hs) fun cA kA comp f1 f2 f3 f4 => ?_
  obtain ⟨kA', comp', -, -, -, g4⟩ := (hK.2 t _ ht).2
  have hcA : cA = cy' t := Option.some.inj (f1.symm.trans g4)
  subst hcA
  rw [hcl, hh2]
  generalize hH1 : H.push ({ cls := cy' t, slots := Array.replicate N .null, vm := .none } : Cell) = H1
  have z1 : H1.size = h + 1 := by rw [← hH1, Array.size_push, hh2]
  have e1 : H1[h]? = some (arrV (cy' t) N (fun _ => .null)) := by rw [← hH1, ← hh2, Array.getElem?_push_size, ← arrV_new]
  have o1 : ∀ q : Nat, q < h → H1[q]? = H[q]? := fun q hq => by rw [← hH1, Array.getElem?_push, if_neg (by omega)]
  refine k H1 locs ls (hP' H H1 hP z1 o1 ?_) ⟨by omega, fun x h1 h2 => (o1 x (by omega)).trans (hS.2.1 x h1 h2), hS.2.2⟩ hl
  show H1[h]? = some (vp_cell _ _)
  rw [vp_cell_q]
  exact e1
theorem g_getf (C : Gx X D cy a0 sz0 cc own Ts n) {ref Cn : String} {T : u_T} {N ci index a : Nat} {fs : List AV} (hc : ∀ H, P H → CA D cy a (.inl (ci, fs)) H) (hcl : vwCl[ci]? = some (Cn, T, N)) (q : Nat) (hq : q < N) (hin : ∀ w ∈ u_ws Cn T N, w ∈ Ts) (hlk : Cond.fieldLink own index ref (T q).2.1 (T q).2.2.1 ∈ Ts) (hsm : ref = (T q).1 ∨ Cond.sameField ref (T q).1 (T q).2.1 (T q).2.2.1 ∈ Ts) {v : AV} (hv : fs[q]? = some v) (d : decode cc pc = .ok (.getfield index, 3)) (k : Gt X cells slots (pc + 3) lv (v :: st) P) : Gt X cells slots pc lv (av a :: st) P := by
  obtain ⟨⟨p, l, e, R, s⟩, ⟨m, args, below, meth, c⟩, Q, ⟨D', cy', ad⟩, ⟨A, nL⟩⟩ := X
  obtain ⟨hx, hb, hml, hown, hts, hK, hAO, hR, hnL, hA, rfl, rfl, rfl⟩ := C
  intro H locs ls hP hS hl
  have h1 := hc H hP
  exact va_get (ws := [(a, .inr (ci, fs.map (tv Prod.snd)))]) (v := tv Prod.snd v) hx hb hts hin hown hK (fun k q hk => by
    match k, hk with
    | 0, hk => cases hk; exact h1
    | k + 1, hk => simp at hk) 0 rfl hcl q hq (hts _ hlk) (fun x h9 => (hsm.elim (fun e => e ▸ h9) (fun w => u_same (hts _ w) x h9))) (by rw [List.getElem?_map, hv]; rfl) d (k H locs ls hP hS hl)
theorem g_alen (C : Gx X D cy a0 sz0 cc own Ts n) {a t N : Nat} {g : Nat → Option Idn} {ty : FieldType} (hc : ∀ H, P H → CA D cy a (.inr (.inr (.inl (t, N, g)))) H) (ht : (tysOf cy)[t]? = some (cy t, ty)) (d : decode cc pc = .ok (.arraylength, 1)) (k : Gt X cells slots (pc + 1) lv (vi (N : Int) :: st) P) : Gt X cells slots pc lv (av a :: st) P := by
  obtain ⟨⟨p, l, e, R, s⟩, ⟨m, args, below, meth, c⟩, Q, ⟨D', cy', ad⟩, ⟨A, nL⟩⟩ := X
  obtain ⟨hx, hb, hml, hown, hts, hK, hAO, hR, hnL, hA, rfl, rfl, rfl⟩ := C
  intro H locs ls hP hS hl
  have h1 := hc H hP
  exact va_alen (ws := [(a, te cy' Prod.snd (.inr (.inr (.inl (t, N, g)))))]) hx hb hK (fun k q hk => by
    match k, hk with
    | 0, hk => cases hk; exact h1
    | k + 1, hk => simp at hk) 0 t rfl ht (Int32.ofInt_eq_ofNat).symm d (k H locs ls hP hS hl)
theorem g_putf (C : Gx X D cy a0 sz0 cc own Ts n) {ref Cn : String} {T : u_T} {N ci index a : Nat} {fs : List AV} (hc : ∀ H, P H → CA D cy a (.inl (ci, fs)) H) (hAa : AG a0 sz0 a) (hcl : vwCl[ci]? = some (Cn, T, N)) (q : Nat) (hq : q < N) (hin : ∀ w ∈ u_ws Cn T N, w ∈ Ts) (hlk : Cond.fieldLink own index ref (T q).2.1 (T q).2.2.1 ∈ Ts) (hsm : ref = (T q).1 ∨ Cond.sameField ref (T q).1 (T q).2.1 (T q).2.2.1 ∈ Ts) {v : AV} (ty0 : Nat → FieldType) (hty : ∀ k, k < N → parseFieldDescriptor (T k).2.2.1 = some (ty0 k)) (hnm : ∀ a, a < N → ∀ b, b < N → a ≠ b → (T a).2.1 ≠ (T b).2.1) (hfin : (T q).2.2.2 = false ∨ ((T q).2.2.2 = true ∧ (T q).1 = own)) (hmn : X.2.1.2.2.2.1.name = "<init>") {ty : FieldType} (hd : parseFieldDescriptor (T q).2.2.1 = some ty) (hnr : narrow ty (tv Prod.snd v) = tv Prod.snd v) (hft : fits ty (tv Prod.snd v) = true) (hlen : q < fs.length) (d : decode cc pc = .ok (.putfield index, 3))
    (hP' : ∀ H H1 : Heap, P H → H1.size = H.size → (∀ q : Nat, q ≠ a → H1[q]? = H[q]?) → CA D cy a (.inl (ci, fs.set q v)) H1 → P' H1) (k : Gt X cells slots (pc + 3) lv st P') : Gt X cells slots pc lv (v :: av a :: st) P := by
  obtain ⟨⟨p, l, e, R, s⟩, ⟨m, args, below, meth, c⟩, Q, ⟨D', cy', ad⟩, ⟨A, nL⟩⟩ := X
  obtain ⟨hx, hb, hml, hown, hts, hK, hAO, hR, hnL, hA, rfl, rfl, rfl⟩ := C
  obtain ⟨hz, rfl⟩ := hA
  intro H locs ls hP hS hl
  have hap := va_apart (own := own) hts hin ty0 hty hnm hK hcl
  obtain ⟨r, h1, cell, q1, q2, q3, q4⟩ := hc H hP
  have hr : r = (Cn, T, N) := Option.some.inj (h1.symm.trans hcl)
  subst hr
  obtain ⟨hSl, hfc, kC, hkC, hkind⟩ := hK.1 ci _ hcl
  obtain ⟨cf, kf, fi, f, hi, hsl⟩ := hSl q hq
  have hlay := hts _ (hin _ (u_in_lay hq))
  unfold u_lay at hlay
  have hst := (u_facts hfc hkC (u_lays hts hin hq) hi).1
  have hsame : ∀ x, s.fieldFound? (T q).1 (T q).2.1 (T q).2.2.1 = some x → s.fieldFound? ref (T q).2.1 (T q).2.2.1 = some x := fun x h9 => (hsm.elim (fun e => e ▸ h9) (fun w => u_same (hts _ w) x h9))
  have fin : ∀ H' : Heap, H'[a]? = some (cell.setSlot (D'.2 ci q) (tv Prod.snd v)) → H'.size = H.size → (∀ q, q ≠ a → H'[q]? = H[q]?) → W p l e R s m args below meth c H' (locs ++ [⟨a, D'.2 ci q⟩]) cells slots Q (F0 m (pc + 3) ls (st.map (tv Prod.snd))) := fun H' e1 e2 e3 => by
    refine k H' _ ls (hP' H H' hP e2 e3 ⟨_, hcl, t_OB.to (V := updV (vp_V (fs.map (tv Prod.snd))) q (tv Prod.snd v)) ⟨_, e1, q2, q3, t_set q4 hap hq (tv Prod.snd v)⟩ (fun j _ => ?_)⟩) (hS.put e2 e3 hAa) hl
    rw [List.map_set]
    exact vp_updV_set (by simpa using hlen) (tv Prod.snd v) j
  rcases hfin with hfin | ⟨hfin, hdecl⟩
  · rw [if_neg (by rw [hfin]; decide)] at hlay
    have h6 := u_store hfc hkC hkind hlay hi hd hnr hft
    refine W.putK hx hb (f := f) ⟨hown, hts _ hlk, ⟨_, _, _, hsame _ hi⟩, hst⟩ (by rw [q2]; exact h6) q1 q3 (by rw [hsl]; exact k2_hasslot (q4 q hq)) rfl rfl d fun H' e1 e2 e3 => ?_
    rw [hsl] at e1 ⊢
    exact fin H' e1 e2 e3
  · rw [if_pos hfin] at hlay
    have hcf : m.cls = cf := by
      obtain ⟨_, _, c', _, _, _, -, -, hf', -, -, -, hown2, -⟩ := Cond.laysFinal_spec hlay
      have e1 : c' = cf := by have := hi.symm.trans hf'; simp at this; exact this.1.symm
      rw [hdecl] at hown2
      rw [← e1]; exact Option.some.inj (hown.symm.trans hown2)
    have h6 := u_fits hfc hkC hkind (Or.inr hlay) hi hd hnr hft
    refine W.putFinK hx hb hown (hts _ hlk) (hsame _ hi) hst hcf hmn (by rw [q2]; exact h6) q1 q3 (by rw [hsl]; exact k2_hasslot (q4 q hq)) rfl rfl d fun H' e1 e2 e3 => ?_
    rw [hsl] at e1 ⊢
    exact fin H' e1 e2 e3
theorem g_aast (C : Gx X D cy a0 sz0 cc own Ts n) {a t N j v ci : Nat} {z : Int} {g : Nat → Option Idn} {r : vw_C} {fs : List AV} (hc : ∀ H, P H → CA D cy a (.inr (.inr (.inl (t, N, g)))) H) (hAa : AG a0 sz0 a) (ht : (tysOf cy)[t]? = some (cy t, .object r.1)) (hcl : vwCl[ci]? = some r) (hv : ∀ H, P H → CA D cy v (.inl (ci, fs)) H) (hz : z = (j : Int)) (hj : j < N) (hN : N ≤ 2048) (d : decode cc pc = .ok (.aastore, 1))
    (hP' : ∀ H H1 : Heap, P H → H1.size = H.size → (∀ q : Nat, q ≠ a → H1[q]? = H[q]?) → CA D cy a (.inr (.inr (.inl (t, N, upF g j (some (0, v)))))) H1 → P' H1) (k : Gt X cells slots (pc + 1) lv st P') : Gt X cells slots pc lv (av v :: vi z :: av a :: st) P := by
  obtain ⟨⟨p, l, e, R, s⟩, ⟨m, args, below, meth, c⟩, Q, ⟨D', cy', ad⟩, ⟨A, nL⟩⟩ := X
  obtain ⟨hx, hb, hml, hown, hts, hK, hAO, hR, hnL, hA, rfl, rfl, rfl⟩ := C
  obtain ⟨hz2, rfl⟩ := hA
  subst hz
  intro H locs ls hP hS hl
  have hi := i32_in (N := N) (j := j) hj (by omega)
  have hclj : (Int32.ofInt (j : Int)).toNatClampNeg = j := i32_cl (by omega)
  obtain ⟨r', hr', cellV, g1, g2, g3, -⟩ := hv H hP
  have hcls := (hK.1 ci r hcl).2
  obtain ⟨kA, comp, k1, k2, k3, -⟩ := (hK.2 t _ ht).2
  have hcomp : comp = D'.1 ci := Option.some.inj (k3.symm.trans hcls.1)
  subst hcomp
  obtain ⟨kC, hkC, -⟩ := hcls.2
  have hcell := hc H hP
  refine W.aast hx hb hcell (fun q h => by cases h) (fun h => by cases h) k1 k2 rfl hkC ⟨fun q => hi (Or.inl q), by rw [hclj]; show _ < (arrV _ _ _).slots.size; rw [arrV_size]; exact hj⟩ g1 (fun q h => by rw [g3] at h; cases h) (by rw [g2]; exact hkC) (by rw [g2]; exact va_assign hcls) rfl rfl d fun H1 e z oq => ?_
  refine k H1 _ ls (hP' H H1 hP z oq ?_) (hS.put z oq hAa) hl
  show H1[a]? = some (vp_cell _ _)
  rw [e, hclj]
  rw [vp_cell_q, vp_cell_q, arrV_store]
  congr 2
  funext q
  by_cases hq : q = j
  · subst hq
    simp [updV, upF, va_rf]
  · simp [updV, upF, hq]
theorem g_callI (C : Gx X D cy a0 sz0 cc own Ts n) {idx kl kc' ks' nL' na a sz : Nat} {y : MethodName} {ws ws' : List Cond} {bytes : ByteArray} {as rest : List AV} {Pre Post' : va_G → (Nat → ClassId) → Heap → Prop} (hpre : ∀ H, P H → H.size = sz ∧ Pre D cy H) (hAa : AG a0 sz0 a) (hsz : sz0 ≤ sz) (hM : CtG y ws kl kc' ks' (av a :: as) a sz Pre Post') (hG : GoodIn Ts ws) (hini : Cond.initialized y.cls ∈ Ts) (hlk : Cond.methodLink own idx y ∈ Ts) (hin : Cond.instanceMethod y ∈ Ts) (hyn : y.name = "<init>") (hd : y.cls ≠ "java/lang/invoke/MethodHandle" ∧ y.cls ≠ "java/lang/invoke/VarHandle" ∧ (parseMethodDescriptor y.desc).map (fun d => d.parameters.length) = some na) (hk : kl < n) (hL : nL' ≤ 21) (hna : as.length = na) (hsum : sumc rest ≤ 8) (hW : ws = .code y bytes nL' none :: ws') (d : decode cc pc = .ok (.invokespecial idx, 3)) (hst : st = as.reverse ++ av a :: rest) (hck : cells + kc' ≤ X.1.2.2.2.1.cells) (hsk : slots + ks' ≤ X.1.2.2.2.1.slots)
    (hP' : ∀ H H1 : Heap, P H → sz ≤ H1.size → (∀ q : Nat, q < sz → q ≠ a → H1[q]? = H[q]?) → Post' D cy H1 → P' H1) (k : Gt X (cells + kc') (slots + ks') (pc + 3) lv rest P') : Gt X cells slots pc lv st P := by
  subst hst
  obtain ⟨⟨p, l, e, R, s⟩, ⟨m, args, below, meth, c⟩, Q, ⟨D', cy', ad⟩, ⟨A, nL⟩⟩ := X
  obtain ⟨hx, hb, hml, hown, hts, hK, hAO, hR, hnL, hA, rfl, rfl, rfl⟩ := C
  obtain ⟨hz, rfl⟩ := hA
  intro H locs ls hP hS hl
  obtain ⟨e1, e2⟩ := hpre H hP
  refine va_callv (pc := pc) (va_runI (As := as.map (tv Prod.snd)) (rest := rest.map (tv Prod.snd)) (H := H) (b := a) ⟨hx, hb, hml, hown, hts⟩ (hM l D' cy') (cwI na hts hG hW rfl rfl (hts _ hini) (hts _ hlk) (hts _ hin) hyn hd ⟨by show kl + 1 ≤ R.frames; omega, by show 8 + (nL' + 11) + 40 * kl ≤ R.locals; omega⟩) ⟨fun a U g mk q => by
      obtain ⟨q0, q1, qP, qK, qA⟩ := q
      exact ⟨q0, q1, qP, va_K.moved (u := U) (U := U.calling g mk a) (Vm.Alike.refl U.vm) qK, AOK.same (s := U) (U := U.calling g mk a) rfl qA⟩, fun U hU hW => ⟨rfl, by rw [hU]; exact e1, by rw [hU]; exact e2, va_K.moved hW.alike hK, AOK.moved hW hAO⟩⟩ rfl (by rw [List.length_map]; exact hna) hl.1 (by first | (simp; done) | (simp; rfl)) (lv_room (by rw [sumc_cat]; exact hsum)) d ⟨hck, hsk⟩) hS (fun q _ h => ?_) (fun q h => ?_) (fun u t H1 locs1 ht hvm hw hB hz1 hk1 hS1 => ?_)
  · rcases h with rfl | h
    · exact hAa
    · exact Or.inr (by omega)
  · rcases h with rfl | h
    · exact hAa
    · exact Or.inr (by omega)
  · subst e1
    exact k H1 locs1 ls (hP' H H1 hP hz1 (fun q h1 h2 => hk1 q h1 (fun z => by rcases z with z | z; exact h2 z; omega)) (by rw [← ht]; exact hB)) hS1 hl
theorem g_aleni (C : Gx X D cy a0 sz0 cc own Ts n) {a t N : Nat} {g : Nat → Int} {ty : FieldType} (hc : ∀ H, P H → CA D cy a (.inr (.inl (t, N, g))) H) (ht : (tysOf cy)[t]? = some (cy t, ty)) (d : decode cc pc = .ok (.arraylength, 1)) (k : Gt X cells slots (pc + 1) lv (vi (N : Int) :: st) P) : Gt X cells slots pc lv (av a :: st) P := by
  obtain ⟨⟨p, l, e, R, s⟩, ⟨m, args, below, meth, c⟩, Q, ⟨D', cy', ad⟩, ⟨A, nL⟩⟩ := X
  obtain ⟨hx, hb, hml, hown, hts, hK, hAO, hR, hnL, hA, rfl, rfl, rfl⟩ := C
  intro H locs ls hP hS hl
  have h1 := hc H hP
  exact va_alen (ws := [(a, te cy' Prod.snd (.inr (.inl (t, N, g))))]) hx hb hK (fun k q hk => by
    match k, hk with
    | 0, hk => cases hk; exact h1
    | k + 1, hk => simp at hk) 0 t rfl ht (Int32.ofInt_eq_ofNat).symm d (k H locs ls hP hS hl)
theorem g_iast (C : Gx X D cy a0 sz0 cc own Ts n) {a N j : Nat} {z x : Int} {g : Nat → Int} (hc : ∀ H, P H → CA D cy a (.inr (.inl (0, N, g))) H) (hAa : AG a0 sz0 a) (hz : z = (j : Int)) (hj : j < N) (hN : N ≤ 2048) (d : decode cc pc = .ok (.iastore, 1))
    (hP' : ∀ H H1 : Heap, P H → H1.size = H.size → (∀ q : Nat, q ≠ a → H1[q]? = H[q]?) → CA D cy a (.inr (.inl (0, N, upF g j x))) H1 → P' H1) (k : Gt X cells slots (pc + 1) lv st P') : Gt X cells slots pc lv (vi x :: vi z :: av a :: st) P := by
  obtain ⟨⟨p, l, e, R, s⟩, ⟨m, args, below, meth, c⟩, Q, ⟨D', cy', ad⟩, ⟨A, nL⟩⟩ := X
  obtain ⟨hx, hb, hml, hown, hts, hK, hAO, hR, hnL, hA, rfl, rfl, rfl⟩ := C
  obtain ⟨hz2, rfl⟩ := hA
  subst hz
  intro H locs ls hP hS hl
  have hi := i32_in (N := N) (j := j) hj (by omega)
  have hclj : (Int32.ofInt (j : Int)).toNatClampNeg = j := i32_cl (by omega)
  have hcell := hc H hP
  refine W.iast hx hb hcell ((hK.2 0 _ rfl).1 N (fun j => .int (Int32.ofInt (g j)))) (fun q => by cases q) (by show ¬ (_ < 0 ∨ (arrV _ _ _).slots.size ≤ _); rw [arrV_size]; exact hi) rfl rfl d fun H1 e z oq => ?_
  refine k H1 _ ls (hP' H H1 hP z oq ?_) (hS.put z oq hAa) hl
  show H1[a]? = some (vp_cell _ _)
  rw [e, hclj]
  rw [vp_cell_i, vp_cell_i, arrV_store]
  congr 2
  funext q
  by_cases hq : q = j
  · subst hq
    simp [updV, upF]
  · simp [updV, upF, hq]
theorem g_callS (C : Gx X D cy a0 sz0 cc own Ts n) {idx kl kc' ks' nL' na a sz : Nat} {y : MethodName} {ws ws' : List Cond} {bytes : ByteArray} {as rest : List AV} {Pre Post' : va_G → (Nat → ClassId) → Heap → Prop} (hpre : ∀ H, P H → H.size = sz ∧ Pre D cy H) (hAa : AG a0 sz0 a) (hsz : sz0 ≤ sz) (hM : CtG y ws kl kc' ks' as a sz Pre Post') (hG : GoodIn Ts (va_wsS own idx y ws)) (hd : y.cls ≠ "java/lang/invoke/MethodHandle" ∧ y.cls ≠ "java/lang/invoke/VarHandle" ∧ (parseMethodDescriptor y.desc).map (fun d => d.parameters.length) = some na) (hk : kl < n) (hL : nL' ≤ 21) (hna : as.length = na) (hsum : sumc rest ≤ 8) (hW : ws = .code y bytes nL' none :: ws') (d : decode cc pc = .ok (.invokestatic idx, 3)) (hst : st = as.reverse ++ rest) (hck : cells + kc' ≤ X.1.2.2.2.1.cells) (hsk : slots + ks' ≤ X.1.2.2.2.1.slots)
    (hP' : ∀ H H1 : Heap, P H → sz ≤ H1.size → (∀ q : Nat, q < sz → q ≠ a → H1[q]? = H[q]?) → Post' D cy H1 → P' H1) (k : Gt X (cells + kc') (slots + ks') (pc + 3) lv rest P') : Gt X cells slots pc lv st P := by
  subst hst
  obtain ⟨⟨p, l, e, R, s⟩, ⟨m, args, below, meth, c⟩, Q, ⟨D', cy', ad⟩, ⟨A, nL⟩⟩ := X
  obtain ⟨hx, hb, hml, hown, hts, hK, hAO, hR, hnL, hA, rfl, rfl, rfl⟩ := C
  obtain ⟨hz, rfl⟩ := hA
  intro H locs ls hP hS hl
  obtain ⟨e1, e2⟩ := hpre H hP
  refine va_callv (pc := pc) (va_runS (As := as.map (tv Prod.snd)) (rest := rest.map (tv Prod.snd)) (H := H) ⟨hx, hb, hml, hown, hts⟩ (hM l D' cy') (va_cwS na hts hG hW rfl rfl hd ⟨by show kl + 1 ≤ R.frames; omega, by show 8 + (nL' + 11) + 40 * kl ≤ R.locals; omega⟩) ⟨fun a U g mk q => by
      obtain ⟨q0, q1, qP, qK, qA⟩ := q
      exact ⟨q0, q1, qP, va_K.moved (u := U) (U := U.calling g mk a) (Vm.Alike.refl U.vm) qK, AOK.same (s := U) (U := U.calling g mk a) rfl qA⟩, fun U hU hW => ⟨rfl, by rw [hU]; exact e1, by rw [hU]; exact e2, va_K.moved hW.alike hK, AOK.moved hW hAO⟩⟩ rfl (by rw [List.length_map]; exact hna) hl.1 (by first | (simp; done) | (simp; rfl)) (lv_room (by rw [sumc_cat]; exact hsum)) d ⟨hck, hsk⟩) hS (fun q _ h => ?_) (fun q h => ?_) (fun u t H1 locs1 ht hvm hw hB hz1 hk1 hS1 => ?_)
  · rcases h with rfl | h
    · exact hAa
    · exact Or.inr (by omega)
  · rcases h with rfl | h
    · exact hAa
    · exact Or.inr (by omega)
  · subst e1
    exact k H1 locs1 ls (hP' H H1 hP hz1 (fun q h1 h2 => hk1 q h1 (fun z => by rcases z with z | z; exact h2 z; omega)) (by rw [← ht]; exact hB)) hS1 hl
theorem g_callN (C : Gx X D cy a0 sz0 cc own Ts n) {idx kl kc' ks' nL' na a sz : Nat} {y : MethodName} {ws ws' : List Cond} {bytes : ByteArray} {as rest : List AV} {Pre Post' : va_G → (Nat → ClassId) → Heap → Prop} (hpre : ∀ H, P H → H.size = sz ∧ Pre D cy H) (hAa : AG a0 sz0 a) (hsz : sz0 ≤ sz) (hM : CtG y ws kl kc' ks' (av a :: as) a sz Pre Post') (hG : GoodIn Ts ws) (hini : Cond.initialized y.cls ∈ Ts) (hlk : (own, idx, y) ∈ nwc) (hin : Cond.instanceMethod y ∈ Ts) (hyn : y.name = "<init>") (hd : y.cls ≠ "java/lang/invoke/MethodHandle" ∧ y.cls ≠ "java/lang/invoke/VarHandle" ∧ (parseMethodDescriptor y.desc).map (fun d => d.parameters.length) = some na) (hk : kl < n) (hL : nL' ≤ 21) (hna : as.length = na) (hsum : sumc rest ≤ 8) (hW : ws = .code y bytes nL' none :: ws') (d : decode cc pc = .ok (.invokespecial idx, 3)) (hst : st = as.reverse ++ av a :: rest) (hck : cells + kc' ≤ X.1.2.2.2.1.cells) (hsk : slots + ks' ≤ X.1.2.2.2.1.slots)
    (hP' : ∀ H H1 : Heap, P H → sz ≤ H1.size → (∀ q : Nat, q < sz → q ≠ a → H1[q]? = H[q]?) → Post' D cy H1 → P' H1) (k : Gt X (cells + kc') (slots + ks') (pc + 3) lv rest P') : Gt X cells slots pc lv st P := by
  subst hst
  obtain ⟨⟨p, l, e, R, s⟩, ⟨m, args, below, meth, c⟩, Q, ⟨D', cy', ad⟩, ⟨A, nL⟩⟩ := X
  obtain ⟨hx, hb, hml, hown, hts, hK, hAO, hR, hnL, hA, rfl, rfl, rfl⟩ := C
  obtain ⟨hz, rfl⟩ := hA
  intro H locs ls hP hS hl
  obtain ⟨e1, e2⟩ := hpre H hP
  refine va_callv (pc := pc) (va_runIN (As := as.map (tv Prod.snd)) (rest := rest.map (tv Prod.snd)) (H := H) (b := a) ⟨hx, hb, hml, hown, hts⟩ (hM l D' cy') ⟨va_cnB na hts hG hW rfl rfl (hAO.2 _ hlk) (hts _ hini) hd ⟨by show kl + 1 ≤ R.frames; omega, by show 8 + (nL' + 11) + 40 * kl ≤ R.locals; omega⟩, hyn, hts _ hin⟩ ⟨fun a U g mk q => by
      obtain ⟨q0, q1, qP, qK, qA⟩ := q
      exact ⟨q0, q1, qP, va_K.moved (u := U) (U := U.calling g mk a) (Vm.Alike.refl U.vm) qK, AOK.same (s := U) (U := U.calling g mk a) rfl qA⟩, fun U hU hW => ⟨rfl, by rw [hU]; exact e1, by rw [hU]; exact e2, va_K.moved hW.alike hK, AOK.moved hW hAO⟩⟩ rfl (by rw [List.length_map]; exact hna) hl.1 (by first | (simp; done) | (simp; rfl)) (lv_room (by rw [sumc_cat]; exact hsum)) d ⟨hck, hsk⟩) hS (fun q _ h => ?_) (fun q h => ?_) (fun u t H1 locs1 ht hvm hw hB hz1 hk1 hS1 => ?_)
  · rcases h with rfl | h
    · exact hAa
    · exact Or.inr (by omega)
  · rcases h with rfl | h
    · exact hAa
    · exact Or.inr (by omega)
  · subst e1
    exact k H1 locs1 ls (hP' H H1 hP hz1 (fun q h1 h2 => hk1 q h1 (fun z => by rcases z with z | z; exact h2 z; omega)) (by rw [← ht]; exact hB)) hS1 hl
end GR
