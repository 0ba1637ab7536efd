theorem i32_to {z : Int} (h1 : -2147483648 ≤ z) (h2 : z < 2147483648) : (Int32.ofInt z).toInt = z := by
  rw [Int32.toInt_ofInt, show Int32.size = 4294967296 from rfl]
  exact Int.bmod_eq_of_le (by omega) (by omega)
theorem i32_lt {a b : Int} (ha : -2147483648 ≤ a ∧ a < 2147483648) (hb : -2147483648 ≤ b ∧ b < 2147483648) : Int32.ofInt a < Int32.ofInt b ↔ a < b := by
  rw [Int32.lt_iff_toInt_lt, i32_to ha.1 ha.2, i32_to hb.1 hb.2]
theorem i32_le {a b : Int} (ha : -2147483648 ≤ a ∧ a < 2147483648) (hb : -2147483648 ≤ b ∧ b < 2147483648) : Int32.ofInt a ≤ Int32.ofInt b ↔ a ≤ b := by
  rw [Int32.le_iff_toInt_le, i32_to ha.1 ha.2, i32_to hb.1 hb.2]
theorem i32_eq {a b : Int} (ha : -2147483648 ≤ a ∧ a < 2147483648) (hb : -2147483648 ≤ b ∧ b < 2147483648) : Int32.ofInt a = Int32.ofInt b ↔ a = b := by
  rw [← Int32.toInt_inj, i32_to ha.1 ha.2, i32_to hb.1 hb.2]
theorem i32_r0 : -2147483648 ≤ (0 : Int) ∧ (0 : Int) < 2147483648 := by decide
theorem i32_of (x : Int32) : Int32.ofInt x.toInt = x := Int32.ofInt_toInt x
theorem i32_rng (x : Int32) : -2147483648 ≤ x.toInt ∧ x.toInt < 2147483648 := ⟨Int32.le_toInt x, Int32.toInt_lt x⟩
theorem i32_nat (j : Nat) : Int32.ofInt (j : Int) = nI j := Int32.ofInt_eq_ofNat
theorem i32_cl {j : Nat} (h : j < 2 ^ 31) : (Int32.ofInt (j : Int)).toNatClampNeg = j := by rw [i32_nat]; exact nI_clamp h
theorem i32_in {j N : Nat} (h : j < N) (hN : N < 2 ^ 31) : vp_in (Int32.ofInt (j : Int)) N := by rw [i32_nat]; exact vp_in_nI h hN
theorem i64_of {a : Int} (h1 : -2147483648 ≤ a) (h2 : a < 2147483648) : (Int32.ofInt a).toInt64 = Int64.ofInt a := by
  rw [← Int64.toInt_inj, Int32.toInt_toInt64, i32_to h1 h2, Int64.toInt_ofInt, show Int64.size = 18446744073709551616 from rfl]
  exact (Int.bmod_eq_of_le (by omega) (by omega)).symm
/-! names of all cells -/
def ids : List Idn := [(0, 0), (1, 0), (2, 0), (3, 0), (4, 0), (15, 0), (20, 0), (30, 0)] ++ ((List.range 5).map (fun x => (5, x)) ++ ((List.range 5).map (fun x => (6, x)) ++ ((List.range 2).map (fun x => (7, x)) ++ ((List.range 2).map (fun x => (8, x)) ++ ((List.range 2).map (fun x => (9, x)) ++ ((List.range 2).map (fun x => (10, x)) ++ ((List.range 10).map (fun x => (11, x)) ++ ((List.range 10).map (fun x => (12, x)) ++ ((List.range 10).map (fun x => (13, x)) ++ ((List.range 60).map (fun x => (14, x)) ++ ([0, 1, 5, 6, 7, 8, 9, 10, 11, 12, 13, 14, 18, 20, 21, 25, 26, 27, 28, 29, 30] : List Nat).map (fun x => (21, x))))))))))))
theorem ids_nd : ids.Nodup := by decide +kernel
theorem mid_5 {x : Nat} (h : x < 5) : (5, x) ∈ ids := by simp [ids]; omega
theorem mid_6 {x : Nat} (h : x < 5) : (6, x) ∈ ids := by simp [ids]; omega
theorem mid_7 {x : Nat} (h : x < 2) : (7, x) ∈ ids := by simp [ids]; omega
theorem mid_8 {x : Nat} (h : x < 2) : (8, x) ∈ ids := by simp [ids]; omega
theorem mid_9 {x : Nat} (h : x < 2) : (9, x) ∈ ids := by simp [ids]; omega
theorem mid_10 {x : Nat} (h : x < 2) : (10, x) ∈ ids := by simp [ids]; omega
theorem mid_11 {x : Nat} (h : x < 10) : (11, x) ∈ ids := by simp [ids]; omega
theorem mid_12 {x : Nat} (h : x < 10) : (12, x) ∈ ids := by simp [ids]; omega
theorem mid_13 {x : Nat} (h : x < 10) : (13, x) ∈ ids := by simp [ids]; omega
theorem mid_14 {x : Nat} (h : x < 60) : (14, x) ∈ ids := by simp [ids]; omega
theorem nd_inj {l : List Idn} (h : l.Nodup) {i j : Nat} {a : Idn} (hi : l[i]? = some a) (hj : l[j]? = some a) : i = j := by
  have hp := List.pairwise_iff_getElem.mp h
  obtain ⟨h1, e1⟩ := List.getElem?_eq_some_iff.mp hi
  obtain ⟨h2, e2⟩ := List.getElem?_eq_some_iff.mp hj
  rcases Nat.lt_trichotomy i j with q | q | q
  · exact absurd (e1.trans e2.symm) (hp i j h1 h2 q)
  · exact q
  · exact absurd (e2.trans e1.symm) (hp j i h2 h1 q)
abbrev AdOK (ad : Idn → Nat) : Prop := ∀ i ∈ ids, ∀ j ∈ ids, ad i = ad j → i = j
def tysOf (cy : Nat → ClassId) : List (ClassId × FieldType) := [(cy 0, .int), (cy 1, .boolean), (cy 2, .object "PostingPlanner$Part"), (cy 3, .object "PostingPlanner$PlannedClause"), (cy 4, .object "PostingPlanner$PlannedLiteral"), (cy 5, .object "PostingPlanner$ToldClause"), (cy 6, .long)]
def wl (cy : Nat → ClassId) (ad : Idn → Nat) (h : Idn → AC) : va_W := ids.map (fun i => (ad i, te cy ad (h i)))
theorem wl_get {cy : Nat → ClassId} {ad : Idn → Nat} {h : Idn → AC} {i : Idn} (hi : i ∈ ids) : ∃ k : Nat, ids[k]? = some i ∧ (wl cy ad h)[k]? = some (ad i, te cy ad (h i)) := by
  obtain ⟨k, hk⟩ := List.getElem?_of_mem hi
  exact ⟨k, hk, by simp [wl, hk]⟩
theorem wl_D {cy : Nat → ClassId} {ad : Idn → Nat} {h : Idn → AC} {A : Nat → Prop} (hA : AdOK ad) (hin : ∀ i ∈ ids, A (ad i)) : va_D A (wl cy ad h) := by
  refine ⟨fun i j p q hp hq e => ?_, fun k q hk => ?_⟩
  · simp only [wl, List.getElem?_map] at hp hq
    cases ha : ids[i]? with
    | none => rw [ha] at hp; cases hp
    | some a =>
      cases hb : ids[j]? with
      | none => rw [hb] at hq; cases hq
      | some b =>
        rw [ha] at hp; rw [hb] at hq
        cases hp; cases hq
        have hab := hA a (List.mem_of_getElem? ha) b (List.mem_of_getElem? hb) e
        subst hab
        exact nd_inj ids_nd ha hb
  · simp only [wl, List.getElem?_map] at hk
    cases ha : ids[k]? with
    | none => rw [ha] at hk; cases hk
    | some a =>
      rw [ha] at hk
      cases hk
      exact hin a (List.mem_of_getElem? ha)
theorem wl_set {cy : Nat → ClassId} {ad : Idn → Nat} {h h' : Idn → AC} {i : Idn} {e : AC} {k : Nat} (hk : ids[k]? = some i) (hu : h' = upI h i e) : (wl cy ad h).set k (ad i, te cy ad e) = wl cy ad h' := by
  subst hu
  apply List.ext_getElem?
  intro j
  have hkl := (List.getElem?_eq_some_iff.mp hk)
  by_cases hj : j = k
  · subst hj
    have hl : j < (wl cy ad h).length := by simpa [wl] using hkl.1
    rw [List.getElem?_set_self hl]
    simp [wl, hk, upI]
  · rw [List.getElem?_set_ne (Ne.symm hj)]
    simp only [wl, List.getElem?_map]
    cases ha : ids[j]? with
    | none => rfl
    | some a =>
      have hne : a ≠ i := by
        intro q
        subst q
        exact hj (nd_inj ids_nd ha hk)
      simp [upI, hne]
/-! the nest words that static calls of the outer class's private methods need -/
def nwl : List (String × Nat × MethodName) := [(RX0, 80, yX10_firstOf), (RX3, 76, yX10_contraryOf), (RX4, 38, yX10_firstOf), (RX5, 40, yX10_isEnough), (RX7, 21, yX10_isLiteralTrue), (RX9, 29, yX10_isLiteralTrue), (RX9, 33, yX10_isEnough)]
def NwOK (U : State) : Prop := (∀ q ∈ nwl, va_Nw (.methodLinkNest q.1 q.2.1 q.2.2 "PostingPlanner") U) ∧ va_Nw (.castable RX3 "PostingPlanner$Part") U ∧ va_Nw (.castable RX4 "PostingPlanner$Part") U ∧ va_Nw (.declares ⟨"PostingPlanner$Part", "seek", "(II)I"⟩) U
theorem NwOK.moved {s U : State} (hW : s.WarmedH U.vm) (h : NwOK s) : NwOK U := ⟨fun q hq => va_Nw.warmM hW (h.1 q hq), va_Nw.warmC hW h.2.1, va_Nw.warmC hW h.2.2.1, va_Nw.warmD hW h.2.2.2⟩
theorem NwOK.same {s U : State} (e : s.vm = U.vm) (h : NwOK s) : NwOK U := ⟨fun q hq => va_Nw.same rfl e (h.1 q hq), va_Nw.same rfl e h.2.1, va_Nw.same rfl e h.2.2.1, va_Nw.same rfl e h.2.2.2⟩
/-! where a method stands -/
abbrev XT := (Program × Launch × Env × Room × State) × (MethodId × Array Value × List Frame × Method × Code) × (State → Prop) × (va_G × (Nat → ClassId) × (Idn → Nat)) × ((Addr → Prop) × Nat)
def At (X : XT) (cells slots pc : Nat) (lv : List (Nat × AV)) (st : List AV) (S : ST) : Prop := match X with
  | ((p, l, e, R, s), (m, args, below, meth, c), Q, (D, cy, ad), (A, nL)) => ∀ (H : Heap) (locs : List Loc) (ls : Array Slot), va_P D vwCl (wl cy ad (hp S)) H → va_S A s.heap H locs → lv_has ls nL (lv.map (fun q => (q.1, tv ad q.2))) → W p l e R s m args below meth c H locs cells slots Q (F0 m pc ls (st.map (tv ad)))
def rmN (n : Nat) : Room := { frames := n, cells := 0, slots := 0, locals := 40 * n }
def Cx (X : XT) (cc : ByteArray) (own : String) (Ts : List Cond) (n : Nat) : Prop := match X with
  | ((p, l, e, R, s), (m, args, below, meth, c), Q, (D, cy, ad), (A, nL)) => p.tables.exec = Jvm.exec ∧ c.code = cc ∧ c.maxLocals = nL ∧ s.vm.findClass own = some m.cls ∧ (∀ w ∈ Ts, w.before args s = true) ∧ va_K D vwCl (tysOf cy) s ∧ AdOK ad ∧ (∀ i ∈ ids, A (ad i)) ∧ (∀ q, s.heap.size ≤ q → A q) ∧ NwOK s ∧ (n ≤ R.frames ∧ 40 * n ≤ R.locals) ∧ nL < 64
theorem lk_mem {α : Type} {lv : List (Nat × α)} {i : Nat} {v : α} (h : lv.lookup i = some v) : (i, v) ∈ lv := by
  induction lv with
  | nil => cases h
  | cons a l ih =>
    obtain ⟨k, w⟩ := a
    rw [List.lookup_cons] at h
    by_cases hk : i = k
    · subst hk
      simp at h
      subst h
      exact List.mem_cons_self
    · have : (i == k) = false := by simp [hk]
      rw [this] at h
      exact List.mem_cons_of_mem _ (ih h)
theorem lk_at {ls : Array Slot} {nL : Nat} {ad : Idn → Nat} {lv : List (Nat × AV)} {i : Nat} {v : AV} (h : lv_has ls nL (lv.map (fun q => (q.1, tv ad q.2)))) (hk : lv.lookup i = some v) : ls[i]? = some (.val (tv ad v)) := h.2.2 (i, tv ad v) (List.mem_map.mpr ⟨(i, v), lk_mem hk, rfl⟩)
theorem ls_sub {ls : Array Slot} {nL : Nat} {ad : Idn → Nat} {lv lv' : List (Nat × AV)} (h : lv_has ls nL (lv.map (fun q => (q.1, tv ad q.2)))) (hs : ∀ q ∈ lv', q ∈ lv) : lv_has ls nL (lv'.map (fun q => (q.1, tv ad q.2))) := ⟨h.1, h.2.1, fun q hq => by
  obtain ⟨r, hr, rfl⟩ := List.mem_map.mp hq
  exact h.2.2 _ (List.mem_map.mpr ⟨r, hs r hr, rfl⟩)⟩
def stl (i : Nat) (v : AV) (lv : List (Nat × AV)) : List (Nat × AV) := (i, v) :: lv.filter (fun q => !(q.1 == i) && (!(catA v == 2 && q.1 == i + 1) && !(q.1 + 1 == i && catA q.2 == 2)))
theorem stl_1 {ad : Idn → Nat} {i : Nat} {v : AV} {lv : List (Nat × AV)} (hv : catA v = 1) : (i, tv ad v) :: (lv.map (fun q => (q.1, tv ad q.2))).filter (fun q => !(q.1 == i) && !(q.1 + 1 == i && q.2.category == 2)) = (stl i v lv).map (fun q => (q.1, tv ad q.2)) := by
  simp only [stl, List.map_cons, List.filter_map, Function.comp_def, tv_cat, hv]
  congr 2
theorem stl_2 {ad : Idn → Nat} {i : Nat} {v : AV} {lv : List (Nat × AV)} (hv : catA v = 2) : (i, tv ad v) :: (lv.map (fun q => (q.1, tv ad q.2))).filter (fun q => !(q.1 == i) && (!(q.1 == i + 1) && !(q.1 + 1 == i && q.2.category == 2))) = (stl i v lv).map (fun q => (q.1, tv ad q.2)) := by
  simp only [stl, List.map_cons, List.filter_map, Function.comp_def, tv_cat, hv]
  congr 2
section RULES
variable {X : XT} {cc : ByteArray} {own : String} {Ts : List Cond} {n cells slots pc : Nat} {lv : List (Nat × AV)} {st : List AV} {S : ST}
theorem At_lv {lv' : List (Nat × AV)} (hs : ∀ q ∈ lv', q ∈ lv) (k : At X cells slots pc lv' st S) : At X cells slots pc lv st S := by
  obtain ⟨⟨p, l, e, R, s⟩, ⟨m, args, below, meth, c⟩, Q, ⟨D, cy, ad⟩, ⟨A, nL⟩⟩ := X
  exact fun H locs ls hP hS hl => k H locs ls hP hS (ls_sub hl hs)
theorem At_pc {pc' : Nat} (e : pc = pc') (k : At X cells slots pc' lv st S) : At X cells slots pc lv st S := e ▸ k
theorem r_iload_n (C : Cx X cc own Ts n) {j : Fin 4} {i : Nat} {z : Int} (d : decode cc pc = .ok (.iload_n j, 1)) (hi : (j : Nat) = i) (h : lv.lookup i = some (vi z)) (k : At X cells slots (pc + 1) lv (vi z :: st) S) : At X cells slots pc lv st S := by
  obtain ⟨⟨p, l, e, R, s⟩, ⟨m, args, below, meth, c⟩, Q, ⟨D, cy, ad⟩, ⟨A, nL⟩⟩ := X
  obtain ⟨hx, hb, hml, hown, hts, hK, hAd, hAi, hAs, hNw, hR, hnL⟩ := C
  intro H locs ls hP hS hl
  exact lv_iload_n hx hb d hi (lk_at hl h) (k H locs ls hP hS hl)
theorem r_iload (C : Cx X cc own Ts n) {i : Nat} {z : Int} (d : decode cc pc = .ok (.iload i, 2)) (h : lv.lookup i = some (vi z)) (k : At X cells slots (pc + 2) lv (vi z :: st) S) : At X cells slots pc lv st S := by
  obtain ⟨⟨p, l, e, R, s⟩, ⟨m, args, below, meth, c⟩, Q, ⟨D, cy, ad⟩, ⟨A, nL⟩⟩ := X
  obtain ⟨hx, hb, hml, hown, hts, hK, hAd, hAi, hAs, hNw, hR, hnL⟩ := C
  intro H locs ls hP hS hl
  exact lv_iload hx hb d (lk_at hl h) (k H locs ls hP hS hl)
theorem r_aload_n (C : Cx X cc own Ts n) {j : Fin 4} {i : Nat} {z : Option Idn} (d : decode cc pc = .ok (.aload_n j, 1)) (hi : (j : Nat) = i) (h : lv.lookup i = some (vr z)) (k : At X cells slots (pc + 1) lv (vr z :: st) S) : At X cells slots pc lv st S := by
  obtain ⟨⟨p, l, e, R, s⟩, ⟨m, args, below, meth, c⟩, Q, ⟨D, cy, ad⟩, ⟨A, nL⟩⟩ := X
  obtain ⟨hx, hb, hml, hown, hts, hK, hAd, hAi, hAs, hNw, hR, hnL⟩ := C
  intro H locs ls hP hS hl
  cases z with
  | none => exact lv_aload_nN hx hb d hi (lk_at hl h) (k H locs ls hP hS hl)
  | some z => exact lv_aload_n hx hb d hi (lk_at hl h) (k H locs ls hP hS hl)
theorem r_aload (C : Cx X cc own Ts n) {i : Nat} {z : Option Idn} (d : decode cc pc = .ok (.aload i, 2)) (h : lv.lookup i = some (vr z)) (k : At X cells slots (pc + 2) lv (vr z :: st) S) : At X cells slots pc lv st S := by
  obtain ⟨⟨p, l, e, R, s⟩, ⟨m, args, below, meth, c⟩, Q, ⟨D, cy, ad⟩, ⟨A, nL⟩⟩ := X
  obtain ⟨hx, hb, hml, hown, hts, hK, hAd, hAi, hAs, hNw, hR, hnL⟩ := C
  intro H locs ls hP hS hl
  cases z with
  | none => exact lv_aloadN hx hb d (lk_at hl h) (k H locs ls hP hS hl)
  | some z => exact lv_aload hx hb d (lk_at hl h) (k H locs ls hP hS hl)
theorem r_lload_n (C : Cx X cc own Ts n) {j : Fin 4} {i : Nat} {z : Int} (d : decode cc pc = .ok (.lload_n j, 1)) (hi : (j : Nat) = i) (h : lv.lookup i = some (vl z)) (k : At X cells slots (pc + 1) lv (vl z :: st) S) : At X cells slots pc lv st S := by
  obtain ⟨⟨p, l, e, R, s⟩, ⟨m, args, below, meth, c⟩, Q, ⟨D, cy, ad⟩, ⟨A, nL⟩⟩ := X
  obtain ⟨hx, hb, hml, hown, hts, hK, hAd, hAi, hAs, hNw, hR, hnL⟩ := C
  intro H locs ls hP hS hl
  exact lv_lload_n hx hb d hi (lk_at hl h) (k H locs ls hP hS hl)
theorem r_lload (C : Cx X cc own Ts n) {i : Nat} {z : Int} (d : decode cc pc = .ok (.lload i, 2)) (h : lv.lookup i = some (vl z)) (k : At X cells slots (pc + 2) lv (vl z :: st) S) : At X cells slots pc lv st S := by
  obtain ⟨⟨p, l, e, R, s⟩, ⟨m, args, below, meth, c⟩, Q, ⟨D, cy, ad⟩, ⟨A, nL⟩⟩ := X
  obtain ⟨hx, hb, hml, hown, hts, hK, hAd, hAi, hAs, hNw, hR, hnL⟩ := C
  intro H locs ls hP hS hl
  exact lv_lload hx hb d (lk_at hl h) (k H locs ls hP hS hl)
theorem r_istore_n (C : Cx X cc own Ts n) {j : Fin 4} {i : Nat} {z : Int} {lv' : List (Nat × AV)} (d : decode cc pc = .ok (.istore_n j, 1)) (hi : (j : Nat) = i) (hn : i < X.2.2.2.2.2) (hv : stl i (vi z) lv = lv') (k : At X cells slots (pc + 1) lv' st S) : At X cells slots pc lv (vi z :: st) S := by
  obtain ⟨⟨p, l, e, R, s⟩, ⟨m, args, below, meth, c⟩, Q, ⟨D, cy, ad⟩, ⟨A, nL⟩⟩ := X
  obtain ⟨hx, hb, hml, hown, hts, hK, hAd, hAi, hAs, hNw, hR, hnL⟩ := C
  intro H locs ls hP hS hl
  exact lv_istore_n hx hb d hi hl hn (stl_1 (v := vi z) rfl) (fun ls hl => k H locs ls hP hS (hv ▸ hl))
theorem r_istore (C : Cx X cc own Ts n) {i : Nat} {z : Int} {lv' : List (Nat × AV)} (d : decode cc pc = .ok (.istore i, 2)) (hn : i < X.2.2.2.2.2) (hv : stl i (vi z) lv = lv') (k : At X cells slots (pc + 2) lv' st S) : At X cells slots pc lv (vi z :: st) S := by
  obtain ⟨⟨p, l, e, R, s⟩, ⟨m, args, below, meth, c⟩, Q, ⟨D, cy, ad⟩, ⟨A, nL⟩⟩ := X
  obtain ⟨hx, hb, hml, hown, hts, hK, hAd, hAi, hAs, hNw, hR, hnL⟩ := C
  intro H locs ls hP hS hl
  exact lv_istore hx hb d hl hn (stl_1 (v := vi z) rfl) (fun ls hl => k H locs ls hP hS (hv ▸ hl))
theorem r_astore_n (C : Cx X cc own Ts n) {j : Fin 4} {i : Nat} {z : Option Idn} {lv' : List (Nat × AV)} (d : decode cc pc = .ok (.astore_n j, 1)) (hi : (j : Nat) = i) (hn : i < X.2.2.2.2.2) (hv : stl i (vr z) lv = lv') (k : At X cells slots (pc + 1) lv' st S) : At X cells slots pc lv (vr z :: st) S := by
  obtain ⟨⟨p, l, e, R, s⟩, ⟨m, args, below, meth, c⟩, Q, ⟨D, cy, ad⟩, ⟨A, nL⟩⟩ := X
  obtain ⟨hx, hb, hml, hown, hts, hK, hAd, hAi, hAs, hNw, hR, hnL⟩ := C
  intro H locs ls hP hS hl
  cases z with
  | none => exact lv_astore_nN hx hb d hi hl hn (stl_1 (v := vr none) rfl) (fun ls hl => k H locs ls hP hS (hv ▸ hl))
  | some z => exact lv_astore_n hx hb d hi hl hn (stl_1 (v := vr (some z)) rfl) (fun ls hl => k H locs ls hP hS (hv ▸ hl))
theorem r_astore (C : Cx X cc own Ts n) {i : Nat} {z : Option Idn} {lv' : List (Nat × AV)} (d : decode cc pc = .ok (.astore i, 2)) (hn : i < X.2.2.2.2.2) (hv : stl i (vr z) lv = lv') (k : At X cells slots (pc + 2) lv' st S) : At X cells slots pc lv (vr z :: st) S := by
  obtain ⟨⟨p, l, e, R, s⟩, ⟨m, args, below, meth, c⟩, Q, ⟨D, cy, ad⟩, ⟨A, nL⟩⟩ := X
  obtain ⟨hx, hb, hml, hown, hts, hK, hAd, hAi, hAs, hNw, hR, hnL⟩ := C
  intro H locs ls hP hS hl
  cases z with
  | none => exact lv_astoreN hx hb d hl hn (stl_1 (v := vr none) rfl) (fun ls hl => k H locs ls hP hS (hv ▸ hl))
  | some z => exact lv_astore hx hb d hl hn (stl_1 (v := vr (some z)) rfl) (fun ls hl => k H locs ls hP hS (hv ▸ hl))
theorem r_lstore_n (C : Cx X cc own Ts n) {j : Fin 4} {i : Nat} {z : Int} {lv' : List (Nat × AV)} (d : decode cc pc = .ok (.lstore_n j, 1)) (hi : (j : Nat) = i) (hn : i + 1 < X.2.2.2.2.2) (hv : stl i (vl z) lv = lv') (k : At X cells slots (pc + 1) lv' st S) : At X cells slots pc lv (vl z :: st) S := by
  obtain ⟨⟨p, l, e, R, s⟩, ⟨m, args, below, meth, c⟩, Q, ⟨D, cy, ad⟩, ⟨A, nL⟩⟩ := X
  obtain ⟨hx, hb, hml, hown, hts, hK, hAd, hAi, hAs, hNw, hR, hnL⟩ := C
  intro H locs ls hP hS hl
  exact lv_lstore_n hx hb d hi hl hn (stl_2 (v := vl z) rfl) (fun ls hl => k H locs ls hP hS (hv ▸ hl))
theorem r_lstore (C : Cx X cc own Ts n) {i : Nat} {z : Int} {lv' : List (Nat × AV)} (d : decode cc pc = .ok (.lstore i, 2)) (hn : i + 1 < X.2.2.2.2.2) (hv : stl i (vl z) lv = lv') (k : At X cells slots (pc + 2) lv' st S) : At X cells slots pc lv (vl z :: st) S := by
  obtain ⟨⟨p, l, e, R, s⟩, ⟨m, args, below, meth, c⟩, Q, ⟨D, cy, ad⟩, ⟨A, nL⟩⟩ := X
  obtain ⟨hx, hb, hml, hown, hts, hK, hAd, hAi, hAs, hNw, hR, hnL⟩ := C
  intro H locs ls hP hS hl
  exact lv_lstore hx hb d hl hn (stl_2 (v := vl z) rfl) (fun ls hl => k H locs ls hP hS (hv ▸ hl))
theorem r_iinc (C : Cx X cc own Ts n) {i : Nat} {a z : Int} {lv' : List (Nat × AV)} (d : decode cc pc = .ok (.iinc i a, 3)) (h : lv.lookup i = some (vi z)) (hn : i < X.2.2.2.2.2) (hv : stl i (vi (z + a)) lv = lv') (k : At X cells slots (pc + 3) lv' st S) : At X cells slots pc lv st S := by
  obtain ⟨⟨p, l, e, R, s⟩, ⟨m, args, below, meth, c⟩, Q, ⟨D, cy, ad⟩, ⟨A, nL⟩⟩ := X
  obtain ⟨hx, hb, hml, hown, hts, hK, hAd, hAi, hAs, hNw, hR, hnL⟩ := C
  intro H locs ls hP hS hl
  obtain ⟨q, hq⟩ := List.getElem?_of_mem (List.mem_map.mpr ⟨(i, vi z), lk_mem h, rfl⟩ : (i, tv ad (vi z)) ∈ lv.map (fun q => (q.1, tv ad q.2)))
  exact lv_iinc hx hb d hl (k := q) hq (Int32.ofInt_add z a).symm hn (stl_1 (v := vi (z + a)) rfl) (fun ls hl => k H locs ls hP hS (hv ▸ hl))
theorem r_iconst (C : Cx X cc own Ts n) {z : Int} (d : decode cc pc = .ok (.iconst z, 1)) (k : At X cells slots (pc + 1) lv (vi z :: st) S) : At X cells slots pc lv st S := by
  obtain ⟨⟨p, l, e, R, s⟩, ⟨m, args, below, meth, c⟩, Q, ⟨D, cy, ad⟩, ⟨A, nL⟩⟩ := X
  obtain ⟨hx, hb, hml, hown, hts, hK, hAd, hAi, hAs, hNw, hR, hnL⟩ := C
  intro H locs ls hP hS hl
  exact lv_iconst hx hb d rfl (k H locs ls hP hS hl)
theorem r_bipush (C : Cx X cc own Ts n) {z : Int} (d : decode cc pc = .ok (.bipush z, 2)) (hz : (Int8.ofInt z).toInt32 = Int32.ofInt z) (k : At X cells slots (pc + 2) lv (vi z :: st) S) : At X cells slots pc lv st S := by
  obtain ⟨⟨p, l, e, R, s⟩, ⟨m, args, below, meth, c⟩, Q, ⟨D, cy, ad⟩, ⟨A, nL⟩⟩ := X
  obtain ⟨hx, hb, hml, hown, hts, hK, hAd, hAi, hAs, hNw, hR, hnL⟩ := C
  intro H locs ls hP hS hl
  exact lv_bipush hx hb d hz (k H locs ls hP hS hl)
theorem r_sipush (C : Cx X cc own Ts n) {z : Int} (d : decode cc pc = .ok (.sipush z, 3)) (hz : (Int16.ofInt z).toInt32 = Int32.ofInt z) (k : At X cells slots (pc + 3) lv (vi z :: st) S) : At X cells slots pc lv st S := by
  obtain ⟨⟨p, l, e, R, s⟩, ⟨m, args, below, meth, c⟩, Q, ⟨D, cy, ad⟩, ⟨A, nL⟩⟩ := X
  obtain ⟨hx, hb, hml, hown, hts, hK, hAd, hAi, hAs, hNw, hR, hnL⟩ := C
  intro H locs ls hP hS hl
  exact lv_sipush hx hb d hz (k H locs ls hP hS hl)
theorem r_lconst (C : Cx X cc own Ts n) {z : Fin 2} (d : decode cc pc = .ok (.lconst z, 1)) (k : At X cells slots (pc + 1) lv (vl ((z : Nat) : Int) :: st) S) : At X cells slots pc lv st S := by
  obtain ⟨⟨p, l, e, R, s⟩, ⟨m, args, below, meth, c⟩, Q, ⟨D, cy, ad⟩, ⟨A, nL⟩⟩ := X
  obtain ⟨hx, hb, hml, hown, hts, hK, hAd, hAi, hAs, hNw, hR, hnL⟩ := C
  intro H locs ls hP hS hl
  exact lv_lconst hx hb d (Int64.ofInt_eq_ofNat).symm (k H locs ls hP hS hl)
theorem r_null (C : Cx X cc own Ts n) (d : decode cc pc = .ok (.aconst_null, 1)) (k : At X cells slots (pc + 1) lv (vr none :: st) S) : At X cells slots pc lv st S := by
  obtain ⟨⟨p, l, e, R, s⟩, ⟨m, args, below, meth, c⟩, Q, ⟨D, cy, ad⟩, ⟨A, nL⟩⟩ := X
  obtain ⟨hx, hb, hml, hown, hts, hK, hAd, hAi, hAs, hNw, hR, hnL⟩ := C
  intro H locs ls hP hS hl
  exact lv_null hx hb d (k H locs ls hP hS hl)
theorem r_dup (C : Cx X cc own Ts n) {v : AV} (hv : catA v = 1) (d : decode cc pc = .ok (.dup, 1)) (k : At X cells slots (pc + 1) lv (v :: v :: st) S) : At X cells slots pc lv (v :: st) S := by
  obtain ⟨⟨p, l, e, R, s⟩, ⟨m, args, below, meth, c⟩, Q, ⟨D, cy, ad⟩, ⟨A, nL⟩⟩ := X
  obtain ⟨hx, hb, hml, hown, hts, hK, hAd, hAi, hAs, hNw, hR, hnL⟩ := C
  intro H locs ls hP hS hl
  exact lv_dup hx hb d ((tv_cat ad v).trans hv) (k H locs ls hP hS hl)
theorem r_pop (C : Cx X cc own Ts n) {v : AV} (hv : catA v = 1) (d : decode cc pc = .ok (.pop, 1)) (k : At X cells slots (pc + 1) lv st S) : At X cells slots pc lv (v :: st) S := by
  obtain ⟨⟨p, l, e, R, s⟩, ⟨m, args, below, meth, c⟩, Q, ⟨D, cy, ad⟩, ⟨A, nL⟩⟩ := X
  obtain ⟨hx, hb, hml, hown, hts, hK, hAd, hAi, hAs, hNw, hR, hnL⟩ := C
  intro H locs ls hP hS hl
  exact lv_pop hx hb d ((tv_cat ad v).trans hv) (k H locs ls hP hS hl)
theorem r_iadd (C : Cx X cc own Ts n) {a b : Int} (d : decode cc pc = .ok (.iadd, 1)) (k : At X cells slots (pc + 1) lv (vi (a + b) :: st) S) : At X cells slots pc lv (vi b :: vi a :: st) S := by
  obtain ⟨⟨p, l, e, R, s⟩, ⟨m, args, below, meth, c⟩, Q, ⟨D, cy, ad⟩, ⟨A, nL⟩⟩ := X
  obtain ⟨hx, hb, hml, hown, hts, hK, hAd, hAi, hAs, hNw, hR, hnL⟩ := C
  intro H locs ls hP hS hl
  have h := k H locs ls hP hS hl
  simp only [List.map_cons, tv, Int32.ofInt_add] at h
  exact lv_iadd hx hb d h
theorem r_isub (C : Cx X cc own Ts n) {a b : Int} (d : decode cc pc = .ok (.isub, 1)) (k : At X cells slots (pc + 1) lv (vi (a - b) :: st) S) : At X cells slots pc lv (vi b :: vi a :: st) S := by
  obtain ⟨⟨p, l, e, R, s⟩, ⟨m, args, below, meth, c⟩, Q, ⟨D, cy, ad⟩, ⟨A, nL⟩⟩ := X
  obtain ⟨hx, hb, hml, hown, hts, hK, hAd, hAi, hAs, hNw, hR, hnL⟩ := C
  intro H locs ls hP hS hl
  have h := k H locs ls hP hS hl
  simp only [List.map_cons, tv, Int32.ofInt_sub] at h
  exact lv_isub hx hb d h
theorem r_imul (C : Cx X cc own Ts n) {a b : Int} (d : decode cc pc = .ok (.imul, 1)) (k : At X cells slots (pc + 1) lv (vi (a * b) :: st) S) : At X cells slots pc lv (vi b :: vi a :: st) S := by
  obtain ⟨⟨p, l, e, R, s⟩, ⟨m, args, below, meth, c⟩, Q, ⟨D, cy, ad⟩, ⟨A, nL⟩⟩ := X
  obtain ⟨hx, hb, hml, hown, hts, hK, hAd, hAi, hAs, hNw, hR, hnL⟩ := C
  intro H locs ls hP hS hl
  have h := k H locs ls hP hS hl
  simp only [List.map_cons, tv, Int32.ofInt_mul] at h
  exact lv_imul hx hb d h
theorem At_val {v v' : AV} (e : v = v') (k : At X cells slots pc lv (v' :: st) S) : At X cells slots pc lv (v :: st) S := e ▸ k
theorem r_iand (C : Cx X cc own Ts n) {a b z : Int} (d : decode cc pc = .ok (.iand, 1)) (hz : Int32.ofInt a &&& Int32.ofInt b = Int32.ofInt z) (k : At X cells slots (pc + 1) lv (vi z :: st) S) : At X cells slots pc lv (vi b :: vi a :: st) S := by
  obtain ⟨⟨p, l, e, R, s⟩, ⟨m, args, below, meth, c⟩, Q, ⟨D, cy, ad⟩, ⟨A, nL⟩⟩ := X
  obtain ⟨hx, hb, hml, hown, hts, hK, hAd, hAi, hAs, hNw, hR, hnL⟩ := C
  intro H locs ls hP hS hl
  have h := k H locs ls hP hS hl
  simp only [List.map_cons, tv, ← hz] at h
  exact lv_iand hx hb d h
theorem r_ior (C : Cx X cc own Ts n) {a b z : Int} (d : decode cc pc = .ok (.ior, 1)) (hz : Int32.ofInt a ||| Int32.ofInt b = Int32.ofInt z) (k : At X cells slots (pc + 1) lv (vi z :: st) S) : At X cells slots pc lv (vi b :: vi a :: st) S := by
  obtain ⟨⟨p, l, e, R, s⟩, ⟨m, args, below, meth, c⟩, Q, ⟨D, cy, ad⟩, ⟨A, nL⟩⟩ := X
  obtain ⟨hx, hb, hml, hown, hts, hK, hAd, hAi, hAs, hNw, hR, hnL⟩ := C
  intro H locs ls hP hS hl
  have h := k H locs ls hP hS hl
  simp only [List.map_cons, tv, ← hz] at h
  exact lv_ior hx hb d h
theorem r_ixor (C : Cx X cc own Ts n) {a b z : Int} (d : decode cc pc = .ok (.ixor, 1)) (hz : Int32.ofInt a ^^^ Int32.ofInt b = Int32.ofInt z) (k : At X cells slots (pc + 1) lv (vi z :: st) S) : At X cells slots pc lv (vi b :: vi a :: st) S := by
  obtain ⟨⟨p, l, e, R, s⟩, ⟨m, args, below, meth, c⟩, Q, ⟨D, cy, ad⟩, ⟨A, nL⟩⟩ := X
  obtain ⟨hx, hb, hml, hown, hts, hK, hAd, hAi, hAs, hNw, hR, hnL⟩ := C
  intro H locs ls hP hS hl
  have h := k H locs ls hP hS hl
  simp only [List.map_cons, tv, ← hz] at h
  exact lv_ixor hx hb d h
theorem r_idiv (C : Cx X cc own Ts n) {a b z : Int} (d : decode cc pc = .ok (.idiv, 1)) (hb0 : ¬ Int32.ofInt b = 0) (hz : Int32.ofInt a / Int32.ofInt b = Int32.ofInt z) (k : At X cells slots (pc + 1) lv (vi z :: st) S) : At X cells slots pc lv (vi b :: vi a :: st) S := by
  obtain ⟨⟨p, l, e, R, s⟩, ⟨m, args, below, meth, c⟩, Q, ⟨D, cy, ad⟩, ⟨A, nL⟩⟩ := X
  obtain ⟨hx, hb, hml, hown, hts, hK, hAd, hAi, hAs, hNw, hR, hnL⟩ := C
  intro H locs ls hP hS hl
  have h := k H locs ls hP hS hl
  simp only [List.map_cons, tv, ← hz] at h
  exact lv_idiv hx hb d hb0 h
theorem r_irem (C : Cx X cc own Ts n) {a b z : Int} (d : decode cc pc = .ok (.irem, 1)) (hb0 : ¬ Int32.ofInt b = 0) (hz : Int32.ofInt a - Int32.ofInt a / Int32.ofInt b * Int32.ofInt b = Int32.ofInt z) (k : At X cells slots (pc + 1) lv (vi z :: st) S) : At X cells slots pc lv (vi b :: vi a :: st) S := by
  obtain ⟨⟨p, l, e, R, s⟩, ⟨m, args, below, meth, c⟩, Q, ⟨D, cy, ad⟩, ⟨A, nL⟩⟩ := X
  obtain ⟨hx, hb, hml, hown, hts, hK, hAd, hAi, hAs, hNw, hR, hnL⟩ := C
  intro H locs ls hP hS hl
  have h := k H locs ls hP hS hl
  simp only [List.map_cons, tv, ← hz] at h
  exact lv_irem hx hb d hb0 h
theorem r_ishr (C : Cx X cc own Ts n) {a b z : Int} (d : decode cc pc = .ok (.ishr, 1)) (hz : Int32.ofInt a >>> (Int32.ofInt b &&& 31) = Int32.ofInt z) (k : At X cells slots (pc + 1) lv (vi z :: st) S) : At X cells slots pc lv (vi b :: vi a :: st) S := by
  obtain ⟨⟨p, l, e, R, s⟩, ⟨m, args, below, meth, c⟩, Q, ⟨D, cy, ad⟩, ⟨A, nL⟩⟩ := X
  obtain ⟨hx, hb, hml, hown, hts, hK, hAd, hAi, hAs, hNw, hR, hnL⟩ := C
  intro H locs ls hP hS hl
  have h := k H locs ls hP hS hl
  simp only [List.map_cons, tv, ← hz] at h
  exact lv_ishr hx hb d h
theorem r_lshl (C : Cx X cc own Ts n) {a b z : Int} (d : decode cc pc = .ok (.lshl, 1)) (hz : Int64.ofInt a <<< ((Int32.ofInt b).toInt64 &&& 63) = Int64.ofInt z) (k : At X cells slots (pc + 1) lv (vl z :: st) S) : At X cells slots pc lv (vi b :: vl a :: st) S := by
  obtain ⟨⟨p, l, e, R, s⟩, ⟨m, args, below, meth, c⟩, Q, ⟨D, cy, ad⟩, ⟨A, nL⟩⟩ := X
  obtain ⟨hx, hb, hml, hown, hts, hK, hAd, hAi, hAs, hNw, hR, hnL⟩ := C
  intro H locs ls hP hS hl
  exact lv_lshl hx hb d hz (k H locs ls hP hS hl)
theorem r_lshr (C : Cx X cc own Ts n) {a b z : Int} (d : decode cc pc = .ok (.lshr, 1)) (hz : Int64.ofInt a >>> ((Int32.ofInt b).toInt64 &&& 63) = Int64.ofInt z) (k : At X cells slots (pc + 1) lv (vl z :: st) S) : At X cells slots pc lv (vi b :: vl a :: st) S := by
  obtain ⟨⟨p, l, e, R, s⟩, ⟨m, args, below, meth, c⟩, Q, ⟨D, cy, ad⟩, ⟨A, nL⟩⟩ := X
  obtain ⟨hx, hb, hml, hown, hts, hK, hAd, hAi, hAs, hNw, hR, hnL⟩ := C
  intro H locs ls hP hS hl
  exact lv_lshr hx hb d hz (k H locs ls hP hS hl)
theorem r_lushr (C : Cx X cc own Ts n) {a b z : Int} (d : decode cc pc = .ok (.lushr, 1)) (hz : ((Int64.ofInt a).toUInt64 >>> ((Int32.ofInt b).toInt64.toUInt64 &&& Int64.toUInt64 63)).toInt64 = Int64.ofInt z) (k : At X cells slots (pc + 1) lv (vl z :: st) S) : At X cells slots pc lv (vi b :: vl a :: st) S := by
  obtain ⟨⟨p, l, e, R, s⟩, ⟨m, args, below, meth, c⟩, Q, ⟨D, cy, ad⟩, ⟨A, nL⟩⟩ := X
  obtain ⟨hx, hb, hml, hown, hts, hK, hAd, hAi, hAs, hNw, hR, hnL⟩ := C
  intro H locs ls hP hS hl
  exact lv_lushr hx hb d hz (k H locs ls hP hS hl)
theorem r_land (C : Cx X cc own Ts n) {a b z : Int} (d : decode cc pc = .ok (.land, 1)) (hz : Int64.ofInt a &&& Int64.ofInt b = Int64.ofInt z) (k : At X cells slots (pc + 1) lv (vl z :: st) S) : At X cells slots pc lv (vl b :: vl a :: st) S := by
  obtain ⟨⟨p, l, e, R, s⟩, ⟨m, args, below, meth, c⟩, Q, ⟨D, cy, ad⟩, ⟨A, nL⟩⟩ := X
  obtain ⟨hx, hb, hml, hown, hts, hK, hAd, hAi, hAs, hNw, hR, hnL⟩ := C
  intro H locs ls hP hS hl
  have h := k H locs ls hP hS hl
  simp only [List.map_cons, tv, ← hz] at h
  exact lv_land hx hb d h
theorem r_lor (C : Cx X cc own Ts n) {a b z : Int} (d : decode cc pc = .ok (.lor, 1)) (hz : Int64.ofInt a ||| Int64.ofInt b = Int64.ofInt z) (k : At X cells slots (pc + 1) lv (vl z :: st) S) : At X cells slots pc lv (vl b :: vl a :: st) S := by
  obtain ⟨⟨p, l, e, R, s⟩, ⟨m, args, below, meth, c⟩, Q, ⟨D, cy, ad⟩, ⟨A, nL⟩⟩ := X
  obtain ⟨hx, hb, hml, hown, hts, hK, hAd, hAi, hAs, hNw, hR, hnL⟩ := C
  intro H locs ls hP hS hl
  have h := k H locs ls hP hS hl
  simp only [List.map_cons, tv, ← hz] at h
  exact lv_lor hx hb d h
theorem r_ladd (C : Cx X cc own Ts n) {a b z : Int} (d : decode cc pc = .ok (.ladd, 1)) (hz : Int64.ofInt a + Int64.ofInt b = Int64.ofInt z) (k : At X cells slots (pc + 1) lv (vl z :: st) S) : At X cells slots pc lv (vl b :: vl a :: st) S := by
  obtain ⟨⟨p, l, e, R, s⟩, ⟨m, args, below, meth, c⟩, Q, ⟨D, cy, ad⟩, ⟨A, nL⟩⟩ := X
  obtain ⟨hx, hb, hml, hown, hts, hK, hAd, hAi, hAs, hNw, hR, hnL⟩ := C
  intro H locs ls hP hS hl
  have h := k H locs ls hP hS hl
  simp only [List.map_cons, tv, ← hz] at h
  exact lv_ladd hx hb d h
theorem r_lsub (C : Cx X cc own Ts n) {a b z : Int} (d : decode cc pc = .ok (.lsub, 1)) (hz : Int64.ofInt a - Int64.ofInt b = Int64.ofInt z) (k : At X cells slots (pc + 1) lv (vl z :: st) S) : At X cells slots pc lv (vl b :: vl a :: st) S := by
  obtain ⟨⟨p, l, e, R, s⟩, ⟨m, args, below, meth, c⟩, Q, ⟨D, cy, ad⟩, ⟨A, nL⟩⟩ := X
  obtain ⟨hx, hb, hml, hown, hts, hK, hAd, hAi, hAs, hNw, hR, hnL⟩ := C
  intro H locs ls hP hS hl
  have h := k H locs ls hP hS hl
  simp only [List.map_cons, tv, ← hz] at h
  exact lv_lsub hx hb d h
theorem r_i2l (C : Cx X cc own Ts n) {a : Int} (d : decode cc pc = .ok (.i2l, 1)) (ha : -2147483648 ≤ a ∧ a < 2147483648) (k : At X cells slots (pc + 1) lv (vl a :: st) S) : At X cells slots pc lv (vi a :: st) S := by
  obtain ⟨⟨p, l, e, R, s⟩, ⟨m, args, below, meth, c⟩, Q, ⟨D, cy, ad⟩, ⟨A, nL⟩⟩ := X
  obtain ⟨hx, hb, hml, hown, hts, hK, hAd, hAi, hAs, hNw, hR, hnL⟩ := C
  intro H locs ls hP hS hl
  exact lv_i2l hx hb d (i64_of ha.1 ha.2) (k H locs ls hP hS hl)
theorem r_l2i (C : Cx X cc own Ts n) {a z : Int} (d : decode cc pc = .ok (.l2i, 1)) (hz : (Int64.ofInt a).toInt32 = Int32.ofInt z) (k : At X cells slots (pc + 1) lv (vi z :: st) S) : At X cells slots pc lv (vl a :: st) S := by
  obtain ⟨⟨p, l, e, R, s⟩, ⟨m, args, below, meth, c⟩, Q, ⟨D, cy, ad⟩, ⟨A, nL⟩⟩ := X
  obtain ⟨hx, hb, hml, hown, hts, hK, hAd, hAi, hAs, hNw, hR, hnL⟩ := C
  intro H locs ls hP hS hl
  exact lv_l2i hx hb d hz (k H locs ls hP hS hl)
theorem r_lcmp (C : Cx X cc own Ts n) {a b z : Int} (d : decode cc pc = .ok (.lcmp, 1)) (hz : lg_cmp (Int64.ofInt a) (Int64.ofInt b) = Int32.ofInt z) (k : At X cells slots (pc + 1) lv (vi z :: st) S) : At X cells slots pc lv (vl b :: vl a :: st) S := by
  obtain ⟨⟨p, l, e, R, s⟩, ⟨m, args, below, meth, c⟩, Q, ⟨D, cy, ad⟩, ⟨A, nL⟩⟩ := X
  obtain ⟨hx, hb, hml, hown, hts, hK, hAd, hAi, hAs, hNw, hR, hnL⟩ := C
  intro H locs ls hP hS hl
  have h := k H locs ls hP hS hl
  simp only [List.map_cons, tv, ← hz] at h
  exact W.lcmp hx hb d h
theorem r_ldc2 (C : Cx X cc own Ts n) {index : Nat} {v : Int64} {z : Int} (d : decode cc pc = .ok (.ldc2_w index, 3)) (hc : Cond.constantLong own index v ∈ Ts) (hz : v = Int64.ofInt z) (k : At X cells slots (pc + 3) lv (vl z :: st) S) : At X cells slots pc lv st S := by
  obtain ⟨⟨p, l, e, R, s⟩, ⟨m, args, below, meth, c⟩, Q, ⟨D, cy, ad⟩, ⟨A, nL⟩⟩ := X
  obtain ⟨hx, hb, hml, hown, hts, hK, hAd, hAi, hAs, hNw, hR, hnL⟩ := C
  intro H locs ls hP hS hl
  have h := k H locs ls hP hS hl
  simp only [List.map_cons, tv, ← hz] at h
  exact lv_ldc2 hx hb hown (hts _ hc) d h
theorem r_goto (C : Cx X cc own Ts n) {off : Int} {tgt : Nat} (d : decode cc pc = .ok (.goto off, 3)) (ht : (pc : Int) + off = (tgt : Int)) (k : At X cells slots tgt lv st S) : At X cells slots pc lv st S := by
  obtain ⟨⟨p, l, e, R, s⟩, ⟨m, args, below, meth, c⟩, Q, ⟨D, cy, ad⟩, ⟨A, nL⟩⟩ := X
  obtain ⟨hx, hb, hml, hown, hts, hK, hAd, hAi, hAs, hNw, hR, hnL⟩ := C
  intro H locs ls hP hS hl
  exact lv_goto hx hb d ht (k H locs ls hP hS hl)
theorem r_icmp_eq (C : Cx X cc own Ts n) {a b : Int} {off : Int} {tgt : Nat} (d : decode cc pc = .ok (.if_icmp .eq off, 3)) (ht : (pc : Int) + off = (tgt : Int)) (ha : -2147483648 ≤ a ∧ a < 2147483648) (hb2 : -2147483648 ≤ b ∧ b < 2147483648) (kt : a = b → At X cells slots tgt lv st S) (kf : ¬ a = b → At X cells slots (pc + 3) lv st S) : At X cells slots pc lv (vi b :: vi a :: st) S := by
  obtain ⟨⟨p, l, e, R, s⟩, ⟨m, args, below, meth, c⟩, Q, ⟨D, cy, ad⟩, ⟨A, nL⟩⟩ := X
  obtain ⟨hx, hb, hml, hown, hts, hK, hAd, hAi, hAs, hNw, hR, hnL⟩ := C
  intro H locs ls hP hS hl
  exact lv_icmp_eq hx hb d ht (fun q => kt ((i32_eq ha hb2).mp q) H locs ls hP hS hl) (fun q => kf (fun z => q ((i32_eq ha hb2).mpr z)) H locs ls hP hS hl)
theorem r_if_eq (C : Cx X cc own Ts n) {a : Int} {off : Int} {tgt : Nat} (d : decode cc pc = .ok (.ifCond .eq off, 3)) (ht : (pc : Int) + off = (tgt : Int)) (ha : -2147483648 ≤ a ∧ a < 2147483648) (kt : a = 0 → At X cells slots tgt lv st S) (kf : ¬ a = 0 → At X cells slots (pc + 3) lv st S) : At X cells slots pc lv (vi a :: st) S := by
  obtain ⟨⟨p, l, e, R, s⟩, ⟨m, args, below, meth, c⟩, Q, ⟨D, cy, ad⟩, ⟨A, nL⟩⟩ := X
  obtain ⟨hx, hb, hml, hown, hts, hK, hAd, hAi, hAs, hNw, hR, hnL⟩ := C
  intro H locs ls hP hS hl
  exact lv_if_eq hx hb d ht (fun q => kt ((i32_eq ha i32_r0).mp q) H locs ls hP hS hl) (fun q => kf (fun z => q ((i32_eq ha i32_r0).mpr z)) H locs ls hP hS hl)
theorem r_icmp_ne (C : Cx X cc own Ts n) {a b : Int} {off : Int} {tgt : Nat} (d : decode cc pc = .ok (.if_icmp .ne off, 3)) (ht : (pc : Int) + off = (tgt : Int)) (ha : -2147483648 ≤ a ∧ a < 2147483648) (hb2 : -2147483648 ≤ b ∧ b < 2147483648) (kt : ¬ a = b → At X cells slots tgt lv st S) (kf : a = b → At X cells slots (pc + 3) lv st S) : At X cells slots pc lv (vi b :: vi a :: st) S := by
  obtain ⟨⟨p, l, e, R, s⟩, ⟨m, args, below, meth, c⟩, Q, ⟨D, cy, ad⟩, ⟨A, nL⟩⟩ := X
  obtain ⟨hx, hb, hml, hown, hts, hK, hAd, hAi, hAs, hNw, hR, hnL⟩ := C
  intro H locs ls hP hS hl
  exact lv_icmp_ne hx hb d ht (fun q => kt (fun z => q ((i32_eq ha hb2).mpr z)) H locs ls hP hS hl) (fun q => kf ((i32_eq ha hb2).mp q) H locs ls hP hS hl)
theorem r_if_ne (C : Cx X cc own Ts n) {a : Int} {off : Int} {tgt : Nat} (d : decode cc pc = .ok (.ifCond .ne off, 3)) (ht : (pc : Int) + off = (tgt : Int)) (ha : -2147483648 ≤ a ∧ a < 2147483648) (kt : ¬ a = 0 → At X cells slots tgt lv st S) (kf : a = 0 → At X cells slots (pc + 3) lv st S) : At X cells slots pc lv (vi a :: st) S := by
  obtain ⟨⟨p, l, e, R, s⟩, ⟨m, args, below, meth, c⟩, Q, ⟨D, cy, ad⟩, ⟨A, nL⟩⟩ := X
  obtain ⟨hx, hb, hml, hown, hts, hK, hAd, hAi, hAs, hNw, hR, hnL⟩ := C
  intro H locs ls hP hS hl
  exact lv_if_ne hx hb d ht (fun q => kt (fun z => q ((i32_eq ha i32_r0).mpr z)) H locs ls hP hS hl) (fun q => kf ((i32_eq ha i32_r0).mp q) H locs ls hP hS hl)
theorem r_icmp_lt (C : Cx X cc own Ts n) {a b : Int} {off : Int} {tgt : Nat} (d : decode cc pc = .ok (.if_icmp .lt off, 3)) (ht : (pc : Int) + off = (tgt : Int)) (ha : -2147483648 ≤ a ∧ a < 2147483648) (hb2 : -2147483648 ≤ b ∧ b < 2147483648) (kt : a < b → At X cells slots tgt lv st S) (kf : b ≤ a → At X cells slots (pc + 3) lv st S) : At X cells slots pc lv (vi b :: vi a :: st) S := by
  obtain ⟨⟨p, l, e, R, s⟩, ⟨m, args, below, meth, c⟩, Q, ⟨D, cy, ad⟩, ⟨A, nL⟩⟩ := X
  obtain ⟨hx, hb, hml, hown, hts, hK, hAd, hAi, hAs, hNw, hR, hnL⟩ := C
  intro H locs ls hP hS hl
  exact lv_icmp_lt hx hb d ht (fun q => kt ((i32_lt ha hb2).mp q) H locs ls hP hS hl) (fun q => kf (Int.not_lt.mp fun z => q ((i32_lt ha hb2).mpr z)) H locs ls hP hS hl)
theorem r_if_lt (C : Cx X cc own Ts n) {a : Int} {off : Int} {tgt : Nat} (d : decode cc pc = .ok (.ifCond .lt off, 3)) (ht : (pc : Int) + off = (tgt : Int)) (ha : -2147483648 ≤ a ∧ a < 2147483648) (kt : a < 0 → At X cells slots tgt lv st S) (kf : 0 ≤ a → At X cells slots (pc + 3) lv st S) : At X cells slots pc lv (vi a :: st) S := by
  obtain ⟨⟨p, l, e, R, s⟩, ⟨m, args, below, meth, c⟩, Q, ⟨D, cy, ad⟩, ⟨A, nL⟩⟩ := X
  obtain ⟨hx, hb, hml, hown, hts, hK, hAd, hAi, hAs, hNw, hR, hnL⟩ := C
  intro H locs ls hP hS hl
  exact lv_if_lt hx hb d ht (fun q => kt ((i32_lt ha i32_r0).mp q) H locs ls hP hS hl) (fun q => kf (Int.not_lt.mp fun z => q ((i32_lt ha i32_r0).mpr z)) H locs ls hP hS hl)
theorem r_icmp_ge (C : Cx X cc own Ts n) {a b : Int} {off : Int} {tgt : Nat} (d : decode cc pc = .ok (.if_icmp .ge off, 3)) (ht : (pc : Int) + off = (tgt : Int)) (ha : -2147483648 ≤ a ∧ a < 2147483648) (hb2 : -2147483648 ≤ b ∧ b < 2147483648) (kt : b ≤ a → At X cells slots tgt lv st S) (kf : a < b → At X cells slots (pc + 3) lv st S) : At X cells slots pc lv (vi b :: vi a :: st) S := by
  obtain ⟨⟨p, l, e, R, s⟩, ⟨m, args, below, meth, c⟩, Q, ⟨D, cy, ad⟩, ⟨A, nL⟩⟩ := X
  obtain ⟨hx, hb, hml, hown, hts, hK, hAd, hAi, hAs, hNw, hR, hnL⟩ := C
  intro H locs ls hP hS hl
  exact lv_icmp_ge hx hb d ht (fun q => kt ((i32_le hb2 ha).mp q) H locs ls hP hS hl) (fun q => kf (Int.not_le.mp fun z => q ((i32_le hb2 ha).mpr z)) H locs ls hP hS hl)
theorem r_if_ge (C : Cx X cc own Ts n) {a : Int} {off : Int} {tgt : Nat} (d : decode cc pc = .ok (.ifCond .ge off, 3)) (ht : (pc : Int) + off = (tgt : Int)) (ha : -2147483648 ≤ a ∧ a < 2147483648) (kt : 0 ≤ a → At X cells slots tgt lv st S) (kf : a < 0 → At X cells slots (pc + 3) lv st S) : At X cells slots pc lv (vi a :: st) S := by
  obtain ⟨⟨p, l, e, R, s⟩, ⟨m, args, below, meth, c⟩, Q, ⟨D, cy, ad⟩, ⟨A, nL⟩⟩ := X
  obtain ⟨hx, hb, hml, hown, hts, hK, hAd, hAi, hAs, hNw, hR, hnL⟩ := C
  intro H locs ls hP hS hl
  exact lv_if_ge hx hb d ht (fun q => kt ((i32_le i32_r0 ha).mp q) H locs ls hP hS hl) (fun q => kf (Int.not_le.mp fun z => q ((i32_le i32_r0 ha).mpr z)) H locs ls hP hS hl)
theorem r_icmp_gt (C : Cx X cc own Ts n) {a b : Int} {off : Int} {tgt : Nat} (d : decode cc pc = .ok (.if_icmp .gt off, 3)) (ht : (pc : Int) + off = (tgt : Int)) (ha : -2147483648 ≤ a ∧ a < 2147483648) (hb2 : -2147483648 ≤ b ∧ b < 2147483648) (kt : b < a → At X cells slots tgt lv st S) (kf : a ≤ b → At X cells slots (pc + 3) lv st S) : At X cells slots pc lv (vi b :: vi a :: st) S := by
  obtain ⟨⟨p, l, e, R, s⟩, ⟨m, args, below, meth, c⟩, Q, ⟨D, cy, ad⟩, ⟨A, nL⟩⟩ := X
  obtain ⟨hx, hb, hml, hown, hts, hK, hAd, hAi, hAs, hNw, hR, hnL⟩ := C
  intro H locs ls hP hS hl
  exact lv_icmp_gt hx hb d ht (fun q => kt ((i32_lt hb2 ha).mp q) H locs ls hP hS hl) (fun q => kf (Int.not_lt.mp fun z => q ((i32_lt hb2 ha).mpr z)) H locs ls hP hS hl)
theorem r_if_gt (C : Cx X cc own Ts n) {a : Int} {off : Int} {tgt : Nat} (d : decode cc pc = .ok (.ifCond .gt off, 3)) (ht : (pc : Int) + off = (tgt : Int)) (ha : -2147483648 ≤ a ∧ a < 2147483648) (kt : 0 < a → At X cells slots tgt lv st S) (kf : a ≤ 0 → At X cells slots (pc + 3) lv st S) : At X cells slots pc lv (vi a :: st) S := by
  obtain ⟨⟨p, l, e, R, s⟩, ⟨m, args, below, meth, c⟩, Q, ⟨D, cy, ad⟩, ⟨A, nL⟩⟩ := X
  obtain ⟨hx, hb, hml, hown, hts, hK, hAd, hAi, hAs, hNw, hR, hnL⟩ := C
  intro H locs ls hP hS hl
  exact lv_if_gt hx hb d ht (fun q => kt ((i32_lt i32_r0 ha).mp q) H locs ls hP hS hl) (fun q => kf (Int.not_lt.mp fun z => q ((i32_lt i32_r0 ha).mpr z)) H locs ls hP hS hl)
theorem r_icmp_le (C : Cx X cc own Ts n) {a b : Int} {off : Int} {tgt : Nat} (d : decode cc pc = .ok (.if_icmp .le off, 3)) (ht : (pc : Int) + off = (tgt : Int)) (ha : -2147483648 ≤ a ∧ a < 2147483648) (hb2 : -2147483648 ≤ b ∧ b < 2147483648) (kt : a ≤ b → At X cells slots tgt lv st S) (kf : b < a → At X cells slots (pc + 3) lv st S) : At X cells slots pc lv (vi b :: vi a :: st) S := by
  obtain ⟨⟨p, l, e, R, s⟩, ⟨m, args, below, meth, c⟩, Q, ⟨D, cy, ad⟩, ⟨A, nL⟩⟩ := X
  obtain ⟨hx, hb, hml, hown, hts, hK, hAd, hAi, hAs, hNw, hR, hnL⟩ := C
  intro H locs ls hP hS hl
  exact lv_icmp_le hx hb d ht (fun q => kt ((i32_le ha hb2).mp q) H locs ls hP hS hl) (fun q => kf (Int.not_le.mp fun z => q ((i32_le ha hb2).mpr z)) H locs ls hP hS hl)
theorem r_if_le (C : Cx X cc own Ts n) {a : Int} {off : Int} {tgt : Nat} (d : decode cc pc = .ok (.ifCond .le off, 3)) (ht : (pc : Int) + off = (tgt : Int)) (ha : -2147483648 ≤ a ∧ a < 2147483648) (kt : a ≤ 0 → At X cells slots tgt lv st S) (kf : 0 < a → At X cells slots (pc + 3) lv st S) : At X cells slots pc lv (vi a :: st) S := by
  obtain ⟨⟨p, l, e, R, s⟩, ⟨m, args, below, meth, c⟩, Q, ⟨D, cy, ad⟩, ⟨A, nL⟩⟩ := X
  obtain ⟨hx, hb, hml, hown, hts, hK, hAd, hAi, hAs, hNw, hR, hnL⟩ := C
  intro H locs ls hP hS hl
  exact lv_if_le hx hb d ht (fun q => kt ((i32_le ha i32_r0).mp q) H locs ls hP hS hl) (fun q => kf (Int.not_le.mp fun z => q ((i32_le ha i32_r0).mpr z)) H locs ls hP hS hl)
theorem r_ifnull (C : Cx X cc own Ts n) {o : Option Idn} {off : Int} {tgt : Nat} (d : decode cc pc = .ok (.ifnull off, 3)) (ht : (pc : Int) + off = (tgt : Int)) (kt : o = none → At X cells slots tgt lv st S) (kf : ∀ i, o = some i → At X cells slots (pc + 3) lv st S) : At X cells slots pc lv (vr o :: st) S := by
  obtain ⟨⟨p, l, e, R, s⟩, ⟨m, args, below, meth, c⟩, Q, ⟨D, cy, ad⟩, ⟨A, nL⟩⟩ := X
  obtain ⟨hx, hb, hml, hown, hts, hK, hAd, hAi, hAs, hNw, hR, hnL⟩ := C
  intro H locs ls hP hS hl
  cases o with
  | none => exact lv_ifnullN hx hb d ht (kt rfl H locs ls hP hS hl)
  | some i => exact lv_ifnull hx hb d (kf i rfl H locs ls hP hS hl)
theorem r_ifnonnull (C : Cx X cc own Ts n) {o : Option Idn} {off : Int} {tgt : Nat} (d : decode cc pc = .ok (.ifnonnull off, 3)) (ht : (pc : Int) + off = (tgt : Int)) (kt : ∀ i, o = some i → At X cells slots tgt lv st S) (kf : o = none → At X cells slots (pc + 3) lv st S) : At X cells slots pc lv (vr o :: st) S := by
  obtain ⟨⟨p, l, e, R, s⟩, ⟨m, args, below, meth, c⟩, Q, ⟨D, cy, ad⟩, ⟨A, nL⟩⟩ := X
  obtain ⟨hx, hb, hml, hown, hts, hK, hAd, hAi, hAs, hNw, hR, hnL⟩ := C
  intro H locs ls hP hS hl
  cases o with
  | none => exact lv_ifnonnullN hx hb d (kf rfl H locs ls hP hS hl)
  | some i => exact lv_ifnonnull hx hb d ht (kt i rfl H locs ls hP hS hl)
theorem r_tin (C : Cx X cc own Ts n) {dflt lo hi : Int} {offs : Array Int} {len : Nat} {z off : Int} {tgt : Nat} (d : decode cc pc = .ok (.tableswitch dflt lo hi offs, len)) (hz : -2147483648 ≤ z ∧ z < 2147483648) (h1 : lo ≤ z) (h2 : z ≤ hi) (ho : offs[(z - lo).toNat]? = some off) (ht : (pc : Int) + off = (tgt : Int)) (k : At X cells slots tgt lv st S) : At X cells slots pc lv (vi z :: st) S := by
  obtain ⟨⟨p, l, e, R, s⟩, ⟨m, args, below, meth, c⟩, Q, ⟨D, cy, ad⟩, ⟨A, nL⟩⟩ := X
  obtain ⟨hx, hb, hml, hown, hts, hK, hAd, hAi, hAs, hNw, hR, hnL⟩ := C
  intro H locs ls hP hS hl
  exact lv_tableIn hx hb d (by rw [i32_to hz.1 hz.2]; omega) (by rw [i32_to hz.1 hz.2]; omega) (by rw [i32_to hz.1 hz.2]; exact ho) ht (k H locs ls hP hS hl)
theorem r_tout (C : Cx X cc own Ts n) {dflt lo hi : Int} {offs : Array Int} {len : Nat} {z : Int} {tgt : Nat} (d : decode cc pc = .ok (.tableswitch dflt lo hi offs, len)) (hz : -2147483648 ≤ z ∧ z < 2147483648) (h : z < lo ∨ hi < z) (ht : (pc : Int) + dflt = (tgt : Int)) (k : At X cells slots tgt lv st S) : At X cells slots pc lv (vi z :: st) S := by
  obtain ⟨⟨p, l, e, R, s⟩, ⟨m, args, below, meth, c⟩, Q, ⟨D, cy, ad⟩, ⟨A, nL⟩⟩ := X
  obtain ⟨hx, hb, hml, hown, hts, hK, hAd, hAi, hAs, hNw, hR, hnL⟩ := C
  intro H locs ls hP hS hl
  exact lv_tableOut hx hb d (by rw [i32_to hz.1 hz.2]; exact h) ht (k H locs ls hP hS hl)
theorem r_lsw (C : Cx X cc own Ts n) {dflt : Int} {ps : Array (Int × Int)} {len : Nat} {z off : Int} {tgt : Nat} (d : decode cc pc = .ok (.lookupswitch dflt ps, len)) (hp0 : (ps.toList.zip (ps.toList.drop 1)).all (fun (a, next) => a.1 < next.1) = true) (hz : -2147483648 ≤ z ∧ z < 2147483648) (ho : Op.lookupswitch.offset ps.toList dflt z = off) (ht : (pc : Int) + off = (tgt : Int)) (k : At X cells slots tgt lv st S) : At X cells slots pc lv (vi z :: st) S := by
  obtain ⟨⟨p, l, e, R, s⟩, ⟨m, args, below, meth, c⟩, Q, ⟨D, cy, ad⟩, ⟨A, nL⟩⟩ := X
  obtain ⟨hx, hb, hml, hown, hts, hK, hAd, hAi, hAs, hNw, hR, hnL⟩ := C
  intro H locs ls hP hS hl
  exact lv_lookup hx hb d hp0 (by rw [i32_to hz.1 hz.2]; exact ho) ht (k H locs ls hP hS hl)
theorem r_getf (C : Cx X cc own Ts n) {ref Cn : String} {T : u_T} {N ci index : Nat} {i : Idn} {fs : List AV} (hi : i ∈ ids) (hc : hp S i = .inl (ci, fs)) (hcl : vwCl[ci]? = some (Cn, T, N)) (q : Nat) (hq : q < N) (hin : ∀ w ∈ u_ws Cn T N, w ∈ Ts) (hlk : Cond.fieldLink own index ref (T q).2.1 (T q).2.2.1 ∈ Ts) (hsm : ref = (T q).1 ∨ Cond.sameField ref (T q).1 (T q).2.1 (T q).2.2.1 ∈ Ts) {v : AV} (hv : fs[q]? = some v) (d : decode cc pc = .ok (.getfield index, 3)) (k : At X cells slots (pc + 3) lv (v :: st) S) : At X cells slots pc lv (vr (some i) :: st) S := by
  obtain ⟨⟨p, l, e, R, s⟩, ⟨m, args, below, meth, c⟩, Q, ⟨D, cy, ad⟩, ⟨A, nL⟩⟩ := X
  obtain ⟨hx, hb, hml, hown, hts, hK, hAd, hAi, hAs, hNw, hR, hnL⟩ := C
  intro H locs ls hP hS hl
  obtain ⟨q0, h0, h1⟩ := wl_get (cy := cy) (ad := ad) (h := hp S) hi
  rw [hc] at h1
  exact va_get (v := tv ad v) hx hb hts hin hown hK hP q0 h1 hcl q hq (hts _ hlk) (fun x h9 => (hsm.elim (fun e => e ▸ h9) (fun w => u_same (hts _ w) x h9))) (by rw [List.getElem?_map, hv]; rfl) d (k H locs ls hP hS hl)
theorem r_putf (C : Cx X cc own Ts n) {ref Cn : String} {T : u_T} {N ci index : Nat} {i : Idn} {fs : List AV} (hi : i ∈ ids) (hc : hp S i = .inl (ci, fs)) (hcl : vwCl[ci]? = some (Cn, T, N)) (q : Nat) (hq : q < N) (hin : ∀ w ∈ u_ws Cn T N, w ∈ Ts) (hlk : Cond.fieldLink own index ref (T q).2.1 (T q).2.2.1 ∈ Ts) (hsm : ref = (T q).1 ∨ Cond.sameField ref (T q).1 (T q).2.1 (T q).2.2.1 ∈ Ts) {v : AV} {S' : ST} (ty0 : Nat → FieldType) (hty : ∀ k, k < N → parseFieldDescriptor (T k).2.2.1 = some (ty0 k)) (hnm : ∀ a, a < N → ∀ b, b < N → a ≠ b → (T a).2.1 ≠ (T b).2.1) (hfin : (T q).2.2.2 = false) {ty : FieldType} (hd : parseFieldDescriptor (T q).2.2.1 = some ty) (hnr : ∀ ad, narrow ty (tv ad v) = tv ad v) (hft : ∀ ad, fits ty (tv ad v) = true) (hlen : q < fs.length) (hu : hp S' = upI (hp S) i (.inl (ci, fs.set q v))) (d : decode cc pc = .ok (.putfield index, 3)) (k : At X cells slots (pc + 3) lv st S') : At X cells slots pc lv (v :: vr (some i) :: st) S := by
  obtain ⟨⟨p, l, e, R, s⟩, ⟨m, args, below, meth, c⟩, Q, ⟨D, cy, ad⟩, ⟨A, nL⟩⟩ := X
  obtain ⟨hx, hb, hml, hown, hts, hK, hAd, hAi, hAs, hNw, hR, hnL⟩ := C
  intro H locs ls hP hS hl
  obtain ⟨q0, h0, h1⟩ := wl_get (cy := cy) (ad := ad) (h := hp S) hi
  rw [hc] at h1
  refine va_put (v := tv ad v) (H0 := s.heap) (A := A) hx hb hts hin ty0 hty hnm hown hK hP (wl_D hAd hAi) hS q0 h1 hcl q hq (hts _ hlk) (fun x h9 => (hsm.elim (fun e => e ▸ h9) (fun w => u_same (hts _ w) x h9))) hfin hd (hnr ad) (hft ad) (by simpa using hlen) d (fun H1 locs1 hP1 hD1 hS1 => ?_)
  have e1 : (wl cy ad (hp S)).set q0 (ad i, .inr (ci, (fs.map (tv ad)).set q (tv ad v))) = wl cy ad (hp S') := by
    rw [← List.map_set]
    exact wl_set (e := .inl (ci, fs.set q v)) h0 hu
  rw [e1] at hP1
  exact k H1 locs1 ls hP1 hS1 hl
theorem r_iald (C : Cx X cc own Ts n) {i : Idn} {t N j : Nat} {z : Int} {g : Nat → Int} (hi : i ∈ ids) (hc : hp S i = .inr (.inl (t, N, g))) (ht : t = 0) (hz : z = (j : Int)) (hj : j < N) (hN : N < 2000) (d : decode cc pc = .ok (.iaload, 1)) (k : At X cells slots (pc + 1) lv (vi (g j) :: st) S) : At X cells slots pc lv (vi z :: vr (some i) :: st) S := by
  obtain ⟨⟨p, l, e, R, s⟩, ⟨m, args, below, meth, c⟩, Q, ⟨D, cy, ad⟩, ⟨A, nL⟩⟩ := X
  obtain ⟨hx, hb, hml, hown, hts, hK, hAd, hAi, hAs, hNw, hR, hnL⟩ := C
  intro H locs ls hP hS hl
  obtain ⟨q0, h0, h1⟩ := wl_get (cy := cy) (ad := ad) (h := hp S) hi
  rw [hc] at h1
  subst ht; subst hz
  have e0 : (Int32.ofInt (j : Int)).toNatClampNeg = j := i32_cl (by omega)
  have hv : vp_in (Int32.ofInt (j : Int)) N := i32_in hj (by omega)
  have h2 := va_iald hx hb hK hP q0 0 h1 rfl hv d (rest := st.map (tv ad)) (pc := pc) (ls := ls) (H := H) (locs := locs) (cells := cells) (slots := slots) (Q := Q) (R := R) (l := l) (e := e) (below := below) (meth := meth) (m := m) (args := args) (p := p)
  rw [e0] at h2
  exact h2 (k H locs ls hP hS hl)
theorem r_bald (C : Cx X cc own Ts n) {i : Idn} {t N j : Nat} {z : Int} {g : Nat → Int} (hi : i ∈ ids) (hc : hp S i = .inr (.inl (t, N, g))) (ht : t = 1) (hz : z = (j : Int)) (hj : j < N) (hN : N < 2000) (d : decode cc pc = .ok (.baload, 1)) (k : At X cells slots (pc + 1) lv (vi (g j) :: st) S) : At X cells slots pc lv (vi z :: vr (some i) :: st) S := by
  obtain ⟨⟨p, l, e, R, s⟩, ⟨m, args, below, meth, c⟩, Q, ⟨D, cy, ad⟩, ⟨A, nL⟩⟩ := X
  obtain ⟨hx, hb, hml, hown, hts, hK, hAd, hAi, hAs, hNw, hR, hnL⟩ := C
  intro H locs ls hP hS hl
  obtain ⟨q0, h0, h1⟩ := wl_get (cy := cy) (ad := ad) (h := hp S) hi
  rw [hc] at h1
  subst ht; subst hz
  have e0 : (Int32.ofInt (j : Int)).toNatClampNeg = j := i32_cl (by omega)
  have hv : vp_in (Int32.ofInt (j : Int)) N := i32_in hj (by omega)
  have h2 := va_zald hx hb hK hP q0 1 h1 rfl hv d (rest := st.map (tv ad)) (pc := pc) (ls := ls) (H := H) (locs := locs) (cells := cells) (slots := slots) (Q := Q) (R := R) (l := l) (e := e) (below := below) (meth := meth) (m := m) (args := args) (p := p)
  rw [e0] at h2
  exact h2 (k H locs ls hP hS hl)
theorem r_lald (C : Cx X cc own Ts n) {i : Idn} {t N j : Nat} {z : Int} {g : Nat → Int} (hi : i ∈ ids) (hc : hp S i = .inr (.inr (.inr (t, N, g)))) (ht : t = 6) (hz : z = (j : Int)) (hj : j < N) (hN : N < 2000) (d : decode cc pc = .ok (.laload, 1)) (k : At X cells slots (pc + 1) lv (vl (g j) :: st) S) : At X cells slots pc lv (vi z :: vr (some i) :: st) S := by
  obtain ⟨⟨p, l, e, R, s⟩, ⟨m, args, below, meth, c⟩, Q, ⟨D, cy, ad⟩, ⟨A, nL⟩⟩ := X
  obtain ⟨hx, hb, hml, hown, hts, hK, hAd, hAi, hAs, hNw, hR, hnL⟩ := C
  intro H locs ls hP hS hl
  obtain ⟨q0, h0, h1⟩ := wl_get (cy := cy) (ad := ad) (h := hp S) hi
  rw [hc] at h1
  subst ht; subst hz
  have e0 : (Int32.ofInt (j : Int)).toNatClampNeg = j := i32_cl (by omega)
  have hv : vp_in (Int32.ofInt (j : Int)) N := i32_in hj (by omega)
  have h2 := va_lald hx hb hK hP q0 6 h1 rfl hv d (rest := st.map (tv ad)) (pc := pc) (ls := ls) (H := H) (locs := locs) (cells := cells) (slots := slots) (Q := Q) (R := R) (l := l) (e := e) (below := below) (meth := meth) (m := m) (args := args) (p := p)
  rw [e0] at h2
  exact h2 (k H locs ls hP hS hl)
theorem r_aald (C : Cx X cc own Ts n) {i : Idn} {t N j : Nat} {z : Int} {g : Nat → Option Idn} {C : String} (hi : i ∈ ids) (hc : hp S i = .inr (.inr (.inl (t, N, g)))) (ht : ∀ cy, (tysOf cy)[t]? = some (cy t, .object C)) (hz : z = (j : Int)) (hj : j < N) (hN : N < 2000) (d : decode cc pc = .ok (.aaload, 1)) (k : At X cells slots (pc + 1) lv (vr (g j) :: st) S) : At X cells slots pc lv (vi z :: vr (some i) :: st) S := by
  obtain ⟨⟨p, l, e, R, s⟩, ⟨m, args, below, meth, c⟩, Q, ⟨D, cy, ad⟩, ⟨A, nL⟩⟩ := X
  obtain ⟨hx, hb, hml, hown, hts, hK, hAd, hAi, hAs, hNw, hR, hnL⟩ := C
  intro H locs ls hP hS hl
  obtain ⟨q0, h0, h1⟩ := wl_get (cy := cy) (ad := ad) (h := hp S) hi
  rw [hc] at h1
  subst hz
  have e0 : (Int32.ofInt (j : Int)).toNatClampNeg = j := i32_cl (by omega)
  have hv : vp_in (Int32.ofInt (j : Int)) N := i32_in hj (by omega)
  have h2 := va_aldq hx hb hK hP q0 t h1 (ht cy) hv d (rest := st.map (tv ad)) (pc := pc) (ls := ls) (H := H) (locs := locs) (cells := cells) (slots := slots) (Q := Q) (R := R) (l := l) (e := e) (below := below) (meth := meth) (m := m) (args := args) (p := p)
  rw [e0] at h2
  exact h2 (k H locs ls hP hS hl)
theorem r_alen (C : Cx X cc own Ts n) {i : Idn} {t N : Nat} (hi : i ∈ ids) (hc : (∃ g, hp S i = .inr (.inl (t, N, g))) ∨ (∃ g, hp S i = .inr (.inr (.inl (t, N, g))))) (ht : ∀ cy, ∃ ty, (tysOf cy)[t]? = some (cy t, ty)) (d : decode cc pc = .ok (.arraylength, 1)) (k : At X cells slots (pc + 1) lv (vi (N : Int) :: st) S) : At X cells slots pc lv (vr (some i) :: st) S := by
  obtain ⟨⟨p, l, e, R, s⟩, ⟨m, args, below, meth, c⟩, Q, ⟨D, cy, ad⟩, ⟨A, nL⟩⟩ := X
  obtain ⟨hx, hb, hml, hown, hts, hK, hAd, hAi, hAs, hNw, hR, hnL⟩ := C
  intro H locs ls hP hS hl
  obtain ⟨q0, h0, h1⟩ := wl_get (cy := cy) (ad := ad) (h := hp S) hi
  obtain ⟨ty, hty⟩ := ht cy
  rcases hc with ⟨g, hc⟩ | ⟨g, hc⟩
  · rw [hc] at h1
    exact va_alen hx hb hK hP q0 t h1 hty (Int32.ofInt_eq_ofNat).symm d (k H locs ls hP hS hl)
  · rw [hc] at h1
    exact va_alen hx hb hK hP q0 t h1 hty (Int32.ofInt_eq_ofNat).symm d (k H locs ls hP hS hl)
theorem r_iast (C : Cx X cc own Ts n) {i : Idn} {t N j : Nat} {z x : Int} {g : Nat → Int} {S' : ST} (hi : i ∈ ids) (hc : hp S i = .inr (.inl (t, N, g))) (ht : t = 0) (hz : z = (j : Int)) (hj : j < N) (hN : N < 2000) (hu : hp S' = upI (hp S) i (.inr (.inl (t, N, upF g j x)))) (d : decode cc pc = .ok (.iastore, 1)) (k : At X cells slots (pc + 1) lv st S') : At X cells slots pc lv (vi x :: vi z :: vr (some i) :: st) S := by
  obtain ⟨⟨p, l, e, R, s⟩, ⟨m, args, below, meth, c⟩, Q, ⟨D, cy, ad⟩, ⟨A, nL⟩⟩ := X
  obtain ⟨hx, hb, hml, hown, hts, hK, hAd, hAi, hAs, hNw, hR, hnL⟩ := C
  intro H locs ls hP hS hl
  obtain ⟨q0, h0, h1⟩ := wl_get (cy := cy) (ad := ad) (h := hp S) hi
  rw [hc] at h1
  subst ht; subst hz
  have e0 : (Int32.ofInt (j : Int)).toNatClampNeg = j := i32_cl (by omega)
  have hv : vp_in (Int32.ofInt (j : Int)) N := i32_in hj (by omega)
  refine va_iast (H0 := s.heap) (A := A) hx hb hK hP (wl_D hAd hAi) hS q0 0 h1 rfl hv d (fun H1 locs1 hP1 hD1 hS1 => ?_)
  have e1 : te cy ad (.inr (.inl (0, N, upF g j x))) = .inl (cy 0, N, .inl (upd (fun j => Int32.ofInt (g j)) j (Int32.ofInt x))) := by
    simp only [te]
    refine congrArg (fun f => (Sum.inl (cy 0, N, .inl f) : va_E)) ?_
    funext w
    by_cases hw : w = j
    · subst hw; simp [upF, upd, vp_updL]
    · simp [upF, upd, vp_updL, hw]
  rw [e0, ← e1, wl_set h0 hu] at hP1
  exact k H1 locs1 ls hP1 hS1 hl
theorem r_bast (C : Cx X cc own Ts n) {i : Idn} {t N j : Nat} {z x : Int} {g : Nat → Int} {S' : ST} (hi : i ∈ ids) (hc : hp S i = .inr (.inl (t, N, g))) (ht : t = 1) (hz : z = (j : Int)) (hj : j < N) (hN : N < 2000) (hx01 : x = 0 ∨ x = 1) (hu : hp S' = upI (hp S) i (.inr (.inl (t, N, upF g j x)))) (d : decode cc pc = .ok (.bastore, 1)) (k : At X cells slots (pc + 1) lv st S') : At X cells slots pc lv (vi x :: vi z :: vr (some i) :: st) S := by
  obtain ⟨⟨p, l, e, R, s⟩, ⟨m, args, below, meth, c⟩, Q, ⟨D, cy, ad⟩, ⟨A, nL⟩⟩ := X
  obtain ⟨hx, hb, hml, hown, hts, hK, hAd, hAi, hAs, hNw, hR, hnL⟩ := C
  intro H locs ls hP hS hl
  obtain ⟨q0, h0, h1⟩ := wl_get (cy := cy) (ad := ad) (h := hp S) hi
  rw [hc] at h1
  subst ht; subst hz
  have e0 : (Int32.ofInt (j : Int)).toNatClampNeg = j := i32_cl (by omega)
  have hv : vp_in (Int32.ofInt (j : Int)) N := i32_in hj (by omega)
  refine va_zast (H0 := s.heap) (A := A) hx hb hK hP (wl_D hAd hAi) hS q0 1 h1 rfl hv d (fun H1 locs1 hP1 hD1 hS1 => ?_)
  have e1 : te cy ad (.inr (.inl (1, N, upF g j x))) = .inl (cy 1, N, .inl (upd (fun j => Int32.ofInt (g j)) j (vp_nar .boolean (Int32.ofInt x)))) := by
    simp only [te]
    refine congrArg (fun f => (Sum.inl (cy 1, N, .inl f) : va_E)) ?_
    funext w
    by_cases hw : w = j
    · subst hw; simp [upF, upd, vp_updL]; rcases hx01 with rfl | rfl <;> rfl
    · simp [upF, upd, vp_updL, hw]
  rw [e0, ← e1, wl_set h0 hu] at hP1
  exact k H1 locs1 ls hP1 hS1 hl
theorem r_last (C : Cx X cc own Ts n) {i : Idn} {t N j : Nat} {z x : Int} {g : Nat → Int} {S' : ST} (hi : i ∈ ids) (hc : hp S i = .inr (.inr (.inr (t, N, g)))) (ht : t = 6) (hz : z = (j : Int)) (hj : j < N) (hN : N < 2000) (hu : hp S' = upI (hp S) i (.inr (.inr (.inr (t, N, upF g j x))))) (d : decode cc pc = .ok (.lastore, 1)) (k : At X cells slots (pc + 1) lv st S') : At X cells slots pc lv (vl x :: vi z :: vr (some i) :: st) S := by
  obtain ⟨⟨p, l, e, R, s⟩, ⟨m, args, below, meth, c⟩, Q, ⟨D, cy, ad⟩, ⟨A, nL⟩⟩ := X
  obtain ⟨hx, hb, hml, hown, hts, hK, hAd, hAi, hAs, hNw, hR, hnL⟩ := C
  intro H locs ls hP hS hl
  obtain ⟨q0, h0, h1⟩ := wl_get (cy := cy) (ad := ad) (h := hp S) hi
  rw [hc] at h1
  subst ht; subst hz
  have e0 : (Int32.ofInt (j : Int)).toNatClampNeg = j := i32_cl (by omega)
  have hv : vp_in (Int32.ofInt (j : Int)) N := i32_in hj (by omega)
  refine va_last (H0 := s.heap) (A := A) hx hb hK hP (wl_D hAd hAi) hS q0 6 h1 rfl hv d (fun H1 locs1 hP1 hD1 hS1 => ?_)
  have e1 : te cy ad (.inr (.inr (.inr (6, N, upF g j x)))) = .inl (cy 6, N, .inr (.inl (vp_updL (fun j => Int64.ofInt (g j)) j (Int64.ofInt x)))) := by
    simp only [te]
    refine congrArg (fun f => (Sum.inl (cy 6, N, .inr (.inl f)) : va_E)) ?_
    funext w
    by_cases hw : w = j
    · subst hw; simp [upF, upd, vp_updL]
    · simp [upF, upd, vp_updL, hw]
  rw [e0, ← e1, wl_set h0 hu] at hP1
  exact k H1 locs1 ls hP1 hS1 hl
theorem r_aast11 (C : Cx X cc own Ts n) {i : Idn} {N j y ci Nf : Nat} {Tf : u_T} {fs : List AV} {z : Int} {g : Nat → Option Idn} {S' : ST} (hi : i ∈ ids) (hc : hp S i = .inr (.inr (.inl (2, N, g)))) (hy : ((11, y) : Idn) ∈ ids) (hcy : hp S (11, y) = .inl (ci, fs)) (hcl : vwCl[ci]? = some (RX3, Tf, Nf)) (hz : z = (j : Int)) (hj : j < N) (hN : N < 2000) (hu : hp S' = upI (hp S) i (.inr (.inr (.inl (2, N, upF g j (some (11, y))))))) (d : decode cc pc = .ok (.aastore, 1)) (k : At X cells slots (pc + 1) lv st S') : At X cells slots pc lv (vr (some (11, y)) :: vi z :: vr (some i) :: st) S := by
  obtain ⟨⟨p, l, e, R, s⟩, ⟨m, args, below, meth, c⟩, Q, ⟨D, cy, ad⟩, ⟨A, nL⟩⟩ := X
  obtain ⟨hx, hb, hml, hown, hts, hK, hAd, hAi, hAs, hNw, hR, hnL⟩ := C
  intro H locs ls hP hS hl
  obtain ⟨q0, h0, h1⟩ := wl_get (cy := cy) (ad := ad) (h := hp S) hi
  obtain ⟨q1, h3, h4⟩ := wl_get (cy := cy) (ad := ad) (h := hp S) hy
  rw [hc] at h1
  rw [hcy] at h4
  subst hz
  have e0 : (Int32.ofInt (j : Int)).toNatClampNeg = j := i32_cl (by omega)
  have hv : vp_in (Int32.ofInt (j : Int)) N := i32_in hj (by omega)
  refine va_astqO (H0 := s.heap) (A := A) (E := "PostingPlanner$Part") hx hb hK hP (wl_D hAd hAi) hS q0 2 q1 ci h1 rfl (r := (RX3, Tf, Nf)) hNw.2.1 h4 hcl hv d (fun H1 locs1 hP1 hD1 hS1 => ?_)
  have e1 : te cy ad (.inr (.inr (.inl (2, N, upF g j (some (11, y)))))) = .inl (cy 2, N, .inr (.inr (.inr (.inr (va_up (fun j => (g j).map ad) j (some (ad (11, y)))))))) := by
    simp only [te]
    refine congrArg (fun f => (Sum.inl (cy 2, N, .inr (.inr (.inr (.inr f)))) : va_E)) ?_
    funext w
    by_cases hw : w = j
    · subst hw; simp [upF, va_up]
    · simp [upF, va_up, hw]
  rw [e0, ← e1, wl_set h0 hu] at hP1
  exact k H1 locs1 ls hP1 hS1 hl
theorem r_aast14 (C : Cx X cc own Ts n) {i : Idn} {N j y ci Nf : Nat} {Tf : u_T} {fs : List AV} {z : Int} {g : Nat → Option Idn} {S' : ST} (hi : i ∈ ids) (hc : hp S i = .inr (.inr (.inl (2, N, g)))) (hy : ((14, y) : Idn) ∈ ids) (hcy : hp S (14, y) = .inl (ci, fs)) (hcl : vwCl[ci]? = some (RX4, Tf, Nf)) (hz : z = (j : Int)) (hj : j < N) (hN : N < 2000) (hu : hp S' = upI (hp S) i (.inr (.inr (.inl (2, N, upF g j (some (14, y))))))) (d : decode cc pc = .ok (.aastore, 1)) (k : At X cells slots (pc + 1) lv st S') : At X cells slots pc lv (vr (some (14, y)) :: vi z :: vr (some i) :: st) S := by
  obtain ⟨⟨p, l, e, R, s⟩, ⟨m, args, below, meth, c⟩, Q, ⟨D, cy, ad⟩, ⟨A, nL⟩⟩ := X
  obtain ⟨hx, hb, hml, hown, hts, hK, hAd, hAi, hAs, hNw, hR, hnL⟩ := C
  intro H locs ls hP hS hl
  obtain ⟨q0, h0, h1⟩ := wl_get (cy := cy) (ad := ad) (h := hp S) hi
  obtain ⟨q1, h3, h4⟩ := wl_get (cy := cy) (ad := ad) (h := hp S) hy
  rw [hc] at h1
  rw [hcy] at h4
  subst hz
  have e0 : (Int32.ofInt (j : Int)).toNatClampNeg = j := i32_cl (by omega)
  have hv : vp_in (Int32.ofInt (j : Int)) N := i32_in hj (by omega)
  refine va_astqO (H0 := s.heap) (A := A) (E := "PostingPlanner$Part") hx hb hK hP (wl_D hAd hAi) hS q0 2 q1 ci h1 rfl (r := (RX4, Tf, Nf)) hNw.2.2.1 h4 hcl hv d (fun H1 locs1 hP1 hD1 hS1 => ?_)
  have e1 : te cy ad (.inr (.inr (.inl (2, N, upF g j (some (14, y)))))) = .inl (cy 2, N, .inr (.inr (.inr (.inr (va_up (fun j => (g j).map ad) j (some (ad (14, y)))))))) := by
    simp only [te]
    refine congrArg (fun f => (Sum.inl (cy 2, N, .inr (.inr (.inr (.inr f)))) : va_E)) ?_
    funext w
    by_cases hw : w = j
    · subst hw; simp [upF, va_up]
    · simp [upF, va_up, hw]
  rw [e0, ← e1, wl_set h0 hu] at hP1
  exact k H1 locs1 ls hP1 hS1 hl
end RULES
