/-! both sides: what always holds -/
def RA (A A' : ST) : Prop := (∀ t k y, ((t = 8 ∧ y = 1) ∨ (t = 11 ∧ y / 5 = 1) ∨ (t = 14 ∧ y / 30 = 1) ∨ (t = 7 ∧ y = 1) ∨ t = 15) → iv A' t k y = iv A t k y ∧ jv A' t k y = jv A t k y) ∧ ∀ t y j, ((t = 9 ∧ y = 1) ∨ (t = 12 ∧ y / 5 = 1)) → pa A' t y j = pa A t y j
def RB (B B' : ST) : Prop := (∀ k j, (k = 20 ∨ k = 21 ∨ k = 25 ∨ k = 26 ∨ k = 27 ∨ k = 28 ∨ k = 29 ∨ k = 30) → ai B' 21 k j = ai B 21 k j) ∧ ∀ k, (k = 22 ∨ k = 23 ∨ k = 24 ∨ k = 31 ∨ k = 32 ∨ k = 33) → iv B' 20 k 0 = iv B 20 k 0
theorem RA.rf (A : ST) : RA A A := ⟨fun _ _ _ _ => ⟨rfl, rfl⟩, fun _ _ _ _ => rfl⟩
theorem RB.rf (B : ST) : RB B B := ⟨fun _ _ _ => rfl, fun _ _ => rfl⟩
theorem RA.tr {A B C : ST} (h : RA A B) (g : RA B C) : RA A C := ⟨fun t k y a => ⟨(g.1 t k y a).1.trans (h.1 t k y a).1, (g.1 t k y a).2.trans (h.1 t k y a).2⟩, fun t y j a => (g.2 t y j a).trans (h.2 t y j a)⟩
theorem RB.tr {A B C : ST} (h : RB A B) (g : RB B C) : RB A C := ⟨fun k j a => (g.1 k j a).trans (h.1 k j a), fun k a => (g.2 k a).trans (h.2 k a)⟩
theorem MF.rb {l m : List Nat} {B B' : ST} (h : MF (kq l) (kq m) B B') (h1 : l.all (fun x => !([20, 21, 25, 26, 27, 28, 29, 30].contains x)) = true) (h2 : m.all (fun x => !([22, 23, 24, 31, 32, 33].contains x)) = true) : RB B B' := ⟨fun k j hk => h.a (fun z => by
    have := List.all_eq_true.mp h1 k z
    rcases hk with rfl | rfl | rfl | rfl | rfl | rfl | rfl | rfl <;> simp at this) j, fun k hk => h.i (fun z => by
    have := List.all_eq_true.mp h2 k z
    rcases hk with rfl | rfl | rfl | rfl | rfl | rfl <;> simp at this)⟩
theorem MF.ra {K L : Nat → Prop} {B B' : ST} (h : MF K L B B') : RA B B' := ⟨fun t k y a => ⟨h.2.2.1 t k y (fun z => by omega), by show B'.2.1 t k y = B.2.1 t k y; rw [h.1]⟩, fun t y j _ => by show (B'.2.2.2 t y j).getD 0 = (B.2.2.2 t y j).getD 0; rw [h.2.1]⟩
theorem RR.of {A A' B B' : ST} (h : RR A B) (a : RA A A') (b : RB B B') : RR A' B' := by
  obtain ⟨⟨⟨s1, s2, s3, s4⟩, sc⟩, ⟨d1, d2, d3⟩, g1, g2, g3⟩ := h
  have em : mth B' = mth B := by funext d; show decide (ai B' 21 20 d = 1) = _; rw [b.1 20 d (by omega)]; rfl
  have et : ∀ c, mtt B' c = mtt B c := fun c => by funext d; show (mth B' d && litT c (ai B' 21 21 d).toNat) = _; rw [em, b.1 21 d (by omega)]; rfl
  have en : nR B' = nR B := by show (iv B' 20 24 0).toNat = _; rw [b.2 24 (by omega)]
  have ez : ∀ k, zc B' k = zc B k := fun k => by show (ai B' 21 27 k).toNat = _; rw [b.1 27 k (by omega)]
  have eQ : ∀ k, Qc A' k = Qc A k := fun k => a.2 9 1 k (by omega)
  have eP : ∀ k, k < nR B → ∀ j, Pl A' k j = Pl A k j := fun k hk j => by
    have hq := (sc k hk).1
    show pa A' 12 (Qc A' k) j = pa A 12 (Qc A k) j
    rw [eQ]
    exact a.2 12 (Qc A k) j (by omega)
  have e8 : ∀ k, iv A' 8 k 1 = iv A 8 k 1 := fun k => (a.1 8 k 1 (by omega)).1
  refine ⟨⟨⟨?_, ?_, ?_, ?_⟩, fun k hk => ?_⟩, ⟨?_, fun k j hk hj => ?_, fun k hk => ?_⟩, ?_, ?_, ?_⟩
  · rw [e8, b.2 22 (by omega)]; exact s1
  · rw [e8, b.2 22 (by omega), b.2 23 (by omega)]; exact s2
  · rw [e8, b.2 24 (by omega)]; exact s3
  · rw [(a.1 8 4 1 (by omega)).2, em]; exact s4
  · rw [en] at hk
    obtain ⟨⟨b1, b2, b3⟩, ⟨b4, b5, b6, b7⟩, b8⟩ := sc k hk
    have e11 : ∀ q, iv A' 11 q (Qc A k) = iv A 11 q (Qc A k) := fun q => (a.1 11 q _ (by omega)).1
    rw [eQ, e11, e11, e11, b.1 25 k (by omega), b.1 26 k (by omega), b.1 27 k (by omega)]
    refine ⟨⟨b1, b2, fun k' hk' => ?_⟩, ⟨b4, b5, b6, b7⟩, fun j hj => ?_⟩
    · rw [en] at hk'
      rw [eQ]
      exact b3 k' hk'
    · rw [ez] at hj
      obtain ⟨⟨c1, c2⟩, c3, c4, c5⟩ := b8 j hj
      have e14 : ∀ q, iv A' 14 q (Pl A k j) = iv A 14 q (Pl A k j) ∧ jv A' 14 q (Pl A k j) = jv A 14 q (Pl A k j) := fun q => a.1 14 q _ (by omega)
      rw [eP k hk, (e14 0).1, (e14 4).2, (e14 5).2, b.1 28 _ (by omega), em, et]
      refine ⟨⟨c1, fun j' hj' => ?_⟩, c3, c4, c5⟩
      rw [ez] at hj'
      rw [eP k hk]
      exact c2 j' hj'
  · rw [(a.1 7 0 1 (by omega)).1, b.2 33 (by omega)]; exact d1
  · rw [en] at hk
    rw [ez] at hj
    have hq := (sc k hk).1
    have hp := ((sc k hk).2.2 j hj).1.1
    rw [eP k hk, (a.1 14 2 _ (by omega)).1, b.1 29 _ (by omega)]
    exact d2 k j hk hj
  · rw [en] at hk
    have hq := (sc k hk).1
    rw [eQ, (a.1 11 7 _ (by omega)).1, b.1 30 _ (by omega)]
    exact d3 k hk
  · rw [(a.1 15 3 0 (by omega)).1, b.2 31 (by omega)]; exact g1
  · rw [e8, b.2 31 (by omega), b.2 32 (by omega)]; exact g2
  · rw [e8, b.2 31 (by omega), b.2 32 (by omega)]; exact g3
theorem RI.cls {S S' : ST} (h : RI S) (e : ∀ t k y, (t = 8 ∨ t = 11 ∨ t = 14) → iv S' t k y = iv S t k y) (e2 : S'.2.1 = S.2.1) (e3 : S'.2.2.2 = S.2.2.2) : RI S' := by
  obtain ⟨a, b, c⟩ := h
  have ej : ∀ t k y, jv S' t k y = jv S t k y := fun t k y => by show S'.2.1 t k y = _; rw [e2]
  have er : ∀ t y j, ar S' t y j = ar S t y j := fun t y j => by show S'.2.2.2 t y j = _; rw [e3]
  have ep : ∀ t y j, pa S' t y j = pa S t y j := fun t y j => by unfold pa; rw [er]
  refine ⟨fun p hp => ?_, fun x hx => ?_, fun x hx => ?_⟩
  · rw [e 14 0 p (by omega), e 14 1 p (by omega), e 14 2 p (by omega), ej, ej]
    exact a p hp
  · obtain ⟨⟨b1, b2, b3, b4, b5⟩, b6, b7⟩ := b x hx
    refine ⟨⟨?_, ?_, ?_, ?_, ?_⟩, ?_, fun j hj => ?_⟩
    · rw [e 11 1 x (by omega)]; exact b1
    · rw [e 11 2 x (by omega)]; exact b2
    · rw [e 11 6 x (by omega)]; exact b3
    · rw [e 11 7 x (by omega)]; exact b4
    · rw [ej]; exact b5
    · rw [e 11 3 x (by omega)]; exact b6
    · rw [e 11 3 x (by omega)] at hj; rw [er, ep]; exact b7 j hj
  · obtain ⟨⟨b1, b2, b3, b4, b5⟩, b6, b7⟩ := c x hx
    refine ⟨⟨?_, ?_, ?_, ?_, ?_⟩, ?_, fun j hj => ?_⟩
    · rw [e 8 1 x (by omega)]; exact b1
    · rw [e 8 2 x (by omega)]; exact b2
    · rw [e 8 6 x (by omega)]; exact b3
    · rw [e 8 7 x (by omega)]; exact b4
    · rw [ej]; exact b5
    · rw [e 8 3 x (by omega)]; exact b6
    · rw [e 8 3 x (by omega)] at hj; rw [er, ep]; exact b7 j hj
theorem IQ.cls {S S' : ST} (h : IQ S) (e3 : ∀ k, iv S' 3 k 0 = iv S 3 k 0) (e5 : ∀ k y, iv S' 5 k y = iv S 5 k y) (e6 : ∀ y j, ai S' 6 y j = ai S 6 y j) : IQ S' := by
  obtain ⟨a, b, c, d⟩ := h
  refine ⟨by rw [e3]; exact a, by rw [e3]; exact b, by rw [e3]; exact c, fun x hx => ?_⟩
  obtain ⟨d1, d2, d3, d4, d5⟩ := d x hx
  refine ⟨by rw [e5]; exact d1, by rw [e5]; exact d2, by rw [e5]; exact d3, by rw [e5]; exact d4, fun j hj => by rw [e6]; exact d5 j hj⟩
theorem CI.mf {K L : Nat → Prop} {S S' : ST} (h : CI S) (g : MF K L S S') : CI S' := by
  have ei : ∀ t k y, t ≠ 20 → iv S' t k y = iv S t k y := fun t k y ht => g.2.2.1 t k y (fun z => ht z.1)
  have ea : ∀ t y j, t ≠ 21 → ai S' t y j = ai S t y j := fun t y j ht => g.2.2.2 t y j (fun z => ht z.1)
  refine ⟨h.1.cls (fun t k y ht => ei t k y (by omega)) g.1 g.2.1, fun d hd => ?_, h.2.2.cls (fun k => ei 3 k 0 (by decide)) (fun k y => ei 5 k y (by decide)) (fun y j => ea 6 y j (by decide))⟩
  rw [ea 2 0 d (by decide)]
  exact h.2.1 d hd
theorem QD.cl {A A' B B' : ST} (h : QD A B) (e : ∀ d, ai A' 2 0 d = ai A 2 0 d) (h0 : ∀ j, ai B' 21 0 j = ai B 21 0 j) (h1 : ∀ j, ai B' 21 1 j = ai B 21 1 j) : QD A' B' := fun d hd => by
  rw [e, h0, h1]
  exact h d hd
theorem QQ.cl {A A' B B' : ST} (h : QQ A B) (ea : ∀ k j, ai A' 6 k j = ai A 6 k j) (h3 : ∀ k, iv A' 3 k 0 = iv A 3 k 0) (h5 : ∀ k y, iv A' 5 k y = iv A 5 k y) (hB : ∀ q, (q = 2 ∨ q = 3 ∨ q = 4) → iv B' 20 q 0 = iv B 20 q 0) (hB2 : ∀ q j, (q = 5 ∨ q = 6 ∨ q = 7 ∨ q = 8 ∨ q = 9) → ai B' 21 q j = ai B 21 q j) : QQ A' B' := by
  obtain ⟨⟨a, b, c⟩, d⟩ := h
  refine ⟨⟨?_, ?_, ?_⟩, fun k hk => ?_⟩
  · rw [h3, hB 2 (by omega)]; exact a
  · rw [h3, hB 3 (by omega)]; exact b
  · rw [h3, hB 4 (by omega)]; exact c
  · obtain ⟨⟨d1, d2, d3, d4⟩, d5⟩ := d k hk
    refine ⟨⟨?_, ?_, ?_, ?_⟩, fun j hj => ?_⟩
    · rw [h5, hB2 5 k (by omega)]; exact d1
    · rw [h5, hB2 6 k (by omega)]; exact d2
    · rw [h5, hB2 7 k (by omega)]; exact d3
    · rw [h5, hB2 8 k (by omega)]; exact d4
    · rw [ea, hB2 9 _ (by omega)]; exact d5 j hj
theorem RK.of {B B' : ST} (h : RK B) (b : RB B B') : RK B' := by
  obtain ⟨a, c, d⟩ := h
  refine ⟨fun k hk => ?_, fun k hk => ?_, ?_⟩
  · rw [b.1 25 k (by omega), b.1 26 k (by omega)]; exact a k hk
  · rw [b.2 24 (by omega)] at hk
    rw [b.1 25 k (by omega)]; exact c k hk
  · rw [b.2 22 (by omega), b.2 23 (by omega)]; exact d
def INV (S : ST) : Prop := (CI S ∧ MI S ∧ RK S) ∧ (QD S S ∧ QQ S S) ∧ (iv S 15 2 0 = iv S 20 19 0 ∧ -1 ≤ iv S 15 3 0 ∧ iv S 15 3 0 ≤ 39) ∧ (iv S 20 19 0 = 1 → RR S S)
/-- documents and the question stay, and the run -/
theorem INV.of {S S' : ST} (h : INV S) (hC : CI S') (hM : MI S') (hD : QD S' S') (hQ : QQ S' S') (ha : RA S S') (hb : RB S S') (e19 : iv S' 20 19 0 = iv S 20 19 0) : INV S' := by
  obtain ⟨⟨h1, h2, h3⟩, -, ⟨h4, h5, h6⟩, h7⟩ := h
  refine ⟨⟨hC, hM, h3.of hb⟩, ⟨hD, hQ⟩, ⟨?_, ?_, ?_⟩, fun z => ?_⟩
  · rw [(ha.1 15 2 0 (by omega)).1, e19]; exact h4
  · rw [(ha.1 15 3 0 (by omega)).1]; exact h5
  · rw [(ha.1 15 3 0 (by omega)).1]; exact h6
  · rw [e19] at z
    exact (h7 z).of ha hb
theorem INV.run {S : ST} (h : INV S) : (iv S 15 2 0 = 0 ∨ iv S 15 2 0 = 1) ∧ (-1 ≤ iv S 15 3 0 ∧ iv S 15 3 0 ≤ 39) := by
  have := h.1.2.1.i19
  obtain ⟨-, -, ⟨a, b⟩, -⟩ := h
  exact ⟨by omega, b⟩
theorem INV.s34 {S : ST} (h : INV S) (v : Int) : INV (si S 20 34 0 v) := by
  have g : MF (kq []) (kq [34]) S (si S 20 34 0 v) := MF.si S 34 v (by decide)
  exact h.of (h.1.1.mf g) h.1.2.1.pi34 (h.2.1.1.cl (fun _ => rfl) (fun _ => rfl) (fun _ => rfl)) (h.2.1.2.cl (fun _ _ => rfl) (fun _ => rfl) (fun _ _ => rfl) (fun q hq => g.i (by intro z; simp at z; omega)) (fun _ _ _ => rfl)) g.ra (g.rb (by decide) (by decide)) rfl
-- documents
theorem doc_INV {S : ST} (h : INV S) {d : Nat} {w : Int} (hd : d < 40) (hw : 0 ≤ w ∧ w ≤ 255) : INV (sa (sa (si (sa S 2 0 d w) 20 34 0 0) 21 0 d 1) 21 1 d w) := by
  obtain ⟨⟨h1, h2, h3⟩, ⟨h4, h5⟩, -⟩ := id h
  have hM : MI (sa (sa (si (sa S 2 0 d w) 20 34 0 0) 21 0 d 1) 21 1 d w) := ((MI.pi34 (S := sa S 2 0 d w) (h2.oth (fun _ _ => rfl) (fun _ => rfl))).pa0 (by decide)).pa1 hw
  refine h.of ⟨h1.1, fun e he => ?_, h1.2.2⟩ hM (fun e he => ?_) h5 ⟨fun t k y ht => ⟨by show (if t = 20 ∧ k = 34 ∧ y = 0 then (0 : Int) else iv S t k y) = _; rw [if_neg (by omega)], rfl⟩, fun _ _ _ _ => rfl⟩ ⟨fun k j hk => ?_, fun k hk => ?_⟩ rfl
  · show -1 ≤ (if 2 = 2 ∧ 0 = 0 ∧ e = d then w else ai S 2 0 e) ∧ (if 2 = 2 ∧ 0 = 0 ∧ e = d then w else ai S 2 0 e) ≤ 255
    have := h1.2.1 e he
    split <;> omega
  · have := h4 e he
    show ((if 21 = 21 ∧ 0 = 0 ∧ e = d then (1 : Int) else ai S 21 0 e) = 1 → (if 2 = 2 ∧ 0 = 0 ∧ e = d then w else ai S 2 0 e) = (if 21 = 21 ∧ 1 = 1 ∧ e = d then w else ai S 21 1 e)) ∧ ((if 21 = 21 ∧ 0 = 0 ∧ e = d then (1 : Int) else ai S 21 0 e) ≠ 1 → (if 2 = 2 ∧ 0 = 0 ∧ e = d then w else ai S 2 0 e) = -1)
    by_cases q : e = d
    · rw [if_pos ⟨rfl, rfl, q⟩, if_pos ⟨rfl, rfl, q⟩, if_pos ⟨rfl, rfl, q⟩]
      exact ⟨fun _ => rfl, fun z => absurd rfl z⟩
    · rw [if_neg (fun z => q z.2.2), if_neg (fun z => q z.2.2), if_neg (fun z => q z.2.2)]
      exact this
  · show (if 21 = 21 ∧ k = 1 ∧ j = d then w else if 21 = 21 ∧ k = 0 ∧ j = d then 1 else ai S 21 k j) = _
    rw [if_neg (by omega), if_neg (by omega)]
  · show (if 20 = 20 ∧ k = 34 ∧ 0 = 0 then 0 else iv S 20 k 0) = _
    rw [if_neg (by omega)]
theorem drop_INV {S : ST} (h : INV S) {d : Nat} (hd : d < 40) : INV (sa (si (sa S 2 0 d (-1)) 20 34 0 0) 21 0 d 0) := by
  obtain ⟨⟨h1, h2, h3⟩, ⟨h4, h5⟩, -⟩ := id h
  have hM : MI (sa (si (sa S 2 0 d (-1)) 20 34 0 0) 21 0 d 0) := (MI.pi34 (S := sa S 2 0 d (-1)) (h2.oth (fun _ _ => rfl) (fun _ => rfl))).pa0 (by decide)
  refine h.of ⟨h1.1, fun e he => ?_, h1.2.2⟩ hM (fun e he => ?_) h5 ⟨fun t k y ht => ⟨by show (if t = 20 ∧ k = 34 ∧ y = 0 then (0 : Int) else iv S t k y) = _; rw [if_neg (by omega)], rfl⟩, fun _ _ _ _ => rfl⟩ ⟨fun k j hk => ?_, fun k hk => ?_⟩ rfl
  · show -1 ≤ (if 2 = 2 ∧ 0 = 0 ∧ e = d then (-1 : Int) else ai S 2 0 e) ∧ (if 2 = 2 ∧ 0 = 0 ∧ e = d then (-1 : Int) else ai S 2 0 e) ≤ 255
    have := h1.2.1 e he
    split <;> omega
  · have := h4 e he
    show ((if 21 = 21 ∧ 0 = 0 ∧ e = d then (0 : Int) else ai S 21 0 e) = 1 → (if 2 = 2 ∧ 0 = 0 ∧ e = d then (-1 : Int) else ai S 2 0 e) = ai S 21 1 e) ∧ ((if 21 = 21 ∧ 0 = 0 ∧ e = d then (0 : Int) else ai S 21 0 e) ≠ 1 → (if 2 = 2 ∧ 0 = 0 ∧ e = d then (-1 : Int) else ai S 2 0 e) = -1)
    by_cases q : e = d
    · rw [if_pos ⟨rfl, rfl, q⟩, if_pos ⟨rfl, rfl, q⟩]
      exact ⟨fun z => absurd z (by decide), fun _ => rfl⟩
    · rw [if_neg (fun z => q z.2.2), if_neg (fun z => q z.2.2)]
      exact this
  · show (if 21 = 21 ∧ k = 0 ∧ j = d then 0 else ai S 21 k j) = _
    rw [if_neg (by omega)]
  · show (if 20 = 20 ∧ k = 34 ∧ 0 = 0 then 0 else iv S 20 k 0) = _
    rw [if_neg (by omega)]
theorem had_eq {S : ST} (h : INV S) {d : Nat} (hd : d < 40) : b2i (thr S d) = ai S 21 0 d := by
  have h0 := h.1.2.1.a0 d
  rw [thr_eq h.2.1.1 h.1.2.1 hd]
  by_cases q : ai S 21 0 d = 1
  · rw [show mthr S d = true from decide_eq_true q, q]; rfl
  · rw [show mthr S d = false from decide_eq_false q]
    show (0 : Int) = _
    omega
theorem many_eq {S : ST} (h : INV S) : pop (bset (thr S) 40) = mmany S := by
  rw [bthr_eq h.2.1.1 h.1.2.1, pop_bset]
  rfl
theorem count_eq {S : ST} (h : INV S) (c : Nat) : pop (bset (tru S c) 40) = mcount S c := by
  rw [btru_eq h.2.1.1 h.1.2.1, pop_bset]
  rfl
-- the question
theorem ct_eq {S : ST} (h : INV S) {x : Nat} (hx : x < 5) (w : Nat) : ctT S x w = mct S x w := by
  obtain ⟨⟨q1, q2, q3, q4⟩, q5⟩ := h.2.1.2.2 x hx
  have h8 := h.1.2.1.a8 x
  unfold ctT mct
  rw [q1, q2, q3, q4]
  rw [show cnt (fun j => litT (ai S 6 x j).toNat w) 0 (ai S 21 8 x).toNat = cnt (fun j => litT (ai S 21 9 (6 * x + j)).toNat w) 0 (ai S 21 8 x).toNat from cnt_congr 0 _ (fun j hj => by
    rw [Nat.zero_add, q5 j (by omega)])]
theorem hit_eq {S : ST} (h : INV S) {d : Nat} (hd : d < 40) : (thr S d && qT S (ai S 2 0 d).toNat) = mhit S d := by
  obtain ⟨⟨q1, q2, q3⟩, -⟩ := h.2.1.2
  have h4 := h.1.2.1.i4
  have hdd := h.2.1.1 d hd
  unfold mhit
  rw [thr_eq h.2.1.1 h.1.2.1 hd]
  by_cases q : ai S 21 0 d = 1
  · unfold qT
    rw [hdd.1 q, q1, q2, q3]
    rw [show cnt (fun x => ctT S x (ai S 21 1 d).toNat) 0 (iv S 20 4 0).toNat = cnt (fun k => mct S k (ai S 21 1 d).toNat) 0 (iv S 20 4 0).toNat from cnt_congr 0 _ (fun j hj => by
      rw [Nat.zero_add, ct_eq h (by omega)])]
  · rw [show mthr S d = false from decide_eq_false q, Bool.false_and, Bool.false_and]
theorem hits_eq {S : ST} (h : INV S) : cnt (fun d => thr S d && qT S (ai S 2 0 d).toNat) 0 40 = cnt (mhit S) 0 40 := cnt_congr 0 40 (fun d hd => by
  rw [Nat.zero_add]
  exact hit_eq h hd)
