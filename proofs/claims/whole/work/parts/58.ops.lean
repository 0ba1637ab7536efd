/-! both sides: the question's calls, the plan's, the run's -/
theorem ask_INV {S : ST} (h : INV S) {kd nd : Int} (hk : (kd = 0 ∧ nd = 0) ∨ (kd = 1 ∧ nd = 0) ∨ (kd = 2 ∧ 1 ≤ nd ∧ nd ≤ 5)) : INV (si (si (si (si (si (si (si S 3 1 0 kd) 3 2 0 nd) 3 3 0 0) 20 34 0 0) 20 2 0 kd) 20 3 0 nd) 20 4 0 0) := by
  obtain ⟨⟨h1, h2, h3⟩, ⟨h4, h5⟩, -⟩ := id h
  have e : ∀ t k y, iv (si (si (si (si (si (si (si S 3 1 0 kd) 3 2 0 nd) 3 3 0 0) 20 34 0 0) 20 2 0 kd) 20 3 0 nd) 20 4 0 0) t k y = (if t = 20 ∧ k = 4 ∧ y = 0 then 0 else if t = 20 ∧ k = 3 ∧ y = 0 then nd else if t = 20 ∧ k = 2 ∧ y = 0 then kd else if t = 20 ∧ k = 34 ∧ y = 0 then 0 else if t = 3 ∧ k = 3 ∧ y = 0 then 0 else if t = 3 ∧ k = 2 ∧ y = 0 then nd else if t = 3 ∧ k = 1 ∧ y = 0 then kd else iv S t k y) := fun _ _ _ => rfl
  have hM : MI (si (si (si (si (si (si (si S 3 1 0 kd) 3 2 0 nd) 3 3 0 0) 20 34 0 0) 20 2 0 kd) 20 3 0 nd) 20 4 0 0) := (((MI.pi34 (S := si (si (si S 3 1 0 kd) 3 2 0 nd) 3 3 0 0) (h2.oth (fun _ _ => rfl) (fun _ => rfl))).pi2 (by omega)).pi3 (by omega)).pi4 (by decide)
  refine h.of ⟨h1.1.cls (fun t k y ht => ?_) rfl rfl, h1.2.1, ?_⟩ hM h4 ?_ ⟨fun t k y ht => ⟨?_, rfl⟩, fun _ _ _ _ => rfl⟩ ⟨fun _ _ _ => rfl, fun k hk => ?_⟩ rfl
  · rw [e]
    rw [if_neg (by omega), if_neg (by omega), if_neg (by omega), if_neg (by omega), if_neg (by omega), if_neg (by omega), if_neg (by omega)]
  · obtain ⟨a, b, c, d⟩ := h1.2.2
    exact ⟨⟨by show (0 : Int) ≤ 0; decide, by show (0 : Int) ≤ 5; decide⟩, ⟨by show 0 ≤ kd; omega, by show kd ≤ 2; omega⟩, ⟨by show 0 ≤ nd; omega, by show nd ≤ 6; omega⟩, d⟩
  · exact ⟨⟨rfl, rfl, rfl⟩, h5.2⟩
  · rw [e]
    rw [if_neg (by omega), if_neg (by omega), if_neg (by omega), if_neg (by omega), if_neg (by omega), if_neg (by omega), if_neg (by omega)]
  · rw [e]
    rw [if_neg (by omega), if_neg (by omega), if_neg (by omega), if_neg (by omega), if_neg (by omega), if_neg (by omega), if_neg (by omega)]
/-- a clause, told to both -/
def tellC (S : ST) (n : Nat) (kd nd b : Int) : ST := si (si (si (si (si S 5 1 n kd) 5 2 n nd) 5 3 n b) 5 4 n 0) 3 3 0 (iv S 3 3 0 + 1)
def tellM (S : ST) (n : Nat) (kd nd b : Int) : ST := si (sa (sa (sa (sa (si S 20 34 0 0) 21 5 n kd) 21 6 n nd) 21 7 n b) 21 8 n 0) 20 4 0 (iv S 20 4 0 + 1)
theorem tell_INV {S : ST} (h : INV S) {kd nd b : Int} {n : Nat} (hn : (n : Int) = iv S 3 3 0) (h5 : n < 5) (hk : (kd = 0 ∧ nd = 0) ∨ (kd = 1 ∧ nd = 0) ∨ (kd = 2 ∧ 1 ≤ nd ∧ nd ≤ 6)) (hb : b = 0 ∨ b = 1) : INV (tellM (tellC S n kd nd b) n kd nd b) := by
  obtain ⟨⟨h1, h2, h3⟩, ⟨h4, h5'⟩, -⟩ := id h
  have e4 : iv S 20 4 0 = iv S 3 3 0 := h5'.1.2.2.symm
  have eI : ∀ t k y, iv (tellM (tellC S n kd nd b) n kd nd b) t k y = (if t = 20 ∧ k = 4 ∧ y = 0 then iv S 20 4 0 + 1 else if t = 20 ∧ k = 34 ∧ y = 0 then 0 else if t = 3 ∧ k = 3 ∧ y = 0 then iv S 3 3 0 + 1 else if t = 5 ∧ k = 4 ∧ y = n then 0 else if t = 5 ∧ k = 3 ∧ y = n then b else if t = 5 ∧ k = 2 ∧ y = n then nd else if t = 5 ∧ k = 1 ∧ y = n then kd else iv S t k y) := fun _ _ _ => rfl
  have eA : ∀ t y j, ai (tellM (tellC S n kd nd b) n kd nd b) t y j = (if t = 21 ∧ y = 8 ∧ j = n then 0 else if t = 21 ∧ y = 7 ∧ j = n then b else if t = 21 ∧ y = 6 ∧ j = n then nd else if t = 21 ∧ y = 5 ∧ j = n then kd else ai S t y j) := fun _ _ _ => rfl
  have hM : MI (tellM (tellC S n kd nd b) n kd nd b) := (((((MI.pi34 (S := tellC S n kd nd b) (h2.oth (fun _ _ => rfl) (fun _ => rfl))).pa5 (by omega)).pa6 (by omega)).pa7 (by omega)).pa8 (by decide)).pi4 (by show 0 ≤ iv S 20 4 0 + 1 ∧ iv S 20 4 0 + 1 ≤ 5; omega)
  obtain ⟨q1, q2, q3, q4⟩ := h1.2.2
  refine h.of ⟨h1.1.cls (fun t k y ht => ?_) rfl rfl, h1.2.1, ⟨?_, q2, q3, fun x hx => ?_⟩⟩ hM h4 ⟨⟨h5'.1.1, h5'.1.2.1, ?_⟩, fun k hk => ?_⟩ ⟨fun t k y ht => ⟨?_, rfl⟩, fun _ _ _ _ => rfl⟩ ⟨fun k j hk => ?_, fun k hk => ?_⟩ rfl
  · rw [eI, if_neg (by omega), if_neg (by omega), if_neg (by omega), if_neg (by omega), if_neg (by omega), if_neg (by omega), if_neg (by omega)]
  · show 0 ≤ iv S 3 3 0 + 1 ∧ iv S 3 3 0 + 1 ≤ 5
    omega
  · rw [eI, eI, eI, eI]
    by_cases q : x = n
    · subst q
      refine ⟨?_, ?_, ?_, ?_, (q4 x hx).2.2.2.2⟩
      · show 0 ≤ (if 5 = 5 ∧ 1 = 1 ∧ x = x then kd else _) ∧ (if 5 = 5 ∧ 1 = 1 ∧ x = x then kd else _) ≤ 2
        rw [if_pos ⟨rfl, rfl, rfl⟩]; omega
      · show 0 ≤ (if 5 = 5 ∧ 2 = 2 ∧ x = x then nd else _) ∧ (if 5 = 5 ∧ 2 = 2 ∧ x = x then nd else _) ≤ 6
        rw [if_pos ⟨rfl, rfl, rfl⟩]; omega
      · show (if 5 = 5 ∧ 3 = 3 ∧ x = x then b else _) = 0 ∨ (if 5 = 5 ∧ 3 = 3 ∧ x = x then b else _) = 1
        rw [if_pos ⟨rfl, rfl, rfl⟩]; exact hb
      · show 0 ≤ (if 5 = 5 ∧ 4 = 4 ∧ x = x then (0 : Int) else _) ∧ (if 5 = 5 ∧ 4 = 4 ∧ x = x then (0 : Int) else _) ≤ 6
        rw [if_pos ⟨rfl, rfl, rfl⟩]; decide
    · have hs : ∀ k, (if 5 = 20 ∧ k = 4 ∧ x = 0 then iv S 20 4 0 + 1 else if 5 = 20 ∧ k = 34 ∧ x = 0 then 0 else if 5 = 3 ∧ k = 3 ∧ x = 0 then iv S 3 3 0 + 1 else if 5 = 5 ∧ k = 4 ∧ x = n then 0 else if 5 = 5 ∧ k = 3 ∧ x = n then b else if 5 = 5 ∧ k = 2 ∧ x = n then nd else if 5 = 5 ∧ k = 1 ∧ x = n then kd else iv S 5 k x) = iv S 5 k x := fun k => by
        rw [if_neg (by omega), if_neg (by omega), if_neg (by omega), if_neg (fun z => q z.2.2), if_neg (fun z => q z.2.2), if_neg (fun z => q z.2.2), if_neg (fun z => q z.2.2)]
      rw [hs, hs, hs, hs]
      exact q4 x hx
  · show iv S 3 3 0 + 1 = iv S 20 4 0 + 1
    omega
  · obtain ⟨⟨a1, a2, a3, a4⟩, a5⟩ := h5'.2 k hk
    refine ⟨?_, a5⟩
    rw [eI, eI, eI, eI, eA, eA, eA, eA]
    by_cases q : k = n
    · subst q
      refine ⟨?_, ?_, ?_, ?_⟩
      · show (if 5 = 5 ∧ 1 = 1 ∧ k = k then kd else _) = (if 21 = 21 ∧ 5 = 5 ∧ k = k then kd else _)
        rw [if_pos ⟨rfl, rfl, rfl⟩, if_pos ⟨rfl, rfl, rfl⟩]
      · show (if 5 = 5 ∧ 2 = 2 ∧ k = k then nd else _) = (if 21 = 21 ∧ 6 = 6 ∧ k = k then nd else _)
        rw [if_pos ⟨rfl, rfl, rfl⟩, if_pos ⟨rfl, rfl, rfl⟩]
      · show (if 5 = 5 ∧ 3 = 3 ∧ k = k then b else _) = (if 21 = 21 ∧ 7 = 7 ∧ k = k then b else _)
        rw [if_pos ⟨rfl, rfl, rfl⟩, if_pos ⟨rfl, rfl, rfl⟩]
      · show (if 5 = 5 ∧ 4 = 4 ∧ k = k then (0 : Int) else _) = (if 21 = 21 ∧ 8 = 8 ∧ k = k then (0 : Int) else _)
        rw [if_pos ⟨rfl, rfl, rfl⟩, if_pos ⟨rfl, rfl, rfl⟩]
    · have hs : ∀ z, (if 5 = 20 ∧ z = 4 ∧ k = 0 then iv S 20 4 0 + 1 else if 5 = 20 ∧ z = 34 ∧ k = 0 then 0 else if 5 = 3 ∧ z = 3 ∧ k = 0 then iv S 3 3 0 + 1 else if 5 = 5 ∧ z = 4 ∧ k = n then 0 else if 5 = 5 ∧ z = 3 ∧ k = n then b else if 5 = 5 ∧ z = 2 ∧ k = n then nd else if 5 = 5 ∧ z = 1 ∧ k = n then kd else iv S 5 z k) = iv S 5 z k := fun z => by
        rw [if_neg (by omega), if_neg (by omega), if_neg (by omega), if_neg (fun w => q w.2.2), if_neg (fun w => q w.2.2), if_neg (fun w => q w.2.2), if_neg (fun w => q w.2.2)]
      have ha : ∀ z, (if 21 = 21 ∧ z = 8 ∧ k = n then 0 else if 21 = 21 ∧ z = 7 ∧ k = n then b else if 21 = 21 ∧ z = 6 ∧ k = n then nd else if 21 = 21 ∧ z = 5 ∧ k = n then kd else ai S 21 z k) = ai S 21 z k := fun z => by
        rw [if_neg (fun w => q w.2.2), if_neg (fun w => q w.2.2), if_neg (fun w => q w.2.2), if_neg (fun w => q w.2.2)]
      rw [hs, hs, hs, hs, ha, ha, ha, ha]
      exact ⟨a1, a2, a3, a4⟩
  · rw [eI, if_neg (by omega), if_neg (by omega), if_neg (by omega), if_neg (by omega), if_neg (by omega), if_neg (by omega), if_neg (by omega)]
  · rw [eA, if_neg (by omega), if_neg (by omega), if_neg (by omega), if_neg (by omega)]
  · rw [eI, if_neg (by omega), if_neg (by omega), if_neg (by omega), if_neg (by omega), if_neg (by omega), if_neg (by omega), if_neg (by omega)]
/-- a literal, told to both -/
def litC (S : ST) (c m : Nat) (v : Int) : ST := si (sa S 6 c m v) 5 4 c (iv S 5 4 c + 1)
def litM (S : ST) (c m : Nat) (v : Int) : ST := sa (sa (si S 20 34 0 0) 21 9 (6 * c + m) v) 21 8 c (ai S 21 8 c + 1)
theorem lit_INV {S : ST} (h : INV S) {c m : Nat} {v : Int} (hc : (c : Int) < iv S 3 3 0) (hm : (m : Int) = iv S 5 4 c) (hm6 : m < 6) (hv : 0 ≤ v ∧ v < 16) : INV (litM (litC S c m v) c m v) := by
  obtain ⟨⟨h1, h2, h3⟩, ⟨h4, h5⟩, -⟩ := id h
  obtain ⟨q1, q2, q3, q4⟩ := h1.2.2
  have hc5 : c < 5 := by omega
  have e8 : iv S 5 4 c = ai S 21 8 c := (h5.2 c hc5).1.2.2.2
  have eI : ∀ t k y, iv (litM (litC S c m v) c m v) t k y = (if t = 20 ∧ k = 34 ∧ y = 0 then 0 else if t = 5 ∧ k = 4 ∧ y = c then iv S 5 4 c + 1 else iv S t k y) := fun _ _ _ => rfl
  have eA : ∀ t y j, ai (litM (litC S c m v) c m v) t y j = (if t = 21 ∧ y = 8 ∧ j = c then ai S 21 8 c + 1 else if t = 21 ∧ y = 9 ∧ j = 6 * c + m then v else if t = 6 ∧ y = c ∧ j = m then v else ai S t y j) := fun _ _ _ => rfl
  have hM : MI (litM (litC S c m v) c m v) := ((MI.pi34 (S := litC S c m v) (h2.oth (fun _ _ => rfl) (fun _ => rfl))).pa9 (by omega)).pa8 (by show 0 ≤ ai S 21 8 c + 1 ∧ ai S 21 8 c + 1 ≤ 6; omega)
  refine h.of ⟨h1.1.cls (fun t k y ht => ?_) rfl rfl, h1.2.1, ⟨q1, q2, q3, fun x hx => ?_⟩⟩ hM h4 ⟨⟨h5.1.1, h5.1.2.1, h5.1.2.2⟩, fun k hk => ?_⟩ ⟨fun t k y ht => ⟨?_, rfl⟩, fun _ _ _ _ => rfl⟩ ⟨fun k j hk => ?_, fun k hk => ?_⟩ rfl
  · rw [eI, if_neg (by omega), if_neg (by omega)]
  · obtain ⟨b1, b2, b3, b4, b5⟩ := q4 x hx
    refine ⟨b1, b2, b3, ?_, fun j hj => ?_⟩
    · rw [eI, if_neg (by omega)]
      by_cases q : x = c
      · rw [if_pos ⟨rfl, rfl, q⟩]; omega
      · rw [if_neg (fun z => q z.2.2)]; exact b4
    · rw [eA, if_neg (by omega), if_neg (by omega)]
      by_cases q : x = c ∧ j = m
      · rw [if_pos ⟨rfl, q.1, q.2⟩]; exact hv
      · rw [if_neg (fun z => q z.2)]; exact b5 j hj
  · obtain ⟨⟨a1, a2, a3, a4⟩, a5⟩ := h5.2 k hk
    refine ⟨⟨a1, a2, a3, ?_⟩, fun j hj => ?_⟩
    · rw [eI, eA, if_neg (by omega)]
      by_cases q : k = c
      · rw [if_pos ⟨rfl, rfl, q⟩, if_pos ⟨rfl, rfl, q⟩, e8]
      · rw [if_neg (fun z => q z.2.2), if_neg (fun z => q z.2.2), if_neg (by omega), if_neg (by omega)]; exact a4
    · have eL : ai (litM (litC S c m v) c m v) 6 k j = if k = c ∧ j = m then v else ai S 6 k j := by
        rw [eA, if_neg (by omega), if_neg (by omega)]
        by_cases q : k = c ∧ j = m
        · rw [if_pos ⟨rfl, q⟩, if_pos q]
        · rw [if_neg (fun z => q z.2), if_neg q]
      have eR : ai (litM (litC S c m v) c m v) 21 9 (6 * k + j) = if 6 * k + j = 6 * c + m then v else ai S 21 9 (6 * k + j) := by
        rw [eA, if_neg (by omega)]
        by_cases q : 6 * k + j = 6 * c + m
        · rw [if_pos ⟨rfl, rfl, q⟩, if_pos q]
        · rw [if_neg (fun z => q z.2.2), if_neg (by omega), if_neg q]
      rw [eL, eR, a5 j hj]
      by_cases q : k = c ∧ j = m
      · rw [if_pos q, if_pos (by omega)]
      · rw [if_neg q, if_neg (by omega)]
  · rw [eI, if_neg (by omega), if_neg (by omega)]
  · rw [eA, if_neg (by omega), if_neg (by omega), if_neg (by omega)]
  · rw [eI, if_neg (by omega), if_neg (by omega)]
-- a plan, as it would be made now
theorem makes_MF (S : ST) : MF (kq [10, 11, 12, 13, 14, 18]) (kq [15, 16, 17]) S (makesF S) := by
  have g : ∀ i, MF (kq [10, 11, 12, 13, 14, 18]) (kq [15, 16, 17]) S (mkL (mk0 S) i).2.2 := fun i => by
    induction i with
    | zero => exact (mk0_MF S).up (by decide) (by decide)
    | succ i ih => exact ih.tr ((mkS_MF _ i).up (by decide) (by decide))
  unfold makesF
  generalize (mkL (mk0 S) (iv S 20 4 0).toNat).1 = nv
  generalize (mkL (mk0 S) (iv S 20 4 0).toNat).2.1 = al
  have g' := g (iv S 20 4 0).toNat
  generalize (mkL (mk0 S) (iv S 20 4 0).toNat).2.2 = M at g' ⊢
  have h1 : MF (kq [10, 11, 12, 13, 14, 18]) (kq [15, 16, 17]) S (mkD (mkC (mkB (mkA M nv al)))) := (((g'.tr (MF.si M 15 _ (by decide))).tr (MF.si _ 15 _ (by decide))).tr (MF.si _ 16 _ (by decide))).tr (MF.si _ 17 _ (by decide))
  unfold mkE
  split
  · exact h1.tr (MF.sA _ 18 _ (by decide))
  · exact h1
theorem makes_16 (S : ST) : iv (makesF S) 20 15 0 ≠ 2 → iv (makesF S) 20 16 0 = 0 := by
  unfold makesF
  generalize mkB (mkA (mkL (mk0 S) (iv S 20 4 0).toNat).2.2 (mkL (mk0 S) (iv S 20 4 0).toNat).1 (mkL (mk0 S) (iv S 20 4 0).toNat).2.1) = V
  have e15 : iv (mkE (mkD (mkC V))) 20 15 0 = iv V 20 15 0 := by unfold mkE; split <;> rfl
  have e16 : iv (mkE (mkD (mkC V))) 20 16 0 = (if iv V 20 15 0 = 2 then iv V 20 16 0 else 0) := by unfold mkE; split <;> rfl
  rw [e15, e16]
  intro z
  rw [if_neg z]
theorem FM.ra {S S' : ST} (h : FM (PR 0) (QR 0) S S') : RA S S' := ⟨fun t k y a => h.2.1 t k y (by unfold PR; omega), fun t y j a => by
  show (ar S' t y j).getD 0 = (ar S t y j).getD 0
  rw [h.2.2 t y j (by unfold QR; omega)]⟩
theorem plan_INV {S : ST} (h : INV S) (v : Int) : INV (makesF (si (pmkF 0 S) 20 34 0 v)) ∧ PN (pmkF 0 S) 0 (bset (mthr S) 40) S (makesF (si (pmkF 0 S) 20 34 0 v)) := by
  obtain ⟨⟨h1, h2, h3⟩, ⟨h4, h5⟩, -⟩ := id h
  obtain ⟨hR, hF⟩ := pmkF_ok (S := S) (y := 0) (by decide) h1.1 h1.2.2
  have e20 : ∀ k, iv (pmkF 0 S) 20 k 0 = iv S 20 k 0 := fun k => (hF.2.1 20 k 0 (by unfold PR; omega)).1
  have ea : ∀ t y j, ai (pmkF 0 S) t y j = ai S t y j := fun t y j => by show (pmkF 0 S).2.2.1 t y j = S.2.2.1 t y j; rw [hF.1]
  have hMX : MI (si (pmkF 0 S) 20 34 0 v) := (h2.oth (fun k j => ea 21 k j) (fun k => e20 k)).pi34
  have hF34 : MF (kq []) (kq [34]) (pmkF 0 S) (si (pmkF 0 S) 20 34 0 v) := MF.si _ 34 v (by decide)
  have g34 : ∀ k, k ≠ 34 → iv (si (pmkF 0 S) 20 34 0 v) 20 k 0 = iv S 20 k 0 := fun k hk => by
    show (if 20 = 20 ∧ k = 34 ∧ 0 = 0 then v else iv (pmkF 0 S) 20 k 0) = _
    rw [if_neg (by omega), e20]
  have hDX : QD S (si (pmkF 0 S) 20 34 0 v) := h4.cl (fun _ => rfl) (fun j => ea 21 0 j) (fun j => ea 21 1 j)
  have hQX : QQ S (si (pmkF 0 S) 20 34 0 v) := h5.cl (fun _ _ => rfl) (fun _ => rfl) (fun _ _ => rfl) (fun q hq => g34 q (by omega)) (fun q j _ => ea 21 q j)
  have hP := sim_plan (y := 0) (by decide) h1 hMX hDX hQX
  have hCI : CI (pmkF 0 S) := ⟨hR, hF.fr.iw h1.2.1, hF.fr.iq h1.2.2⟩
  have hm := (hF34.up (l' := [10, 11, 12, 13, 14, 18]) (m' := [15, 16, 17, 34]) (by decide) (by decide)).tr ((makes_MF (si (pmkF 0 S) 20 34 0 v)).up (by decide) (by decide))
  have ebase : mcount (si (pmkF 0 S) 20 34 0 v) = mcount S ∧ mmany (si (pmkF 0 S) 20 34 0 v) = mmany S := mcount_of (fun j => ea 21 0 j) (fun j => ea 21 1 j)
  have eth : mthr (si (pmkF 0 S) 20 34 0 v) = mthr S := by
    funext d
    show decide (ai (pmkF 0 S) 21 0 d = 1) = _
    rw [ea]
    rfl
  have etr : mtru (si (pmkF 0 S) 20 34 0 v) = mtru S := by
    funext c d
    show (mthr (si (pmkF 0 S) 20 34 0 v) d && litT c (ai (pmkF 0 S) 21 1 d).toNat) = _
    rw [eth, ea]
    rfl
  have hP2 : PN (pmkF 0 S) 0 (bset (mthr S) 40) S (makesF (si (pmkF 0 S) 20 34 0 v)) := by
    rw [eth] at hP
    obtain ⟨p1, p2, p3, p4⟩ := hP
    refine ⟨p1, p2, p3, fun j hj => ?_⟩
    obtain ⟨r1, r2, r3, r4⟩ := p4 j hj
    exact ⟨r1, r2, r3, r4.base ebase.1 ebase.2 etr⟩
  refine ⟨h.of (hCI.mf hm) (makes_n2 hMX).1 ?_ ?_ (hF.ra.tr hm.ra) ⟨fun k j hk => ?_, fun k hk => ?_⟩ ?_, hP2⟩
  · exact h4.cl (fun d => (hm.2.2.2 2 0 d (by omega)).trans (ea 2 0 d)) (fun j => (hm.a (q := 0) (by decide) j).trans (ea 21 0 j)) (fun j => (hm.a (q := 1) (by decide) j).trans (ea 21 1 j))
  · exact h5.cl (fun k j => (hm.2.2.2 6 k j (by omega)).trans (ea 6 k j)) (fun k => (hm.2.2.1 3 k 0 (by omega)).trans (hF.2.1 3 k 0 (by unfold PR; omega)).1) (fun k y => (hm.2.2.1 5 k y (by omega)).trans (hF.2.1 5 k y (by unfold PR; omega)).1) (fun q hq => (hm.i (by intro z; simp at z; omega)).trans (e20 q)) (fun q j hq => (hm.a (by intro z; simp at z; omega) j).trans (ea 21 q j))
  · exact (hm.a (by intro z; simp at z; omega) j).trans (ea 21 k j)
  · exact (hm.i (by intro z; simp at z; omega)).trans (e20 k)
  · exact (hm.i (q := 19) (by decide)).trans (e20 19)
