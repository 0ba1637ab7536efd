/-! what the cases of the loop stand on -/
theorem pmk_keep {S : ST} (h : INV S) : RI (pmkF 0 S) ∧ MI (pmkF 0 S) := by
  obtain ⟨⟨h1, h2, h3⟩, -⟩ := id h
  obtain ⟨hR, hF⟩ := pmkF_ok (S := S) (y := 0) (by decide) h1.1 h1.2.2
  exact ⟨hR, h2.oth (fun k j => by show (pmkF 0 S).2.2.1 21 k j = S.2.2.1 21 k j; rw [hF.1]) (fun k => (hF.2.1 20 k 0 (by unfold PR; omega)).1)⟩
theorem pmk_MI3 {S : ST} (h : INV S) (w : Int) : MI (sa (pmkF 0 S) 30 0 0 w) := (pmk_keep h).2.oth (fun _ _ => rfl) (fun _ => rfl)
theorem est_rng {S : ST} (h : INV S) : 0 ≤ iv (pmkF 0 S) 8 6 0 ∧ iv (pmkF 0 S) 8 6 0 ≤ 40 := ((pmk_keep h).1.2.2 0 (by decide)).1.2.2.1
theorem beg_rng {S : ST} (h : INV S) : (0 ≤ iv (pmkF 1 S) 8 6 1 ∧ iv (pmkF 1 S) 8 6 1 ≤ 40) ∧ MI (begC S) := by
  obtain ⟨⟨h1, h2, h3⟩, -⟩ := id h
  obtain ⟨hR, hF⟩ := pmkF_ok (S := S) (y := 1) (by decide) h1.1 h1.2.2
  refine ⟨(hR.2.2 1 (by decide)).1.2.2.1, ?_⟩
  have hm : MI (pmkF 1 S) := h2.oth (fun k j => by show (pmkF 1 S).2.2.1 21 k j = S.2.2.1 21 k j; rw [hF.1]) (fun k => (hF.2.1 20 k 0 (by unfold PR; omega)).1)
  exact hm.oth (fun _ _ => rfl) (fun _ => rfl)
theorem at_INV {S : ST} (h : INV S) (w : Int) : INV (makesF (sa (pmkF 0 S) 30 0 0 w)) ∧ PN (pmkF 0 S) 0 (bset (mthr S) 40) S (makesF (sa (pmkF 0 S) 30 0 0 w)) := by
  have g := plan_INV3 h (iv (sa (pmkF 0 S) 30 0 0 w) 20 34 0) w
  rw [si_self] at g
  exact g
theorem at_INV0 {S : ST} (h : INV S) : INV (makesF (pmkF 0 S)) ∧ PN (pmkF 0 S) 0 (bset (mthr S) 40) S (makesF (pmkF 0 S)) := by
  have g := plan_INV h (iv (pmkF 0 S) 20 34 0)
  rw [si_self] at g
  exact g
theorem mks_30 (X : ST) : ai (makesF X) 30 0 0 = ai X 30 0 0 := (makes_MF X).2.2.2 30 0 0 (by omega)
theorem PN_at {T B M : ST} {Bb : Nat} (P : PN T 0 Bb B M) {d : Int} (h0 : 0 ≤ d) (h1 : d < iv M 20 17 0) :
    ((pa T 9 0 d.toNat % 5 % 5 : Nat) : Int) = ai M 21 18 d.toNat ∧ iv T 11 1 (pa T 9 0 d.toNat % 5) = ai M 21 10 (ai M 21 18 d.toNat).toNat ∧ iv T 11 6 (pa T 9 0 d.toNat % 5) = ai M 21 14 (ai M 21 18 d.toNat).toNat ∧ iv T 11 3 (pa T 9 0 d.toNat % 5) = ai M 21 12 (ai M 21 18 d.toNat).toNat ∧ ∀ j : Int, 0 ≤ j → j < iv T 11 3 (pa T 9 0 d.toNat % 5) → iv T 14 0 (pa T 12 (pa T 9 0 d.toNat % 5) j.toNat) = ai M 21 13 (6 * (ai M 21 18 d.toNat).toNat + j.toNat) := by
  obtain ⟨-, -, -, q⟩ := P
  obtain ⟨⟨a0, a5⟩, e, k2, ⟨c1, c4, c7, c⟩, r⟩ := q d.toNat (by omega)
  obtain ⟨-, -, ⟨l1, l2, l3, l4⟩, l5⟩ := c k2
  have e1 : pa T 9 0 d.toNat % 5 = 5 * 0 + (ai M 21 18 d.toNat).toNat := by rw [e]; omega
  rw [e1]
  refine ⟨by omega, c1, (r k2).1, by rw [l1]; omega, fun j h0 h1 => ?_⟩
  rw [l1] at h1
  exact (l4 j.toNat (by omega)).2.1.1
theorem need_eq {T B M : ST} {Bb : Nat} (P : PN T 0 Bb B M) (h : iv M 20 15 0 ≠ 2 → iv M 20 16 0 = 0) : (if iv T 8 1 0 = 2 then iv T 8 2 0 else 0) = iv M 20 16 0 := by
  obtain ⟨⟨-, e1, e2, -⟩, -⟩ := P
  by_cases q : iv M 20 15 0 = 2
  · rw [e1, if_pos q, (e2 q).1]
  · rw [e1, if_neg q, h q]
theorem adv_MK {S : ST} (h : INV S) {d : Int} (hd : 0 ≤ d ∧ d < 40) (w : Int) : MI (sa (advF d S).2 30 0 0 w) ∧ RK (sa (advF d S).2 30 0 0 w) ∧ iv (sa (advF d S).2 30 0 0 w) 20 19 0 = iv S 20 19 0 := by
  obtain ⟨⟨h1, h2, h3⟩, -⟩ := id h
  obtain ⟨k1, k2⟩ : (∀ k, iv (advF d S).2 20 k 0 = iv S 20 k 0) ∧ (∀ t y j, ai (advF d S).2 t y j = ai S t y j) := by
    have hs : ∀ w, w < 40 → RS S (plSk 1 w S).2 := fun w hw => (plSk_inv hw ⟨h1.1, RS.rf S⟩).2
    have hg : -1 ≤ iv S 15 3 0 ∧ iv S 15 3 0 ≤ 39 := h.2.2.1.2
    unfold advF
    split
    · exact ⟨fun _ => rfl, fun _ _ _ => rfl⟩
    · rename_i q
      have g := hs (max d (iv S 15 3 0 + 1)).toNat (by omega)
      have ga : ∀ t y j, ai (plSk 1 (max d (iv S 15 3 0 + 1)).toNat S).2 t y j = ai S t y j := fun t y j => by
        show (plSk 1 (max d (iv S 15 3 0 + 1)).toNat S).2.2.2.1 t y j = S.2.2.1 t y j
        rw [g.1]
      split
      · exact ⟨fun k => g.2 20 k 0 (by omega) (by omega) (by omega) (by omega), ga⟩
      · exact ⟨fun k => g.2 20 k 0 (by omega) (by omega) (by omega) (by omega), ga⟩
  exact ⟨h2.oth (fun k j => k2 21 k j) k1, h3.of ⟨fun k j _ => k2 21 k j, fun k _ => k1 k⟩, k1 19⟩
theorem mlp_at {B : ST} {d : Int} (hB : MI B) (hK : RK B) : iv (mlpF d (si B 20 34 0 0)).2 20 34 0 = 0 ∧ ai (mlpF d (si B 20 34 0 0)).2 30 0 0 = ai B 30 0 0 := by
  have hB2 : MI (si B 20 34 0 0) := hB.pi34
  have hK2 : RK (si B 20 34 0 0) := hK.of ⟨fun _ _ _ => rfl, fun k hk => by
    show (if 20 = 20 ∧ k = 34 ∧ 0 = 0 then (0 : Int) else iv B 20 k 0) = _
    rw [if_neg (by omega)]⟩
  have hMF : MF (kq [29, 30]) (kq [31, 32, 33]) (si B 20 34 0 0) (mlpF d (si B 20 34 0 0)).2 := by
    have hm := (mlpR_ok (d := d) hB2 hK2).1.2
    unfold mlpF
    split
    · exact ((hm.up (by decide) (by decide)).tr (MF.si _ 32 _ (by decide))).tr (MF.si _ 31 _ (by decide))
    · exact ((hm.up (by decide) (by decide)).tr (MF.si _ 32 _ (by decide))).tr (MF.si _ 31 _ (by decide))
  exact ⟨hMF.i (q := 34) (by decide), hMF.2.2.2 30 0 0 (by omega)⟩
theorem mhit_s30 (S : ST) (v : Int) (d : Nat) : mhit (sa S 30 0 0 v) d = mhit S d := rfl
