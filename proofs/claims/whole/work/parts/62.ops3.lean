/-! the same with the law's own row written between -/
theorem sa_comm (S : ST) {t t' : Nat} (h : t ≠ t') (y y' j j' : Nat) (v v' : Int) : sa (sa S t y j v) t' y' j' v' = sa (sa S t' y' j' v') t y j v := by
  simp only [sa]
  congr 3
  funext a b c
  simp only [up3]
  by_cases q : a = t ∧ b = y ∧ c = j
  · have z : ¬ (a = t' ∧ b = y' ∧ c = j') := fun z => h (q.1.symm.trans z.1)
    simp only [if_neg z, if_pos q]
  · by_cases z : a = t' ∧ b = y' ∧ c = j'
    · simp only [if_pos z, if_neg q]
    · simp only [if_neg z, if_neg q]
theorem sa_self (S : ST) (t y j : Nat) : sa S t y j (ai S t y j) = S := by
  obtain ⟨a, b, c, d⟩ := S
  simp only [sa, ai]
  congr 3
  funext t' y' j'
  simp only [up3]
  split
  · rename_i h; obtain ⟨rfl, rfl, rfl⟩ := h; rfl
  · rfl
theorem INV.s30 {S : ST} (h : INV S) (v : Int) : INV (sa S 30 0 0 v) := by
  obtain ⟨⟨h1, h2, h3⟩, ⟨h4, h5⟩, -⟩ := id h
  exact h.of ⟨h1.1.cls (fun _ _ _ _ => rfl) rfl rfl, h1.2.1, h1.2.2⟩ (h2.oth (fun _ _ => rfl) (fun _ => rfl)) h4 h5 ⟨fun _ _ _ _ => ⟨rfl, rfl⟩, fun _ _ _ _ => rfl⟩ ⟨fun k j hk => by
    show (if 21 = 30 ∧ k = 0 ∧ j = 0 then v else ai S 21 k j) = _
    rw [if_neg (by omega)], fun _ _ => rfl⟩ rfl
theorem plan_INV3 {S : ST} (h : INV S) (v w : Int) : INV (makesF (si (sa (pmkF 0 S) 30 0 0 w) 20 34 0 v)) ∧ PN (pmkF 0 S) 0 (bset (mthr S) 40) S (makesF (si (sa (pmkF 0 S) 30 0 0 w) 20 34 0 v)) := by
  obtain ⟨⟨h1, h2, h3⟩, ⟨h4, h5⟩, -⟩ := id h
  obtain ⟨hR, hF⟩ := pmkF_ok (S := S) (y := 0) (by decide) h1.1 h1.2.2
  have e20 : ∀ k, iv (pmkF 0 S) 20 k 0 = iv S 20 k 0 := fun k => (hF.2.1 20 k 0 (by unfold PR; omega)).1
  have ea : ∀ t y j, ai (pmkF 0 S) t y j = ai S t y j := fun t y j => by show (pmkF 0 S).2.2.1 t y j = S.2.2.1 t y j; rw [hF.1]
  have hMX : MI (si (sa (pmkF 0 S) 30 0 0 w) 20 34 0 v) := (h2.oth (fun k j => ea 21 k j) (fun k => e20 k)).pi34
  have hF34 : MF (kq []) (kq [34]) (sa (pmkF 0 S) 30 0 0 w) (si (sa (pmkF 0 S) 30 0 0 w) 20 34 0 v) := MF.si _ 34 v (by decide)
  have g34 : ∀ k, k ≠ 34 → iv (si (sa (pmkF 0 S) 30 0 0 w) 20 34 0 v) 20 k 0 = iv S 20 k 0 := fun k hk => by
    show (if 20 = 20 ∧ k = 34 ∧ 0 = 0 then v else iv (pmkF 0 S) 20 k 0) = _
    rw [if_neg (by omega), e20]
  have hDX : QD S (si (sa (pmkF 0 S) 30 0 0 w) 20 34 0 v) := h4.cl (fun _ => rfl) (fun j => ea 21 0 j) (fun j => ea 21 1 j)
  have hQX : QQ S (si (sa (pmkF 0 S) 30 0 0 w) 20 34 0 v) := h5.cl (fun _ _ => rfl) (fun _ => rfl) (fun _ _ => rfl) (fun q hq => g34 q (by omega)) (fun q j _ => ea 21 q j)
  have hP := sim_plan (y := 0) (by decide) h1 hMX hDX hQX
  have hCI : CI (sa (pmkF 0 S) 30 0 0 w) := ⟨hR, hF.fr.iw h1.2.1, hF.fr.iq h1.2.2⟩
  have hm := (hF34.up (l' := [10, 11, 12, 13, 14, 18]) (m' := [15, 16, 17, 34]) (by decide) (by decide)).tr ((makes_MF (si (sa (pmkF 0 S) 30 0 0 w) 20 34 0 v)).up (by decide) (by decide))
  have ebase : mcount (si (sa (pmkF 0 S) 30 0 0 w) 20 34 0 v) = mcount S ∧ mmany (si (sa (pmkF 0 S) 30 0 0 w) 20 34 0 v) = mmany S := mcount_of (fun j => ea 21 0 j) (fun j => ea 21 1 j)
  have eth : mthr (si (sa (pmkF 0 S) 30 0 0 w) 20 34 0 v) = mthr S := by
    funext d
    show decide (ai (pmkF 0 S) 21 0 d = 1) = _
    rw [ea]
    rfl
  have etr : mtru (si (sa (pmkF 0 S) 30 0 0 w) 20 34 0 v) = mtru S := by
    funext c d
    show (mthr (si (sa (pmkF 0 S) 30 0 0 w) 20 34 0 v) d && litT c (ai (pmkF 0 S) 21 1 d).toNat) = _
    rw [eth, ea]
    rfl
  have hP2 : PN (pmkF 0 S) 0 (bset (mthr S) 40) S (makesF (si (sa (pmkF 0 S) 30 0 0 w) 20 34 0 v)) := by
    rw [eth] at hP
    obtain ⟨p1, p2, p3, p4⟩ := hP
    refine ⟨p1, p2, p3, fun j hj => ?_⟩
    obtain ⟨r1, r2, r3, r4⟩ := p4 j hj
    exact ⟨r1, r2, r3, r4.base ebase.1 ebase.2 etr⟩
  refine ⟨h.of (hCI.mf hm) (makes_n2 hMX).1 ?_ ?_ (RA.tr (B := sa (pmkF 0 S) 30 0 0 w) ⟨fun t k y a => hF.ra.1 t k y a, fun t y j a => hF.ra.2 t y j a⟩ hm.ra) ⟨fun k j hk => ?_, fun k hk => ?_⟩ ?_, hP2⟩
  · exact h4.cl (fun d => (hm.2.2.2 2 0 d (by omega)).trans (ea 2 0 d)) (fun j => (hm.a (q := 0) (by decide) j).trans (ea 21 0 j)) (fun j => (hm.a (q := 1) (by decide) j).trans (ea 21 1 j))
  · exact h5.cl (fun k j => (hm.2.2.2 6 k j (by omega)).trans (ea 6 k j)) (fun k => (hm.2.2.1 3 k 0 (by omega)).trans (hF.2.1 3 k 0 (by unfold PR; omega)).1) (fun k y => (hm.2.2.1 5 k y (by omega)).trans (hF.2.1 5 k y (by unfold PR; omega)).1) (fun q hq => (hm.i (by intro z; simp at z; omega)).trans (e20 q)) (fun q j hq => (hm.a (by intro z; simp at z; omega) j).trans (ea 21 q j))
  · exact (hm.a (by intro z; simp at z; omega) j).trans (ea 21 k j)
  · exact (hm.i (by intro z; simp at z; omega)).trans (e20 k)
  · exact (hm.i (q := 19) (by decide)).trans (e20 19)
theorem leap_INV3 {S : ST} (h : INV S) {d : Int} (hd : 0 ≤ d ∧ d < 40) (hr : iv S 20 19 0 = 1) (w : Int) : INV (mlpF d (si (sa (advF d S).2 30 0 0 w) 20 34 0 0)).2 ∧ (advF d S).1 = (mlpF d (si (sa (advF d S).2 30 0 0 w) 20 34 0 0)).1 := by
  obtain ⟨⟨h1, h2, h3⟩, ⟨h4, h5⟩, ⟨r1, r2⟩, hrr⟩ := id h
  have hR := hrr hr
  -- what the class's step leaves
  have keepA : (∀ k, iv (advF d S).2 20 k 0 = iv S 20 k 0) ∧ (∀ t y j, ai (advF d S).2 t y j = ai S t y j) ∧ (∀ t k y, (t = 3 ∨ t = 5) → iv (advF d S).2 t k y = iv S t k y) ∧ iv (advF d S).2 15 2 0 = iv S 15 2 0 := by
    have hs : ∀ w, w < 40 → RS S (plSk 1 w S).2 := fun w hw => (plSk_inv hw ⟨h1.1, RS.rf S⟩).2
    unfold advF
    split
    · exact ⟨fun _ => rfl, fun _ _ _ => rfl, fun _ _ _ _ => rfl, rfl⟩
    · rename_i q
      have g := hs (max d (iv S 15 3 0 + 1)).toNat (by omega)
      have ga : ∀ t y j, ai (plSk 1 (max d (iv S 15 3 0 + 1)).toNat S).2 t y j = ai S t y j := fun t y j => by
        show (plSk 1 (max d (iv S 15 3 0 + 1)).toNat S).2.2.2.1 t y j = S.2.2.1 t y j
        rw [g.1]
      split
      · exact ⟨fun k => g.2 20 k 0 (by omega) (by omega) (by omega) (by omega), ga, fun t k y ht => g.2 t k y (by omega) (by omega) (by omega) (by omega), g.2 15 2 0 (by omega) (by omega) (by omega) (by omega)⟩
      · refine ⟨fun k => g.2 20 k 0 (by omega) (by omega) (by omega) (by omega), ga, fun t k y ht => ?_, g.2 15 2 0 (by omega) (by omega) (by omega) (by omega)⟩
        show (if t = 15 ∧ k = 3 ∧ y = 0 then _ else iv (plSk 1 (max d (iv S 15 3 0 + 1)).toNat S).2 t k y) = _
        rw [if_neg (by omega)]
        exact g.2 t k y (by omega) (by omega) (by omega) (by omega)
  obtain ⟨k1, k2, k3, k4⟩ := keepA
  have hB : MI (si (sa (advF d S).2 30 0 0 w) 20 34 0 0) := (h2.oth (fun k j => k2 21 k j) k1).pi34
  have g34 : ∀ k, k ≠ 34 → iv (si (sa (advF d S).2 30 0 0 w) 20 34 0 0) 20 k 0 = iv S 20 k 0 := fun k hk => by
    show (if 20 = 20 ∧ k = 34 ∧ 0 = 0 then 0 else iv (advF d S).2 20 k 0) = _
    rw [if_neg (by omega), k1]
  have hrb : RB S (si (sa (advF d S).2 30 0 0 w) 20 34 0 0) := ⟨fun k j _ => k2 21 k j, fun k hk => g34 k (by omega)⟩
  have hRR : RR S (si (sa (advF d S).2 30 0 0 w) 20 34 0 0) := hR.of (RA.rf S) hrb
  have hK : RK (si (sa (advF d S).2 30 0 0 w) 20 34 0 0) := h3.of hrb
  obtain ⟨e1, hR2, hRI, hMZ⟩ := sim_adv hd h1.1 hB hK hRR
  have hMF : MF (kq [29, 30]) (kq [31, 32, 33]) (si (sa (advF d S).2 30 0 0 w) 20 34 0 0) (mlpF d (si (sa (advF d S).2 30 0 0 w) 20 34 0 0)).2 := by
    have hm := (mlpR_ok (d := d) hB hK).1.2
    unfold mlpF
    split
    · exact ((hm.up (by decide) (by decide)).tr (MF.si _ 32 _ (by decide))).tr (MF.si _ 31 _ (by decide))
    · exact ((hm.up (by decide) (by decide)).tr (MF.si _ 32 _ (by decide))).tr (MF.si _ 31 _ (by decide))
  have hXZ : MF (kq [29, 30]) (kq [31, 32, 33, 34]) (sa (advF d S).2 30 0 0 w) (mlpF d (si (sa (advF d S).2 30 0 0 w) 20 34 0 0)).2 := (MF.si (sa (advF d S).2 30 0 0 w) 34 0 (by decide)).tr (hMF.up (by decide) (by decide))
  generalize (mlpF d (si (sa (advF d S).2 30 0 0 w) 20 34 0 0)).2 = Z at *
  have hCI : CI (sa (advF d S).2 30 0 0 w) := ⟨hRI.cls (fun _ _ _ _ => rfl) rfl rfl, fun e he => by show -1 ≤ ai (advF d S).2 2 0 e ∧ ai (advF d S).2 2 0 e ≤ 255; rw [k2]; exact h1.2.1 e he, h1.2.2.cls (fun k => k3 3 k 0 (by omega)) (fun k y => k3 5 k y (by omega)) (fun y j => k2 6 y j)⟩
  have hZK : RK Z := by
    obtain ⟨a, b, c⟩ := hK
    refine ⟨fun k hk => ?_, fun k hk => ?_, ?_⟩
    · rw [hMF.a (q := 25) (by decide), hMF.a (q := 26) (by decide)]; exact a k hk
    · rw [hMF.i (q := 24) (by decide)] at hk
      rw [hMF.a (q := 25) (by decide)]; exact b k hk
    · rw [hMF.i (q := 22) (by decide), hMF.i (q := 23) (by decide)]; exact c
  have hRZ : RR Z Z := hR2.of (RA.tr (B := sa (advF d S).2 30 0 0 w) ⟨fun _ _ _ _ => ⟨rfl, rfl⟩, fun _ _ _ _ => rfl⟩ hXZ.ra) (RB.rf Z)
  have g := hRZ.2.2.1
  have i31 := hMZ.i31
  refine ⟨⟨⟨hCI.mf hXZ, hMZ, hZK⟩, ⟨h4.cl (fun e => (hXZ.2.2.2 2 0 e (by omega)).trans (k2 2 0 e)) (fun j => (hXZ.a (q := 0) (by decide) j).trans (k2 21 0 j)) (fun j => (hXZ.a (q := 1) (by decide) j).trans (k2 21 1 j)), h5.cl (fun k j => (hXZ.2.2.2 6 k j (by omega)).trans (k2 6 k j)) (fun k => (hXZ.2.2.1 3 k 0 (by omega)).trans (k3 3 k 0 (by omega))) (fun k y => (hXZ.2.2.1 5 k y (by omega)).trans (k3 5 k y (by omega))) (fun q hq => (hXZ.i (by intro z; simp at z; omega)).trans (k1 q)) (fun q j hq => (hXZ.a (by intro z; simp at z; omega) j).trans (k2 21 q j))⟩, ⟨?_, by rw [g]; exact i31.1, by rw [g]; exact i31.2⟩, fun _ => hRZ⟩, e1⟩
  have z1 : iv (sa (advF d S).2 30 0 0 w) 15 2 0 = iv S 15 2 0 := k4
  have z2 : iv (sa (advF d S).2 30 0 0 w) 20 19 0 = iv S 20 19 0 := k1 19
  rw [hXZ.2.2.1 15 2 0 (by omega), z1, hXZ.i (q := 19) (by decide), z2]
  exact r1
