/-! both sides: a run begins, a run goes on -/
theorem mcpF_v (S : ST) : ∀ n d, ai (mcpF S n) 21 20 d = (if d < n then ai S 21 0 d else ai S 21 20 d) ∧ ai (mcpF S n) 21 21 d = (if d < n then ai S 21 1 d else ai S 21 21 d)
  | 0, d => ⟨by rw [if_neg (by omega)]; rfl, by rw [if_neg (by omega)]; rfl⟩
  | n + 1, d => by
    obtain ⟨a, b⟩ := mcpF_v S n d
    constructor
    · show (if 21 = 21 ∧ 20 = 21 ∧ d = n then ai S 21 1 n else if 21 = 21 ∧ 20 = 20 ∧ d = n then ai S 21 0 n else ai (mcpF S n) 21 20 d) = _
      rw [if_neg (by omega)]
      by_cases q : d = n
      · rw [if_pos ⟨rfl, rfl, q⟩, if_pos (by omega), q]
      · rw [if_neg (fun z => q z.2.2), a]
        by_cases z : d < n
        · rw [if_pos z, if_pos (by omega)]
        · rw [if_neg z, if_neg (by omega)]
    · show (if 21 = 21 ∧ 21 = 21 ∧ d = n then ai S 21 1 n else if 21 = 21 ∧ 21 = 20 ∧ d = n then ai S 21 0 n else ai (mcpF S n) 21 21 d) = _
      by_cases q : d = n
      · rw [if_pos ⟨rfl, rfl, q⟩, if_pos (by omega), q]
      · rw [if_neg (fun z => q z.2.2), if_neg (by omega), b]
        by_cases z : d < n
        · rw [if_pos z, if_pos (by omega)]
        · rw [if_neg z, if_neg (by omega)]
theorem mbl_v (T U : ST) (k : Nat) : ∀ j x, ai (mbl T U k j) 21 28 x = (if 6 * k ≤ x ∧ x < 6 * k + j then ai T 21 13 (6 * (ai T 21 18 k).toNat + (x - 6 * k)) else ai U 21 28 x) ∧ ai (mbl T U k j) 21 29 x = (if 6 * k ≤ x ∧ x < 6 * k + j then -1 else ai U 21 29 x)
  | 0, x => ⟨by rw [if_neg (by omega)]; rfl, by rw [if_neg (by omega)]; rfl⟩
  | j + 1, x => by
    obtain ⟨a, b⟩ := mbl_v T U k j x
    constructor
    · show (if 21 = 21 ∧ 28 = 29 ∧ x = 6 * k + j then (-1 : Int) else if 21 = 21 ∧ 28 = 28 ∧ x = 6 * k + j then ai T 21 13 (6 * (ai T 21 18 k).toNat + j) else ai (mbl T U k j) 21 28 x) = _
      rw [if_neg (by omega)]
      by_cases q : x = 6 * k + j
      · rw [if_pos ⟨rfl, rfl, q⟩, if_pos (by omega), q, Nat.add_sub_cancel_left]
      · rw [if_neg (fun z => q z.2.2), a]
        by_cases z : 6 * k ≤ x ∧ x < 6 * k + j
        · rw [if_pos z, if_pos (by omega)]
        · rw [if_neg z, if_neg (by omega)]
    · show (if 21 = 21 ∧ 29 = 29 ∧ x = 6 * k + j then (-1 : Int) else if 21 = 21 ∧ 29 = 28 ∧ x = 6 * k + j then ai T 21 13 (6 * (ai T 21 18 k).toNat + j) else ai (mbl T U k j) 21 29 x) = _
      by_cases q : x = 6 * k + j
      · rw [if_pos ⟨rfl, rfl, q⟩, if_pos (by omega)]
      · rw [if_neg (fun z => q z.2.2), if_neg (by omega), b]
        by_cases z : 6 * k ≤ x ∧ x < 6 * k + j
        · rw [if_pos z, if_pos (by omega)]
        · rw [if_neg z, if_neg (by omega)]
theorem mbl_q (T U : ST) (k : Nat) {q : Nat} (hq : q ≠ 28 ∧ q ≠ 29) : ∀ j x, ai (mbl T U k j) 21 q x = ai U 21 q x
  | 0, x => rfl
  | j + 1, x => by
    show (if 21 = 21 ∧ q = 29 ∧ x = 6 * k + j then _ else if 21 = 21 ∧ q = 28 ∧ x = 6 * k + j then _ else ai (mbl T U k j) 21 q x) = _
    rw [if_neg (fun z => hq.2 z.2.1), if_neg (fun z => hq.1 z.2.1)]
    exact mbl_q T U k hq j x
theorem mb1_v (T U : ST) (k x : Nat) : ai (mb1 T U k) 21 25 x = (if x = k then ai T 21 10 (ai T 21 18 k).toNat else ai U 21 25 x) ∧ ai (mb1 T U k) 21 26 x = (if x = k then ai T 21 11 (ai T 21 18 k).toNat else ai U 21 26 x) ∧ ai (mb1 T U k) 21 27 x = (if x = k then ai T 21 12 (ai T 21 18 k).toNat else ai U 21 27 x) ∧ ai (mb1 T U k) 21 30 x = (if x = k then -1 else ai U 21 30 x) ∧ ai (mb1 T U k) 21 28 x = ai U 21 28 x ∧ ai (mb1 T U k) 21 29 x = ai U 21 29 x := by
  refine ⟨?_, ?_, ?_, ?_, rfl, rfl⟩ <;> by_cases q : x = k <;> simp [mb1, ai, sa, up3, q]
theorem mbo_v {T : ST} (hT : MI T) (U : ST) : ∀ n k, (k < n → ai (mbo T U n) 21 25 k = ai T 21 10 (ai T 21 18 k).toNat ∧ ai (mbo T U n) 21 26 k = ai T 21 11 (ai T 21 18 k).toNat ∧ ai (mbo T U n) 21 27 k = ai T 21 12 (ai T 21 18 k).toNat ∧ ai (mbo T U n) 21 30 k = -1 ∧ ∀ j : Nat, (j : Int) < ai T 21 12 (ai T 21 18 k).toNat → ai (mbo T U n) 21 28 (6 * k + j) = ai T 21 13 (6 * (ai T 21 18 k).toNat + j) ∧ ai (mbo T U n) 21 29 (6 * k + j) = -1) ∧ (n ≤ k → ai (mbo T U n) 21 25 k = ai U 21 25 k ∧ ai (mbo T U n) 21 26 k = ai U 21 26 k)
  | 0, k => ⟨fun h => absurd h (Nat.not_lt_zero k), fun _ => ⟨rfl, rfl⟩⟩
  | n + 1, k => by
    obtain ⟨a, b⟩ := mbo_v hT U n k
    obtain ⟨v1, v2, v3, v4, v5, v6⟩ := mb1_v T (mbo T U n) n k
    have e25 : ai (mbo T U (n + 1)) 21 25 k = ai (mb1 T (mbo T U n) n) 21 25 k := mbl_q T _ n (by decide) _ k
    have e26 : ai (mbo T U (n + 1)) 21 26 k = ai (mb1 T (mbo T U n) n) 21 26 k := mbl_q T _ n (by decide) _ k
    have e27 : ai (mbo T U (n + 1)) 21 27 k = ai (mb1 T (mbo T U n) n) 21 27 k := mbl_q T _ n (by decide) _ k
    have e30 : ai (mbo T U (n + 1)) 21 30 k = ai (mb1 T (mbo T U n) n) 21 30 k := mbl_q T _ n (by decide) _ k
    refine ⟨fun hk => ?_, fun hk => ?_⟩
    · rw [e25, e26, e27, e30, v1, v2, v3, v4]
      by_cases q : k = n
      · subst q
        rw [if_pos rfl, if_pos rfl, if_pos rfl, if_pos rfl]
        refine ⟨rfl, rfl, rfl, rfl, fun j hj => ?_⟩
        obtain ⟨l1, l2⟩ := mbl_v T (mb1 T (mbo T U k) k) k (ai T 21 12 (ai T 21 18 k).toNat).toNat (6 * k + j)
        rw [if_pos (by omega)] at l1 l2
        rw [Nat.add_sub_cancel_left] at l1
        exact ⟨l1, l2⟩
      · rw [if_neg q, if_neg q, if_neg q, if_neg q]
        obtain ⟨a1, a2, a3, a4, a5⟩ := a (by omega)
        refine ⟨a1, a2, a3, a4, fun j hj => ?_⟩
        have h12 := hT.a12 (ai T 21 18 k).toNat
        obtain ⟨l1, l2⟩ := mbl_v T (mb1 T (mbo T U n) n) n (ai T 21 12 (ai T 21 18 n).toNat).toNat (6 * k + j)
        rw [if_neg (by omega)] at l1 l2
        obtain ⟨-, -, -, -, w5, w6⟩ := mb1_v T (mbo T U n) n (6 * k + j)
        exact ⟨(l1.trans w5).trans (a5 j hj).1, (l2.trans w6).trans (a5 j hj).2⟩
    · rw [e25, e26, v1, v2, if_neg (by omega), if_neg (by omega)]
      exact b (by omega)
def begC (S : ST) : ST := si (si (si (pmkF 1 S) 7 0 1 0) 15 2 0 1) 15 3 0 (-1)
theorem begin_INV {S : ST} (h : INV S) : INV (mbgF (makesF (si (begC S) 20 34 0 0))) ∧ iv (pmkF 1 S) 8 6 1 = planEstM (mbgF (makesF (si (begC S) 20 34 0 0))) := by
  obtain ⟨⟨h1, h2, h3⟩, ⟨h4, h5⟩, -⟩ := id h
  obtain ⟨hR, hF⟩ := pmkF_ok (S := S) (y := 1) (by decide) h1.1 h1.2.2
  have eb : ∀ t k y, t ≠ 7 → t ≠ 15 → iv (begC S) t k y = iv (pmkF 1 S) t k y := fun t k y a b => by
    show (if t = 15 ∧ k = 3 ∧ y = 0 then _ else if t = 15 ∧ k = 2 ∧ y = 0 then _ else if t = 7 ∧ k = 0 ∧ y = 1 then _ else iv (pmkF 1 S) t k y) = _
    rw [if_neg (by omega), if_neg (by omega), if_neg (by omega)]
  have e20 : ∀ k, iv (begC S) 20 k 0 = iv S 20 k 0 := fun k => (eb 20 k 0 (by decide) (by decide)).trans (hF.2.1 20 k 0 (by unfold PR; omega)).1
  have ea : ∀ t y j, ai (begC S) t y j = ai S t y j := fun t y j => by show (pmkF 1 S).2.2.1 t y j = S.2.2.1 t y j; rw [hF.1]
  have hMX : MI (si (begC S) 20 34 0 0) := (h2.oth (fun k j => ea 21 k j) (fun k => e20 k)).pi34
  have g34 : ∀ k, k ≠ 34 → iv (si (begC S) 20 34 0 0) 20 k 0 = iv S 20 k 0 := fun k hk => by
    show (if 20 = 20 ∧ k = 34 ∧ 0 = 0 then 0 else iv (begC S) 20 k 0) = _
    rw [if_neg (by omega), e20]
  have hDX : QD S (si (begC S) 20 34 0 0) := h4.cl (fun _ => rfl) (fun j => ea 21 0 j) (fun j => ea 21 1 j)
  have hQX : QQ S (si (begC S) 20 34 0 0) := h5.cl (fun _ _ => rfl) (fun _ => rfl) (fun _ _ => rfl) (fun q hq => g34 q (by omega)) (fun q j _ => ea 21 q j)
  obtain ⟨⟨⟨pj, p7⟩, pk, pn, pe, ps⟩, pb, pi, pc⟩ := sim_plan (y := 1) (by decide) h1 hMX hDX hQX
  have hMT := (makes_n2 hMX).1
  have hTF := makes_MF (si (begC S) 20 34 0 0)
  have hZF := mbgF_MF (makesF (si (begC S) 20 34 0 0))
  have hCI : CI (begC S) := ⟨hR.cls (fun t k y ht => eb t k y (by omega) (by omega)) rfl rfl, hF.fr.iw h1.2.1, (hF.fr.iq h1.2.2)⟩
  have hXZ : MF (kq [10, 11, 12, 13, 14, 18, 20, 21, 25, 26, 27, 28, 29, 30]) (kq [15, 16, 17, 19, 22, 23, 24, 31, 32, 33, 34]) (begC S) (mbgF (makesF (si (begC S) 20 34 0 0))) := ((MF.si (begC S) 34 0 (by decide)).tr (hTF.up (by decide) (by decide))).tr (hZF.up (by decide) (by decide))
  have hMZ := mbgF_MI hMT
  have e0 : ∀ j, ai (makesF (si (begC S) 20 34 0 0)) 21 0 j = ai S 21 0 j := fun j => (hTF.a (q := 0) (by decide) j).trans (ea 21 0 j)
  have e1 : ∀ j, ai (makesF (si (begC S) 20 34 0 0)) 21 1 j = ai S 21 1 j := fun j => (hTF.a (q := 1) (by decide) j).trans (ea 21 1 j)
  have hN := (mcount_of (S := si (begC S) 20 34 0 0) (S' := si (begC S) 20 34 0 0) (fun _ => rfl) (fun _ => rfl))
  -- the model's values
  have eZ : ∀ q j, (q = 25 ∨ q = 26 ∨ q = 27 ∨ q = 28 ∨ q = 29 ∨ q = 30) → ai (mbgF (makesF (si (begC S) 20 34 0 0))) 21 q j = ai (mbo (makesF (si (begC S) 20 34 0 0)) (mbA (makesF (si (begC S) 20 34 0 0))) (iv (makesF (si (begC S) 20 34 0 0)) 20 17 0).toNat) 21 q j := fun _ _ _ => rfl
  have eZ20 : ∀ d, d < 40 → ai (mbgF (makesF (si (begC S) 20 34 0 0))) 21 20 d = ai S 21 0 d ∧ ai (mbgF (makesF (si (begC S) 20 34 0 0))) 21 21 d = ai S 21 1 d := fun d hd => by
    have f := mbo_MF (makesF (si (begC S) 20 34 0 0)) (mbA (makesF (si (begC S) 20 34 0 0))) (iv (makesF (si (begC S) 20 34 0 0)) 20 17 0).toNat
    obtain ⟨c1, c2⟩ := mcpF_v (si (makesF (si (begC S) 20 34 0 0)) 20 19 0 1) 40 d
    rw [if_pos hd] at c1 c2
    exact ⟨((f.a (q := 20) (by decide) d).trans c1).trans (e0 d), ((f.a (q := 21) (by decide) d).trans c2).trans (e1 d)⟩
  have i22 : iv (mbgF (makesF (si (begC S) 20 34 0 0))) 20 22 0 = iv (makesF (si (begC S) 20 34 0 0)) 20 15 0 := (mbo_MF (makesF (si (begC S) 20 34 0 0)) (mbA (makesF (si (begC S) 20 34 0 0))) (iv (makesF (si (begC S) 20 34 0 0)) 20 17 0).toNat).i (q := 22) (by decide)
  have i23 : iv (mbgF (makesF (si (begC S) 20 34 0 0))) 20 23 0 = iv (makesF (si (begC S) 20 34 0 0)) 20 16 0 := (mbo_MF (makesF (si (begC S) 20 34 0 0)) (mbA (makesF (si (begC S) 20 34 0 0))) (iv (makesF (si (begC S) 20 34 0 0)) 20 17 0).toNat).i (q := 23) (by decide)
  have i24 : iv (mbgF (makesF (si (begC S) 20 34 0 0))) 20 24 0 = iv (makesF (si (begC S) 20 34 0 0)) 20 17 0 := (mbo_MF (makesF (si (begC S) 20 34 0 0)) (mbA (makesF (si (begC S) 20 34 0 0))) (iv (makesF (si (begC S) 20 34 0 0)) 20 17 0).toNat).i (q := 24) (by decide)
  have i19 : iv (mbgF (makesF (si (begC S) 20 34 0 0))) 20 19 0 = 1 := ((mbo_MF (makesF (si (begC S) 20 34 0 0)) (mbA (makesF (si (begC S) 20 34 0 0))) (iv (makesF (si (begC S) 20 34 0 0)) 20 17 0).toNat).i (q := 19) (by decide)).trans ((mcpF_MF (si (makesF (si (begC S) 20 34 0 0)) 20 19 0 1) 40).i (q := 19) (by decide))
  have i31 : iv (mbgF (makesF (si (begC S) 20 34 0 0))) 20 31 0 = -1 := rfl
  have i32 : iv (mbgF (makesF (si (begC S) 20 34 0 0))) 20 32 0 = 0 := rfl
  have i33 : iv (mbgF (makesF (si (begC S) 20 34 0 0))) 20 33 0 = 0 := rfl
  have hv := mbo_v hMT (mbA (makesF (si (begC S) 20 34 0 0))) (iv (makesF (si (begC S) 20 34 0 0)) 20 17 0).toNat
  have hA25 : ∀ k, ai (mbA (makesF (si (begC S) 20 34 0 0))) 21 25 k = ai S 21 25 k ∧ ai (mbA (makesF (si (begC S) 20 34 0 0))) 21 26 k = ai S 21 26 k := fun k => by
    have f := (mbA_MF (makesF (si (begC S) 20 34 0 0)))
    exact ⟨(f.a (q := 25) (by decide) k).trans ((hTF.a (q := 25) (by decide) k).trans (ea 21 25 k)), (f.a (q := 26) (by decide) k).trans ((hTF.a (q := 26) (by decide) k).trans (ea 21 26 k))⟩
  have eth : bset (mthr (si (begC S) 20 34 0 0)) 40 = bset (mth (mbgF (makesF (si (begC S) 20 34 0 0)))) 40 := bset_congr 40 (fun d hd => by
    show decide (ai (begC S) 21 0 d = 1) = decide (ai _ 21 20 d = 1)
    rw [(eZ20 d hd).1, ea])
  have etr : ∀ c, bset (mtru (si (begC S) 20 34 0 0) c) 40 = bset (mtt (mbgF (makesF (si (begC S) 20 34 0 0))) c) 40 := fun c => bset_congr 40 (fun d hd => by
    show (decide (ai (begC S) 21 0 d = 1) && litT c (ai (begC S) 21 1 d).toNat) = (decide (ai _ 21 20 d = 1) && litT c (ai _ 21 21 d).toNat)
    rw [(eZ20 d hd).1, (eZ20 d hd).2, ea, ea])
  have hest : planEstM (mbgF (makesF (si (begC S) 20 34 0 0))) = planEstM (makesF (si (begC S) 20 34 0 0)) := planEstM_of ((mcount_of (fun j => hZF.a (q := 0) (by decide) j) (fun j => hZF.a (q := 1) (by decide) j)).2) (hZF.i (q := 15) (by decide)) (hZF.i (q := 16) (by decide)) (hZF.i (q := 17) (by decide)) (fun j => hZF.a (q := 14) (by decide) j) (fun j => hZF.a (q := 18) (by decide) j)
  have eC : ∀ t k y, t ≠ 20 → iv (mbgF (makesF (si (begC S) 20 34 0 0))) t k y = iv (begC S) t k y := fun t k y ht => hXZ.2.2.1 t k y (fun z => ht z.1)
  have eCj : ∀ t k y, jv (mbgF (makesF (si (begC S) 20 34 0 0))) t k y = jv (pmkF 1 S) t k y := fun t k y => by
    show (mbgF (makesF (si (begC S) 20 34 0 0))).2.1 t k y = _
    rw [hXZ.1]
    rfl
  have eCp : ∀ t y j, pa (mbgF (makesF (si (begC S) 20 34 0 0))) t y j = pa (pmkF 1 S) t y j := fun t y j => by
    show ((mbgF (makesF (si (begC S) 20 34 0 0))).2.2.2 t y j).getD 0 = _
    rw [hXZ.2.1]
    rfl
  have eCd : ∀ t y j, t ≠ 21 → ai (mbgF (makesF (si (begC S) 20 34 0 0))) t y j = ai S t y j := fun t y j ht => (hXZ.2.2.2 t y j (fun z => ht z.1)).trans (ea t y j)
  have cZ := hCI.mf hXZ
  have eF : ∀ t k y, (t = 3 ∨ t = 5) → iv (mbgF (makesF (si (begC S) 20 34 0 0))) t k y = iv S t k y := fun t k y ht => ((eC t k y (by omega)).trans (eb t k y (by omega) (by omega))).trans (hF.2.1 t k y (by unfold PR; omega)).1
  have m59 : ∀ q j, (q = 0 ∨ q = 1 ∨ q = 5 ∨ q = 6 ∨ q = 7 ∨ q = 8 ∨ q = 9) → ai (mbgF (makesF (si (begC S) 20 34 0 0))) 21 q j = ai S 21 q j := fun q j hq => (hXZ.a (by intro z; simp at z; omega) j).trans (ea 21 q j)
  have m24 : ∀ q, (q = 2 ∨ q = 3 ∨ q = 4) → iv (mbgF (makesF (si (begC S) 20 34 0 0))) 20 q 0 = iv S 20 q 0 := fun q hq => (hXZ.i (by intro z; simp at z; omega)).trans (e20 q)
  have c7 : iv (begC S) 7 0 1 = 0 := rfl
  have c152 : iv (begC S) 15 2 0 = 1 := rfl
  have c153 : iv (begC S) 15 3 0 = -1 := rfl
  generalize mbgF (makesF (si (begC S) 20 34 0 0)) = Z at *
  generalize makesF (si (begC S) 20 34 0 0) = T at *
  refine ⟨⟨⟨cZ, hMZ, ⟨fun k hk => ?_, fun k hk => ?_, ?_⟩⟩, ⟨h4.cl (fun d => eCd 2 0 d (by decide)) (fun j => m59 0 j (by omega)) (fun j => m59 1 j (by omega)), h5.cl (fun k j => eCd 6 k j (by decide)) (fun k => eF 3 k 0 (by omega)) (fun k y => eF 5 k y (by omega)) m24 (fun q j hq => m59 q j (by omega))⟩, ⟨by rw [eC 15 2 0 (by decide), i19, c152], by rw [eC 15 3 0 (by decide), c153]; decide, by rw [eC 15 3 0 (by decide), c153]; decide⟩, fun _ => ⟨⟨⟨?_, ?_, ?_, ?_⟩, fun k hk => ?_⟩, ⟨?_, fun k j hk hj => ?_, fun k hk => ?_⟩, ?_, ?_, ?_⟩⟩, ?_⟩
  · -- the needs
    rw [eZ 25 k (by omega), eZ 26 k (by omega)]
    by_cases q : k < (iv T 20 17 0).toNat
    · obtain ⟨v1, v2, -⟩ := (hv k).1 q
      obtain ⟨r1, r2, r3, r4⟩ := pc k (by omega)
      rw [v1, v2]
      intro z0 z1
      have h10 := hMT.a10 (ai T 21 18 k).toNat
      have := (r4.1.2.2.2 r3).1 (by omega)
      omega
    · obtain ⟨v1, v2⟩ := (hv k).2 (by omega)
      rw [v1, v2, (hA25 k).1, (hA25 k).2]
      exact h3.1 k hk
  · rw [i24] at hk
    rw [eZ 25 k (by omega), ((hv k).1 hk).1]
    exact (pc k (by omega)).2.2.1
  · rw [i22, i23]
    intro z
    exact (pn z).2
  · rw [eC 8 1 1 (by decide), eb 8 1 1 (by decide) (by decide), i22]; exact pk
  · rw [eC 8 2 1 (by decide), eb 8 2 1 (by decide) (by decide), i22, i23]; exact pn
  · rw [eC 8 3 1 (by decide), eb 8 3 1 (by decide) (by decide), i24]; exact ps
  · rw [eCj, pj, eth]
  · have hk' : k < (iv T 20 17 0).toNat := by
      have : k < (iv Z 20 24 0).toNat := hk
      rwa [i24] at this
    obtain ⟨v1, v2, v3, v4, v5⟩ := (hv k).1 hk'
    obtain ⟨r1, r2, r3, r4⟩ := pc k (by omega)
    have eQ : Qc Z k = 5 * 1 + (ai T 21 18 k).toNat := (eCp 9 1 k).trans r2
    obtain ⟨⟨s1, s2, s3, s4⟩, s5⟩ := r4
    obtain ⟨s6, s7, ⟨t1, t2, t3, t4⟩, s8⟩ := s4 r3
    have e11 : ∀ q, iv Z 11 q (Qc Z k) = iv (pmkF 1 S) 11 q (5 * 1 + (ai T 21 18 k).toNat) := fun q => by rw [eQ, eC 11 q _ (by decide), eb 11 q _ (by decide) (by decide)]
    have f25 : ai Z 21 25 k = ai T 21 10 (ai T 21 18 k).toNat := (eZ 25 k (by omega)).trans v1
    have f26 : ai Z 21 26 k = ai T 21 11 (ai T 21 18 k).toNat := (eZ 26 k (by omega)).trans v2
    have f27 : ai Z 21 27 k = ai T 21 12 (ai T 21 18 k).toNat := (eZ 27 k (by omega)).trans v3
    refine ⟨⟨by rw [eQ]; omega, by rw [eQ]; omega, fun k' hk2 e => ?_⟩, ⟨?_, ?_, fun z => ?_, ?_⟩, fun j hj => ?_⟩
    · have hk3 : k' < (iv T 20 17 0).toNat := by
        have : k' < (iv Z 20 24 0).toNat := hk2
        rwa [i24] at this
      obtain ⟨w1, w2, -⟩ := pc k' (by omega)
      have eQ' : Qc Z k' = 5 * 1 + (ai T 21 18 k').toNat := (eCp 9 1 k').trans w2
      exact pi k k' (by omega) (by omega) (by omega)
    · rw [e11, f25]; exact s1
    · rw [f25]; exact r3
    · rw [f25] at z
      rw [e11, f26]
      have := s6 z
      exact ⟨this.1, by omega⟩
    · rw [e11, f27, t1]
      omega
    · have hj' : j < (ai T 21 12 (ai T 21 18 k).toNat).toNat := by
        have : j < (ai Z 21 27 k).toNat := hj
        rwa [f27] at this
      obtain ⟨x1, x2, x3, x4, x5, x6⟩ := t4 j hj'
      obtain ⟨v51, v52⟩ := v5 j (by omega)
      have f28 : ai Z 21 28 (6 * k + j) = ai T 21 13 (6 * (ai T 21 18 k).toNat + j) := (eZ 28 _ (by omega)).trans v51
      have eP : ∀ j, Pl Z k j = pa (pmkF 1 S) 12 (5 * 1 + (ai T 21 18 k).toNat) j := fun j => by
        show pa Z 12 (Qc Z k) j = _
        rw [eQ, eCp]
      dsimp only at x2 x6
      refine ⟨⟨by rw [eP, eQ]; omega, fun j' hj2 e => ?_⟩, ?_, ?_, ?_⟩
      · have hj3 : j' < (ai T 21 12 (ai T 21 18 k).toNat).toNat := by
          have : j' < (ai Z 21 27 k).toNat := hj2
          rwa [f27] at this
        rw [eP, eP] at e
        exact t3 j j' hj' hj3 e
      · rw [eP, eC 14 0 _ (by decide), eb 14 0 _ (by decide) (by decide), f28]; exact x2.1
      · rw [eP, eCj, x5, eth]
      · rw [eP, eCj, x6, f28, etr]
  · rw [eC 7 0 1 (by decide), c7, i33]
  · have hk' : k < (iv T 20 17 0).toNat := by
      have : k < (iv Z 20 24 0).toNat := hk
      rwa [i24] at this
    obtain ⟨v1, v2, v3, v4, v5⟩ := (hv k).1 hk'
    obtain ⟨r1, r2, r3, r4⟩ := pc k (by omega)
    obtain ⟨-, -, ⟨t1, t2, t3, t4⟩, -⟩ := r4.1.2.2.2 r3
    have f27 : ai Z 21 27 k = ai T 21 12 (ai T 21 18 k).toNat := (eZ 27 k (by omega)).trans v3
    have hj' : j < (ai T 21 12 (ai T 21 18 k).toNat).toNat := by
      have : j < (ai Z 21 27 k).toNat := hj
      rwa [f27] at this
    have eP : Pl Z k j = pa (pmkF 1 S) 12 (5 * 1 + (ai T 21 18 k).toNat) j := by
      show pa Z 12 (pa Z 9 1 k) j = _
      rw [eCp, eCp, r2]
    rw [eP, eC 14 2 _ (by decide), eb 14 2 _ (by decide) (by decide), (t4 j hj').2.2.2.1, eZ 29 _ (by omega), (v5 j (by omega)).2]
  · have hk' : k < (iv T 20 17 0).toNat := by
      have : k < (iv Z 20 24 0).toNat := hk
      rwa [i24] at this
    obtain ⟨v1, v2, v3, v4, v5⟩ := (hv k).1 hk'
    obtain ⟨r1, r2, r3, r4⟩ := pc k (by omega)
    have eQ : Qc Z k = 5 * 1 + (ai T 21 18 k).toNat := (eCp 9 1 k).trans r2
    rw [eQ, eC 11 7 _ (by decide), eb 11 7 _ (by decide) (by decide), r4.1.2.2.1, eZ 30 k (by omega), v4]
  · rw [eC 15 3 0 (by decide), c153, i31]
  · intro _
    rw [eC 8 7 1 (by decide), eb 8 7 1 (by decide) (by decide), i31]; exact p7
  · intro z
    exact absurd i32 z
  · rw [hest]; exact pe
theorem leap_INV {S : ST} (h : INV S) {d : Int} (hd : 0 ≤ d ∧ d < 40) (hr : iv S 20 19 0 = 1) : INV (mlpF d (si (advF d S).2 20 34 0 0)).2 ∧ (advF d S).1 = (mlpF d (si (advF d S).2 20 34 0 0)).1 := by
  obtain ⟨⟨h1, h2, h3⟩, ⟨h4, h5⟩, ⟨r1, r2⟩, hrr⟩ := id h
  have hR := hrr hr
  -- what the class's step leaves
  have keepA : (∀ k, iv (advF d S).2 20 k 0 = iv S 20 k 0) ∧ (∀ t y j, ai (advF d S).2 t y j = ai S t y j) ∧ (∀ t k y, (t = 3 ∨ t = 5) → iv (advF d S).2 t k y = iv S t k y) ∧ iv (advF d S).2 15 2 0 = iv S 15 2 0 := by
    have hs : ∀ w, w < 40 → RS S (plSk 1 w S).2 := fun w hw => (plSk_inv hw ⟨h1.1, RS.rf S⟩).2
    unfold advF
    split
    · exact ⟨fun _ => rfl, fun _ _ _ => rfl, fun _ _ _ _ => rfl, rfl⟩
    · rename_i q
      have g := hs (max d (iv S 15 3 0 + 1)).toNat (by omega)
      have ga : ∀ t y j, ai (plSk 1 (max d (iv S 15 3 0 + 1)).toNat S).2 t y j = ai S t y j := fun t y j => by
        show (plSk 1 (max d (iv S 15 3 0 + 1)).toNat S).2.2.2.1 t y j = S.2.2.1 t y j
        rw [g.1]
      split
      · exact ⟨fun k => g.2 20 k 0 (by omega) (by omega) (by omega) (by omega), ga, fun t k y ht => g.2 t k y (by omega) (by omega) (by omega) (by omega), g.2 15 2 0 (by omega) (by omega) (by omega) (by omega)⟩
      · refine ⟨fun k => g.2 20 k 0 (by omega) (by omega) (by omega) (by omega), ga, fun t k y ht => ?_, g.2 15 2 0 (by omega) (by omega) (by omega) (by omega)⟩
        show (if t = 15 ∧ k = 3 ∧ y = 0 then _ else iv (plSk 1 (max d (iv S 15 3 0 + 1)).toNat S).2 t k y) = _
        rw [if_neg (by omega)]
        exact g.2 t k y (by omega) (by omega) (by omega) (by omega)
  obtain ⟨k1, k2, k3, k4⟩ := keepA
  have hB : MI (si (advF d S).2 20 34 0 0) := (h2.oth (fun k j => k2 21 k j) k1).pi34
  have g34 : ∀ k, k ≠ 34 → iv (si (advF d S).2 20 34 0 0) 20 k 0 = iv S 20 k 0 := fun k hk => by
    show (if 20 = 20 ∧ k = 34 ∧ 0 = 0 then 0 else iv (advF d S).2 20 k 0) = _
    rw [if_neg (by omega), k1]
  have hrb : RB S (si (advF d S).2 20 34 0 0) := ⟨fun k j _ => k2 21 k j, fun k hk => g34 k (by omega)⟩
  have hRR : RR S (si (advF d S).2 20 34 0 0) := hR.of (RA.rf S) hrb
  have hK : RK (si (advF d S).2 20 34 0 0) := h3.of hrb
  obtain ⟨e1, hR2, hRI, hMZ⟩ := sim_adv hd h1.1 hB hK hRR
  have hMF : MF (kq [29, 30]) (kq [31, 32, 33]) (si (advF d S).2 20 34 0 0) (mlpF d (si (advF d S).2 20 34 0 0)).2 := by
    have hm := (mlpR_ok (d := d) hB hK).1.2
    unfold mlpF
    split
    · exact ((hm.up (by decide) (by decide)).tr (MF.si _ 32 _ (by decide))).tr (MF.si _ 31 _ (by decide))
    · exact ((hm.up (by decide) (by decide)).tr (MF.si _ 32 _ (by decide))).tr (MF.si _ 31 _ (by decide))
  have hXZ : MF (kq [29, 30]) (kq [31, 32, 33, 34]) (advF d S).2 (mlpF d (si (advF d S).2 20 34 0 0)).2 := (MF.si (advF d S).2 34 0 (by decide)).tr (hMF.up (by decide) (by decide))
  generalize (mlpF d (si (advF d S).2 20 34 0 0)).2 = Z at *
  have hCI : CI (advF d S).2 := ⟨hRI, fun e he => by rw [k2]; exact h1.2.1 e he, h1.2.2.cls (fun k => k3 3 k 0 (by omega)) (fun k y => k3 5 k y (by omega)) (fun y j => k2 6 y j)⟩
  have hZK : RK Z := by
    obtain ⟨a, b, c⟩ := hK
    refine ⟨fun k hk => ?_, fun k hk => ?_, ?_⟩
    · rw [hMF.a (q := 25) (by decide), hMF.a (q := 26) (by decide)]; exact a k hk
    · rw [hMF.i (q := 24) (by decide)] at hk
      rw [hMF.a (q := 25) (by decide)]; exact b k hk
    · rw [hMF.i (q := 22) (by decide), hMF.i (q := 23) (by decide)]; exact c
  have hRZ : RR Z Z := hR2.of hXZ.ra (RB.rf Z)
  have g := hRZ.2.2.1
  have i31 := hMZ.i31
  refine ⟨⟨⟨hCI.mf hXZ, hMZ, hZK⟩, ⟨h4.cl (fun e => (hXZ.2.2.2 2 0 e (by omega)).trans (k2 2 0 e)) (fun j => (hXZ.a (q := 0) (by decide) j).trans (k2 21 0 j)) (fun j => (hXZ.a (q := 1) (by decide) j).trans (k2 21 1 j)), h5.cl (fun k j => (hXZ.2.2.2 6 k j (by omega)).trans (k2 6 k j)) (fun k => (hXZ.2.2.1 3 k 0 (by omega)).trans (k3 3 k 0 (by omega))) (fun k y => (hXZ.2.2.1 5 k y (by omega)).trans (k3 5 k y (by omega))) (fun q hq => (hXZ.i (by intro z; simp at z; omega)).trans (k1 q)) (fun q j hq => (hXZ.a (by intro z; simp at z; omega) j).trans (k2 21 q j))⟩, ⟨?_, by rw [g]; exact i31.1, by rw [g]; exact i31.2⟩, fun _ => hRZ⟩, e1⟩
  rw [hXZ.2.2.1 15 2 0 (by omega), k4, hXZ.i (q := 19) (by decide), k1]
  exact r1
