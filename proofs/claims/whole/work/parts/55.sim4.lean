/-! both sides: a plan -/
theorem KR.fr {T T' B M M' : ST} {y k Bb : Nat} (h : KR T y k Bb B M) (e11 : ∀ q, iv T' 11 q y = iv T 11 q y) (ej : jv T' 11 4 y = jv T 11 4 y) (ep : ∀ j, pa T' 12 y j = pa T 12 y j) (e14 : ∀ q p, p / 6 = y → iv T' 14 q p = iv T 14 q p ∧ jv T' 14 q p = jv T 14 q p) (m10 : ai M' 21 10 k = ai M 21 10 k) (m11 : ai M' 21 11 k = ai M 21 11 k) (m12 : ai M' 21 12 k = ai M 21 12 k) (m14 : ai M' 21 14 k = ai M 21 14 k) (m13 : ∀ j, j < 6 → ai M' 21 13 (6 * k + j) = ai M 21 13 (6 * k + j)) : KR T' y k Bb B M' := by
  obtain ⟨⟨c1, c2, c3, c4⟩, d⟩ := h
  unfold KR C1
  rw [e11, e11, e11, e11, ej, m10, m11, m12, m14]
  refine ⟨⟨c1, c2, c3, fun z => ?_⟩, d⟩
  obtain ⟨r1, r2, ⟨l1, l2, l3, l4⟩, r4⟩ := c4 z
  refine ⟨r1, r2, ⟨(e11 3).trans l1, l2, fun i j hi hj e => l3 i j hi hj (by rw [ep, ep] at e; exact e), fun j hj => ?_⟩, r4⟩
  obtain ⟨p1, p2, p3, p4, p5, p6⟩ := l4 j hj
  have hp : pa T 12 y j / 6 = y := by omega
  dsimp only at p2 p3 p6 ⊢
  rw [ep, m13 j (by omega), (e14 0 _ hp).1, (e14 1 _ hp).1, (e14 2 _ hp).1, (e14 4 _ hp).2, (e14 5 _ hp).2]
  exact ⟨p1, p2, p3, p4, p5, p6⟩
theorem KR.base {T B B' M : ST} {y k Bb : Nat} (h : KR T y k Bb B' M) (e1 : mcount B' = mcount B) (e2 : mmany B' = mmany B) (e3 : mtru B' = mtru B) : KR T y k Bb B M := by
  unfold KR C1 LT at *
  rw [e1, e2, e3] at h
  exact h
theorem mkS_10 (M : ST) (k : Nat) : ai (mkS M k) 21 10 k = ai (mk1 M k) 21 10 k :=
  ((estF_MF _ k).a (q := 10) (by decide) k).trans (((mk4_MF _ k).a (q := 10) (by decide) k).trans (((mk3_MF _ k).a (q := 10) (by decide) k).trans ((mk2_MF _ k).a (q := 10) (by decide) k)))
theorem mkS_i16 (M : ST) (k : Nat) : iv (mkS M k) 20 16 0 = iv M 20 16 0 - (if iv M 20 2 0 = 2 ∧ ai (mkS M k) 21 10 k = 3 then 1 else 0) := by
  have e1 : iv (mk1 M k) 20 16 0 = iv M 20 16 0 := (mk1_MF M k).i (q := 16) (by decide)
  have e3 : iv (mk1 M k) 20 2 0 = iv M 20 2 0 := (mk1_MF M k).i (q := 2) (by decide)
  have e2 : iv (mkS M k) 20 16 0 = iv (mk2 (mk1 M k) k) 20 16 0 := ((estF_MF _ k).i (q := 16) (by decide)).trans (((mk4_MF _ k).i (q := 16) (by decide)).trans ((mk3_MF _ k).i (q := 16) (by decide)))
  have e4 : iv (mk2 (mk1 M k) k) 20 16 0 = iv (mk1 M k) 20 16 0 - (if iv (mk1 M k) 20 2 0 = 2 ∧ ai (mk1 M k) 21 10 k = 3 then 1 else 0) := rfl
  rw [e2, e4, e1, e3, mkS_10]
theorem mkS_i17 (M : ST) (k : Nat) : iv (mkS M k) 20 17 0 = iv M 20 17 0 + (if ai (mkS M k) 21 10 k ≤ 2 then 1 else 0) ∧ ∀ j, ai (mkS M k) 21 18 j = if ai (mkS M k) 21 10 k ≤ 2 ∧ j = (iv M 20 17 0).toNat then (k : Int) else ai M 21 18 j := by
  have e1 : iv (mk2 (mk1 M k) k) 20 17 0 = iv M 20 17 0 := ((mk2_MF _ k).i (q := 17) (by decide)).trans ((mk1_MF M k).i (q := 17) (by decide))
  have e18 : ∀ j, ai (mk2 (mk1 M k) k) 21 18 j = ai M 21 18 j := fun j => ((mk2_MF _ k).a (q := 18) (by decide) j).trans ((mk1_MF M k).a (q := 18) (by decide) j)
  have e10 : ai (mk2 (mk1 M k) k) 21 10 k = ai (mkS M k) 21 10 k := by
    rw [mkS_10]
    exact (mk2_MF _ k).a (q := 10) (by decide) k
  have f1 : iv (mkS M k) 20 17 0 = iv (mk3 (mk2 (mk1 M k) k) k) 20 17 0 := ((estF_MF _ k).i (q := 17) (by decide)).trans ((mk4_MF _ k).i (q := 17) (by decide))
  have f2 : ∀ j, ai (mkS M k) 21 18 j = ai (mk3 (mk2 (mk1 M k) k) k) 21 18 j := fun j => ((estF_MF _ k).a (q := 18) (by decide) j).trans ((mk4_MF _ k).a (q := 18) (by decide) j)
  by_cases c : ai (mkS M k) 21 10 k ≤ 2
  · have e3 : mk3 (mk2 (mk1 M k) k) k = si (sa (mk2 (mk1 M k) k) 21 18 (iv (mk2 (mk1 M k) k) 20 17 0).toNat (k : Int)) 20 17 0 (iv (mk2 (mk1 M k) k) 20 17 0 + 1) := if_pos (by rw [e10]; exact c)
    refine ⟨?_, fun j => ?_⟩
    · rw [f1, e3, if_pos c, ← e1]
      simp [iv, si, up3]
    · rw [f2, e3, e1]
      show (if 21 = 21 ∧ 18 = 18 ∧ j = (iv M 20 17 0).toNat then (k : Int) else ai (mk2 (mk1 M k) k) 21 18 j) = _
      by_cases q : j = (iv M 20 17 0).toNat
      · rw [if_pos ⟨rfl, rfl, q⟩, if_pos ⟨c, q⟩]
      · rw [if_neg (fun z => q z.2.2), if_neg (fun z => q z.2), e18]
  · have e3 : mk3 (mk2 (mk1 M k) k) k = mk2 (mk1 M k) k := if_neg (by rw [e10]; exact c)
    refine ⟨?_, fun j => ?_⟩
    · rw [f1, e3, if_neg c, e1, Int.add_zero]
    · rw [f2, e3, e18, if_neg (fun z => c z.1)]
/-- the plan y in T and the model's in M: the rows so far -/
def RW (T : ST) (y i Bb : Nat) (B M : ST) : Prop := iv T 8 3 y = iv M 20 17 0 ∧ (0 ≤ iv M 20 17 0 ∧ iv M 20 17 0 ≤ i) ∧ (∀ a b : Nat, a < b → (b : Int) < iv M 20 17 0 → ai M 21 18 a < ai M 21 18 b) ∧ ∀ j : Nat, (j : Int) < iv M 20 17 0 → (0 ≤ ai M 21 18 j ∧ ai M 21 18 j < i) ∧ pa T 9 y j = 5 * y + (ai M 21 18 j).toNat ∧ ai M 21 10 (ai M 21 18 j).toNat ≤ 2 ∧ KR T (5 * y + (ai M 21 18 j).toNat) (ai M 21 18 j).toNat Bb B M
def PF (T : ST) (y i Bb : Nat) (B M : ST) (nv al : Bool) : Prop :=
  (jv T 8 4 y = Bb ∧ iv T 8 7 y = -1) ∧
  (((iv T 8 1 y = iv B 20 2 0 ∧ (iv B 20 2 0 = 2 → iv T 8 2 y = iv M 20 16 0)) ∧ (iv B 20 2 0 = 0 → nv = false) ∧ (iv B 20 2 0 = 1 → al = false) ∧ RW T y i Bb B M) ∨
   (((iv B 20 2 0 = 0 ∧ nv = true ∧ iv T 8 1 y = 4) ∨ (iv B 20 2 0 = 1 ∧ al = true ∧ iv T 8 1 y = 3)) ∧ iv T 8 3 y = 0))
theorem QD.of {A A' B B' : ST} (h : QD A B) (hA : A'.2.2.1 = A.2.2.1) (h0 : ∀ j, ai B' 21 0 j = ai B 21 0 j) (h1 : ∀ j, ai B' 21 1 j = ai B 21 1 j) : QD A' B' := fun d hd => by
  have e : ai A' 2 0 d = ai A 2 0 d := by show A'.2.2.1 2 0 d = A.2.2.1 2 0 d; rw [hA]
  rw [e, h0, h1]
  exact h d hd
theorem QQ.of {A A' B B' : ST} (h : QQ A B) (hA : A'.2.2.1 = A.2.2.1) (h3 : ∀ k y, iv A' 3 k y = iv A 3 k y) (h5 : ∀ k y, iv A' 5 k y = iv A 5 k y) (hB : ∀ q, (q = 2 ∨ q = 3 ∨ q = 4) → iv B' 20 q 0 = iv B 20 q 0) (hB2 : ∀ q j, (q = 5 ∨ q = 6 ∨ q = 7 ∨ q = 8 ∨ q = 9) → ai B' 21 q j = ai B 21 q j) : QQ A' B' := by
  have ea : ∀ k j, ai A' 6 k j = ai A 6 k j := fun k j => by show A'.2.2.1 6 k j = A.2.2.1 6 k j; rw [hA]
  obtain ⟨⟨a, b, c⟩, d⟩ := h
  refine ⟨⟨?_, ?_, ?_⟩, fun k hk => ?_⟩
  · rw [h3, hB 2 (by omega)]; exact a
  · rw [h3, hB 3 (by omega)]; exact b
  · rw [h3, hB 4 (by omega)]; exact c
  · obtain ⟨⟨d1, d2, d3, d4⟩, d5⟩ := d k hk
    refine ⟨⟨?_, ?_, ?_, ?_⟩, fun j hj => ?_⟩
    · rw [h5, hB2 5 k (by omega)]; exact d1
    · rw [h5, hB2 6 k (by omega)]; exact d2
    · rw [h5, hB2 7 k (by omega)]; exact d3
    · rw [h5, hB2 8 k (by omega)]; exact d4
    · rw [ea, hB2 9 _ (by omega)]; exact d5 j hj
theorem MF.m0 {B M : ST} {l : List Nat} (h : MF (kq [10, 11, 12, 13, 14, 18]) (kq l) B M) : mcount M = mcount B ∧ mmany M = mmany B ∧ mtru M = mtru B ∧ mthr M = mthr B := by
  have h0 : ∀ j, ai M 21 0 j = ai B 21 0 j := fun j => h.a (q := 0) (by decide) j
  have h1 : ∀ j, ai M 21 1 j = ai B 21 1 j := fun j => h.a (q := 1) (by decide) j
  have e : mthr M = mthr B := by
    funext d
    show decide (ai M 21 0 d = 1) = decide (ai B 21 0 d = 1)
    rw [h0]
  refine ⟨(mcount_of h0 h1).1, (mcount_of h0 h1).2, ?_, e⟩
  funext c d
  show (mthr M d && litT c (ai M 21 1 d).toNat) = (mthr B d && litT c (ai B 21 1 d).toNat)
  rw [e, h1]
theorem pl_loop {A B S1 : ST} {y Bb : Nat} (hy : y < 2) (hD : QD A B) (hQ : QQ A B) (hIQ : IQ A) (hR : RI S1) (hB : MI B) (hBb : Bb = bset (thr A) 40) (hF : FM (PR y) (QR y) A S1) (s1 : iv S1 8 1 y = iv B 20 2 0) (s2 : iv S1 8 2 y = iv B 20 3 0) (s3 : iv S1 8 3 y = 0) (s4 : jv S1 8 4 y = Bb) (s7 : iv S1 8 7 y = -1) : ∀ i : Nat, (i : Int) ≤ iv B 20 4 0 → PF (plF y Bb i S1) y i Bb B (mkL (mk0 B) i).2.2 (mkL (mk0 B) i).1 (mkL (mk0 B) i).2.1 ∧ FM (PR y) (QR y) A (plF y Bb i S1) ∧ RI (plF y Bb i S1)
  | 0, _ => ⟨⟨⟨s4, s7⟩, Or.inl ⟨⟨s1, fun _ => s2⟩, fun _ => rfl, fun _ => rfl, ⟨s3, ⟨Int.le_refl 0, Int.le_refl 0⟩, fun a b h1 h2 => absurd h2 (by show ¬ (b : Int) < 0; omega), fun j hj => absurd hj (by show ¬ (j : Int) < 0; omega)⟩⟩⟩, hF, hR⟩
  | i + 1, hi => by
    obtain ⟨hp, hFi, hRi⟩ := pl_loop hy hD hQ hIQ hR hB hBb hF s1 s2 s3 s4 s7 i (by omega)
    have h4 := hB.i4
    have h2 := hB.i2
    obtain ⟨m1, m2, m3, m4⟩ := mkM_ok hB i (by omega)
    have hB40 : Bb < 2 ^ 40 := by rw [hBb]; exact bset40 _
    have hQi := hFi.fr.iq hIQ
    obtain ⟨⟨p4, p7⟩, pc⟩ := hp
    have eL : mkL (mk0 B) (i + 1) = ((mkL (mk0 B) i).1 || decide (ai (mk1 (mkL (mk0 B) i).2.2 i) 21 10 i = 4), (mkL (mk0 B) i).2.1 || decide (ai (mk1 (mkL (mk0 B) i).2.2 i) 21 10 i = 3), mkS (mkL (mk0 B) i).2.2 i) := rfl
    rcases pc with ⟨⟨k1, k2⟩, nv0, al0, rw1, rw2, rw3, rw4⟩ | ⟨fx, f3⟩
    · -- going on
      have e33 : iv (plF y Bb i S1) 3 3 0 = iv B 20 4 0 := by
        rw [(hFi.2.1 3 3 0 (by unfold PR; omega)).1]
        exact hQ.1.2.2
      have ePl : plF y Bb (i + 1) S1 = takeF (cmkF (5 * y + i) i Bb (plF y Bb i S1)) y (5 * y + i) := if_neg (by rw [e33]; omega)
      have hM0 : MF (kq [10, 11, 12, 13, 14, 18]) (kq [15, 16, 17]) B (mkL (mk0 B) i).2.2 := ((mk0_MF B).up (by decide) (by decide)).tr (m2.up (by decide) (by decide))
      obtain ⟨ec, emm, emt, emth⟩ := hM0.m0
      have hthr : thr (plF y Bb i S1) = thr A := by
        funext d
        show decide ((plF y Bb i S1).2.2.1 2 0 d ≠ -1) = _
        rw [hFi.1]
        rfl
      have hDi : QD (plF y Bb i S1) (mkL (mk0 B) i).2.2 := hD.of hFi.1 (fun j => hM0.a (q := 0) (by decide) j) (fun j => hM0.a (q := 1) (by decide) j)
      have hQQi : QQ (plF y Bb i S1) (mkL (mk0 B) i).2.2 := hQ.of hFi.1 (fun k z => (hFi.2.1 3 k z (by unfold PR; omega)).1) (fun k z => (hFi.2.1 5 k z (by unfold PR; omega)).1) (fun q hq => hM0.i (by intro z; simp at z; omega)) (fun q j hq => hM0.a (by intro z; simp at z; omega) j)
      have hsim0 := sim_clause (y := 5 * y + i) (k := i) hDi hQQi m1 (by omega) (by omega) (by omega)
      rw [hthr, ← hBb] at hsim0
      have hsim := hsim0.base ec emm emt
      obtain ⟨hRc, hFc⟩ := cmkF_ok (S := plF y Bb i S1) (y := 5 * y + i) (k := i) (B := Bb) (by omega) (by omega) hB40 hRi hQi
      have hMX := mkS_MX m1 i
      have i16 := mkS_i16 (mkL (mk0 B) i).2.2 i
      obtain ⟨i17, i18⟩ := mkS_i17 (mkL (mk0 B) i).2.2 i
      have i10 := mkS_10 (mkL (mk0 B) i).2.2 i
      have ei2 : iv (mkL (mk0 B) i).2.2 20 2 0 = iv B 20 2 0 := hM0.i (q := 2) (by decide)
      have h10 := (mk1_MI m1 i).a10 i
      rw [← i10] at h10
      rw [ei2] at i16
      have hFm : FM (PR y) (QR y) A (plF y Bb (i + 1) S1) ∧ RI (plF y Bb (i + 1) S1) := by
        rw [ePl]
        have fc := hFc.fc
        rw [show (5 * y + i) / 5 = y by omega] at fc
        have n8 : iv (cmkF (5 * y + i) i Bb (plF y Bb i S1)) 8 2 y = iv (plF y Bb i S1) 8 2 y := (hFc.2.1 8 2 y (by unfold PC; omega)).1
        refine ⟨(hFi.tr fc).tr takeF_FM.ft, takeF_RI hy (by omega) hRc ?_⟩
        rw [n8]
        by_cases q : iv B 20 2 0 = 2
        · rw [k2 q]; omega
        · have : iv (plF y Bb i S1) 8 2 y = iv (plF y Bb i S1) 8 2 y := rfl
          have := (plF_ok (S := S1) (y := y) (B := Bb) hy hB40 hR (hF.fr.iq hIQ) (by rw [s2]; exact hB.i3.1) i (by omega)).2.2
          omega
      refine ⟨?_, hFm⟩
      rw [ePl, eL]
      rw [← i10]
      dsimp only
      generalize hM' : mkS (mkL (mk0 B) i).2.2 i = M' at *
      generalize (mkL (mk0 B) i).2.2 = M at *
      generalize (mkL (mk0 B) i).1 = nv at *
      generalize (mkL (mk0 B) i).2.1 = al at *
      generalize hT' : cmkF (5 * y + i) i Bb (plF y Bb i S1) = T' at *
      generalize plF y Bb i S1 = T at *
      have e8 : ∀ q, iv T' 8 q y = iv T 8 q y := fun q => (hFc.2.1 8 q y (by unfold PC; omega)).1
      have ej8 : jv T' 8 4 y = jv T 8 4 y := (hFc.2.1 8 4 y (by unfold PC; omega)).2
      have e9 : ∀ j, pa T' 9 y j = pa T 9 y j := fun j => by
        show (ar T' 9 y j).getD 0 = (ar T 9 y j).getD 0
        rw [hFc.2.2 9 y j (by unfold QC; omega)]
      have kc : iv T' 11 1 (5 * y + i) = ai M' 21 10 i := hsim.1.1
      -- earlier clauses stay
      have keep : ∀ (T2 : ST) (c : Nat), c < i → (∀ q, iv T2 11 q (5 * y + c) = iv T' 11 q (5 * y + c)) → jv T2 11 4 (5 * y + c) = jv T' 11 4 (5 * y + c) → (∀ j, pa T2 12 (5 * y + c) j = pa T' 12 (5 * y + c) j) → (∀ q p, iv T2 14 q p = iv T' 14 q p ∧ jv T2 14 q p = jv T' 14 q p) → KR T (5 * y + c) c Bb B M → KR T2 (5 * y + c) c Bb B M' := fun T2 c hc t1 t2 t3 t4 hk => by
        refine hk.fr (fun q => (t1 q).trans (hFc.2.1 11 q _ (by unfold PC; omega)).1) (t2.trans (hFc.2.1 11 4 _ (by unfold PC; omega)).2) (fun j => (t3 j).trans ?_) (fun q p hp => ?_) (hMX.1 10 c (by omega) (by omega)) (hMX.1 11 c (by omega) (by omega)) (hMX.1 12 c (by omega) (by omega)) (hMX.1 14 c (by omega) (by omega)) (fun j hj => hMX.2 _ (by omega))
        · show (ar T' 12 (5 * y + c) j).getD 0 = (ar T 12 (5 * y + c) j).getD 0
          rw [hFc.2.2 12 _ j (by unfold QC; omega)]
        · have := hFc.2.1 14 q p (by unfold PC; omega)
          exact ⟨(t4 q p).1.trans this.1, (t4 q p).2.trans this.2⟩
      by_cases c2 : ai M' 21 10 i ≤ 2
      · -- kept
        rw [if_pos c2] at i17
        rw [if_neg (by omega)] at i16
        have eT : takeF T' y (5 * y + i) = si (sr T' 9 y (iv M 20 17 0).toNat (some (5 * y + i))) 8 3 y (iv M 20 17 0 + 1) := by
          unfold takeF
          rw [if_pos (by omega)]
          unfold keepF
          rw [e8, rw1, if_pos (by omega)]
        rw [eT]
        have ep : ∀ j, pa (si (sr T' 9 y (iv M 20 17 0).toNat (some (5 * y + i))) 8 3 y (iv M 20 17 0 + 1)) 9 y j = if j = (iv M 20 17 0).toNat then 5 * y + i else pa T 9 y j := fun j => by
          show ((if 9 = 9 ∧ y = y ∧ j = (iv M 20 17 0).toNat then some (5 * y + i) else ar T' 9 y j)).getD 0 = _
          by_cases q : j = (iv M 20 17 0).toNat
          · rw [if_pos ⟨rfl, rfl, q⟩, if_pos q]; rfl
          · rw [if_neg (fun z => q z.2.2), if_neg q]
            exact e9 j
        refine ⟨⟨ej8.trans p4, (e8 7).trans p7⟩, Or.inl ⟨⟨(e8 1).trans k1, fun z => ?_⟩, fun z => ?_, fun z => ?_, ?_, by omega, fun a b hab hb => ?_, fun j hj => ?_⟩⟩
        · show iv T' 8 2 y = _
          rw [e8, k2 z, i16]
          omega
        · rw [nv0 z, Bool.false_or]
          exact decide_eq_false (by omega)
        · rw [al0 z, Bool.false_or]
          exact decide_eq_false (by omega)
        · show (if 8 = 8 ∧ 3 = 3 ∧ y = y then iv M 20 17 0 + 1 else _) = _
          rw [if_pos ⟨rfl, rfl, rfl⟩, i17]
        · rw [i18, i18, if_neg (by omega)]
          by_cases q : b = (iv M 20 17 0).toNat
          · rw [if_pos ⟨c2, q⟩]
            exact (rw4 a (by omega)).1.2
          · rw [if_neg (fun z => q z.2)]
            exact rw3 a b hab (by omega)
        · rw [i18, ep]
          by_cases q : j = (iv M 20 17 0).toNat
          · rw [if_pos ⟨c2, q⟩, if_pos q, show ((i : Nat) : Int).toNat = i from rfl]
            exact ⟨by omega, rfl, c2, hsim⟩
          · rw [if_neg (fun z => q z.2), if_neg q]
            obtain ⟨q1, q2, q3, q4⟩ := rw4 j (by omega)
            refine ⟨by omega, q2, ?_, ?_⟩
            · rw [hMX.1 10 _ (by omega) (by omega)]; exact q3
            · exact keep _ _ (by omega) (fun _ => rfl) rfl (fun _ => rfl) (fun _ _ => ⟨rfl, rfl⟩) q4
      · rw [if_neg c2, Int.add_zero] at i17
        have stay : ∀ (T2 : ST), iv T2 8 3 y = iv T' 8 3 y → (∀ j, pa T2 9 y j = pa T' 9 y j) → (∀ q c, iv T2 11 q c = iv T' 11 q c) → (∀ c, jv T2 11 4 c = jv T' 11 4 c) → (∀ c j, pa T2 12 c j = pa T' 12 c j) → (∀ q p, iv T2 14 q p = iv T' 14 q p ∧ jv T2 14 q p = jv T' 14 q p) → RW T2 y (i + 1) Bb B M' := fun T2 t0 t9 t1 t2 t3 t4 => by
          refine ⟨?_, by omega, fun a b hab hb => ?_, fun j hj => ?_⟩
          · rw [t0, e8, rw1, i17]
          · rw [i18, i18, if_neg (fun z => c2 z.1), if_neg (fun z => c2 z.1)]
            exact rw3 a b hab (by omega)
          · rw [i18, if_neg (fun z => c2 z.1), t9, e9]
            obtain ⟨q1, q2, q3, q4⟩ := rw4 j (by omega)
            refine ⟨by omega, q2, ?_, ?_⟩
            · rw [hMX.1 10 _ (by omega) (by omega)]; exact q3
            · exact keep _ _ (by omega) (fun q => t1 q _) (t2 _) (fun j => t3 _ j) t4 q4
        by_cases c3 : ai M' 21 10 i = 3
        · by_cases d2 : iv B 20 2 0 = 2
          · have eT : takeF T' y (5 * y + i) = si T' 8 2 y (iv T 8 2 y - 1) := by
              unfold takeF
              rw [if_neg (by omega), if_pos (by rw [e8]; omega), e8]
            rw [eT]
            rw [if_pos ⟨d2, c3⟩] at i16
            refine ⟨⟨ej8.trans p4, (e8 7).trans p7⟩, Or.inl ⟨⟨(e8 1).trans k1, fun z => ?_⟩, fun z => absurd z (by omega), fun z => absurd z (by omega), stay _ rfl (fun _ => rfl) (fun _ _ => rfl) (fun _ => rfl) (fun _ _ => rfl) (fun _ _ => ⟨rfl, rfl⟩)⟩⟩
            show (if 8 = 8 ∧ 2 = 2 ∧ y = y then iv T 8 2 y - 1 else _) = _
            rw [if_pos ⟨rfl, rfl, rfl⟩, k2 z, i16]
          · rw [if_neg (by omega)] at i16
            by_cases d1 : iv B 20 2 0 = 1
            · have eT : takeF T' y (5 * y + i) = setKS T' 8 y 3 0 := by
                unfold takeF
                rw [if_neg (by omega), if_neg (by rw [e8]; omega), if_pos (by rw [e8]; omega)]
              rw [eT]
              refine ⟨⟨ej8.trans p4, ?_⟩, Or.inr ⟨Or.inr ⟨d1, ?_, ?_⟩, ?_⟩⟩
              · show iv T' 8 7 y = _
                exact (e8 7).trans p7
              · rw [decide_eq_true c3, Bool.or_true]
              · simp [setKS, iv, si, up3]
              · simp [setKS, iv, si, up3]
            · have eT : takeF T' y (5 * y + i) = T' := by
                unfold takeF
                rw [if_neg (by omega), if_neg (by rw [e8]; omega), if_neg (by rw [e8]; omega), if_neg (by omega)]
              rw [eT]
              refine ⟨⟨ej8.trans p4, (e8 7).trans p7⟩, Or.inl ⟨⟨(e8 1).trans k1, fun z => absurd z d2⟩, fun z => ?_, fun z => absurd z d1, stay _ rfl (fun _ => rfl) (fun _ _ => rfl) (fun _ => rfl) (fun _ _ => rfl) (fun _ _ => ⟨rfl, rfl⟩)⟩⟩
              rw [nv0 z, Bool.false_or]
              exact decide_eq_false (by omega)
        · have c4 : ai M' 21 10 i = 4 := by omega
          rw [if_neg (by omega)] at i16
          by_cases d0 : iv B 20 2 0 = 0
          · have eT : takeF T' y (5 * y + i) = setKS T' 8 y 4 0 := by
              unfold takeF
              rw [if_neg (by omega), if_neg (by omega), if_neg (by omega), if_pos (by rw [e8]; omega)]
            rw [eT]
            refine ⟨⟨ej8.trans p4, ?_⟩, Or.inr ⟨Or.inl ⟨d0, ?_, ?_⟩, ?_⟩⟩
            · show iv T' 8 7 y = _
              exact (e8 7).trans p7
            · rw [decide_eq_true c4, Bool.or_true]
            · simp [setKS, iv, si, up3]
            · simp [setKS, iv, si, up3]
          · have eT : takeF T' y (5 * y + i) = T' := by
              unfold takeF
              rw [if_neg (by omega), if_neg (by omega), if_neg (by omega), if_neg (by rw [e8]; omega)]
            rw [eT]
            refine ⟨⟨ej8.trans p4, (e8 7).trans p7⟩, Or.inl ⟨⟨(e8 1).trans k1, fun z => ?_⟩, fun z => absurd z d0, fun z => ?_, stay _ rfl (fun _ => rfl) (fun _ _ => rfl) (fun _ => rfl) (fun _ _ => rfl) (fun _ _ => ⟨rfl, rfl⟩)⟩⟩
            · show iv T' 8 2 y = _
              rw [e8, k2 z, i16]
              omega
            · rw [al0 z, Bool.false_or]
              exact decide_eq_false (by omega)
    · -- settled before
      have ePl : plF y Bb (i + 1) S1 = plF y Bb i S1 := if_pos (Or.inl (by omega))
      rw [ePl, eL]
      refine ⟨⟨⟨p4, p7⟩, Or.inr ⟨?_, f3⟩⟩, hFi, hRi⟩
      rcases fx with ⟨a, b, c⟩ | ⟨a, b, c⟩
      · exact Or.inl ⟨a, by show ((mkL (mk0 B) i).1 || _) = true; rw [b]; rfl, c⟩
      · exact Or.inr ⟨a, by show ((mkL (mk0 B) i).2.1 || _) = true; rw [b]; rfl, c⟩
