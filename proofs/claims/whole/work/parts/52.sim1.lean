/-! both sides: a run -/
abbrev Qc (A : ST) (k : Nat) : Nat := pa A 9 1 k
abbrev Pl (A : ST) (k j : Nat) : Nat := pa A 12 (pa A 9 1 k) j
abbrev zc (B : ST) (k : Nat) : Nat := (ai B 21 27 k).toNat
abbrev nR (B : ST) : Nat := (iv B 20 24 0).toNat
/-- what holds fast while a run goes on -/
def SR (A B : ST) : Prop :=
  (iv A 8 1 1 = iv B 20 22 0 ∧ (iv B 20 22 0 = 2 → iv A 8 2 1 = iv B 20 23 0 ∧ 1 ≤ iv B 20 23 0) ∧ iv A 8 3 1 = iv B 20 24 0 ∧ jv A 8 4 1 = bset (mth B) 40) ∧
  (∀ k, k < nR B → (5 ≤ Qc A k ∧ Qc A k < 10 ∧ (∀ k', k' < nR B → Qc A k = Qc A k' → k = k')) ∧
    (iv A 11 1 (Qc A k) = ai B 21 25 k ∧ ai B 21 25 k ≤ 2 ∧ (ai B 21 25 k = 2 → iv A 11 2 (Qc A k) = ai B 21 26 k ∧ 1 ≤ ai B 21 26 k) ∧ iv A 11 3 (Qc A k) = ai B 21 27 k) ∧
    ∀ j, j < zc B k → (Pl A k j / 6 = Qc A k ∧ ∀ j', j' < zc B k → Pl A k j = Pl A k j' → j = j') ∧ iv A 14 0 (Pl A k j) = ai B 21 28 (6 * k + j) ∧ jv A 14 4 (Pl A k j) = bset (mth B) 40 ∧ jv A 14 5 (Pl A k j) = bset (mtt B (ai B 21 28 (6 * k + j)).toNat) 40)
/-- .. and what moves -/
def DN (A0 B0 A B : ST) : Prop := iv A 7 0 1 = iv B 20 33 0 ∧ (∀ k j, k < nR B0 → j < zc B0 k → iv A 14 2 (Pl A0 k j) = ai B 21 29 (6 * k + j)) ∧ ∀ k, k < nR B0 → iv A 11 7 (Qc A0 k) = ai B 21 30 k
def DY (A0 B0 A B : ST) : Prop := (RS A0 A ∧ RI A) ∧ (MF (kq [29, 30]) (kq [33]) B0 B ∧ MI B) ∧ DN A0 B0 A B
theorem mth_MF {B0 B : ST} (h : MF (kq [29, 30]) (kq [33]) B0 B) : mth B = mth B0 := by
  funext d
  show decide (ai B 21 20 d = 1) = decide (ai B0 21 20 d = 1)
  rw [h.a (q := 20) (by decide)]
theorem mtt_MF {B0 B : ST} (h : MF (kq [29, 30]) (kq [33]) B0 B) (c : Nat) : mtt B c = mtt B0 c := by
  funext d
  show (mth B d && litT c (ai B 21 21 d).toNat) = (mth B0 d && litT c (ai B0 21 21 d).toNat)
  rw [mth_MF h, h.a (q := 21) (by decide)]
theorem sim_lit {A0 B0 A B : ST} (hs : SR A0 B0) (h : DY A0 B0 A B) {k j w : Nat} (hk : k < nR B0) (hj : j < zc B0 k) (hw : w ≤ 40) : (lsk (Qc A0 k) j w A).1 = (mlsk k j w B).1 ∧ DY A0 B0 (lsk (Qc A0 k) j w A).2 (mlsk k j w B).2 := by
  obtain ⟨⟨hRS, hRI⟩, ⟨hMF, hMI⟩, hd1, hd2, hd3⟩ := h
  obtain ⟨⟨hq1, hq2, hqi⟩, -, hlit⟩ := hs.2 k hk
  obtain ⟨⟨hp6, hpi⟩, hr, h4, h5⟩ := hlit j hj
  have hz6 : zc B0 k ≤ 6 := by
    have := hMI.a27 k
    rw [hMF.a (q := 27) (by decide)] at this
    show (ai B0 21 27 k).toNat ≤ 6
    omega
  have ep : pa A 12 (Qc A0 k) j = Pl A0 k j := hRS.epa 12 _ j
  have epl := hd2 k j hk hj
  have h28 := hMI.a28 (6 * k + j)
  have h29 := hMI.a29 (6 * k + j)
  have e28 : ai B 21 28 (6 * k + j) = ai B0 21 28 (6 * k + j) := hMF.a (q := 28) (by decide) _
  have er : iv A 14 0 (Pl A0 k j) = ai B 21 28 (6 * k + j) := by
    rw [hRS.2 14 0 _ (by decide) (by decide) (by decide) (by decide), hr, e28]
  have e4 : jv A 14 4 (Pl A0 k j) = bset (mth B) 40 := by rw [hRS.ejv, h4, mth_MF hMF]
  have e5 : jv A 14 5 (Pl A0 k j) = bset (mtt B (ai B 21 28 (6 * k + j)).toNat) 40 := by rw [hRS.ejv, h5, mtt_MF hMF, e28]
  have e1 : lsk (Qc A0 k) j w A = ((iv (litSk A (Pl A0 k j) w) 14 2 (Pl A0 k j)).toNat, litSk A (Pl A0 k j) w) := by
    unfold lsk
    rw [ep]
  rw [e1]
  by_cases q : (w : Int) ≤ ai B 21 29 (6 * k + j)
  · have ea : litSk A (Pl A0 k j) w = A := if_pos (by rw [epl]; exact q)
    have eb : mlsk k j w B = ((ai B 21 29 (6 * k + j)).toNat, B) := by
      unfold mlsk
      rw [show mlitSk B (6 * k + j) w = B from if_pos q]
    rw [ea, eb]
    exact ⟨by show (iv A 14 2 _).toNat = _; rw [epl], ⟨hRS, hRI⟩, ⟨hMF, hMI⟩, hd1, hd2, hd3⟩
  · have hp30 : Pl A0 k j / 30 = 1 := by omega
    have eq : fsT (jv A 14 5 (Pl A0 k j)) w = mfs B (ai B 21 28 (6 * k + j)).toNat w := by
      rw [e5, fsT_bset _ hw]
      rfl
    have hqb := mfs_b (S := B) (c := (ai B 21 28 (6 * k + j)).toNat) hw
    have ec : litCost A (Pl A0 k j) w (mfs B (ai B 21 28 (6 * k + j)).toNat w) = mlc B (ai B 21 28 (6 * k + j)).toNat w (mfs B (ai B 21 28 (6 * k + j)).toNat w) := by
      unfold litCost mlc
      rw [er, e4, pop_cost (mth B) hqb.1 hqb.2]
      split <;> split <;> first | rfl | (exfalso; omega)
    have ea : litSk A (Pl A0 k j) w = si (si A 14 2 (Pl A0 k j) ((mfs B (ai B 21 28 (6 * k + j)).toNat w : Nat) : Int)) 7 0 1 (iv A 7 0 1 + mlc B (ai B 21 28 (6 * k + j)).toNat w (mfs B (ai B 21 28 (6 * k + j)).toNat w)) := by
      unfold litSk
      rw [if_neg (by rw [epl]; exact q), eq, ec, hp30]
    have eb : mlitSk B (6 * k + j) w = sa (si B 20 33 0 (iv B 20 33 0 + mlc B (ai B 21 28 (6 * k + j)).toNat w (mfs B (ai B 21 28 (6 * k + j)).toNat w))) 21 29 (6 * k + j) ((mfs B (ai B 21 28 (6 * k + j)).toNat w : Nat) : Int) := if_neg q
    have hRS2 := hRS.tr (litSk_RS A (Pl A0 k j) w)
    have hRI2 := litSk_RI hRI (Pl A0 k j) hw
    have hMF2 := hMF.tr ((mlitSk_MF B (6 * k + j) w).up (l' := [29, 30]) (m' := [33]) (by decide) (by decide))
    have hMI2 := mlitSk_MI hMI (6 * k + j) hw
    unfold mlsk
    rw [ea] at hRS2 hRI2 ⊢
    rw [eb] at hMF2 hMI2 ⊢
    generalize mfs B (ai B 21 28 (6 * k + j)).toNat w = x at *
    generalize mlc B (ai B 21 28 (6 * k + j)).toNat w x = v at *
    refine ⟨?_, ⟨hRS2, hRI2⟩, ⟨hMF2, hMI2⟩, ?_, ?_, ?_⟩
    · show (iv (si (si A 14 2 (Pl A0 k j) (x : Int)) 7 0 1 _) 14 2 (Pl A0 k j)).toNat = _
      rw [sa_at]
      simp [iv, si, up3]
    · show iv (si _ 7 0 1 (iv A 7 0 1 + v)) 7 0 1 = iv B 20 33 0 + v
      rw [← hd1]
      simp [iv, si, up3]
    · intro k' j' hk' hj'
      have hz6' : zc B0 k' ≤ 6 := by
        have := hMI.a27 k'
        rw [hMF.a (q := 27) (by decide)] at this
        show (ai B0 21 27 k').toNat ≤ 6
        omega
      have hd := hd2 k' j' hk' hj'
      obtain ⟨⟨-, -, hqi'⟩, -, hlit'⟩ := hs.2 k' hk'
      obtain ⟨⟨hp6', hpi'⟩, -⟩ := hlit' j' hj'
      by_cases z : k' = k ∧ j' = j
      · obtain ⟨rfl, rfl⟩ := z
        show iv (si (si A 14 2 (Pl A0 k' j') (x : Int)) 7 0 1 _) 14 2 (Pl A0 k' j') = ai (sa _ 21 29 _ _) 21 29 _
        rw [sa_at]
        simp [iv, si, up3]
      · have hne : ¬ Pl A0 k' j' = Pl A0 k j := fun e => by
          have e6 : Qc A0 k' = Qc A0 k := by rw [← hp6', ← hp6, e]
          have ek : k' = k := hqi' k hk e6
          subst ek
          exact z ⟨rfl, hpi' j hj e⟩
        show iv (si (si A 14 2 (Pl A0 k j) (x : Int)) 7 0 1 _) 14 2 (Pl A0 k' j') = ai (sa _ 21 29 _ _) 21 29 _
        rw [sa_nj _ _ _ _ (by omega)]
        have e : iv (si (si A 14 2 (Pl A0 k j) (x : Int)) 7 0 1 (iv A 7 0 1 + v)) 14 2 (Pl A0 k' j') = iv A 14 2 (Pl A0 k' j') := by
          show (if 14 = 7 ∧ 2 = 0 ∧ Pl A0 k' j' = 1 then iv A 7 0 1 + v else if 14 = 14 ∧ 2 = 2 ∧ Pl A0 k' j' = Pl A0 k j then (x : Int) else iv A 14 2 (Pl A0 k' j')) = _
          rw [if_neg (by omega), if_neg (fun z => hne z.2.2)]
        rw [e, hd]
        rfl
    · intro k' hk'
      show iv A 11 7 (Qc A0 k') = ai B 21 30 k'
      exact hd3 k' hk'
theorem gAnyC_min {S s : ST} {cl w : Nat} (hw : w ≤ 40) (h : MI s ∧ MF (kq [29]) (kq [33]) S s) : ∀ i, (((gAnyA (mlsk cl) w i s).1 : Nat) : Int) = leastF (mplC cl (gAnyA (mlsk cl) w i s).2) 40 i
  | 0 => rfl
  | i + 1 => by
    have ih := gAnyC_min (cl := cl) hw h i
    obtain ⟨a, -⟩ := gAnyC_pl (cl := cl) hw h i
    obtain ⟨-, c2, c3, c4⟩ := mlsk_ok (cl := cl) (j := i) hw a
    have e : leastF (mplC cl (gAnyA (mlsk cl) w (i + 1) s).2) 40 i = leastF (mplC cl (gAnyA (mlsk cl) w i s).2) 40 i := leastF_congr i (fun j hj => by
      show ai (mlitSk (gAnyA (mlsk cl) w i s).2 (6 * cl + i) w) 21 29 (6 * cl + j) = _
      rw [mlitSk_ne _ _ (by omega)]
      rfl)
    show (((min (gAnyA (mlsk cl) w i s).1 (mlsk cl i w (gAnyA (mlsk cl) w i s).2).1) : Nat) : Int) = min (leastF (mplC cl (gAnyA (mlsk cl) w (i + 1) s).2) 40 i) (ai (mlsk cl i w (gAnyA (mlsk cl) w i s).2).2 21 29 (6 * cl + i))
    rw [e, c4, ← ih]
    omega
theorem gAnyP_min {S s : ST} {w : Nat} (hw : w < 40) (h : PIn S s) : ∀ i, i ≤ 5 → (((gAnyA mpsk w i s).1 : Nat) : Int) = leastF (mplP (gAnyA mpsk w i s).2) 40 i
  | 0, _ => rfl
  | i + 1, hi => by
    have ih := gAnyP_min hw h i (by omega)
    obtain ⟨a, -⟩ := gAnyP_pl hw h i (by omega)
    obtain ⟨-, c2, c3, c4⟩ := mpsk_ok (j := i) (by omega) hw a
    have e : leastF (mplP (gAnyA mpsk w (i + 1) s).2) 40 i = leastF (mplP (gAnyA mpsk w i s).2) 40 i := leastF_congr i (fun j hj => by
      show ai (mclSk i w (gAnyA mpsk w i s).2) 21 30 j = _
      rw [mclSk_ne (by omega) hw a.1.1 a.2 (by omega)]
      rfl)
    show (((min (gAnyA mpsk w i s).1 (mpsk i w (gAnyA mpsk w i s).2).1) : Nat) : Int) = min (leastF (mplP (gAnyA mpsk w (i + 1) s).2) 40 i) (ai (mpsk i w (gAnyA mpsk w i s).2).2 21 30 i)
    rw [e, c4, ← ih]
    omega
theorem DY.pIn {A0 B0 A B : ST} (hr : RN B0) (h : DY A0 B0 A B) : PIn B0 B := ⟨⟨h.2.1.2, h.2.1.1⟩, hr.of h.2.1.1⟩
theorem sim_grpC {A0 B0 A B : ST} (hs : SR A0 B0) (h : DY A0 B0 A B) {k w : Nat} (hk : k < nR B0) (hw : w < 40) : (grpSk 11 (lsk (Qc A0 k)) (plC (Qc A0 k)) (Qc A0 k) w A).1 = (mcG k w B).1 ∧ DY A0 B0 (grpSk 11 (lsk (Qc A0 k)) (plC (Qc A0 k)) (Qc A0 k) w A).2 (mcG k w B).2 := by
  obtain ⟨⟨hRS, hRI⟩, ⟨hMF, hMI⟩, hd⟩ := id h
  obtain ⟨-, ⟨hk1, hk2, hk3, hk4⟩, hlit⟩ := hs.2 k hk
  have h25 := hMI.a25 k
  have e25 : ai B 21 25 k = ai B0 21 25 k := hMF.a (q := 25) (by decide) _
  have e26 : ai B 21 26 k = ai B0 21 26 k := hMF.a (q := 26) (by decide) _
  have e27 : ai B 21 27 k = ai B0 21 27 k := hMF.a (q := 27) (by decide) _
  have f1 : iv A 11 1 (Qc A0 k) = ai B0 21 25 k := by rw [hRS.2 11 1 _ (by decide) (by decide) (by decide) (by decide), hk1]
  have f2 : iv A 11 2 (Qc A0 k) = iv A0 11 2 (Qc A0 k) := hRS.2 11 2 _ (by decide) (by decide) (by decide) (by decide)
  have f3 : iv A 11 3 (Qc A0 k) = ai B0 21 27 k := by rw [hRS.2 11 3 _ (by decide) (by decide) (by decide) (by decide), hk4]
  have hstep : ∀ j w s t, j < zc B0 k → w < 40 → DY A0 B0 s t → (lsk (Qc A0 k) j w s).1 = (mlsk k j w t).1 ∧ DY A0 B0 (lsk (Qc A0 k) j w s).2 (mlsk k j w t).2 := fun j w s t hj hw hr => sim_lit hs hr hk hj (by omega)
  have hpls : ∀ s t, DY A0 B0 s t → ∀ j, j < zc B0 k → plC (Qc A0 k) s j = mplC k t j := fun s t hr j hj => by
    show iv s 14 2 (pa s 12 (Qc A0 k) j) = ai t 21 29 (6 * k + j)
    rw [hr.1.1.epa]
    exact hr.2.2.2.1 k j hk hj
  have hMFs : ∀ t, MF (kq [29]) (kq [33]) t t := fun t => MF.rf _ _ t
  unfold grpSk mcG mgrp
  rw [f1, f3, e25, e26, e27]
  by_cases c0 : ai B0 21 25 k = 0
  · rw [if_pos c0, if_pos c0]
    exact gAll_rel (R := DY A0 B0) hstep 1000 w 0 A B hw h
  · rw [if_neg c0, if_neg c0]
    by_cases c1 : ai B0 21 25 k = 1
    · rw [if_pos c1, if_pos c1]
      obtain ⟨a, b⟩ := gAnyA_rel (R := DY A0 B0) (n := zc B0 k) (fun j s t hj hr => hstep j w s t hj hw hr) (zc B0 k) A B (Nat.le_refl _) h
      refine ⟨?_, b⟩
      rw [a]
      have m := gAnyC_min (S := B) (cl := k) (w := w) (by omega) ⟨hMI, hMFs B⟩ (zc B0 k)
      have pl := gAnyC_pl (S := B) (cl := k) (w := w) (by omega) ⟨hMI, hMFs B⟩ (zc B0 k)
      rw [nth_1 (pl := mplC k (gAnyA (mlsk k) w (zc B0 k) B).2) (n := zc B0 k) (fun j hj => ⟨by have := pl.2 j hj; omega, (pl.1.1.a29 _).2⟩)] at m
      exact Int.ofNat_inj.mp m
    · rw [if_neg c1, if_neg c1, if_pos (show ai B0 21 25 k = 2 by omega)]
      have c2 : ai B0 21 25 k = 2 := by omega
      obtain ⟨n1, n2⟩ := hk3 c2
      rw [f2, n1]
      refine gSome_rel (R := DY A0 B0) hstep (fun w' s t hw' hr => ?_) 40 w A B h
      obtain ⟨-, b⟩ := gAnyA_rel (R := DY A0 B0) (n := zc B0 k) (fun j s t hj hr => hstep j w' s t hj hw' hr) (zc B0 k) s t (Nat.le_refl _) hr
      have pl := gAnyC_pl (S := t) (cl := k) (w := w') (by omega) ⟨hr.2.1.2, hMFs t⟩ (zc B0 k)
      show ndP (plC (Qc A0 k) (gAnyA (lsk (Qc A0 k)) w' (zc B0 k) s).2) (ai B0 21 26 k) (zc B0 k) (zc B0 k) = _
      rw [ndP_congr (hpls _ _ b) _ (Nat.le_refl _)]
      exact nth_eq n2 (fun j hj => ⟨by have := pl.2 j hj; omega, (pl.1.1.a29 _).2⟩)
theorem sim_cl {A0 B0 A B : ST} (hs : SR A0 B0) (hn : RN B0) (h : DY A0 B0 A B) {k w : Nat} (hk : k < nR B0) (hw : w < 40) : (psk 1 k w A).1 = (mpsk k w B).1 ∧ DY A0 B0 (psk 1 k w A).2 (mpsk k w B).2 := by
  have hk5 : k < 5 := by
    have := h.2.1.2.i24
    rw [h.2.1.1.i (q := 24) (by decide)] at this
    have hk' : k < (iv B0 20 24 0).toNat := hk
    omega
  have hP := h.pIn hn
  obtain ⟨g1, g2⟩ := sim_grpC hs h hk hw
  obtain ⟨⟨hRS, hRI⟩, ⟨hMF, hMI⟩, hd1, hd2, hd3⟩ := id h
  have ec : pa A 9 1 k = Qc A0 k := hRS.epa 9 1 k
  have e30 := hd3 k hk
  have h30 := hMI.a30 k
  obtain ⟨⟨hq1, hq2, hqi⟩, -, -⟩ := hs.2 k hk
  unfold psk mpsk
  rw [ec]
  unfold clSk
  rw [e30]
  by_cases q : (w : Int) ≤ ai B 21 30 k
  · rw [if_pos q, show mclSk k w B = B from if_pos q]
    exact ⟨rfl, h⟩
  · rw [if_neg q, show mclSk k w B = sa (mcG k w B).2 21 30 k (((mcG k w B).1 : Nat) : Int) from if_neg q, g1]
    have hb := (mcG_ok (S := B) (s := B) (cl := k) hw ⟨hMI, MF.rf _ _ B⟩ (hP.2 k hk5)).2
    generalize (grpSk 11 (lsk (Qc A0 k)) (plC (Qc A0 k)) (Qc A0 k) w A).2 = A1 at g2 ⊢
    generalize mcG k w B = G at g2 hb ⊢
    obtain ⟨⟨hRS1, hRI1⟩, ⟨hMF1, hMI1⟩, d1, d2, d3⟩ := g2
    refine ⟨?_, ⟨hRS1.tr (RS_117 _ _ _), RI_117 hRI1 _ (by omega)⟩, ⟨hMF1.tr (MF.sa _ 30 _ _ (by decide)), hMI1.pa30 (by omega)⟩, ?_, ?_, ?_⟩
    · show G.1 = (ai (sa G.2 21 30 k ((G.1 : Nat) : Int)) 21 30 k).toNat
      rw [sa_at]
      rfl
    · exact d1
    · intro k' j' hk' hj'
      exact d2 k' j' hk' hj'
    · intro k' hk'
      by_cases z : k' = k
      · subst z
        show iv (si A1 11 7 (Qc A0 k') _) 11 7 (Qc A0 k') = ai (sa G.2 21 30 k' _) 21 30 k'
        rw [sa_at]
        simp [iv, si, up3]
      · have hne : ¬ Qc A0 k' = Qc A0 k := fun e => z ((hs.2 k' hk').1.2.2 k hk e)
        show (if 11 = 11 ∧ 7 = 7 ∧ Qc A0 k' = Qc A0 k then _ else iv A1 11 7 (Qc A0 k')) = ai (sa G.2 21 30 k _) 21 30 k'
        rw [if_neg (fun q => hne q.2.2), sa_nj _ _ _ _ z]
        exact d3 k' hk'
theorem sim_grpP {A0 B0 A B : ST} (hs : SR A0 B0) (hn : RN B0) (h : DY A0 B0 A B) {w : Nat} (hw : w < 40) : (grpSk 8 (psk 1) (plP 1) 1 w A).1 = (mplSk w B).1 ∧ DY A0 B0 (grpSk 8 (psk 1) (plP 1) 1 w A).2 (mplSk w B).2 := by
  obtain ⟨⟨hRS, hRI⟩, ⟨hMF, hMI⟩, hd⟩ := id h
  obtain ⟨⟨hk1, hk3, hk4, hk5⟩, hcl⟩ := hs
  have h22 := hMI.i22
  have h24 := hMI.i24
  have e22 : iv B 20 22 0 = iv B0 20 22 0 := hMF.i (q := 22) (by decide)
  have e23 : iv B 20 23 0 = iv B0 20 23 0 := hMF.i (q := 23) (by decide)
  have e24 : iv B 20 24 0 = iv B0 20 24 0 := hMF.i (q := 24) (by decide)
  have f1 : iv A 8 1 1 = iv B0 20 22 0 := by rw [hRS.2 8 1 _ (by decide) (by decide) (by decide) (by decide), hk1]
  have f2 : iv A 8 2 1 = iv A0 8 2 1 := hRS.2 8 2 _ (by decide) (by decide) (by decide) (by decide)
  have f3 : iv A 8 3 1 = iv B0 20 24 0 := by rw [hRS.2 8 3 _ (by decide) (by decide) (by decide) (by decide), hk4]
  have f4 : jv A 8 4 1 = bset (mth B) 40 := by rw [hRS.ejv, hk5, mth_MF hMF]
  have hn5 : nR B0 ≤ 5 := by show (iv B0 20 24 0).toNat ≤ 5; omega
  have hstep : ∀ j w s t, j < nR B0 → w < 40 → DY A0 B0 s t → (psk 1 j w s).1 = (mpsk j w t).1 ∧ DY A0 B0 (psk 1 j w s).2 (mpsk j w t).2 := fun j w s t hj hw hr => sim_cl ⟨⟨hk1, hk3, hk4, hk5⟩, hcl⟩ hn hr hj hw
  have hpls : ∀ s t, DY A0 B0 s t → ∀ j, j < nR B0 → plP 1 s j = mplP t j := fun s t hr j hj => by
    show iv s 11 7 (pa s 9 1 j) = ai t 21 30 j
    rw [hr.1.1.epa]
    exact hr.2.2.2.2 j hj
  unfold grpSk mplSk mpG mgrp
  rw [f1, f3, f4, e22, e23, e24]
  by_cases c4 : iv B0 20 22 0 = 4
  · rw [if_neg (by omega), if_neg (by omega), if_neg (by omega), if_neg (by omega), if_pos c4]
    exact ⟨rfl, h⟩
  · by_cases c3 : iv B0 20 22 0 = 3
    · rw [if_neg (by omega), if_neg (by omega), if_neg (by omega), if_pos c3, if_neg c4, if_pos c3]
      exact ⟨fsT_bset _ (by omega), h⟩
    · rw [if_neg c4, if_neg c3, if_neg c3]
      by_cases c0 : iv B0 20 22 0 = 0
      · rw [if_pos c0, if_pos c0]
        exact gAll_rel (R := DY A0 B0) hstep 1000 w 0 A B hw h
      · rw [if_neg c0, if_neg c0]
        by_cases c1 : iv B0 20 22 0 = 1
        · rw [if_pos c1, if_pos c1]
          obtain ⟨a, b⟩ := gAnyA_rel (R := DY A0 B0) (n := nR B0) (fun j s t hj hr => hstep j w s t hj hw hr) (nR B0) A B (Nat.le_refl _) h
          refine ⟨?_, b⟩
          rw [a]
          have m := gAnyP_min hw (h.pIn hn) (nR B0) hn5
          have pl := gAnyP_pl hw (h.pIn hn) (nR B0) hn5
          rw [nth_1 (pl := mplP (gAnyA mpsk w (nR B0) B).2) (n := nR B0) (fun j hj => ⟨by have := pl.2 j hj; omega, (pl.1.1.1.a30 _).2⟩)] at m
          exact Int.ofNat_inj.mp m
        · rw [if_neg c1, if_neg c1, if_pos (show iv B0 20 22 0 = 2 by omega)]
          have c2 : iv B0 20 22 0 = 2 := by omega
          obtain ⟨n1, n2⟩ := hk3 c2
          rw [f2, n1]
          refine gSome_rel (R := DY A0 B0) hstep (fun w' s t hw' hr => ?_) 40 w A B h
          obtain ⟨-, b⟩ := gAnyA_rel (R := DY A0 B0) (n := nR B0) (fun j s t hj hr => hstep j w' s t hj hw' hr) (nR B0) s t (Nat.le_refl _) hr
          have pl := gAnyP_pl hw' (hr.pIn hn) (nR B0) hn5
          show ndP (plP 1 (gAnyA (psk 1) w' (nR B0) s).2) (iv B0 20 23 0) (nR B0) (nR B0) = _
          rw [ndP_congr (hpls _ _ b) _ (Nat.le_refl _)]
          exact nth_eq n2 (fun j hj => ⟨by have := pl.2 j hj; omega, (pl.1.1.1.a30 _).2⟩)
/-- the run as a whole -/
def GV (A B : ST) : Prop := iv A 15 3 0 = iv B 20 31 0 ∧ (iv B 20 32 0 = 0 → iv A 8 7 1 = iv B 20 31 0) ∧ (iv B 20 32 0 ≠ 0 → iv A 8 7 1 = 40 ∨ iv B 20 31 0 = 39)
def RR (A B : ST) : Prop := SR A B ∧ DN A B A B ∧ GV A B
/-- cells that a run's fixed part rests on -/
def CS (A A' : ST) : Prop := A'.2.1 = A.2.1 ∧ A'.2.2.2 = A.2.2.2 ∧ ∀ t k y, (t = 8 ∨ t = 11 ∨ t = 14) → ¬ (t = 14 ∧ k = 2) → ¬ (t = 11 ∧ k = 7) → ¬ (t = 8 ∧ k = 7) → iv A' t k y = iv A t k y
theorem RS.cs {A A' : ST} (h : RS A A') : CS A A' := ⟨by rw [h.1], by rw [h.1], fun t k y ht a b c => h.2 t k y a (by omega) b c⟩
theorem CS.epa {A A' : ST} (h : CS A A') (t y j : Nat) : pa A' t y j = pa A t y j := by
  show (A'.2.2.2 t y j).getD 0 = (A.2.2.2 t y j).getD 0
  rw [h.2.1]
theorem SR.of {A A' B B' : ST} (h : SR A B) (hA : CS A A') (hB : MF (kq [29, 30]) (kq [31, 32, 33, 34]) B B') : SR A' B' := by
  have ej : ∀ t k y, jv A' t k y = jv A t k y := fun t k y => by show A'.2.1 t k y = A.2.1 t k y; rw [hA.1]
  have eP : ∀ k j, Pl A' k j = Pl A k j := fun k j => by show pa A' 12 (pa A' 9 1 k) j = pa A 12 (pa A 9 1 k) j; rw [hA.epa, hA.epa]
  have eQ : ∀ k, Qc A' k = Qc A k := fun k => hA.epa 9 1 k
  have ea : ∀ q j, (q = 20 ∨ q = 21 ∨ q = 25 ∨ q = 26 ∨ q = 27 ∨ q = 28) → ai B' 21 q j = ai B 21 q j := fun q j hq => hB.a (by intro z; simp at z; omega) j
  have eb : ∀ q, (q = 22 ∨ q = 23 ∨ q = 24) → iv B' 20 q 0 = iv B 20 q 0 := fun q hq => hB.i (by intro z; simp at z; omega)
  have em : mth B' = mth B := by funext d; show decide (ai B' 21 20 d = 1) = _; rw [ea 20 d (by omega)]; rfl
  have et : ∀ c, mtt B' c = mtt B c := fun c => by funext d; show (mth B' d && litT c (ai B' 21 21 d).toNat) = _; rw [em, ea 21 d (by omega)]; rfl
  obtain ⟨⟨a1, a2, a3, a4⟩, hc⟩ := h
  have en : nR B' = nR B := by show (iv B' 20 24 0).toNat = _; rw [eb 24 (by omega)]
  have ez : ∀ k, zc B' k = zc B k := fun k => by show (ai B' 21 27 k).toNat = _; rw [ea 27 k (by omega)]
  refine ⟨⟨?_, ?_, ?_, ?_⟩, fun k hk => ?_⟩
  · rw [hA.2.2 8 1 1 (by omega) (by omega) (by omega) (by omega), eb 22 (by omega)]; exact a1
  · rw [hA.2.2 8 2 1 (by omega) (by omega) (by omega) (by omega), eb 22 (by omega), eb 23 (by omega)]; exact a2
  · rw [hA.2.2 8 3 1 (by omega) (by omega) (by omega) (by omega), eb 24 (by omega)]; exact a3
  · rw [ej, em]; exact a4
  · rw [en] at hk
    obtain ⟨⟨b1, b2, b3⟩, ⟨b4, b5, b6, b7⟩, b8⟩ := hc k hk
    refine ⟨⟨by rw [eQ]; exact b1, by rw [eQ]; exact b2, fun k' hk' => by rw [eQ, eQ]; rw [en] at hk'; exact b3 k' hk'⟩, ⟨?_, ?_, ?_, ?_⟩, fun j hj => ?_⟩
    · rw [eQ, hA.2.2 11 1 _ (by omega) (by omega) (by omega) (by omega), ea 25 k (by omega)]; exact b4
    · rw [ea 25 k (by omega)]; exact b5
    · rw [eQ, hA.2.2 11 2 _ (by omega) (by omega) (by omega) (by omega), ea 25 k (by omega), ea 26 k (by omega)]; exact b6
    · rw [eQ, hA.2.2 11 3 _ (by omega) (by omega) (by omega) (by omega), ea 27 k (by omega)]; exact b7
    · rw [ez] at hj
      obtain ⟨⟨c1, c2⟩, c3, c4, c5⟩ := b8 j hj
      refine ⟨⟨by rw [eP, eQ]; exact c1, fun j' hj' => by rw [eP, eP]; rw [ez] at hj'; exact c2 j' hj'⟩, ?_, ?_, ?_⟩
      · rw [eP, hA.2.2 14 0 _ (by omega) (by omega) (by omega) (by omega), ea 28 _ (by omega)]; exact c3
      · rw [eP, ej, em]; exact c4
      · rw [eP, ej, ea 28 _ (by omega), et]; exact c5
/-- where the fixed part stays, what moves may be told from where it is -/
theorem DN.at {A0 B0 A B A' B' : ST} (h : DN A0 B0 A B) (e7 : iv A' 7 0 1 = iv A 7 0 1) (e14 : ∀ y, iv A' 14 2 y = iv A 14 2 y) (e11 : ∀ y, iv A' 11 7 y = iv A 11 7 y) (eP : ∀ t y j, pa A' t y j = pa A0 t y j) (f33 : iv B' 20 33 0 = iv B 20 33 0) (f24 : iv B' 20 24 0 = iv B0 20 24 0) (f27 : ∀ k, ai B' 21 27 k = ai B0 21 27 k) (f29 : ∀ j, ai B' 21 29 j = ai B 21 29 j) (f30 : ∀ j, ai B' 21 30 j = ai B 21 30 j) : DN A' B' A' B' := by
  obtain ⟨a, b, c⟩ := h
  refine ⟨by rw [e7, f33]; exact a, fun k j hk hj => ?_, fun k hk => ?_⟩
  · have hk' : k < nR B0 := by show k < (iv B0 20 24 0).toNat; rw [← f24]; exact hk
    have hj' : j < zc B0 k := by show j < (ai B0 21 27 k).toNat; rw [← f27]; exact hj
    have eq : Pl A' k j = Pl A0 k j := by show pa A' 12 (pa A' 9 1 k) j = pa A0 12 (pa A0 9 1 k) j; rw [eP, eP]
    rw [eq, e14, f29]
    exact b k j hk' hj'
  · have hk' : k < nR B0 := by show k < (iv B0 20 24 0).toNat; rw [← f24]; exact hk
    have eq : Qc A' k = Qc A0 k := eP 9 1 k
    rw [eq, e11, f30]
    exact c k hk'
theorem sim_adv {A B : ST} {d : Int} (hd : 0 ≤ d ∧ d < 40) (hA : RI A) (hB : MI B) (hK : RK B) (h : RR A B) : (advF d A).1 = (mlpF d B).1 ∧ RR (advF d A).2 (mlpF d B).2 ∧ RI (advF d A).2 ∧ MI (mlpF d B).2 := by
  obtain ⟨hs, hdn, hg, hg0, hg1⟩ := id h
  have h31 := hB.i31
  have h32 := hB.i32
  have hDY : DY A B A B := ⟨⟨RS.rf A, hA⟩, ⟨MF.rf _ _ B, hB⟩, hdn⟩
  have eW : max d (iv A 15 3 0 + 1) = ((mlpW d B : Nat) : Int) := by
    unfold mlpW
    rw [hg]
    split <;> omega
  have hWd : iv B 20 31 0 + 1 ≤ ((mlpW d B : Nat) : Int) := by rw [← eW, hg]; omega
  have over : ∀ (r : Nat × ST), mlpR d B = r → r.1 = 40 → mlpF d B = (-1, si (si r.2 20 32 0 1) 20 31 0 (iv r.2 20 31 0)) := fun r e q => by
    unfold mlpF
    rw [e, if_pos q]
  have idle : mlpR d B = (40, B) → (iv A 8 7 1 = 40 ∨ iv B 20 31 0 = 39) → RR A (mlpF d B).2 ∧ (mlpF d B).1 = -1 ∧ MI (mlpF d B).2 := fun e q => by
    rw [over _ e rfl]
    have hmf : MF (kq []) (kq [31, 32]) B (si (si B 20 32 0 1) 20 31 0 (iv B 20 31 0)) := (MF.si B 32 _ (by decide)).tr (MF.si _ 31 _ (by decide))
    refine ⟨⟨hs.of ⟨rfl, rfl, fun _ _ _ _ _ _ _ => rfl⟩ (hmf.up (by decide) (by decide)), hdn.at rfl (fun _ => rfl) (fun _ => rfl) (fun _ _ _ => rfl) rfl rfl (fun _ => rfl) (fun _ => rfl) (fun _ => rfl), hg, fun z => ?_, fun _ => q⟩, rfl, (hB.pi32 (by decide)).pi31 h31⟩
    exact absurd (show (1 : Int) = 0 from z) (by decide)
  unfold advF
  rw [eW]
  by_cases c1 : 40 ≤ mlpW d B
  · rw [if_pos (by omega)]
    have e : mlpR d B = (40, B) := if_pos (Or.inr c1)
    have g39 : iv B 20 31 0 = 39 := by
      have : mlpW d B = (if iv B 20 31 0 < d then d else iv B 20 31 0 + 1).toNat := rfl
      rw [this] at c1
      split at c1 <;> omega
    obtain ⟨i1, i2, i3⟩ := idle e (Or.inr g39)
    exact ⟨i2.symm, i1, hA, i3⟩
  · rw [if_neg (by omega), show (((mlpW d B : Nat) : Int)).toNat = mlpW d B from rfl]
    by_cases c2 : iv B 20 32 0 = 0
    · have hp := hg0 c2
      have e : mlpR d B = mplSk (mlpW d B) B := if_neg (by omega)
      obtain ⟨g1, g2⟩ := sim_grpP hs hK.1 hDY (w := mlpW d B) (by omega)
      have hok := mplSk_ok (d := mlpW d B) (by omega) hB hK
      have eP : plSk 1 (mlpW d B) A = ((mplSk (mlpW d B) B).1, si (grpSk 8 (psk 1) (plP 1) 1 (mlpW d B) A).2 8 7 1 (((mplSk (mlpW d B) B).1 : Nat) : Int)) := by
        unfold plSk
        rw [if_neg (by omega), g1]
      rw [eP]
      unfold mlpF
      rw [e]
      generalize (grpSk 8 (psk 1) (plP 1) 1 (mlpW d B) A).2 = A1 at g2 ⊢
      generalize mplSk (mlpW d B) B = G at g2 hok ⊢
      obtain ⟨⟨hRS1, hRI1⟩, ⟨hMF1, hMI1⟩, hdn1⟩ := g2
      have e31 : iv G.2 20 31 0 = iv B 20 31 0 := hMF1.i (q := 31) (by decide)
      dsimp only
      by_cases c3 : G.1 = 40
      · rw [if_pos (by omega), if_pos c3, c3]
        refine ⟨rfl, ⟨hs.of (hRS1.tr (RS_87 _ _ _)).cs ((hMF1.up (by decide) (by decide)).tr ((MF.si _ 32 _ (by decide)).tr (MF.si _ 31 _ (by decide)))), ?_, ?_, fun z => ?_, fun _ => Or.inl ?_⟩, RI_87 hRI1 _ (by omega), (hMI1.pi32 (by decide)).pi31 hMI1.i31⟩
        · exact hdn1.at rfl (fun _ => rfl) (fun _ => rfl) (fun t y j => by show pa A1 t y j = pa A t y j; exact hRS1.epa t y j) rfl (hMF1.i (q := 24) (by decide)) (fun k => hMF1.a (q := 27) (by decide) k) (fun _ => rfl) (fun _ => rfl)
        · show iv A1 15 3 0 = iv G.2 20 31 0
          rw [hRS1.2 15 3 0 (by decide) (by decide) (by decide) (by decide), e31]
          exact hg
        · exact absurd (show (1 : Int) = 0 from z) (by decide)
        · simp [iv, si, up3]
      · rw [if_neg (by omega), if_neg c3]
        refine ⟨rfl, ⟨hs.of ?_ ((hMF1.up (by decide) (by decide)).tr ((MF.si _ 32 _ (by decide)).tr (MF.si _ 31 _ (by decide)))), ?_, ?_, fun z => ?_, fun z => ?_⟩, ?_, (hMI1.pi32 (by decide)).pi31 (by omega)⟩
        · have hc := (hRS1.tr (RS_87 _ 1 (((G.1 : Nat)) : Int))).cs
          refine ⟨hc.1, hc.2.1, fun t k y ht a b c => ?_⟩
          show (if t = 15 ∧ k = 3 ∧ y = 0 then _ else iv (si A1 8 7 1 _) t k y) = iv A t k y
          rw [if_neg (by omega)]
          exact hc.2.2 t k y ht a b c
        · exact hdn1.at rfl (fun _ => rfl) (fun _ => rfl) (fun t y j => by show pa A1 t y j = pa A t y j; exact hRS1.epa t y j) rfl (hMF1.i (q := 24) (by decide)) (fun k => hMF1.a (q := 27) (by decide) k) (fun _ => rfl) (fun _ => rfl)
        · simp [iv, si, up3]
        · simp [iv, si, up3]
        · exact absurd (show (0 : Int) = 0 from rfl) z
        · have := RI_87 hRI1 1 (v := ((G.1 : Nat) : Int)) (by omega)
          exact ⟨fun p hp => this.1 p hp, fun x hx => this.2.1 x hx, fun x hx => this.2.2 x hx⟩
    · have hp := hg1 c2
      have e : mlpR d B = (40, B) := if_pos (Or.inl c2)
      have hp2 : iv A 8 7 1 = 40 := by
        rcases hp with hp | hp
        · exact hp
        · omega
      have eP : plSk 1 (mlpW d B) A = (40, A) := by
        unfold plSk
        rw [if_pos (by omega), hp2]
        rfl
      rw [eP, if_pos (Nat.le_refl 40)]
      obtain ⟨i1, i2, i3⟩ := idle e (Or.inl hp2)
      exact ⟨i2.symm, i1, hA, i3⟩
