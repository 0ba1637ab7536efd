/-- what a change outside of P (numbers) and Q (parts) leaves as it was -/
def FM (P Q : Nat → Nat → Prop) (S S' : ST) : Prop := S'.2.2.1 = S.2.2.1 ∧ (∀ t k y, ¬ P t y → iv S' t k y = iv S t k y ∧ jv S' t k y = jv S t k y) ∧ (∀ t y j, ¬ Q t y → ar S' t y j = ar S t y j)
theorem FM.rf (P Q : Nat → Nat → Prop) (S : ST) : FM P Q S S := ⟨rfl, fun _ _ _ _ => ⟨rfl, rfl⟩, fun _ _ _ _ => rfl⟩
theorem FM.tr {P Q : Nat → Nat → Prop} {A B C : ST} (h : FM P Q A B) (g : FM P Q B C) : FM P Q A C := ⟨g.1.trans h.1, fun t k y a => ⟨(g.2.1 t k y a).1.trans (h.2.1 t k y a).1, (g.2.1 t k y a).2.trans (h.2.1 t k y a).2⟩, fun t y j a => (g.2.2 t y j a).trans (h.2.2 t y j a)⟩
theorem FM.mono {P Q P' Q' : Nat → Nat → Prop} {A B : ST} (h : FM P Q A B) (hp : ∀ t y, P t y → P' t y) (hq : ∀ t y, Q t y → Q' t y) : FM P' Q' A B := ⟨h.1, fun t k y a => h.2.1 t k y (fun b => a (hp t y b)), fun t y j a => h.2.2 t y j (fun b => a (hq t y b))⟩
theorem FM_si {P Q : Nat → Nat → Prop} (S : ST) (t k y : Nat) (v : Int) (h : P t y) : FM P Q S (si S t k y v) := ⟨rfl, fun t' k' y' a => ⟨by
  show (if t' = t ∧ k' = k ∧ y' = y then v else iv S t' k' y') = iv S t' k' y'
  rw [if_neg]
  rintro ⟨rfl, -, rfl⟩
  exact a h, rfl⟩, fun _ _ _ _ => rfl⟩
theorem FM_sj {P Q : Nat → Nat → Prop} (S : ST) (t k y : Nat) (v : Nat) (h : P t y) : FM P Q S (sj S t k y v) := ⟨rfl, fun t' k' y' a => ⟨rfl, by
  show (if t' = t ∧ k' = k ∧ y' = y then v else jv S t' k' y') = jv S t' k' y'
  rw [if_neg]
  rintro ⟨rfl, -, rfl⟩
  exact a h⟩, fun _ _ _ _ => rfl⟩
theorem FM_sar {P Q : Nat → Nat → Prop} (S : ST) (t y : Nat) (A : Nat → Option Nat) (h : Q t y) : FM P Q S (sar S t y A) := ⟨rfl, fun _ _ _ _ => ⟨rfl, rfl⟩, fun t' y' j a => by
  show (if t' = t ∧ y' = y then A j else ar S t' y' j) = ar S t' y' j
  rw [if_neg]
  rintro ⟨rfl, rfl⟩
  exact a h⟩
/-- one planned clause alone -/
def PC (c t y : Nat) : Prop := (t = 11 ∧ y = c) ∨ (t = 14 ∧ y / 6 = c)
def QC (c t y : Nat) : Prop := t = 12 ∧ y = c
/-- a plan's own row alone -/
def PT (r t y : Nat) : Prop := t = 8 ∧ y = r
def QT (r t y : Nat) : Prop := t = 9 ∧ y = r
def PR (r t y : Nat) : Prop := (t = 8 ∧ y = r) ∨ (t = 11 ∧ y / 5 = r) ∨ (t = 14 ∧ y / 30 = r)
def QR (r t y : Nat) : Prop := (t = 9 ∧ y = r) ∨ (t = 12 ∧ y / 5 = r)
theorem FM.fr {r : Nat} {S S' : ST} (h : FM (PR r) (QR r) S S') : FR r S S' := ⟨h.1, fun t k y a b c => h.2.1 t k y (fun q => q.elim a (fun q => q.elim b c)), fun t y j a b => h.2.2 t y j (fun q => q.elim a b)⟩
theorem FM.fc {c : Nat} {S S' : ST} (h : FM (PC c) (QC c) S S') : FM (PR (c / 5)) (QR (c / 5)) S S' := h.mono (fun t y q => by
  rcases q with ⟨rfl, rfl⟩ | ⟨rfl, q⟩
  · exact Or.inr (Or.inl ⟨rfl, rfl⟩)
  · exact Or.inr (Or.inr ⟨rfl, by omega⟩)) (fun t y q => by
  obtain ⟨rfl, rfl⟩ := q
  exact Or.inr ⟨rfl, rfl⟩)
theorem FM.ft {r : Nat} {S S' : ST} (h : FM (PT r) (QT r) S S') : FM (PR r) (QR r) S S' := h.mono (fun t y q => Or.inl q) (fun t y q => Or.inl q)
theorem setKS_FM {P Q : Nat → Nat → Prop} {S : ST} {t y : Nat} {k z : Int} (h : P t y) : FM P Q S (setKS S t y k z) := (FM_si S t 1 y k h).tr (FM_si _ t 3 y z h)
theorem keepF_FM {P Q : Nat → Nat → Prop} {S : ST} {t a y p : Nat} (h : P t y) (g : Q a y) : FM P Q S (keepF S t a y p) := by
  unfold keepF
  split
  · rw [sr_eq]
    exact (FM_sar S a y _ g).tr (FM_si _ t 3 y _ h)
  · exact FM.rf P Q S
theorem restartF_FM {P Q : Nat → Nat → Prop} {S : ST} {t y : Nat} {kd nd : Int} {B : Nat} (h : P t y) : FM P Q S (restartF S t y kd nd B) :=
  ((((FM_si S t 1 y kd h).tr (FM_si _ t 2 y nd h)).tr (FM_si _ t 3 y 0 h)).tr (FM_sj _ t 4 y B h)).tr (FM_si _ t 7 y (-1) h)
theorem settleSomeF_FM {P Q : Nat → Nat → Prop} {S : ST} {t y : Nat} {cn : Int} (h : P t y) : FM P Q S (settleSomeF S t y cn) := by
  unfold settleSomeF
  split
  · exact setKS_FM h
  · exact FM.rf P Q S
theorem settleEmptyF_FM {P Q : Nat → Nat → Prop} {S : ST} {t y : Nat} (h : P t y) : FM P Q S (settleEmptyF S t y) := by
  unfold settleEmptyF
  split
  · exact setKS_FM h
  · split
    · exact setKS_FM h
    · exact FM.rf P Q S
theorem turnF_FM {P Q : Nat → Nat → Prop} {S : ST} {y : Nat} {cn : Int} (h : P 11 y) : FM P Q S (turnF S y cn) := by
  unfold turnF
  split
  · exact FM_si S 11 2 y _ h
  · exact FM_si S 11 1 y _ h
theorem LmakeF_FM {P Q : Nat → Nat → Prop} {S : ST} {p : Nat} {cd : Int} {Tb B : Nat} (h : P 14 p) : FM P Q S (LmakeF S p cd Tb B) :=
  ((((FM_sj S 14 4 p B h).tr (FM_sj _ 14 5 p Tb h)).tr (FM_si _ 14 0 p cd h)).tr (FM_si _ 14 1 p _ h)).tr (FM_si _ 14 2 p _ h)
theorem klF_FM {S : ST} {y k B : Nat} : ∀ i, i ≤ 6 → FM (PC y) (QC y) S (klF y k B i S)
  | 0, _ => FM.rf _ _ S
  | i + 1, hi => by
    have g := klF_FM (S := S) (y := y) (k := k) (B := B) i (by omega)
    unfold klF
    split
    · exact (g.tr (LmakeF_FM (Or.inr ⟨rfl, by omega⟩))).tr (keepF_FM (Or.inl ⟨rfl, rfl⟩) ⟨rfl, rfl⟩)
    · exact g
theorem keepLitsF_FM {S : ST} {y k B : Nat} (hz : iv S 5 4 k ≤ 6) : FM (PC y) (QC y) S (keepLitsF S y k B) := by
  unfold keepLitsF
  split
  · exact FM.rf _ _ S
  · exact klF_FM _ (by omega)
theorem settleConF_FM {P Q : Nat → Nat → Prop} {S : ST} {y : Nat} (h : P 11 y) : FM P Q S (settleConF S y) := by
  unfold settleConF
  split
  · split
    · exact setKS_FM h
    · exact FM.rf P Q S
  · exact FM.rf P Q S
theorem appraiseC_FM {P Q : Nat → Nat → Prop} {S : ST} {y : Nat} (h : P 11 y) : FM P Q S (appraiseC S y) := FM_si S 11 6 y _ h
theorem appraiseP_FM {P Q : Nat → Nat → Prop} {S : ST} {y : Nat} (h : P 8 y) : FM P Q S (appraiseP S y) := FM_si S 8 6 y _ h
theorem orderC_FM {P Q : Nat → Nat → Prop} {S : ST} {y : Nat} (h : Q 12 y) : FM P Q S (orderC S y) := by
  unfold orderC
  split
  · exact FM_sar S 12 y _ h
  · exact FM.rf P Q S
theorem orderP_FM {P Q : Nat → Nat → Prop} {S : ST} {y : Nat} (h : Q 9 y) : FM P Q S (orderP S y) := by
  unfold orderP
  split
  · exact FM_sar S 9 y _ h
  · exact FM.rf P Q S
theorem takeF_FM {S : ST} {y c : Nat} : FM (PT y) (QT y) S (takeF S y c) := by
  unfold takeF
  split
  · exact keepF_FM ⟨rfl, rfl⟩ ⟨rfl, rfl⟩
  · split
    · exact FM_si S 8 2 y _ ⟨rfl, rfl⟩
    · split
      · exact setKS_FM ⟨rfl, rfl⟩
      · split
        · exact setKS_FM ⟨rfl, rfl⟩
        · exact FM.rf _ _ S
theorem cmkF_ok {S : ST} {y k B : Nat} (hy : y < 10) (hk : k < 5) (hB : B < 2 ^ 40) (hR : RI S) (hQ : IQ S) : RI (cmkF y k B S) ∧ FM (PC y) (QC y) S (cmkF y k B S) := by
  obtain ⟨hq1, hq2, hq3, hq4, hq5⟩ := hQ.2.2.2 k hk
  have h11 : PC y 11 y := Or.inl ⟨rfl, rfl⟩
  have r1 : RI (restartF S 11 y (iv S 5 1 k) (iv S 5 2 k) B) := restartF_RI (Or.inl rfl) hR (by omega) (by omega) hB
  have f1 : FM (PC y) (QC y) S (restartF S 11 y (iv S 5 1 k) (iv S 5 2 k) B) := restartF_FM h11
  have n1 : iv (restartF S 11 y (iv S 5 1 k) (iv S 5 2 k) B) 11 2 y = iv S 5 2 k := by simp [restartF, iv, si, sj, up3]
  unfold cmkF
  dsimp only
  generalize restartF S 11 y (iv S 5 1 k) (iv S 5 2 k) B = S1 at r1 f1 n1 ⊢
  have r2 : RI (if iv S 5 3 k = 1 then turnF S1 y (iv S 5 4 k) else S1) := by
    split
    · exact turnF_RI r1 (fun _ => by omega)
    · exact r1
  have f2 : FM (PC y) (QC y) S (if iv S 5 3 k = 1 then turnF S1 y (iv S 5 4 k) else S1) := by
    split
    · exact f1.tr (turnF_FM h11)
    · exact f1
  generalize (if iv S 5 3 k = 1 then turnF S1 y (iv S 5 4 k) else S1) = S2 at r2 f2 ⊢
  have r3 : RI (settleSomeF S2 11 y (iv S 5 4 k)) := settleSomeF_RI (Or.inl ⟨rfl, hy⟩) r2
  have f3 : FM (PC y) (QC y) S (settleSomeF S2 11 y (iv S 5 4 k)) := f2.tr (settleSomeF_FM h11)
  generalize settleSomeF S2 11 y (iv S 5 4 k) = S3 at r3 f3 ⊢
  have e3 := (f3.2.1 5 4 k (by unfold PC; omega)).1
  have r4 := (keepLitsF_ok (r := y / 5) hy rfl hk hB r3 (f3.fc.fr.iq hQ)).1
  have f4 := f3.tr (keepLitsF_FM (S := S3) (y := y) (k := k) (B := B) (by omega))
  generalize keepLitsF S3 y k B = S4 at r4 f4 ⊢
  have r5 := (settleConF_ok (r := y / 5) hy rfl r4).1
  have f5 := f4.tr (settleConF_FM (Q := QC y) (S := S4) h11)
  generalize settleConF S4 y = S5 at r5 f5 ⊢
  have r6 : RI (settleEmptyF S5 11 y) := settleEmptyF_RI (Or.inl ⟨rfl, hy⟩) r5
  have f6 := f5.tr (settleEmptyF_FM (Q := QC y) (S := S5) h11)
  generalize settleEmptyF S5 11 y = S6 at r6 f6 ⊢
  exact ⟨orderC_RI hy (appraiseC_RI hy r6), (f6.tr (appraiseC_FM h11)).tr (orderC_FM ⟨rfl, rfl⟩)⟩
theorem takeF_RI {S : ST} {y c : Nat} (hy : y < 2) (hc : c < 10) (hR : RI S) (hn : -19 ≤ iv S 8 2 y) : RI (takeF S y c) := by
  have hz := hR.sz (Or.inr ⟨rfl, hy⟩)
  have hn2 := (hR.2.2 y hy).1.2.1
  unfold takeF
  split
  · exact keepF_RI9 hy hc hR
  · split
    · exact RI_8_2 hR y (by omega)
    · split
      · exact setKS_RI (Or.inr ⟨rfl, hy⟩) hR (by omega) (by omega)
      · split
        · exact setKS_RI (Or.inr ⟨rfl, hy⟩) hR (by omega) (by omega)
        · exact hR
theorem takeF_nd {S : ST} {y c : Nat} : iv (takeF S y c) 8 2 y = iv S 8 2 y ∨ iv (takeF S y c) 8 2 y = iv S 8 2 y - 1 := by
  unfold takeF
  split
  · left
    unfold keepF
    split
    · simp [iv, si, sr, up3]
    · rfl
  · split
    · right; simp [iv, si, up3]
    · split
      · left; simp [setKS, iv, si, up3]
      · split
        · left; simp [setKS, iv, si, up3]
        · left; rfl
theorem plF_ok {S : ST} {y B : Nat} (hy : y < 2) (hB : B < 2 ^ 40) (hR : RI S) (hQ : IQ S) (hn : 0 ≤ iv S 8 2 y) : ∀ i, i ≤ 5 → RI (plF y B i S) ∧ FM (PR y) (QR y) S (plF y B i S) ∧ -(i : Int) ≤ iv (plF y B i S) 8 2 y
  | 0, _ => ⟨hR, FM.rf _ _ S, by show -((0 : Nat) : Int) ≤ iv S 8 2 y; omega⟩
  | i + 1, hi => by
    obtain ⟨g1, g2, g3⟩ := plF_ok hy hB hR hQ hn i (by omega)
    unfold plF
    split
    · exact ⟨g1, g2, by omega⟩
    · obtain ⟨c1, c2⟩ := cmkF_ok (S := plF y B i S) (y := 5 * y + i) (k := i) (B := B) (by omega) (by omega) hB g1 (g2.fr.iq hQ)
      have e8 := (c2.2.1 8 2 y (by unfold PC; omega)).1
      have hd := takeF_nd (S := cmkF (5 * y + i) i B (plF y B i S)) (y := y) (c := 5 * y + i)
      refine ⟨takeF_RI hy (by omega) c1 (by omega), (g2.tr ?_).tr takeF_FM.ft, by omega⟩
      have := c2.fc
      rw [show (5 * y + i) / 5 = y by omega] at this
      exact this
theorem pmkF_ok {S : ST} {y : Nat} (hy : y < 2) (hR : RI S) (hQ : IQ S) : RI (pmkF y S) ∧ FM (PR y) (QR y) S (pmkF y S) := by
  have hB : bset (thr S) 40 < 2 ^ 40 := bset40 _
  have h8 : PR y 8 y := Or.inl ⟨rfl, rfl⟩
  unfold pmkF
  dsimp only
  generalize bset (thr S) 40 = B at hB ⊢
  have r1 : RI (restartF S 8 y (iv S 3 1 0) (iv S 3 2 0) B) := restartF_RI (Or.inr rfl) hR (by have := hQ.2.1; omega) (by have := hQ.2.2.1; omega) hB
  have f1 : FM (PR y) (QR y) S (restartF S 8 y (iv S 3 1 0) (iv S 3 2 0) B) := restartF_FM h8
  have n1 : iv (restartF S 8 y (iv S 3 1 0) (iv S 3 2 0) B) 8 2 y = iv S 3 2 0 := by simp [restartF, iv, si, sj, up3]
  generalize restartF S 8 y (iv S 3 1 0) (iv S 3 2 0) B = S1 at r1 f1 n1 ⊢
  obtain ⟨r2, f2, -⟩ := plF_ok (B := B) hy hB r1 (f1.fr.iq hQ) (by have := hQ.2.2.1; omega) 5 (Nat.le_refl 5)
  generalize plF y B 5 S1 = S2 at r2 f2 ⊢
  have r3 : RI (settleSomeF S2 8 y (iv S2 8 3 y)) := settleSomeF_RI (Or.inr ⟨rfl, hy⟩) r2
  have f3 := (f1.tr f2).tr (settleSomeF_FM (Q := QR y) (S := S2) (cn := iv S2 8 3 y) h8)
  generalize settleSomeF S2 8 y (iv S2 8 3 y) = S3 at r3 f3 ⊢
  have r4 : RI (settleEmptyF S3 8 y) := settleEmptyF_RI (Or.inr ⟨rfl, hy⟩) r3
  have f4 := f3.tr (settleEmptyF_FM (Q := QR y) (S := S3) h8)
  generalize settleEmptyF S3 8 y = S4 at r4 f4 ⊢
  exact ⟨orderP_RI hy (appraiseP_RI hy r4), (f4.tr (appraiseP_FM h8)).tr (orderP_FM (Or.inl ⟨rfl, rfl⟩))⟩
