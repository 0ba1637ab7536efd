/-- seeking: first from d on -/
def fsT (B d : Nat) : Nat := fo (fun k => B.testBit k) (40 - d) d
theorem fsT_b {B d : Nat} (hd : d ≤ 40) : d ≤ fsT B d ∧ fsT B d ≤ 40 := by
  have h1 := fo_ge (fun k => B.testBit k) (40 - d) d
  have h2 := fo_le (fun k => B.testBit k) (40 - d) d
  unfold fsT
  omega
def litCost (S : ST) (p d q : Nat) : Int := if iv S 14 0 p % 2 = 1 then (pop (jv S 14 4 p / 2 ^ d) : Int) - (pop (jv S 14 4 p / 2 ^ q) : Int) + 1 else 1
def litSk (S : ST) (p d : Nat) : ST := if (d : Int) ≤ iv S 14 2 p then S else si (si S 14 2 p (fsT (jv S 14 5 p) d : Nat)) 7 0 (p / 30) (iv S 7 0 (p / 30) + litCost S p d (fsT (jv S 14 5 p) d))
def RI (S : ST) : Prop := IL S ∧ (∀ c, c < 10 → GN S 11 c ∧ GP S 11 12 c 60) ∧ (∀ r, r < 2 → GN S 8 r ∧ GP S 8 9 r 10)
/-- the same but for places and readings -/
def RS (S S' : ST) : Prop := S'.2 = S.2 ∧ ∀ t k y, ¬ (t = 14 ∧ k = 2) → ¬ (t = 7 ∧ k = 0) → ¬ (t = 11 ∧ k = 7) → ¬ (t = 8 ∧ k = 7) → iv S' t k y = iv S t k y
theorem RS.rf (S : ST) : RS S S := ⟨rfl, fun _ _ _ _ _ _ _ => rfl⟩
theorem RS.tr {A B C : ST} (h : RS A B) (g : RS B C) : RS A C := ⟨g.1.trans h.1, fun t k y a b c d => (g.2 t k y a b c d).trans (h.2 t k y a b c d)⟩
theorem RS.epa {S S' : ST} (h : RS S S') (t y j : Nat) : pa S' t y j = pa S t y j := by
  show (S'.2.2.2 t y j).getD 0 = (S.2.2.2 t y j).getD 0
  rw [h.1]
theorem RS.ejv {S S' : ST} (h : RS S S') (t k y : Nat) : jv S' t k y = jv S t k y := by
  show S'.2.1 t k y = S.2.1 t k y
  rw [h.1]
theorem RS.n {S S' : ST} (h : RS S S') (y : Nat) : iv S' 11 3 y = iv S 11 3 y := h.2 11 3 y (by decide) (by decide) (by decide) (by decide)
theorem RS.nP {S S' : ST} (h : RS S S') (y : Nat) : iv S' 8 3 y = iv S 8 3 y := h.2 8 3 y (by decide) (by decide) (by decide) (by decide)
theorem RS.d {S S' : ST} (h : RS S S') (y : Nat) : iv S' 11 2 y = iv S 11 2 y := h.2 11 2 y (by decide) (by decide) (by decide) (by decide)
theorem RS.dP {S S' : ST} (h : RS S S') (y : Nat) : iv S' 8 2 y = iv S 8 2 y := h.2 8 2 y (by decide) (by decide) (by decide) (by decide)
theorem RS_142 (S : ST) (p : Nat) (v : Int) : RS S (si S 14 2 p v) := ⟨rfl, fun t k y a b c d => by
  show (if t = 14 ∧ k = 2 ∧ y = p then v else iv S t k y) = iv S t k y
  rw [if_neg (fun z => a ⟨z.1, z.2.1⟩)]⟩
theorem RS_70 (S : ST) (p : Nat) (v : Int) : RS S (si S 7 0 p v) := ⟨rfl, fun t k y a b c d => by
  show (if t = 7 ∧ k = 0 ∧ y = p then v else iv S t k y) = iv S t k y
  rw [if_neg (fun z => b ⟨z.1, z.2.1⟩)]⟩
theorem RS_117 (S : ST) (p : Nat) (v : Int) : RS S (si S 11 7 p v) := ⟨rfl, fun t k y a b c d => by
  show (if t = 11 ∧ k = 7 ∧ y = p then v else iv S t k y) = iv S t k y
  rw [if_neg (fun z => c ⟨z.1, z.2.1⟩)]⟩
theorem RS_87 (S : ST) (p : Nat) (v : Int) : RS S (si S 8 7 p v) := ⟨rfl, fun t k y a b c d => by
  show (if t = 8 ∧ k = 7 ∧ y = p then v else iv S t k y) = iv S t k y
  rw [if_neg (fun z => d ⟨z.1, z.2.1⟩)]⟩
/-- the invariants over such a change, places within bounds -/
theorem RI_of {S S' : ST} (h : RI S) (g : RS S S') (h1 : ∀ p, p < 60 → -1 ≤ iv S' 14 2 p ∧ iv S' 14 2 p ≤ 40) (h2 : ∀ c, c < 10 → -1 ≤ iv S' 11 7 c ∧ iv S' 11 7 c ≤ 40) (h3 : ∀ r, r < 2 → -1 ≤ iv S' 8 7 r ∧ iv S' 8 7 r ≤ 40) : RI S' := by
  obtain ⟨a, b, c⟩ := h
  have e : ∀ t k y, ¬ (t = 14 ∧ k = 2) → ¬ (t = 7 ∧ k = 0) → ¬ (t = 11 ∧ k = 7) → ¬ (t = 8 ∧ k = 7) → iv S' t k y = iv S t k y := g.2
  have ej := g.ejv
  have ep := g.epa
  have er : ∀ t y j, ar S' t y j = ar S t y j := fun t y j => by
    show S'.2.2.2 t y j = S.2.2.2 t y j
    rw [g.1]
  refine ⟨fun p hp => ?_, fun x hx => ?_, fun x hx => ?_⟩
  · obtain ⟨a1, a2, a3, a4, a5⟩ := a p hp
    refine ⟨?_, ?_, h1 p hp, ?_, ?_⟩
    · rw [e 14 0 p (by decide) (by decide) (by decide) (by decide)]; exact a1
    · rw [e 14 1 p (by decide) (by decide) (by decide) (by decide)]; exact a2
    · rw [ej]; exact a4
    · rw [ej]; exact a5
  · obtain ⟨⟨b1, b2, b3, b4, b5⟩, b6, b7⟩ := b x hx
    refine ⟨⟨?_, ?_, ?_, h2 x hx, ?_⟩, ?_, fun j hj => ?_⟩
    · rw [e 11 1 x (by decide) (by decide) (by decide) (by decide)]; exact b1
    · rw [e 11 2 x (by decide) (by decide) (by decide) (by decide)]; exact b2
    · rw [e 11 6 x (by decide) (by decide) (by decide) (by decide)]; exact b3
    · rw [ej]; exact b5
    · rw [g.n]; exact b6
    · rw [g.n] at hj; rw [er, ep]; exact b7 j hj
  · obtain ⟨⟨b1, b2, b3, b4, b5⟩, b6, b7⟩ := c x hx
    refine ⟨⟨?_, ?_, ?_, h3 x hx, ?_⟩, ?_, fun j hj => ?_⟩
    · rw [e 8 1 x (by decide) (by decide) (by decide) (by decide)]; exact b1
    · rw [e 8 2 x (by decide) (by decide) (by decide) (by decide)]; exact b2
    · rw [e 8 6 x (by decide) (by decide) (by decide) (by decide)]; exact b3
    · rw [ej]; exact b5
    · rw [g.nP]; exact b6
    · rw [g.nP] at hj; rw [er, ep]; exact b7 j hj
theorem RI.pl {S : ST} (h : RI S) : (∀ p, p < 60 → -1 ≤ iv S 14 2 p ∧ iv S 14 2 p ≤ 40) ∧ (∀ c, c < 10 → -1 ≤ iv S 11 7 c ∧ iv S 11 7 c ≤ 40) ∧ (∀ r, r < 2 → -1 ≤ iv S 8 7 r ∧ iv S 8 7 r ≤ 40) :=
  ⟨fun p hp => (h.1 p hp).2.2.1, fun c hc => (h.2.1 c hc).1.2.2.2.1, fun r hr => (h.2.2 r hr).1.2.2.2.1⟩
theorem si_b {S : ST} {t k p : Nat} {v : Int} {t' k' n : Nat} (h : ∀ y, y < n → -1 ≤ iv S t' k' y ∧ iv S t' k' y ≤ 40) (hv : -1 ≤ v ∧ v ≤ 40) : ∀ y, y < n → -1 ≤ iv (si S t k p v) t' k' y ∧ iv (si S t k p v) t' k' y ≤ 40 := by
  intro y hy
  show -1 ≤ (if t' = t ∧ k' = k ∧ y = p then v else iv S t' k' y) ∧ (if t' = t ∧ k' = k ∧ y = p then v else iv S t' k' y) ≤ 40
  have := h y hy
  split <;> omega
theorem RI_142 {S : ST} (h : RI S) (p : Nat) {v : Int} (hv : -1 ≤ v ∧ v ≤ 40) : RI (si S 14 2 p v) := RI_of h (RS_142 S p v) (si_b h.pl.1 hv) (si_b h.pl.2.1 hv) (si_b h.pl.2.2 hv)
theorem RI_117 {S : ST} (h : RI S) (p : Nat) {v : Int} (hv : -1 ≤ v ∧ v ≤ 40) : RI (si S 11 7 p v) := RI_of h (RS_117 S p v) (si_b h.pl.1 hv) (si_b h.pl.2.1 hv) (si_b h.pl.2.2 hv)
theorem RI_87 {S : ST} (h : RI S) (p : Nat) {v : Int} (hv : -1 ≤ v ∧ v ≤ 40) : RI (si S 8 7 p v) := RI_of h (RS_87 S p v) (si_b h.pl.1 hv) (si_b h.pl.2.1 hv) (si_b h.pl.2.2 hv)
theorem RI_70 {S : ST} (h : RI S) (p : Nat) (v : Int) : RI (si S 7 0 p v) := RI_of h (RS_70 S p v) (fun y hy => by
    show -1 ≤ (if 14 = 7 ∧ 2 = 0 ∧ y = p then v else iv S 14 2 y) ∧ (if 14 = 7 ∧ 2 = 0 ∧ y = p then v else iv S 14 2 y) ≤ 40
    rw [if_neg (by omega)]; exact h.pl.1 y hy) (fun y hy => by
    show -1 ≤ (if 11 = 7 ∧ 7 = 0 ∧ y = p then v else iv S 11 7 y) ∧ (if 11 = 7 ∧ 7 = 0 ∧ y = p then v else iv S 11 7 y) ≤ 40
    rw [if_neg (by omega)]; exact h.pl.2.1 y hy) (fun y hy => by
    show -1 ≤ (if 8 = 7 ∧ 7 = 0 ∧ y = p then v else iv S 8 7 y) ∧ (if 8 = 7 ∧ 7 = 0 ∧ y = p then v else iv S 8 7 y) ≤ 40
    rw [if_neg (by omega)]; exact h.pl.2.2 y hy)
theorem litSk_RS (S : ST) (p d : Nat) : RS S (litSk S p d) := by
  unfold litSk
  split
  · exact RS.rf S
  · exact (RS_142 S p _).tr (RS_70 _ _ _)
theorem litSk_RI {S : ST} (h : RI S) (p : Nat) {d : Nat} (hd : d ≤ 40) : RI (litSk S p d) := by
  unfold litSk
  split
  · exact h
  · have := fsT_b (B := jv S 14 5 p) hd
    exact RI_70 (RI_142 h p (by omega)) _ _
/-- seeking in groups, by the way of seeking in a part -/
def gAnyA {σ : Type} (sk : Nat → Nat → σ → Nat × σ) (d i : Nat) (s : σ) : Nat × σ := match i with
  | 0 => (40, s)
  | i + 1 => (min (gAnyA sk d i s).1 (sk i d (gAnyA sk d i s).2).1, (sk i d (gAnyA sk d i s).2).2)
def gAll {σ : Type} (sk : Nat → Nat → σ → Nat × σ) (n f w k : Nat) (s : σ) : Nat × σ := match f with
  | 0 => (w, s)
  | f + 1 => if k < n then (if 40 ≤ (sk k w s).1 then (40, (sk k w s).2) else if w < (sk k w s).1 then gAll sk n f (sk k w s).1 0 (sk k w s).2 else gAll sk n f w (k + 1) (sk k w s).2) else (w, s)
def gSome {σ : Type} (sk : Nat → Nat → σ → Nat × σ) (nth : σ → Int) (n f w : Nat) (s : σ) : Nat × σ := match f with
  | 0 => (40, s)
  | f + 1 => if w < 40 then (if nth (gAnyA sk w n s).2 ≤ (w : Int) then (w, (gAnyA sk w n s).2) else gSome sk nth n f (nth (gAnyA sk w n s).2).toNat (gAnyA sk w n s).2) else (40, s)
theorem gAnyA_inv {σ : Type} {sk : Nat → Nat → σ → Nat × σ} {d n : Nat} {I : σ → Prop} (h : ∀ j s, j < n → I s → I (sk j d s).2) : ∀ i s, i ≤ n → I s → I (gAnyA sk d i s).2
  | 0, _, _, hs => hs
  | i + 1, s, hi, hs => h i _ (by omega) (gAnyA_inv h i s (by omega) hs)
theorem gAnyA_le {σ : Type} {sk : Nat → Nat → σ → Nat × σ} {d : Nat} : ∀ i s, (gAnyA sk d i s).1 ≤ 40
  | 0, _ => Nat.le_refl 40
  | i + 1, s => by
    have ih := gAnyA_le (sk := sk) (d := d) i s
    show min _ _ ≤ 40
    omega
theorem gAll_inv {σ : Type} {sk : Nat → Nat → σ → Nat × σ} {n : Nat} {I : σ → Prop} (h : ∀ j w s, j < n → w < 40 → I s → I (sk j w s).2) : ∀ f w k s, w < 40 → I s → I (gAll sk n f w k s).2 ∧ (gAll sk n f w k s).1 ≤ 40
  | 0, w, k, s, hw, hs => ⟨hs, Nat.le_of_lt hw⟩
  | f + 1, w, k, s, hw, hs => by
    unfold gAll
    split
    · rename_i hk
      have h1 := h k w s hk hw hs
      split
      · exact ⟨h1, Nat.le_refl 40⟩
      · split
        · exact gAll_inv h f _ 0 _ (by omega) h1
        · exact gAll_inv h f w (k + 1) _ hw h1
    · exact ⟨hs, Nat.le_of_lt hw⟩
theorem gSome_inv {σ : Type} {sk : Nat → Nat → σ → Nat × σ} {nth : σ → Int} {n : Nat} {I : σ → Prop} (h : ∀ j w s, j < n → w < 40 → I s → I (sk j w s).2) : ∀ f w s, I s → I (gSome sk nth n f w s).2 ∧ (gSome sk nth n f w s).1 ≤ 40
  | 0, w, s, hs => ⟨hs, Nat.le_refl 40⟩
  | f + 1, w, s, hs => by
    unfold gSome
    split
    · rename_i hw
      have h1 := gAnyA_inv (fun j s hj hs => h j w s hj hw hs) n s (Nat.le_refl n) hs
      split
      · exact ⟨h1, Nat.le_of_lt hw⟩
      · exact gSome_inv h f _ _ h1
    · exact ⟨hs, Nat.le_refl 40⟩
def upTo (pl : Nat → Int) (n : Nat) (b : Int) : Nat := cnt (fun j => decide (pl j ≤ b)) 0 n
def ndP (pl : Nat → Int) (need : Int) (n i : Nat) : Int := match i with
  | 0 => 40
  | i + 1 => if pl i < ndP pl need n i ∧ need ≤ upTo pl n (pl i) then pl i else ndP pl need n i
theorem ndP_b {pl : Nat → Int} {need : Int} {n : Nat} : ∀ i, (∀ j, j < i → -1 ≤ pl j ∧ pl j ≤ 40) → -1 ≤ ndP pl need n i ∧ ndP pl need n i ≤ 40
  | 0, _ => by simp [ndP]
  | i + 1, h => by
    have ih := ndP_b (need := need) (n := n) i (fun j hj => h j (by omega))
    have h1 := h i (by omega)
    unfold ndP
    split <;> omega
def plC (y : Nat) (S : ST) (j : Nat) : Int := iv S 14 2 (pa S 12 y j)
def plP (y : Nat) (S : ST) (j : Nat) : Int := iv S 11 7 (pa S 9 y j)
def lsk (y j d : Nat) (S : ST) : Nat × ST := ((iv (litSk S (pa S 12 y j) d) 14 2 (pa S 12 y j)).toNat, litSk S (pa S 12 y j) d)
def grpSk (t : Nat) (sk : Nat → Nat → ST → Nat × ST) (pl : ST → Nat → Int) (y d : Nat) (S : ST) : Nat × ST :=
  if iv S t 1 y = 0 then gAll sk (iv S t 3 y).toNat 1000 d 0 S else if iv S t 1 y = 1 then gAnyA sk d (iv S t 3 y).toNat S else if iv S t 1 y = 2 then gSome sk (fun s => ndP (pl s) (iv S t 2 y) (iv S t 3 y).toNat (iv S t 3 y).toNat) (iv S t 3 y).toNat 40 d S else if iv S t 1 y = 3 then (fsT (jv S t 4 y) d, S) else (40, S)
def clSk (y d : Nat) (S : ST) : Nat × ST := if (d : Int) ≤ iv S 11 7 y then ((iv S 11 7 y).toNat, S) else ((grpSk 11 (lsk y) (plC y) y d S).1, si (grpSk 11 (lsk y) (plC y) y d S).2 11 7 y ((grpSk 11 (lsk y) (plC y) y d S).1 : Nat))
def psk (y j d : Nat) (S : ST) : Nat × ST := clSk (pa S 9 y j) d S
def plSk (y d : Nat) (S : ST) : Nat × ST := if (d : Int) ≤ iv S 8 7 y then ((iv S 8 7 y).toNat, S) else ((grpSk 8 (psk y) (plP y) y d S).1, si (grpSk 8 (psk y) (plP y) y d S).2 8 7 y ((grpSk 8 (psk y) (plP y) y d S).1 : Nat))
theorem grpSk_inv {t : Nat} {sk : Nat → Nat → ST → Nat × ST} {pl : ST → Nat → Int} {y d : Nat} {S : ST} {I : ST → Prop} (hd : d < 40) (h : ∀ j w s, j < (iv S t 3 y).toNat → w < 40 → I s → I (sk j w s).2) (hs : I S) : I (grpSk t sk pl y d S).2 ∧ (grpSk t sk pl y d S).1 ≤ 40 := by
  unfold grpSk
  split
  · exact gAll_inv h 1000 d 0 S hd hs
  · split
    · exact ⟨gAnyA_inv (fun j s hj hs => h j d s hj hd hs) _ S (Nat.le_refl _) hs, gAnyA_le _ S⟩
    · split
      · exact gSome_inv h 40 d S hs
      · split
        · exact ⟨hs, (fsT_b (Nat.le_of_lt hd)).2⟩
        · exact ⟨hs, Nat.le_refl 40⟩
theorem lsk_inv {S : ST} {y : Nat} : ∀ j w s, w < 40 → (RI s ∧ RS S s) → (RI (lsk y j w s).2 ∧ RS S (lsk y j w s).2) := fun j w s hw h => ⟨litSk_RI h.1 _ (Nat.le_of_lt hw), h.2.tr (litSk_RS _ _ _)⟩
theorem clSk_inv {S s : ST} {y d : Nat} (hd : d < 40) (h : RI s ∧ RS S s) : (RI (clSk y d s).2 ∧ RS S (clSk y d s).2) := by
  unfold clSk
  split
  · exact h
  · have h1 := grpSk_inv (t := 11) (sk := lsk y) (pl := plC y) (y := y) (I := fun q => RI q ∧ RS S q) hd (fun j w s _ hw hs => lsk_inv j w s hw hs) h
    exact ⟨RI_117 h1.1.1 y (by omega), h1.1.2.tr (RS_117 _ _ _)⟩
theorem plSk_inv {S s : ST} {y d : Nat} (hd : d < 40) (h : RI s ∧ RS S s) : (RI (plSk y d s).2 ∧ RS S (plSk y d s).2) := by
  unfold plSk
  split
  · exact h
  · have h1 := grpSk_inv (t := 8) (sk := psk y) (pl := plP y) (y := y) (I := fun q => RI q ∧ RS S q) hd (fun j w s _ hw hs => clSk_inv hw hs) h
    exact ⟨RI_87 h1.1.1 y (by omega), h1.1.2.tr (RS_87 _ _ _)⟩
