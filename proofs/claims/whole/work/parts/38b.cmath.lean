/-- what a planning of the run r leaves as it was -/
def FR (r : Nat) (S S' : ST) : Prop := S'.2.2.1 = S.2.2.1 ∧ (∀ t k y, ¬ (t = 8 ∧ y = r) → ¬ (t = 11 ∧ y / 5 = r) → ¬ (t = 14 ∧ y / 30 = r) → iv S' t k y = iv S t k y ∧ jv S' t k y = jv S t k y) ∧ (∀ t y j, ¬ (t = 9 ∧ y = r) → ¬ (t = 12 ∧ y / 5 = r) → ar S' t y j = ar S t y j)
theorem FR.rf (r : Nat) (S : ST) : FR r S S := ⟨rfl, fun _ _ _ _ _ _ => ⟨rfl, rfl⟩, fun _ _ _ _ _ => rfl⟩
theorem FR.tr {r : Nat} {A B C : ST} (h : FR r A B) (g : FR r B C) : FR r A C := ⟨g.1.trans h.1, fun t k y a b c => ⟨(g.2.1 t k y a b c).1.trans (h.2.1 t k y a b c).1, (g.2.1 t k y a b c).2.trans (h.2.1 t k y a b c).2⟩, fun t y j a b => (g.2.2 t y j a b).trans (h.2.2 t y j a b)⟩
theorem FR_si (r : Nat) (S : ST) (t k y : Nat) (v : Int) (h : (t = 8 ∧ y = r) ∨ (t = 11 ∧ y / 5 = r) ∨ (t = 14 ∧ y / 30 = r)) : FR r S (si S t k y v) := ⟨rfl, fun t' k' y' a b c => ⟨by
  show (if t' = t ∧ k' = k ∧ y' = y then v else iv S t' k' y') = iv S t' k' y'
  rw [if_neg]
  rintro ⟨rfl, -, rfl⟩
  rcases h with h | h | h
  · exact a h
  · exact b h
  · exact c h, rfl⟩, fun _ _ _ _ _ => rfl⟩
theorem FR_sj (r : Nat) (S : ST) (t k y : Nat) (v : Nat) (h : (t = 8 ∧ y = r) ∨ (t = 11 ∧ y / 5 = r) ∨ (t = 14 ∧ y / 30 = r)) : FR r S (sj S t k y v) := ⟨rfl, fun t' k' y' a b c => ⟨rfl, by
  show (if t' = t ∧ k' = k ∧ y' = y then v else jv S t' k' y') = jv S t' k' y'
  rw [if_neg]
  rintro ⟨rfl, -, rfl⟩
  rcases h with h | h | h
  · exact a h
  · exact b h
  · exact c h⟩, fun _ _ _ _ _ => rfl⟩
theorem FR_sar (r : Nat) (S : ST) (t y : Nat) (A : Nat → Option Nat) (h : (t = 9 ∧ y = r) ∨ (t = 12 ∧ y / 5 = r)) : FR r S (sar S t y A) := ⟨rfl, fun _ _ _ _ _ _ => ⟨rfl, rfl⟩, fun t' y' j a b => by
  show (if t' = t ∧ y' = y then A j else ar S t' y' j) = ar S t' y' j
  rw [if_neg]
  rintro ⟨rfl, rfl⟩
  rcases h with h | h
  · exact a h
  · exact b h⟩
theorem FR.iq {r : Nat} {S S' : ST} (h : FR r S S') (hQ : IQ S) : IQ S' := by
  have e3 : ∀ k y, iv S' 3 k y = iv S 3 k y := fun k y => (h.2.1 3 k y (by omega) (by omega) (by omega)).1
  have e5 : ∀ k y, iv S' 5 k y = iv S 5 k y := fun k y => (h.2.1 5 k y (by omega) (by omega) (by omega)).1
  have ea : ∀ t y j, ai S' t y j = ai S t y j := fun t y j => by show S'.2.2.1 t y j = S.2.2.1 t y j; rw [h.1]
  obtain ⟨a, b, c, d⟩ := hQ
  refine ⟨by rw [e3]; exact a, by rw [e3]; exact b, by rw [e3]; exact c, fun x hx => ?_⟩
  obtain ⟨d1, d2, d3, d4, d5⟩ := d x hx
  refine ⟨by rw [e5]; exact d1, by rw [e5]; exact d2, by rw [e5]; exact d3, by rw [e5]; exact d4, fun j hj => by rw [ea]; exact d5 j hj⟩
theorem FR.iw {r : Nat} {S S' : ST} (h : FR r S S') (hW : IW S) : IW S' := fun d hd => by
  have ea : ∀ t y j, ai S' t y j = ai S t y j := fun t y j => by show S'.2.2.1 t y j = S.2.2.1 t y j; rw [h.1]
  rw [ea]; exact hW d hd
theorem FR.thr {r : Nat} {S S' : ST} (h : FR r S S') : thr S' = thr S := by
  funext d
  show decide (S'.2.2.1 2 0 d ≠ -1) = decide (S.2.2.1 2 0 d ≠ -1)
  rw [h.1]
theorem FR.tru {r : Nat} {S S' : ST} (h : FR r S S') (c : Nat) : tru S' c = tru S c := by
  funext d
  show (decide (S'.2.2.1 2 0 d ≠ -1) && litT c (S'.2.2.1 2 0 d).toNat) = (decide (S.2.2.1 2 0 d ≠ -1) && litT c (S.2.2.1 2 0 d).toNat)
  rw [h.1]
theorem FR.q {r : Nat} {S S' : ST} (h : FR r S S') (k y : Nat) : iv S' 3 k y = iv S 3 k y ∧ iv S' 5 k y = iv S 5 k y := ⟨(h.2.1 3 k y (by omega) (by omega) (by omega)).1, (h.2.1 5 k y (by omega) (by omega) (by omega)).1⟩
theorem FR.code {r : Nat} {S S' : ST} (h : FR r S S') (k i : Nat) : codeN S' k i = codeN S k i := by
  unfold codeN
  rw [(h.q 3 k).2, show ai S' = ai S from h.1]
theorem codeN_lt {S : ST} (hQ : IQ S) {k i : Nat} (hk : k < 5) (hi : i < 6) : codeN S k i < 16 := by
  have h := (hQ.2.2.2 k hk).2.2.2.2 i hi
  unfold codeN
  split
  · exact ctr_lt (by omega)
  · omega
theorem bset40 (p : Nat → Bool) : bset p 40 < 2 ^ 40 := bset_lt p 40
theorem restartF_RI {S : ST} {t y : Nat} {kd nd : Int} {B : Nat} (ht : t = 11 ∨ t = 8) (h : RI S) (hk : 0 ≤ kd ∧ kd ≤ 4) (hn : -20 ≤ nd ∧ nd ≤ 20) (hB : B < 2 ^ 40) : RI (restartF S t y kd nd B) := by
  unfold restartF
  rcases ht with rfl | rfl
  · exact RI_117 (RI_11_4 (RI_11_3 (RI_11_2 (RI_11_1 h y hk) y hn) y (v := 0) (by omega) (fun j hj => absurd hj (by omega))) y hB) y (by omega)
  · exact RI_87 (RI_8_4 (RI_8_3 (RI_8_2 (RI_8_1 h y hk) y hn) y (v := 0) (by omega) (fun j hj => absurd hj (by omega))) y hB) y (by omega)
theorem restartF_FR {S : ST} {r t y : Nat} {kd nd : Int} {B : Nat} (h : (t = 8 ∧ y = r) ∨ (t = 11 ∧ y / 5 = r)) : FR r S (restartF S t y kd nd B) := by
  have h' : (t = 8 ∧ y = r) ∨ (t = 11 ∧ y / 5 = r) ∨ (t = 14 ∧ y / 30 = r) := h.elim Or.inl (fun q => Or.inr (Or.inl q))
  exact ((((FR_si r S t 1 y kd h').tr (FR_si r _ t 2 y nd h')).tr (FR_si r _ t 3 y 0 h')).tr (FR_sj r _ t 4 y B h')).tr (FR_si r _ t 7 y (-1) h')
theorem setKS_RI {S : ST} {t y : Nat} {k z : Int} (ht : (t = 11 ∧ y < 10) ∨ (t = 8 ∧ y < 2)) (h : RI S) (hk : 0 ≤ k ∧ k ≤ 4) (hz : 0 ≤ z ∧ z ≤ iv S t 3 y) : RI (setKS S t y k z) := by
  unfold setKS
  rcases ht with ⟨rfl, hy⟩ | ⟨rfl, hy⟩
  · have g := (h.2.1 y hy).2
    exact RI_11_3 (RI_11_1 h y hk) y ⟨hz.1, Int.le_trans hz.2 g.1.2⟩ (fun j hj => g.2 j (by omega))
  · have g := (h.2.2 y hy).2
    exact RI_8_3 (RI_8_1 h y hk) y ⟨hz.1, Int.le_trans hz.2 g.1.2⟩ (fun j hj => g.2 j (by omega))
theorem setKS_FR {S : ST} {r t y : Nat} {k z : Int} (h : (t = 8 ∧ y = r) ∨ (t = 11 ∧ y / 5 = r)) : FR r S (setKS S t y k z) := by
  have h' : (t = 8 ∧ y = r) ∨ (t = 11 ∧ y / 5 = r) ∨ (t = 14 ∧ y / 30 = r) := h.elim Or.inl (fun q => Or.inr (Or.inl q))
  exact (FR_si r S t 1 y k h').tr (FR_si r _ t 3 y z h')
theorem someK_b (nd n : Int) : 0 ≤ someK nd n ∧ someK nd n ≤ 4 := by
  unfold someK
  split
  · omega
  · split
    · omega
    · split
      · omega
      · split <;> omega
theorem RI.sz {S : ST} {t y : Nat} (ht : (t = 11 ∧ y < 10) ∨ (t = 8 ∧ y < 2)) (h : RI S) : 0 ≤ iv S t 3 y ∧ iv S t 3 y ≤ 6 := by
  rcases ht with ⟨rfl, hy⟩ | ⟨rfl, hy⟩
  · exact (h.2.1 y hy).2.1
  · exact (h.2.2 y hy).2.1
theorem settleSomeF_RI {S : ST} {t y : Nat} {cn : Int} (ht : (t = 11 ∧ y < 10) ∨ (t = 8 ∧ y < 2)) (h : RI S) : RI (settleSomeF S t y cn) := by
  have hz := h.sz ht
  unfold settleSomeF
  split
  · refine setKS_RI ht h (someK_b _ _) ?_
    split <;> omega
  · exact h
theorem settleSomeF_FR {S : ST} {r t y : Nat} {cn : Int} (h : (t = 8 ∧ y = r) ∨ (t = 11 ∧ y / 5 = r)) : FR r S (settleSomeF S t y cn) := by
  unfold settleSomeF
  split
  · exact setKS_FR h
  · exact FR.rf r S
theorem settleEmptyF_RI {S : ST} {t y : Nat} (ht : (t = 11 ∧ y < 10) ∨ (t = 8 ∧ y < 2)) (h : RI S) : RI (settleEmptyF S t y) := by
  have hz := h.sz ht
  unfold settleEmptyF
  split
  · exact setKS_RI ht h (by omega) (by omega)
  · split
    · exact setKS_RI ht h (by omega) (by omega)
    · exact h
theorem settleEmptyF_FR {S : ST} {r t y : Nat} (h : (t = 8 ∧ y = r) ∨ (t = 11 ∧ y / 5 = r)) : FR r S (settleEmptyF S t y) := by
  unfold settleEmptyF
  split
  · exact setKS_FR h
  · split
    · exact setKS_FR h
    · exact FR.rf r S
theorem aprF_b {kd nd most least sum : Int} (h1 : 0 ≤ most ∧ most ≤ 40) (h2 : 0 ≤ least ∧ least ≤ 40) (h3 : 0 ≤ sum) : 0 ≤ aprF kd nd most least sum ∧ aprF kd nd most least sum ≤ 40 := by
  unfold aprF
  split
  · exact h2
  · split
    · omega
    · split
      · split
        · exact h1
        · have : 0 ≤ sum / nd := Int.ediv_nonneg h3 (by omega)
          omega
      · split <;> omega
theorem appraiseC_RI {S : ST} {y : Nat} (hy : y < 10) (h : RI S) : RI (appraiseC S y) := by
  obtain ⟨⟨a1, a2, a3, a4, a5⟩, b, d⟩ := h.2.1 y hy
  have hp := pop_le a5
  have hE : ∀ j, j < (iv S 11 3 y).toNat → 0 ≤ iv S 14 1 (pa S 12 y j) ∧ iv S 14 1 (pa S 12 y j) ≤ 40 := fun j hj => (h.1 _ (d j (by omega)).2).2.1
  exact RI_11_6 h y (aprF_b (by omega) (leastF_b (by omega) _ hE) (sumF_b _ hE).1)
theorem appraiseP_RI {S : ST} {y : Nat} (hy : y < 2) (h : RI S) : RI (appraiseP S y) := by
  obtain ⟨⟨a1, a2, a3, a4, a5⟩, b, d⟩ := h.2.2 y hy
  have hp := pop_le a5
  have hE : ∀ j, j < (iv S 8 3 y).toNat → 0 ≤ iv S 11 6 (pa S 9 y j) ∧ iv S 11 6 (pa S 9 y j) ≤ 40 := fun j hj => (h.2.1 _ (d j (by omega)).2).1.2.2.1
  exact RI_8_6 h y (aprF_b (by omega) (leastF_b (by omega) _ hE) (sumF_b _ hE).1)
theorem appraiseC_FR {S : ST} {r y : Nat} (h : y / 5 = r) : FR r S (appraiseC S y) := FR_si r S 11 6 y _ (Or.inr (Or.inl ⟨rfl, h⟩))
theorem appraiseP_FR {S : ST} {r : Nat} : FR r S (appraiseP S r) := FR_si r S 8 6 r _ (Or.inl ⟨rfl, rfl⟩)
theorem orderC_RI {S : ST} {y : Nat} (hy : y < 10) (h : RI S) : RI (orderC S y) := by
  obtain ⟨-, b, d⟩ := h.2.1 y hy
  unfold orderC
  split
  · refine RI_sar12 h y (fun j hj => ⟨_, if_pos hj, ?_⟩)
    exact srt_P (P := fun q => q < 60) (n := (iv S 11 3 y).toNat) (fun j hj => (d j (by omega)).2) _ (Nat.le_refl _) j (by omega)
  · exact h
theorem orderP_RI {S : ST} {y : Nat} (hy : y < 2) (h : RI S) : RI (orderP S y) := by
  obtain ⟨-, b, d⟩ := h.2.2 y hy
  unfold orderP
  split
  · refine RI_sar9 h y (fun j hj => ⟨_, if_pos hj, ?_⟩)
    exact srt_P (P := fun q => q < 10) (n := (iv S 8 3 y).toNat) (fun j hj => (d j (by omega)).2) _ (Nat.le_refl _) j (by omega)
  · exact h
theorem orderC_FR {S : ST} {r y : Nat} (h : y / 5 = r) : FR r S (orderC S y) := by
  unfold orderC
  split
  · exact FR_sar r S 12 y _ (Or.inr ⟨rfl, h⟩)
  · exact FR.rf r S
theorem orderP_FR {S : ST} {r : Nat} : FR r S (orderP S r) := by
  unfold orderP
  split
  · exact FR_sar r S 9 r _ (Or.inl ⟨rfl, rfl⟩)
  · exact FR.rf r S
theorem keepF_RI12 {S : ST} {y p : Nat} (hy : y < 10) (hp0 : p < 60) (h : RI S) : RI (keepF S 11 12 y p) := by
  obtain ⟨-, b, d⟩ := h.2.1 y hy
  unfold keepF
  split
  · rename_i hlt
    rw [sr_eq]
    have h1 : RI (sar S 12 y (upF (ar S 12 y) (iv S 11 3 y).toNat (some p))) := RI_sar12 h y (fun j hj => by
      unfold upF
      by_cases q : j = (iv S 11 3 y).toNat
      · omega
      · rw [if_neg q]; exact ⟨_, d j hj⟩)
    refine RI_11_3 h1 y (by omega) (fun j hj => ?_)
    unfold pa
    rw [ar_sar]
    unfold upF
    by_cases q : j = (iv S 11 3 y).toNat
    · rw [if_pos q]; exact ⟨rfl, hp0⟩
    · rw [if_neg q]; exact d j (by omega)
  · exact h
theorem keepF_RI9 {S : ST} {y p : Nat} (hy : y < 2) (hp0 : p < 10) (h : RI S) : RI (keepF S 8 9 y p) := by
  obtain ⟨-, b, d⟩ := h.2.2 y hy
  unfold keepF
  split
  · rename_i hlt
    rw [sr_eq]
    have h1 : RI (sar S 9 y (upF (ar S 9 y) (iv S 8 3 y).toNat (some p))) := RI_sar9 h y (fun j hj => by
      unfold upF
      by_cases q : j = (iv S 8 3 y).toNat
      · omega
      · rw [if_neg q]; exact ⟨_, d j hj⟩)
    refine RI_8_3 h1 y (by omega) (fun j hj => ?_)
    unfold pa
    rw [ar_sar]
    unfold upF
    by_cases q : j = (iv S 8 3 y).toNat
    · rw [if_pos q]; exact ⟨rfl, hp0⟩
    · rw [if_neg q]; exact d j (by omega)
  · exact h
theorem keepF_FR {S : ST} {r t a y p : Nat} (h : (t = 8 ∧ a = 9 ∧ y = r) ∨ (t = 11 ∧ a = 12 ∧ y / 5 = r)) : FR r S (keepF S t a y p) := by
  unfold keepF
  split
  · rw [sr_eq]
    exact (FR_sar r S a y _ (h.elim (fun q => Or.inl q.2) (fun q => Or.inr q.2))).tr (FR_si r _ t 3 y _ (h.elim (fun q => Or.inl ⟨q.1, q.2.2⟩) (fun q => Or.inr (Or.inl ⟨q.1, q.2.2⟩))))
  · exact FR.rf r S
theorem LmakeF_RI {S : ST} {p : Nat} {cd : Int} {Tb B : Nat} (h : RI S) (hc : 0 ≤ cd ∧ cd < 16) (hT : Tb < 2 ^ 40) (hB : B < 2 ^ 40) : RI (LmakeF S p cd Tb B) := by
  have := pop_le hT
  exact RI_142 (RI_14_1 (RI_14_0 (RI_j14_5 (RI_j14_4 h p hB) p hT) p hc) p (by omega)) p (by omega)
theorem LmakeF_FR {S : ST} {r p : Nat} {cd : Int} {Tb B : Nat} (h : p / 30 = r) : FR r S (LmakeF S p cd Tb B) := by
  have h' : ∀ t, (t = 14) → (t = 8 ∧ p = r) ∨ (t = 11 ∧ p / 5 = r) ∨ (t = 14 ∧ p / 30 = r) := fun t ht => Or.inr (Or.inr ⟨ht, h⟩)
  exact ((((FR_sj r S 14 4 p B (h' _ rfl)).tr (FR_sj r _ 14 5 p Tb (h' _ rfl))).tr (FR_si r _ 14 0 p cd (h' _ rfl))).tr (FR_si r _ 14 1 p _ (h' _ rfl))).tr (FR_si r _ 14 2 p _ (h' _ rfl))
theorem turnF_RI {S : ST} {y : Nat} {cn : Int} (h : RI S) (hn : iv S 11 1 y = 2 → -20 ≤ cn - iv S 11 2 y + 1 ∧ cn - iv S 11 2 y + 1 ≤ 20) : RI (turnF S y cn) := by
  unfold turnF
  split
  · rename_i q; exact RI_11_2 h y (hn q)
  · exact RI_11_1 h y (by split <;> omega)
theorem turnF_FR {S : ST} {r y : Nat} {cn : Int} (h : y / 5 = r) : FR r S (turnF S y cn) := by
  unfold turnF
  split
  · exact FR_si r S 11 2 y _ (Or.inr (Or.inl ⟨rfl, h⟩))
  · exact FR_si r S 11 1 y _ (Or.inr (Or.inl ⟨rfl, h⟩))
theorem klF_ok {S : ST} {r y k B : Nat} (hy : y < 10) (hr : y / 5 = r) (hk : k < 5) (hB : B < 2 ^ 40) (h : RI S) (hQ : IQ S) : ∀ i, i ≤ 6 → RI (klF y k B i S) ∧ FR r S (klF y k B i S)
  | 0, _ => ⟨h, FR.rf r S⟩
  | i + 1, hi => by
    obtain ⟨g1, g2⟩ := klF_ok hy hr hk hB h hQ i (by omega)
    have hc := codeN_lt (g2.iq hQ) hk (show i < 6 by omega)
    unfold klF
    split
    · have h1 : RI (LmakeF (klF y k B i S) (6 * y + i) (codeN (klF y k B i S) k i : Nat) (bset (tru (klF y k B i S) (codeN (klF y k B i S) k i)) 40) B) := LmakeF_RI g1 (by omega) (bset40 _) hB
      exact ⟨keepF_RI12 hy (by omega) h1, (g2.tr (LmakeF_FR (by omega))).tr (keepF_FR (Or.inr ⟨rfl, rfl, hr⟩))⟩
    · exact ⟨g1, g2⟩
theorem keepLitsF_ok {S : ST} {r y k B : Nat} (hy : y < 10) (hr : y / 5 = r) (hk : k < 5) (hB : B < 2 ^ 40) (h : RI S) (hQ : IQ S) : RI (keepLitsF S y k B) ∧ FR r S (keepLitsF S y k B) := by
  unfold keepLitsF
  split
  · exact ⟨h, FR.rf r S⟩
  · exact klF_ok hy hr hk hB h hQ _ (by have := (hQ.2.2.2 k hk).2.2.2.1; omega)
theorem settleConF_ok {S : ST} {r y : Nat} (hy : y < 10) (hr : y / 5 = r) (h : RI S) : RI (settleConF S y) ∧ FR r S (settleConF S y) := by
  have hz := (h.2.1 y hy).2.1
  unfold settleConF
  split
  · split
    · exact ⟨setKS_RI (Or.inl ⟨rfl, hy⟩) h (by split <;> omega) (by omega), setKS_FR (Or.inr ⟨rfl, hr⟩)⟩
    · exact ⟨h, FR.rf r S⟩
  · exact ⟨h, FR.rf r S⟩
