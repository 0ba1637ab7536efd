/-! both sides: general rows -/
theorem cnt_zero {p : Nat → Bool} {a : Nat} : ∀ n, (∀ k, k < n → p (a + k) = false) → cnt p a n = 0
  | 0, _ => rfl
  | n + 1, h => by
    unfold cnt
    rw [cnt_zero n (fun k hk => h k (by omega)), h n (by omega)]
    rfl
theorem cnt_shift (f : Nat → Bool) (d : Nat) : ∀ n, cnt (fun k => f (d + k)) 0 n = cnt f d n
  | 0 => rfl
  | n + 1 => by
    unfold cnt
    rw [cnt_shift f d n, Nat.zero_add]
theorem bset_congr {p q : Nat → Bool} : ∀ n, (∀ k, k < n → p k = q k) → bset p n = bset q n
  | 0, _ => rfl
  | n + 1, h => by
    unfold bset
    rw [bset_congr n (fun k hk => h k (by omega)), h n (by omega)]
theorem pop_div (p : Nat → Bool) {d : Nat} (hd : d ≤ 40) : pop (bset p 40 / 2 ^ d) = cnt p d (40 - d) := by
  have e : (fun k => (bset p 40 / 2 ^ d).testBit k) = fun k => (bset p 40).testBit (d + k) := by
    funext k
    rw [Nat.testBit_div_two_pow, Nat.add_comm]
  have e2 : cnt (fun k => (bset p 40 / 2 ^ d).testBit k) 0 64 = cnt (fun k => (bset p 40).testBit k) d 64 := by
    rw [e]
    exact cnt_shift (fun k => (bset p 40).testBit k) d 64
  show cnt (fun k => (bset p 40 / 2 ^ d).testBit k) 0 64 = _
  rw [e2, show 64 = (40 - d) + (24 + d) by omega, cnt_split, cnt_zero (24 + d) (fun k hk => by
    show (bset p 40).testBit _ = false
    rw [bset_bit, decide_eq_false (by omega), Bool.false_and]), Nat.add_zero]
  exact cnt_congr d (40 - d) (fun k hk => by
    show (bset p 40).testBit _ = _
    rw [bset_bit, decide_eq_true (by omega), Bool.true_and])
theorem pop_bset (p : Nat → Bool) : pop (bset p 40) = cnt p 0 40 := by
  have h := pop_div p (d := 0) (by omega)
  rwa [Nat.pow_zero, Nat.div_one, Nat.sub_zero] at h
theorem fsT_bset (p : Nat → Bool) {d : Nat} (hd : d ≤ 40) : fsT (bset p 40) d = fo p (40 - d) d :=
  fo_congr (40 - d) d (fun k h1 h2 => by
    show (bset p 40).testBit k = p k
    rw [bset_bit, decide_eq_true (by omega), Bool.true_and])
theorem pop_cost (p : Nat → Bool) {d q : Nat} (hd : d ≤ q) (hq : q ≤ 40) : ((pop (bset p 40 / 2 ^ d) : Nat) : Int) - ((pop (bset p 40 / 2 ^ q) : Nat) : Int) = ((cnt p d (q - d) : Nat) : Int) := by
  rw [pop_div p (by omega), pop_div p hq, show 40 - d = (q - d) + (40 - q) by omega, cnt_split, show d + (q - d) = q by omega]
  omega
-- sorting by insertion, seen through a map
theorem posn_map {α β : Type} {lt : α → α → Bool} {lt' : β → β → Bool} {f : α → β} {A : Nat → α} {B : Nat → β} {v : α} : ∀ n, (∀ j, j < n → B j = f (A j)) → (∀ j, j < n → lt v (A j) = lt' (f v) (f (A j))) → posn lt A v n = posn lt' B (f v) n
  | 0, _, _ => rfl
  | n + 1, h1, h2 => by
    unfold posn
    rw [h1 n (by omega), h2 n (by omega), posn_map n (fun j hj => h1 j (by omega)) (fun j hj => h2 j (by omega))]
theorem srt_map {α β : Type} {lt : α → α → Bool} {lt' : β → β → Bool} {f : α → β} {A : Nat → α} {B : Nat → β} {P : α → Prop} {m : Nat} (hB : ∀ j, j < m → B j = f (A j)) (hP : ∀ j, j < m → P (A j)) (hl : ∀ a b, P a → P b → lt a b = lt' (f a) (f b)) : ∀ n, n ≤ m → ∀ j, j < m → srt lt' B n j = f (srt lt A n j)
  | 0, _, j, hj => hB j hj
  | n + 1, hn, j, hj => by
    have ih := srt_map hB hP hl n (by omega)
    have hq := srt_P (lt := lt) hP n (by omega)
    have hp : posn lt (srt lt A n) (A n) n = posn lt' (srt lt' B n) (B n) n := by
      rw [hB n (by omega)]
      exact posn_map n (fun j hj => ih j (by omega)) (fun j hj => hl _ _ (hP n (by omega)) (hq j (by omega)))
    show insAt _ n (posn lt' _ _ n) _ j = f (insAt _ n (posn lt _ _ n) _ j)
    rw [← hp]
    unfold insAt
    split
    · exact ih j hj
    · split
      · exact hB n (by omega)
      · split
        · exact ih (j - 1) (by omega)
        · exact ih j hj
theorem srt_lt {α : Type} {lt lt' : α → α → Bool} {A : Nat → α} {P : Nat → α → Prop} {m : Nat} (hP : ∀ j, j < m → ∀ n, j < n → P n (A j)) (hl : ∀ n, n < m → ∀ b, P n b → lt (A n) b = lt' (A n) b) : ∀ n, n ≤ m → srt lt A n = srt lt' A n
  | 0, _ => rfl
  | n + 1, hn => by
    have ih := srt_lt hP hl n (by omega)
    have hq : ∀ j, j < n → P n (srt lt' A n j) := srt_P (P := P n) (n := n) (fun j hj => hP j (by omega) n hj) n (Nat.le_refl n)
    have hp : posn lt (srt lt' A n) (A n) n = posn lt' (srt lt' A n) (A n) n := posn_map (f := fun x => x) n (fun _ _ => rfl) (fun j hj => hl n (by omega) _ (hq j hj))
    show insAt _ n (posn lt _ _ n) _ = insAt _ n (posn lt' _ _ n) _
    rw [ih, hp]
/-- every one of them is there afterwards -/
theorem insAt_ex {α : Type} {A : Nat → α} {k a : Nat} {v : α} (ha : a ≤ k) {P : α → Prop} {n : Nat} (hk : k < n) (h : P v ∨ ∃ j, j < n ∧ j ≠ k ∧ P (A j)) : ∃ j, j < n ∧ P (insAt A k a v j) := by
  rcases h with h | ⟨j, h1, h2, h3⟩
  · refine ⟨a, by omega, ?_⟩
    unfold insAt
    rw [if_neg (by omega), if_pos rfl]
    exact h
  · by_cases q : j < a
    · refine ⟨j, h1, ?_⟩
      unfold insAt
      rw [if_pos q]; exact h3
    · by_cases z : j < k
      · refine ⟨j + 1, by omega, ?_⟩
        unfold insAt
        rw [if_neg (by omega), if_neg (by omega), if_pos (by omega)]
        exact h3
      · refine ⟨j, h1, ?_⟩
        unfold insAt
        rw [if_neg q, if_neg (by omega), if_neg (by omega)]
        exact h3
theorem srt_ex {α : Type} {lt : α → α → Bool} {A : Nat → α} {P : α → Prop} {m : Nat} : ∀ n, n ≤ m → (∃ j, j < m ∧ P (A j)) → ∃ j, j < m ∧ P (srt lt A n j)
  | 0, _, h => h
  | n + 1, hn, h => by
    obtain ⟨j, h1, h2⟩ := srt_ex (lt := lt) (P := P) n (by omega) h
    have ha := posn_le lt (srt lt A n) (A n) n
    refine insAt_ex ha (by omega) ?_
    by_cases q : j = n
    · left
      rw [q, srt_out lt A n n (Nat.le_refl n)] at h2
      exact h2
    · exact Or.inr ⟨j, h1, q, h2⟩
theorem insAt_inj {α : Type} {A : Nat → α} {k a n : Nat} (ha : a ≤ k) (hk : k < n) (h : ∀ i j, i < n → j < n → A i = A j → i = j) : ∀ i j, i < n → j < n → insAt A k a (A k) i = insAt A k a (A k) j → i = j := by
  intro i j hi hj e
  unfold insAt at e
  split at e <;> split at e <;> (try split at e) <;> (try split at e) <;> (try split at e) <;> (try split at e) <;> (have q := h _ _ (by omega) (by omega) e; omega)
theorem srt_inj {α : Type} {lt : α → α → Bool} {A : Nat → α} {m : Nat} (h : ∀ i j, i < m → j < m → A i = A j → i = j) : ∀ n, n ≤ m → ∀ i j, i < m → j < m → srt lt A n i = srt lt A n j → i = j
  | 0, _ => h
  | n + 1, hn => by
    have ih := srt_inj (lt := lt) h n (by omega)
    have ha := posn_le lt (srt lt A n) (A n) n
    have e : srt lt A n n = A n := srt_out lt A n n (Nat.le_refl n)
    intro i j hi hj q
    have := insAt_inj (A := srt lt A n) ha (show n < m by omega) ih i j hi hj
    rw [e] at this
    exact this q
-- least ones
theorem leastF_le {e : Nat → Int} {m : Int} : ∀ n, leastF e m n ≤ m ∧ ∀ j, j < n → leastF e m n ≤ e j
  | 0 => ⟨Int.le_refl m, fun j hj => absurd hj (Nat.not_lt_zero j)⟩
  | n + 1 => by
    obtain ⟨a, b⟩ := leastF_le (e := e) (m := m) n
    unfold leastF
    refine ⟨by omega, fun j hj => ?_⟩
    by_cases q : j = n
    · subst q; omega
    · have := b j (by omega); omega
theorem leastF_at {e : Nat → Int} {m : Int} : ∀ n, leastF e m n = m ∨ ∃ j, j < n ∧ leastF e m n = e j
  | 0 => Or.inl rfl
  | n + 1 => by
    have a := leastF_at (e := e) (m := m) n
    unfold leastF
    by_cases q : leastF e m n ≤ e n
    · rw [show min (leastF e m n) (e n) = leastF e m n by omega]
      rcases a with a | ⟨j, h1, h2⟩
      · exact Or.inl a
      · exact Or.inr ⟨j, by omega, h2⟩
    · exact Or.inr ⟨n, by omega, by omega⟩
theorem leastF_eq {e f : Nat → Int} {m m' : Int} {n : Nat} (h1 : ∀ j, j < n → ∃ i, i < n ∧ f i = e j) (h2 : ∀ j, j < n → ∃ i, i < n ∧ e i = f j) (hm : m = m' ∨ (0 < n ∧ (∀ j, j < n → e j ≤ m) ∧ ∀ j, j < n → e j ≤ m')) : leastF e m n = leastF f m' n := by
  have a := leastF_le (e := e) (m := m) n
  have b := leastF_le (e := f) (m := m') n
  have a2 := leastF_at (e := e) (m := m) n
  have b2 := leastF_at (e := f) (m := m') n
  have g1 : ∀ j, j < n → leastF e m n ≤ f j := fun j hj => by
    obtain ⟨i, hi, q⟩ := h2 j hj
    rw [← q]; exact a.2 i hi
  have g2 : ∀ j, j < n → leastF f m' n ≤ e j := fun j hj => by
    obtain ⟨i, hi, q⟩ := h1 j hj
    rw [← q]; exact b.2 i hi
  rcases hm with hm | ⟨h0, hm1, hm2⟩
  · rcases a2 with a2 | ⟨j, h3, h4⟩
    · rcases b2 with b2 | ⟨i, h5, h6⟩
      · rw [a2, b2, hm]
      · have := g1 i h5; have := b.1; omega
    · rcases b2 with b2 | ⟨i, h5, h6⟩
      · have := g2 j h3; have := a.1; omega
      · have := g1 i h5; have := g2 j h3; omega
  · have k1 : ∃ j, j < n ∧ leastF e m n = e j := by
      rcases a2 with a2 | a2
      · have := hm1 0 h0; have := a.2 0 h0; exact ⟨0, h0, by omega⟩
      · exact a2
    have k2 : ∃ j, j < n ∧ leastF f m' n = f j := by
      rcases b2 with b2 | b2
      · obtain ⟨i, hi, q⟩ := h2 0 h0
        have := hm2 i hi; have := b.2 0 h0; exact ⟨0, h0, by omega⟩
      · exact b2
    obtain ⟨j, h3, h4⟩ := k1
    obtain ⟨i, h5, h6⟩ := k2
    have := g1 i h5; have := g2 j h3; omega
theorem sumF_congr {e f : Nat → Int} : ∀ n, (∀ j, j < n → e j = f j) → sumF e n = sumF f n
  | 0, _ => rfl
  | n + 1, h => by
    unfold sumF
    rw [sumF_congr n (fun j hj => h j (by omega)), h n (by omega)]
theorem leastF_congr {e f : Nat → Int} {m : Int} : ∀ n, (∀ j, j < n → e j = f j) → leastF e m n = leastF f m n
  | 0, _ => rfl
  | n + 1, h => by
    unfold leastF
    rw [leastF_congr n (fun j hj => h j (by omega)), h n (by omega)]
-- the n-th place, found in two ways
theorem upTo_congr {f g : Nat → Int} {b : Int} (n : Nat) (h : ∀ j, j < n → f j = g j) : upTo f n b = upTo g n b := cnt_congr 0 n (fun k hk => by
  show decide (f (0 + k) ≤ b) = decide (g (0 + k) ≤ b)
  rw [Nat.zero_add, h k hk])
theorem nthF_congr {f g : Nat → Int} {n : Nat} {nd : Int} (h : ∀ j, j < n → f j = g j) : ∀ k p, nthF f n nd k p = nthF g n nd k p
  | 0, _ => rfl
  | k + 1, p => by
    unfold nthF
    rw [upTo_congr n h, nthF_congr h k (p + 1)]
theorem ndP_congr {f g : Nat → Int} {n : Nat} {nd : Int} (h : ∀ j, j < n → f j = g j) : ∀ i, i ≤ n → ndP f nd n i = ndP g nd n i
  | 0, _ => rfl
  | i + 1, hi => by
    unfold ndP
    rw [ndP_congr h i (by omega), h i (by omega), upTo_congr n h]
theorem nthF_min {pl : Nat → Int} {n : Nat} {nd : Int} {x : Nat} (hx : nd ≤ upTo pl n x) : ∀ f p, p ≤ x → x < f + p → nthF pl n nd f p ≤ x
  | 0, p, h1, h2 => absurd h2 (by omega)
  | f + 1, p, h1, h2 => by
    unfold nthF
    split
    · exact h1
    · rename_i q
      by_cases z : p = x
      · exact absurd (z ▸ hx) q
      · exact nthF_min hx f (p + 1) (by omega) (by omega)
theorem nthF_sat {pl : Nat → Int} {n : Nat} {nd : Int} : ∀ f p, f + p = 41 → nthF pl n nd f p < 40 → nd ≤ upTo pl n (nthF pl n nd f p) ∧ ∀ x, p ≤ x → x < nthF pl n nd f p → ¬ nd ≤ upTo pl n x
  | 0, p, _, h => absurd h (by show ¬ 40 < 40; omega)
  | f + 1, p, hp, h => by
    unfold nthF at h ⊢
    split
    · rename_i q
      exact ⟨q, fun x h1 h2 => absurd h2 (by omega)⟩
    · rename_i q
      rw [if_neg q] at h
      obtain ⟨a, b⟩ := nthF_sat f (p + 1) (by omega) h
      refine ⟨a, fun x h1 h2 => ?_⟩
      by_cases z : x = p
      · rw [z]; exact q
      · exact b x (by omega) h2
theorem upTo_no {pl : Nat → Int} {b : Int} (n : Nat) (h : ∀ j, j < n → pl j ≠ b) : upTo pl n b = upTo pl n (b - 1) := cnt_congr 0 n (fun k hk => by
  show decide (pl (0 + k) ≤ b) = decide (pl (0 + k) ≤ b - 1)
  rw [Nat.zero_add]
  have := h k hk
  by_cases q : pl k ≤ b
  · rw [decide_eq_true q, decide_eq_true (by omega)]
  · rw [decide_eq_false q, decide_eq_false (by omega)])
theorem ndP_le {pl : Nat → Int} {nd : Int} {n : Nat} : ∀ i, ndP pl nd n i ≤ 40 ∧ (∀ j, j < i → nd ≤ upTo pl n (pl j) → ndP pl nd n i ≤ pl j) ∧ (ndP pl nd n i = 40 ∨ ∃ j, j < i ∧ nd ≤ upTo pl n (pl j) ∧ ndP pl nd n i = pl j)
  | 0 => ⟨Int.le_refl 40, fun j hj => absurd hj (Nat.not_lt_zero j), Or.inl rfl⟩
  | i + 1 => by
    obtain ⟨a, b, c⟩ := ndP_le (pl := pl) (nd := nd) (n := n) i
    unfold ndP
    split
    · rename_i q
      refine ⟨by omega, fun j hj hq => ?_, Or.inr ⟨i, by omega, q.2, rfl⟩⟩
      by_cases z : j = i
      · subst z; exact Int.le_refl _
      · have := b j (by omega) hq; omega
    · rename_i q
      refine ⟨a, fun j hj hq => ?_, ?_⟩
      · by_cases z : j = i
        · subst z
          exact Int.not_lt.mp (fun w => q ⟨w, hq⟩)
        · exact b j (by omega) hq
      · rcases c with c | ⟨j, h1, h2, h3⟩
        · exact Or.inl c
        · exact Or.inr ⟨j, by omega, h2, h3⟩
theorem nth_eq {pl : Nat → Int} {nd : Int} {n : Nat} (hn : 1 ≤ nd) (hp : ∀ j, j < n → 0 ≤ pl j ∧ pl j ≤ 40) : ndP pl nd n n = ((nthF pl n nd 41 0 : Nat) : Int) := by
  obtain ⟨a, b, c⟩ := ndP_le (pl := pl) (nd := nd) (n := n) n
  have hle := nthF_le (pl := pl) (n := n) (nd := nd) 41 0 (by decide)
  have h1 : ((nthF pl n nd 41 0 : Nat) : Int) ≤ ndP pl nd n n := by
    rcases c with c | ⟨j, hj, hq, he⟩
    · omega
    · have hj2 := hp j hj
      have e : ((pl j).toNat : Int) = pl j := Int.toNat_of_nonneg hj2.1
      have := nthF_min (pl := pl) (n := n) (nd := nd) (x := (pl j).toNat) (by rw [e]; exact hq) 41 0 (by omega) (by omega)
      omega
  have h2 : ndP pl nd n n ≤ ((nthF pl n nd 41 0 : Nat) : Int) := by
    by_cases q : nthF pl n nd 41 0 < 40
    · obtain ⟨s1, s2⟩ := nthF_sat (pl := pl) (n := n) (nd := nd) 41 0 rfl q
      generalize nthF pl n nd 41 0 = x at q s1 s2 hle ⊢
      by_cases z : ∃ j, j < n ∧ pl j = (x : Int)
      · obtain ⟨j, hj, e⟩ := z
        have := b j hj (by rw [e]; exact s1)
        omega
      · exfalso
        have hno := upTo_no (pl := pl) (b := (x : Int)) n (fun j hj e => z ⟨j, hj, e⟩)
        by_cases x0 : x = 0
        · subst x0
          rw [upTo_0 n (fun j hj => by
            have := hp j hj
            have : pl j ≠ 0 := fun e => z ⟨j, hj, e⟩
            show ((0 : Nat) : Int) < pl j
            omega)] at s1
          omega
        · have := s2 (x - 1) (by omega) (by omega)
          rw [hno, show ((x : Int) - 1) = ((x - 1 : Nat) : Int) by omega] at s1
          exact this s1
    · omega
  omega
theorem upTo_pos {pl : Nat → Int} {b : Int} : ∀ n, 1 ≤ upTo pl n b → ∃ j, j < n ∧ pl j ≤ b
  | 0, h => absurd h (by show ¬ 1 ≤ 0; omega)
  | n + 1, h => by
    by_cases q : pl n ≤ b
    · exact ⟨n, by omega, q⟩
    · have e : upTo pl (n + 1) b = upTo pl n b := cnt0_no (decide_eq_false q)
      rw [e] at h
      obtain ⟨j, h1, h2⟩ := upTo_pos n h
      exact ⟨j, by omega, h2⟩
theorem upTo_1 {pl : Nat → Int} {b : Int} : ∀ n j, j < n → pl j ≤ b → 1 ≤ upTo pl n b
  | 0, j, hj, _ => absurd hj (Nat.not_lt_zero j)
  | n + 1, j, hj, h => by
    by_cases q : pl n ≤ b
    · have e : upTo pl (n + 1) b = upTo pl n b + 1 := cnt0_yes (decide_eq_true q)
      omega
    · have e : upTo pl (n + 1) b = upTo pl n b := cnt0_no (decide_eq_false q)
      have : j ≠ n := fun z => q (z ▸ h)
      rw [e]
      exact upTo_1 n j (by omega) h
theorem nth_1 {pl : Nat → Int} {n : Nat} (hp : ∀ j, j < n → 0 ≤ pl j ∧ pl j ≤ 40) : leastF pl 40 n = ((nthF pl n 1 41 0 : Nat) : Int) := by
  have e := nth_eq (nd := 1) (n := n) (pl := pl) (by decide) hp
  rw [← e]
  obtain ⟨a, b, c⟩ := ndP_le (pl := pl) (nd := 1) (n := n) n
  have l := leastF_le (e := pl) (m := 40) n
  have h1 : leastF pl 40 n ≤ ndP pl 1 n n := by
    rcases c with c | ⟨j, hj, -, he⟩
    · omega
    · rw [he]; exact l.2 j hj
  have h2 : ndP pl 1 n n ≤ leastF pl 40 n := by
    rcases leastF_at (e := pl) (m := 40) n with q | ⟨j, hj, q⟩
    · omega
    · rw [q]
      refine b j hj ?_
      have := upTo_1 (pl := pl) (b := pl j) n j hj (Int.le_refl _)
      omega
  omega
-- two ways of seeking, side by side
section GREL
variable {σ τ : Type} {R : σ → τ → Prop} {s1 : Nat → Nat → σ → Nat × σ} {s2 : Nat → Nat → τ → Nat × τ} {n : Nat}
theorem gAnyA_rel {d : Nat} (h : ∀ j s t, j < n → R s t → (s1 j d s).1 = (s2 j d t).1 ∧ R (s1 j d s).2 (s2 j d t).2) : ∀ i s t, i ≤ n → R s t → (gAnyA s1 d i s).1 = (gAnyA s2 d i t).1 ∧ R (gAnyA s1 d i s).2 (gAnyA s2 d i t).2
  | 0, s, t, _, hr => ⟨rfl, hr⟩
  | i + 1, s, t, hi, hr => by
    obtain ⟨a, b⟩ := gAnyA_rel h i s t (by omega) hr
    obtain ⟨c, d'⟩ := h i _ _ (by omega) b
    exact ⟨by show min _ _ = min _ _; rw [a, c], d'⟩
theorem gAll_rel (h : ∀ j w s t, j < n → w < 40 → R s t → (s1 j w s).1 = (s2 j w t).1 ∧ R (s1 j w s).2 (s2 j w t).2) : ∀ f w k s t, w < 40 → R s t → (gAll s1 n f w k s).1 = (gAll s2 n f w k t).1 ∧ R (gAll s1 n f w k s).2 (gAll s2 n f w k t).2
  | 0, w, k, s, t, _, hr => ⟨rfl, hr⟩
  | f + 1, w, k, s, t, hw, hr => by
    unfold gAll
    by_cases q : k < n
    · rw [if_pos q, if_pos q]
      obtain ⟨a, b⟩ := h k w s t q hw hr
      rw [← a]
      split
      · exact ⟨rfl, b⟩
      · split
        · exact gAll_rel h f _ 0 _ _ (by omega) b
        · exact gAll_rel h f w (k + 1) _ _ hw b
    · rw [if_neg q, if_neg q]
      exact ⟨rfl, hr⟩
theorem gSome_rel {m1 : σ → Int} {m2 : τ → Int} (h : ∀ j w s t, j < n → w < 40 → R s t → (s1 j w s).1 = (s2 j w t).1 ∧ R (s1 j w s).2 (s2 j w t).2) (hm : ∀ w s t, w < 40 → R s t → m1 (gAnyA s1 w n s).2 = m2 (gAnyA s2 w n t).2) : ∀ f w s t, R s t → (gSome s1 m1 n f w s).1 = (gSome s2 m2 n f w t).1 ∧ R (gSome s1 m1 n f w s).2 (gSome s2 m2 n f w t).2
  | 0, w, s, t, hr => ⟨rfl, hr⟩
  | f + 1, w, s, t, hr => by
    unfold gSome
    by_cases q : w < 40
    · rw [if_pos q, if_pos q]
      obtain ⟨a, b⟩ := gAnyA_rel (n := n) (fun j s t hj hr => h j w s t hj q hr) n s t (Nat.le_refl n) hr
      rw [hm w s t q hr]
      split
      · exact ⟨rfl, b⟩
      · exact gSome_rel h hm f _ _ _ b
    · rw [if_neg q, if_neg q]
      exact ⟨rfl, hr⟩
end GREL
