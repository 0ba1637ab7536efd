/-! both sides: a planned clause -/
def QD (A B : ST) : Prop := ∀ d, d < 40 → (ai B 21 0 d = 1 → ai A 2 0 d = ai B 21 1 d) ∧ (ai B 21 0 d ≠ 1 → ai A 2 0 d = -1)
def QQ (A B : ST) : Prop := (iv A 3 1 0 = iv B 20 2 0 ∧ iv A 3 2 0 = iv B 20 3 0 ∧ iv A 3 3 0 = iv B 20 4 0) ∧ ∀ k, k < 5 → (iv A 5 1 k = ai B 21 5 k ∧ iv A 5 2 k = ai B 21 6 k ∧ iv A 5 3 k = ai B 21 7 k ∧ iv A 5 4 k = ai B 21 8 k) ∧ ∀ j, j < 6 → ai A 6 k j = ai B 21 9 (6 * k + j)
theorem thr_eq {A B : ST} (h : QD A B) (hB : MI B) {d : Nat} (hd : d < 40) : thr A d = mthr B d := by
  obtain ⟨a, b⟩ := h d hd
  have h1 := hB.a1 d
  show decide (ai A 2 0 d ≠ -1) = decide (ai B 21 0 d = 1)
  by_cases q : ai B 21 0 d = 1
  · rw [decide_eq_true q, a q]
    exact decide_eq_true (by omega)
  · rw [decide_eq_false q, b q]
    exact decide_eq_false (by omega)
theorem tru_eq {A B : ST} (h : QD A B) (hB : MI B) (c : Nat) {d : Nat} (hd : d < 40) : tru A c d = mtru B c d := by
  obtain ⟨a, b⟩ := h d hd
  show (thr A d && litT c (ai A 2 0 d).toNat) = (mthr B d && litT c (ai B 21 1 d).toNat)
  rw [thr_eq h hB hd]
  by_cases q : ai B 21 0 d = 1
  · rw [a q]
  · rw [show mthr B d = false from decide_eq_false q, Bool.false_and, Bool.false_and]
theorem bthr_eq {A B : ST} (h : QD A B) (hB : MI B) : bset (thr A) 40 = bset (mthr B) 40 := bset_congr 40 (fun _ hk => thr_eq h hB hk)
theorem btru_eq {A B : ST} (h : QD A B) (hB : MI B) (c : Nat) : bset (tru A c) 40 = bset (mtru B c) 40 := bset_congr 40 (fun _ hk => tru_eq h hB c hk)
theorem ctr_ctr (c : Nat) : ctr (ctr c) = c := by
  unfold ctr
  split <;> split <;> omega
theorem ctr_ne (c : Nat) : ctr c ≠ c := by
  unfold ctr
  split <;> omega
theorem code_eq {A B : ST} (h : QQ A B) (hB : MI B) {k i : Nat} (hk : k < 5) (hi : i < 6) : ((codeN A k i : Nat) : Int) = plc B k i := by
  obtain ⟨⟨-, -, h3, -⟩, hj⟩ := h.2 k hk
  have h9 := hB.a9 (6 * k + i)
  unfold codeN plc
  rw [h3, hj i hi]
  split
  · rfl
  · omega
/-- what the first two steps leave -/
theorem cl_plain {A B : ST} (h : QQ A B) {y k Bb : Nat} (hk : k < 5) (hB : MI B) : ∃ U : ST, U = settleSomeF (if iv (restartF A 11 y (iv A 5 1 k) (iv A 5 2 k) Bb) 5 3 k = 1 then turnF (restartF A 11 y (iv A 5 1 k) (iv A 5 2 k) Bb) y (iv (restartF A 11 y (iv A 5 1 k) (iv A 5 2 k) Bb) 5 4 k) else restartF A 11 y (iv A 5 1 k) (iv A 5 2 k) Bb) 11 y (iv (restartF A 11 y (iv A 5 1 k) (iv A 5 2 k) Bb) 5 4 k) ∧ iv U 11 1 y = plK2 B k ∧ (plK B k = 2 → iv U 11 2 y = plN B k) ∧ iv U 11 3 y = 0 ∧ jv U 11 4 y = Bb ∧ iv U 11 7 y = -1 := by
  obtain ⟨⟨h1, h2, h3, h4⟩, -⟩ := h.2 k hk
  have b5 := hB.a5 k
  have b7 := hB.a7 k
  refine ⟨_, rfl, ?_⟩
  have e3 : iv (restartF A 11 y (iv A 5 1 k) (iv A 5 2 k) Bb) 5 3 k = ai B 21 7 k := by rw [← h3]; rfl
  have e4 : iv (restartF A 11 y (iv A 5 1 k) (iv A 5 2 k) Bb) 5 4 k = ai B 21 8 k := by rw [← h4]; rfl
  rw [e3, e4, h1, h2]
  have s1 : iv (restartF A 11 y (ai B 21 5 k) (ai B 21 6 k) Bb) 11 1 y = ai B 21 5 k := by simp [restartF, iv, si, sj, up3]
  have s2 : iv (restartF A 11 y (ai B 21 5 k) (ai B 21 6 k) Bb) 11 2 y = ai B 21 6 k := by simp [restartF, iv, si, sj, up3]
  have s3 : iv (restartF A 11 y (ai B 21 5 k) (ai B 21 6 k) Bb) 11 3 y = 0 := by simp [restartF, iv, si, sj, up3]
  have s4 : jv (restartF A 11 y (ai B 21 5 k) (ai B 21 6 k) Bb) 11 4 y = Bb := by simp [restartF, jv, si, sj, up3]
  have s7 : iv (restartF A 11 y (ai B 21 5 k) (ai B 21 6 k) Bb) 11 7 y = -1 := by simp [restartF, iv, si, sj, up3]
  generalize restartF A 11 y (ai B 21 5 k) (ai B 21 6 k) Bb = S1 at s1 s2 s3 s4 s7 ⊢
  have t : ∃ S2 : ST, S2 = (if ai B 21 7 k = 1 then turnF S1 y (ai B 21 8 k) else S1) ∧ iv S2 11 1 y = plK B k ∧ (plK B k = 2 → iv S2 11 2 y = plN B k) ∧ iv S2 11 3 y = 0 ∧ jv S2 11 4 y = Bb ∧ iv S2 11 7 y = -1 := by
    refine ⟨_, rfl, ?_⟩
    unfold plK plN
    by_cases q : ai B 21 7 k = 1
    · rw [if_pos q, if_pos q, if_pos q]
      unfold turnF
      rw [s1, s2]
      by_cases q2 : ai B 21 5 k = 2
      · rw [if_pos q2, if_neg (by omega), if_neg (by omega)]
        refine ⟨?_, fun _ => ?_, ?_, s4, ?_⟩
        · show iv S1 11 1 y = 2; omega
        · simp [iv, si, up3]
        · exact s3
        · exact s7
      · rw [if_neg q2]
        refine ⟨?_, fun z => ?_, s3, s4, s7⟩
        · show (if 11 = 11 ∧ 1 = 1 ∧ y = y then _ else _) = _
          rw [if_pos ⟨rfl, rfl, rfl⟩]
          split
          · rfl
          · rw [if_pos (by omega)]
        · exfalso
          split at z
          · omega
          · split at z <;> omega
    · rw [if_neg q, if_neg q, if_neg q]
      exact ⟨s1, fun _ => s2, s3, s4, s7⟩
  obtain ⟨S2, hS2, t1, t2, t3, t4, t7⟩ := t
  rw [← hS2]
  unfold settleSomeF plK2
  rw [t1]
  by_cases q : plK B k = 2
  · rw [if_pos q, if_pos q, t2 q, t3]
    refine ⟨?_, fun _ => ?_, ?_, t4, ?_⟩
    · simp [setKS, iv, si, up3]
    · exact t2 q
    · show (if 11 = 11 ∧ 3 = 3 ∧ y = y then _ else _) = _
      rw [if_pos ⟨rfl, rfl, rfl⟩]
      split <;> rfl
    · exact t7
  · rw [if_neg q, if_neg q]
    exact ⟨t1, fun z => absurd z q, t3, t4, t7⟩
-- the model's rows, one by one
theorem plitF_13 (S : ST) (k : Nat) : ∀ i j, ai (plitF S k i) 21 13 j = if 6 * k ≤ j ∧ j < 6 * k + i then plc S k (j - 6 * k) else ai S 21 13 j
  | 0, j => by rw [if_neg (by omega)]; rfl
  | i + 1, j => by
    have ih := plitF_13 S k i j
    show (if 21 = 21 ∧ 13 = 13 ∧ j = 6 * k + i then plc S k i else ai (plitF S k i) 21 13 j) = _
    by_cases q : j = 6 * k + i
    · subst q
      rw [if_pos ⟨rfl, rfl, rfl⟩, if_pos (by omega), Nat.add_sub_cancel_left]
    · rw [if_neg (fun z => q z.2.2), ih]
      by_cases z : 6 * k ≤ j ∧ j < 6 * k + i
      · rw [if_pos z, if_pos (by omega)]
      · rw [if_neg z, if_neg (by omega)]
theorem plainF_13 (S : ST) (k j : Nat) : ai (plainF S k) 21 13 j = if 6 * k ≤ j ∧ j < 6 * k + (ai S 21 8 k).toNat then plc S k (j - 6 * k) else ai S 21 13 j := by
  have h := plitF_13 (sa S 21 12 k (ai S 21 8 k)) k (ai S 21 8 k).toNat j
  exact h
theorem plainF_12 (S : ST) (k j : Nat) : ai (plainF S k) 21 12 j = if j = k then ai S 21 8 k else ai S 21 12 j := by
  have h := (plitF_MF (sa S 21 12 k (ai S 21 8 k)) k (ai S 21 8 k).toNat).a (q := 12) (by decide) j
  show ai (plitF (sa S 21 12 k (ai S 21 8 k)) k (ai S 21 8 k).toNat) 21 12 j = _
  rw [h]
  show (if 21 = 21 ∧ 12 = 12 ∧ j = k then ai S 21 8 k else ai S 21 12 j) = _
  by_cases q : j = k
  · rw [if_pos ⟨rfl, rfl, q⟩, if_pos q]
  · rw [if_neg (fun z => q z.2.2), if_neg q]
theorem plainF_k (S : ST) {k j : Nat} (h : j ≠ k) : ai (plainF S k) 21 10 j = ai S 21 10 j ∧ ai (plainF S k) 21 11 j = ai S 21 11 j := by
  have e := plitF_MF (sa S 21 12 k (ai S 21 8 k)) k (ai S 21 8 k).toNat
  constructor
  · show (if 21 = 21 ∧ 10 = 10 ∧ j = k then _ else ai (plitF (sa S 21 12 k (ai S 21 8 k)) k (ai S 21 8 k).toNat) 21 10 j) = _
    rw [if_neg (fun z => h z.2.2), e.a (q := 10) (by decide)]
    rfl
  · show (if 21 = 21 ∧ 11 = 11 ∧ j = k then _ else ai (plitF (sa S 21 12 k (ai S 21 8 k)) k (ai S 21 8 k).toNat) 21 11 j) = _
    rw [if_neg (fun z => h z.2.2), e.a (q := 11) (by decide)]
    rfl
theorem thF_keep (S : ST) (k : Nat) : ∀ i j, (j < 6 * k ∨ 6 * k + i ≤ j) → ai (thF S k i).2.2 21 13 j = ai S 21 13 j
  | 0, _, _ => rfl
  | i + 1, j, hj => by
    have ih := thF_keep S k i j (by omega)
    have hn := (thF_MF S k i).2
    unfold thF
    split
    · exact ih
    · show (if 21 = 21 ∧ 13 = 13 ∧ j = 6 * k + (thF S k i).1 then _ else ai (thF S k i).2.2 21 13 j) = _
      rw [if_neg (by omega), ih]
theorem thin2_q (S : ST) {k n : Nat} {b : Bool} {q j : Nat} (h : q ≠ 10 ∧ q ≠ 12 ∨ j ≠ k) : ai (thin2 S k n b) 21 q j = ai S 21 q j := by
  unfold thin2
  split
  · show (if 21 = 21 ∧ q = 10 ∧ j = k then _ else if 21 = 21 ∧ q = 12 ∧ j = k then _ else ai S 21 q j) = _
    rw [if_neg (by omega), if_neg (by omega)]
  · show (if 21 = 21 ∧ q = 12 ∧ j = k then _ else ai S 21 q j) = _
    rw [if_neg (by omega)]
theorem thin2_12 (S : ST) {k n : Nat} {b : Bool} : ai (thin2 S k n b) 21 12 k = (n : Int) := by
  unfold thin2
  split <;> simp [ai, sa, up3]
/-- a clause's rows alone are made anew -/
def MX (k : Nat) (S S' : ST) : Prop := (∀ q j, (q = 10 ∨ q = 11 ∨ q = 12 ∨ q = 14) → j ≠ k → ai S' 21 q j = ai S 21 q j) ∧ ∀ j, (j < 6 * k ∨ 6 * k + 6 ≤ j) → ai S' 21 13 j = ai S 21 13 j
theorem MX.tr {k : Nat} {A B C : ST} (h : MX k A B) (g : MX k B C) : MX k A C := ⟨fun q j a b => (g.1 q j a b).trans (h.1 q j a b), fun j a => (g.2 j a).trans (h.2 j a)⟩
theorem plainF_MX {S : ST} (h : MI S) (k : Nat) : MX k S (plainF S k) := by
  have h8 := h.a8 k
  refine ⟨fun q j hq hj => ?_, fun j hj => ?_⟩
  · rcases hq with rfl | rfl | rfl | rfl
    · exact (plainF_k S hj).1
    · exact (plainF_k S hj).2
    · rw [plainF_12, if_neg hj]
    · exact (plainF_MF S k).a (q := 14) (by decide) j
  · rw [plainF_13, if_neg (by omega)]
theorem thinF_MX {S : ST} (h : MI S) (k : Nat) : MX k S (thinF S k) := by
  have h12 := h.a12 k
  have hF := (thF_MF S k (ai S 21 12 k).toNat).1
  unfold thinF
  refine ⟨fun q j hq hj => ?_, fun j hj => ?_⟩
  · rw [thin2_q _ (Or.inr hj)]
    exact hF.a (by intro z; simp at z; omega) j
  · rw [thin2_q _ (Or.inl (by decide)), thF_keep S k _ j (by omega)]
theorem mk1_MX {S : ST} (h : MI S) (k : Nat) : MX k S (mk1 S k) := by
  unfold mk1
  split
  · exact (plainF_MX h k).tr (thinF_MX (plainF_MI h k) k)
  · exact plainF_MX h k
theorem mk4_MX (S : ST) (k : Nat) : MX k S (mk4 S k) := by
  unfold mk4
  split
  · refine ⟨fun q j hq hj => (sortF_MF S k).a (by intro z; simp at z; omega) j, fun j hj => ?_⟩
    show ai (sA S 13 _) 21 13 j = _
    rw [ai_sA]
    unfold srtA
    rw [if_neg (by omega)]
  · exact ⟨fun _ _ _ _ => rfl, fun _ _ => rfl⟩
theorem estF_MX (S : ST) (k : Nat) : MX k S (estF S k) := by
  refine ⟨fun q j hq hj => ?_, fun j hj => rfl⟩
  show (if 21 = 21 ∧ q = 14 ∧ j = k then _ else ai S 21 q j) = _
  rw [if_neg (fun z => hj z.2.2)]
theorem mkS_MX {S : ST} (h : MI S) (k : Nat) : MX k S (mkS S k) := by
  have h23 : MX k (mk1 S k) (mk3 (mk2 (mk1 S k) k) k) := by
    have e := ((mk2_MF (mk1 S k) k).up (l' := [18]) (m' := [16, 17]) (by decide) (by decide)).tr ((mk3_MF (mk2 (mk1 S k) k) k).up (by decide) (by decide))
    exact ⟨fun q j hq _ => e.a (by intro z; simp at z; omega) j, fun j _ => e.a (q := 13) (by decide) j⟩
  exact (((mk1_MX h k).tr h23).tr (mk4_MX _ k)).tr (estF_MX _ k)
-- keeping the literals
/-- n kept literals of the class's clause y, with the codes c -/
def LT (T : ST) (y n lim Bb : Nat) (B : ST) (c : Nat → Int) : Prop := iv T 11 3 y = (n : Int) ∧ n ≤ lim ∧ (∀ i j, i < n → j < n → pa T 12 y i = pa T 12 y j → i = j) ∧ ∀ j, j < n → (6 * y ≤ pa T 12 y j ∧ pa T 12 y j < 6 * y + lim) ∧ (iv T 14 0 (pa T 12 y j) = c j ∧ 0 ≤ c j ∧ c j < 16) ∧ iv T 14 1 (pa T 12 y j) = ((mcount B (c j).toNat : Nat) : Int) ∧ iv T 14 2 (pa T 12 y j) = -1 ∧ jv T 14 4 (pa T 12 y j) = Bb ∧ jv T 14 5 (pa T 12 y j) = bset (mtru B (c j).toNat) 40
theorem LT_keep {T B : ST} {y n i Bb : Nat} {c c' : Nat → Int} {cd : Nat} {Tb : Nat} (h : LT T y n i Bb B c) (hi : i < 6) (hcd : cd < 16) (hT : Tb = bset (mtru B cd) 40) (hc : ∀ j, j < n → c' j = c j) (hcn : c' n = (cd : Int)) : LT (keepF (LmakeF T (6 * y + i) (cd : Int) Tb Bb) 11 12 y (6 * y + i)) y (n + 1) (i + 1) Bb B c' := by
  obtain ⟨h1, h2, h3, h4⟩ := h
  have eL3 : iv (LmakeF T (6 * y + i) (cd : Int) Tb Bb) 11 3 y = (n : Int) := h1
  have epL : ∀ j, pa (LmakeF T (6 * y + i) (cd : Int) Tb Bb) 12 y j = pa T 12 y j := fun _ => rfl
  have eK : keepF (LmakeF T (6 * y + i) (cd : Int) Tb Bb) 11 12 y (6 * y + i) = si (sr (LmakeF T (6 * y + i) (cd : Int) Tb Bb) 12 y n (some (6 * y + i))) 11 3 y ((n : Int) + 1) := by
    unfold keepF
    rw [eL3, if_pos (by omega)]
    rfl
  rw [eK]
  have ep : ∀ j, pa (si (sr (LmakeF T (6 * y + i) (cd : Int) Tb Bb) 12 y n (some (6 * y + i))) 11 3 y ((n : Int) + 1)) 12 y j = if j = n then 6 * y + i else pa T 12 y j := fun j => by
    show ((if 12 = 12 ∧ y = y ∧ j = n then some (6 * y + i) else ar T 12 y j)).getD 0 = _
    by_cases q : j = n
    · rw [if_pos ⟨rfl, rfl, q⟩, if_pos q]; rfl
    · rw [if_neg (fun z => q z.2.2), if_neg q]; rfl
  refine ⟨?_, by omega, fun a b ha hb => ?_, fun j hj => ?_⟩
  · show (if 11 = 11 ∧ 3 = 3 ∧ y = y then (n : Int) + 1 else _) = _
    rw [if_pos ⟨rfl, rfl, rfl⟩]
    omega
  · rw [ep, ep]
    by_cases qa : a = n <;> by_cases qb : b = n
    · intro _; omega
    · rw [if_pos qa, if_neg qb]
      have := (h4 b (by omega)).1
      intro _; omega
    · rw [if_neg qa, if_pos qb]
      have := (h4 a (by omega)).1
      intro _; omega
    · rw [if_neg qa, if_neg qb]
      exact h3 a b (by omega) (by omega)
  · rw [ep]
    by_cases q : j = n
    · subst q
      rw [if_pos rfl, hcn]
      refine ⟨by omega, ⟨?_, by omega, by omega⟩, ?_, ?_, ?_, ?_⟩
      · show iv (LmakeF T (6 * y + i) (cd : Int) Tb Bb) 14 0 (6 * y + i) = _
        simp [LmakeF, iv, si, sj, up3]
      · show iv (LmakeF T (6 * y + i) (cd : Int) Tb Bb) 14 1 (6 * y + i) = _
        rw [show ((cd : Int)).toNat = cd from rfl, show mcount B cd = pop Tb by rw [hT, pop_bset]; rfl]
        simp [LmakeF, iv, si, sj, up3]
      · show iv (LmakeF T (6 * y + i) (cd : Int) Tb Bb) 14 2 (6 * y + i) = _
        simp [LmakeF, iv, si, sj, up3]
      · show jv (LmakeF T (6 * y + i) (cd : Int) Tb Bb) 14 4 (6 * y + i) = _
        simp [LmakeF, jv, si, sj, up3]
      · rw [show ((cd : Int)).toNat = cd from rfl, ← hT]
        show jv (LmakeF T (6 * y + i) (cd : Int) Tb Bb) 14 5 (6 * y + i) = _
        simp [LmakeF, jv, si, sj, up3]
    · rw [if_neg q, hc j (by omega)]
      obtain ⟨a, b, c1, d, e, f⟩ := h4 j (by omega)
      have hne : ¬ pa T 12 y j = 6 * y + i := by omega
      refine ⟨by omega, ⟨?_, b.2⟩, ?_, ?_, ?_, ?_⟩
      · rw [← b.1]
        show iv (LmakeF T (6 * y + i) (cd : Int) Tb Bb) 14 0 (pa T 12 y j) = _
        simp [LmakeF, iv, si, sj, up3, hne]
      · rw [← c1]
        show iv (LmakeF T (6 * y + i) (cd : Int) Tb Bb) 14 1 (pa T 12 y j) = _
        simp [LmakeF, iv, si, sj, up3, hne]
      · rw [← d]
        show iv (LmakeF T (6 * y + i) (cd : Int) Tb Bb) 14 2 (pa T 12 y j) = _
        simp [LmakeF, iv, si, sj, up3, hne]
      · have e' : jv (LmakeF T (6 * y + i) (cd : Int) Tb Bb) 14 4 (pa T 12 y j) = jv T 14 4 (pa T 12 y j) := by simp [LmakeF, jv, si, sj, up3, hne]
        exact e'.trans e
      · rw [← f]
        show jv (LmakeF T (6 * y + i) (cd : Int) Tb Bb) 14 5 (pa T 12 y j) = _
        simp [LmakeF, jv, si, sj, up3, hne]
theorem LT.lim {T B : ST} {y n i m Bb : Nat} {c : Nat → Int} (h : LT T y n i Bb B c) (hm : i ≤ m) : LT T y n m Bb B c := ⟨h.1, Nat.le_trans h.2.1 hm, h.2.2.1, fun j hj => by
  obtain ⟨a, b⟩ := h.2.2.2 j hj
  exact ⟨⟨a.1, by omega⟩, b⟩⟩
/-- what keeping leaves of a clause's own numbers -/
def NK (y : Nat) (U T : ST) : Prop := iv T 11 1 y = iv U 11 1 y ∧ iv T 11 2 y = iv U 11 2 y ∧ jv T 11 4 y = jv U 11 4 y ∧ iv T 11 7 y = iv U 11 7 y
theorem NK_keep {U T : ST} {y p : Nat} {cd : Int} {Tb Bb : Nat} (h : NK y U T) : NK y U (keepF (LmakeF T p cd Tb Bb) 11 12 y p) := by
  unfold keepF
  split
  · exact h
  · exact h
/-- all of them, of a SOME -/
theorem kl_some {A B U : ST} {y k Bb : Nat} (hD : QD A B) (hQ : QQ A B) (hB : MI B) (hk : k < 5) (hU : FM (PC y) (QC y) A U) (h2 : iv U 11 1 y = 2) (h3 : iv U 11 3 y = 0) : ∀ i, i ≤ 6 → LT (klF y k Bb i U) y i i Bb B (plc B k) ∧ NK y U (klF y k Bb i U) ∧ FM (PC y) (QC y) A (klF y k Bb i U)
  | 0, _ => ⟨⟨h3, Nat.le_refl 0, fun i j hi => absurd hi (Nat.not_lt_zero i), fun j hj => absurd hj (Nat.not_lt_zero j)⟩, ⟨rfl, rfl, rfl, rfl⟩, hU⟩
  | i + 1, hi => by
    obtain ⟨a, b, c⟩ := kl_some hD hQ hB hk hU h2 h3 i (by omega)
    have ecode : codeN (klF y k Bb i U) k i = codeN A k i := by
      unfold codeN
      rw [(c.2.1 5 3 k (by unfold PC; omega)).1]
      show (if _ then ctr ((klF y k Bb i U).2.2.1 6 k i).toNat else ((klF y k Bb i U).2.2.1 6 k i).toNat) = _
      rw [c.1]
    have etru : ∀ cd, tru (klF y k Bb i U) cd = tru A cd := fun cd => by
      funext d
      show (decide ((klF y k Bb i U).2.2.1 2 0 d ≠ -1) && litT cd ((klF y k Bb i U).2.2.1 2 0 d).toNat) = _
      rw [c.1]
      rfl
    have hcode := code_eq hQ hB hk (show i < 6 by omega)
    have hpb := plc_b hB k i
    have e : klF y k Bb (i + 1) U = keepF (LmakeF (klF y k Bb i U) (6 * y + i) (codeN A k i : Nat) (bset (tru A (codeN A k i)) 40) Bb) 11 12 y (6 * y + i) := by
      conv => lhs; unfold klF
      rw [if_pos (Or.inl (b.1.trans h2)), ecode, etru]
    have hFM := klF_FM (S := U) (y := y) (k := k) (B := Bb) (i + 1) hi
    refine ⟨?_, ?_, hU.tr hFM⟩
    · rw [e]
      exact LT_keep a (by omega) (by omega) (btru_eq hD hB _) (fun _ _ => rfl) hcode.symm
    · rw [e]
      exact NK_keep b
/-- the first of each, of an ALL or an ANY -/
theorem kl_thin {A B U : ST} {y k Bb : Nat} (hD : QD A B) (hQ : QQ A B) (hB : MI B) (hk : k < 5) (hU : FM (PC y) (QC y) A U) (h2 : iv U 11 1 y ≠ 2) (h3 : iv U 11 3 y = 0) : ∀ i, i ≤ (ai B 21 8 k).toNat → LT (klF y k Bb i U) y (thF (plainF B k) k i).1 i Bb B (fun j => ai (thF (plainF B k) k i).2.2 21 13 (6 * k + j)) ∧ NK y U (klF y k Bb i U) ∧ FM (PC y) (QC y) A (klF y k Bb i U) ∧ ((thF (plainF B k) k i).2.1 = true ↔ ∃ a b, a < b ∧ b < (thF (plainF B k) k i).1 ∧ ai (thF (plainF B k) k i).2.2 21 13 (6 * k + a) = ((ctr (ai (thF (plainF B k) k i).2.2 21 13 (6 * k + b)).toNat : Nat) : Int))
  | 0, _ => ⟨⟨h3, Nat.le_refl 0, fun i j hi => absurd hi (Nat.not_lt_zero i), fun j hj => absurd hj (Nat.not_lt_zero j)⟩, ⟨rfl, rfl, rfl, rfl⟩, hU, ⟨fun h => (by cases h), fun ⟨a, b, h1, h2, _⟩ => absurd h2 (Nat.not_lt_zero b)⟩⟩
  | i + 1, hi => by
    have h8 := hB.a8 k
    obtain ⟨a, b, c, fl⟩ := kl_thin hD hQ hB hk hU h2 h3 i (by omega)
    have ecode : codeN (klF y k Bb i U) k i = codeN A k i := by
      unfold codeN
      rw [(c.2.1 5 3 k (by unfold PC; omega)).1]
      show (if _ then ctr ((klF y k Bb i U).2.2.1 6 k i).toNat else ((klF y k Bb i U).2.2.1 6 k i).toNat) = _
      rw [c.1]
    have etru : ∀ cd, tru (klF y k Bb i U) cd = tru A cd := fun cd => by
      funext d
      show (decide ((klF y k Bb i U).2.2.1 2 0 d ≠ -1) && litT cd ((klF y k Bb i U).2.2.1 2 0 d).toNat) = _
      rw [c.1]
      rfl
    have hcode := code_eq hQ hB hk (show i < 6 by omega)
    have hpb := plc_b hB k i
    have elit : ai (thF (plainF B k) k i).2.2 21 13 (6 * k + i) = ((codeN A k i : Nat) : Int) := by
      rw [thF_keep _ k i _ (by omega), plainF_13, if_pos (by omega), Nat.add_sub_cancel_left, hcode]
    have hnle := (thF_MF (plainF B k) k i).2
    have ehas : hasR (klF y k Bb i U) y (codeN A k i) = hasA (thF (plainF B k) k i).2.2 k (thF (plainF B k) k i).1 (ai (thF (plainF B k) k i).2.2 21 13 (6 * k + i)) := by
      unfold hasR hasA
      rw [a.1, elit, show (((thF (plainF B k) k i).1 : Nat) : Int).toNat = (thF (plainF B k) k i).1 from rfl]
      exact anyb_congr _ (fun j hj => by
        rw [(a.2.2.2 j hj).2.1.1])
    have hFM := klF_FM (S := U) (y := y) (k := k) (B := Bb) (i + 1) (by omega)
    by_cases q : hasA (thF (plainF B k) k i).2.2 k (thF (plainF B k) k i).1 (ai (thF (plainF B k) k i).2.2 21 13 (6 * k + i)) = true
    · have e1 : klF y k Bb (i + 1) U = klF y k Bb i U := by
        conv => lhs; unfold klF
        rw [ecode, if_neg]
        intro z
        rcases z with z | z
        · exact h2 (b.1.symm.trans z)
        · rw [ehas, q] at z; cases z
      have e2 : thF (plainF B k) k (i + 1) = thF (plainF B k) k i := if_pos q
      rw [e1, e2]
      exact ⟨a.lim (by omega), b, c, fl⟩
    · have qf : hasA (thF (plainF B k) k i).2.2 k (thF (plainF B k) k i).1 (ai (thF (plainF B k) k i).2.2 21 13 (6 * k + i)) = false := by
        cases z : hasA (thF (plainF B k) k i).2.2 k (thF (plainF B k) k i).1 (ai (thF (plainF B k) k i).2.2 21 13 (6 * k + i))
        · rfl
        · exact absurd z q
      have e1 : klF y k Bb (i + 1) U = keepF (LmakeF (klF y k Bb i U) (6 * y + i) (codeN A k i : Nat) (bset (tru A (codeN A k i)) 40) Bb) 11 12 y (6 * y + i) := by
        conv => lhs; unfold klF
        rw [ecode, if_pos (Or.inr (by rw [ehas]; exact qf)), etru]
      have e2 : thF (plainF B k) k (i + 1) = ((thF (plainF B k) k i).1 + 1, (thF (plainF B k) k i).2.1 || hasA (thF (plainF B k) k i).2.2 k (thF (plainF B k) k i).1 ((ctr (ai (thF (plainF B k) k i).2.2 21 13 (6 * k + i)).toNat : Nat) : Int), sa (thF (plainF B k) k i).2.2 21 13 (6 * k + (thF (plainF B k) k i).1) (ai (thF (plainF B k) k i).2.2 21 13 (6 * k + i))) := if_neg (by rw [qf]; decide)
      rw [e1, e2, elit]
      dsimp only
      generalize thF (plainF B k) k i = t at *
      have en : ∀ j, j < t.1 → ai (sa t.2.2 21 13 (6 * k + t.1) ((codeN A k i : Nat) : Int)) 21 13 (6 * k + j) = ai t.2.2 21 13 (6 * k + j) := fun j hj => sa_nj _ _ _ _ (by omega)
      have enn : ai (sa t.2.2 21 13 (6 * k + t.1) ((codeN A k i : Nat) : Int)) 21 13 (6 * k + t.1) = ((codeN A k i : Nat) : Int) := sa_at _ _ _ _ _
      refine ⟨LT_keep a (by omega) (by omega) (btru_eq hD hB _) en enn, NK_keep b, by rw [← e1]; exact hU.tr hFM, ?_⟩
      rw [Bool.or_eq_true, fl]
      constructor
      · intro z
        rcases z with ⟨x, z, z1, z2, z3⟩ | z
        · exact ⟨x, z, z1, by omega, by rw [en x (by omega), en z z2]; exact z3⟩
        · obtain ⟨x, hx, hy⟩ := anyb_ex _ z
          refine ⟨x, t.1, hx, by omega, ?_⟩
          rw [en x hx, enn]
          exact of_decide_eq_true hy
      · rintro ⟨x, z, z1, z2, z3⟩
        by_cases w : z = t.1
        · right
          subst w
          rw [en x z1, enn] at z3
          exact anyb_t _ ⟨x, z1, decide_eq_true z3⟩
        · left
          rw [en x (by omega), en z (by omega)] at z3
          exact ⟨x, z, z1, by omega, z3⟩
/-- the same contrary pairs -/
theorem con_eq {T B M : ST} {y k n lim Bb : Nat} (h : LT T y n lim Bb B (fun j => ai M 21 13 (6 * k + j))) : (conb T y n = true ↔ ∃ a b, a < b ∧ b < n ∧ ai M 21 13 (6 * k + a) = ((ctr (ai M 21 13 (6 * k + b)).toNat : Nat) : Int)) := by
  obtain ⟨h1, -, -, h4⟩ := h
  have hr : ∀ j, j < n → iv T 14 0 (pa T 12 y j) = ai M 21 13 (6 * k + j) ∧ 0 ≤ ai M 21 13 (6 * k + j) := fun j hj => ⟨(h4 j hj).2.1.1, (h4 j hj).2.1.2.1⟩
  have key : ∀ a b, a < n → b < n → ai M 21 13 (6 * k + b) = ((ctr (ai M 21 13 (6 * k + a)).toNat : Nat) : Int) → ai M 21 13 (6 * k + a) = ((ctr (ai M 21 13 (6 * k + b)).toNat : Nat) : Int) := fun a b ha hb e => by
    have := (hr a ha).2
    rw [e, show (((ctr (ai M 21 13 (6 * k + a)).toNat : Nat) : Int)).toNat = ctr (ai M 21 13 (6 * k + a)).toNat from rfl, ctr_ctr]
    omega
  constructor
  · intro z
    obtain ⟨i, hi, q⟩ := anyb_ex _ z
    have q' : hasR T y (ctr (iv T 14 0 (pa T 12 y i)).toNat) = true := q
    unfold hasR at q'
    rw [h1] at q'
    obtain ⟨j, hj, e⟩ := anyb_ex _ q'
    have e' := of_decide_eq_true e
    rw [(hr i hi).1] at e'
    have hj' : j < n := hj
    rw [(hr j hj').1] at e'
    rcases Nat.lt_trichotomy i j with w | w | w
    · exact ⟨i, j, w, hj', key i j hi hj' e'⟩
    · subst w
      exfalso
      have := (hr i hi).2
      have := ctr_ne (ai M 21 13 (6 * k + i)).toNat
      omega
    · exact ⟨j, i, w, hi, e'⟩
  · rintro ⟨a, b, z1, z2, z3⟩
    refine anyb_t _ ⟨b, z2, ?_⟩
    show hasR T y (ctr (iv T 14 0 (pa T 12 y b)).toNat) = true
    unfold hasR
    rw [h1, (hr b z2).1]
    refine anyb_t _ ⟨a, by show a < n; omega, ?_⟩
    rw [(hr a (by omega)).1]
    exact decide_eq_true z3
