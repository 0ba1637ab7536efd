theorem thin2_10 {S : ST} {k n : Nat} {b : Bool} : ai (thin2 S k n b) 21 10 k = (if b = true ∨ n = 0 then (if b2i b = b2i (decide (ai S 21 10 k = 0)) then 4 else 3) else ai S 21 10 k) := by
  unfold thin2
  split <;> simp [ai, sa, up3]
theorem plainF_10 (S : ST) (k : Nat) : ai (plainF S k) 21 10 k = plK2 S k := by
  unfold plainF
  simp [ai, sa, up3]
theorem plainF_11 (S : ST) (k : Nat) : ai (plainF S k) 21 11 k = if plK2 S k = 2 then plN S k else 0 := by
  unfold plainF
  simp [ai, sa, up3]
theorem mk1_MI {S : ST} (h : MI S) (k : Nat) : MI (mk1 S k) := by
  have g := plainF_MI h k
  unfold mk1
  split
  · exact thinF_MI g
  · exact g
theorem mk1_MF (S : ST) (k : Nat) : MF (kq [10, 11, 12, 13]) (kq []) S (mk1 S k) := by
  unfold mk1
  split
  · exact (plainF_MF S k).tr (thinF_MF _ k)
  · exact plainF_MF S k
theorem thinF_11 (S : ST) (k : Nat) : ai (thinF S k) 21 11 k = ai S 21 11 k := by
  have g := (thF_MF S k (ai S 21 12 k).toNat).1
  unfold thinF thin2
  split
  · show ai (thF S k (ai S 21 12 k).toNat).2.2 21 11 k = _; exact g.a (by decide) k
  · show ai (thF S k (ai S 21 12 k).toNat).2.2 21 11 k = _; exact g.a (by decide) k
theorem thinF_10 (S : ST) (k : Nat) (h : ai S 21 10 k ≤ 1) : ai (thinF S k) 21 10 k ≠ 2 := by
  have g := (thF_MF S k (ai S 21 12 k).toNat).1.a (q := 10) (by decide) k
  unfold thinF
  rw [thin2_10]
  split
  · split <;> omega
  · rw [g]; omega
theorem mk1_needs {S : ST} (h : MI S) (k : Nat) : ai (mk1 S k) 21 10 k = 2 → 2 ≤ ai (mk1 S k) 21 11 k := by
  have hp := plK2_b h k
  unfold mk1
  split
  · rename_i q
    intro z
    exact absurd z (thinF_10 _ k q)
  · rw [plainF_10, plainF_11]
    intro z
    rw [if_pos z]
    exact hp.2.2 z
theorem mk2_MI {S : ST} (h : MI S) (k : Nat) (hn : -19 ≤ iv S 20 16 0) : MI (mk2 S k) := by
  have := h.i16
  exact h.pi16 (by split <;> omega)
theorem mk2_MF (S : ST) (k : Nat) : MF (kq []) (kq [16]) S (mk2 S k) := MF.si S 16 _ (by decide)
theorem mk3_MI {S : ST} (h : MI S) {k : Nat} (hk : k < 5) (hn : iv S 20 17 0 < 5) : MI (mk3 S k) := by
  have := h.i17
  unfold mk3
  split
  · exact (h.pa18 (by omega)).pi17 (by omega)
  · exact h
theorem mk3_MF (S : ST) (k : Nat) : MF (kq [18]) (kq [17]) S (mk3 S k) := by
  unfold mk3
  split
  · exact (MF.sa S 18 _ _ (by decide)).tr (MF.si _ 17 _ (by decide))
  · exact MF.rf _ _ S
theorem mk4_MI {S : ST} (h : MI S) (k : Nat) : MI (mk4 S k) := by
  unfold mk4
  split
  · exact sortF_MI h k
  · exact h
theorem mk4_MF (S : ST) (k : Nat) : MF (kq [13]) (kq []) S (mk4 S k) := by
  unfold mk4
  split
  · exact sortF_MF S k
  · exact MF.rf _ _ S
theorem kq_all {l l' : List Nat} (h : l.all (fun x => decide (x ∈ l')) = true) : ∀ k, kq l k → kq l' k := fun k hk => of_decide_eq_true (List.all_eq_true.mp h k hk)
theorem MF.up {l m l' m' : List Nat} {A B : ST} (h : MF (kq l) (kq m) A B) (h1 : l.all (fun x => decide (x ∈ l')) = true) (h2 : m.all (fun x => decide (x ∈ m')) = true) : MF (kq l') (kq m') A B := h.mono (kq_all h1) (kq_all h2)
theorem mkS_MF (S : ST) (k : Nat) : MF (kq [10, 11, 12, 13, 14, 18]) (kq [16, 17]) S (mkS S k) :=
  ((((mk1_MF S k).up (by decide) (by decide)).tr ((mk2_MF _ k).up (by decide) (by decide))).tr ((mk3_MF _ k).up (by decide) (by decide))).tr (((mk4_MF _ k).up (by decide) (by decide)).tr ((estF_MF _ k).up (by decide) (by decide)))
theorem mkS_17 (S : ST) (k : Nat) : iv (mkS S k) 20 17 0 = iv S 20 17 0 ∨ iv (mkS S k) 20 17 0 = iv S 20 17 0 + 1 := by
  have e1 : iv (mk2 (mk1 S k) k) 20 17 0 = iv S 20 17 0 := ((mk2_MF _ k).i (by decide)).trans ((mk1_MF S k).i (by decide))
  have e2 : iv (mkS S k) 20 17 0 = iv (mk3 (mk2 (mk1 S k) k) k) 20 17 0 := ((estF_MF _ k).i (by decide)).trans ((mk4_MF _ k).i (by decide))
  rw [e2]
  unfold mk3
  split
  · right
    show iv (si _ 20 17 0 _) 20 17 0 = _
    simp [iv, si, sa, up3]
    exact e1
  · left; exact e1
theorem mkS_16 (S : ST) (k : Nat) : iv (mkS S k) 20 16 0 = iv S 20 16 0 ∨ iv (mkS S k) 20 16 0 = iv S 20 16 0 - 1 := by
  have e1 : iv (mk1 S k) 20 16 0 = iv S 20 16 0 := (mk1_MF S k).i (by decide)
  have e2 : iv (mkS S k) 20 16 0 = iv (mk2 (mk1 S k) k) 20 16 0 := ((estF_MF _ k).i (by decide)).trans (((mk4_MF _ k).i (by decide)).trans ((mk3_MF _ k).i (by decide)))
  have e3 : iv (mk2 (mk1 S k) k) 20 16 0 = iv (mk1 S k) 20 16 0 - (if iv (mk1 S k) 20 2 0 = 2 ∧ ai (mk1 S k) 21 10 k = 3 then 1 else 0) := rfl
  rw [e2, e3, e1]
  split <;> omega
theorem mkS_MI {S : ST} (h : MI S) {k : Nat} (hk : k < 5) (h16 : -19 ≤ iv S 20 16 0) (h17 : iv S 20 17 0 < 5) : MI (mkS S k) ∧ MI (mk2 (mk1 S k) k) ∧ MI (mk3 (mk2 (mk1 S k) k) k) ∧ MI (mk4 (mk3 (mk2 (mk1 S k) k) k) k) ∧ (ai (mk4 (mk3 (mk2 (mk1 S k) k) k) k) 21 10 k = 2 → 1 ≤ ai (mk4 (mk3 (mk2 (mk1 S k) k) k) k) 21 11 k) := by
  have m1 := mk1_MI h k
  have m2 := mk2_MI m1 k (by rw [(mk1_MF S k).i (by decide)]; exact h16)
  have m3 := mk3_MI m2 hk (by rw [(mk2_MF _ k).i (by decide), (mk1_MF S k).i (by decide)]; exact h17)
  have m4 := mk4_MI m3 k
  have hn : ai (mk4 (mk3 (mk2 (mk1 S k) k) k) k) 21 10 k = 2 → 1 ≤ ai (mk4 (mk3 (mk2 (mk1 S k) k) k) k) 21 11 k := by
    rw [(mk4_MF _ k).a (by decide), (mk3_MF _ k).a (by decide), (mk2_MF _ k).a (by decide), (mk4_MF _ k).a (by decide), (mk3_MF _ k).a (by decide), (mk2_MF _ k).a (by decide)]
    intro z
    have := mk1_needs h k z
    omega
  exact ⟨estF_MI m4 hn, m2, m3, m4, hn⟩
theorem mkL_ok {S : ST} (h : MI S) (h16 : 0 ≤ iv S 20 16 0) (h17 : iv S 20 17 0 = 0) : ∀ i, i ≤ 5 → MI (mkL S i).2.2 ∧ MF (kq [10, 11, 12, 13, 14, 18]) (kq [16, 17]) S (mkL S i).2.2 ∧ iv (mkL S i).2.2 20 17 0 ≤ i ∧ -(i : Int) ≤ iv (mkL S i).2.2 20 16 0
  | 0, _ => ⟨h, MF.rf _ _ S, by show iv S 20 17 0 ≤ ((0 : Nat) : Int); omega, by show -((0 : Nat) : Int) ≤ iv S 20 16 0; omega⟩
  | i + 1, hi => by
    obtain ⟨g1, g2, g3, g4⟩ := mkL_ok h h16 h17 i (by omega)
    have a := mkS_17 (mkL S i).2.2 i
    have b := mkS_16 (mkL S i).2.2 i
    refine ⟨(mkS_MI g1 (by omega) (by omega) (by omega)).1, g2.tr (mkS_MF _ i), ?_, ?_⟩
    · show iv (mkS (mkL S i).2.2 i) 20 17 0 ≤ _; omega
    · show _ ≤ iv (mkS (mkL S i).2.2 i) 20 16 0; omega
theorem mk0_MI {S : ST} (h : MI S) : MI (mk0 S) := by
  have h2 := h.i2
  have h3 := h.i3
  exact ((h.pi15 (by omega)).pi16 (by omega)).pi17 (by omega)
theorem mk0_MF (S : ST) : MF (kq []) (kq [15, 16, 17]) S (mk0 S) := ((MF.si S 15 _ (by decide)).tr (MF.si _ 16 _ (by decide))).tr (MF.si _ 17 _ (by decide))
def mkM (S : ST) : ST := mkL (mk0 S) (iv S 20 4 0).toNat |>.2.2
theorem mkM_ok {S : ST} (h : MI S) : ∀ i, i ≤ 5 → MI (mkL (mk0 S) i).2.2 ∧ MF (kq [10, 11, 12, 13, 14, 18]) (kq [16, 17]) (mk0 S) (mkL (mk0 S) i).2.2 ∧ iv (mkL (mk0 S) i).2.2 20 17 0 ≤ i ∧ -(i : Int) ≤ iv (mkL (mk0 S) i).2.2 20 16 0 :=
  mkL_ok (mk0_MI h) (by show 0 ≤ iv S 20 3 0; exact h.i3.1) rfl
theorem mkA_MI {S : ST} (h : MI S) (nv al : Bool) : MI (mkA S nv al) := by
  have h2 := h.i2
  have hs := someK_b (iv S 20 16 0) (iv S 20 17 0)
  refine h.pi15 ?_
  split
  · omega
  · split
    · omega
    · split
      · exact hs
      · omega
theorem mkB_MI {S : ST} (h : MI S) : MI (mkB S) := by
  have := h.i15
  refine h.pi15 ?_
  split
  · omega
  · split <;> omega
theorem mkC_MI {S : ST} (h : MI S) : MI (mkC S) := by
  have := h.i16
  exact h.pi16 (by split <;> omega)
theorem mkD_MI {S : ST} (h : MI S) : MI (mkD S) := by
  have := h.i17
  exact h.pi17 (by split <;> omega)
theorem mkE_MI {S : ST} (h : MI S) : MI (mkE S) := by
  unfold mkE
  split
  · exact h.sA (fun j => srtA_R (fun j => h.1 18 j) _ _ j)
  · exact h
/-- of a plan that is a SOME the need is at least 2 -/
theorem someK_2 {nd n : Int} (h : someK nd n = 2) : 2 ≤ nd := by
  unfold someK at h
  split at h
  · omega
  · split at h
    · omega
    · split at h
      · omega
      · omega
theorem makes_n2 {S : ST} (h : MI S) : MI (makesF S) ∧ (iv (makesF S) 20 15 0 = 2 → 1 ≤ iv (makesF S) 20 16 0) := by
  have g := (mkM_ok h (iv S 20 4 0).toNat (by have := h.i4; omega)).1
  unfold makesF
  generalize (mkL (mk0 S) (iv S 20 4 0).toNat).1 = nv
  generalize (mkL (mk0 S) (iv S 20 4 0).toNat).2.1 = al
  generalize (mkL (mk0 S) (iv S 20 4 0).toNat).2.2 = T at g ⊢
  have a := mkA_MI g nv al
  refine ⟨mkE_MI (mkD_MI (mkC_MI (mkB_MI a))), ?_⟩
  have e15 : iv (mkE (mkD (mkC (mkB (mkA T nv al))))) 20 15 0 = iv (mkB (mkA T nv al)) 20 15 0 := by unfold mkE; split <;> rfl
  have e16 : iv (mkE (mkD (mkC (mkB (mkA T nv al))))) 20 16 0 = (if iv (mkB (mkA T nv al)) 20 15 0 = 2 then iv T 20 16 0 else 0) := by unfold mkE; split <;> rfl
  rw [e15, e16]
  intro z
  rw [if_pos z]
  have hB : iv (mkB (mkA T nv al)) 20 15 0 = (if iv (mkA T nv al) 20 17 0 = 0 ∧ iv (mkA T nv al) 20 15 0 = 0 then 3 else if iv (mkA T nv al) 20 17 0 = 0 ∧ iv (mkA T nv al) 20 15 0 = 1 then 4 else iv (mkA T nv al) 20 15 0) := rfl
  rw [hB] at z
  have h2 := g.i2
  have z2 : iv (mkA T nv al) 20 15 0 = 2 := by
    split at z
    · omega
    · split at z
      · omega
      · exact z
  have hA : iv (mkA T nv al) 20 15 0 = (if iv T 20 2 0 = 0 ∧ nv = true then 4 else if iv T 20 2 0 = 1 ∧ al = true then 3 else if iv T 20 2 0 = 2 then someK (iv T 20 16 0) (iv T 20 17 0) else iv T 20 2 0) := rfl
  rw [hA] at z2
  split at z2
  · omega
  · split at z2
    · omega
    · split at z2
      · have := someK_2 z2; omega
      · omega
