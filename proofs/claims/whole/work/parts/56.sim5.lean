/-! both sides: a plan, whole -/
def P4 (T : ST) (y Bb : Nat) (B U : ST) : Prop := (jv T 8 4 y = Bb ∧ iv T 8 7 y = -1) ∧ iv T 8 1 y = iv U 20 15 0 ∧ (iv U 20 15 0 = 2 → iv T 8 2 y = iv U 20 16 0) ∧ RW T y 5 Bb B U ∧ (iv U 20 15 0 ≤ 2 → 0 < iv U 20 17 0 ∨ iv U 20 15 0 = 2)
theorem RW.of {T T' B M M' : ST} {y i Bb : Nat} (h : RW T y i Bb B M) (hi : i ≤ 5) (e3 : iv T' 8 3 y = iv M' 20 17 0) (e17 : iv M' 20 17 0 = iv M 20 17 0 ∨ iv M' 20 17 0 = 0) (e9 : ∀ j, pa T' 9 y j = pa T 9 y j) (e11 : ∀ q c, iv T' 11 q c = iv T 11 q c) (ej : ∀ c, jv T' 11 4 c = jv T 11 4 c) (e12 : ∀ c j, pa T' 12 c j = pa T 12 c j) (e14 : ∀ q p, iv T' 14 q p = iv T 14 q p ∧ jv T' 14 q p = jv T 14 q p) (eM : ∀ q j, ai M' 21 q j = ai M 21 q j) : RW T' y 5 Bb B M' := by
  obtain ⟨a, b, c, d⟩ := h
  refine ⟨e3, by omega, fun x z hxz hz => ?_, fun j hj => ?_⟩
  · rw [eM, eM]; exact c x z hxz (by omega)
  · obtain ⟨q1, q2, q3, q4⟩ := d j (by omega)
    rw [eM, e9, eM]
    exact ⟨by omega, q2, q3, q4.fr (fun q => e11 q _) (ej _) (fun j => e12 _ j) (fun q p _ => e14 q p) (eM _ _) (eM _ _) (eM _ _) (eM _ _) (fun _ _ => eM _ _)⟩
theorem setKS_8 (S : ST) (y : Nat) (a b : Int) : iv (setKS S 8 y a b) 8 1 y = a ∧ iv (setKS S 8 y a b) 8 3 y = b ∧ iv (setKS S 8 y a b) 8 7 y = iv S 8 7 y ∧ iv (setKS S 8 y a b) 8 2 y = iv S 8 2 y := by
  refine ⟨?_, ?_, ?_, ?_⟩ <;> simp [setKS, iv, si, up3]
/-- what settling leaves of a plan -/
theorem settle8 (T : ST) (y : Nat) (n : Int) : ∃ T4 : ST, T4 = settleEmptyF (settleSomeF T 8 y n) 8 y ∧ (∀ t k c, t ≠ 8 → iv T4 t k c = iv T t k c) ∧ T4.2 = T.2 ∧ iv T4 8 2 y = iv T 8 2 y ∧ iv T4 8 7 y = iv T 8 7 y := by
  refine ⟨_, rfl, ?_⟩
  have key : ∀ (S : ST) (a b : Int), (∀ t k c, t ≠ 8 → iv (setKS S 8 y a b) t k c = iv S t k c) ∧ (setKS S 8 y a b).2 = S.2 := fun S a b => ⟨fun t k c ht => by
    show (if t = 8 ∧ k = 3 ∧ c = y then b else if t = 8 ∧ k = 1 ∧ c = y then a else iv S t k c) = _
    rw [if_neg (fun z => ht z.1), if_neg (fun z => ht z.1)], rfl⟩
  have h1 : (∀ t k c, t ≠ 8 → iv (settleSomeF T 8 y n) t k c = iv T t k c) ∧ (settleSomeF T 8 y n).2 = T.2 ∧ iv (settleSomeF T 8 y n) 8 2 y = iv T 8 2 y ∧ iv (settleSomeF T 8 y n) 8 7 y = iv T 8 7 y := by
    unfold settleSomeF
    split
    · exact ⟨(key _ _ _).1, (key _ _ _).2, (setKS_8 _ _ _ _).2.2.2, (setKS_8 _ _ _ _).2.2.1⟩
    · exact ⟨fun _ _ _ _ => rfl, rfl, rfl, rfl⟩
  generalize settleSomeF T 8 y n = S at h1 ⊢
  obtain ⟨a, b, c, d⟩ := h1
  unfold settleEmptyF
  split
  · exact ⟨fun t k z ht => ((key S 3 0).1 t k z ht).trans (a t k z ht), (key S 3 0).2.trans b, (setKS_8 S y 3 0).2.2.2.trans c, (setKS_8 S y 3 0).2.2.1.trans d⟩
  · split
    · exact ⟨fun t k z ht => ((key S 4 0).1 t k z ht).trans (a t k z ht), (key S 4 0).2.trans b, (setKS_8 S y 4 0).2.2.2.trans c, (setKS_8 S y 4 0).2.2.1.trans d⟩
    · exact ⟨a, b, c, d⟩
theorem someK_v (nd n : Int) (hn : 0 ≤ n) : (someK nd n = 3 ∨ someK nd n = 4) ∨ (someK nd n ≤ 2 ∧ 0 ≤ someK nd n ∧ 0 < n) := by
  unfold someK
  split
  · exact Or.inl (Or.inl rfl)
  · split
    · exact Or.inl (Or.inr rfl)
    · split
      · exact Or.inr ⟨by omega, by omega, by omega⟩
      · split <;> exact Or.inr ⟨by omega, by omega, by omega⟩
theorem sim_settle {T B M : ST} {y i Bb : Nat} {nv al : Bool} (hi : i ≤ 5) (hB : MI B) (hM : MI M) (e2 : iv M 20 2 0 = iv B 20 2 0) (h : PF T y i Bb B M nv al) : P4 (settleEmptyF (settleSomeF T 8 y (iv T 8 3 y)) 8 y) y Bb B (mkD (mkC (mkB (mkA M nv al)))) := by
  obtain ⟨⟨p4, p7⟩, pc⟩ := h
  have h2 := hB.i2
  obtain ⟨T4, hT4, f1, f2, f3, f7⟩ := settle8 T y (iv T 8 3 y)
  have e9 : ∀ t c j, pa T4 t c j = pa T t c j := fun t c j => by show (T4.2.2.2 t c j).getD 0 = (T.2.2.2 t c j).getD 0; rw [f2]
  have ejv : ∀ t k c, jv T4 t k c = jv T t k c := fun t k c => by show T4.2.1 t k c = T.2.1 t k c; rw [f2]
  -- the model's numbers
  have a15 : iv (mkA M nv al) 20 15 0 = (if iv M 20 2 0 = 0 ∧ nv = true then 4 else if iv M 20 2 0 = 1 ∧ al = true then 3 else if iv M 20 2 0 = 2 then someK (iv M 20 16 0) (iv M 20 17 0) else iv M 20 2 0) := rfl
  have b15 : iv (mkD (mkC (mkB (mkA M nv al)))) 20 15 0 = (if iv M 20 17 0 = 0 ∧ iv (mkA M nv al) 20 15 0 = 0 then 3 else if iv M 20 17 0 = 0 ∧ iv (mkA M nv al) 20 15 0 = 1 then 4 else iv (mkA M nv al) 20 15 0) := rfl
  have b16 : iv (mkD (mkC (mkB (mkA M nv al)))) 20 16 0 = (if iv (mkD (mkC (mkB (mkA M nv al)))) 20 15 0 = 2 then iv M 20 16 0 else 0) := rfl
  have b17 : iv (mkD (mkC (mkB (mkA M nv al)))) 20 17 0 = (if iv (mkD (mkC (mkB (mkA M nv al)))) 20 15 0 ≤ 2 then iv M 20 17 0 else 0) := rfl
  have eM : ∀ q j, ai (mkD (mkC (mkB (mkA M nv al)))) 21 q j = ai M 21 q j := fun _ _ => rfl
  rw [e2] at a15
  generalize iv (mkA M nv al) 20 15 0 = KA at a15 b15
  generalize mkD (mkC (mkB (mkA M nv al))) = U at b15 b16 b17 eM ⊢
  rw [← hT4]
  have hfr : ∀ hr : RW T y i Bb B M, iv T4 8 3 y = iv U 20 17 0 → (iv U 20 17 0 = iv M 20 17 0 ∨ iv U 20 17 0 = 0) → RW T4 y 5 Bb B U := fun hr x z => hr.of hi x z (fun j => e9 9 y j) (fun q c => f1 11 q c (by decide)) (fun c => ejv 11 4 c) (fun c j => e9 12 c j) (fun q p => ⟨f1 14 q p (by decide), ejv 14 q p⟩) eM
  rcases pc with ⟨⟨k1, k2⟩, nv0, al0, hr⟩ | ⟨fx, f3z⟩
  · have eKA : KA = (if iv B 20 2 0 = 2 then someK (iv M 20 16 0) (iv M 20 17 0) else iv B 20 2 0) := by
      rw [a15, if_neg (fun z => by rw [nv0 z.1] at z; exact absurd z.2 (by decide)), if_neg (fun z => by rw [al0 z.1] at z; exact absurd z.2 (by decide))]
    obtain ⟨r1, r2, -, -⟩ := id hr
    have hsv := someK_v (iv M 20 16 0) (iv M 20 17 0) r2.1
    -- the class's kind and size
    have cls : iv T4 8 1 y = iv U 20 15 0 ∧ iv T4 8 3 y = iv U 20 17 0 ∧ (iv U 20 15 0 ≤ 2 → 0 < iv M 20 17 0) ∧ (iv U 20 15 0 = 2 → iv B 20 2 0 = 2) := by
      rw [b17, b15, hT4]
      unfold settleSomeF
      rw [k1]
      by_cases c2 : iv B 20 2 0 = 2
      · rw [if_pos c2] at eKA ⊢
        rw [k2 c2, r1, ← eKA]
        rw [← eKA] at hsv
        rcases hsv with z | ⟨z1, z2, z3⟩
        · obtain ⟨s1, s3, -, -⟩ := setKS_8 T y KA 0
          rw [show (if KA = 3 ∨ KA = 4 then (0 : Int) else iv M 20 17 0) = 0 from if_pos z]
          unfold settleEmptyF
          rw [s1, s3, if_neg (by omega), if_neg (by omega), if_neg (by omega), if_neg (by omega), if_neg (by omega), s1, s3]
          exact ⟨rfl, rfl, fun w => absurd w (by omega), fun w => absurd w (by omega)⟩
        · obtain ⟨s1, s3, -, -⟩ := setKS_8 T y KA (iv M 20 17 0)
          rw [show (if KA = 3 ∨ KA = 4 then (0 : Int) else iv M 20 17 0) = iv M 20 17 0 from if_neg (by omega)]
          unfold settleEmptyF
          rw [s1, s3, if_neg (by omega), if_neg (by omega), if_neg (by omega), if_neg (by omega), s1, s3, if_pos (by omega)]
          exact ⟨rfl, rfl, fun _ => z3, fun _ => c2⟩
      · rw [if_neg c2] at eKA ⊢
        unfold settleEmptyF
        rw [k1, r1, eKA]
        by_cases d0 : iv M 20 17 0 = 0 ∧ iv B 20 2 0 = 0
        · obtain ⟨s1, s3, -, -⟩ := setKS_8 T y 3 0
          rw [if_pos d0, if_pos d0, s1, s3, if_neg (by omega)]
          exact ⟨rfl, rfl, fun w => absurd w (by omega), fun w => absurd w (by omega)⟩
        · by_cases d1 : iv M 20 17 0 = 0 ∧ iv B 20 2 0 = 1
          · obtain ⟨s1, s3, -, -⟩ := setKS_8 T y 4 0
            rw [if_neg d0, if_pos d1, if_neg d0, if_pos d1, s1, s3, if_neg (by omega)]
            exact ⟨rfl, rfl, fun w => absurd w (by omega), fun w => absurd w (by omega)⟩
          · rw [if_neg d0, if_neg d1, if_neg d0, if_neg d1, k1, r1, if_pos (by omega)]
            exact ⟨rfl, rfl, fun _ => by omega, fun w => absurd w c2⟩
    obtain ⟨c1, c3, c5, c6⟩ := cls
    refine ⟨⟨(ejv 8 4 y).trans p4, f7.trans p7⟩, c1, fun z => ?_, hfr hr c3 ?_, fun z => Or.inl ?_⟩
    · rw [f3, k2 (c6 z), b16, if_pos z]
    · rw [b17]
      split
      · exact Or.inl rfl
      · exact Or.inr rfl
    · rw [b17, if_pos z]; exact c5 z
  · have eKA : KA = 4 ∨ KA = 3 := by
      rcases fx with ⟨a, b, c⟩ | ⟨a, b, c⟩
      · left; rw [a15, if_pos ⟨a, b⟩]
      · right; rw [a15, if_neg (by omega), if_pos ⟨a, b⟩]
    have eK2 : iv T 8 1 y = KA := by
      rcases fx with ⟨a, b, c⟩ | ⟨a, b, c⟩
      · rw [c, a15, if_pos ⟨a, b⟩]
      · rw [c, a15, if_neg (by omega), if_pos ⟨a, b⟩]
    have u15 : iv U 20 15 0 = KA := by rw [b15, if_neg (by omega), if_neg (by omega)]
    have u17 : iv U 20 17 0 = 0 := by rw [b17, if_neg (by omega)]
    have eT : T4 = T := by
      rw [hT4]
      unfold settleSomeF
      rw [if_neg (by omega)]
      unfold settleEmptyF
      rw [if_neg (by omega), if_neg (by omega)]
    rw [eT]
    refine ⟨⟨p4, p7⟩, by rw [eK2, u15], fun z => absurd z (by omega), ⟨by rw [f3z, u17], by omega, fun a b _ hb => absurd hb (by omega), fun j hj => absurd hj (by omega)⟩, fun z => absurd z (by omega)⟩
theorem srt_lt2 {α : Type} {lt lt' : α → α → Bool} {A : Nat → α} {P : Nat → α → Prop} {m : Nat} (hP : ∀ n, n < m → ∀ j, j < n → P n (A j)) (hl : ∀ n, n < m → ∀ b, P n b → lt (A n) b = lt' (A n) b) : ∀ n, n ≤ m → srt lt A n = srt lt' A n
  | 0, _ => rfl
  | n + 1, hn => by
    have ih := srt_lt2 hP hl n (by omega)
    have hq : ∀ j, j < n → P n (srt lt' A n j) := srt_P (P := P n) (n := n) (fun j hj => hP n (by omega) j hj) n (Nat.le_refl n)
    have hp : posn lt (srt lt' A n) (A n) n = posn lt' (srt lt' A n) (A n) n := posn_map (f := fun x => x) n (fun _ _ => rfl) (fun j hj => hl n (by omega) _ (hq j hj))
    show insAt _ n (posn lt _ _ n) _ = insAt _ n (posn lt' _ _ n) _
    rw [ih, hp]
/-- the plan y of the class and the model's, made -/
def PN (T : ST) (y Bb : Nat) (B M : ST) : Prop := ((jv T 8 4 y = Bb ∧ iv T 8 7 y = -1) ∧ iv T 8 1 y = iv M 20 15 0 ∧ (iv M 20 15 0 = 2 → iv T 8 2 y = iv M 20 16 0 ∧ 1 ≤ iv M 20 16 0) ∧ iv T 8 6 y = planEstM M ∧ iv T 8 3 y = iv M 20 17 0) ∧ (0 ≤ iv M 20 17 0 ∧ iv M 20 17 0 ≤ 5) ∧ (∀ a b : Nat, (a : Int) < iv M 20 17 0 → (b : Int) < iv M 20 17 0 → ai M 21 18 a = ai M 21 18 b → a = b) ∧ ∀ j : Nat, (j : Int) < iv M 20 17 0 → (0 ≤ ai M 21 18 j ∧ ai M 21 18 j < 5) ∧ pa T 9 y j = 5 * y + (ai M 21 18 j).toNat ∧ ai M 21 10 (ai M 21 18 j).toNat ≤ 2 ∧ KR T (5 * y + (ai M 21 18 j).toNat) (ai M 21 18 j).toNat Bb B M
theorem fin_PN {T B U : ST} {y Bb : Nat} (hB : MI B) (hU : MI U) (hBb : Bb = bset (mthr B) 40) (hmm : mmany U = mmany B) (hn2 : iv U 20 15 0 = 2 → 1 ≤ iv U 20 16 0) (h : P4 T y Bb B U) : PN (orderP (appraiseP T y) y) y Bb B (mkE U) := by
  obtain ⟨⟨p4, p7⟩, k1, k2, ⟨r1, r2, r3, r4⟩, hne⟩ := h
  have h15 := hU.i15
  have eP : pop (jv T 8 4 y) = mmany B := by
    rw [p4, hBb, pop_bset]
    rfl
  have hm40 := mmany_le B
  have eA : ∀ q, q ≠ 6 → iv (appraiseP T y) 8 q y = iv T 8 q y := fun q hq => by
    show (if 8 = 8 ∧ q = 6 ∧ y = y then _ else iv T 8 q y) = _
    rw [if_neg (fun z => hq z.2.1)]
  have eA6 : iv (appraiseP T y) 8 6 y = aprF (iv U 20 15 0) (iv T 8 2 y) ((mmany B : Nat) : Int) (leastF (fun j => iv T 11 6 (pa T 9 y j)) ((mmany B : Nat) : Int) (iv U 20 17 0).toNat) (sumF (fun j => iv T 11 6 (pa T 9 y j)) (iv U 20 17 0).toNat) := by
    unfold appraiseP
    rw [eP, k1, r1]
    simp [iv, si, up3]
  have eAt : ∀ t q c, t ≠ 8 → iv (appraiseP T y) t q c = iv T t q c := fun t q c ht => by
    show (if t = 8 ∧ q = 6 ∧ c = y then _ else iv T t q c) = _
    rw [if_neg (fun z => ht z.1)]
  have eO : ∀ t q p, iv (orderP (appraiseP T y) y) t q p = iv (appraiseP T y) t q p := fun t q p => by
    unfold orderP
    split <;> rfl
  have eOj : ∀ t q p, jv (orderP (appraiseP T y) y) t q p = jv T t q p := fun t q p => by
    unfold orderP
    split <;> rfl
  have eO12 : ∀ c j, pa (orderP (appraiseP T y) y) 12 c j = pa T 12 c j := fun c j => by
    unfold orderP
    split <;> rfl
  have eest : ∀ j : Nat, (j : Int) < iv U 20 17 0 → iv T 11 6 (pa T 9 y j) = oest U j ∧ oest U j ≤ ((mmany B : Nat) : Int) := fun j hj => by
    obtain ⟨q1, q2, q3, q4⟩ := r4 j hj
    rw [q2]
    exact q4.2 q3
  have e15 : iv (mkE U) 20 15 0 = iv U 20 15 0 := by unfold mkE; split <;> rfl
  have e16 : iv (mkE U) 20 16 0 = iv U 20 16 0 := by unfold mkE; split <;> rfl
  have e17 : iv (mkE U) 20 17 0 = iv U 20 17 0 := by unfold mkE; split <;> rfl
  have eq : ∀ q j, q ≠ 18 → ai (mkE U) 21 q j = ai U 21 q j := fun q j hq => by
    unfold mkE
    split
    · rw [ai_sA_ne U hq]
    · rfl
  have emm : mmany (mkE U) = mmany B := ((mcount_of (fun j => eq 0 j (by decide)) (fun j => eq 1 j (by decide))).2).trans hmm
  have keep : ∀ c, KR T (5 * y + c) c Bb B U → KR (orderP (appraiseP T y) y) (5 * y + c) c Bb B (mkE U) := fun c hk => hk.fr (fun q => (eO _ _ _).trans (eAt 11 q _ (by decide))) (eOj _ _ _) (fun j => eO12 _ j) (fun q p _ => ⟨(eO _ _ _).trans (eAt 14 q p (by decide)), eOj _ _ _⟩) (eq _ _ (by decide)) (eq _ _ (by decide)) (eq _ _ (by decide)) (eq _ _ (by decide)) (fun _ _ => eq _ _ (by decide))
  have pe : planEstM (mkE U) = estM (iv U 20 15 0) (iv U 20 16 0) (leastF (oest (mkE U)) 40 (iv U 20 17 0).toNat) (sumF (oest (mkE U)) (iv U 20 17 0).toNat) ((mmany B : Nat) : Int) := by
    unfold planEstM
    rw [e15, e16, e17, emm]
  by_cases c0 : iv U 20 15 0 = 0
  · have hn0 : 0 < iv U 20 17 0 := by
      have := hne (by omega)
      omega
    have eE : mkE U = sA U 18 (srtA (ltO U) (ai U 21 18) 0 (iv U 20 17 0).toNat) := if_pos c0
    have h18 : ∀ j, j < 6 → ai (mkE U) 21 18 j = srt (ltO U) (fun j => ai U 21 18 (0 + j)) (iv U 20 17 0).toNat j := fun j hj => by
      rw [eE, ai_sA]
      have := srtA_in (lt := ltO U) (A := ai U 21 18) (b := 0) (i := (iv U 20 17 0).toNat) (j := j) hj
      rw [Nat.zero_add] at this
      exact this
    have hz : (fun j => ai U 21 18 (0 + j)) = ai U 21 18 := by
      funext j
      rw [Nat.zero_add]
    rw [hz] at h18
    have hoe : ∀ j, j < (iv U 20 17 0).toNat → oest (mkE U) j = ai U 21 14 (srt (ltO U) (ai U 21 18) (iv U 20 17 0).toNat j).toNat := fun j hj => by
      show ai (mkE U) 21 14 (ai (mkE U) 21 18 j).toNat = _
      rw [eq 14 _ (by decide), h18 j (by omega)]
    have hle : leastF (fun j => iv T 11 6 (pa T 9 y j)) ((mmany B : Nat) : Int) (iv U 20 17 0).toNat = leastF (oest (mkE U)) 40 (iv U 20 17 0).toNat := by
      refine leastF_eq (fun j hj => ?_) (fun j hj => ?_) (Or.inr ⟨by omega, fun j hj => ?_, fun j hj => ?_⟩)
      · obtain ⟨i, hi, e⟩ := srt_ex (lt := ltO U) (A := ai U 21 18) (P := fun x => ai U 21 14 x.toNat = iv T 11 6 (pa T 9 y j)) (m := (iv U 20 17 0).toNat) (iv U 20 17 0).toNat (Nat.le_refl _) ⟨j, hj, (eest j (by omega)).1.symm⟩
        exact ⟨i, hi, by rw [hoe i hi]; exact e⟩
      · obtain ⟨i, hi, e⟩ := srt_P (lt := ltO U) (A := ai U 21 18) (P := fun x => ∃ i, i < (iv U 20 17 0).toNat ∧ x = ai U 21 18 i) (n := (iv U 20 17 0).toNat) (fun j hj => ⟨j, hj, rfl⟩) (iv U 20 17 0).toNat (Nat.le_refl _) j hj
        refine ⟨i, hi, ?_⟩
        rw [hoe j hj, e]
        exact (eest i (by omega)).1
      · have := eest j (by omega); omega
      · have := eest j (by omega); omega
    have eord : orderP (appraiseP T y) y = sar (appraiseP T y) 9 y (ordF (appraiseP T y) 9 y (iv (appraiseP T y) 8 3 y) (srt (ltP (appraiseP T y)) (pa (appraiseP T y) 9 y) (iv (appraiseP T y) 8 3 y).toNat)) := if_pos (by rw [eA 1 (by decide)]; omega)
    have elt : ltP (appraiseP T y) = ltP T := by
      funext a b
      unfold ltP
      rw [eAt 11 6 a (by decide), eAt 11 6 b (by decide)]
    have ep0 : ∀ j, j < (iv U 20 17 0).toNat → pa (orderP (appraiseP T y) y) 9 y j = srt (ltP T) (pa T 9 y) (iv U 20 17 0).toNat j := fun j hj => by
      rw [eord, elt]
      show ((if 9 = 9 ∧ y = y then ordF (appraiseP T y) 9 y (iv (appraiseP T y) 8 3 y) _ j else _) : Option Nat).getD 0 = _
      rw [if_pos ⟨rfl, rfl⟩]
      unfold ordF
      rw [eA 3 (by decide), r1, if_pos (by omega)]
      rfl
    -- by the estimates alone, for the numbers rise
    have est : srt (ltP T) (pa T 9 y) (iv U 20 17 0).toNat = srt (fun a b => decide (iv T 11 6 a < iv T 11 6 b)) (pa T 9 y) (iv U 20 17 0).toNat := by
      refine srt_lt2 (P := fun n b => b % 5 < pa T 9 y n % 5) (m := (iv U 20 17 0).toNat) (fun n hn j hj => ?_) (fun n hn b hb => ?_) _ (Nat.le_refl _)
      · obtain ⟨q1, q2, -⟩ := r4 j (by omega)
        obtain ⟨q3, q4, -⟩ := r4 n (by omega)
        have := r3 j n hj (by omega)
        show pa T 9 y j % 5 < pa T 9 y n % 5
        rw [q2, q4]
        omega
      · unfold ltP
        apply decide_eq_decide.mpr
        constructor
        · intro z
          rcases z with z | ⟨z1, z2⟩
          · exact z
          · omega
        · intro z
          exact Or.inl z
    have hmp := srt_map (lt := fun a b => decide (iv T 11 6 a < iv T 11 6 b)) (lt' := ltO U) (f := fun p => ((p % 5 : Nat) : Int)) (A := pa T 9 y) (B := ai U 21 18) (P := fun p => iv T 11 6 p = ai U 21 14 (p % 5)) (m := (iv U 20 17 0).toNat) (fun j hj => by
        obtain ⟨q1, q2, -⟩ := r4 j (by omega)
        rw [q2]
        omega) (fun j hj => by
        obtain ⟨q1, q2, q3, q4⟩ := r4 j (by omega)
        rw [q2, show (5 * y + (ai U 21 18 j).toNat) % 5 = (ai U 21 18 j).toNat by omega]
        exact (q4.2 q3).1) (fun a b ha hb => by
        show decide _ = decide _
        rw [ha, hb]
        rfl) (iv U 20 17 0).toNat (Nat.le_refl _)
    have hPr := srt_P (lt := ltP T) (A := pa T 9 y) (P := fun p => ∃ i : Nat, (i : Int) < iv U 20 17 0 ∧ p = pa T 9 y i) (n := (iv U 20 17 0).toNat) (fun j hj => ⟨j, by omega, rfl⟩) (iv U 20 17 0).toNat (Nat.le_refl _)
    refine ⟨⟨⟨(eOj _ _ _).trans p4, (eO _ _ _).trans ((eA 7 (by decide)).trans p7)⟩, ?_, fun z => ?_, ?_, ?_⟩, by rw [e17]; exact r2, fun a b ha hb e => ?_, fun j hj => ?_⟩
    · rw [eO, eA 1 (by decide), e15]; exact k1
    · rw [e15] at z; omega
    · rw [eO, eA6, pe]
      unfold aprF estM
      rw [if_pos c0, if_pos c0, hle]
    · rw [eO, eA 3 (by decide), e17]; exact r1
    · rw [e17] at ha hb
      rw [h18 a (by omega), h18 b (by omega)] at e
      refine srt_inj (m := (iv U 20 17 0).toNat) (fun i j hi hj e => ?_) _ (Nat.le_refl _) a b (by omega) (by omega) e
      rcases Nat.lt_trichotomy i j with w | w | w
      · have := r3 i j w (by omega); omega
      · exact w
      · have := r3 j i w (by omega); omega
    · rw [e17] at hj
      obtain ⟨i, hi, e⟩ := hPr j (by omega)
      obtain ⟨q1, q2, q3, q4⟩ := r4 i hi
      have e18 : ai (mkE U) 21 18 j = ai U 21 18 i := by
        rw [h18 j (by omega), hmp j (by omega), ← est, e, q2]
        omega
      rw [e18, ep0 j (by omega), e, eq 10 _ (by decide)]
      exact ⟨q1, q2, q3, keep _ q4⟩
  · have eE : mkE U = U := if_neg c0
    have eord : orderP (appraiseP T y) y = appraiseP T y := if_neg (by rw [eA 1 (by decide)]; omega)
    have hsu : sumF (fun j => iv T 11 6 (pa T 9 y j)) (iv U 20 17 0).toNat = sumF (oest U) (iv U 20 17 0).toNat := sumF_congr _ (fun j hj => (eest j (by omega)).1)
    rw [eE] at pe keep ⊢
    rw [eord] at keep eO eOj ⊢
    refine ⟨⟨⟨(eOj _ _ _).trans p4, (eA 7 (by decide)).trans p7⟩, (eA 1 (by decide)).trans k1, fun z => ⟨(eA 2 (by decide)).trans (k2 z), hn2 z⟩, ?_, (eA 3 (by decide)).trans r1⟩, r2, fun a b ha hb e => ?_, fun j hj => ?_⟩
    · rw [eA6, pe, hsu]
      unfold aprF estM
      by_cases d1 : iv U 20 15 0 = 1
      · rw [if_neg c0, if_pos d1, if_neg c0, if_neg (show ¬ iv U 20 15 0 = 3 by omega), if_neg (show ¬ iv U 20 15 0 = 4 by omega), if_neg (show ¬ iv U 20 15 0 = 2 by omega)]
        split <;> omega
      · by_cases d2 : iv U 20 15 0 = 2
        · have := hn2 d2
          rw [k2 d2, if_neg c0, if_neg d1, if_pos d2, if_neg (show ¬ iv U 20 16 0 < 1 by omega), if_neg c0, if_neg (show ¬ iv U 20 15 0 = 3 by omega), if_neg (show ¬ iv U 20 15 0 = 4 by omega), if_pos d2]
          split <;> omega
        · by_cases d3 : iv U 20 15 0 = 3
          · rw [if_neg c0, if_neg d1, if_neg d2, if_pos d3, if_neg c0, if_pos d3]
          · rw [if_neg c0, if_neg d1, if_neg d2, if_neg d3, if_neg c0, if_neg d3, if_pos (show iv U 20 15 0 = 4 by omega)]
    · rcases Nat.lt_trichotomy a b with w | w | w
      · have := r3 a b w hb; omega
      · exact w
      · have := r3 b a w ha; omega
    · obtain ⟨q1, q2, q3, q4⟩ := r4 j hj
      exact ⟨q1, q2, q3, keep _ q4⟩
theorem plF_past {y Bb n : Nat} {S : ST} (h : iv (plF y Bb n S) 3 3 0 = (n : Int)) : ∀ i, n ≤ i → plF y Bb i S = plF y Bb n S
  | 0, hi => by rw [show n = 0 by omega]
  | i + 1, hi => by
    by_cases q : n = i + 1
    · rw [q]
    · have ih := plF_past h i (by omega)
      have e : plF y Bb (i + 1) S = plF y Bb i S := if_pos (Or.inr (by rw [ih, h]; omega))
      rw [e, ih]
theorem sim_plan {A B : ST} {y : Nat} (hy : y < 2) (hA : CI A) (hB : MI B) (hD : QD A B) (hQ : QQ A B) : PN (pmkF y A) y (bset (mthr B) 40) B (makesF B) := by
  obtain ⟨hR, hW, hIQ⟩ := hA
  have hBb := bthr_eq hD hB
  have h4 := hB.i4
  have hB40 : bset (thr A) 40 < 2 ^ 40 := bset40 _
  have r1 : RI (restartF A 8 y (iv A 3 1 0) (iv A 3 2 0) (bset (thr A) 40)) := restartF_RI (Or.inr rfl) hR (by have := hIQ.2.1; omega) (by have := hIQ.2.2.1; omega) hB40
  have f1 : FM (PR y) (QR y) A (restartF A 8 y (iv A 3 1 0) (iv A 3 2 0) (bset (thr A) 40)) := restartF_FM (Or.inl ⟨rfl, rfl⟩)
  have hl := pl_loop (y := y) hy hD hQ hIQ r1 hB rfl f1 (by rw [← hQ.1.1]; simp [restartF, iv, si, sj, up3]) (by rw [← hQ.1.2.1]; simp [restartF, iv, si, sj, up3]) (by simp [restartF, iv, si, sj, up3]) (by simp [restartF, jv, si, sj, up3]) (by simp [restartF, iv, si, sj, up3]) (iv B 20 4 0).toNat (by omega)
  obtain ⟨l1, l2, l3⟩ := hl
  obtain ⟨m1, m2, -, -⟩ := mkM_ok hB (iv B 20 4 0).toNat (by omega)
  have hM0 : MF (kq [10, 11, 12, 13, 14, 18]) (kq [15, 16, 17]) B (mkL (mk0 B) (iv B 20 4 0).toNat).2.2 := ((mk0_MF B).up (by decide) (by decide)).tr (m2.up (by decide) (by decide))
  have e33 : iv (plF y (bset (thr A) 40) (iv B 20 4 0).toNat (restartF A 8 y (iv A 3 1 0) (iv A 3 2 0) (bset (thr A) 40))) 3 3 0 = ((iv B 20 4 0).toNat : Int) := by
    rw [(l2.2.1 3 3 0 (by unfold PR; omega)).1]
    have := hQ.1.2.2
    omega
  have e5 := plF_past e33 5 (by omega)
  have hs := sim_settle (y := y) (by omega) hB m1 (hM0.i (q := 2) (by decide)) l1
  have hn := makes_n2 hB
  have hU : MI (mkD (mkC (mkB (mkA (mkL (mk0 B) (iv B 20 4 0).toNat).2.2 (mkL (mk0 B) (iv B 20 4 0).toNat).1 (mkL (mk0 B) (iv B 20 4 0).toNat).2.1)))) := mkD_MI (mkC_MI (mkB_MI (mkA_MI m1 _ _)))
  have em : mmany (mkD (mkC (mkB (mkA (mkL (mk0 B) (iv B 20 4 0).toNat).2.2 (mkL (mk0 B) (iv B 20 4 0).toNat).1 (mkL (mk0 B) (iv B 20 4 0).toNat).2.1)))) = mmany B := hM0.m0.2.1
  unfold pmkF
  dsimp only
  unfold makesF at hn ⊢
  rw [e5]
  rw [← hBb]
  refine fin_PN hB hU hBb em (fun z => ?_) hs
  have e15 : ∀ U : ST, iv (mkE U) 20 15 0 = iv U 20 15 0 := fun U => by unfold mkE; split <;> rfl
  have e16 : ∀ U : ST, iv (mkE U) 20 16 0 = iv U 20 16 0 := fun U => by unfold mkE; split <;> rfl
  have := hn.2
  rw [e15, e16] at this
  exact this z
