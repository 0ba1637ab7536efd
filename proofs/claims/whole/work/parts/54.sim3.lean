/-! both sides: a planned clause, whole -/
/-- the class's clause y in T and the model's row k in M, before they are put in order -/
def C1 (T : ST) (y k Bb : Nat) (B M : ST) : Prop := iv T 11 1 y = ai M 21 10 k ∧ jv T 11 4 y = Bb ∧ iv T 11 7 y = -1 ∧ (ai M 21 10 k ≤ 2 → (ai M 21 10 k = 2 → iv T 11 2 y = ai M 21 11 k ∧ 2 ≤ ai M 21 11 k) ∧ (ai M 21 10 k ≤ 1 → 1 ≤ ai M 21 12 k) ∧ LT T y (ai M 21 12 k).toNat 6 Bb B (fun j => ai M 21 13 (6 * k + j)) ∧ 0 ≤ ai M 21 12 k)
theorem C1.of {T B M M' : ST} {y k Bb : Nat} (h : C1 T y k Bb B M) (e10 : ai M' 21 10 k = ai M 21 10 k) (e11 : ai M' 21 11 k = ai M 21 11 k) (e12 : ai M' 21 12 k = ai M 21 12 k) (e13 : ∀ j, ai M' 21 13 j = ai M 21 13 j) : C1 T y k Bb B M' := by
  unfold C1 at *
  rw [e10, e11, e12, show (fun j => ai M' 21 13 (6 * k + j)) = (fun j => ai M 21 13 (6 * k + j)) from funext (fun j => e13 _)]
  exact h
/-- as far as the class's settling -/
def cls4 (A : ST) (y k Bb : Nat) : ST := settleEmptyF (settleConF (keepLitsF (settleSomeF (if iv (restartF A 11 y (iv A 5 1 k) (iv A 5 2 k) Bb) 5 3 k = 1 then turnF (restartF A 11 y (iv A 5 1 k) (iv A 5 2 k) Bb) y (iv (restartF A 11 y (iv A 5 1 k) (iv A 5 2 k) Bb) 5 4 k) else restartF A 11 y (iv A 5 1 k) (iv A 5 2 k) Bb) 11 y (iv (restartF A 11 y (iv A 5 1 k) (iv A 5 2 k) Bb) 5 4 k)) y k Bb) y) 11 y
theorem setKS_1 (S : ST) (y : Nat) (a b : Int) : iv (setKS S 11 y a b) 11 1 y = a ∧ iv (setKS S 11 y a b) 11 3 y = b ∧ iv (setKS S 11 y a b) 11 7 y = iv S 11 7 y ∧ jv (setKS S 11 y a b) 11 4 y = jv S 11 4 y := by
  refine ⟨?_, ?_, ?_, rfl⟩ <;> simp [setKS, iv, si, up3]
theorem cls4_C1 {A B : ST} {y k Bb : Nat} (hD : QD A B) (hQ : QQ A B) (hB : MI B) (hk : k < 5) : C1 (cls4 A y k Bb) y k Bb B (mk1 B k) := by
  have h8 := hB.a8 k
  obtain ⟨U, hU, u1, u2, u3, u4, u7⟩ := cl_plain (A := A) (B := B) (y := y) (Bb := Bb) hQ hk hB
  obtain ⟨hb1, hb2, hb3⟩ := plK2_b hB k
  have hFM : FM (PC y) (QC y) A U := by
    rw [hU]
    have h11 : PC y 11 y := Or.inl ⟨rfl, rfl⟩
    refine FM.tr ?_ (settleSomeF_FM h11)
    split
    · exact (restartF_FM h11).tr (turnF_FM h11)
    · exact restartF_FM h11
  have e54 : iv U 5 4 k = ai B 21 8 k := by
    rw [(hFM.2.1 5 4 k (by unfold PC; omega)).1]
    exact (hQ.2 k hk).1.2.2.2
  unfold cls4
  rw [← hU]
  by_cases c34 : plK2 B k = 3 ∨ plK2 B k = 4
  · -- fixed at once
    have e1 : keepLitsF U y k Bb = U := if_pos (by omega)
    have e2 : settleConF U y = U := if_neg (by omega)
    have e3 : settleEmptyF U 11 y = U := by
      unfold settleEmptyF
      rw [if_neg (by omega), if_neg (by omega)]
    rw [e1, e2, e3, show mk1 B k = plainF B k from if_neg (by rw [plainF_10]; omega)]
    unfold C1
    rw [plainF_10]
    exact ⟨u1, u4, u7, fun z => absurd z (by omega)⟩
  · have eK : keepLitsF U y k Bb = klF y k Bb (ai B 21 8 k).toNat U := by
      unfold keepLitsF
      rw [if_neg (by omega), e54]
    rw [eK]
    by_cases c2 : plK2 B k = 2
    · obtain ⟨a, b, -⟩ := kl_some hD hQ hB hk hFM (u1.trans c2) u3 (ai B 21 8 k).toNat (by omega)
      obtain ⟨b1, b2, b3, b4⟩ := b
      generalize klF y k Bb (ai B 21 8 k).toNat U = T at a b1 b2 b3 b4 ⊢
      have e2 : settleConF T y = T := if_neg (by omega)
      have e3 : settleEmptyF T 11 y = T := by
        unfold settleEmptyF
        rw [if_neg (by omega), if_neg (by omega)]
      rw [e2, e3, show mk1 B k = plainF B k from if_neg (by rw [plainF_10]; omega)]
      have hpk : plK B k = 2 := by
        by_cases z : plK B k = 2
        · exact z
        · unfold plK2 at c2
          rw [if_neg z] at c2
          exact absurd c2 z
      unfold C1
      rw [plainF_10, plainF_11, plainF_12, if_pos rfl, if_pos c2]
      refine ⟨b1.trans u1, b3.trans u4, b4.trans u7, fun _ => ⟨fun _ => ⟨b2.trans (u2 hpk), hb3 c2⟩, fun z => absurd z (by omega), ?_, h8.1⟩⟩
      have a' := a.lim (show (ai B 21 8 k).toNat ≤ 6 by omega)
      refine ⟨a'.1, a'.2.1, a'.2.2.1, fun j hj => ?_⟩
      have e13 : ai (plainF B k) 21 13 (6 * k + j) = plc B k j := by
        rw [plainF_13, if_pos (by omega), Nat.add_sub_cancel_left]
      dsimp only
      rw [e13]
      exact a'.2.2.2 j hj
    · have e12 : (ai (plainF B k) 21 12 k).toNat = (ai B 21 8 k).toNat := by rw [plainF_12, if_pos rfl]
      obtain ⟨a, b, -, fl⟩ := kl_thin hD hQ hB hk hFM (by omega) u3 (ai B 21 8 k).toNat (Nat.le_refl _)
      have hcon := con_eq a
      have hcf : conb (klF y k Bb (ai B 21 8 k).toNat U) y (thF (plainF B k) k (ai B 21 8 k).toNat).1 = (thF (plainF B k) k (ai B 21 8 k).toNat).2.1 := by
        cases z : (thF (plainF B k) k (ai B 21 8 k).toNat).2.1
        · cases w : conb (klF y k Bb (ai B 21 8 k).toNat U) y (thF (plainF B k) k (ai B 21 8 k).toNat).1
          · rfl
          · exact absurd (fl.mpr (hcon.mp w)) (by rw [z]; decide)
        · exact hcon.mpr (fl.mp z)
      clear fl hcon
      have hn6 : (thF (plainF B k) k (ai B 21 8 k).toNat).1 ≤ 6 := by have := (thF_MF (plainF B k) k (ai B 21 8 k).toNat).2; omega
      have t10 : ai (thF (plainF B k) k (ai B 21 8 k).toNat).2.2 21 10 k = plK2 B k := by
        rw [(thF_MF (plainF B k) k (ai B 21 8 k).toNat).1.a (q := 10) (by decide), plainF_10]
      have em : mk1 B k = thin2 (thF (plainF B k) k (ai B 21 8 k).toNat).2.2 k (thF (plainF B k) k (ai B 21 8 k).toNat).1 (thF (plainF B k) k (ai B 21 8 k).toNat).2.1 := by
        unfold mk1
        rw [if_pos (by rw [plainF_10]; omega)]
        unfold thinF
        rw [e12]
      obtain ⟨b1, b2, b3, b4⟩ := b
      rw [em]
      generalize thF (plainF B k) k (ai B 21 8 k).toNat = t at a hcf t10 hn6 ⊢
      generalize klF y k Bb (ai B 21 8 k).toNat U = T at a b1 b2 b3 b4 hcf ⊢
      have a' := a.lim (show (ai B 21 8 k).toNat ≤ 6 by omega)
      have hcf2 : conb T y (iv T 11 3 y).toNat = t.2.1 := by
        rw [a.1]
        exact hcf
      have e11 : iv T 11 1 y = plK2 B k := b1.trans u1
      have k10 : ai (thin2 t.2.2 k t.1 t.2.1) 21 10 k = (if t.2.1 = true ∨ t.1 = 0 then (if b2i t.2.1 = b2i (decide (plK2 B k = 0)) then 4 else 3) else plK2 B k) := by
        rw [thin2_10, t10]
      unfold C1
      rw [k10, thin2_12]
      by_cases cf : t.2.1 = true
      · have e2 : settleConF T y = setKS T 11 y (if plK2 B k = 0 then 4 else 3) 0 := by
          unfold settleConF
          rw [hcf2, if_pos (by omega), if_pos cf, e11]
        obtain ⟨s1, s3, s7, s4⟩ := setKS_1 T y (if plK2 B k = 0 then 4 else 3) 0
        have e3 : settleEmptyF (setKS T 11 y (if plK2 B k = 0 then 4 else 3) 0) 11 y = setKS T 11 y (if plK2 B k = 0 then 4 else 3) 0 := by
          unfold settleEmptyF
          rw [s1, s3, if_neg (by split <;> omega), if_neg (by split <;> omega)]
        rw [e2, e3, s1, s4, s7, if_pos (Or.inl cf), cf]
        have ek : (if b2i true = b2i (decide (plK2 B k = 0)) then (4 : Int) else 3) = (if plK2 B k = 0 then 4 else 3) := by
          by_cases z : plK2 B k = 0
          · rw [if_pos z, decide_eq_true z, if_pos rfl]
          · rw [if_neg z, decide_eq_false z, if_neg (by decide)]
        rw [ek]
        exact ⟨rfl, b3.trans u4, b4.trans u7, fun z => absurd z (by split <;> omega)⟩
      · have cf' : t.2.1 = false := by
          cases z : t.2.1
          · rfl
          · exact absurd z cf
        have e2 : settleConF T y = T := by
          unfold settleConF
          rw [hcf2, if_pos (by omega), if_neg cf]
        rw [e2]
        by_cases c0 : t.1 = 0
        · have z3 : iv T 11 3 y = 0 := by rw [a.1, c0]; rfl
          have e3 : settleEmptyF T 11 y = setKS T 11 y (if plK2 B k = 0 then 3 else 4) 0 := by
            unfold settleEmptyF
            rw [z3, e11]
            by_cases z : plK2 B k = 0
            · rw [if_pos ⟨rfl, z⟩, if_pos z]
            · rw [if_neg (fun q => z q.2), if_pos ⟨rfl, by omega⟩, if_neg z]
          obtain ⟨s1, s3, s7, s4⟩ := setKS_1 T y (if plK2 B k = 0 then 3 else 4) 0
          rw [e3, s1, s4, s7, if_pos (Or.inr c0), cf']
          have ek : (if b2i false = b2i (decide (plK2 B k = 0)) then (4 : Int) else 3) = (if plK2 B k = 0 then 3 else 4) := by
            by_cases z : plK2 B k = 0
            · rw [if_pos z, decide_eq_true z, if_neg (by decide)]
            · rw [if_neg z, decide_eq_false z, if_pos rfl]
          rw [ek]
          exact ⟨rfl, b3.trans u4, b4.trans u7, fun z => absurd z (by split <;> omega)⟩
        · have e3 : settleEmptyF T 11 y = T := by
            have := a.1
            unfold settleEmptyF
            rw [if_neg (by omega), if_neg (by omega)]
          rw [e3, if_neg (fun q => q.elim cf c0)]
          refine ⟨e11, b3.trans u4, b4.trans u7, fun _ => ⟨fun z => absurd z c2, fun _ => by omega, ?_, by omega⟩⟩
          rw [show ((t.1 : Nat) : Int).toNat = t.1 from rfl]
          refine ⟨a'.1, a'.2.1, a'.2.2.1, fun j hj => ?_⟩
          dsimp only
          rw [thin2_q t.2.2 (q := 13) (Or.inl (by decide))]
          exact a'.2.2.2 j hj
/-- the class's clause y in T and the model's row k in M, made -/
def KR (T : ST) (y k Bb : Nat) (B M : ST) : Prop := C1 T y k Bb B M ∧ (ai M 21 10 k ≤ 2 → iv T 11 6 y = ai M 21 14 k ∧ ai M 21 14 k ≤ ((mmany B : Nat) : Int))
theorem LT.same {T T' B : ST} {y n lim Bb : Nat} {c : Nat → Int} (h : LT T y n lim Bb B c) (e3 : iv T' 11 3 y = iv T 11 3 y) (ep : ∀ j, pa T' 12 y j = pa T 12 y j) (e14 : ∀ k p, iv T' 14 k p = iv T 14 k p) (ej : ∀ t k p, jv T' t k p = jv T t k p) : LT T' y n lim Bb B c := by
  obtain ⟨a, b, c1, d⟩ := h
  refine ⟨e3.trans a, b, fun i j hi hj e => c1 i j hi hj (by rw [ep, ep] at e; exact e), fun j hj => ?_⟩
  rw [ep, e14, e14, e14, ej, ej]
  exact d j hj
theorem mcount_of {S S' : ST} (h0 : ∀ j, ai S' 21 0 j = ai S 21 0 j) (h1 : ∀ j, ai S' 21 1 j = ai S 21 1 j) : mcount S' = mcount S ∧ mmany S' = mmany S := by
  have e : mthr S' = mthr S := by
    funext d
    show decide (ai S' 21 0 d = 1) = decide (ai S 21 0 d = 1)
    rw [h0]
  constructor
  · funext c
    have : mtru S' c = mtru S c := by
      funext d
      show (mthr S' d && litT c (ai S' 21 1 d).toNat) = (mthr S d && litT c (ai S 21 1 d).toNat)
      rw [e, h1]
    show cnt (mtru S' c) 0 40 = cnt (mtru S c) 0 40
    rw [this]
  · show cnt (mthr S') 0 40 = cnt (mthr S) 0 40
    rw [e]
theorem cnt_and (p q : Nat → Bool) (a : Nat) : ∀ n, cnt (fun d => p d && q d) a n ≤ cnt p a n
  | 0 => Nat.le_refl 0
  | n + 1 => by
    have ih := cnt_and p q a n
    unfold cnt
    cases p (a + n)
    · simp; exact ih
    · cases q (a + n) <;> simp <;> omega
theorem mcount_many (S : ST) (c : Nat) : mcount S c ≤ mmany S := cnt_and (mthr S) (fun d => litT c (ai S 21 1 d).toNat) 0 40
/-- the last two steps: the estimate and the order -/
theorem fin_KR {T B M : ST} {y k Bb : Nat} (hB : MI B) (hM : MI M) (hk : k < 5) (hm : Bb = bset (mthr B) 40) (h0 : ∀ j, ai M 21 0 j = ai B 21 0 j) (h1 : ∀ j, ai M 21 1 j = ai B 21 1 j) (h : C1 T y k Bb B M) : KR (orderC (appraiseC T y) y) y k Bb B (estF (mk4 M k) k) := by
  obtain ⟨c1, c4, c7, cr⟩ := id h
  have h10 := hM.a10 k
  have h12 := hM.a12 k
  have eP : pop (jv T 11 4 y) = mmany B := by
    rw [c4, hm, pop_bset]
    rfl
  have ec : mcount (mk4 M k) = mcount B ∧ mmany (mk4 M k) = mmany B := by
    have e := mk4_MF M k
    exact mcount_of (fun j => (e.a (q := 0) (by decide) j).trans (h0 j)) (fun j => (e.a (q := 1) (by decide) j).trans (h1 j))
  have ecM : mcount M = mcount B := (mcount_of h0 h1).1
  have e10 : ai (estF (mk4 M k) k) 21 10 k = ai M 21 10 k := (mk4_MF M k).a (q := 10) (by decide) k
  have e11 : ai (estF (mk4 M k) k) 21 11 k = ai M 21 11 k := (mk4_MF M k).a (q := 11) (by decide) k
  have e12 : ai (estF (mk4 M k) k) 21 12 k = ai M 21 12 k := (mk4_MF M k).a (q := 12) (by decide) k
  have e14 : ai (estF (mk4 M k) k) 21 14 k = estM (ai M 21 10 k) (ai M 21 11 k) (leastF (mest (mk4 M k) k) 40 (ai M 21 12 k).toNat) (sumF (mest (mk4 M k) k) (ai M 21 12 k).toNat) (mmany B) := by
    show ai (sa (mk4 M k) 21 14 k _) 21 14 k = _
    rw [sa_at, ec.2, (mk4_MF M k).a (q := 10) (by decide), (mk4_MF M k).a (q := 11) (by decide), (mk4_MF M k).a (q := 12) (by decide)]
  have eA6 : iv (appraiseC T y) 11 6 y = aprF (ai M 21 10 k) (iv T 11 2 y) ((mmany B : Nat) : Int) (leastF (fun j => iv T 14 1 (pa T 12 y j)) ((mmany B : Nat) : Int) (iv T 11 3 y).toNat) (sumF (fun j => iv T 14 1 (pa T 12 y j)) (iv T 11 3 y).toNat) := by
    unfold appraiseC
    rw [eP, c1]
    simp [iv, si, up3]
  have hA : ∀ q, q ≠ 6 → iv (appraiseC T y) 11 q y = iv T 11 q y := fun q hq => by
    show (if 11 = 11 ∧ q = 6 ∧ y = y then _ else iv T 11 q y) = _
    rw [if_neg (fun z => hq z.2.1)]
  have eO : ∀ t q p, iv (orderC (appraiseC T y) y) t q p = iv (appraiseC T y) t q p := fun t q p => by
    unfold orderC
    split <;> rfl
  have eOj : ∀ t q p, jv (orderC (appraiseC T y) y) t q p = jv T t q p := fun t q p => by
    unfold orderC
    split <;> rfl
  have base : C1 (appraiseC T y) y k Bb B M := by
    unfold C1
    rw [hA 1 (by decide), hA 7 (by decide), hA 2 (by decide)]
    refine ⟨c1, c4, c7, fun z => ?_⟩
    obtain ⟨r1, r2, r3, r4⟩ := cr z
    exact ⟨r1, r2, r3.same (hA 3 (by decide)) (fun _ => rfl) (fun _ _ => rfl) (fun _ _ _ => rfl), r4⟩
  unfold KR
  rw [e10, e14, eO]
  by_cases c2 : ai M 21 10 k ≤ 2
  · obtain ⟨r1, r2, r3, r4⟩ := cr c2
    have hn : iv T 11 3 y = ai M 21 12 k := by rw [r3.1]; omega
    have eest : ∀ j, j < (ai M 21 12 k).toNat → iv T 14 1 (pa T 12 y j) = mest M k j := fun j hj => by
      rw [(r3.2.2.2 j hj).2.2.1]
      show _ = ((mcount M (ai M 21 13 (6 * k + j)).toNat : Nat) : Int)
      rw [ecM]
    have hmb : ∀ j, mest M k j ≤ ((mmany B : Nat) : Int) := fun j => by
      show ((mcount M (ai M 21 13 (6 * k + j)).toNat : Nat) : Int) ≤ _
      have := mcount_many B (ai M 21 13 (6 * k + j)).toNat
      rw [ecM]
      omega
    have hm40 := mmany_le B
    rw [eA6, hn]
    by_cases c0 : ai M 21 10 k = 0
    · -- in order
      have hn1 := r2 (by omega)
      have emk : mk4 M k = sortF M k := if_pos c0
      have hs : ∀ j, j < 6 → ai (sortF M k) 21 13 (6 * k + j) = srt (ltM M) (fun j => ai M 21 13 (6 * k + j)) (ai M 21 12 k).toNat j := fun j hj => by
        show ai (sA M 13 _) 21 13 (6 * k + j) = _
        rw [ai_sA, srtA_in hj]
      have hes : ∀ j, j < (ai M 21 12 k).toNat → mest (sortF M k) k j = ((mcount B (srt (ltM M) (fun j => ai M 21 13 (6 * k + j)) (ai M 21 12 k).toNat j).toNat : Nat) : Int) := fun j hj => by
        show ((mcount (sortF M k) (ai (sortF M k) 21 13 (6 * k + j)).toNat : Nat) : Int) = _
        rw [hs j (by omega), ← emk, ec.1]
      have hle : leastF (fun j => iv T 14 1 (pa T 12 y j)) ((mmany B : Nat) : Int) (ai M 21 12 k).toNat = leastF (mest (mk4 M k) k) 40 (ai M 21 12 k).toNat := by
        rw [emk]
        refine leastF_eq (fun j hj => ?_) (fun j hj => ?_) (Or.inr ⟨by omega, fun j hj => by rw [eest j hj]; exact hmb j, fun j hj => by rw [eest j hj]; have := hmb j; omega⟩)
        · obtain ⟨i, hi, e⟩ := srt_ex (lt := ltM M) (A := fun j => ai M 21 13 (6 * k + j)) (P := fun x => ((mcount B x.toNat : Nat) : Int) = iv T 14 1 (pa T 12 y j)) (m := (ai M 21 12 k).toNat) (ai M 21 12 k).toNat (Nat.le_refl _) ⟨j, hj, by rw [eest j hj]; show _ = ((mcount M (ai M 21 13 (6 * k + j)).toNat : Nat) : Int); rw [ecM]⟩
          exact ⟨i, hi, by rw [hes i hi]; exact e⟩
        · obtain ⟨i, hi, e⟩ := srt_P (lt := ltM M) (A := fun j => ai M 21 13 (6 * k + j)) (P := fun x => ∃ i, i < (ai M 21 12 k).toNat ∧ x = ai M 21 13 (6 * k + i)) (n := (ai M 21 12 k).toNat) (fun j hj => ⟨j, hj, rfl⟩) (ai M 21 12 k).toNat (Nat.le_refl _) j hj
          refine ⟨i, hi, ?_⟩
          rw [hes j hj, e]
          show iv T 14 1 (pa T 12 y i) = _
          rw [(r3.2.2.2 i hi).2.2.1]
      have hval : aprF (ai M 21 10 k) (iv T 11 2 y) ((mmany B : Nat) : Int) (leastF (fun j => iv T 14 1 (pa T 12 y j)) ((mmany B : Nat) : Int) (ai M 21 12 k).toNat) (sumF (fun j => iv T 14 1 (pa T 12 y j)) (ai M 21 12 k).toNat) = estM (ai M 21 10 k) (ai M 21 11 k) (leastF (mest (mk4 M k) k) 40 (ai M 21 12 k).toNat) (sumF (mest (mk4 M k) k) (ai M 21 12 k).toNat) ((mmany B : Nat) : Int) := by
        unfold aprF estM
        rw [if_pos c0, if_pos c0, hle]
      refine ⟨?_, fun _ => ⟨hval, ?_⟩⟩
      · -- the rows in their order
        have eord : orderC (appraiseC T y) y = sar (appraiseC T y) 12 y (ordF (appraiseC T y) 12 y (iv (appraiseC T y) 11 3 y) (srt (ltC (appraiseC T y)) (pa (appraiseC T y) 12 y) (iv (appraiseC T y) 11 3 y).toNat)) := if_pos (by rw [hA 1 (by decide)]; omega)
        have ep : ∀ j, j < (ai M 21 12 k).toNat → pa (orderC (appraiseC T y) y) 12 y j = srt (ltC T) (pa T 12 y) (ai M 21 12 k).toNat j := fun j hj => by
          rw [eord]
          show ((if 12 = 12 ∧ y = y then ordF (appraiseC T y) 12 y (iv (appraiseC T y) 11 3 y) _ j else _) : Option Nat).getD 0 = _
          rw [if_pos ⟨rfl, rfl⟩]
          unfold ordF
          rw [hA 3 (by decide), hn, if_pos (by omega)]
          rfl
        have hPr := srt_P (lt := ltC T) (A := pa T 12 y) (P := fun p => (6 * y ≤ p ∧ p < 6 * y + 6) ∧ (0 ≤ iv T 14 0 p ∧ iv T 14 0 p < 16) ∧ iv T 14 1 p = ((mcount B (iv T 14 0 p).toNat : Nat) : Int) ∧ iv T 14 2 p = -1 ∧ jv T 14 4 p = Bb ∧ jv T 14 5 p = bset (mtru B (iv T 14 0 p).toNat) 40) (n := (ai M 21 12 k).toNat) (fun j hj => by
          obtain ⟨q1, q2, q3, q4, q5, q6⟩ := r3.2.2.2 j hj
          rw [q2.1]
          exact ⟨q1, q2.2, q3, q4, q5, q6⟩) (ai M 21 12 k).toNat (Nat.le_refl _)
        have hmp := srt_map (lt := ltC T) (lt' := ltM M) (f := fun p => iv T 14 0 p) (A := pa T 12 y) (B := fun j => ai M 21 13 (6 * k + j)) (P := fun p => iv T 14 1 p = ((mcount B (iv T 14 0 p).toNat : Nat) : Int) ∧ 0 ≤ iv T 14 0 p) (m := (ai M 21 12 k).toNat) (fun j hj => (r3.2.2.2 j hj).2.1.1.symm) (fun j hj => by
          obtain ⟨q1, q2, q3, -⟩ := r3.2.2.2 j hj
          rw [q2.1]
          exact ⟨q3, q2.2.1⟩) (fun a b ha hb => by
          unfold ltC ltM
          rw [ha.1, hb.1, ecM]
          have ha2 := ha.2
          have hb2 := hb.2
          apply decide_eq_decide.mpr
          constructor
          · intro z
            rcases z with z | ⟨z1, z2⟩
            · exact Or.inl (by omega)
            · exact Or.inr ⟨by omega, by omega⟩
          · intro z
            rcases z with z | ⟨z1, z2⟩
            · exact Or.inl (by omega)
            · exact Or.inr ⟨by omega, by omega⟩) (ai M 21 12 k).toNat (Nat.le_refl _)
        unfold C1
        rw [e10, e11, e12, eO, eO, eO, eOj, hA 1 (by decide), hA 7 (by decide), hA 2 (by decide)]
        refine ⟨c1, c4, c7, fun _ => ⟨r1, r2, ⟨?_, r3.2.1, fun i j hi hj e => ?_, fun j hj => ?_⟩, r4⟩⟩
        · rw [eO, hA 3 (by decide)]; exact r3.1
        · rw [ep i hi, ep j hj] at e
          exact srt_inj r3.2.2.1 _ (Nat.le_refl _) i j hi hj e
        · rw [ep j hj, eO, eO, eO, eOj, eOj]
          have e13 : ai (estF (mk4 M k) k) 21 13 (6 * k + j) = iv T 14 0 (srt (ltC T) (pa T 12 y) (ai M 21 12 k).toNat j) := by
            rw [← hmp j hj, ← hs j (by omega), ← emk]
            rfl
          dsimp only
          rw [e13]
          obtain ⟨q1, q2, q3, q4, q5, q6⟩ := hPr j hj
          exact ⟨q1, ⟨rfl, q2⟩, q3, q4, q5, q6⟩
      · unfold estM
        rw [if_pos c0, ← hle]
        exact (leastF_le _).1
    · -- as it was told
      have emk : mk4 M k = M := if_neg c0
      have eord : orderC (appraiseC T y) y = appraiseC T y := if_neg (by rw [hA 1 (by decide)]; omega)
      have hsu : sumF (fun j => iv T 14 1 (pa T 12 y j)) (ai M 21 12 k).toNat = sumF (mest M k) (ai M 21 12 k).toNat := sumF_congr _ eest
      rw [emk, eord]
      have hval : aprF (ai M 21 10 k) (iv T 11 2 y) ((mmany B : Nat) : Int) (leastF (fun j => iv T 14 1 (pa T 12 y j)) ((mmany B : Nat) : Int) (ai M 21 12 k).toNat) (sumF (fun j => iv T 14 1 (pa T 12 y j)) (ai M 21 12 k).toNat) = estM (ai M 21 10 k) (ai M 21 11 k) (leastF (mest M k) 40 (ai M 21 12 k).toNat) (sumF (mest M k) (ai M 21 12 k).toNat) ((mmany B : Nat) : Int) ∧ estM (ai M 21 10 k) (ai M 21 11 k) (leastF (mest M k) 40 (ai M 21 12 k).toNat) (sumF (mest M k) (ai M 21 12 k).toNat) ((mmany B : Nat) : Int) ≤ ((mmany B : Nat) : Int) := by
        rw [hsu]
        unfold aprF estM
        by_cases d1 : ai M 21 10 k = 1
        · rw [if_neg c0, if_pos d1, if_neg c0, if_neg (show ¬ ai M 21 10 k = 3 by omega), if_neg (show ¬ ai M 21 10 k = 4 by omega), if_neg (show ¬ ai M 21 10 k = 2 by omega)]
          constructor
          · split <;> omega
          · split <;> omega
        · have d2 : ai M 21 10 k = 2 := by omega
          obtain ⟨n1, n2⟩ := r1 d2
          rw [n1, if_neg c0, if_neg d1, if_pos d2, if_neg (show ¬ ai M 21 11 k < 1 by omega), if_neg c0, if_neg (show ¬ ai M 21 10 k = 3 by omega), if_neg (show ¬ ai M 21 10 k = 4 by omega), if_pos d2]
          constructor
          · split <;> omega
          · split <;> omega
      exact ⟨base.of rfl rfl rfl (fun _ => rfl), fun _ => hval⟩
  · have emk : mk4 M k = M := if_neg (by omega)
    have eord : orderC (appraiseC T y) y = appraiseC T y := if_neg (by rw [hA 1 (by decide)]; omega)
    rw [emk, eord]
    exact ⟨base.of rfl rfl rfl (fun _ => rfl), fun z => absurd z c2⟩
/-- a clause of a plan, made on both sides -/
theorem sim_clause {A B : ST} {y k : Nat} (hD : QD A B) (hQ : QQ A B) (hB : MI B) (hk : k < 5) (h16 : -19 ≤ iv B 20 16 0) (h17 : iv B 20 17 0 < 5) : KR (cmkF y k (bset (thr A) 40) A) y k (bset (thr A) 40) B (mkS B k) := by
  have hm := bthr_eq hD hB
  have h1 := cls4_C1 (y := y) (Bb := bset (thr A) 40) hD hQ hB hk
  obtain ⟨-, hM2, hM3, -⟩ := mkS_MI hB hk h16 h17
  have e2 := (mk2_MF (mk1 B k) k).up (l' := [18]) (m' := [16, 17]) (by decide) (by decide)
  have e3 := e2.tr ((mk3_MF (mk2 (mk1 B k) k) k).up (by decide) (by decide))
  have h3 : C1 (cls4 A y k (bset (thr A) 40)) y k (bset (thr A) 40) B (mk3 (mk2 (mk1 B k) k) k) := h1.of (e3.a (q := 10) (by decide) k) (e3.a (q := 11) (by decide) k) (e3.a (q := 12) (by decide) k) (fun j => e3.a (q := 13) (by decide) j)
  have e0 : ∀ q j, (q = 0 ∨ q = 1) → ai (mk3 (mk2 (mk1 B k) k) k) 21 q j = ai B 21 q j := fun q j hq => (e3.a (by intro z; simp at z; omega) j).trans ((mk1_MF B k).a (by intro z; simp at z; omega) j)
  exact fin_KR hB hM3 hk hm (fun j => e0 0 j (Or.inl rfl)) (fun j => e0 1 j (Or.inr rfl)) h3
