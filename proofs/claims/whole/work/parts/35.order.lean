def ordF (S : ST) (t y : Nat) (n : Int) (B : Nat → Nat) : Nat → Option Nat := fun j => if (j : Int) < n then some (B j) else ar S t y j
theorem ord_a {S : ST} {t y i a : Nat} {n : Int} {B : Nat → Nat} {v : Nat} (hi : (i : Int) < n) (ha : a ≤ i) : ar (sar S t y (ordF S t y n (insAt B i a v))) t y a = some v := by
  rw [ar_sar]
  unfold ordF insAt
  rw [if_pos (by omega), if_neg (by omega), if_pos rfl]
theorem ord_b {S : ST} {t y i a : Nat} {n : Int} {B : Nat → Nat} {v : Nat} (hi : (i : Int) < n) (ha : a + 1 ≤ i) : ar (sar S t y (ordF S t y n (insAt B i (a + 1) v))) t y a = some (B a) := by
  rw [ar_sar]
  unfold ordF insAt
  rw [if_pos (by omega), if_pos (by omega)]
theorem ord_swap {S : ST} {t y i a : Nat} {n : Int} {B : Nat → Nat} {v : Nat} (hi : (i : Int) < n) (ha : a + 1 ≤ i) : sr (sr (sar S t y (ordF S t y n (insAt B i (a + 1) v))) t y (a + 1) (some (B a))) t y a (some v) = sar S t y (ordF S t y n (insAt B i a v)) := by
  rw [sr_sar, sr_sar]
  congr 1
  funext j
  unfold upF ordF insAt
  by_cases h1 : j = a
  · subst h1
    rw [if_pos rfl, if_pos (by omega), if_neg (by omega), if_pos rfl]
  · rw [if_neg h1]
    by_cases h2 : j = a + 1
    · subst h2
      rw [if_pos rfl, if_pos (by omega), if_neg (by omega), if_neg (by omega), if_pos (by omega)]
      rfl
    · rw [if_neg h2]
      by_cases h3 : (j : Int) < n
      · rw [if_pos h3, if_pos h3]
        by_cases h4 : j < a
        · rw [if_pos (by omega), if_pos h4]
        · rw [if_neg (by omega), if_neg h2, if_neg h4, if_neg h1]
      · rw [if_neg h3, if_neg h3]
theorem ord_0 {A : Nat → Nat} {lt : Nat → Nat → Bool} {i : Nat} : insAt (srt lt A i) i i (A i) = srt lt A i := by
  funext j
  unfold insAt
  by_cases h1 : j < i
  · rw [if_pos h1]
  · rw [if_neg h1]
    by_cases h2 : j = i
    · subst h2
      rw [if_pos rfl]
      exact (srt_out lt A j j (Nat.le_refl j)).symm
    · rw [if_neg h2, if_neg (by omega)]
theorem srt_1 {A : Nat → Nat} {lt : Nat → Nat → Bool} : srt lt A 1 = A := ord_0 (A := A) (lt := lt) (i := 0)
theorem srt_P {α : Type} {P : α → Prop} {A : Nat → α} {lt : α → α → Bool} {n : Nat} (hA : ∀ j, j < n → P (A j)) : ∀ i, i ≤ n → ∀ j, j < n → P (srt lt A i j)
  | 0, _, j, hj => hA j hj
  | i + 1, hi, j, hj => by
    have ih := srt_P (lt := lt) hA i (by omega)
    show P (insAt _ _ _ _ j)
    unfold insAt
    split
    · exact ih j hj
    · split
      · exact hA i (by omega)
      · split
        · exact ih (j - 1) (by omega)
        · exact ih j hj
theorem ord_init {S : ST} {t y : Nat} {n : Int} {A : Nat → Nat} (h : ∀ j : Nat, (j : Int) < n → ar S t y j = some (A j)) : sar S t y (ordF S t y n A) = S := by
  have e : ordF S t y n A = ar S t y := by
    funext j
    unfold ordF
    split
    · rename_i q; exact (h j q).symm
    · rfl
  rw [e, sar_self]
theorem ordF_c {S : ST} {t y : Nat} {n : Int} {A B : Nat → Nat} (h : n ≤ 0) : ordF S t y n A = ordF S t y n B := by
  funext j
  unfold ordF
  rw [if_neg (by omega), if_neg (by omega)]
theorem in_X0_order_X3 : ∀ w ∈ wsX30, w ∈ wsX0_order := by decide +kernel
theorem lk_X0_order_15 : Cond.fieldLink RX0 15 "PostingPlanner$Group" "kind" "I" ∈ wsX0_order := by decide +kernel
theorem lk_X0_order_22 : Cond.fieldLink RX0 22 "PostingPlanner$Group" "size" "I" ∈ wsX0_order := by decide +kernel
theorem lk_X0_order_9 : Cond.fieldLink RX0 9 "PostingPlanner$Group" "parts" "[LPostingPlanner$Part;" ∈ wsX0_order := by decide +kernel
theorem in_X0_order_X2 : ∀ w ∈ wsX20, w ∈ wsX0_order := by decide +kernel
def ltC (S : ST) (p q : Nat) : Bool := decide ((iv S 14 1 p) < (iv S 14 1 q) ∨ ((iv S 14 1 p) = (iv S 14 1 q) ∧ (iv S 14 0 p) < (iv S 14 0 q)))
theorem ltC_def (S : ST) (p q : Nat) : decide ((iv S 14 1 p) < (iv S 14 1 q) ∨ ((iv S 14 1 p) = (iv S 14 1 q) ∧ (iv S 14 0 p) < (iv S 14 0 q))) = ltC S p q := rfl

set_option maxHeartbeats 4000000 in
set_option maxRecDepth 100000 in
theorem c_order_C (S : ST) (y : Nat) (hy : y < 10) (hk0 : 0 ≤ iv S 11 1 y ∧ iv S 11 1 y ≤ 4) (hE : ∀ p, p < 60 → 0 ≤ (iv S 14 1 p) ∧ (iv S 14 1 p) ≤ 40) (hL : IL S) (hG : GP S 11 12 y 60) : Ct yX0_order wsX0_order 1 [vr (some (11, y))] S (fun v S1 => v = none ∧ S1 = if iv S 11 1 y = 0 then sar S 12 y (ordF S 12 y (iv S 11 3 y) (srt (ltC S) (pa S 12 y) (iv S 11 3 y).toNat)) else S) := by
  refine Ct.of (nL := 4) (by decide) rfl (Nat.le_of_ble_eq_true rfl) (by decide) (fun X C Rr hnL => ?_)
  have hn : ∀ i, i < 4 → i < X.2.2.2.2.2 := fun i h => by rw [hnL]; exact h
  obtain ⟨hz, hps⟩ := id hG
  refine r_aload_n C dX0_order_0 rfl rfl ?_
  refine r_getf C (mid_11 hy) (hp_11 _ _) rfl 1 (by decide) in_X0_order_X3 lk_X0_order_15 (Or.inl rfl) rfl dX0_order_1 ?_
  refine r_if_eq (tgt := 8) C dX0_order_4 (by decide) (by omega) (fun h4 => ?_) (fun h4 => ?_)
  · skip
    refine r_iconst C dX0_order_8 ?_
    refine r_istore_n (lv' := [(1, _), (0, _)]) C dX0_order_9 rfl (hn _ (by decide)) rfl ?_
    have loop10 : ∀ (k i : Nat) (hk : 7 - i < k) (h1 : 1 ≤ i) (hi : (i : Int) ≤ 1 ∨ (i : Int) ≤ (iv S 11 3 y)), At X 0 0 10 [(0, vr (some (11, y))), (1, vi (i : Int))] [] (sar S 12 y (ordF S 12 y (iv S 11 3 y) (srt (ltC S) (pa S 12 y) i))) := by
      intro k
      induction k with
      | zero => intro i hk h1 hi; exact absurd hk (by omega)
      | succ k ih10 =>
        intro i hk h1 hi
        refine r_iload_n C dX0_order_10 rfl rfl ?_
        refine r_aload_n C dX0_order_11 rfl rfl ?_
        refine r_getf C (mid_11 hy) (hp_11 _ _) rfl 3 (by decide) in_X0_order_X3 lk_X0_order_22 (Or.inl rfl) rfl dX0_order_12 ?_
        refine At_val (v' := vi (iv S 11 3 y)) (rfl) ?_
        refine r_icmp_ge (tgt := 96) C dX0_order_15 (by decide) (by omega) (by omega) (fun h15 => ?_) (fun h15 => ?_)
        · skip
          exact r_vret C Rr (⟨rfl, by rw [if_pos h4]; rcases Int.lt_or_le 0 (iv S 11 3 y) with q | q; rw [show i = (iv S 11 3 y).toNat by omega]; rw [ordF_c q]⟩) dX0_order_96
        · skip
          refine r_iload_n C dX0_order_18 rfl rfl ?_
          refine r_aload_n C dX0_order_19 rfl rfl ?_
          refine r_getf C (mid_11 hy) (hp_11 _ _) rfl 0 (by decide) in_X0_order_X3 lk_X0_order_9 (Or.inl rfl) rfl dX0_order_20 ?_
          refine r_alen C (mid_12 hy) (Or.inr ⟨_, (hp_12 _ _)⟩) (fun _ => ⟨_, rfl⟩) dX0_order_23 ?_
          refine r_icmp_ge (tgt := 96) C dX0_order_24 (by decide) (by omega) (by omega) (fun h24 => ?_) (fun h24 => ?_)
          · skip
            exact r_vret C Rr (⟨rfl, by rw [if_pos h4]; rcases Int.lt_or_le 0 (iv S 11 3 y) with q | q; rw [show i = (iv S 11 3 y).toNat by omega]; rw [ordF_c q]⟩) dX0_order_96
          · skip
            have hin : (i : Int) < (iv S 11 3 y) := by omega
            refine r_iload_n C dX0_order_27 rfl rfl ?_
            refine r_istore_n (lv' := [(2, _), (0, _), (1, _)]) C dX0_order_28 rfl (hn _ (by decide)) rfl ?_
            have loop29 : ∀ (k a : Nat) (hk : a < k) (hai : a ≤ i) (hp : posn (ltC S) (srt (ltC S) (pa S 12 y) i) ((pa S 12 y) i) a = posn (ltC S) (srt (ltC S) (pa S 12 y) i) ((pa S 12 y) i) i), At X 0 0 29 [(0, vr (some (11, y))), (1, vi (i : Int)), (2, vi (a : Int))] [] (sar S 12 y (ordF S 12 y (iv S 11 3 y) (insAt (srt (ltC S) (pa S 12 y) i) i a ((pa S 12 y) i)))) := by
              intro k
              induction k with
              | zero => intro a hk hai hp; exact absurd hk (by omega)
              | succ k ih29 =>
                intro a hk hai hp
                refine r_iload_n C dX0_order_29 rfl rfl ?_
                refine r_if_le (tgt := 90) C dX0_order_30 (by decide) (by omega) (fun h30 => ?_) (fun h30 => ?_)
                · skip
                  have ha0 : a = posn (ltC S) (srt (ltC S) (pa S 12 y) i) ((pa S 12 y) i) i := by rw [← hp, show a = 0 by omega]; rfl
                  rw [show insAt (srt (ltC S) (pa S 12 y) i) i a ((pa S 12 y) i) = srt (ltC S) (pa S 12 y) (i + 1) by rw [ha0]; rfl]
                  refine r_iinc (lv' := [(1, _), (0, _), (2, _)]) C dX0_order_90 rfl (hn _ (by decide)) rfl ?_
                  refine r_goto (tgt := 10) C dX0_order_93 (by decide) ?_
                  exact At_lv (by simp) (ih10 (i + 1) (by omega) (by omega) (by omega))
                · skip
                  obtain ⟨b, rfl⟩ : ∃ b, a = b + 1 := ⟨a - 1, by omega⟩
                  have hbB : (srt (ltC S) (pa S 12 y) i) b < 60 := srt_P (P := fun q => q < 60) (n := (iv S 11 3 y).toNat) (fun j hj => (hps j (by omega)).2) i (by omega) b (by omega)
                  refine r_aload_n C dX0_order_33 rfl rfl ?_
                  refine r_aload_n C dX0_order_34 rfl rfl ?_
                  refine r_getf C (mid_11 hy) (hp_11 _ _) rfl 0 (by decide) in_X0_order_X3 lk_X0_order_9 (Or.inl rfl) rfl dX0_order_35 ?_
                  refine r_iload_n C dX0_order_38 rfl rfl ?_
                  refine r_aald (j := (b + 1)) C (mid_12 hy) (hp_12 _ _) (fun _ => rfl) (rfl) (by omega) (by decide) dX0_order_39 ?_
                  refine At_val (v' := vr (some (14, (pa S 12 y) i))) (by rw [ord_a hin hai]; rfl) ?_
                  refine r_aload_n C dX0_order_40 rfl rfl ?_
                  refine r_getf C (mid_11 hy) (hp_11 _ _) rfl 0 (by decide) in_X0_order_X3 lk_X0_order_9 (Or.inl rfl) rfl dX0_order_41 ?_
                  refine r_iload_n C dX0_order_44 rfl rfl ?_
                  refine r_iconst C dX0_order_45 ?_
                  refine r_isub C dX0_order_46 ?_
                  refine r_aald (j := b) C (mid_12 hy) (hp_12 _ _) (fun _ => rfl) (by omega) (by omega) (by decide) dX0_order_47 ?_
                  refine At_val (v' := vr (some (14, (srt (ltC S) (pa S 12 y) i) b))) (by rw [ord_b hin hai]; rfl) ?_
                  refine r_callU (as := [_, _]) (na := 2) (rest := []) C (mid_11 hy) (hp_11 _ _) rfl (c_isBefore_C (sar S 12 y (ordF S 12 y (iv S 11 3 y) (insAt (srt (ltC S) (pa S 12 y) i) i (b + 1) ((pa S 12 y) i)))) y hy ((pa S 12 y) i) ((srt (ltC S) (pa S 12 y) i) b) (hps i hin).2 hbB hE hL) gX0_order_X0_isBefore_u67X3 (by decide +kernel) (by decide) (by decide) rfl (Nat.le_of_ble_eq_true rfl) rfl dX0_order_48 rfl (fun v1 S1 hp1 => ?_)
                  obtain ⟨rfl, e9⟩ := hp1
                  subst S1
                  refine At_val (v' := vi (b2i (ltC S ((pa S 12 y) i) ((srt (ltC S) (pa S 12 y) i) b)))) rfl ?_
                  refine r_if_eq (tgt := 90) C dX0_order_51 (by decide) (by have := b2i_01 (ltC S ((pa S 12 y) i) ((srt (ltC S) (pa S 12 y) i) b)); omega) (fun h51 => ?_) (fun h51 => ?_)
                  · skip
                    have ha0 : b + 1 = posn (ltC S) (srt (ltC S) (pa S 12 y) i) ((pa S 12 y) i) i := by rw [← hp]; exact (if_neg (by rw [b2i_0 h51]; decide)).symm
                    rw [show insAt (srt (ltC S) (pa S 12 y) i) i (b + 1) ((pa S 12 y) i) = srt (ltC S) (pa S 12 y) (i + 1) by rw [ha0]; rfl]
                    refine r_iinc (lv' := [(1, _), (0, _), (2, _)]) C dX0_order_90 rfl (hn _ (by decide)) rfl ?_
                    refine r_goto (tgt := 10) C dX0_order_93 (by decide) ?_
                    exact At_lv (by simp) (ih10 (i + 1) (by omega) (by omega) (by omega))
                  · skip
                    refine r_aload_n C dX0_order_54 rfl rfl ?_
                    refine r_getf C (mid_11 hy) (hp_11 _ _) rfl 0 (by decide) in_X0_order_X3 lk_X0_order_9 (Or.inl rfl) rfl dX0_order_55 ?_
                    refine r_iload_n C dX0_order_58 rfl rfl ?_
                    refine r_aald (j := (b + 1)) C (mid_12 hy) (hp_12 _ _) (fun _ => rfl) (rfl) (by omega) (by decide) dX0_order_59 ?_
                    refine At_val (v' := vr (some (14, (pa S 12 y) i))) (by rw [ord_a hin hai]; rfl) ?_
                    refine r_astore_n (lv' := [(3, _), (0, _), (1, _), (2, _)]) C dX0_order_60 rfl (hn _ (by decide)) rfl ?_
                    refine r_aload_n C dX0_order_61 rfl rfl ?_
                    refine r_getf C (mid_11 hy) (hp_11 _ _) rfl 0 (by decide) in_X0_order_X3 lk_X0_order_9 (Or.inl rfl) rfl dX0_order_62 ?_
                    refine r_iload_n C dX0_order_65 rfl rfl ?_
                    refine r_aload_n C dX0_order_66 rfl rfl ?_
                    refine r_getf C (mid_11 hy) (hp_11 _ _) rfl 0 (by decide) in_X0_order_X3 lk_X0_order_9 (Or.inl rfl) rfl dX0_order_67 ?_
                    refine r_iload_n C dX0_order_70 rfl rfl ?_
                    refine r_iconst C dX0_order_71 ?_
                    refine r_isub C dX0_order_72 ?_
                    refine r_aald (j := b) C (mid_12 hy) (hp_12 _ _) (fun _ => rfl) (by omega) (by omega) (by decide) dX0_order_73 ?_
                    refine At_val (v' := vr (some (14, (srt (ltC S) (pa S 12 y) i) b))) (by rw [ord_b hin hai]; rfl) ?_
                    refine r_aast14 (j := (b + 1)) C (mid_12 hy) (hp_12 _ _) (mid_14 hbB) (hp_14 _ _) rfl (rfl) (by omega) (by decide) (ha_12 _ _ _ (some ((srt (ltC S) (pa S 12 y) i) b))) dX0_order_74 ?_
                    refine r_aload_n C dX0_order_75 rfl rfl ?_
                    refine r_getf C (mid_11 hy) (hp_11 _ _) rfl 0 (by decide) in_X0_order_X3 lk_X0_order_9 (Or.inl rfl) rfl dX0_order_76 ?_
                    refine r_iload_n C dX0_order_79 rfl rfl ?_
                    refine r_iconst C dX0_order_80 ?_
                    refine r_isub C dX0_order_81 ?_
                    refine r_aload_n C dX0_order_82 rfl rfl ?_
                    refine r_aast14 (j := b) C (mid_12 hy) (hp_12 _ _) (mid_14 (hps i hin).2) (hp_14 _ _) rfl (by omega) (by omega) (by decide) (ha_12 _ _ _ (some ((pa S 12 y) i))) dX0_order_83 ?_
                    have hlt : ltC S ((pa S 12 y) i) ((srt (ltC S) (pa S 12 y) i) b) = true := b2i_1 h51
                    rw [ord_swap hin hai]
                    refine r_iinc (lv' := [(2, _), (3, _), (0, _), (1, _)]) C dX0_order_84 rfl (hn _ (by decide)) rfl ?_
                    refine r_goto (tgt := 29) C dX0_order_87 (by decide) ?_
                    exact At_lv (by simp <;> omega) (ih29 b (by omega) (by omega) (by rw [← hp]; exact (if_pos hlt).symm))
            rw [← ord_0 (A := (pa S 12 y)) (lt := ltC S) (i := i)]
            exact At_lv (by simp) (loop29 (i + 1) i (by omega) (Nat.le_refl i) rfl)
    have e1 : S = (sar S 12 y (ordF S 12 y (iv S 11 3 y) (srt (ltC S) (pa S 12 y) 1))) := by rw [srt_1]; exact (ord_init (fun j hj => (hps j hj).1)).symm
    rw [e1]
    exact At_lv (by simp) (loop10 8 1 (by omega) (by omega) (by omega))
  · skip
    exact r_vret C Rr (⟨rfl, by rw [if_neg h4]⟩) dX0_order_7
def ltP (S : ST) (p q : Nat) : Bool := decide ((iv S 11 6 p) < (iv S 11 6 q) ∨ ((iv S 11 6 p) = (iv S 11 6 q) ∧ ((p % 5 : Nat) : Int) < ((q % 5 : Nat) : Int)))
theorem ltP_def (S : ST) (p q : Nat) : decide ((iv S 11 6 p) < (iv S 11 6 q) ∨ ((iv S 11 6 p) = (iv S 11 6 q) ∧ ((p % 5 : Nat) : Int) < ((q % 5 : Nat) : Int))) = ltP S p q := rfl

set_option maxHeartbeats 4000000 in
set_option maxRecDepth 100000 in
theorem c_order_P (S : ST) (y : Nat) (hy : y < 2) (hk0 : 0 ≤ iv S 8 1 y ∧ iv S 8 1 y ≤ 4) (hE : ∀ p, p < 10 → 0 ≤ (iv S 11 6 p) ∧ (iv S 11 6 p) ≤ 40) (hG : GP S 8 9 y 10) : Ct yX0_order wsX0_order 1 [vr (some (8, y))] S (fun v S1 => v = none ∧ S1 = if iv S 8 1 y = 0 then sar S 9 y (ordF S 9 y (iv S 8 3 y) (srt (ltP S) (pa S 9 y) (iv S 8 3 y).toNat)) else S) := by
  refine Ct.of (nL := 4) (by decide) rfl (Nat.le_of_ble_eq_true rfl) (by decide) (fun X C Rr hnL => ?_)
  have hn : ∀ i, i < 4 → i < X.2.2.2.2.2 := fun i h => by rw [hnL]; exact h
  obtain ⟨hz, hps⟩ := id hG
  refine r_aload_n C dX0_order_0 rfl rfl ?_
  refine r_getf C (mid_8 hy) (hp_8 _ _) rfl 1 (by decide) in_X0_order_X2 lk_X0_order_15 (Or.inl rfl) rfl dX0_order_1 ?_
  refine r_if_eq (tgt := 8) C dX0_order_4 (by decide) (by omega) (fun h4 => ?_) (fun h4 => ?_)
  · skip
    refine r_iconst C dX0_order_8 ?_
    refine r_istore_n (lv' := [(1, _), (0, _)]) C dX0_order_9 rfl (hn _ (by decide)) rfl ?_
    have loop10 : ∀ (k i : Nat) (hk : 7 - i < k) (h1 : 1 ≤ i) (hi : (i : Int) ≤ 1 ∨ (i : Int) ≤ (iv S 8 3 y)), At X 0 0 10 [(0, vr (some (8, y))), (1, vi (i : Int))] [] (sar S 9 y (ordF S 9 y (iv S 8 3 y) (srt (ltP S) (pa S 9 y) i))) := by
      intro k
      induction k with
      | zero => intro i hk h1 hi; exact absurd hk (by omega)
      | succ k ih10 =>
        intro i hk h1 hi
        refine r_iload_n C dX0_order_10 rfl rfl ?_
        refine r_aload_n C dX0_order_11 rfl rfl ?_
        refine r_getf C (mid_8 hy) (hp_8 _ _) rfl 3 (by decide) in_X0_order_X2 lk_X0_order_22 (Or.inl rfl) rfl dX0_order_12 ?_
        refine At_val (v' := vi (iv S 8 3 y)) (rfl) ?_
        refine r_icmp_ge (tgt := 96) C dX0_order_15 (by decide) (by omega) (by omega) (fun h15 => ?_) (fun h15 => ?_)
        · skip
          exact r_vret C Rr (⟨rfl, by rw [if_pos h4]; rcases Int.lt_or_le 0 (iv S 8 3 y) with q | q; rw [show i = (iv S 8 3 y).toNat by omega]; rw [ordF_c q]⟩) dX0_order_96
        · skip
          refine r_iload_n C dX0_order_18 rfl rfl ?_
          refine r_aload_n C dX0_order_19 rfl rfl ?_
          refine r_getf C (mid_8 hy) (hp_8 _ _) rfl 0 (by decide) in_X0_order_X2 lk_X0_order_9 (Or.inl rfl) rfl dX0_order_20 ?_
          refine r_alen C (mid_9 hy) (Or.inr ⟨_, (hp_9 _ _)⟩) (fun _ => ⟨_, rfl⟩) dX0_order_23 ?_
          refine r_icmp_ge (tgt := 96) C dX0_order_24 (by decide) (by omega) (by omega) (fun h24 => ?_) (fun h24 => ?_)
          · skip
            exact r_vret C Rr (⟨rfl, by rw [if_pos h4]; rcases Int.lt_or_le 0 (iv S 8 3 y) with q | q; rw [show i = (iv S 8 3 y).toNat by omega]; rw [ordF_c q]⟩) dX0_order_96
          · skip
            have hin : (i : Int) < (iv S 8 3 y) := by omega
            refine r_iload_n C dX0_order_27 rfl rfl ?_
            refine r_istore_n (lv' := [(2, _), (0, _), (1, _)]) C dX0_order_28 rfl (hn _ (by decide)) rfl ?_
            have loop29 : ∀ (k a : Nat) (hk : a < k) (hai : a ≤ i) (hp : posn (ltP S) (srt (ltP S) (pa S 9 y) i) ((pa S 9 y) i) a = posn (ltP S) (srt (ltP S) (pa S 9 y) i) ((pa S 9 y) i) i), At X 0 0 29 [(0, vr (some (8, y))), (1, vi (i : Int)), (2, vi (a : Int))] [] (sar S 9 y (ordF S 9 y (iv S 8 3 y) (insAt (srt (ltP S) (pa S 9 y) i) i a ((pa S 9 y) i)))) := by
              intro k
              induction k with
              | zero => intro a hk hai hp; exact absurd hk (by omega)
              | succ k ih29 =>
                intro a hk hai hp
                refine r_iload_n C dX0_order_29 rfl rfl ?_
                refine r_if_le (tgt := 90) C dX0_order_30 (by decide) (by omega) (fun h30 => ?_) (fun h30 => ?_)
                · skip
                  have ha0 : a = posn (ltP S) (srt (ltP S) (pa S 9 y) i) ((pa S 9 y) i) i := by rw [← hp, show a = 0 by omega]; rfl
                  rw [show insAt (srt (ltP S) (pa S 9 y) i) i a ((pa S 9 y) i) = srt (ltP S) (pa S 9 y) (i + 1) by rw [ha0]; rfl]
                  refine r_iinc (lv' := [(1, _), (0, _), (2, _)]) C dX0_order_90 rfl (hn _ (by decide)) rfl ?_
                  refine r_goto (tgt := 10) C dX0_order_93 (by decide) ?_
                  exact At_lv (by simp) (ih10 (i + 1) (by omega) (by omega) (by omega))
                · skip
                  obtain ⟨b, rfl⟩ : ∃ b, a = b + 1 := ⟨a - 1, by omega⟩
                  have hbB : (srt (ltP S) (pa S 9 y) i) b < 10 := srt_P (P := fun q => q < 10) (n := (iv S 8 3 y).toNat) (fun j hj => (hps j (by omega)).2) i (by omega) b (by omega)
                  refine r_aload_n C dX0_order_33 rfl rfl ?_
                  refine r_aload_n C dX0_order_34 rfl rfl ?_
                  refine r_getf C (mid_8 hy) (hp_8 _ _) rfl 0 (by decide) in_X0_order_X2 lk_X0_order_9 (Or.inl rfl) rfl dX0_order_35 ?_
                  refine r_iload_n C dX0_order_38 rfl rfl ?_
                  refine r_aald (j := (b + 1)) C (mid_9 hy) (hp_9 _ _) (fun _ => rfl) (rfl) (by omega) (by decide) dX0_order_39 ?_
                  refine At_val (v' := vr (some (11, (pa S 9 y) i))) (by rw [ord_a hin hai]; rfl) ?_
                  refine r_aload_n C dX0_order_40 rfl rfl ?_
                  refine r_getf C (mid_8 hy) (hp_8 _ _) rfl 0 (by decide) in_X0_order_X2 lk_X0_order_9 (Or.inl rfl) rfl dX0_order_41 ?_
                  refine r_iload_n C dX0_order_44 rfl rfl ?_
                  refine r_iconst C dX0_order_45 ?_
                  refine r_isub C dX0_order_46 ?_
                  refine r_aald (j := b) C (mid_9 hy) (hp_9 _ _) (fun _ => rfl) (by omega) (by omega) (by decide) dX0_order_47 ?_
                  refine At_val (v' := vr (some (11, (srt (ltP S) (pa S 9 y) i) b))) (by rw [ord_b hin hai]; rfl) ?_
                  refine r_callU (as := [_, _]) (na := 2) (rest := []) C (mid_8 hy) (hp_8 _ _) rfl (c_isBefore_P (sar S 9 y (ordF S 9 y (iv S 8 3 y) (insAt (srt (ltP S) (pa S 9 y) i) i (b + 1) ((pa S 9 y) i)))) y hy ((pa S 9 y) i) ((srt (ltP S) (pa S 9 y) i) b) (hps i hin).2 hbB hE) gX0_order_X0_isBefore_u67X2 (by decide +kernel) (by decide) (by decide) rfl (Nat.le_of_ble_eq_true rfl) rfl dX0_order_48 rfl (fun v1 S1 hp1 => ?_)
                  obtain ⟨rfl, e9⟩ := hp1
                  subst S1
                  refine At_val (v' := vi (b2i (ltP S ((pa S 9 y) i) ((srt (ltP S) (pa S 9 y) i) b)))) rfl ?_
                  refine r_if_eq (tgt := 90) C dX0_order_51 (by decide) (by have := b2i_01 (ltP S ((pa S 9 y) i) ((srt (ltP S) (pa S 9 y) i) b)); omega) (fun h51 => ?_) (fun h51 => ?_)
                  · skip
                    have ha0 : b + 1 = posn (ltP S) (srt (ltP S) (pa S 9 y) i) ((pa S 9 y) i) i := by rw [← hp]; exact (if_neg (by rw [b2i_0 h51]; decide)).symm
                    rw [show insAt (srt (ltP S) (pa S 9 y) i) i (b + 1) ((pa S 9 y) i) = srt (ltP S) (pa S 9 y) (i + 1) by rw [ha0]; rfl]
                    refine r_iinc (lv' := [(1, _), (0, _), (2, _)]) C dX0_order_90 rfl (hn _ (by decide)) rfl ?_
                    refine r_goto (tgt := 10) C dX0_order_93 (by decide) ?_
                    exact At_lv (by simp) (ih10 (i + 1) (by omega) (by omega) (by omega))
                  · skip
                    refine r_aload_n C dX0_order_54 rfl rfl ?_
                    refine r_getf C (mid_8 hy) (hp_8 _ _) rfl 0 (by decide) in_X0_order_X2 lk_X0_order_9 (Or.inl rfl) rfl dX0_order_55 ?_
                    refine r_iload_n C dX0_order_58 rfl rfl ?_
                    refine r_aald (j := (b + 1)) C (mid_9 hy) (hp_9 _ _) (fun _ => rfl) (rfl) (by omega) (by decide) dX0_order_59 ?_
                    refine At_val (v' := vr (some (11, (pa S 9 y) i))) (by rw [ord_a hin hai]; rfl) ?_
                    refine r_astore_n (lv' := [(3, _), (0, _), (1, _), (2, _)]) C dX0_order_60 rfl (hn _ (by decide)) rfl ?_
                    refine r_aload_n C dX0_order_61 rfl rfl ?_
                    refine r_getf C (mid_8 hy) (hp_8 _ _) rfl 0 (by decide) in_X0_order_X2 lk_X0_order_9 (Or.inl rfl) rfl dX0_order_62 ?_
                    refine r_iload_n C dX0_order_65 rfl rfl ?_
                    refine r_aload_n C dX0_order_66 rfl rfl ?_
                    refine r_getf C (mid_8 hy) (hp_8 _ _) rfl 0 (by decide) in_X0_order_X2 lk_X0_order_9 (Or.inl rfl) rfl dX0_order_67 ?_
                    refine r_iload_n C dX0_order_70 rfl rfl ?_
                    refine r_iconst C dX0_order_71 ?_
                    refine r_isub C dX0_order_72 ?_
                    refine r_aald (j := b) C (mid_9 hy) (hp_9 _ _) (fun _ => rfl) (by omega) (by omega) (by decide) dX0_order_73 ?_
                    refine At_val (v' := vr (some (11, (srt (ltP S) (pa S 9 y) i) b))) (by rw [ord_b hin hai]; rfl) ?_
                    refine r_aast11 (j := (b + 1)) C (mid_9 hy) (hp_9 _ _) (mid_11 hbB) (hp_11 _ _) rfl (rfl) (by omega) (by decide) (ha_9 _ _ _ (some ((srt (ltP S) (pa S 9 y) i) b))) dX0_order_74 ?_
                    refine r_aload_n C dX0_order_75 rfl rfl ?_
                    refine r_getf C (mid_8 hy) (hp_8 _ _) rfl 0 (by decide) in_X0_order_X2 lk_X0_order_9 (Or.inl rfl) rfl dX0_order_76 ?_
                    refine r_iload_n C dX0_order_79 rfl rfl ?_
                    refine r_iconst C dX0_order_80 ?_
                    refine r_isub C dX0_order_81 ?_
                    refine r_aload_n C dX0_order_82 rfl rfl ?_
                    refine r_aast11 (j := b) C (mid_9 hy) (hp_9 _ _) (mid_11 (hps i hin).2) (hp_11 _ _) rfl (by omega) (by omega) (by decide) (ha_9 _ _ _ (some ((pa S 9 y) i))) dX0_order_83 ?_
                    have hlt : ltP S ((pa S 9 y) i) ((srt (ltP S) (pa S 9 y) i) b) = true := b2i_1 h51
                    rw [ord_swap hin hai]
                    refine r_iinc (lv' := [(2, _), (3, _), (0, _), (1, _)]) C dX0_order_84 rfl (hn _ (by decide)) rfl ?_
                    refine r_goto (tgt := 29) C dX0_order_87 (by decide) ?_
                    exact At_lv (by simp <;> omega) (ih29 b (by omega) (by omega) (by rw [← hp]; exact (if_pos hlt).symm))
            rw [← ord_0 (A := (pa S 9 y)) (lt := ltP S) (i := i)]
            exact At_lv (by simp) (loop29 (i + 1) i (by omega) (Nat.le_refl i) rfl)
    have e1 : S = (sar S 9 y (ordF S 9 y (iv S 8 3 y) (srt (ltP S) (pa S 9 y) 1))) := by rw [srt_1]; exact (ord_init (fun j hj => (hps j hj).1)).symm
    rw [e1]
    exact At_lv (by simp) (loop10 8 1 (by omega) (by omega) (by omega))
  · skip
    exact r_vret C Rr (⟨rfl, by rw [if_neg h4]⟩) dX0_order_7
