theorem tri (p q : Prop) : (p ∧ q) ∨ ¬ p ∨ (p ∧ ¬ q) := by
  by_cases h : p
  · by_cases g : q
    · exact Or.inl ⟨h, g⟩
    · exact Or.inr (Or.inr ⟨h, g⟩)
  · exact Or.inr (Or.inl h)
theorem in_X11_goes_X11 : ∀ w ∈ wsX110, w ∈ wsX11_goes := by decide +kernel
theorem lk_X11_goes_74 : Cond.fieldLink RX11 74 "PostingPlannerModel" "last" "I" ∈ wsX11_goes := by decide +kernel
theorem in_X11_put_X11 : ∀ w ∈ wsX110, w ∈ wsX11_put := by decide +kernel
theorem lk_X11_put_7 : Cond.fieldLink RX11 7 "PostingPlannerModel" "there" "[Z" ∈ wsX11_put := by decide +kernel
theorem lk_X11_put_13 : Cond.fieldLink RX11 13 "PostingPlannerModel" "words" "[I" ∈ wsX11_put := by decide +kernel
theorem in_X11_drop_X11 : ∀ w ∈ wsX110, w ∈ wsX11_drop := by decide +kernel
theorem lk_X11_drop_7 : Cond.fieldLink RX11 7 "PostingPlannerModel" "there" "[Z" ∈ wsX11_drop := by decide +kernel
theorem in_X11_many_X11 : ∀ w ∈ wsX110, w ∈ wsX11_many := by decide +kernel
theorem lk_X11_many_7 : Cond.fieldLink RX11 7 "PostingPlannerModel" "there" "[Z" ∈ wsX11_many := by decide +kernel
theorem in_X11_documents_X11 : ∀ w ∈ wsX110, w ∈ wsX11_documents := by decide +kernel
theorem lk_X11_documents_74 : Cond.fieldLink RX11 74 "PostingPlannerModel" "last" "I" ∈ wsX11_documents := by decide +kernel
theorem in_X11_count0_X11 : ∀ w ∈ wsX110, w ∈ wsX11_count0 := by decide +kernel
theorem lk_X11_count0_7 : Cond.fieldLink RX11 7 "PostingPlannerModel" "there" "[Z" ∈ wsX11_count0 := by decide +kernel
theorem lk_X11_count0_13 : Cond.fieldLink RX11 13 "PostingPlannerModel" "words" "[I" ∈ wsX11_count0 := by decide +kernel
theorem in_X11_ask_X11 : ∀ w ∈ wsX110, w ∈ wsX11_ask := by decide +kernel
theorem lk_X11_ask_105 : Cond.fieldLink RX11 105 "PostingPlannerModel" "clauses" "I" ∈ wsX11_ask := by decide +kernel
theorem lk_X11_ask_108 : Cond.fieldLink RX11 108 "PostingPlannerModel" "kind" "I" ∈ wsX11_ask := by decide +kernel
theorem lk_X11_ask_111 : Cond.fieldLink RX11 111 "PostingPlannerModel" "need" "I" ∈ wsX11_ask := by decide +kernel
theorem in_X11_clause_X11 : ∀ w ∈ wsX110, w ∈ wsX11_clause := by decide +kernel
theorem lk_X11_clause_105 : Cond.fieldLink RX11 105 "PostingPlannerModel" "clauses" "I" ∈ wsX11_clause := by decide +kernel
theorem lk_X11_clause_17 : Cond.fieldLink RX11 17 "PostingPlannerModel" "kinds" "[I" ∈ wsX11_clause := by decide +kernel
theorem lk_X11_clause_20 : Cond.fieldLink RX11 20 "PostingPlannerModel" "needs" "[I" ∈ wsX11_clause := by decide +kernel
theorem lk_X11_clause_23 : Cond.fieldLink RX11 23 "PostingPlannerModel" "negated" "[Z" ∈ wsX11_clause := by decide +kernel
theorem lk_X11_clause_26 : Cond.fieldLink RX11 26 "PostingPlannerModel" "sizes" "[I" ∈ wsX11_clause := by decide +kernel
theorem in_X11_isMatch_X11 : ∀ w ∈ wsX110, w ∈ wsX11_isMatch := by decide +kernel
theorem lk_X11_isMatch_105 : Cond.fieldLink RX11 105 "PostingPlannerModel" "clauses" "I" ∈ wsX11_isMatch := by decide +kernel
theorem lk_X11_isMatch_7 : Cond.fieldLink RX11 7 "PostingPlannerModel" "there" "[Z" ∈ wsX11_isMatch := by decide +kernel
theorem lk_X11_isMatch_108 : Cond.fieldLink RX11 108 "PostingPlannerModel" "kind" "I" ∈ wsX11_isMatch := by decide +kernel
theorem lk_X11_isMatch_111 : Cond.fieldLink RX11 111 "PostingPlannerModel" "need" "I" ∈ wsX11_isMatch := by decide +kernel
theorem lk_X11_isMatch_26 : Cond.fieldLink RX11 26 "PostingPlannerModel" "sizes" "[I" ∈ wsX11_isMatch := by decide +kernel
theorem lk_X11_isMatch_17 : Cond.fieldLink RX11 17 "PostingPlannerModel" "kinds" "[I" ∈ wsX11_isMatch := by decide +kernel
theorem lk_X11_isMatch_20 : Cond.fieldLink RX11 20 "PostingPlannerModel" "needs" "[I" ∈ wsX11_isMatch := by decide +kernel
theorem lk_X11_isMatch_23 : Cond.fieldLink RX11 23 "PostingPlannerModel" "negated" "[Z" ∈ wsX11_isMatch := by decide +kernel
theorem lk_X11_isMatch_13 : Cond.fieldLink RX11 13 "PostingPlannerModel" "words" "[I" ∈ wsX11_isMatch := by decide +kernel
theorem lk_X11_isMatch_29 : Cond.fieldLink RX11 29 "PostingPlannerModel" "literals" "[I" ∈ wsX11_isMatch := by decide +kernel
theorem in_X11_hits_X11 : ∀ w ∈ wsX110, w ∈ wsX11_hits := by decide +kernel
theorem lk_X11_hits_74 : Cond.fieldLink RX11 74 "PostingPlannerModel" "last" "I" ∈ wsX11_hits := by decide +kernel
theorem in_X11_hasAhead_X11 : ∀ w ∈ wsX110, w ∈ wsX11_hasAhead := by decide +kernel
theorem lk_X11_hasAhead_41 : Cond.fieldLink RX11 41 "PostingPlannerModel" "clauseLiterals" "[I" ∈ wsX11_hasAhead := by decide +kernel
set_option maxHeartbeats 4000000 in
set_option maxRecDepth 100000 in
theorem M_in (S : ST) (v l m : Int) (hv : -2147483648 ≤ v ∧ v < 2147483648) (hl : -2147483648 ≤ l ∧ l < 2147483648) (hm : -2147483648 ≤ m ∧ m < 2147483648) : Ct yX11_in wsX11_in 0 [vi v, vi l, vi m] S (fun v1 S1 => v1 = some (vi (b2i (decide (l ≤ v ∧ v ≤ m)))) ∧ S1 = S) := by
  refine Ct.of (nL := 3) (by decide) rfl (Nat.le_of_ble_eq_true rfl) (by decide) (fun X C Rr hnL => ?_)
  have hn : ∀ i, i < 3 → i < X.2.2.2.2.2 := fun i h => by rw [hnL]; exact h
  refine r_iload_n C dX11_in_0 rfl rfl ?_
  refine r_iload_n C dX11_in_1 rfl rfl ?_
  refine r_icmp_lt (tgt := 14) C dX11_in_2 (by decide) (by omega) (by omega) (fun h2 => ?_) (fun h2 => ?_)
  · skip
    refine r_iconst C dX11_in_14 ?_
    exact r_zret C Rr (by decide) (⟨by first | (exfalso; omega) | rw [b2i_t (decide_eq_true (by omega))] | rw [b2i_f (decide_eq_false (by omega))], rfl⟩) dX11_in_15
  · skip
    refine r_iload_n C dX11_in_5 rfl rfl ?_
    refine r_iload_n C dX11_in_6 rfl rfl ?_
    refine r_icmp_gt (tgt := 14) C dX11_in_7 (by decide) (by omega) (by omega) (fun h7 => ?_) (fun h7 => ?_)
    · skip
      refine r_iconst C dX11_in_14 ?_
      exact r_zret C Rr (by decide) (⟨by first | (exfalso; omega) | rw [b2i_t (decide_eq_true (by omega))] | rw [b2i_f (decide_eq_false (by omega))], rfl⟩) dX11_in_15
    · skip
      refine r_iconst C dX11_in_10 ?_
      refine r_goto (tgt := 15) C dX11_in_11 (by decide) ?_
      exact r_zret C Rr (by decide) (⟨by first | (exfalso; omega) | rw [b2i_t (decide_eq_true (by omega))] | rw [b2i_f (decide_eq_false (by omega))], rfl⟩) dX11_in_15
set_option maxHeartbeats 4000000 in
set_option maxRecDepth 100000 in
theorem M_goes (S : ST) (a b c : Bool) (hM : MI S) : Ct yX11_goes wsX11_goes 0 [vr (some (20, 0)), vi (b2i a), vi (b2i b), vi (b2i c)] S (fun v1 S1 => v1 = some (vi (b2i (a && b && c))) ∧ S1 = si S 20 34 0 (if a = true then (if b = true then (if c = true then 0 else 3) else 2) else 1)) := by
  refine Ct.of (nL := 4) (by decide) rfl (Nat.le_of_ble_eq_true rfl) (by decide) (fun X C Rr hnL => ?_)
  have hn : ∀ i, i < 4 → i < X.2.2.2.2.2 := fun i h => by rw [hnL]; exact h
  refine r_aload_n C dX11_goes_0 rfl rfl ?_
  refine r_iload_n C dX11_goes_1 rfl rfl ?_
  refine r_if_ne (tgt := 9) C dX11_goes_2 (by decide) (by have := b2i_01 a; omega) (fun h2 => ?_) (fun h2 => ?_)
  · skip
    refine r_iload_n C dX11_goes_9 rfl rfl ?_
    refine r_if_ne (tgt := 17) C dX11_goes_10 (by decide) (by have := b2i_01 b; omega) (fun h10 => ?_) (fun h10 => ?_)
    · skip
      refine r_iload_n C dX11_goes_17 rfl rfl ?_
      refine r_if_eq (tgt := 25) C dX11_goes_18 (by decide) (by have := b2i_01 c; omega) (fun h18 => ?_) (fun h18 => ?_)
      · skip
        refine r_iconst C dX11_goes_25 ?_
        refine r_putf  C mid_20 (hp_20 _) rfl 34 (by decide) in_X11_goes_X11 lk_X11_goes_74 (Or.inl rfl) tyX11 tyX11_ok nmX11 rfl (tyX11_ok 34 (by decide)) (fun _ => rfl) (fun _ => rfl) (Nat.le_of_ble_eq_true rfl) (hs_20_34 _ _) dX11_goes_26 ?_
        refine mw (hM.pi34) (fun hM => ?_)
        refine r_aload_n C dX11_goes_29 rfl rfl ?_
        refine r_getf C mid_20 (hp_20 _) rfl 34 (by decide) in_X11_goes_X11 lk_X11_goes_74 (Or.inl rfl) rfl dX11_goes_30 ?_
        refine At_val (v' := vi 3) (by simp [iv, si, up3]) ?_
        refine r_if_ne (tgt := 40) C dX11_goes_33 (by decide) (by omega) (fun h33 => ?_) (fun h33 => ?_)
        · skip
          refine r_iconst C dX11_goes_40 ?_
          exact r_zret C Rr (by decide) (⟨by rw [b2i_1 h2, b2i_1 h10, b2i_0 h18]; first | rfl | (cases b <;> rfl) | (cases b <;> cases c <;> rfl) | (cases c <;> rfl), by rw [b2i_1 h2, b2i_1 h10, b2i_0 h18]; rfl⟩) dX11_goes_41
        · exact absurd h33 (by decide)
      · skip
        refine r_iconst C dX11_goes_21 ?_
        refine r_goto (tgt := 26) C dX11_goes_22 (by decide) ?_
        refine r_putf  C mid_20 (hp_20 _) rfl 34 (by decide) in_X11_goes_X11 lk_X11_goes_74 (Or.inl rfl) tyX11 tyX11_ok nmX11 rfl (tyX11_ok 34 (by decide)) (fun _ => rfl) (fun _ => rfl) (Nat.le_of_ble_eq_true rfl) (hs_20_34 _ _) dX11_goes_26 ?_
        refine mw (hM.pi34) (fun hM => ?_)
        refine r_aload_n C dX11_goes_29 rfl rfl ?_
        refine r_getf C mid_20 (hp_20 _) rfl 34 (by decide) in_X11_goes_X11 lk_X11_goes_74 (Or.inl rfl) rfl dX11_goes_30 ?_
        refine At_val (v' := vi 0) (by simp [iv, si, up3]) ?_
        refine r_if_ne (tgt := 40) C dX11_goes_33 (by decide) (by omega) (fun h33 => ?_) (fun h33 => ?_)
        · exact absurd rfl h33
        refine r_iconst C dX11_goes_36 ?_
        refine r_goto (tgt := 41) C dX11_goes_37 (by decide) ?_
        exact r_zret C Rr (by decide) (⟨by rw [b2i_1 h2, b2i_1 h10, b2i_1 h18]; first | rfl | (cases b <;> rfl) | (cases b <;> cases c <;> rfl) | (cases c <;> rfl), by rw [b2i_1 h2, b2i_1 h10, b2i_1 h18]; rfl⟩) dX11_goes_41
    · skip
      refine r_iconst C dX11_goes_13 ?_
      refine r_goto (tgt := 26) C dX11_goes_14 (by decide) ?_
      refine r_putf  C mid_20 (hp_20 _) rfl 34 (by decide) in_X11_goes_X11 lk_X11_goes_74 (Or.inl rfl) tyX11 tyX11_ok nmX11 rfl (tyX11_ok 34 (by decide)) (fun _ => rfl) (fun _ => rfl) (Nat.le_of_ble_eq_true rfl) (hs_20_34 _ _) dX11_goes_26 ?_
      refine mw (hM.pi34) (fun hM => ?_)
      refine r_aload_n C dX11_goes_29 rfl rfl ?_
      refine r_getf C mid_20 (hp_20 _) rfl 34 (by decide) in_X11_goes_X11 lk_X11_goes_74 (Or.inl rfl) rfl dX11_goes_30 ?_
      refine At_val (v' := vi 2) (by simp [iv, si, up3]) ?_
      refine r_if_ne (tgt := 40) C dX11_goes_33 (by decide) (by omega) (fun h33 => ?_) (fun h33 => ?_)
      · skip
        refine r_iconst C dX11_goes_40 ?_
        exact r_zret C Rr (by decide) (⟨by rw [b2i_1 h2, b2i_0 h10]; first | rfl | (cases b <;> rfl) | (cases b <;> cases c <;> rfl) | (cases c <;> rfl), by rw [b2i_1 h2, b2i_0 h10]; rfl⟩) dX11_goes_41
      · exact absurd h33 (by decide)
  · skip
    refine r_iconst C dX11_goes_5 ?_
    refine r_goto (tgt := 26) C dX11_goes_6 (by decide) ?_
    refine r_putf  C mid_20 (hp_20 _) rfl 34 (by decide) in_X11_goes_X11 lk_X11_goes_74 (Or.inl rfl) tyX11 tyX11_ok nmX11 rfl (tyX11_ok 34 (by decide)) (fun _ => rfl) (fun _ => rfl) (Nat.le_of_ble_eq_true rfl) (hs_20_34 _ _) dX11_goes_26 ?_
    refine mw (hM.pi34) (fun hM => ?_)
    refine r_aload_n C dX11_goes_29 rfl rfl ?_
    refine r_getf C mid_20 (hp_20 _) rfl 34 (by decide) in_X11_goes_X11 lk_X11_goes_74 (Or.inl rfl) rfl dX11_goes_30 ?_
    refine At_val (v' := vi 1) (by simp [iv, si, up3]) ?_
    refine r_if_ne (tgt := 40) C dX11_goes_33 (by decide) (by omega) (fun h33 => ?_) (fun h33 => ?_)
    · skip
      refine r_iconst C dX11_goes_40 ?_
      exact r_zret C Rr (by decide) (⟨by rw [b2i_0 h2]; first | rfl | (cases b <;> rfl) | (cases b <;> cases c <;> rfl) | (cases c <;> rfl), by rw [b2i_0 h2]; rfl⟩) dX11_goes_41
    · exact absurd h33 (by decide)
set_option maxHeartbeats 4000000 in
set_option maxRecDepth 100000 in
theorem M_isDocument (S : ST) (d : Int) (hd : -2147483648 ≤ d ∧ d < 2147483648) : Ct yX11_isDocument wsX11_isDocument 1 [vi d] S (fun v1 S1 => v1 = some (vi (b2i (decide (0 ≤ d ∧ d ≤ 39)))) ∧ S1 = S) := by
  refine Ct.of (nL := 1) (by decide) rfl (Nat.le_of_ble_eq_true rfl) (by decide) (fun X C Rr hnL => ?_)
  have hn : ∀ i, i < 1 → i < X.2.2.2.2.2 := fun i h => by rw [hnL]; exact h
  refine r_iload_n C dX11_isDocument_0 rfl rfl ?_
  refine r_iconst C dX11_isDocument_1 ?_
  refine r_bipush C dX11_isDocument_2 (by decide) ?_
  refine r_callS (as := [_, _, _]) (na := 3) (rest := []) C (M_in S d 0 39 hd (by decide) (by decide)) gX11_isDocument_X11_in (by decide +kernel) (by decide) (by decide) rfl (Nat.le_of_ble_eq_true rfl) rfl dX11_isDocument_4 rfl (fun v1 S1 hp1 => ?_)
  obtain ⟨rfl, e9⟩ := hp1
  subst S1
  exact r_zret C Rr (b2i_01 _) (⟨rfl, rfl⟩) dX11_isDocument_7
set_option maxHeartbeats 4000000 in
set_option maxRecDepth 100000 in
theorem M_put (S : ST) (d w : Int) (hd : -2147483648 ≤ d ∧ d < 2147483648) (hw : -2147483648 ≤ w ∧ w < 2147483648) (hM : MI S) : Ct yX11_put wsX11_put 2 [vr (some (20, 0)), vi d, vi w] S (fun v1 S1 => (v1 = some (vi (ai S 21 0 d.toNat)) ∧ S1 = sa (sa (si S 20 34 0 0) 21 0 d.toNat 1) 21 1 d.toNat w ∧ (0 ≤ d ∧ d ≤ 39) ∧ 0 ≤ w ∧ w ≤ 255) ∨ (v1 = some (vi 0) ∧ S1 = si S 20 34 0 1 ∧ ¬ (0 ≤ d ∧ d ≤ 39)) ∨ (v1 = some (vi 0) ∧ S1 = si S 20 34 0 2 ∧ (0 ≤ d ∧ d ≤ 39) ∧ ¬ (0 ≤ w ∧ w ≤ 255))) := by
  refine Ct.of (nL := 4) (by decide) rfl (Nat.le_of_ble_eq_true rfl) (by decide) (fun X C Rr hnL => ?_)
  have hn : ∀ i, i < 4 → i < X.2.2.2.2.2 := fun i h => by rw [hnL]; exact h
  refine r_aload_n C dX11_put_0 rfl rfl ?_
  refine r_iload_n C dX11_put_1 rfl rfl ?_
  refine r_callS (as := [_]) (na := 1) (rest := [_]) C (M_isDocument S d hd) gX11_put_X11_isDocument (by decide +kernel) (by decide) (by decide) rfl (Nat.le_of_ble_eq_true rfl) rfl dX11_put_2 rfl (fun v1 S1 hp1 => ?_)
  obtain ⟨rfl, e9⟩ := hp1
  subst S1
  refine r_iload_n C dX11_put_5 rfl rfl ?_
  refine r_iconst C dX11_put_6 ?_
  refine r_sipush C dX11_put_7 (by decide) ?_
  refine r_callS (as := [_, _, _]) (na := 3) (rest := [_, _]) C (M_in S w 0 255 hw (by decide) (by decide)) gX11_put_X11_in (by decide +kernel) (by decide) (by decide) rfl (Nat.le_of_ble_eq_true rfl) rfl dX11_put_10 rfl (fun v1 S1 hp1 => ?_)
  obtain ⟨rfl, e9⟩ := hp1
  subst S1
  refine r_iconst C dX11_put_13 ?_
  rcases tri (0 ≤ d ∧ d ≤ 39) (0 ≤ w ∧ w ≤ 255) with ⟨ha, hb⟩ | ha | ⟨ha, hb⟩
  · skip
    refine r_callV (as := [_, _, _]) (na := 3) (rest := []) C mid_20 (hp_20 _) rfl (M_goes S (decide (0 ≤ d ∧ d ≤ 39)) (decide (0 ≤ w ∧ w ≤ 255)) true hM) gX11_put_X11_goes (by decide +kernel) (by decide) (by decide) rfl (Nat.le_of_ble_eq_true rfl) rfl dX11_put_14 rfl (fun v1 S1 hp1 => ?_)
    obtain ⟨rfl, e9⟩ := hp1
    subst S1
    rw [decide_eq_true ha, decide_eq_true hb]
    change At X _ _ _ _ (vi 1 :: _) (si S 20 34 0 0)
    replace hM := hM.pi34 (v := 0)
    refine r_if_ne (tgt := 22) C dX11_put_17 (by decide) (by omega) (fun h17 => ?_) (fun h17 => ?_)
    · skip
      refine r_aload_n C dX11_put_22 rfl rfl ?_
      refine r_getf C mid_20 (hp_20 _) rfl 0 (by decide) in_X11_put_X11 lk_X11_put_7 (Or.inl rfl) rfl dX11_put_23 ?_
      refine r_iload_n C dX11_put_26 rfl rfl ?_
      refine r_bald (j := d.toNat) C mid_21_0 (hp_21_0 _) rfl (by omega) (by omega) (by decide) dX11_put_27 ?_
      refine mr hM.a0 (fun hA27 => ?_)
      refine r_istore_n (lv' := [(3, _), (0, _), (1, _), (2, _)]) C dX11_put_28 rfl (hn _ (by decide)) rfl ?_
      refine r_aload_n C dX11_put_29 rfl rfl ?_
      refine r_getf C mid_20 (hp_20 _) rfl 0 (by decide) in_X11_put_X11 lk_X11_put_7 (Or.inl rfl) rfl dX11_put_30 ?_
      refine r_iload_n C dX11_put_33 rfl rfl ?_
      refine r_iconst C dX11_put_34 ?_
      refine r_bast (j := d.toNat) C mid_21_0 (hp_21_0 _) rfl (by omega) (by omega) (by decide) (Or.inr rfl) (ha_21_0 _ _ _) dX11_put_35 ?_
      refine mw (hM.pa0 (by omega)) (fun hM => ?_)
      refine r_aload_n C dX11_put_36 rfl rfl ?_
      refine r_getf C mid_20 (hp_20 _) rfl 1 (by decide) in_X11_put_X11 lk_X11_put_13 (Or.inl rfl) rfl dX11_put_37 ?_
      refine r_iload_n C dX11_put_40 rfl rfl ?_
      refine r_iload_n C dX11_put_41 rfl rfl ?_
      refine r_iast (j := d.toNat) C mid_21_1 (hp_21_1 _) rfl (by omega) (by omega) (by decide) (ha_21_1 _ _ _) dX11_put_42 ?_
      refine mw (hM.pa1 (by omega)) (fun hM => ?_)
      refine r_iload_n C dX11_put_43 rfl rfl ?_
      exact r_zret C Rr ((by omega)) (Or.inl ⟨rfl, rfl, ha, hb⟩) dX11_put_44
    · exact absurd h17 (by decide)
  · skip
    refine r_callV (as := [_, _, _]) (na := 3) (rest := []) C mid_20 (hp_20 _) rfl (M_goes S (decide (0 ≤ d ∧ d ≤ 39)) (decide (0 ≤ w ∧ w ≤ 255)) true hM) gX11_put_X11_goes (by decide +kernel) (by decide) (by decide) rfl (Nat.le_of_ble_eq_true rfl) rfl dX11_put_14 rfl (fun v1 S1 hp1 => ?_)
    obtain ⟨rfl, e9⟩ := hp1
    subst S1
    rw [decide_eq_false ha]
    change At X _ _ _ _ (vi 0 :: _) (si S 20 34 0 1)
    replace hM := hM.pi34 (v := 1)
    refine r_if_ne (tgt := 22) C dX11_put_17 (by decide) (by omega) (fun h17 => ?_) (fun h17 => ?_)
    · exact absurd rfl h17
    refine r_iconst C dX11_put_20 ?_
    exact r_zret C Rr (by decide) (Or.inr (Or.inl ⟨rfl, rfl, ha⟩)) dX11_put_21
  · skip
    refine r_callV (as := [_, _, _]) (na := 3) (rest := []) C mid_20 (hp_20 _) rfl (M_goes S (decide (0 ≤ d ∧ d ≤ 39)) (decide (0 ≤ w ∧ w ≤ 255)) true hM) gX11_put_X11_goes (by decide +kernel) (by decide) (by decide) rfl (Nat.le_of_ble_eq_true rfl) rfl dX11_put_14 rfl (fun v1 S1 hp1 => ?_)
    obtain ⟨rfl, e9⟩ := hp1
    subst S1
    rw [decide_eq_true ha, decide_eq_false hb]
    change At X _ _ _ _ (vi 0 :: _) (si S 20 34 0 2)
    replace hM := hM.pi34 (v := 2)
    refine r_if_ne (tgt := 22) C dX11_put_17 (by decide) (by omega) (fun h17 => ?_) (fun h17 => ?_)
    · exact absurd rfl h17
    refine r_iconst C dX11_put_20 ?_
    exact r_zret C Rr (by decide) (Or.inr (Or.inr ⟨rfl, rfl, ha, hb⟩)) dX11_put_21
set_option maxHeartbeats 4000000 in
set_option maxRecDepth 100000 in
theorem M_drop (S : ST) (d : Int) (hd : -2147483648 ≤ d ∧ d < 2147483648) (hM : MI S) : Ct yX11_drop wsX11_drop 2 [vr (some (20, 0)), vi d] S (fun v1 S1 => (v1 = some (vi (ai S 21 0 d.toNat)) ∧ S1 = sa (si S 20 34 0 0) 21 0 d.toNat 0 ∧ (0 ≤ d ∧ d ≤ 39)) ∨ (v1 = some (vi 0) ∧ S1 = si S 20 34 0 1 ∧ ¬ (0 ≤ d ∧ d ≤ 39))) := by
  refine Ct.of (nL := 3) (by decide) rfl (Nat.le_of_ble_eq_true rfl) (by decide) (fun X C Rr hnL => ?_)
  have hn : ∀ i, i < 3 → i < X.2.2.2.2.2 := fun i h => by rw [hnL]; exact h
  refine r_aload_n C dX11_drop_0 rfl rfl ?_
  refine r_iload_n C dX11_drop_1 rfl rfl ?_
  refine r_callS (as := [_]) (na := 1) (rest := [_]) C (M_isDocument S d hd) gX11_drop_X11_isDocument (by decide +kernel) (by decide) (by decide) rfl (Nat.le_of_ble_eq_true rfl) rfl dX11_drop_2 rfl (fun v1 S1 hp1 => ?_)
  obtain ⟨rfl, e9⟩ := hp1
  subst S1
  refine r_iconst C dX11_drop_5 ?_
  refine r_iconst C dX11_drop_6 ?_
  by_cases ha : 0 ≤ d ∧ d ≤ 39
  · skip
    refine r_callV (as := [_, _, _]) (na := 3) (rest := []) C mid_20 (hp_20 _) rfl (M_goes S (decide (0 ≤ d ∧ d ≤ 39)) true true hM) gX11_drop_X11_goes (by decide +kernel) (by decide) (by decide) rfl (Nat.le_of_ble_eq_true rfl) rfl dX11_drop_7 rfl (fun v1 S1 hp1 => ?_)
    obtain ⟨rfl, e9⟩ := hp1
    subst S1
    rw [decide_eq_true ha]
    change At X _ _ _ _ (vi 1 :: _) (si S 20 34 0 0)
    replace hM := hM.pi34 (v := 0)
    refine r_if_ne (tgt := 15) C dX11_drop_10 (by decide) (by omega) (fun h10 => ?_) (fun h10 => ?_)
    · skip
      refine r_aload_n C dX11_drop_15 rfl rfl ?_
      refine r_getf C mid_20 (hp_20 _) rfl 0 (by decide) in_X11_drop_X11 lk_X11_drop_7 (Or.inl rfl) rfl dX11_drop_16 ?_
      refine r_iload_n C dX11_drop_19 rfl rfl ?_
      refine r_bald (j := d.toNat) C mid_21_0 (hp_21_0 _) rfl (by omega) (by omega) (by decide) dX11_drop_20 ?_
      refine mr hM.a0 (fun hA20 => ?_)
      refine r_istore_n (lv' := [(2, _), (0, _), (1, _)]) C dX11_drop_21 rfl (hn _ (by decide)) rfl ?_
      refine r_aload_n C dX11_drop_22 rfl rfl ?_
      refine r_getf C mid_20 (hp_20 _) rfl 0 (by decide) in_X11_drop_X11 lk_X11_drop_7 (Or.inl rfl) rfl dX11_drop_23 ?_
      refine r_iload_n C dX11_drop_26 rfl rfl ?_
      refine r_iconst C dX11_drop_27 ?_
      refine r_bast (j := d.toNat) C mid_21_0 (hp_21_0 _) rfl (by omega) (by omega) (by decide) (Or.inl rfl) (ha_21_0 _ _ _) dX11_drop_28 ?_
      refine mw (hM.pa0 (by omega)) (fun hM => ?_)
      refine r_iload_n C dX11_drop_29 rfl rfl ?_
      exact r_zret C Rr ((by omega)) (Or.inl ⟨rfl, rfl, ha⟩) dX11_drop_30
    · exact absurd h10 (by decide)
  · skip
    refine r_callV (as := [_, _, _]) (na := 3) (rest := []) C mid_20 (hp_20 _) rfl (M_goes S (decide (0 ≤ d ∧ d ≤ 39)) true true hM) gX11_drop_X11_goes (by decide +kernel) (by decide) (by decide) rfl (Nat.le_of_ble_eq_true rfl) rfl dX11_drop_7 rfl (fun v1 S1 hp1 => ?_)
    obtain ⟨rfl, e9⟩ := hp1
    subst S1
    rw [decide_eq_false ha]
    change At X _ _ _ _ (vi 0 :: _) (si S 20 34 0 1)
    replace hM := hM.pi34 (v := 1)
    refine r_if_ne (tgt := 15) C dX11_drop_10 (by decide) (by omega) (fun h10 => ?_) (fun h10 => ?_)
    · exact absurd rfl h10
    refine r_iconst C dX11_drop_13 ?_
    exact r_zret C Rr (by decide) (Or.inr ⟨rfl, rfl, ha⟩) dX11_drop_14
set_option maxHeartbeats 4000000 in
set_option maxRecDepth 100000 in
theorem M_many (S : ST)  (hM : MI S) : Ct yX11_many wsX11_many 0 [vr (some (20, 0))] S (fun v1 S1 => v1 = some (vi (mmany S : Nat)) ∧ S1 = S) := by
  refine Ct.of (nL := 3) (by decide) rfl (Nat.le_of_ble_eq_true rfl) (by decide) (fun X C Rr hnL => ?_)
  have hn : ∀ i, i < 3 → i < X.2.2.2.2.2 := fun i h => by rw [hnL]; exact h
  refine r_iconst C dX11_many_0 ?_
  refine r_istore_n (lv' := [(1, _), (0, _)]) C dX11_many_1 rfl (hn _ (by decide)) rfl ?_
  refine r_iconst C dX11_many_2 ?_
  refine r_istore_n (lv' := [(2, _), (1, _), (0, _)]) C dX11_many_3 rfl (hn _ (by decide)) rfl ?_
  have loop4 : ∀ (f i : Nat) (hk : 40 - i < f) (hi : i ≤ 40), At X 0 0 4 [(0, vr (some (20, 0))), (1, vi ((cnt (mthr S) 0 i) : Nat)), (2, vi (i : Int))] [] S := by
    intro kf
    induction kf with
    | zero => intro i hk hi; exact absurd hk (by omega)
    | succ kf ih =>
      intro i hk hi
      have hcl := cnt_le (mthr S) 0 i
      refine r_iload_n C dX11_many_4 rfl rfl ?_
      refine r_bipush C dX11_many_5 (by decide) ?_
      refine r_icmp_ge (tgt := 33) C dX11_many_7 (by decide) (by omega) (by omega) (fun h7 => ?_) (fun h7 => ?_)
      · skip
        refine r_iload_n C dX11_many_33 rfl rfl ?_
        exact r_iret C Rr (⟨by rw [show i = 40 by omega]; rfl, rfl⟩) dX11_many_34
      · skip
        refine r_iload_n C dX11_many_10 rfl rfl ?_
        refine r_aload_n C dX11_many_11 rfl rfl ?_
        refine r_getf C mid_20 (hp_20 _) rfl 0 (by decide) in_X11_many_X11 lk_X11_many_7 (Or.inl rfl) rfl dX11_many_12 ?_
        refine r_iload_n C dX11_many_15 rfl rfl ?_
        refine r_bald (j := _) C mid_21_0 (hp_21_0 _) rfl (rfl) (by omega) (by decide) dX11_many_16 ?_
        refine mr hM.a0 (fun hA16 => ?_)
        refine r_if_eq (tgt := 24) C dX11_many_17 (by decide) (by omega) (fun h17 => ?_) (fun h17 => ?_)
        · skip
          refine r_iconst C dX11_many_24 ?_
          refine r_iadd C dX11_many_25 ?_
          refine r_istore_n (lv' := [(1, _), (0, _), (2, _)]) C dX11_many_26 rfl (hn _ (by decide)) rfl ?_
          have e1 : cnt (mthr S) 0 (i + 1) = (cnt (mthr S) 0 i) := cnt0_no (decide_eq_false (show ¬ ai S 21 0 i = 1 by omega))
          refine r_iinc (lv' := [(2, _), (1, _), (0, _)]) C dX11_many_27 rfl (hn _ (by decide)) rfl ?_
          refine r_goto (tgt := 4) C dX11_many_30 (by decide) ?_
          exact At_lv (by simp [e1]) (ih (i + 1) (by omega) (by omega))
        · skip
          refine r_iconst C dX11_many_20 ?_
          refine r_goto (tgt := 25) C dX11_many_21 (by decide) ?_
          refine r_iadd C dX11_many_25 ?_
          refine r_istore_n (lv' := [(1, _), (0, _), (2, _)]) C dX11_many_26 rfl (hn _ (by decide)) rfl ?_
          have e1 : cnt (mthr S) 0 (i + 1) = (cnt (mthr S) 0 i) + 1 := cnt0_yes (decide_eq_true (show ai S 21 0 i = 1 by omega))
          refine r_iinc (lv' := [(2, _), (1, _), (0, _)]) C dX11_many_27 rfl (hn _ (by decide)) rfl ?_
          refine r_goto (tgt := 4) C dX11_many_30 (by decide) ?_
          exact At_lv (by simp [e1]) (ih (i + 1) (by omega) (by omega))
  exact At_lv (by simp [cnt]) (loop4 41 0 (by omega) (by omega))
set_option maxHeartbeats 4000000 in
set_option maxRecDepth 100000 in
theorem M_documents (S : ST)  (hM : MI S) : Ct yX11_documents wsX11_documents 1 [vr (some (20, 0))] S (fun v1 S1 => v1 = some (vi (mmany S : Nat)) ∧ S1 = si S 20 34 0 0) := by
  refine Ct.of (nL := 1) (by decide) rfl (Nat.le_of_ble_eq_true rfl) (by decide) (fun X C Rr hnL => ?_)
  have hn : ∀ i, i < 1 → i < X.2.2.2.2.2 := fun i h => by rw [hnL]; exact h
  refine r_aload_n C dX11_documents_0 rfl rfl ?_
  refine r_iconst C dX11_documents_1 ?_
  refine r_putf  C mid_20 (hp_20 _) rfl 34 (by decide) in_X11_documents_X11 lk_X11_documents_74 (Or.inl rfl) tyX11 tyX11_ok nmX11 rfl (tyX11_ok 34 (by decide)) (fun _ => rfl) (fun _ => rfl) (Nat.le_of_ble_eq_true rfl) (hs_20_34 _ _) dX11_documents_2 ?_
  refine mw (hM.pi34) (fun hM => ?_)
  refine r_aload_n C dX11_documents_5 rfl rfl ?_
  refine r_callV (as := []) (na := 0) (rest := []) C mid_20 (hp_20 _) rfl (M_many (si S 20 34 0 0) hM) gX11_documents_X11_many (by decide +kernel) (by decide) (by decide) rfl (Nat.le_of_ble_eq_true rfl) rfl dX11_documents_6 rfl (fun v1 S1 hp1 => ?_)
  obtain ⟨rfl, e9⟩ := hp1
  subst S1
  exact r_iret C Rr (⟨rfl, rfl⟩) dX11_documents_9
set_option maxHeartbeats 4000000 in
set_option maxRecDepth 100000 in
theorem M_isTrue (S : ST) (w c : Nat) (hw : w < 256) (hc : c < 16) : Ct yX11_isTrue wsX11_isTrue 0 [vi (w : Int), vi (c : Int)] S (fun v1 S1 => v1 = some (vi (b2i (litT c w))) ∧ S1 = S) := by
  refine Ct.of (nL := 2) (by decide) rfl (Nat.le_of_ble_eq_true rfl) (by decide) (fun X C Rr hnL => ?_)
  have hn : ∀ i, i < 2 → i < X.2.2.2.2.2 := fun i h => by rw [hnL]; exact h
  refine r_iload_n C dX11_isTrue_0 rfl rfl ?_
  refine r_iload_n C dX11_isTrue_1 rfl rfl ?_
  refine r_iconst C dX11_isTrue_2 ?_
  refine r_idiv (z := ((c / 2 : Nat) : Int)) C dX11_isTrue_3 (m_n2) (m_div2 (by omega)) ?_
  refine r_ishr (z := ((w / 2 ^ (c / 2) : Nat) : Int)) C dX11_isTrue_4 (m_ishr (by omega) (by omega)) ?_
  refine r_iconst C dX11_isTrue_5 ?_
  refine r_iand (z := ((w / 2 ^ (c / 2) % 2 : Nat) : Int)) C dX11_isTrue_6 (m_iand1 (Nat.lt_of_le_of_lt (Nat.div_le_self _ _) (by omega))) ?_
  refine r_iload_n C dX11_isTrue_7 rfl rfl ?_
  refine r_iconst C dX11_isTrue_8 ?_
  refine r_irem (z := ((c % 2 : Nat) : Int)) C dX11_isTrue_9 (m_n2) (m_rem2 (by omega)) ?_
  refine r_icmp_eq (tgt := 17) C dX11_isTrue_10 (by decide) (by omega) (by omega) (fun h10 => ?_) (fun h10 => ?_)
  · skip
    refine r_iconst C dX11_isTrue_17 ?_
    exact r_zret C Rr (by decide) (⟨by rw [b2i_f (show litT c w = false from decide_eq_false (by omega))], rfl⟩) dX11_isTrue_18
  · skip
    refine r_iconst C dX11_isTrue_13 ?_
    refine r_goto (tgt := 18) C dX11_isTrue_14 (by decide) ?_
    exact r_zret C Rr (by decide) (⟨by rw [b2i_t (show litT c w = true from decide_eq_true (by omega))], rfl⟩) dX11_isTrue_18
set_option maxHeartbeats 4000000 in
set_option maxRecDepth 100000 in
theorem M_count0 (S : ST) (c : Nat) (hc : c < 16) (hM : MI S) : Ct yX11_count0 wsX11_count0 1 [vr (some (20, 0)), vi (c : Int)] S (fun v1 S1 => v1 = some (vi (mcount S c : Nat)) ∧ S1 = S) := by
  refine Ct.of (nL := 4) (by decide) rfl (Nat.le_of_ble_eq_true rfl) (by decide) (fun X C Rr hnL => ?_)
  have hn : ∀ i, i < 4 → i < X.2.2.2.2.2 := fun i h => by rw [hnL]; exact h
  refine r_iconst C dX11_count0_0 ?_
  refine r_istore_n (lv' := [(2, _), (0, _), (1, _)]) C dX11_count0_1 rfl (hn _ (by decide)) rfl ?_
  refine r_iconst C dX11_count0_2 ?_
  refine r_istore_n (lv' := [(3, _), (2, _), (0, _), (1, _)]) C dX11_count0_3 rfl (hn _ (by decide)) rfl ?_
  have loop4 : ∀ (f i : Nat) (hk : 40 - i < f) (hi : i ≤ 40), At X 0 0 4 [(0, vr (some (20, 0))), (1, vi (c : Int)), (2, vi ((cnt (mtru S c) 0 i) : Nat)), (3, vi (i : Int))] [] S := by
    intro kf
    induction kf with
    | zero => intro i hk hi; exact absurd hk (by omega)
    | succ kf ih =>
      intro i hk hi
      have hcl := cnt_le (mtru S c) 0 i
      refine r_iload_n C dX11_count0_4 rfl rfl ?_
      refine r_bipush C dX11_count0_5 (by decide) ?_
      refine r_icmp_ge (tgt := 46) C dX11_count0_7 (by decide) (by omega) (by omega) (fun h7 => ?_) (fun h7 => ?_)
      · skip
        refine r_iload_n C dX11_count0_46 rfl rfl ?_
        exact r_iret C Rr (⟨by rw [show i = 40 by omega]; rfl, rfl⟩) dX11_count0_47
      · skip
        refine r_iload_n C dX11_count0_10 rfl rfl ?_
        refine r_aload_n C dX11_count0_11 rfl rfl ?_
        refine r_getf C mid_20 (hp_20 _) rfl 0 (by decide) in_X11_count0_X11 lk_X11_count0_7 (Or.inl rfl) rfl dX11_count0_12 ?_
        refine r_iload_n C dX11_count0_15 rfl rfl ?_
        refine r_bald (j := _) C mid_21_0 (hp_21_0 _) rfl (rfl) (by omega) (by decide) dX11_count0_16 ?_
        refine mr hM.a0 (fun hA16 => ?_)
        refine r_if_eq (tgt := 37) C dX11_count0_17 (by decide) (by omega) (fun h17 => ?_) (fun h17 => ?_)
        · skip
          refine r_iconst C dX11_count0_37 ?_
          refine r_iadd C dX11_count0_38 ?_
          refine r_istore_n (lv' := [(2, _), (0, _), (1, _), (3, _)]) C dX11_count0_39 rfl (hn _ (by decide)) rfl ?_
          have e1 : cnt (mtru S c) 0 (i + 1) = (cnt (mtru S c) 0 i) := cnt0_no (by unfold mtru; rw [show mthr S i = false from decide_eq_false (show ¬ ai S 21 0 i = 1 by omega), Bool.false_and])
          refine r_iinc (lv' := [(3, _), (2, _), (0, _), (1, _)]) C dX11_count0_40 rfl (hn _ (by decide)) rfl ?_
          refine r_goto (tgt := 4) C dX11_count0_43 (by decide) ?_
          exact At_lv (by simp [e1]) (ih (i + 1) (by omega) (by omega))
        · skip
          refine r_aload_n C dX11_count0_20 rfl rfl ?_
          refine r_getf C mid_20 (hp_20 _) rfl 1 (by decide) in_X11_count0_X11 lk_X11_count0_13 (Or.inl rfl) rfl dX11_count0_21 ?_
          refine r_iload_n C dX11_count0_24 rfl rfl ?_
          refine r_iald (j := _) C mid_21_1 (hp_21_1 _) rfl (rfl) (by omega) (by decide) dX11_count0_25 ?_
          refine mr hM.a1 (fun hA25 => ?_)
          refine At_val (v' := vi ((ai S 21 1 i).toNat : Int)) (by congr 1; omega) ?_
          refine r_iload_n C dX11_count0_26 rfl rfl ?_
          refine r_callS (as := [_, _]) (na := 2) (rest := [_]) C (M_isTrue S (ai S 21 1 i).toNat c (by omega) hc) gX11_count0_X11_isTrue (by decide +kernel) (by decide) (by decide) rfl (Nat.le_of_ble_eq_true rfl) rfl dX11_count0_27 rfl (fun v1 S1 hp1 => ?_)
          obtain ⟨rfl, e9⟩ := hp1
          subst S1
          refine r_if_eq (tgt := 37) C dX11_count0_30 (by decide) (by have := b2i_01 (litT c (ai S 21 1 i).toNat); omega) (fun h30 => ?_) (fun h30 => ?_)
          · skip
            refine r_iconst C dX11_count0_37 ?_
            refine r_iadd C dX11_count0_38 ?_
            refine r_istore_n (lv' := [(2, _), (0, _), (1, _), (3, _)]) C dX11_count0_39 rfl (hn _ (by decide)) rfl ?_
            have e1 : cnt (mtru S c) 0 (i + 1) = (cnt (mtru S c) 0 i) := cnt0_no (by unfold mtru; rw [b2i_0 h30, Bool.and_false])
            refine r_iinc (lv' := [(3, _), (2, _), (0, _), (1, _)]) C dX11_count0_40 rfl (hn _ (by decide)) rfl ?_
            refine r_goto (tgt := 4) C dX11_count0_43 (by decide) ?_
            exact At_lv (by simp [e1]) (ih (i + 1) (by omega) (by omega))
          · skip
            refine r_iconst C dX11_count0_33 ?_
            refine r_goto (tgt := 38) C dX11_count0_34 (by decide) ?_
            refine r_iadd C dX11_count0_38 ?_
            refine r_istore_n (lv' := [(2, _), (0, _), (1, _), (3, _)]) C dX11_count0_39 rfl (hn _ (by decide)) rfl ?_
            have e1 : cnt (mtru S c) 0 (i + 1) = (cnt (mtru S c) 0 i) + 1 := cnt0_yes (by unfold mtru; rw [show mthr S i = true from decide_eq_true (show ai S 21 0 i = 1 by omega), b2i_1 h30]; rfl)
            refine r_iinc (lv' := [(3, _), (2, _), (0, _), (1, _)]) C dX11_count0_40 rfl (hn _ (by decide)) rfl ?_
            refine r_goto (tgt := 4) C dX11_count0_43 (by decide) ?_
            exact At_lv (by simp [e1]) (ih (i + 1) (by omega) (by omega))
  exact At_lv (by simp [cnt]) (loop4 41 0 (by omega) (by omega))
set_option maxHeartbeats 4000000 in
set_option maxRecDepth 100000 in
theorem M_count (S : ST) (d : Int) (hd : -2147483648 ≤ d ∧ d < 2147483648) (hM : MI S) : Ct yX11_count wsX11_count 2 [vr (some (20, 0)), vi d] S (fun v1 S1 => (v1 = some (vi (mcount S (2 * d.toNat) : Nat)) ∧ S1 = si S 20 34 0 0 ∧ 0 ≤ d ∧ d ≤ 7) ∨ (v1 = some (vi 0) ∧ S1 = si S 20 34 0 1 ∧ ¬ (0 ≤ d ∧ d ≤ 7))) := by
  refine Ct.of (nL := 2) (by decide) rfl (Nat.le_of_ble_eq_true rfl) (by decide) (fun X C Rr hnL => ?_)
  have hn : ∀ i, i < 2 → i < X.2.2.2.2.2 := fun i h => by rw [hnL]; exact h
  refine r_aload_n C dX11_count_0 rfl rfl ?_
  refine r_iload_n C dX11_count_1 rfl rfl ?_
  refine r_iconst C dX11_count_2 ?_
  refine r_bipush C dX11_count_3 (by decide) ?_
  refine r_callS (as := [_, _, _]) (na := 3) (rest := [_]) C (M_in S d 0 7 hd (by decide) (by decide)) gX11_count_X11_in (by decide +kernel) (by decide) (by decide) rfl (Nat.le_of_ble_eq_true rfl) rfl dX11_count_5 rfl (fun v1 S1 hp1 => ?_)
  obtain ⟨rfl, e9⟩ := hp1
  subst S1
  refine r_iconst C dX11_count_8 ?_
  refine r_iconst C dX11_count_9 ?_
  by_cases ha : 0 ≤ d ∧ d ≤ 7
  · skip
    refine r_callV (as := [_, _, _]) (na := 3) (rest := []) C mid_20 (hp_20 _) rfl (M_goes S (decide (0 ≤ d ∧ d ≤ 7)) true true hM) gX11_count_X11_goes (by decide +kernel) (by decide) (by decide) rfl (Nat.le_of_ble_eq_true rfl) rfl dX11_count_10 rfl (fun v1 S1 hp1 => ?_)
    obtain ⟨rfl, e9⟩ := hp1
    subst S1
    rw [decide_eq_true ha]
    change At X _ _ _ _ (vi 1 :: _) (si S 20 34 0 0)
    replace hM := hM.pi34 (v := 0)
    refine r_if_eq (tgt := 26) C dX11_count_13 (by decide) (by omega) (fun h13 => ?_) (fun h13 => ?_)
    · exact absurd h13 (by decide)
    refine r_aload_n C dX11_count_16 rfl rfl ?_
    refine r_iconst C dX11_count_17 ?_
    refine r_iload_n C dX11_count_18 rfl rfl ?_
    refine r_imul C dX11_count_19 ?_
    refine At_val (v' := vi ((2 * d.toNat : Nat) : Int)) (by congr 1; omega) ?_
    refine r_callV (as := [_]) (na := 1) (rest := []) C mid_20 (hp_20 _) rfl (M_count0 (si S 20 34 0 0) (2 * d.toNat) (by omega) hM) gX11_count_X11_count0 (by decide +kernel) (by decide) (by decide) rfl (Nat.le_of_ble_eq_true rfl) rfl dX11_count_20 rfl (fun v1 S1 hp1 => ?_)
    obtain ⟨rfl, e9⟩ := hp1
    subst S1
    refine r_goto (tgt := 27) C dX11_count_23 (by decide) ?_
    exact r_iret C Rr (Or.inl ⟨rfl, rfl, ha⟩) dX11_count_27
  · skip
    refine r_callV (as := [_, _, _]) (na := 3) (rest := []) C mid_20 (hp_20 _) rfl (M_goes S (decide (0 ≤ d ∧ d ≤ 7)) true true hM) gX11_count_X11_goes (by decide +kernel) (by decide) (by decide) rfl (Nat.le_of_ble_eq_true rfl) rfl dX11_count_10 rfl (fun v1 S1 hp1 => ?_)
    obtain ⟨rfl, e9⟩ := hp1
    subst S1
    rw [decide_eq_false ha]
    change At X _ _ _ _ (vi 0 :: _) (si S 20 34 0 1)
    replace hM := hM.pi34 (v := 1)
    refine r_if_eq (tgt := 26) C dX11_count_13 (by decide) (by omega) (fun h13 => ?_) (fun h13 => ?_)
    · skip
      refine r_iconst C dX11_count_26 ?_
      exact r_iret C Rr (Or.inr ⟨rfl, rfl, ha⟩) dX11_count_27
    · exact absurd rfl h13
set_option maxHeartbeats 4000000 in
set_option maxRecDepth 100000 in
theorem M_fits (S : ST) (kd nd mo : Int) (hkd : -2147483648 ≤ kd ∧ kd < 2147483648) (hnd : -2147483648 ≤ nd ∧ nd < 2147483648) (hmo : 0 ≤ mo ∧ mo ≤ 6) : Ct yX11_fits wsX11_fits 1 [vi kd, vi nd, vi mo] S (fun v1 S1 => v1 = some (vi (b2i (decide ((kd = 0 ∧ nd = 0) ∨ (kd = 1 ∧ nd = 0) ∨ (kd = 2 ∧ 1 ≤ nd ∧ nd ≤ mo))))) ∧ S1 = S) := by
  refine Ct.of (nL := 3) (by decide) rfl (Nat.le_of_ble_eq_true rfl) (by decide) (fun X C Rr hnL => ?_)
  have hn : ∀ i, i < 3 → i < X.2.2.2.2.2 := fun i h => by rw [hnL]; exact h
  refine r_iload_n C dX11_fits_0 rfl rfl ?_
  refine r_iconst C dX11_fits_1 ?_
  refine r_iconst C dX11_fits_2 ?_
  refine r_callS (as := [_, _, _]) (na := 3) (rest := []) C (M_in S kd 0 2 hkd (by decide) (by decide)) gX11_fits_X11_in (by decide +kernel) (by decide) (by decide) rfl (Nat.le_of_ble_eq_true rfl) rfl dX11_fits_3 rfl (fun v1 S1 hp1 => ?_)
  obtain ⟨rfl, e9⟩ := hp1
  subst S1
  refine r_if_eq (tgt := 34) C dX11_fits_6 (by decide) (by have := b2i_01 (decide (0 ≤ kd ∧ kd ≤ 2)); omega) (fun h6 => ?_) (fun h6 => ?_)
  · skip
    refine r_iconst C dX11_fits_34 ?_
    exact r_zret C Rr (by decide) (⟨by first | (have q6 := of_decide_eq_false (b2i_0 h6); first | rw [b2i_f (decide_eq_false (by omega))]) | (have q20 := of_decide_eq_false (b2i_0 h20); rw [b2i_f (decide_eq_false (by omega))]) | (have q20 := of_decide_eq_true (b2i_1 h20); rw [b2i_t (decide_eq_true (by omega))]) | rw [b2i_t (decide_eq_true (by omega))] | rw [b2i_f (decide_eq_false (by omega))], rfl⟩) dX11_fits_35
  · skip
    have q6 := of_decide_eq_true (b2i_1 h6)
    refine r_iload_n C dX11_fits_9 rfl rfl ?_
    refine r_iconst C dX11_fits_10 ?_
    refine r_icmp_ne (tgt := 26) C dX11_fits_11 (by decide) (by omega) (by omega) (fun h11 => ?_) (fun h11 => ?_)
    · skip
      refine r_iload_n C dX11_fits_26 rfl rfl ?_
      refine r_if_ne (tgt := 34) C dX11_fits_27 (by decide) (by omega) (fun h27 => ?_) (fun h27 => ?_)
      · skip
        refine r_iconst C dX11_fits_34 ?_
        exact r_zret C Rr (by decide) (⟨by first | (have q6 := of_decide_eq_false (b2i_0 h6); first | rw [b2i_f (decide_eq_false (by omega))]) | (have q20 := of_decide_eq_false (b2i_0 h20); rw [b2i_f (decide_eq_false (by omega))]) | (have q20 := of_decide_eq_true (b2i_1 h20); rw [b2i_t (decide_eq_true (by omega))]) | rw [b2i_t (decide_eq_true (by omega))] | rw [b2i_f (decide_eq_false (by omega))], rfl⟩) dX11_fits_35
      · skip
        refine r_iconst C dX11_fits_30 ?_
        refine r_goto (tgt := 35) C dX11_fits_31 (by decide) ?_
        exact r_zret C Rr (by decide) (⟨by first | (have q6 := of_decide_eq_false (b2i_0 h6); first | rw [b2i_f (decide_eq_false (by omega))]) | (have q20 := of_decide_eq_false (b2i_0 h20); rw [b2i_f (decide_eq_false (by omega))]) | (have q20 := of_decide_eq_true (b2i_1 h20); rw [b2i_t (decide_eq_true (by omega))]) | rw [b2i_t (decide_eq_true (by omega))] | rw [b2i_f (decide_eq_false (by omega))], rfl⟩) dX11_fits_35
    · skip
      refine r_iload_n C dX11_fits_14 rfl rfl ?_
      refine r_iconst C dX11_fits_15 ?_
      refine r_iload_n C dX11_fits_16 rfl rfl ?_
      refine r_callS (as := [_, _, _]) (na := 3) (rest := []) C (M_in S nd 1 mo hnd (by decide) (by omega)) gX11_fits_X11_in (by decide +kernel) (by decide) (by decide) rfl (Nat.le_of_ble_eq_true rfl) rfl dX11_fits_17 rfl (fun v1 S1 hp1 => ?_)
      obtain ⟨rfl, e9⟩ := hp1
      subst S1
      refine r_if_eq (tgt := 34) C dX11_fits_20 (by decide) (by have := b2i_01 (decide (1 ≤ nd ∧ nd ≤ mo)); omega) (fun h20 => ?_) (fun h20 => ?_)
      · skip
        refine r_iconst C dX11_fits_34 ?_
        exact r_zret C Rr (by decide) (⟨by first | (have q6 := of_decide_eq_false (b2i_0 h6); first | rw [b2i_f (decide_eq_false (by omega))]) | (have q20 := of_decide_eq_false (b2i_0 h20); rw [b2i_f (decide_eq_false (by omega))]) | (have q20 := of_decide_eq_true (b2i_1 h20); rw [b2i_t (decide_eq_true (by omega))]) | rw [b2i_t (decide_eq_true (by omega))] | rw [b2i_f (decide_eq_false (by omega))], rfl⟩) dX11_fits_35
      · skip
        refine r_goto (tgt := 30) C dX11_fits_23 (by decide) ?_
        refine r_iconst C dX11_fits_30 ?_
        refine r_goto (tgt := 35) C dX11_fits_31 (by decide) ?_
        exact r_zret C Rr (by decide) (⟨by first | (have q6 := of_decide_eq_false (b2i_0 h6); first | rw [b2i_f (decide_eq_false (by omega))]) | (have q20 := of_decide_eq_false (b2i_0 h20); rw [b2i_f (decide_eq_false (by omega))]) | (have q20 := of_decide_eq_true (b2i_1 h20); rw [b2i_t (decide_eq_true (by omega))]) | rw [b2i_t (decide_eq_true (by omega))] | rw [b2i_f (decide_eq_false (by omega))], rfl⟩) dX11_fits_35
set_option maxHeartbeats 4000000 in
set_option maxRecDepth 100000 in
theorem M_ask (S : ST) (kd nd : Int) (hkd : -2147483648 ≤ kd ∧ kd < 2147483648) (hnd : -2147483648 ≤ nd ∧ nd < 2147483648) (hM : MI S) : Ct yX11_ask wsX11_ask 2 [vr (some (20, 0)), vi kd, vi nd] S (fun v1 S1 => (v1 = some (vi (iv S 20 4 0)) ∧ S1 = si (si (si (si S 20 34 0 0) 20 2 0 kd) 20 3 0 nd) 20 4 0 0 ∧ ((kd = 0 ∧ nd = 0) ∨ (kd = 1 ∧ nd = 0) ∨ (kd = 2 ∧ 1 ≤ nd ∧ nd ≤ 5))) ∨ (v1 = some (vi 0) ∧ S1 = si S 20 34 0 1 ∧ ¬ ((kd = 0 ∧ nd = 0) ∨ (kd = 1 ∧ nd = 0) ∨ (kd = 2 ∧ 1 ≤ nd ∧ nd ≤ 5)))) := by
  refine Ct.of (nL := 4) (by decide) rfl (Nat.le_of_ble_eq_true rfl) (by decide) (fun X C Rr hnL => ?_)
  have hn : ∀ i, i < 4 → i < X.2.2.2.2.2 := fun i h => by rw [hnL]; exact h
  refine r_aload_n C dX11_ask_0 rfl rfl ?_
  refine r_iload_n C dX11_ask_1 rfl rfl ?_
  refine r_iload_n C dX11_ask_2 rfl rfl ?_
  refine r_iconst C dX11_ask_3 ?_
  refine r_callS (as := [_, _, _]) (na := 3) (rest := [_]) C (M_fits S kd nd 5 hkd hnd (by decide)) gX11_ask_X11_fits (by decide +kernel) (by decide) (by decide) rfl (Nat.le_of_ble_eq_true rfl) rfl dX11_ask_4 rfl (fun v1 S1 hp1 => ?_)
  obtain ⟨rfl, e9⟩ := hp1
  subst S1
  refine r_iconst C dX11_ask_7 ?_
  refine r_iconst C dX11_ask_8 ?_
  by_cases ha : ((kd = 0 ∧ nd = 0) ∨ (kd = 1 ∧ nd = 0) ∨ (kd = 2 ∧ 1 ≤ nd ∧ nd ≤ 5))
  · skip
    refine r_callV (as := [_, _, _]) (na := 3) (rest := []) C mid_20 (hp_20 _) rfl (M_goes S (decide ((kd = 0 ∧ nd = 0) ∨ (kd = 1 ∧ nd = 0) ∨ (kd = 2 ∧ 1 ≤ nd ∧ nd ≤ 5))) true true hM) gX11_ask_X11_goes (by decide +kernel) (by decide) (by decide) rfl (Nat.le_of_ble_eq_true rfl) rfl dX11_ask_9 rfl (fun v1 S1 hp1 => ?_)
    obtain ⟨rfl, e9⟩ := hp1
    subst S1
    rw [decide_eq_true ha]
    change At X _ _ _ _ (vi 1 :: _) (si S 20 34 0 0)
    replace hM := hM.pi34 (v := 0)
    refine r_if_ne (tgt := 17) C dX11_ask_12 (by decide) (by omega) (fun h12 => ?_) (fun h12 => ?_)
    · skip
      refine r_aload_n C dX11_ask_17 rfl rfl ?_
      refine r_getf C mid_20 (hp_20 _) rfl 4 (by decide) in_X11_ask_X11 lk_X11_ask_105 (Or.inl rfl) rfl dX11_ask_18 ?_
      have hI18 := hM.i4
      refine r_istore_n (lv' := [(3, _), (0, _), (1, _), (2, _)]) C dX11_ask_21 rfl (hn _ (by decide)) rfl ?_
      refine r_aload_n C dX11_ask_22 rfl rfl ?_
      refine r_iload_n C dX11_ask_23 rfl rfl ?_
      refine r_putf  C mid_20 (hp_20 _) rfl 2 (by decide) in_X11_ask_X11 lk_X11_ask_108 (Or.inl rfl) tyX11 tyX11_ok nmX11 rfl (tyX11_ok 2 (by decide)) (fun _ => rfl) (fun _ => rfl) (Nat.le_of_ble_eq_true rfl) (hs_20_2 _ _) dX11_ask_24 ?_
      refine mw (hM.pi2 (by omega)) (fun hM => ?_)
      refine r_aload_n C dX11_ask_27 rfl rfl ?_
      refine r_iload_n C dX11_ask_28 rfl rfl ?_
      refine r_putf  C mid_20 (hp_20 _) rfl 3 (by decide) in_X11_ask_X11 lk_X11_ask_111 (Or.inl rfl) tyX11 tyX11_ok nmX11 rfl (tyX11_ok 3 (by decide)) (fun _ => rfl) (fun _ => rfl) (Nat.le_of_ble_eq_true rfl) (hs_20_3 _ _) dX11_ask_29 ?_
      refine mw (hM.pi3 (by omega)) (fun hM => ?_)
      refine r_aload_n C dX11_ask_32 rfl rfl ?_
      refine r_iconst C dX11_ask_33 ?_
      refine r_putf  C mid_20 (hp_20 _) rfl 4 (by decide) in_X11_ask_X11 lk_X11_ask_105 (Or.inl rfl) tyX11 tyX11_ok nmX11 rfl (tyX11_ok 4 (by decide)) (fun _ => rfl) (fun _ => rfl) (Nat.le_of_ble_eq_true rfl) (hs_20_4 _ _) dX11_ask_34 ?_
      refine mw (hM.pi4 (by omega)) (fun hM => ?_)
      refine r_iload_n C dX11_ask_37 rfl rfl ?_
      exact r_iret C Rr (Or.inl ⟨rfl, rfl, ha⟩) dX11_ask_38
    · exact absurd h12 (by decide)
  · skip
    refine r_callV (as := [_, _, _]) (na := 3) (rest := []) C mid_20 (hp_20 _) rfl (M_goes S (decide ((kd = 0 ∧ nd = 0) ∨ (kd = 1 ∧ nd = 0) ∨ (kd = 2 ∧ 1 ≤ nd ∧ nd ≤ 5))) true true hM) gX11_ask_X11_goes (by decide +kernel) (by decide) (by decide) rfl (Nat.le_of_ble_eq_true rfl) rfl dX11_ask_9 rfl (fun v1 S1 hp1 => ?_)
    obtain ⟨rfl, e9⟩ := hp1
    subst S1
    rw [decide_eq_false ha]
    change At X _ _ _ _ (vi 0 :: _) (si S 20 34 0 1)
    replace hM := hM.pi34 (v := 1)
    refine r_if_ne (tgt := 17) C dX11_ask_12 (by decide) (by omega) (fun h12 => ?_) (fun h12 => ?_)
    · exact absurd rfl h12
    refine r_iconst C dX11_ask_15 ?_
    exact r_iret C Rr (Or.inr ⟨rfl, rfl, ha⟩) dX11_ask_16
set_option maxHeartbeats 4000000 in
set_option maxRecDepth 100000 in
theorem M_clause (S : ST) (kd nd b : Int) (hkd : -2147483648 ≤ kd ∧ kd < 2147483648) (hnd : -2147483648 ≤ nd ∧ nd < 2147483648) (hb01 : b = 0 ∨ b = 1) (hM : MI S) : Ct yX11_clause wsX11_clause 2 [vr (some (20, 0)), vi kd, vi nd, vi b] S (fun v1 S1 => (v1 = some (vi (iv S 20 4 0)) ∧ S1 = si (sa (sa (sa (sa (si S 20 34 0 0) 21 5 (iv S 20 4 0).toNat kd) 21 6 (iv S 20 4 0).toNat nd) 21 7 (iv S 20 4 0).toNat b) 21 8 (iv S 20 4 0).toNat 0) 20 4 0 (iv S 20 4 0 + 1) ∧ ((kd = 0 ∧ nd = 0) ∨ (kd = 1 ∧ nd = 0) ∨ (kd = 2 ∧ 1 ≤ nd ∧ nd ≤ 6)) ∧ iv S 20 4 0 < 5) ∨ (v1 = some (vi 0) ∧ S1 = si S 20 34 0 1 ∧ ¬ ((kd = 0 ∧ nd = 0) ∨ (kd = 1 ∧ nd = 0) ∨ (kd = 2 ∧ 1 ≤ nd ∧ nd ≤ 6))) ∨ (v1 = some (vi 0) ∧ S1 = si S 20 34 0 2 ∧ ((kd = 0 ∧ nd = 0) ∨ (kd = 1 ∧ nd = 0) ∨ (kd = 2 ∧ 1 ≤ nd ∧ nd ≤ 6)) ∧ ¬ iv S 20 4 0 < 5)) := by
  refine Ct.of (nL := 4) (by decide) rfl (Nat.le_of_ble_eq_true rfl) (by decide) (fun X C Rr hnL => ?_)
  have hn : ∀ i, i < 4 → i < X.2.2.2.2.2 := fun i h => by rw [hnL]; exact h
  refine r_aload_n C dX11_clause_0 rfl rfl ?_
  refine r_iload_n C dX11_clause_1 rfl rfl ?_
  refine r_iload_n C dX11_clause_2 rfl rfl ?_
  refine r_bipush C dX11_clause_3 (by decide) ?_
  refine r_callS (as := [_, _, _]) (na := 3) (rest := [_]) C (M_fits S kd nd 6 hkd hnd (by decide)) gX11_clause_X11_fits (by decide +kernel) (by decide) (by decide) rfl (Nat.le_of_ble_eq_true rfl) rfl dX11_clause_5 rfl (fun v1 S1 hp1 => ?_)
  obtain ⟨rfl, e9⟩ := hp1
  subst S1
  refine r_aload_n C dX11_clause_8 rfl rfl ?_
  refine r_getf C mid_20 (hp_20 _) rfl 4 (by decide) in_X11_clause_X11 lk_X11_clause_105 (Or.inl rfl) rfl dX11_clause_9 ?_
  have hI9 := hM.i4
  refine r_iconst C dX11_clause_12 ?_
  refine r_icmp_ge (tgt := 20) C dX11_clause_13 (by decide) (by omega) (by omega) (fun h13 => ?_) (fun h13 => ?_)
  · skip
    refine r_iconst C dX11_clause_20 ?_
    refine At_val (v' := vi (b2i (decide (iv S 20 4 0 < 5)))) (by rw [b2i_f (decide_eq_false (by omega))]) ?_
    refine r_iconst C dX11_clause_21 ?_
    rcases tri (((kd = 0 ∧ nd = 0) ∨ (kd = 1 ∧ nd = 0) ∨ (kd = 2 ∧ 1 ≤ nd ∧ nd ≤ 6))) (iv S 20 4 0 < 5) with ⟨ha, hb⟩ | ha | ⟨ha, hb⟩
    · skip
      refine r_callV (as := [_, _, _]) (na := 3) (rest := []) C mid_20 (hp_20 _) rfl (M_goes S (decide ((kd = 0 ∧ nd = 0) ∨ (kd = 1 ∧ nd = 0) ∨ (kd = 2 ∧ 1 ≤ nd ∧ nd ≤ 6))) (decide (iv S 20 4 0 < 5)) true hM) gX11_clause_X11_goes (by decide +kernel) (by decide) (by decide) rfl (Nat.le_of_ble_eq_true rfl) rfl dX11_clause_22 rfl (fun v1 S1 hp1 => ?_)
      obtain ⟨rfl, e9⟩ := hp1
      subst S1
      rw [decide_eq_true ha, decide_eq_true hb]
      change At X _ _ _ _ (vi 1 :: _) (si S 20 34 0 0)
      replace hM := hM.pi34 (v := 0)
      refine r_if_ne (tgt := 30) C dX11_clause_25 (by decide) (by omega) (fun h25 => ?_) (fun h25 => ?_)
      · skip
        refine r_aload_n C dX11_clause_30 rfl rfl ?_
        refine r_getf C mid_20 (hp_20 _) rfl 5 (by decide) in_X11_clause_X11 lk_X11_clause_17 (Or.inl rfl) rfl dX11_clause_31 ?_
        refine r_aload_n C dX11_clause_34 rfl rfl ?_
        refine r_getf C mid_20 (hp_20 _) rfl 4 (by decide) in_X11_clause_X11 lk_X11_clause_105 (Or.inl rfl) rfl dX11_clause_35 ?_
        have hI35 := hM.i4
        refine r_iload_n C dX11_clause_38 rfl rfl ?_
        refine r_iast (j := (iv S 20 4 0).toNat) C mid_21_5 (hp_21_5 _) rfl (by show iv S 20 4 0 = _; omega) (by omega) (by decide) (ha_21_5 _ _ _) dX11_clause_39 ?_
        refine mw (hM.pa5 (by omega)) (fun hM => ?_)
        refine r_aload_n C dX11_clause_40 rfl rfl ?_
        refine r_getf C mid_20 (hp_20 _) rfl 6 (by decide) in_X11_clause_X11 lk_X11_clause_20 (Or.inl rfl) rfl dX11_clause_41 ?_
        refine r_aload_n C dX11_clause_44 rfl rfl ?_
        refine r_getf C mid_20 (hp_20 _) rfl 4 (by decide) in_X11_clause_X11 lk_X11_clause_105 (Or.inl rfl) rfl dX11_clause_45 ?_
        have hI45 := hM.i4
        refine r_iload_n C dX11_clause_48 rfl rfl ?_
        refine r_iast (j := (iv S 20 4 0).toNat) C mid_21_6 (hp_21_6 _) rfl (by show iv S 20 4 0 = _; omega) (by omega) (by decide) (ha_21_6 _ _ _) dX11_clause_49 ?_
        refine mw (hM.pa6 (by omega)) (fun hM => ?_)
        refine r_aload_n C dX11_clause_50 rfl rfl ?_
        refine r_getf C mid_20 (hp_20 _) rfl 7 (by decide) in_X11_clause_X11 lk_X11_clause_23 (Or.inl rfl) rfl dX11_clause_51 ?_
        refine r_aload_n C dX11_clause_54 rfl rfl ?_
        refine r_getf C mid_20 (hp_20 _) rfl 4 (by decide) in_X11_clause_X11 lk_X11_clause_105 (Or.inl rfl) rfl dX11_clause_55 ?_
        have hI55 := hM.i4
        refine r_iload_n C dX11_clause_58 rfl rfl ?_
        refine r_bast (j := (iv S 20 4 0).toNat) C mid_21_7 (hp_21_7 _) rfl (by show iv S 20 4 0 = _; omega) (by omega) (by decide) (hb01) (ha_21_7 _ _ _) dX11_clause_59 ?_
        refine mw (hM.pa7 (by omega)) (fun hM => ?_)
        refine r_aload_n C dX11_clause_60 rfl rfl ?_
        refine r_getf C mid_20 (hp_20 _) rfl 8 (by decide) in_X11_clause_X11 lk_X11_clause_26 (Or.inl rfl) rfl dX11_clause_61 ?_
        refine r_aload_n C dX11_clause_64 rfl rfl ?_
        refine r_getf C mid_20 (hp_20 _) rfl 4 (by decide) in_X11_clause_X11 lk_X11_clause_105 (Or.inl rfl) rfl dX11_clause_65 ?_
        have hI65 := hM.i4
        refine r_iconst C dX11_clause_68 ?_
        refine r_iast (j := (iv S 20 4 0).toNat) C mid_21_8 (hp_21_8 _) rfl (by show iv S 20 4 0 = _; omega) (by omega) (by decide) (ha_21_8 _ _ _) dX11_clause_69 ?_
        refine mw (hM.pa8 (by omega)) (fun hM => ?_)
        refine r_aload_n C dX11_clause_70 rfl rfl ?_
        refine r_dup C rfl dX11_clause_71 ?_
        refine r_getf C mid_20 (hp_20 _) rfl 4 (by decide) in_X11_clause_X11 lk_X11_clause_105 (Or.inl rfl) rfl dX11_clause_72 ?_
        have hI72 := hM.i4
        refine r_iconst C dX11_clause_75 ?_
        refine r_iadd C dX11_clause_76 ?_
        refine r_putf  C mid_20 (hp_20 _) rfl 4 (by decide) in_X11_clause_X11 lk_X11_clause_105 (Or.inl rfl) tyX11 tyX11_ok nmX11 rfl (tyX11_ok 4 (by decide)) (fun _ => rfl) (fun _ => rfl) (Nat.le_of_ble_eq_true rfl) (hs_20_4 _ _) dX11_clause_77 ?_
        refine mw (hM.pi4 (by show 0 ≤ iv S 20 4 0 + 1 ∧ iv S 20 4 0 + 1 ≤ 5; omega)) (fun hM => ?_)
        refine r_aload_n C dX11_clause_80 rfl rfl ?_
        refine r_getf C mid_20 (hp_20 _) rfl 4 (by decide) in_X11_clause_X11 lk_X11_clause_105 (Or.inl rfl) rfl dX11_clause_81 ?_
        have hI81 := hM.i4
        refine r_iconst C dX11_clause_84 ?_
        refine r_isub C dX11_clause_85 ?_
        refine At_val (v' := vi (iv S 20 4 0)) (by show vi (iv S 20 4 0 + 1 - 1) = _; congr 1; omega) ?_
        exact r_iret C Rr (Or.inl ⟨rfl, rfl, ha, hb⟩) dX11_clause_86
      · exact absurd h25 (by decide)
    · skip
      refine r_callV (as := [_, _, _]) (na := 3) (rest := []) C mid_20 (hp_20 _) rfl (M_goes S (decide ((kd = 0 ∧ nd = 0) ∨ (kd = 1 ∧ nd = 0) ∨ (kd = 2 ∧ 1 ≤ nd ∧ nd ≤ 6))) (decide (iv S 20 4 0 < 5)) true hM) gX11_clause_X11_goes (by decide +kernel) (by decide) (by decide) rfl (Nat.le_of_ble_eq_true rfl) rfl dX11_clause_22 rfl (fun v1 S1 hp1 => ?_)
      obtain ⟨rfl, e9⟩ := hp1
      subst S1
      rw [decide_eq_false ha]
      change At X _ _ _ _ (vi 0 :: _) (si S 20 34 0 1)
      replace hM := hM.pi34 (v := 1)
      refine r_if_ne (tgt := 30) C dX11_clause_25 (by decide) (by omega) (fun h25 => ?_) (fun h25 => ?_)
      · exact absurd rfl h25
      refine r_iconst C dX11_clause_28 ?_
      exact r_iret C Rr (Or.inr (Or.inl ⟨rfl, rfl, ha⟩)) dX11_clause_29
    · skip
      refine r_callV (as := [_, _, _]) (na := 3) (rest := []) C mid_20 (hp_20 _) rfl (M_goes S (decide ((kd = 0 ∧ nd = 0) ∨ (kd = 1 ∧ nd = 0) ∨ (kd = 2 ∧ 1 ≤ nd ∧ nd ≤ 6))) (decide (iv S 20 4 0 < 5)) true hM) gX11_clause_X11_goes (by decide +kernel) (by decide) (by decide) rfl (Nat.le_of_ble_eq_true rfl) rfl dX11_clause_22 rfl (fun v1 S1 hp1 => ?_)
      obtain ⟨rfl, e9⟩ := hp1
      subst S1
      rw [decide_eq_true ha, decide_eq_false hb]
      change At X _ _ _ _ (vi 0 :: _) (si S 20 34 0 2)
      replace hM := hM.pi34 (v := 2)
      refine r_if_ne (tgt := 30) C dX11_clause_25 (by decide) (by omega) (fun h25 => ?_) (fun h25 => ?_)
      · exact absurd rfl h25
      refine r_iconst C dX11_clause_28 ?_
      exact r_iret C Rr (Or.inr (Or.inr ⟨rfl, rfl, ha, hb⟩)) dX11_clause_29
  · skip
    refine r_iconst C dX11_clause_16 ?_
    refine r_goto (tgt := 21) C dX11_clause_17 (by decide) ?_
    refine At_val (v' := vi (b2i (decide (iv S 20 4 0 < 5)))) (by rw [b2i_t (decide_eq_true (by omega))]) ?_
    refine r_iconst C dX11_clause_21 ?_
    rcases tri (((kd = 0 ∧ nd = 0) ∨ (kd = 1 ∧ nd = 0) ∨ (kd = 2 ∧ 1 ≤ nd ∧ nd ≤ 6))) (iv S 20 4 0 < 5) with ⟨ha, hb⟩ | ha | ⟨ha, hb⟩
    · skip
      refine r_callV (as := [_, _, _]) (na := 3) (rest := []) C mid_20 (hp_20 _) rfl (M_goes S (decide ((kd = 0 ∧ nd = 0) ∨ (kd = 1 ∧ nd = 0) ∨ (kd = 2 ∧ 1 ≤ nd ∧ nd ≤ 6))) (decide (iv S 20 4 0 < 5)) true hM) gX11_clause_X11_goes (by decide +kernel) (by decide) (by decide) rfl (Nat.le_of_ble_eq_true rfl) rfl dX11_clause_22 rfl (fun v1 S1 hp1 => ?_)
      obtain ⟨rfl, e9⟩ := hp1
      subst S1
      rw [decide_eq_true ha, decide_eq_true hb]
      change At X _ _ _ _ (vi 1 :: _) (si S 20 34 0 0)
      replace hM := hM.pi34 (v := 0)
      refine r_if_ne (tgt := 30) C dX11_clause_25 (by decide) (by omega) (fun h25 => ?_) (fun h25 => ?_)
      · skip
        refine r_aload_n C dX11_clause_30 rfl rfl ?_
        refine r_getf C mid_20 (hp_20 _) rfl 5 (by decide) in_X11_clause_X11 lk_X11_clause_17 (Or.inl rfl) rfl dX11_clause_31 ?_
        refine r_aload_n C dX11_clause_34 rfl rfl ?_
        refine r_getf C mid_20 (hp_20 _) rfl 4 (by decide) in_X11_clause_X11 lk_X11_clause_105 (Or.inl rfl) rfl dX11_clause_35 ?_
        have hI35 := hM.i4
        refine r_iload_n C dX11_clause_38 rfl rfl ?_
        refine r_iast (j := (iv S 20 4 0).toNat) C mid_21_5 (hp_21_5 _) rfl (by show iv S 20 4 0 = _; omega) (by omega) (by decide) (ha_21_5 _ _ _) dX11_clause_39 ?_
        refine mw (hM.pa5 (by omega)) (fun hM => ?_)
        refine r_aload_n C dX11_clause_40 rfl rfl ?_
        refine r_getf C mid_20 (hp_20 _) rfl 6 (by decide) in_X11_clause_X11 lk_X11_clause_20 (Or.inl rfl) rfl dX11_clause_41 ?_
        refine r_aload_n C dX11_clause_44 rfl rfl ?_
        refine r_getf C mid_20 (hp_20 _) rfl 4 (by decide) in_X11_clause_X11 lk_X11_clause_105 (Or.inl rfl) rfl dX11_clause_45 ?_
        have hI45 := hM.i4
        refine r_iload_n C dX11_clause_48 rfl rfl ?_
        refine r_iast (j := (iv S 20 4 0).toNat) C mid_21_6 (hp_21_6 _) rfl (by show iv S 20 4 0 = _; omega) (by omega) (by decide) (ha_21_6 _ _ _) dX11_clause_49 ?_
        refine mw (hM.pa6 (by omega)) (fun hM => ?_)
        refine r_aload_n C dX11_clause_50 rfl rfl ?_
        refine r_getf C mid_20 (hp_20 _) rfl 7 (by decide) in_X11_clause_X11 lk_X11_clause_23 (Or.inl rfl) rfl dX11_clause_51 ?_
        refine r_aload_n C dX11_clause_54 rfl rfl ?_
        refine r_getf C mid_20 (hp_20 _) rfl 4 (by decide) in_X11_clause_X11 lk_X11_clause_105 (Or.inl rfl) rfl dX11_clause_55 ?_
        have hI55 := hM.i4
        refine r_iload_n C dX11_clause_58 rfl rfl ?_
        refine r_bast (j := (iv S 20 4 0).toNat) C mid_21_7 (hp_21_7 _) rfl (by show iv S 20 4 0 = _; omega) (by omega) (by decide) (hb01) (ha_21_7 _ _ _) dX11_clause_59 ?_
        refine mw (hM.pa7 (by omega)) (fun hM => ?_)
        refine r_aload_n C dX11_clause_60 rfl rfl ?_
        refine r_getf C mid_20 (hp_20 _) rfl 8 (by decide) in_X11_clause_X11 lk_X11_clause_26 (Or.inl rfl) rfl dX11_clause_61 ?_
        refine r_aload_n C dX11_clause_64 rfl rfl ?_
        refine r_getf C mid_20 (hp_20 _) rfl 4 (by decide) in_X11_clause_X11 lk_X11_clause_105 (Or.inl rfl) rfl dX11_clause_65 ?_
        have hI65 := hM.i4
        refine r_iconst C dX11_clause_68 ?_
        refine r_iast (j := (iv S 20 4 0).toNat) C mid_21_8 (hp_21_8 _) rfl (by show iv S 20 4 0 = _; omega) (by omega) (by decide) (ha_21_8 _ _ _) dX11_clause_69 ?_
        refine mw (hM.pa8 (by omega)) (fun hM => ?_)
        refine r_aload_n C dX11_clause_70 rfl rfl ?_
        refine r_dup C rfl dX11_clause_71 ?_
        refine r_getf C mid_20 (hp_20 _) rfl 4 (by decide) in_X11_clause_X11 lk_X11_clause_105 (Or.inl rfl) rfl dX11_clause_72 ?_
        have hI72 := hM.i4
        refine r_iconst C dX11_clause_75 ?_
        refine r_iadd C dX11_clause_76 ?_
        refine r_putf  C mid_20 (hp_20 _) rfl 4 (by decide) in_X11_clause_X11 lk_X11_clause_105 (Or.inl rfl) tyX11 tyX11_ok nmX11 rfl (tyX11_ok 4 (by decide)) (fun _ => rfl) (fun _ => rfl) (Nat.le_of_ble_eq_true rfl) (hs_20_4 _ _) dX11_clause_77 ?_
        refine mw (hM.pi4 (by show 0 ≤ iv S 20 4 0 + 1 ∧ iv S 20 4 0 + 1 ≤ 5; omega)) (fun hM => ?_)
        refine r_aload_n C dX11_clause_80 rfl rfl ?_
        refine r_getf C mid_20 (hp_20 _) rfl 4 (by decide) in_X11_clause_X11 lk_X11_clause_105 (Or.inl rfl) rfl dX11_clause_81 ?_
        have hI81 := hM.i4
        refine r_iconst C dX11_clause_84 ?_
        refine r_isub C dX11_clause_85 ?_
        refine At_val (v' := vi (iv S 20 4 0)) (by show vi (iv S 20 4 0 + 1 - 1) = _; congr 1; omega) ?_
        exact r_iret C Rr (Or.inl ⟨rfl, rfl, ha, hb⟩) dX11_clause_86
      · exact absurd h25 (by decide)
    · skip
      refine r_callV (as := [_, _, _]) (na := 3) (rest := []) C mid_20 (hp_20 _) rfl (M_goes S (decide ((kd = 0 ∧ nd = 0) ∨ (kd = 1 ∧ nd = 0) ∨ (kd = 2 ∧ 1 ≤ nd ∧ nd ≤ 6))) (decide (iv S 20 4 0 < 5)) true hM) gX11_clause_X11_goes (by decide +kernel) (by decide) (by decide) rfl (Nat.le_of_ble_eq_true rfl) rfl dX11_clause_22 rfl (fun v1 S1 hp1 => ?_)
      obtain ⟨rfl, e9⟩ := hp1
      subst S1
      rw [decide_eq_false ha]
      change At X _ _ _ _ (vi 0 :: _) (si S 20 34 0 1)
      replace hM := hM.pi34 (v := 1)
      refine r_if_ne (tgt := 30) C dX11_clause_25 (by decide) (by omega) (fun h25 => ?_) (fun h25 => ?_)
      · exact absurd rfl h25
      refine r_iconst C dX11_clause_28 ?_
      exact r_iret C Rr (Or.inr (Or.inl ⟨rfl, rfl, ha⟩)) dX11_clause_29
    · skip
      refine r_callV (as := [_, _, _]) (na := 3) (rest := []) C mid_20 (hp_20 _) rfl (M_goes S (decide ((kd = 0 ∧ nd = 0) ∨ (kd = 1 ∧ nd = 0) ∨ (kd = 2 ∧ 1 ≤ nd ∧ nd ≤ 6))) (decide (iv S 20 4 0 < 5)) true hM) gX11_clause_X11_goes (by decide +kernel) (by decide) (by decide) rfl (Nat.le_of_ble_eq_true rfl) rfl dX11_clause_22 rfl (fun v1 S1 hp1 => ?_)
      obtain ⟨rfl, e9⟩ := hp1
      subst S1
      rw [decide_eq_true ha, decide_eq_false hb]
      change At X _ _ _ _ (vi 0 :: _) (si S 20 34 0 2)
      replace hM := hM.pi34 (v := 2)
      refine r_if_ne (tgt := 30) C dX11_clause_25 (by decide) (by omega) (fun h25 => ?_) (fun h25 => ?_)
      · exact absurd rfl h25
      refine r_iconst C dX11_clause_28 ?_
      exact r_iret C Rr (Or.inr (Or.inr ⟨rfl, rfl, ha, hb⟩)) dX11_clause_29
set_option maxHeartbeats 4000000 in
set_option maxRecDepth 100000 in
theorem M_isBy (S : ST) (kd nd t o : Int) (hkd : -2147483648 ≤ kd ∧ kd < 2147483648) (hnd : -2147483648 ≤ nd ∧ nd < 2147483648) (ht : -2147483648 ≤ t ∧ t < 2147483648) (ho : -2147483648 ≤ o ∧ o < 2147483648) : Ct yX11_isBy wsX11_isBy 0 [vi kd, vi nd, vi t, vi o] S (fun v1 S1 => v1 = some (vi (b2i (enough t o kd nd))) ∧ S1 = S) := by
  refine Ct.of (nL := 4) (by decide) rfl (Nat.le_of_ble_eq_true rfl) (by decide) (fun X C Rr hnL => ?_)
  have hn : ∀ i, i < 4 → i < X.2.2.2.2.2 := fun i h => by rw [hnL]; exact h
  refine r_iload_n C dX11_isBy_0 rfl rfl ?_
  refine r_if_ne (tgt := 17) C dX11_isBy_1 (by decide) (by omega) (fun h1 => ?_) (fun h1 => ?_)
  · skip
    refine r_iload_n C dX11_isBy_17 rfl rfl ?_
    refine r_iconst C dX11_isBy_18 ?_
    refine r_icmp_ne (tgt := 34) C dX11_isBy_19 (by decide) (by omega) (by omega) (fun h19 => ?_) (fun h19 => ?_)
    · skip
      refine r_iload_n C dX11_isBy_34 rfl rfl ?_
      refine r_iload_n C dX11_isBy_35 rfl rfl ?_
      refine r_icmp_lt (tgt := 43) C dX11_isBy_36 (by decide) (by omega) (by omega) (fun h36 => ?_) (fun h36 => ?_)
      · skip
        refine r_iconst C dX11_isBy_43 ?_
        exact r_zret C Rr (by decide) (⟨by unfold enough; first | (exfalso; omega) | (rw [if_pos (by omega)]; first | rw [b2i_t (decide_eq_true (by omega))] | rw [b2i_f (decide_eq_false (by omega))]) | (rw [if_neg (by omega), if_pos (by omega)]; first | rw [b2i_t (decide_eq_true (by omega))] | rw [b2i_f (decide_eq_false (by omega))]) | (rw [if_neg (by omega), if_neg (by omega)]; first | rw [b2i_t (decide_eq_true (by omega))] | rw [b2i_f (decide_eq_false (by omega))]), rfl⟩) dX11_isBy_44
      · skip
        refine r_iconst C dX11_isBy_39 ?_
        refine r_goto (tgt := 44) C dX11_isBy_40 (by decide) ?_
        exact r_zret C Rr (by decide) (⟨by unfold enough; first | (exfalso; omega) | (rw [if_pos (by omega)]; first | rw [b2i_t (decide_eq_true (by omega))] | rw [b2i_f (decide_eq_false (by omega))]) | (rw [if_neg (by omega), if_pos (by omega)]; first | rw [b2i_t (decide_eq_true (by omega))] | rw [b2i_f (decide_eq_false (by omega))]) | (rw [if_neg (by omega), if_neg (by omega)]; first | rw [b2i_t (decide_eq_true (by omega))] | rw [b2i_f (decide_eq_false (by omega))]), rfl⟩) dX11_isBy_44
    · skip
      refine r_iload_n C dX11_isBy_22 rfl rfl ?_
      refine r_if_le (tgt := 30) C dX11_isBy_23 (by decide) (by omega) (fun h23 => ?_) (fun h23 => ?_)
      · skip
        refine r_iconst C dX11_isBy_30 ?_
        refine r_goto (tgt := 44) C dX11_isBy_31 (by decide) ?_
        exact r_zret C Rr (by decide) (⟨by unfold enough; first | (exfalso; omega) | (rw [if_pos (by omega)]; first | rw [b2i_t (decide_eq_true (by omega))] | rw [b2i_f (decide_eq_false (by omega))]) | (rw [if_neg (by omega), if_pos (by omega)]; first | rw [b2i_t (decide_eq_true (by omega))] | rw [b2i_f (decide_eq_false (by omega))]) | (rw [if_neg (by omega), if_neg (by omega)]; first | rw [b2i_t (decide_eq_true (by omega))] | rw [b2i_f (decide_eq_false (by omega))]), rfl⟩) dX11_isBy_44
      · skip
        refine r_iconst C dX11_isBy_26 ?_
        refine r_goto (tgt := 44) C dX11_isBy_27 (by decide) ?_
        exact r_zret C Rr (by decide) (⟨by unfold enough; first | (exfalso; omega) | (rw [if_pos (by omega)]; first | rw [b2i_t (decide_eq_true (by omega))] | rw [b2i_f (decide_eq_false (by omega))]) | (rw [if_neg (by omega), if_pos (by omega)]; first | rw [b2i_t (decide_eq_true (by omega))] | rw [b2i_f (decide_eq_false (by omega))]) | (rw [if_neg (by omega), if_neg (by omega)]; first | rw [b2i_t (decide_eq_true (by omega))] | rw [b2i_f (decide_eq_false (by omega))]), rfl⟩) dX11_isBy_44
  · skip
    refine r_iload_n C dX11_isBy_4 rfl rfl ?_
    refine r_iload_n C dX11_isBy_5 rfl rfl ?_
    refine r_icmp_ne (tgt := 13) C dX11_isBy_6 (by decide) (by omega) (by omega) (fun h6 => ?_) (fun h6 => ?_)
    · skip
      refine r_iconst C dX11_isBy_13 ?_
      refine r_goto (tgt := 44) C dX11_isBy_14 (by decide) ?_
      exact r_zret C Rr (by decide) (⟨by unfold enough; first | (exfalso; omega) | (rw [if_pos (by omega)]; first | rw [b2i_t (decide_eq_true (by omega))] | rw [b2i_f (decide_eq_false (by omega))]) | (rw [if_neg (by omega), if_pos (by omega)]; first | rw [b2i_t (decide_eq_true (by omega))] | rw [b2i_f (decide_eq_false (by omega))]) | (rw [if_neg (by omega), if_neg (by omega)]; first | rw [b2i_t (decide_eq_true (by omega))] | rw [b2i_f (decide_eq_false (by omega))]), rfl⟩) dX11_isBy_44
    · skip
      refine r_iconst C dX11_isBy_9 ?_
      refine r_goto (tgt := 44) C dX11_isBy_10 (by decide) ?_
      exact r_zret C Rr (by decide) (⟨by unfold enough; first | (exfalso; omega) | (rw [if_pos (by omega)]; first | rw [b2i_t (decide_eq_true (by omega))] | rw [b2i_f (decide_eq_false (by omega))]) | (rw [if_neg (by omega), if_pos (by omega)]; first | rw [b2i_t (decide_eq_true (by omega))] | rw [b2i_f (decide_eq_false (by omega))]) | (rw [if_neg (by omega), if_neg (by omega)]; first | rw [b2i_t (decide_eq_true (by omega))] | rw [b2i_f (decide_eq_false (by omega))]), rfl⟩) dX11_isBy_44
set_option maxHeartbeats 4000000 in
set_option maxRecDepth 100000 in
theorem M_isMatch (S : ST) (d : Nat) (hd : d < 40) (hM : MI S) : Ct yX11_isMatch wsX11_isMatch 1 [vr (some (20, 0)), vi (d : Int)] S (fun v1 S1 => v1 = some (vi (b2i (mhit S d))) ∧ S1 = S) := by
  refine Ct.of (nL := 6) (by decide) rfl (Nat.le_of_ble_eq_true rfl) (by decide) (fun X C Rr hnL => ?_)
  have hn : ∀ i, i < 6 → i < X.2.2.2.2.2 := fun i h => by rw [hnL]; exact h
  have hI4 := hM.i4
  refine r_iconst C dX11_isMatch_0 ?_
  refine r_istore_n (lv' := [(2, _), (0, _), (1, _)]) C dX11_isMatch_1 rfl (hn _ (by decide)) rfl ?_
  refine r_iconst C dX11_isMatch_2 ?_
  refine r_istore_n (lv' := [(3, _), (2, _), (0, _), (1, _)]) C dX11_isMatch_3 rfl (hn _ (by decide)) rfl ?_
  have loop4 : ∀ (f i : Nat) (hk : 6 - i < f) (hi : (i : Int) ≤ iv S 20 4 0), At X 0 0 4 [(0, vr (some (20, 0))), (1, vi (d : Int)), (2, vi ((cnt (fun k => mct S k (ai S 21 1 d).toNat) 0 i) : Nat)), (3, vi (i : Int))] [] S := by
    intro kf
    induction kf with
    | zero => intro i hk hi; exact absurd hk (by omega)
    | succ kf ih =>
      intro i hk hi
      have hcl := cnt_le (fun k => mct S k (ai S 21 1 d).toNat) 0 i
      have h8i := hM.a8 i
      refine r_iload_n C dX11_isMatch_4 rfl rfl ?_
      refine r_aload_n C dX11_isMatch_5 rfl rfl ?_
      refine r_getf C mid_20 (hp_20 _) rfl 4 (by decide) in_X11_isMatch_X11 lk_X11_isMatch_105 (Or.inl rfl) rfl dX11_isMatch_6 ?_
      have hI6 := hM.i4
      refine r_icmp_ge (tgt := 115) C dX11_isMatch_9 (by decide) (by omega) (by omega) (fun h9 => ?_) (fun h9 => ?_)
      · skip
        have ei : (iv S 20 4 0).toNat = i := by omega
        refine r_aload_n C dX11_isMatch_115 rfl rfl ?_
        refine r_getf C mid_20 (hp_20 _) rfl 0 (by decide) in_X11_isMatch_X11 lk_X11_isMatch_7 (Or.inl rfl) rfl dX11_isMatch_116 ?_
        refine r_iload_n C dX11_isMatch_119 rfl rfl ?_
        refine r_bald (j := _) C mid_21_0 (hp_21_0 _) rfl (rfl) (by omega) (by decide) dX11_isMatch_120 ?_
        refine mr hM.a0 (fun hA120 => ?_)
        refine r_if_eq (tgt := 147) C dX11_isMatch_121 (by decide) (by omega) (fun h121 => ?_) (fun h121 => ?_)
        · skip
          refine r_iconst C dX11_isMatch_147 ?_
          exact r_zret C Rr (Or.inl rfl) (⟨by rw [b2i_f (show mhit S d = false by unfold mhit; rw [show mthr S d = false from decide_eq_false (show ¬ ai S 21 0 d = 1 by omega), Bool.false_and])], rfl⟩) dX11_isMatch_148
        · skip
          refine r_aload_n C dX11_isMatch_124 rfl rfl ?_
          refine r_getf C mid_20 (hp_20 _) rfl 2 (by decide) in_X11_isMatch_X11 lk_X11_isMatch_108 (Or.inl rfl) rfl dX11_isMatch_125 ?_
          have hI125 := hM.i2
          refine r_aload_n C dX11_isMatch_128 rfl rfl ?_
          refine r_getf C mid_20 (hp_20 _) rfl 3 (by decide) in_X11_isMatch_X11 lk_X11_isMatch_111 (Or.inl rfl) rfl dX11_isMatch_129 ?_
          have hI129 := hM.i3
          refine r_iload_n C dX11_isMatch_132 rfl rfl ?_
          refine r_aload_n C dX11_isMatch_133 rfl rfl ?_
          refine r_getf C mid_20 (hp_20 _) rfl 4 (by decide) in_X11_isMatch_X11 lk_X11_isMatch_105 (Or.inl rfl) rfl dX11_isMatch_134 ?_
          have hI134 := hM.i4
          refine r_callS (as := [_, _, _, _]) (na := 4) (rest := []) C (M_isBy S (iv S 20 2 0) (iv S 20 3 0) ((cnt (fun k => mct S k (ai S 21 1 d).toNat) 0 i) : Nat) (iv S 20 4 0) (by omega) (by omega) (by omega) (by omega)) gX11_isMatch_X11_isBy (by decide +kernel) (by decide) (by decide) rfl (Nat.le_of_ble_eq_true rfl) rfl dX11_isMatch_137 rfl (fun v1 S1 hp1 => ?_)
          obtain ⟨rfl, e9⟩ := hp1
          subst S1
          rw [← ei]
          refine r_if_eq (tgt := 147) C dX11_isMatch_140 (by decide) (by have := b2i_01 (enough (cnt (fun k => mct S k (ai S 21 1 d).toNat) 0 (iv S 20 4 0).toNat : Nat) (iv S 20 4 0) (iv S 20 2 0) (iv S 20 3 0)); omega) (fun h140 => ?_) (fun h140 => ?_)
          · skip
            refine r_iconst C dX11_isMatch_147 ?_
            exact r_zret C Rr (Or.inl rfl) (⟨by rw [b2i_f (show mhit S d = false by unfold mhit; rw [b2i_0 h140, Bool.and_false])], rfl⟩) dX11_isMatch_148
          · skip
            refine r_iconst C dX11_isMatch_143 ?_
            refine r_goto (tgt := 148) C dX11_isMatch_144 (by decide) ?_
            exact r_zret C Rr (Or.inr rfl) (⟨by rw [b2i_t (show mhit S d = true by unfold mhit; rw [show mthr S d = true from decide_eq_true (show ai S 21 0 d = 1 by omega), b2i_1 h140]; rfl)], rfl⟩) dX11_isMatch_148
      · skip
        refine r_iconst C dX11_isMatch_12 ?_
        refine r_istore (lv' := [(4, _), (0, _), (1, _), (2, _), (3, _)]) C dX11_isMatch_13 (hn _ (by decide)) rfl ?_
        refine r_iconst C dX11_isMatch_15 ?_
        refine r_istore (lv' := [(5, _), (4, _), (0, _), (1, _), (2, _), (3, _)]) C dX11_isMatch_16 (hn _ (by decide)) rfl ?_
        have loop18 : ∀ (f j : Nat) (hk2 : 7 - j < f) (hj : (j : Int) ≤ ai S 21 8 i), At X 0 0 18 [(0, vr (some (20, 0))), (1, vi (d : Int)), (2, vi ((cnt (fun k => mct S k (ai S 21 1 d).toNat) 0 i) : Nat)), (3, vi (i : Int)), (4, vi ((cnt (fun j => litT (ai S 21 9 (6 * i + j)).toNat (ai S 21 1 d).toNat) 0 j) : Nat)), (5, vi (j : Int))] [] S := by
          intro kf
          induction kf with
          | zero => intro j hk2 hj; exact absurd hk2 (by omega)
          | succ kf ih2 =>
            intro j hk2 hj
            have hcj := cnt_le (fun j => litT (ai S 21 9 (6 * i + j)).toNat (ai S 21 1 d).toNat) 0 j
            refine r_iload C dX11_isMatch_18 rfl ?_
            refine r_aload_n C dX11_isMatch_20 rfl rfl ?_
            refine r_getf C mid_20 (hp_20 _) rfl 8 (by decide) in_X11_isMatch_X11 lk_X11_isMatch_26 (Or.inl rfl) rfl dX11_isMatch_21 ?_
            refine r_iload_n C dX11_isMatch_24 rfl rfl ?_
            refine r_iald (j := _) C mid_21_8 (hp_21_8 _) rfl (rfl) (by omega) (by decide) dX11_isMatch_25 ?_
            refine mr hM.a8 (fun hA25 => ?_)
            refine r_icmp_ge (tgt := 69) C dX11_isMatch_26 (by decide) (by omega) (by omega) (fun h26 => ?_) (fun h26 => ?_)
            · skip
              have ej : (ai S 21 8 i).toNat = j := by omega
              refine r_iload_n C dX11_isMatch_69 rfl rfl ?_
              refine r_aload_n C dX11_isMatch_70 rfl rfl ?_
              refine r_getf C mid_20 (hp_20 _) rfl 5 (by decide) in_X11_isMatch_X11 lk_X11_isMatch_17 (Or.inl rfl) rfl dX11_isMatch_71 ?_
              refine r_iload_n C dX11_isMatch_74 rfl rfl ?_
              refine r_iald (j := _) C mid_21_5 (hp_21_5 _) rfl (rfl) (by omega) (by decide) dX11_isMatch_75 ?_
              refine mr hM.a5 (fun hA75 => ?_)
              refine r_aload_n C dX11_isMatch_76 rfl rfl ?_
              refine r_getf C mid_20 (hp_20 _) rfl 6 (by decide) in_X11_isMatch_X11 lk_X11_isMatch_20 (Or.inl rfl) rfl dX11_isMatch_77 ?_
              refine r_iload_n C dX11_isMatch_80 rfl rfl ?_
              refine r_iald (j := _) C mid_21_6 (hp_21_6 _) rfl (rfl) (by omega) (by decide) dX11_isMatch_81 ?_
              refine mr hM.a6 (fun hA81 => ?_)
              refine r_iload C dX11_isMatch_82 rfl ?_
              refine r_aload_n C dX11_isMatch_84 rfl rfl ?_
              refine r_getf C mid_20 (hp_20 _) rfl 8 (by decide) in_X11_isMatch_X11 lk_X11_isMatch_26 (Or.inl rfl) rfl dX11_isMatch_85 ?_
              refine r_iload_n C dX11_isMatch_88 rfl rfl ?_
              refine r_iald (j := _) C mid_21_8 (hp_21_8 _) rfl (rfl) (by omega) (by decide) dX11_isMatch_89 ?_
              refine mr hM.a8 (fun hA89 => ?_)
              refine r_callS (as := [_, _, _, _]) (na := 4) (rest := [_]) C (M_isBy S (ai S 21 5 i) (ai S 21 6 i) ((cnt (fun j => litT (ai S 21 9 (6 * i + j)).toNat (ai S 21 1 d).toNat) 0 j) : Nat) (ai S 21 8 i) (by omega) (by omega) (by omega) (by omega)) gX11_isMatch_X11_isBy (by decide +kernel) (by decide) (by decide) rfl (Nat.le_of_ble_eq_true rfl) rfl dX11_isMatch_90 rfl (fun v1 S1 hp1 => ?_)
              obtain ⟨rfl, e9⟩ := hp1
              subst S1
              rw [← ej]
              refine r_aload_n C dX11_isMatch_93 rfl rfl ?_
              refine r_getf C mid_20 (hp_20 _) rfl 7 (by decide) in_X11_isMatch_X11 lk_X11_isMatch_23 (Or.inl rfl) rfl dX11_isMatch_94 ?_
              refine r_iload_n C dX11_isMatch_97 rfl rfl ?_
              refine r_bald (j := _) C mid_21_7 (hp_21_7 _) rfl (rfl) (by omega) (by decide) dX11_isMatch_98 ?_
              refine mr hM.a7 (fun hA98 => ?_)
              refine r_icmp_eq (tgt := 106) C dX11_isMatch_99 (by decide) (by have := b2i_01 (enough (cnt (fun j => litT (ai S 21 9 (6 * i + j)).toNat (ai S 21 1 d).toNat) 0 (ai S 21 8 i).toNat) (ai S 21 8 i) (ai S 21 5 i) (ai S 21 6 i)); omega) (by omega) (fun h99 => ?_) (fun h99 => ?_)
              · skip
                refine r_iconst C dX11_isMatch_106 ?_
                refine r_iadd C dX11_isMatch_107 ?_
                refine r_istore_n (lv' := [(2, _), (0, _), (1, _), (3, _), (4, _), (5, _)]) C dX11_isMatch_108 rfl (hn _ (by decide)) rfl ?_
                have e1 : cnt (fun k => mct S k (ai S 21 1 d).toNat) 0 (i + 1) = (cnt (fun k => mct S k (ai S 21 1 d).toNat) 0 i) := cnt0_no (by show ((enough (cnt (fun j => litT (ai S 21 9 (6 * i + j)).toNat (ai S 21 1 d).toNat) 0 (ai S 21 8 i).toNat) (ai S 21 8 i) (ai S 21 5 i) (ai S 21 6 i)) != decide (ai S 21 7 i = 1)) = false; cases hen : (enough (cnt (fun j => litT (ai S 21 9 (6 * i + j)).toNat (ai S 21 1 d).toNat) 0 (ai S 21 8 i).toNat) (ai S 21 8 i) (ai S 21 5 i) (ai S 21 6 i)) <;> rw [hen] at h99 <;> simp [b2i] at h99 ⊢ <;> omega)
                refine r_iinc (lv' := [(3, _), (2, _), (0, _), (1, _), (4, _), (5, _)]) C dX11_isMatch_109 rfl (hn _ (by decide)) rfl ?_
                refine r_goto (tgt := 4) C dX11_isMatch_112 (by decide) ?_
                exact At_lv (by simp [e1]) (ih (i + 1) (by omega) (by omega))
              · skip
                refine r_iconst C dX11_isMatch_102 ?_
                refine r_goto (tgt := 107) C dX11_isMatch_103 (by decide) ?_
                refine r_iadd C dX11_isMatch_107 ?_
                refine r_istore_n (lv' := [(2, _), (0, _), (1, _), (3, _), (4, _), (5, _)]) C dX11_isMatch_108 rfl (hn _ (by decide)) rfl ?_
                have e1 : cnt (fun k => mct S k (ai S 21 1 d).toNat) 0 (i + 1) = (cnt (fun k => mct S k (ai S 21 1 d).toNat) 0 i) + 1 := cnt0_yes (by show ((enough (cnt (fun j => litT (ai S 21 9 (6 * i + j)).toNat (ai S 21 1 d).toNat) 0 (ai S 21 8 i).toNat) (ai S 21 8 i) (ai S 21 5 i) (ai S 21 6 i)) != decide (ai S 21 7 i = 1)) = true; cases hen : (enough (cnt (fun j => litT (ai S 21 9 (6 * i + j)).toNat (ai S 21 1 d).toNat) 0 (ai S 21 8 i).toNat) (ai S 21 8 i) (ai S 21 5 i) (ai S 21 6 i)) <;> rw [hen] at h99 <;> simp [b2i] at h99 ⊢ <;> omega)
                refine r_iinc (lv' := [(3, _), (2, _), (0, _), (1, _), (4, _), (5, _)]) C dX11_isMatch_109 rfl (hn _ (by decide)) rfl ?_
                refine r_goto (tgt := 4) C dX11_isMatch_112 (by decide) ?_
                exact At_lv (by simp [e1]) (ih (i + 1) (by omega) (by omega))
            · skip
              refine r_iload C dX11_isMatch_29 rfl ?_
              refine r_aload_n C dX11_isMatch_31 rfl rfl ?_
              refine r_getf C mid_20 (hp_20 _) rfl 1 (by decide) in_X11_isMatch_X11 lk_X11_isMatch_13 (Or.inl rfl) rfl dX11_isMatch_32 ?_
              refine r_iload_n C dX11_isMatch_35 rfl rfl ?_
              refine r_iald (j := _) C mid_21_1 (hp_21_1 _) rfl (rfl) (by omega) (by decide) dX11_isMatch_36 ?_
              refine mr hM.a1 (fun hA36 => ?_)
              refine At_val (v' := vi ((ai S 21 1 d).toNat : Int)) (by congr 1; omega) ?_
              refine r_aload_n C dX11_isMatch_37 rfl rfl ?_
              refine r_getf C mid_20 (hp_20 _) rfl 9 (by decide) in_X11_isMatch_X11 lk_X11_isMatch_29 (Or.inl rfl) rfl dX11_isMatch_38 ?_
              refine r_bipush C dX11_isMatch_41 (by decide) ?_
              refine r_iload_n C dX11_isMatch_43 rfl rfl ?_
              refine r_imul C dX11_isMatch_44 ?_
              refine r_iload C dX11_isMatch_45 rfl ?_
              refine r_iadd C dX11_isMatch_47 ?_
              refine r_iald (j := 6 * i + j) C mid_21_9 (hp_21_9 _) rfl (by omega) (by omega) (by decide) dX11_isMatch_48 ?_
              refine mr hM.a9 (fun hA48 => ?_)
              refine At_val (v' := vi ((ai S 21 9 (6 * i + j)).toNat : Int)) (by congr 1; omega) ?_
              refine r_callS (as := [_, _]) (na := 2) (rest := [_]) C (M_isTrue S (ai S 21 1 d).toNat (ai S 21 9 (6 * i + j)).toNat (by omega) (by omega)) gX11_isMatch_X11_isTrue (by decide +kernel) (by decide) (by decide) rfl (Nat.le_of_ble_eq_true rfl) rfl dX11_isMatch_49 rfl (fun v1 S1 hp1 => ?_)
              obtain ⟨rfl, e9⟩ := hp1
              subst S1
              refine r_if_eq (tgt := 59) C dX11_isMatch_52 (by decide) (by have := b2i_01 (litT (ai S 21 9 (6 * i + j)).toNat (ai S 21 1 d).toNat); omega) (fun h52 => ?_) (fun h52 => ?_)
              · skip
                refine r_iconst C dX11_isMatch_59 ?_
                refine r_iadd C dX11_isMatch_60 ?_
                refine r_istore (lv' := [(4, _), (0, _), (1, _), (2, _), (3, _), (5, _)]) C dX11_isMatch_61 (hn _ (by decide)) rfl ?_
                have e2 : cnt (fun j => litT (ai S 21 9 (6 * i + j)).toNat (ai S 21 1 d).toNat) 0 (j + 1) = (cnt (fun j => litT (ai S 21 9 (6 * i + j)).toNat (ai S 21 1 d).toNat) 0 j) := cnt0_no (b2i_0 h52)
                refine r_iinc (lv' := [(5, _), (4, _), (0, _), (1, _), (2, _), (3, _)]) C dX11_isMatch_63 rfl (hn _ (by decide)) rfl ?_
                refine r_goto (tgt := 18) C dX11_isMatch_66 (by decide) ?_
                exact At_lv (by simp [e2]) (ih2 (j + 1) (by omega) (by omega))
              · skip
                refine r_iconst C dX11_isMatch_55 ?_
                refine r_goto (tgt := 60) C dX11_isMatch_56 (by decide) ?_
                refine r_iadd C dX11_isMatch_60 ?_
                refine r_istore (lv' := [(4, _), (0, _), (1, _), (2, _), (3, _), (5, _)]) C dX11_isMatch_61 (hn _ (by decide)) rfl ?_
                have e2 : cnt (fun j => litT (ai S 21 9 (6 * i + j)).toNat (ai S 21 1 d).toNat) 0 (j + 1) = (cnt (fun j => litT (ai S 21 9 (6 * i + j)).toNat (ai S 21 1 d).toNat) 0 j) + 1 := cnt0_yes (b2i_1 h52)
                refine r_iinc (lv' := [(5, _), (4, _), (0, _), (1, _), (2, _), (3, _)]) C dX11_isMatch_63 rfl (hn _ (by decide)) rfl ?_
                refine r_goto (tgt := 18) C dX11_isMatch_66 (by decide) ?_
                exact At_lv (by simp [e2]) (ih2 (j + 1) (by omega) (by omega))
        exact At_lv (by simp [cnt]) (loop18 8 0 (by omega) (by omega))
  exact At_lv (by simp [cnt]) (loop4 7 0 (by omega) (by omega))
set_option maxHeartbeats 4000000 in
set_option maxRecDepth 100000 in
theorem M_matches (S : ST) (d : Int) (hd : -2147483648 ≤ d ∧ d < 2147483648) (hM : MI S) : Ct yX11_matches wsX11_matches 2 [vr (some (20, 0)), vi d] S (fun v1 S1 => (v1 = some (vi (b2i (mhit S d.toNat))) ∧ S1 = si S 20 34 0 0 ∧ 0 ≤ d ∧ d ≤ 39) ∨ (v1 = some (vi 0) ∧ S1 = si S 20 34 0 1 ∧ ¬ (0 ≤ d ∧ d ≤ 39))) := by
  refine Ct.of (nL := 2) (by decide) rfl (Nat.le_of_ble_eq_true rfl) (by decide) (fun X C Rr hnL => ?_)
  have hn : ∀ i, i < 2 → i < X.2.2.2.2.2 := fun i h => by rw [hnL]; exact h
  refine r_aload_n C dX11_matches_0 rfl rfl ?_
  refine r_iload_n C dX11_matches_1 rfl rfl ?_
  refine r_callS (as := [_]) (na := 1) (rest := [_]) C (M_isDocument S d hd) gX11_matches_X11_isDocument (by decide +kernel) (by decide) (by decide) rfl (Nat.le_of_ble_eq_true rfl) rfl dX11_matches_2 rfl (fun v1 S1 hp1 => ?_)
  obtain ⟨rfl, e9⟩ := hp1
  subst S1
  refine r_iconst C dX11_matches_5 ?_
  refine r_iconst C dX11_matches_6 ?_
  by_cases ha : 0 ≤ d ∧ d ≤ 39
  · skip
    refine r_callV (as := [_, _, _]) (na := 3) (rest := []) C mid_20 (hp_20 _) rfl (M_goes S (decide (0 ≤ d ∧ d ≤ 39)) true true hM) gX11_matches_X11_goes (by decide +kernel) (by decide) (by decide) rfl (Nat.le_of_ble_eq_true rfl) rfl dX11_matches_7 rfl (fun v1 S1 hp1 => ?_)
    obtain ⟨rfl, e9⟩ := hp1
    subst S1
    rw [decide_eq_true ha]
    change At X _ _ _ _ (vi 1 :: _) (si S 20 34 0 0)
    replace hM := hM.pi34 (v := 0)
    refine r_if_eq (tgt := 25) C dX11_matches_10 (by decide) (by omega) (fun h10 => ?_) (fun h10 => ?_)
    · exact absurd h10 (by decide)
    refine r_aload_n C dX11_matches_13 rfl rfl ?_
    refine r_iload_n C dX11_matches_14 rfl rfl ?_
    refine At_val (v' := vi (d.toNat : Int)) (by congr 1; omega) ?_
    refine r_callV (as := [_]) (na := 1) (rest := []) C mid_20 (hp_20 _) rfl (M_isMatch (si S 20 34 0 0) d.toNat (by omega) hM) gX11_matches_X11_isMatch (by decide +kernel) (by decide) (by decide) rfl (Nat.le_of_ble_eq_true rfl) rfl dX11_matches_15 rfl (fun v1 S1 hp1 => ?_)
    obtain ⟨rfl, e9⟩ := hp1
    subst S1
    refine r_if_eq (tgt := 25) C dX11_matches_18 (by decide) (by have := b2i_01 (mhit (si S 20 34 0 0) d.toNat); omega) (fun h18 => ?_) (fun h18 => ?_)
    · skip
      refine r_iconst C dX11_matches_25 ?_
      exact r_zret C Rr (by decide) (Or.inl ⟨by rw [show mhit S d.toNat = false from b2i_0 h18]; rfl, rfl, ha⟩) dX11_matches_26
    · skip
      refine r_iconst C dX11_matches_21 ?_
      refine r_goto (tgt := 26) C dX11_matches_22 (by decide) ?_
      exact r_zret C Rr (by decide) (Or.inl ⟨by rw [show mhit S d.toNat = true from b2i_1 h18]; rfl, rfl, ha⟩) dX11_matches_26
  · skip
    refine r_callV (as := [_, _, _]) (na := 3) (rest := []) C mid_20 (hp_20 _) rfl (M_goes S (decide (0 ≤ d ∧ d ≤ 39)) true true hM) gX11_matches_X11_goes (by decide +kernel) (by decide) (by decide) rfl (Nat.le_of_ble_eq_true rfl) rfl dX11_matches_7 rfl (fun v1 S1 hp1 => ?_)
    obtain ⟨rfl, e9⟩ := hp1
    subst S1
    rw [decide_eq_false ha]
    change At X _ _ _ _ (vi 0 :: _) (si S 20 34 0 1)
    replace hM := hM.pi34 (v := 1)
    refine r_if_eq (tgt := 25) C dX11_matches_10 (by decide) (by omega) (fun h10 => ?_) (fun h10 => ?_)
    · skip
      refine r_iconst C dX11_matches_25 ?_
      exact r_zret C Rr (by decide) (Or.inr ⟨rfl, rfl, ha⟩) dX11_matches_26
    · exact absurd rfl h10
set_option maxHeartbeats 4000000 in
set_option maxRecDepth 100000 in
theorem M_hits (S : ST)  (hM : MI S) : Ct yX11_hits wsX11_hits 2 [vr (some (20, 0))] S (fun v1 S1 => v1 = some (vi (cnt (mhit S) 0 40 : Nat)) ∧ S1 = si S 20 34 0 0) := by
  refine Ct.of (nL := 3) (by decide) rfl (Nat.le_of_ble_eq_true rfl) (by decide) (fun X C Rr hnL => ?_)
  have hn : ∀ i, i < 3 → i < X.2.2.2.2.2 := fun i h => by rw [hnL]; exact h
  refine r_aload_n C dX11_hits_0 rfl rfl ?_
  refine r_iconst C dX11_hits_1 ?_
  refine r_putf  C mid_20 (hp_20 _) rfl 34 (by decide) in_X11_hits_X11 lk_X11_hits_74 (Or.inl rfl) tyX11 tyX11_ok nmX11 rfl (tyX11_ok 34 (by decide)) (fun _ => rfl) (fun _ => rfl) (Nat.le_of_ble_eq_true rfl) (hs_20_34 _ _) dX11_hits_2 ?_
  refine mw (hM.pi34) (fun hM => ?_)
  refine r_iconst C dX11_hits_5 ?_
  refine r_istore_n (lv' := [(1, _), (0, _)]) C dX11_hits_6 rfl (hn _ (by decide)) rfl ?_
  refine r_iconst C dX11_hits_7 ?_
  refine r_istore_n (lv' := [(2, _), (1, _), (0, _)]) C dX11_hits_8 rfl (hn _ (by decide)) rfl ?_
  have loop9 : ∀ (f i : Nat) (hk : 40 - i < f) (hi : i ≤ 40), At X 0 0 9 [(0, vr (some (20, 0))), (1, vi ((cnt (mhit S) 0 i) : Nat)), (2, vi (i : Int))] [] (si S 20 34 0 0) := by
    intro kf
    induction kf with
    | zero => intro i hk hi; exact absurd hk (by omega)
    | succ kf ih =>
      intro i hk hi
      have hcl := cnt_le (mhit S) 0 i
      refine r_iload_n C dX11_hits_9 rfl rfl ?_
      refine r_bipush C dX11_hits_10 (by decide) ?_
      refine r_icmp_ge (tgt := 37) C dX11_hits_12 (by decide) (by omega) (by omega) (fun h12 => ?_) (fun h12 => ?_)
      · skip
        refine r_iload_n C dX11_hits_37 rfl rfl ?_
        exact r_iret C Rr (⟨by rw [show i = 40 by omega], rfl⟩) dX11_hits_38
      · skip
        refine r_iload_n C dX11_hits_15 rfl rfl ?_
        refine r_aload_n C dX11_hits_16 rfl rfl ?_
        refine r_iload_n C dX11_hits_17 rfl rfl ?_
        refine r_callV (as := [_]) (na := 1) (rest := [_]) C mid_20 (hp_20 _) rfl (M_isMatch (si S 20 34 0 0) i (by omega) hM) gX11_hits_X11_isMatch (by decide +kernel) (by decide) (by decide) rfl (Nat.le_of_ble_eq_true rfl) rfl dX11_hits_18 rfl (fun v1 S1 hp1 => ?_)
        obtain ⟨rfl, e9⟩ := hp1
        subst S1
        refine r_if_eq (tgt := 28) C dX11_hits_21 (by decide) (by have := b2i_01 (mhit (si S 20 34 0 0) i); omega) (fun h21 => ?_) (fun h21 => ?_)
        · skip
          refine r_iconst C dX11_hits_28 ?_
          refine r_iadd C dX11_hits_29 ?_
          refine r_istore_n (lv' := [(1, _), (0, _), (2, _)]) C dX11_hits_30 rfl (hn _ (by decide)) rfl ?_
          have e1 : cnt (mhit S) 0 (i + 1) = (cnt (mhit S) 0 i) := cnt0_no (show mhit S i = false from b2i_0 h21)
          refine r_iinc (lv' := [(2, _), (1, _), (0, _)]) C dX11_hits_31 rfl (hn _ (by decide)) rfl ?_
          refine r_goto (tgt := 9) C dX11_hits_34 (by decide) ?_
          exact At_lv (by simp [e1]) (ih (i + 1) (by omega) (by omega))
        · skip
          refine r_iconst C dX11_hits_24 ?_
          refine r_goto (tgt := 29) C dX11_hits_25 (by decide) ?_
          refine r_iadd C dX11_hits_29 ?_
          refine r_istore_n (lv' := [(1, _), (0, _), (2, _)]) C dX11_hits_30 rfl (hn _ (by decide)) rfl ?_
          have e1 : cnt (mhit S) 0 (i + 1) = (cnt (mhit S) 0 i) + 1 := cnt0_yes (show mhit S i = true from b2i_1 h21)
          refine r_iinc (lv' := [(2, _), (1, _), (0, _)]) C dX11_hits_31 rfl (hn _ (by decide)) rfl ?_
          refine r_goto (tgt := 9) C dX11_hits_34 (by decide) ?_
          exact At_lv (by simp [e1]) (ih (i + 1) (by omega) (by omega))
  exact At_lv (by simp [cnt]) (loop9 41 0 (by omega) (by omega))
set_option maxHeartbeats 4000000 in
set_option maxRecDepth 100000 in
theorem M_some (S : ST) (nd o : Int) (hnd : -20 ≤ nd ∧ nd ≤ 20) (ho : 0 ≤ o ∧ o ≤ 20) : Ct yX11_some wsX11_some 0 [vi nd, vi o] S (fun v1 S1 => v1 = some (vi (someK nd o)) ∧ S1 = S) := by
  refine Ct.of (nL := 2) (by decide) rfl (Nat.le_of_ble_eq_true rfl) (by decide) (fun X C Rr hnL => ?_)
  have hn : ∀ i, i < 2 → i < X.2.2.2.2.2 := fun i h => by rw [hnL]; exact h
  refine r_iload_n C dX11_some_0 rfl rfl ?_
  refine r_if_gt (tgt := 8) C dX11_some_1 (by decide) (by omega) (fun h1 => ?_) (fun h1 => ?_)
  · skip
    refine r_iload_n C dX11_some_8 rfl rfl ?_
    refine r_iload_n C dX11_some_9 rfl rfl ?_
    refine r_icmp_le (tgt := 17) C dX11_some_10 (by decide) (by omega) (by omega) (fun h10 => ?_) (fun h10 => ?_)
    · skip
      refine r_iload_n C dX11_some_17 rfl rfl ?_
      refine r_iconst C dX11_some_18 ?_
      refine r_icmp_ne (tgt := 26) C dX11_some_19 (by decide) (by omega) (by omega) (fun h19 => ?_) (fun h19 => ?_)
      · skip
        refine r_iload_n C dX11_some_26 rfl rfl ?_
        refine r_iload_n C dX11_some_27 rfl rfl ?_
        refine r_icmp_ne (tgt := 35) C dX11_some_28 (by decide) (by omega) (by omega) (fun h28 => ?_) (fun h28 => ?_)
        · skip
          refine r_iconst C dX11_some_35 ?_
          exact r_iret C Rr (⟨by unfold someK; first | (exfalso; omega) | rw [if_pos (by omega)] | rw [if_neg (by omega), if_pos (by omega)] | rw [if_neg (by omega), if_neg (by omega), if_pos (by omega)] | rw [if_neg (by omega), if_neg (by omega), if_neg (by omega), if_pos (by omega)] | rw [if_neg (by omega), if_neg (by omega), if_neg (by omega), if_neg (by omega)], rfl⟩) dX11_some_36
        · skip
          refine r_iconst C dX11_some_31 ?_
          refine r_goto (tgt := 36) C dX11_some_32 (by decide) ?_
          exact r_iret C Rr (⟨by unfold someK; first | (exfalso; omega) | rw [if_pos (by omega)] | rw [if_neg (by omega), if_pos (by omega)] | rw [if_neg (by omega), if_neg (by omega), if_pos (by omega)] | rw [if_neg (by omega), if_neg (by omega), if_neg (by omega), if_pos (by omega)] | rw [if_neg (by omega), if_neg (by omega), if_neg (by omega), if_neg (by omega)], rfl⟩) dX11_some_36
      · skip
        refine r_iconst C dX11_some_22 ?_
        refine r_goto (tgt := 36) C dX11_some_23 (by decide) ?_
        exact r_iret C Rr (⟨by unfold someK; first | (exfalso; omega) | rw [if_pos (by omega)] | rw [if_neg (by omega), if_pos (by omega)] | rw [if_neg (by omega), if_neg (by omega), if_pos (by omega)] | rw [if_neg (by omega), if_neg (by omega), if_neg (by omega), if_pos (by omega)] | rw [if_neg (by omega), if_neg (by omega), if_neg (by omega), if_neg (by omega)], rfl⟩) dX11_some_36
    · skip
      refine r_iconst C dX11_some_13 ?_
      refine r_goto (tgt := 36) C dX11_some_14 (by decide) ?_
      exact r_iret C Rr (⟨by unfold someK; first | (exfalso; omega) | rw [if_pos (by omega)] | rw [if_neg (by omega), if_pos (by omega)] | rw [if_neg (by omega), if_neg (by omega), if_pos (by omega)] | rw [if_neg (by omega), if_neg (by omega), if_neg (by omega), if_pos (by omega)] | rw [if_neg (by omega), if_neg (by omega), if_neg (by omega), if_neg (by omega)], rfl⟩) dX11_some_36
  · skip
    refine r_iconst C dX11_some_4 ?_
    refine r_goto (tgt := 36) C dX11_some_5 (by decide) ?_
    exact r_iret C Rr (⟨by unfold someK; first | (exfalso; omega) | rw [if_pos (by omega)] | rw [if_neg (by omega), if_pos (by omega)] | rw [if_neg (by omega), if_neg (by omega), if_pos (by omega)] | rw [if_neg (by omega), if_neg (by omega), if_neg (by omega), if_pos (by omega)] | rw [if_neg (by omega), if_neg (by omega), if_neg (by omega), if_neg (by omega)], rfl⟩) dX11_some_36
set_option maxHeartbeats 4000000 in
set_option maxRecDepth 100000 in
theorem M_hasAhead (S : ST) (k n : Nat) (c : Int) (hk5 : k < 5) (hn : n ≤ 6) (hc : 0 ≤ c ∧ c ≤ 16) (hM : MI S) : Ct yX11_hasAhead wsX11_hasAhead 0 [vr (some (20, 0)), vi (k : Int), vi (n : Int), vi c] S (fun v1 S1 => v1 = some (vi (b2i (hasA S k n c))) ∧ S1 = S) := by
  refine Ct.of (nL := 6) (by decide) rfl (Nat.le_of_ble_eq_true rfl) (by decide) (fun X C Rr hnL => ?_)
  have hn : ∀ i, i < 6 → i < X.2.2.2.2.2 := fun i h => by rw [hnL]; exact h
  refine r_iconst C dX11_hasAhead_0 ?_
  refine r_istore (lv' := [(4, _), (0, _), (1, _), (2, _), (3, _)]) C dX11_hasAhead_1 (hn _ (by decide)) rfl ?_
  refine r_iconst C dX11_hasAhead_3 ?_
  refine r_istore (lv' := [(5, _), (4, _), (0, _), (1, _), (2, _), (3, _)]) C dX11_hasAhead_4 (hn _ (by decide)) rfl ?_
  have loop6 : ∀ (f i : Nat) (hk : 7 - i < f) (hi : i ≤ n), At X 0 0 6 [(0, vr (some (20, 0))), (1, vi (k : Int)), (2, vi (n : Int)), (3, vi c), (4, vi (b2i (hasA S k i c))), (5, vi (i : Int))] [] S := by
    intro kf
    induction kf with
    | zero => intro i hk hi; exact absurd hk (by omega)
    | succ kf ih =>
      intro i hk hi
      have hb4 := b2i_01 (hasA S k i c)
      refine r_iload C dX11_hasAhead_6 rfl ?_
      refine r_iload_n C dX11_hasAhead_8 rfl rfl ?_
      refine r_icmp_ge (tgt := 46) C dX11_hasAhead_9 (by decide) (by omega) (by omega) (fun h9 => ?_) (fun h9 => ?_)
      · skip
        refine r_iload C dX11_hasAhead_46 rfl ?_
        exact r_zret C Rr ((by omega)) (⟨by rw [show i = n by omega], rfl⟩) dX11_hasAhead_48
      · skip
        refine r_iload C dX11_hasAhead_12 rfl ?_
        refine r_if_ne (tgt := 33) C dX11_hasAhead_14 (by decide) (by omega) (fun h14 => ?_) (fun h14 => ?_)
        · skip
          refine r_iconst C dX11_hasAhead_33 ?_
          refine r_goto (tgt := 38) C dX11_hasAhead_34 (by decide) ?_
          refine r_istore (lv' := [(4, _), (0, _), (1, _), (2, _), (3, _), (5, _)]) C dX11_hasAhead_38 (hn _ (by decide)) rfl ?_
          have e1 : hasA S k (i + 1) c = true := by show ((hasA S k i c) || _) = true; rw [b2i_1 h14]; rfl
          refine r_iinc (lv' := [(5, _), (4, _), (0, _), (1, _), (2, _), (3, _)]) C dX11_hasAhead_40 rfl (hn _ (by decide)) rfl ?_
          refine r_goto (tgt := 6) C dX11_hasAhead_43 (by decide) ?_
          exact At_lv (by simp [e1, b2i]) (ih (i + 1) (by omega) (by omega))
        · skip
          refine r_aload_n C dX11_hasAhead_17 rfl rfl ?_
          refine r_getf C mid_20 (hp_20 _) rfl 13 (by decide) in_X11_hasAhead_X11 lk_X11_hasAhead_41 (Or.inl rfl) rfl dX11_hasAhead_18 ?_
          refine r_bipush C dX11_hasAhead_21 (by decide) ?_
          refine r_iload_n C dX11_hasAhead_23 rfl rfl ?_
          refine r_imul C dX11_hasAhead_24 ?_
          refine r_iload C dX11_hasAhead_25 rfl ?_
          refine r_iadd C dX11_hasAhead_27 ?_
          refine r_iald (j := 6 * k + i) C mid_21_13 (hp_21_13 _) rfl (by omega) (by omega) (by decide) dX11_hasAhead_28 ?_
          refine mr hM.a13 (fun hA28 => ?_)
          refine r_iload_n C dX11_hasAhead_29 rfl rfl ?_
          refine r_icmp_ne (tgt := 37) C dX11_hasAhead_30 (by decide) (by omega) (by omega) (fun h30 => ?_) (fun h30 => ?_)
          · skip
            refine r_iconst C dX11_hasAhead_37 ?_
            refine r_istore (lv' := [(4, _), (0, _), (1, _), (2, _), (3, _), (5, _)]) C dX11_hasAhead_38 (hn _ (by decide)) rfl ?_
            have e1 : hasA S k (i + 1) c = false := by show ((hasA S k i c) || decide (ai S 21 13 (6 * k + i) = c)) = false; rw [b2i_0 h14, decide_eq_false h30]; rfl
            refine r_iinc (lv' := [(5, _), (4, _), (0, _), (1, _), (2, _), (3, _)]) C dX11_hasAhead_40 rfl (hn _ (by decide)) rfl ?_
            refine r_goto (tgt := 6) C dX11_hasAhead_43 (by decide) ?_
            exact At_lv (by simp [e1, b2i]) (ih (i + 1) (by omega) (by omega))
          · skip
            refine r_iconst C dX11_hasAhead_33 ?_
            refine r_goto (tgt := 38) C dX11_hasAhead_34 (by decide) ?_
            refine r_istore (lv' := [(4, _), (0, _), (1, _), (2, _), (3, _), (5, _)]) C dX11_hasAhead_38 (hn _ (by decide)) rfl ?_
            have e1 : hasA S k (i + 1) c = true := by show ((hasA S k i c) || decide (ai S 21 13 (6 * k + i) = c)) = true; rw [decide_eq_true h30, Bool.or_true]
            refine r_iinc (lv' := [(5, _), (4, _), (0, _), (1, _), (2, _), (3, _)]) C dX11_hasAhead_40 rfl (hn _ (by decide)) rfl ?_
            refine r_goto (tgt := 6) C dX11_hasAhead_43 (by decide) ?_
            exact At_lv (by simp [e1, b2i]) (ih (i + 1) (by omega) (by omega))
  exact At_lv (by simp [hasA, anyb, b2i]) (loop6 8 0 (by omega) (by omega))
set_option maxHeartbeats 4000000 in
set_option maxRecDepth 100000 in
theorem M_isAhead (S : ST) (x y : Int) (hx : 0 ≤ x ∧ x < 16) (hy : 0 ≤ y ∧ y < 16) (hM : MI S) : Ct yX11_isAhead wsX11_isAhead 2 [vr (some (20, 0)), vi x, vi y] S (fun v1 S1 => v1 = some (vi (b2i (ltM S x y))) ∧ S1 = S) := by
  refine Ct.of (nL := 5) (by decide) rfl (Nat.le_of_ble_eq_true rfl) (by decide) (fun X C Rr hnL => ?_)
  have hn : ∀ i, i < 5 → i < X.2.2.2.2.2 := fun i h => by rw [hnL]; exact h
  have hcx := mcount_le S x.toNat
  have hcy := mcount_le S y.toNat
  refine r_aload_n C dX11_isAhead_0 rfl rfl ?_
  refine r_iload_n C dX11_isAhead_1 rfl rfl ?_
  refine At_val (v' := vi (x.toNat : Int)) (by congr 1; omega) ?_
  refine r_callV (as := [_]) (na := 1) (rest := []) C mid_20 (hp_20 _) rfl (M_count0 S x.toNat (by omega) hM) gX11_isAhead_X11_count0 (by decide +kernel) (by decide) (by decide) rfl (Nat.le_of_ble_eq_true rfl) rfl dX11_isAhead_2 rfl (fun v1 S1 hp1 => ?_)
  obtain ⟨rfl, e9⟩ := hp1
  subst S1
  refine r_istore_n (lv' := [(3, _), (0, _), (1, _), (2, _)]) C dX11_isAhead_5 rfl (hn _ (by decide)) rfl ?_
  refine r_aload_n C dX11_isAhead_6 rfl rfl ?_
  refine r_iload_n C dX11_isAhead_7 rfl rfl ?_
  refine At_val (v' := vi (y.toNat : Int)) (by congr 1; omega) ?_
  refine r_callV (as := [_]) (na := 1) (rest := []) C mid_20 (hp_20 _) rfl (M_count0 S y.toNat (by omega) hM) gX11_isAhead_X11_count0 (by decide +kernel) (by decide) (by decide) rfl (Nat.le_of_ble_eq_true rfl) rfl dX11_isAhead_8 rfl (fun v1 S1 hp1 => ?_)
  obtain ⟨rfl, e9⟩ := hp1
  subst S1
  refine r_istore (lv' := [(4, _), (3, _), (0, _), (1, _), (2, _)]) C dX11_isAhead_11 (hn _ (by decide)) rfl ?_
  refine r_iload_n C dX11_isAhead_13 rfl rfl ?_
  refine r_iload C dX11_isAhead_14 rfl ?_
  refine r_icmp_lt (tgt := 30) C dX11_isAhead_16 (by decide) (by omega) (by omega) (fun h16 => ?_) (fun h16 => ?_)
  · skip
    refine r_iconst C dX11_isAhead_30 ?_
    refine r_goto (tgt := 35) C dX11_isAhead_31 (by decide) ?_
    exact r_zret C Rr (by decide) (⟨by unfold ltM; first | rw [b2i_t (decide_eq_true (by omega))] | rw [b2i_f (decide_eq_false (by omega))], rfl⟩) dX11_isAhead_35
  · skip
    refine r_iload_n C dX11_isAhead_19 rfl rfl ?_
    refine r_iload C dX11_isAhead_20 rfl ?_
    refine r_icmp_ne (tgt := 34) C dX11_isAhead_22 (by decide) (by omega) (by omega) (fun h22 => ?_) (fun h22 => ?_)
    · skip
      refine r_iconst C dX11_isAhead_34 ?_
      exact r_zret C Rr (by decide) (⟨by unfold ltM; first | rw [b2i_t (decide_eq_true (by omega))] | rw [b2i_f (decide_eq_false (by omega))], rfl⟩) dX11_isAhead_35
    · skip
      refine r_iload_n C dX11_isAhead_25 rfl rfl ?_
      refine r_iload_n C dX11_isAhead_26 rfl rfl ?_
      refine r_icmp_ge (tgt := 34) C dX11_isAhead_27 (by decide) (by omega) (by omega) (fun h27 => ?_) (fun h27 => ?_)
      · skip
        refine r_iconst C dX11_isAhead_34 ?_
        exact r_zret C Rr (by decide) (⟨by unfold ltM; first | rw [b2i_t (decide_eq_true (by omega))] | rw [b2i_f (decide_eq_false (by omega))], rfl⟩) dX11_isAhead_35
      · skip
        refine r_iconst C dX11_isAhead_30 ?_
        refine r_goto (tgt := 35) C dX11_isAhead_31 (by decide) ?_
        exact r_zret C Rr (by decide) (⟨by unfold ltM; first | rw [b2i_t (decide_eq_true (by omega))] | rw [b2i_f (decide_eq_false (by omega))], rfl⟩) dX11_isAhead_35
set_option maxHeartbeats 4000000 in
set_option maxRecDepth 100000 in
theorem M_estimated (S : ST) (its nd least sum : Int) (hits : 0 ≤ its ∧ its ≤ 4) (hnd : -20 ≤ nd ∧ nd ≤ 20) (hn2 : its = 2 → 1 ≤ nd) (hl : 0 ≤ least ∧ least ≤ 40) (hs : 0 ≤ sum ∧ sum ≤ 1000) (hM : MI S) : Ct yX11_estimated wsX11_estimated 1 [vr (some (20, 0)), vi its, vi nd, vi least, vi sum] S (fun v1 S1 => v1 = some (vi (estM its nd least sum (mmany S : Nat))) ∧ S1 = S) := by
  refine Ct.of (nL := 6) (by decide) rfl (Nat.le_of_ble_eq_true rfl) (by decide) (fun X C Rr hnL => ?_)
  have hn : ∀ i, i < 6 → i < X.2.2.2.2.2 := fun i h => by rw [hnL]; exact h
  have hmm := mmany_le S
  refine r_iload_n C dX11_estimated_0 rfl rfl ?_
  refine r_iconst C dX11_estimated_1 ?_
  refine r_icmp_ne (tgt := 12) C dX11_estimated_2 (by decide) (by omega) (by omega) (fun h2 => ?_) (fun h2 => ?_)
  · skip
    refine r_iload C dX11_estimated_12 rfl ?_
    refine At_val (v' := vi (if its = 2 then sum / nd else sum)) (by rw [if_neg (by omega)]) ?_
    have hcu : 0 ≤ (if its = 2 then sum / nd else sum) ∧ (if its = 2 then sum / nd else sum) ≤ 1000 := by rw [if_neg (by omega)]; exact hs
    refine r_istore (lv' := [(5, _), (0, _), (1, _), (2, _), (3, _), (4, _)]) C dX11_estimated_14 (hn _ (by decide)) rfl ?_
    refine r_iload_n C dX11_estimated_16 rfl rfl ?_
    refine r_if_ne (tgt := 24) C dX11_estimated_17 (by decide) (by omega) (fun h17 => ?_) (fun h17 => ?_)
    · skip
      refine r_iload_n C dX11_estimated_24 rfl rfl ?_
      refine r_iconst C dX11_estimated_25 ?_
      refine r_icmp_ne (tgt := 36) C dX11_estimated_26 (by decide) (by omega) (by omega) (fun h26 => ?_) (fun h26 => ?_)
      · skip
        refine r_iload_n C dX11_estimated_36 rfl rfl ?_
        refine r_iconst C dX11_estimated_37 ?_
        refine r_icmp_ne (tgt := 45) C dX11_estimated_38 (by decide) (by omega) (by omega) (fun h38 => ?_) (fun h38 => ?_)
        · skip
          refine r_iload C dX11_estimated_45 rfl ?_
          refine r_aload_n C dX11_estimated_47 rfl rfl ?_
          refine r_callV (as := []) (na := 0) (rest := [_]) C mid_20 (hp_20 _) rfl (M_many S hM) gX11_estimated_X11_many (by decide +kernel) (by decide) (by decide) rfl (Nat.le_of_ble_eq_true rfl) rfl dX11_estimated_48 rfl (fun v1 S1 hp1 => ?_)
          obtain ⟨rfl, e9⟩ := hp1
          subst S1
          generalize hcv : (if its = 2 then sum / nd else sum) = cu at hcu ⊢
          have hcu2 : -2147483648 ≤ cu ∧ cu < 2147483648 := by omega
          refine r_icmp_ge (tgt := 59) C dX11_estimated_51 (by decide) hcu2 (by omega) (fun h51 => ?_) (fun h51 => ?_)
          · skip
            refine r_aload_n C dX11_estimated_59 rfl rfl ?_
            refine r_callV (as := []) (na := 0) (rest := []) C mid_20 (hp_20 _) rfl (M_many S hM) gX11_estimated_X11_many (by decide +kernel) (by decide) (by decide) rfl (Nat.le_of_ble_eq_true rfl) rfl dX11_estimated_60 rfl (fun v1 S1 hp1 => ?_)
            obtain ⟨rfl, e9⟩ := hp1
            subst S1
            exact r_iret C Rr (⟨by unfold estM; first | (exfalso; omega) | rw [if_pos (by omega)] | rw [if_neg (by omega), if_pos (by omega)] | rw [if_neg (by omega), if_neg (by omega), if_pos (by omega)] | (rw [if_neg (by omega), if_neg (by omega), if_neg (by omega)]; simp only [hcv]; first | rw [if_pos (by omega)] | rw [if_neg (by omega)]), rfl⟩) dX11_estimated_63
          · skip
            refine r_iload C dX11_estimated_54 rfl ?_
            refine r_goto (tgt := 63) C dX11_estimated_56 (by decide) ?_
            exact r_iret C Rr (⟨by unfold estM; first | (exfalso; omega) | rw [if_pos (by omega)] | rw [if_neg (by omega), if_pos (by omega)] | rw [if_neg (by omega), if_neg (by omega), if_pos (by omega)] | (rw [if_neg (by omega), if_neg (by omega), if_neg (by omega)]; simp only [hcv]; first | rw [if_pos (by omega)] | rw [if_neg (by omega)]), rfl⟩) dX11_estimated_63
        · skip
          refine r_iconst C dX11_estimated_41 ?_
          refine r_goto (tgt := 63) C dX11_estimated_42 (by decide) ?_
          exact r_iret C Rr (⟨by unfold estM; first | (exfalso; omega) | rw [if_pos (by omega)] | rw [if_neg (by omega), if_pos (by omega)] | rw [if_neg (by omega), if_neg (by omega), if_pos (by omega)] | (rw [if_neg (by omega), if_neg (by omega), if_neg (by omega)]; simp only [hcv]; first | rw [if_pos (by omega)] | rw [if_neg (by omega)]), rfl⟩) dX11_estimated_63
      · skip
        refine r_aload_n C dX11_estimated_29 rfl rfl ?_
        refine r_callV (as := []) (na := 0) (rest := []) C mid_20 (hp_20 _) rfl (M_many S hM) gX11_estimated_X11_many (by decide +kernel) (by decide) (by decide) rfl (Nat.le_of_ble_eq_true rfl) rfl dX11_estimated_30 rfl (fun v1 S1 hp1 => ?_)
        obtain ⟨rfl, e9⟩ := hp1
        subst S1
        refine r_goto (tgt := 63) C dX11_estimated_33 (by decide) ?_
        exact r_iret C Rr (⟨by unfold estM; first | (exfalso; omega) | rw [if_pos (by omega)] | rw [if_neg (by omega), if_pos (by omega)] | rw [if_neg (by omega), if_neg (by omega), if_pos (by omega)] | (rw [if_neg (by omega), if_neg (by omega), if_neg (by omega)]; simp only [hcv]; first | rw [if_pos (by omega)] | rw [if_neg (by omega)]), rfl⟩) dX11_estimated_63
    · skip
      refine r_iload_n C dX11_estimated_20 rfl rfl ?_
      refine r_goto (tgt := 63) C dX11_estimated_21 (by decide) ?_
      exact r_iret C Rr (⟨by unfold estM; first | (exfalso; omega) | rw [if_pos (by omega)] | rw [if_neg (by omega), if_pos (by omega)] | rw [if_neg (by omega), if_neg (by omega), if_pos (by omega)] | (rw [if_neg (by omega), if_neg (by omega), if_neg (by omega)]; simp only [hcv]; first | rw [if_pos (by omega)] | rw [if_neg (by omega)]), rfl⟩) dX11_estimated_63
  · skip
    refine r_iload C dX11_estimated_5 rfl ?_
    refine r_iload_n C dX11_estimated_7 rfl rfl ?_
    refine r_idiv (z := sum / nd) C dX11_estimated_8 (m_ne0 (by omega)) (m_idiv (by omega) (by omega)) ?_
    refine r_goto (tgt := 14) C dX11_estimated_9 (by decide) ?_
    refine At_val (v' := vi (if its = 2 then sum / nd else sum)) (by rw [if_pos (by omega)]) ?_
    have hcu : 0 ≤ (if its = 2 then sum / nd else sum) ∧ (if its = 2 then sum / nd else sum) ≤ 1000 := by rw [if_pos (by omega)]; exact ⟨Int.ediv_nonneg hs.1 (by omega), Int.le_trans (Int.ediv_le_self _ hs.1) hs.2⟩
    refine r_istore (lv' := [(5, _), (0, _), (1, _), (2, _), (3, _), (4, _)]) C dX11_estimated_14 (hn _ (by decide)) rfl ?_
    refine r_iload_n C dX11_estimated_16 rfl rfl ?_
    refine r_if_ne (tgt := 24) C dX11_estimated_17 (by decide) (by omega) (fun h17 => ?_) (fun h17 => ?_)
    · skip
      refine r_iload_n C dX11_estimated_24 rfl rfl ?_
      refine r_iconst C dX11_estimated_25 ?_
      refine r_icmp_ne (tgt := 36) C dX11_estimated_26 (by decide) (by omega) (by omega) (fun h26 => ?_) (fun h26 => ?_)
      · skip
        refine r_iload_n C dX11_estimated_36 rfl rfl ?_
        refine r_iconst C dX11_estimated_37 ?_
        refine r_icmp_ne (tgt := 45) C dX11_estimated_38 (by decide) (by omega) (by omega) (fun h38 => ?_) (fun h38 => ?_)
        · skip
          refine r_iload C dX11_estimated_45 rfl ?_
          refine r_aload_n C dX11_estimated_47 rfl rfl ?_
          refine r_callV (as := []) (na := 0) (rest := [_]) C mid_20 (hp_20 _) rfl (M_many S hM) gX11_estimated_X11_many (by decide +kernel) (by decide) (by decide) rfl (Nat.le_of_ble_eq_true rfl) rfl dX11_estimated_48 rfl (fun v1 S1 hp1 => ?_)
          obtain ⟨rfl, e9⟩ := hp1
          subst S1
          generalize hcv : (if its = 2 then sum / nd else sum) = cu at hcu ⊢
          have hcu2 : -2147483648 ≤ cu ∧ cu < 2147483648 := by omega
          refine r_icmp_ge (tgt := 59) C dX11_estimated_51 (by decide) hcu2 (by omega) (fun h51 => ?_) (fun h51 => ?_)
          · skip
            refine r_aload_n C dX11_estimated_59 rfl rfl ?_
            refine r_callV (as := []) (na := 0) (rest := []) C mid_20 (hp_20 _) rfl (M_many S hM) gX11_estimated_X11_many (by decide +kernel) (by decide) (by decide) rfl (Nat.le_of_ble_eq_true rfl) rfl dX11_estimated_60 rfl (fun v1 S1 hp1 => ?_)
            obtain ⟨rfl, e9⟩ := hp1
            subst S1
            exact r_iret C Rr (⟨by unfold estM; first | (exfalso; omega) | rw [if_pos (by omega)] | rw [if_neg (by omega), if_pos (by omega)] | rw [if_neg (by omega), if_neg (by omega), if_pos (by omega)] | (rw [if_neg (by omega), if_neg (by omega), if_neg (by omega)]; simp only [hcv]; first | rw [if_pos (by omega)] | rw [if_neg (by omega)]), rfl⟩) dX11_estimated_63
          · skip
            refine r_iload C dX11_estimated_54 rfl ?_
            refine r_goto (tgt := 63) C dX11_estimated_56 (by decide) ?_
            exact r_iret C Rr (⟨by unfold estM; first | (exfalso; omega) | rw [if_pos (by omega)] | rw [if_neg (by omega), if_pos (by omega)] | rw [if_neg (by omega), if_neg (by omega), if_pos (by omega)] | (rw [if_neg (by omega), if_neg (by omega), if_neg (by omega)]; simp only [hcv]; first | rw [if_pos (by omega)] | rw [if_neg (by omega)]), rfl⟩) dX11_estimated_63
        · skip
          refine r_iconst C dX11_estimated_41 ?_
          refine r_goto (tgt := 63) C dX11_estimated_42 (by decide) ?_
          exact r_iret C Rr (⟨by unfold estM; first | (exfalso; omega) | rw [if_pos (by omega)] | rw [if_neg (by omega), if_pos (by omega)] | rw [if_neg (by omega), if_neg (by omega), if_pos (by omega)] | (rw [if_neg (by omega), if_neg (by omega), if_neg (by omega)]; simp only [hcv]; first | rw [if_pos (by omega)] | rw [if_neg (by omega)]), rfl⟩) dX11_estimated_63
      · skip
        refine r_aload_n C dX11_estimated_29 rfl rfl ?_
        refine r_callV (as := []) (na := 0) (rest := []) C mid_20 (hp_20 _) rfl (M_many S hM) gX11_estimated_X11_many (by decide +kernel) (by decide) (by decide) rfl (Nat.le_of_ble_eq_true rfl) rfl dX11_estimated_30 rfl (fun v1 S1 hp1 => ?_)
        obtain ⟨rfl, e9⟩ := hp1
        subst S1
        refine r_goto (tgt := 63) C dX11_estimated_33 (by decide) ?_
        exact r_iret C Rr (⟨by unfold estM; first | (exfalso; omega) | rw [if_pos (by omega)] | rw [if_neg (by omega), if_pos (by omega)] | rw [if_neg (by omega), if_neg (by omega), if_pos (by omega)] | (rw [if_neg (by omega), if_neg (by omega), if_neg (by omega)]; simp only [hcv]; first | rw [if_pos (by omega)] | rw [if_neg (by omega)]), rfl⟩) dX11_estimated_63
    · skip
      refine r_iload_n C dX11_estimated_20 rfl rfl ?_
      refine r_goto (tgt := 63) C dX11_estimated_21 (by decide) ?_
      exact r_iret C Rr (⟨by unfold estM; first | (exfalso; omega) | rw [if_pos (by omega)] | rw [if_neg (by omega), if_pos (by omega)] | rw [if_neg (by omega), if_neg (by omega), if_pos (by omega)] | (rw [if_neg (by omega), if_neg (by omega), if_neg (by omega)]; simp only [hcv]; first | rw [if_pos (by omega)] | rw [if_neg (by omega)]), rfl⟩) dX11_estimated_63
