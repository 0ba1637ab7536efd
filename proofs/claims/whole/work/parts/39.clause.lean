theorem in_X3_turn_X3 : ∀ w ∈ wsX30, w ∈ wsX3_turn := by decide +kernel
theorem lk_X3_turn_66 : Cond.fieldLink RX3 66 "PostingPlanner$PlannedClause" "kind" "I" ∈ wsX3_turn := by decide +kernel
theorem sm_X3_turn_PlannedClause_kind : Cond.sameField "PostingPlanner$PlannedClause" "PostingPlanner$Group" "kind" "I" ∈ wsX3_turn := by decide +kernel
theorem lk_X3_turn_67 : Cond.fieldLink RX3 67 "PostingPlanner$PlannedClause" "need" "I" ∈ wsX3_turn := by decide +kernel
theorem sm_X3_turn_PlannedClause_need : Cond.sameField "PostingPlanner$PlannedClause" "PostingPlanner$Group" "need" "I" ∈ wsX3_turn := by decide +kernel
theorem in_X3_keepLiterals_X9 : ∀ w ∈ wsX90, w ∈ wsX3_keepLiterals := by decide +kernel
theorem lk_X3_keepLiterals_40 : Cond.fieldLink RX3 40 "PostingPlanner$ToldClause" "size" "I" ∈ wsX3_keepLiterals := by decide +kernel
theorem lk_X3_keepLiterals_72 : Cond.fieldLink RX3 72 "PostingPlanner$ToldClause" "codes" "[I" ∈ wsX3_keepLiterals := by decide +kernel
theorem in_X3_keepLiterals_X3 : ∀ w ∈ wsX30, w ∈ wsX3_keepLiterals := by decide +kernel
theorem lk_X3_keepLiterals_17 : Cond.fieldLink RX3 17 "PostingPlanner$PlannedClause" "literals" "[LPostingPlanner$PlannedLiteral;" ∈ wsX3_keepLiterals := by decide +kernel
theorem lk_X3_keepLiterals_36 : Cond.fieldLink RX3 36 "PostingPlanner$ToldClause" "isNegated" "Z" ∈ wsX3_keepLiterals := by decide +kernel
theorem lk_X3_keepLiterals_66 : Cond.fieldLink RX3 66 "PostingPlanner$PlannedClause" "kind" "I" ∈ wsX3_keepLiterals := by decide +kernel
theorem sm_X3_keepLiterals_PlannedClause_kind : Cond.sameField "PostingPlanner$PlannedClause" "PostingPlanner$Group" "kind" "I" ∈ wsX3_keepLiterals := by decide +kernel
theorem ini_X3_keepLiterals_X10 : Cond.initialized RX10 ∈ wsX3_keepLiterals := by decide +kernel
theorem st_X3_keepLiterals_X10_contraryOf : Cond.static yX10_contraryOf ∈ wsX3_keepLiterals := by decide +kernel
theorem in_X3_settleContraries_X3 : ∀ w ∈ wsX30, w ∈ wsX3_settleContraries := by decide +kernel
theorem lk_X3_settleContraries_66 : Cond.fieldLink RX3 66 "PostingPlanner$PlannedClause" "kind" "I" ∈ wsX3_settleContraries := by decide +kernel
theorem sm_X3_settleContraries_PlannedClause_kind : Cond.sameField "PostingPlanner$PlannedClause" "PostingPlanner$Group" "kind" "I" ∈ wsX3_settleContraries := by decide +kernel
theorem lk_X3_settleContraries_98 : Cond.fieldLink RX3 98 "PostingPlanner$PlannedClause" "size" "I" ∈ wsX3_settleContraries := by decide +kernel
theorem sm_X3_settleContraries_PlannedClause_size : Cond.sameField "PostingPlanner$PlannedClause" "PostingPlanner$Group" "size" "I" ∈ wsX3_settleContraries := by decide +kernel
theorem in_X3_settleContraries_X4 : ∀ w ∈ wsX40, w ∈ wsX3_settleContraries := by decide +kernel
theorem lk_X3_settleContraries_103 : Cond.fieldLink RX3 103 "PostingPlanner$Part" "rank" "I" ∈ wsX3_settleContraries := by decide +kernel
theorem ini_X3_settleContraries_X10 : Cond.initialized RX10 ∈ wsX3_settleContraries := by decide +kernel
theorem st_X3_settleContraries_X10_contraryOf : Cond.static yX10_contraryOf ∈ wsX3_settleContraries := by decide +kernel
theorem in_X3_make_X9 : ∀ w ∈ wsX90, w ∈ wsX3_make := by decide +kernel
theorem lk_X3_make_24 : Cond.fieldLink RX3 24 "PostingPlanner$ToldClause" "kind" "I" ∈ wsX3_make := by decide +kernel
theorem lk_X3_make_29 : Cond.fieldLink RX3 29 "PostingPlanner$ToldClause" "need" "I" ∈ wsX3_make := by decide +kernel
theorem lk_X3_make_36 : Cond.fieldLink RX3 36 "PostingPlanner$ToldClause" "isNegated" "Z" ∈ wsX3_make := by decide +kernel
theorem lk_X3_make_40 : Cond.fieldLink RX3 40 "PostingPlanner$ToldClause" "size" "I" ∈ wsX3_make := by decide +kernel
set_option maxHeartbeats 4000000 in
set_option maxRecDepth 100000 in
theorem c_turn (S : ST) (y : Nat) (hy : y < 10) (cn : Int) (hR : RI S) : Ct yX3_turn wsX3_turn 0 [vr (some (11, y)), vi cn] S (fun v S1 => v = none ∧ S1 = turnF S y cn) := by
  refine Ct.of (nL := 2) (by decide) rfl (Nat.le_of_ble_eq_true rfl) (by decide) (fun X C Rr hnL => ?_)
  have hn : ∀ i, i < 2 → i < X.2.2.2.2.2 := fun i h => by rw [hnL]; exact h
  obtain ⟨hk1, hk2, -⟩ := (hR.2.1 y hy).1
  refine r_aload_n C dX3_turn_0 rfl rfl ?_
  refine r_getf C (mid_11 hy) (hp_11 _ _) rfl 1 (by decide) in_X3_turn_X3 lk_X3_turn_66 (Or.inr sm_X3_turn_PlannedClause_kind) rfl dX3_turn_1 ?_
  refine r_iconst C dX3_turn_4 ?_
  refine r_icmp_ne (tgt := 23) C dX3_turn_5 (by decide) (by omega) (by omega) (fun h5 => ?_) (fun h5 => ?_)
  · skip
    refine r_aload_n C dX3_turn_23 rfl rfl ?_
    refine r_aload_n C dX3_turn_24 rfl rfl ?_
    refine r_getf C (mid_11 hy) (hp_11 _ _) rfl 1 (by decide) in_X3_turn_X3 lk_X3_turn_66 (Or.inr sm_X3_turn_PlannedClause_kind) rfl dX3_turn_25 ?_
    refine r_if_ne (tgt := 35) C dX3_turn_28 (by decide) (by omega) (fun h28 => ?_) (fun h28 => ?_)
    · skip
      refine r_iconst C dX3_turn_35 ?_
      refine r_putf  C (mid_11 hy) (hp_11 _ _) rfl 1 (by decide) in_X3_turn_X3 lk_X3_turn_66 (Or.inr sm_X3_turn_PlannedClause_kind) tyX3 tyX3_ok nmX3 rfl (tyX3_ok 1 (by decide)) (fun _ => rfl) (fun _ => rfl) (Nat.le_of_ble_eq_true rfl) (hs_11_1 _ _ _) dX3_turn_36 ?_
      exact r_vret C Rr (⟨rfl, by unfold turnF; rw [if_neg h5, if_neg h28]⟩) dX3_turn_39
    · skip
      refine r_iconst C dX3_turn_31 ?_
      refine r_goto (tgt := 36) C dX3_turn_32 (by decide) ?_
      refine r_putf  C (mid_11 hy) (hp_11 _ _) rfl 1 (by decide) in_X3_turn_X3 lk_X3_turn_66 (Or.inr sm_X3_turn_PlannedClause_kind) tyX3 tyX3_ok nmX3 rfl (tyX3_ok 1 (by decide)) (fun _ => rfl) (fun _ => rfl) (Nat.le_of_ble_eq_true rfl) (hs_11_1 _ _ _) dX3_turn_36 ?_
      exact r_vret C Rr (⟨rfl, by unfold turnF; rw [if_neg h5, if_pos h28]⟩) dX3_turn_39
  · skip
    refine r_aload_n C dX3_turn_8 rfl rfl ?_
    refine r_iload_n C dX3_turn_9 rfl rfl ?_
    refine r_aload_n C dX3_turn_10 rfl rfl ?_
    refine r_getf C (mid_11 hy) (hp_11 _ _) rfl 2 (by decide) in_X3_turn_X3 lk_X3_turn_67 (Or.inr sm_X3_turn_PlannedClause_need) rfl dX3_turn_11 ?_
    refine r_isub C dX3_turn_14 ?_
    refine r_iconst C dX3_turn_15 ?_
    refine r_iadd C dX3_turn_16 ?_
    refine r_putf  C (mid_11 hy) (hp_11 _ _) rfl 2 (by decide) in_X3_turn_X3 lk_X3_turn_67 (Or.inr sm_X3_turn_PlannedClause_need) tyX3 tyX3_ok nmX3 rfl (tyX3_ok 2 (by decide)) (fun _ => rfl) (fun _ => rfl) (Nat.le_of_ble_eq_true rfl) (hs_11_2 _ _ _) dX3_turn_17 ?_
    refine r_goto (tgt := 39) C dX3_turn_20 (by decide) ?_
    exact r_vret C Rr (⟨rfl, by unfold turnF; rw [if_pos h5]⟩) dX3_turn_39
set_option maxHeartbeats 4000000 in
set_option maxRecDepth 100000 in
theorem c_keepLiterals (S : ST) (y k B : Nat) (hy : y < 10) (hk : k < 5) (hB : B < 2 ^ 40) (hR : RI S) (hW : IW S) (hQ : IQ S) : Ct yX3_keepLiterals wsX3_keepLiterals 2 [vr (some (11, y)), vr (some (5, k)), vr (some (1, 0)), vl (B : Int)] S (fun v S1 => v = none ∧ S1 = keepLitsF S y k B) := by
  refine Ct.of (nL := 7) (by decide) rfl (Nat.le_of_ble_eq_true rfl) (by decide) (fun X C Rr hnL => ?_)
  have hn : ∀ i, i < 7 → i < X.2.2.2.2.2 := fun i h => by rw [hnL]; exact h
  obtain ⟨hq1, hq2, hq3, hq4, hq5⟩ := hQ.2.2.2 k hk
  have hkl := fun i hi => klF_ok (r := y / 5) (B := B) hy rfl hk hB hR hQ i hi
  refine r_aload_n C dX3_keepLiterals_0 rfl rfl ?_
  refine r_callU (as := []) (na := 0) (rest := []) C (mid_11 hy) (hp_11 _ _) rfl (c_isFixed_C S y hy (hR.2.1 y hy).1) gX3_keepLiterals_X0_isFixed_u68X3 (by decide +kernel) (by decide) (by decide) rfl (Nat.le_of_ble_eq_true rfl) rfl dX3_keepLiterals_1 rfl (fun v1 S1 hp1 => ?_)
  obtain ⟨rfl, e9⟩ := hp1
  subst S1
  refine r_if_eq (tgt := 8) C dX3_keepLiterals_4 (by decide) (by have := b2i_01 (decide (iv S 11 1 y = 3 ∨ iv S 11 1 y = 4)); omega) (fun h4 => ?_) (fun h4 => ?_)
  · skip
    refine r_iconst C dX3_keepLiterals_8 ?_
    refine r_istore (lv' := [(5, _), (0, _), (1, _), (2, _), (3, _)]) C dX3_keepLiterals_9 (hn _ (by decide)) rfl ?_
    have loop11 : ∀ (m i : Nat) (hm : 7 - i < m) (hi : (i : Int) ≤ iv S 5 4 k), At X 0 0 11 [(0, vr (some (11, y))), (1, vr (some (5, k))), (2, vr (some (1, 0))), (3, vl (B : Int)), (5, vi (i : Int))] [] (klF y k B i S) := by
      intro kf
      induction kf with
      | zero => intro i hm hi; exact absurd hm (by omega)
      | succ kf ih =>
        intro i hm hi
        obtain ⟨hRi, hFi⟩ := hkl i (by omega)
        have hneg : iv (klF y k B i S) 5 3 k = 0 ∨ iv (klF y k B i S) 5 3 k = 1 := by rw [(hFi.q 3 k).2]; exact hq3
        have hQi := hFi.iq hQ
        have hWi := hFi.iw hW
        have hki := (hRi.2.1 y hy).1.1
        refine r_iload C dX3_keepLiterals_11 rfl ?_
        refine r_aload_n C dX3_keepLiterals_13 rfl rfl ?_
        refine r_getf C (mid_5 hk) (hp_5 _ _) rfl 4 (by decide) in_X3_keepLiterals_X9 lk_X3_keepLiterals_40 (Or.inl rfl) rfl dX3_keepLiterals_14 ?_
        refine At_val (v' := vi (iv S 5 4 k)) (by rw [← (hFi.q 4 k).2]) ?_
        refine r_icmp_ge (tgt := 132) C dX3_keepLiterals_17 (by decide) (by omega) (by omega) (fun h17 => ?_) (fun h17 => ?_)
        · skip
          exact r_vret C Rr (⟨rfl, by unfold keepLitsF; rw [if_neg (of_decide_eq_false (b2i_0 h4)), show (iv S 5 4 k).toNat = i by omega]⟩) dX3_keepLiterals_132
        · skip
          refine r_iload C dX3_keepLiterals_20 rfl ?_
          refine r_aload_n C dX3_keepLiterals_22 rfl rfl ?_
          refine r_getf C (mid_5 hk) (hp_5 _ _) rfl 0 (by decide) in_X3_keepLiterals_X9 lk_X3_keepLiterals_72 (Or.inl rfl) rfl dX3_keepLiterals_23 ?_
          refine r_alen C (mid_6 hk) (Or.inl ⟨_, (hp_6 _ _)⟩) (fun _ => ⟨_, rfl⟩) dX3_keepLiterals_26 ?_
          refine r_icmp_ge (tgt := 132) C dX3_keepLiterals_27 (by decide) (by omega) (by omega) (fun h27 => ?_) (fun h27 => ?_)
          · skip
            exact r_vret C Rr (⟨rfl, by unfold keepLitsF; rw [if_neg (of_decide_eq_false (b2i_0 h4)), show (iv S 5 4 k).toNat = i by omega]⟩) dX3_keepLiterals_132
          · skip
            refine r_iload C dX3_keepLiterals_30 rfl ?_
            refine r_aload_n C dX3_keepLiterals_32 rfl rfl ?_
            refine r_getf C (mid_11 hy) (hp_11 _ _) rfl 8 (by decide) in_X3_keepLiterals_X3 lk_X3_keepLiterals_17 (Or.inl rfl) rfl dX3_keepLiterals_33 ?_
            refine r_alen C (mid_13 hy) (Or.inr ⟨_, (hp_13 _ _)⟩) (fun _ => ⟨_, rfl⟩) dX3_keepLiterals_36 ?_
            refine r_icmp_ge (tgt := 132) C dX3_keepLiterals_37 (by decide) (by omega) (by omega) (fun h37 => ?_) (fun h37 => ?_)
            · skip
              exact r_vret C Rr (⟨rfl, by unfold keepLitsF; rw [if_neg (of_decide_eq_false (b2i_0 h4)), show (iv S 5 4 k).toNat = i by omega]⟩) dX3_keepLiterals_132
            · skip
              refine r_aload_n C dX3_keepLiterals_40 rfl rfl ?_
              have hcl := codeN_lt hQi hk (show i < 6 by omega)
              have hai := (hQi.2.2.2 k hk).2.2.2.2 i (by omega)
              refine r_getf C (mid_5 hk) (hp_5 _ _) rfl 3 (by decide) in_X3_keepLiterals_X9 lk_X3_keepLiterals_36 (Or.inl rfl) rfl dX3_keepLiterals_41 ?_
              refine r_if_eq (tgt := 60) C dX3_keepLiterals_44 (by decide) (by omega) (fun h44 => ?_) (fun h44 => ?_)
              · skip
                refine r_aload_n C dX3_keepLiterals_60 rfl rfl ?_
                refine r_getf C (mid_5 hk) (hp_5 _ _) rfl 0 (by decide) in_X3_keepLiterals_X9 lk_X3_keepLiterals_72 (Or.inl rfl) rfl dX3_keepLiterals_61 ?_
                refine r_iload C dX3_keepLiterals_64 rfl ?_
                refine r_iald (j := _) C (mid_6 hk) (hp_6 _ _) rfl (rfl) (by omega) (by decide) dX3_keepLiterals_66 ?_
                refine At_val (v' := vi ((codeN (klF y k B i S) k i : Nat) : Int)) (by unfold codeN; rw [if_neg (by omega)]; congr 1; omega) ?_
                refine r_istore (lv' := [(6, _), (0, _), (1, _), (2, _), (3, _), (5, _)]) C dX3_keepLiterals_67 (hn _ (by decide)) rfl ?_
                refine r_aload_n C dX3_keepLiterals_69 rfl rfl ?_
                refine r_getf C (mid_11 hy) (hp_11 _ _) rfl 8 (by decide) in_X3_keepLiterals_X3 lk_X3_keepLiterals_17 (Or.inl rfl) rfl dX3_keepLiterals_70 ?_
                refine r_iload C dX3_keepLiterals_73 rfl ?_
                refine r_aald (j := _) C (mid_13 hy) (hp_13 _ _) (fun _ => rfl) (rfl) (by omega) (by decide) dX3_keepLiterals_75 ?_
                refine r_ifnull (tgt := 126) C dX3_keepLiterals_76 (by decide) (fun h => by cases h) (fun i76 h76 => ?_)
                clear h76
                refine r_aload_n C dX3_keepLiterals_79 rfl rfl ?_
                refine r_getf C (mid_11 hy) (hp_11 _ _) rfl 1 (by decide) in_X3_keepLiterals_X3 lk_X3_keepLiterals_66 (Or.inr sm_X3_keepLiterals_PlannedClause_kind) rfl dX3_keepLiterals_80 ?_
                refine r_iconst C dX3_keepLiterals_83 ?_
                refine r_icmp_eq (tgt := 96) C dX3_keepLiterals_84 (by decide) (by omega) (by omega) (fun h84 => ?_) (fun h84 => ?_)
                · skip
                  refine r_aload_n C dX3_keepLiterals_96 rfl rfl ?_
                  refine r_getf C (mid_11 hy) (hp_11 _ _) rfl 8 (by decide) in_X3_keepLiterals_X3 lk_X3_keepLiterals_17 (Or.inl rfl) rfl dX3_keepLiterals_97 ?_
                  refine r_iload C dX3_keepLiterals_100 rfl ?_
                  refine r_aald (j := _) C (mid_13 hy) (hp_13 _ _) (fun _ => rfl) (rfl) (by omega) (by decide) dX3_keepLiterals_102 ?_
                  refine r_iload C dX3_keepLiterals_103 rfl ?_
                  refine r_aload_n C dX3_keepLiterals_105 rfl rfl ?_
                  refine r_iload C dX3_keepLiterals_106 rfl ?_
                  refine r_callV (as := [_]) (na := 1) (rest := [_, _]) C mid_1 (hp_1 _) rfl (c_truthsOf (klF y k B i S) _ hcl hWi) gX3_keepLiterals_X7_truthsOf (by decide +kernel) (by decide) (by decide) rfl (Nat.le_of_ble_eq_true rfl) rfl dX3_keepLiterals_108 rfl (fun v1 S1 hp1 => ?_)
                  obtain ⟨rfl, e9⟩ := hp1
                  subst S1
                  refine r_lload_n C dX3_keepLiterals_111 rfl rfl ?_
                  refine r_callV (as := [_, _, _]) (na := 3) (rest := []) C (mid_14 (by omega)) (hp_14 _ _) rfl (c_Lmake (klF y k B i S) (6 * y + i) (by omega) _ (bset (tru (klF y k B i S) (codeN (klF y k B i S) k i)) 40) B (bset40 _)) gX3_keepLiterals_X4_make (by decide +kernel) (by decide) (by decide) rfl (Nat.le_of_ble_eq_true rfl) rfl dX3_keepLiterals_112 rfl (fun v1 S1 hp1 => ?_)
                  obtain ⟨rfl, e9⟩ := hp1
                  subst S1
                  have hRm : RI (LmakeF (klF y k B i S) (6 * y + i) (codeN (klF y k B i S) k i : Nat) (bset (tru (klF y k B i S) (codeN (klF y k B i S) k i)) 40) B) := LmakeF_RI hRi (by omega) (bset40 _) hB
                  refine r_aload_n C dX3_keepLiterals_115 rfl rfl ?_
                  refine r_aload_n C dX3_keepLiterals_116 rfl rfl ?_
                  refine r_getf C (mid_11 hy) (hp_11 _ _) rfl 8 (by decide) in_X3_keepLiterals_X3 lk_X3_keepLiterals_17 (Or.inl rfl) rfl dX3_keepLiterals_117 ?_
                  refine r_iload C dX3_keepLiterals_120 rfl ?_
                  refine r_aald (j := _) C (mid_13 hy) (hp_13 _ _) (fun _ => rfl) (rfl) (by omega) (by decide) dX3_keepLiterals_122 ?_
                  refine r_callU (as := [_]) (na := 1) (rest := []) C (mid_11 hy) (hp_11 _ _) rfl (c_keep_C (LmakeF (klF y k B i S) (6 * y + i) (codeN (klF y k B i S) k i : Nat) (bset (tru (klF y k B i S) (codeN (klF y k B i S) k i)) 40) B) y hy (6 * y + i) (by omega) (hRm.2.1 y hy).2.1) gX3_keepLiterals_X0_keep_u94X3 (by decide +kernel) (by decide) (by decide) rfl (Nat.le_of_ble_eq_true rfl) rfl dX3_keepLiterals_123 rfl (fun v1 S1 hp1 => ?_)
                  obtain ⟨rfl, e9⟩ := hp1
                  subst S1
                  refine r_iinc (lv' := [(5, _), (6, _), (0, _), (1, _), (2, _), (3, _)]) C dX3_keepLiterals_126 rfl (hn _ (by decide)) rfl ?_
                  have e1 : klF y k B (i + 1) S = keepF (LmakeF (klF y k B i S) (6 * y + i) (codeN (klF y k B i S) k i : Nat) (bset (tru (klF y k B i S) (codeN (klF y k B i S) k i)) 40) B) 11 12 y (6 * y + i) := if_pos (Or.inl h84)
                  refine r_goto (tgt := 11) C dX3_keepLiterals_129 (by decide) ?_
                  have ihn := ih (i + 1) (by omega) (by omega)
                  rw [e1] at ihn
                  exact At_lv (by simp) ihn
                · skip
                  refine r_aload_n C dX3_keepLiterals_87 rfl rfl ?_
                  refine r_iload C dX3_keepLiterals_88 rfl ?_
                  refine r_callU (as := [_]) (na := 1) (rest := []) C (mid_11 hy) (hp_11 _ _) rfl (c_hasRank_C (klF y k B i S) y hy _ hcl hRi.1 (hRi.2.1 y hy).2) gX3_keepLiterals_X0_hasRank_u80X3 (by decide +kernel) (by decide) (by decide) rfl (Nat.le_of_ble_eq_true rfl) rfl dX3_keepLiterals_90 rfl (fun v1 S1 hp1 => ?_)
                  obtain ⟨rfl, e9⟩ := hp1
                  subst S1
                  refine r_if_ne (tgt := 126) C dX3_keepLiterals_93 (by decide) (by have := b2i_01 (hasR (klF y k B i S) y (codeN (klF y k B i S) k i)); unfold hasR at this; omega) (fun h93 => ?_) (fun h93 => ?_)
                  · skip
                    refine r_iinc (lv' := [(5, _), (6, _), (0, _), (1, _), (2, _), (3, _)]) C dX3_keepLiterals_126 rfl (hn _ (by decide)) rfl ?_
                    have e1 : klF y k B (i + 1) S = (klF y k B i S) := if_neg (by rintro (q | q); exact h84 q; exact absurd ((b2i_1 h93).symm.trans q) (by decide))
                    refine r_goto (tgt := 11) C dX3_keepLiterals_129 (by decide) ?_
                    have ihn := ih (i + 1) (by omega) (by omega)
                    rw [e1] at ihn
                    exact At_lv (by simp) ihn
                  · skip
                    refine r_aload_n C dX3_keepLiterals_96 rfl rfl ?_
                    refine r_getf C (mid_11 hy) (hp_11 _ _) rfl 8 (by decide) in_X3_keepLiterals_X3 lk_X3_keepLiterals_17 (Or.inl rfl) rfl dX3_keepLiterals_97 ?_
                    refine r_iload C dX3_keepLiterals_100 rfl ?_
                    refine r_aald (j := _) C (mid_13 hy) (hp_13 _ _) (fun _ => rfl) (rfl) (by omega) (by decide) dX3_keepLiterals_102 ?_
                    refine r_iload C dX3_keepLiterals_103 rfl ?_
                    refine r_aload_n C dX3_keepLiterals_105 rfl rfl ?_
                    refine r_iload C dX3_keepLiterals_106 rfl ?_
                    refine r_callV (as := [_]) (na := 1) (rest := [_, _]) C mid_1 (hp_1 _) rfl (c_truthsOf (klF y k B i S) _ hcl hWi) gX3_keepLiterals_X7_truthsOf (by decide +kernel) (by decide) (by decide) rfl (Nat.le_of_ble_eq_true rfl) rfl dX3_keepLiterals_108 rfl (fun v1 S1 hp1 => ?_)
                    obtain ⟨rfl, e9⟩ := hp1
                    subst S1
                    refine r_lload_n C dX3_keepLiterals_111 rfl rfl ?_
                    refine r_callV (as := [_, _, _]) (na := 3) (rest := []) C (mid_14 (by omega)) (hp_14 _ _) rfl (c_Lmake (klF y k B i S) (6 * y + i) (by omega) _ (bset (tru (klF y k B i S) (codeN (klF y k B i S) k i)) 40) B (bset40 _)) gX3_keepLiterals_X4_make (by decide +kernel) (by decide) (by decide) rfl (Nat.le_of_ble_eq_true rfl) rfl dX3_keepLiterals_112 rfl (fun v1 S1 hp1 => ?_)
                    obtain ⟨rfl, e9⟩ := hp1
                    subst S1
                    have hRm : RI (LmakeF (klF y k B i S) (6 * y + i) (codeN (klF y k B i S) k i : Nat) (bset (tru (klF y k B i S) (codeN (klF y k B i S) k i)) 40) B) := LmakeF_RI hRi (by omega) (bset40 _) hB
                    refine r_aload_n C dX3_keepLiterals_115 rfl rfl ?_
                    refine r_aload_n C dX3_keepLiterals_116 rfl rfl ?_
                    refine r_getf C (mid_11 hy) (hp_11 _ _) rfl 8 (by decide) in_X3_keepLiterals_X3 lk_X3_keepLiterals_17 (Or.inl rfl) rfl dX3_keepLiterals_117 ?_
                    refine r_iload C dX3_keepLiterals_120 rfl ?_
                    refine r_aald (j := _) C (mid_13 hy) (hp_13 _ _) (fun _ => rfl) (rfl) (by omega) (by decide) dX3_keepLiterals_122 ?_
                    refine r_callU (as := [_]) (na := 1) (rest := []) C (mid_11 hy) (hp_11 _ _) rfl (c_keep_C (LmakeF (klF y k B i S) (6 * y + i) (codeN (klF y k B i S) k i : Nat) (bset (tru (klF y k B i S) (codeN (klF y k B i S) k i)) 40) B) y hy (6 * y + i) (by omega) (hRm.2.1 y hy).2.1) gX3_keepLiterals_X0_keep_u94X3 (by decide +kernel) (by decide) (by decide) rfl (Nat.le_of_ble_eq_true rfl) rfl dX3_keepLiterals_123 rfl (fun v1 S1 hp1 => ?_)
                    obtain ⟨rfl, e9⟩ := hp1
                    subst S1
                    refine r_iinc (lv' := [(5, _), (6, _), (0, _), (1, _), (2, _), (3, _)]) C dX3_keepLiterals_126 rfl (hn _ (by decide)) rfl ?_
                    have e1 : klF y k B (i + 1) S = keepF (LmakeF (klF y k B i S) (6 * y + i) (codeN (klF y k B i S) k i : Nat) (bset (tru (klF y k B i S) (codeN (klF y k B i S) k i)) 40) B) 11 12 y (6 * y + i) := if_pos (Or.inr (b2i_0 h93))
                    refine r_goto (tgt := 11) C dX3_keepLiterals_129 (by decide) ?_
                    have ihn := ih (i + 1) (by omega) (by omega)
                    rw [e1] at ihn
                    exact At_lv (by simp) ihn
              · skip
                refine r_aload_n C dX3_keepLiterals_47 rfl rfl ?_
                refine r_getf C (mid_5 hk) (hp_5 _ _) rfl 0 (by decide) in_X3_keepLiterals_X9 lk_X3_keepLiterals_72 (Or.inl rfl) rfl dX3_keepLiterals_48 ?_
                refine r_iload C dX3_keepLiterals_51 rfl ?_
                refine r_iald (j := _) C (mid_6 hk) (hp_6 _ _) rfl (rfl) (by omega) (by decide) dX3_keepLiterals_53 ?_
                refine At_val (v' := vi ((ai (klF y k B i S) 6 k i).toNat : Int)) (by congr 1; omega) ?_
                refine r_callSN (as := [_]) (na := 1) (rest := []) C (by decide +kernel) ini_X3_keepLiterals_X10 st_X3_keepLiterals_X10_contraryOf (c_contraryOf (klF y k B i S) (ai (klF y k B i S) 6 k i).toNat (by omega)) gX3_keepLiterals_X10_contraryOf_n76 (by decide +kernel) (by decide) (by decide) rfl (Nat.le_of_ble_eq_true rfl) rfl dX3_keepLiterals_54 rfl (fun v1 S1 hp1 => ?_)
                obtain ⟨rfl, e9⟩ := hp1
                subst S1
                refine r_goto (tgt := 67) C dX3_keepLiterals_57 (by decide) ?_
                refine At_val (v' := vi ((codeN (klF y k B i S) k i : Nat) : Int)) (by unfold codeN; rw [if_pos (by omega)]) ?_
                refine r_istore (lv' := [(6, _), (0, _), (1, _), (2, _), (3, _), (5, _)]) C dX3_keepLiterals_67 (hn _ (by decide)) rfl ?_
                refine r_aload_n C dX3_keepLiterals_69 rfl rfl ?_
                refine r_getf C (mid_11 hy) (hp_11 _ _) rfl 8 (by decide) in_X3_keepLiterals_X3 lk_X3_keepLiterals_17 (Or.inl rfl) rfl dX3_keepLiterals_70 ?_
                refine r_iload C dX3_keepLiterals_73 rfl ?_
                refine r_aald (j := _) C (mid_13 hy) (hp_13 _ _) (fun _ => rfl) (rfl) (by omega) (by decide) dX3_keepLiterals_75 ?_
                refine r_ifnull (tgt := 126) C dX3_keepLiterals_76 (by decide) (fun h => by cases h) (fun i76 h76 => ?_)
                clear h76
                refine r_aload_n C dX3_keepLiterals_79 rfl rfl ?_
                refine r_getf C (mid_11 hy) (hp_11 _ _) rfl 1 (by decide) in_X3_keepLiterals_X3 lk_X3_keepLiterals_66 (Or.inr sm_X3_keepLiterals_PlannedClause_kind) rfl dX3_keepLiterals_80 ?_
                refine r_iconst C dX3_keepLiterals_83 ?_
                refine r_icmp_eq (tgt := 96) C dX3_keepLiterals_84 (by decide) (by omega) (by omega) (fun h84 => ?_) (fun h84 => ?_)
                · skip
                  refine r_aload_n C dX3_keepLiterals_96 rfl rfl ?_
                  refine r_getf C (mid_11 hy) (hp_11 _ _) rfl 8 (by decide) in_X3_keepLiterals_X3 lk_X3_keepLiterals_17 (Or.inl rfl) rfl dX3_keepLiterals_97 ?_
                  refine r_iload C dX3_keepLiterals_100 rfl ?_
                  refine r_aald (j := _) C (mid_13 hy) (hp_13 _ _) (fun _ => rfl) (rfl) (by omega) (by decide) dX3_keepLiterals_102 ?_
                  refine r_iload C dX3_keepLiterals_103 rfl ?_
                  refine r_aload_n C dX3_keepLiterals_105 rfl rfl ?_
                  refine r_iload C dX3_keepLiterals_106 rfl ?_
                  refine r_callV (as := [_]) (na := 1) (rest := [_, _]) C mid_1 (hp_1 _) rfl (c_truthsOf (klF y k B i S) _ hcl hWi) gX3_keepLiterals_X7_truthsOf (by decide +kernel) (by decide) (by decide) rfl (Nat.le_of_ble_eq_true rfl) rfl dX3_keepLiterals_108 rfl (fun v1 S1 hp1 => ?_)
                  obtain ⟨rfl, e9⟩ := hp1
                  subst S1
                  refine r_lload_n C dX3_keepLiterals_111 rfl rfl ?_
                  refine r_callV (as := [_, _, _]) (na := 3) (rest := []) C (mid_14 (by omega)) (hp_14 _ _) rfl (c_Lmake (klF y k B i S) (6 * y + i) (by omega) _ (bset (tru (klF y k B i S) (codeN (klF y k B i S) k i)) 40) B (bset40 _)) gX3_keepLiterals_X4_make (by decide +kernel) (by decide) (by decide) rfl (Nat.le_of_ble_eq_true rfl) rfl dX3_keepLiterals_112 rfl (fun v1 S1 hp1 => ?_)
                  obtain ⟨rfl, e9⟩ := hp1
                  subst S1
                  have hRm : RI (LmakeF (klF y k B i S) (6 * y + i) (codeN (klF y k B i S) k i : Nat) (bset (tru (klF y k B i S) (codeN (klF y k B i S) k i)) 40) B) := LmakeF_RI hRi (by omega) (bset40 _) hB
                  refine r_aload_n C dX3_keepLiterals_115 rfl rfl ?_
                  refine r_aload_n C dX3_keepLiterals_116 rfl rfl ?_
                  refine r_getf C (mid_11 hy) (hp_11 _ _) rfl 8 (by decide) in_X3_keepLiterals_X3 lk_X3_keepLiterals_17 (Or.inl rfl) rfl dX3_keepLiterals_117 ?_
                  refine r_iload C dX3_keepLiterals_120 rfl ?_
                  refine r_aald (j := _) C (mid_13 hy) (hp_13 _ _) (fun _ => rfl) (rfl) (by omega) (by decide) dX3_keepLiterals_122 ?_
                  refine r_callU (as := [_]) (na := 1) (rest := []) C (mid_11 hy) (hp_11 _ _) rfl (c_keep_C (LmakeF (klF y k B i S) (6 * y + i) (codeN (klF y k B i S) k i : Nat) (bset (tru (klF y k B i S) (codeN (klF y k B i S) k i)) 40) B) y hy (6 * y + i) (by omega) (hRm.2.1 y hy).2.1) gX3_keepLiterals_X0_keep_u94X3 (by decide +kernel) (by decide) (by decide) rfl (Nat.le_of_ble_eq_true rfl) rfl dX3_keepLiterals_123 rfl (fun v1 S1 hp1 => ?_)
                  obtain ⟨rfl, e9⟩ := hp1
                  subst S1
                  refine r_iinc (lv' := [(5, _), (6, _), (0, _), (1, _), (2, _), (3, _)]) C dX3_keepLiterals_126 rfl (hn _ (by decide)) rfl ?_
                  have e1 : klF y k B (i + 1) S = keepF (LmakeF (klF y k B i S) (6 * y + i) (codeN (klF y k B i S) k i : Nat) (bset (tru (klF y k B i S) (codeN (klF y k B i S) k i)) 40) B) 11 12 y (6 * y + i) := if_pos (Or.inl h84)
                  refine r_goto (tgt := 11) C dX3_keepLiterals_129 (by decide) ?_
                  have ihn := ih (i + 1) (by omega) (by omega)
                  rw [e1] at ihn
                  exact At_lv (by simp) ihn
                · skip
                  refine r_aload_n C dX3_keepLiterals_87 rfl rfl ?_
                  refine r_iload C dX3_keepLiterals_88 rfl ?_
                  refine r_callU (as := [_]) (na := 1) (rest := []) C (mid_11 hy) (hp_11 _ _) rfl (c_hasRank_C (klF y k B i S) y hy _ hcl hRi.1 (hRi.2.1 y hy).2) gX3_keepLiterals_X0_hasRank_u80X3 (by decide +kernel) (by decide) (by decide) rfl (Nat.le_of_ble_eq_true rfl) rfl dX3_keepLiterals_90 rfl (fun v1 S1 hp1 => ?_)
                  obtain ⟨rfl, e9⟩ := hp1
                  subst S1
                  refine r_if_ne (tgt := 126) C dX3_keepLiterals_93 (by decide) (by have := b2i_01 (hasR (klF y k B i S) y (codeN (klF y k B i S) k i)); unfold hasR at this; omega) (fun h93 => ?_) (fun h93 => ?_)
                  · skip
                    refine r_iinc (lv' := [(5, _), (6, _), (0, _), (1, _), (2, _), (3, _)]) C dX3_keepLiterals_126 rfl (hn _ (by decide)) rfl ?_
                    have e1 : klF y k B (i + 1) S = (klF y k B i S) := if_neg (by rintro (q | q); exact h84 q; exact absurd ((b2i_1 h93).symm.trans q) (by decide))
                    refine r_goto (tgt := 11) C dX3_keepLiterals_129 (by decide) ?_
                    have ihn := ih (i + 1) (by omega) (by omega)
                    rw [e1] at ihn
                    exact At_lv (by simp) ihn
                  · skip
                    refine r_aload_n C dX3_keepLiterals_96 rfl rfl ?_
                    refine r_getf C (mid_11 hy) (hp_11 _ _) rfl 8 (by decide) in_X3_keepLiterals_X3 lk_X3_keepLiterals_17 (Or.inl rfl) rfl dX3_keepLiterals_97 ?_
                    refine r_iload C dX3_keepLiterals_100 rfl ?_
                    refine r_aald (j := _) C (mid_13 hy) (hp_13 _ _) (fun _ => rfl) (rfl) (by omega) (by decide) dX3_keepLiterals_102 ?_
                    refine r_iload C dX3_keepLiterals_103 rfl ?_
                    refine r_aload_n C dX3_keepLiterals_105 rfl rfl ?_
                    refine r_iload C dX3_keepLiterals_106 rfl ?_
                    refine r_callV (as := [_]) (na := 1) (rest := [_, _]) C mid_1 (hp_1 _) rfl (c_truthsOf (klF y k B i S) _ hcl hWi) gX3_keepLiterals_X7_truthsOf (by decide +kernel) (by decide) (by decide) rfl (Nat.le_of_ble_eq_true rfl) rfl dX3_keepLiterals_108 rfl (fun v1 S1 hp1 => ?_)
                    obtain ⟨rfl, e9⟩ := hp1
                    subst S1
                    refine r_lload_n C dX3_keepLiterals_111 rfl rfl ?_
                    refine r_callV (as := [_, _, _]) (na := 3) (rest := []) C (mid_14 (by omega)) (hp_14 _ _) rfl (c_Lmake (klF y k B i S) (6 * y + i) (by omega) _ (bset (tru (klF y k B i S) (codeN (klF y k B i S) k i)) 40) B (bset40 _)) gX3_keepLiterals_X4_make (by decide +kernel) (by decide) (by decide) rfl (Nat.le_of_ble_eq_true rfl) rfl dX3_keepLiterals_112 rfl (fun v1 S1 hp1 => ?_)
                    obtain ⟨rfl, e9⟩ := hp1
                    subst S1
                    have hRm : RI (LmakeF (klF y k B i S) (6 * y + i) (codeN (klF y k B i S) k i : Nat) (bset (tru (klF y k B i S) (codeN (klF y k B i S) k i)) 40) B) := LmakeF_RI hRi (by omega) (bset40 _) hB
                    refine r_aload_n C dX3_keepLiterals_115 rfl rfl ?_
                    refine r_aload_n C dX3_keepLiterals_116 rfl rfl ?_
                    refine r_getf C (mid_11 hy) (hp_11 _ _) rfl 8 (by decide) in_X3_keepLiterals_X3 lk_X3_keepLiterals_17 (Or.inl rfl) rfl dX3_keepLiterals_117 ?_
                    refine r_iload C dX3_keepLiterals_120 rfl ?_
                    refine r_aald (j := _) C (mid_13 hy) (hp_13 _ _) (fun _ => rfl) (rfl) (by omega) (by decide) dX3_keepLiterals_122 ?_
                    refine r_callU (as := [_]) (na := 1) (rest := []) C (mid_11 hy) (hp_11 _ _) rfl (c_keep_C (LmakeF (klF y k B i S) (6 * y + i) (codeN (klF y k B i S) k i : Nat) (bset (tru (klF y k B i S) (codeN (klF y k B i S) k i)) 40) B) y hy (6 * y + i) (by omega) (hRm.2.1 y hy).2.1) gX3_keepLiterals_X0_keep_u94X3 (by decide +kernel) (by decide) (by decide) rfl (Nat.le_of_ble_eq_true rfl) rfl dX3_keepLiterals_123 rfl (fun v1 S1 hp1 => ?_)
                    obtain ⟨rfl, e9⟩ := hp1
                    subst S1
                    refine r_iinc (lv' := [(5, _), (6, _), (0, _), (1, _), (2, _), (3, _)]) C dX3_keepLiterals_126 rfl (hn _ (by decide)) rfl ?_
                    have e1 : klF y k B (i + 1) S = keepF (LmakeF (klF y k B i S) (6 * y + i) (codeN (klF y k B i S) k i : Nat) (bset (tru (klF y k B i S) (codeN (klF y k B i S) k i)) 40) B) 11 12 y (6 * y + i) := if_pos (Or.inr (b2i_0 h93))
                    refine r_goto (tgt := 11) C dX3_keepLiterals_129 (by decide) ?_
                    have ihn := ih (i + 1) (by omega) (by omega)
                    rw [e1] at ihn
                    exact At_lv (by simp) ihn
    exact At_lv (by simp) (loop11 8 0 (by omega) (by omega))
  · skip
    exact r_vret C Rr (⟨rfl, by unfold keepLitsF; rw [if_pos (of_decide_eq_true (b2i_1 h4))]⟩) dX3_keepLiterals_7
set_option maxHeartbeats 4000000 in
set_option maxRecDepth 100000 in
theorem c_settleContraries (S : ST) (y : Nat) (hy : y < 10) (hR : RI S) : Ct yX3_settleContraries wsX3_settleContraries 2 [vr (some (11, y))] S (fun v S1 => v = none ∧ S1 = settleConF S y) := by
  refine Ct.of (nL := 3) (by decide) rfl (Nat.le_of_ble_eq_true rfl) (by decide) (fun X C Rr hnL => ?_)
  have hn : ∀ i, i < 3 → i < X.2.2.2.2.2 := fun i h => by rw [hnL]; exact h
  obtain ⟨⟨hk1, hk2, -⟩, hz, hps⟩ := hR.2.1 y hy
  refine r_aload_n C dX3_settleContraries_0 rfl rfl ?_
  refine r_getf C (mid_11 hy) (hp_11 _ _) rfl 1 (by decide) in_X3_settleContraries_X3 lk_X3_settleContraries_66 (Or.inr sm_X3_settleContraries_PlannedClause_kind) rfl dX3_settleContraries_1 ?_
  refine r_if_eq (tgt := 16) C dX3_settleContraries_4 (by decide) (by omega) (fun h4 => ?_) (fun h4 => ?_)
  · skip
    refine r_iconst C dX3_settleContraries_16 ?_
    refine r_istore_n (lv' := [(1, _), (0, _)]) C dX3_settleContraries_17 rfl (hn _ (by decide)) rfl ?_
    have loop18 : ∀ (m i : Nat) (Si : ST) (hm : 7 - i < m) (hs : (Si = S ∧ conb S y i = false ∧ (i : Int) ≤ iv S 11 3 y) ∨ (Si = setKS S 11 y (if iv S 11 1 y = 0 then 4 else 3) 0 ∧ conb S y (iv S 11 3 y).toNat = true ∧ (i : Int) ≤ 7)), At X 0 0 18 [(0, vr (some (11, y))), (1, vi (i : Int))] [] Si := by
      intro kf
      induction kf with
      | zero => intro i Si hm hs; exact absurd hm (by omega)
      | succ kf ih =>
        intro i Si hm hs
        refine r_iload_n C dX3_settleContraries_18 rfl rfl ?_
        rcases hs with ⟨e, hf, hi⟩ | ⟨e, ht, hi⟩ <;> subst Si
        · skip
          refine r_aload_n C dX3_settleContraries_19 rfl rfl ?_
          refine r_getf C (mid_11 hy) (hp_11 _ _) rfl 3 (by decide) in_X3_settleContraries_X3 lk_X3_settleContraries_98 (Or.inr sm_X3_settleContraries_PlannedClause_size) rfl dX3_settleContraries_20 ?_
          refine r_icmp_ge (tgt := 72) C dX3_settleContraries_23 (by decide) (by omega) (by omega) (fun h23 => ?_) (fun h23 => ?_)
          · skip
            exact r_vret C Rr (⟨rfl, by unfold settleConF; rw [if_pos (by omega), if_neg (by rw [show (iv S 11 3 y).toNat = i by omega, hf]; decide)]⟩) dX3_settleContraries_72
          · skip
            refine r_aload_n C dX3_settleContraries_26 rfl rfl ?_
            refine r_iload_n C dX3_settleContraries_27 rfl rfl ?_
            refine r_callU (as := [_]) (na := 1) (rest := []) C (mid_11 hy) (hp_11 _ _) rfl (c_partAt_C S y hy (i : Int) (by omega) hz) gX3_settleContraries_X0_partAt_u99X3 (by decide +kernel) (by decide) (by decide) rfl (Nat.le_of_ble_eq_true rfl) rfl dX3_settleContraries_28 rfl (fun v1 S1 hp1 => ?_)
            obtain ⟨rfl, e9⟩ := hp1
            subst S1
            have hpi := hps i (by omega)
            refine At_val (v' := vr (some (14, pa S 12 y i))) (by rw [if_pos (by omega), Int.toNat_natCast, hpi.1]; rfl) ?_
            refine r_astore_n (lv' := [(2, _), (0, _), (1, _)]) C dX3_settleContraries_31 rfl (hn _ (by decide)) rfl ?_
            refine r_aload_n C dX3_settleContraries_32 rfl rfl ?_
            refine r_ifnull (tgt := 66) C dX3_settleContraries_33 (by decide) (fun h => by cases h) (fun i33 h33 => ?_)
            clear h33
            refine r_aload_n C dX3_settleContraries_36 rfl rfl ?_
            refine r_aload_n C dX3_settleContraries_37 rfl rfl ?_
            refine r_getf C (mid_14 hpi.2) (hp_14 _ _) rfl 0 (by decide) in_X3_settleContraries_X4 lk_X3_settleContraries_103 (Or.inl rfl) rfl dX3_settleContraries_38 ?_
            have hrk := (hR.1 _ hpi.2).1
            refine At_val (v' := vi ((iv S 14 0 (pa S 12 y i)).toNat : Int)) (by congr 1; omega) ?_
            refine r_callSN (as := [_]) (na := 1) (rest := [_]) C (by decide +kernel) ini_X3_settleContraries_X10 st_X3_settleContraries_X10_contraryOf (c_contraryOf S (iv S 14 0 (pa S 12 y i)).toNat (by omega)) gX3_settleContraries_X10_contraryOf_n76 (by decide +kernel) (by decide) (by decide) rfl (Nat.le_of_ble_eq_true rfl) rfl dX3_settleContraries_41 rfl (fun v1 S1 hp1 => ?_)
            obtain ⟨rfl, e9⟩ := hp1
            subst S1
            refine r_callU (as := [_]) (na := 1) (rest := []) C (mid_11 hy) (hp_11 _ _) rfl (c_hasRank_C S y hy _ (ctr_lt (by omega)) hR.1 (hR.2.1 y hy).2) gX3_settleContraries_X0_hasRank_u80X3 (by decide +kernel) (by decide) (by decide) rfl (Nat.le_of_ble_eq_true rfl) rfl dX3_settleContraries_44 rfl (fun v1 S1 hp1 => ?_)
            obtain ⟨rfl, e9⟩ := hp1
            subst S1
            refine r_if_eq (tgt := 66) C dX3_settleContraries_47 (by decide) (by have := b2i_01 (hasR S y (ctr (iv S 14 0 (pa S 12 y i)).toNat)); unfold hasR at this; omega) (fun h47 => ?_) (fun h47 => ?_)
            · skip
              refine r_iinc (lv' := [(1, _), (2, _), (0, _)]) C dX3_settleContraries_66 rfl (hn _ (by decide)) rfl ?_
              refine r_goto (tgt := 18) C dX3_settleContraries_69 (by decide) ?_
              first | exact At_lv (by simp) (ih (i + 1) _ (by omega) (Or.inl ⟨rfl, by unfold conb at hf ⊢; unfold anyb; rw [hf, Bool.false_or]; exact b2i_0 h47, by omega⟩)) | exact At_lv (by simp) (ih (i + 1) _ (by omega) (Or.inr ⟨rfl, anyb_t _ ⟨i, by omega, b2i_1 h47⟩, by omega⟩))
            · skip
              refine r_aload_n C dX3_settleContraries_50 rfl rfl ?_
              refine r_aload_n C dX3_settleContraries_51 rfl rfl ?_
              refine r_getf C (mid_11 hy) (hp_11 _ _) rfl 1 (by decide) in_X3_settleContraries_X3 lk_X3_settleContraries_66 (Or.inr sm_X3_settleContraries_PlannedClause_kind) rfl dX3_settleContraries_52 ?_
              refine r_if_ne (tgt := 62) C dX3_settleContraries_55 (by decide) (by omega) (fun h55 => ?_) (fun h55 => ?_)
              · skip
                refine r_iconst C dX3_settleContraries_62 ?_
                refine At_val (v' := vi (if iv S 11 1 y = 0 then 4 else 3)) (by rw [if_neg h55]) ?_
                refine r_callU (as := [_]) (na := 1) (rest := []) C (mid_11 hy) (hp_11 _ _) rfl (c_fix_C S y hy _) gX3_settleContraries_X0_fix_u106X3 (by decide +kernel) (by decide) (by decide) rfl (Nat.le_of_ble_eq_true rfl) rfl dX3_settleContraries_63 rfl (fun v1 S1 hp1 => ?_)
                obtain ⟨rfl, e9⟩ := hp1
                subst S1
                refine r_iinc (lv' := [(1, _), (2, _), (0, _)]) C dX3_settleContraries_66 rfl (hn _ (by decide)) rfl ?_
                refine r_goto (tgt := 18) C dX3_settleContraries_69 (by decide) ?_
                first | exact At_lv (by simp) (ih (i + 1) _ (by omega) (Or.inl ⟨rfl, by unfold conb at hf ⊢; unfold anyb; rw [hf, Bool.false_or]; exact b2i_0 h47, by omega⟩)) | exact At_lv (by simp) (ih (i + 1) _ (by omega) (Or.inr ⟨rfl, anyb_t _ ⟨i, by omega, b2i_1 h47⟩, by omega⟩))
              · skip
                refine r_iconst C dX3_settleContraries_58 ?_
                refine r_goto (tgt := 63) C dX3_settleContraries_59 (by decide) ?_
                refine At_val (v' := vi (if iv S 11 1 y = 0 then 4 else 3)) (by rw [if_pos h55]) ?_
                refine r_callU (as := [_]) (na := 1) (rest := []) C (mid_11 hy) (hp_11 _ _) rfl (c_fix_C S y hy _) gX3_settleContraries_X0_fix_u106X3 (by decide +kernel) (by decide) (by decide) rfl (Nat.le_of_ble_eq_true rfl) rfl dX3_settleContraries_63 rfl (fun v1 S1 hp1 => ?_)
                obtain ⟨rfl, e9⟩ := hp1
                subst S1
                refine r_iinc (lv' := [(1, _), (2, _), (0, _)]) C dX3_settleContraries_66 rfl (hn _ (by decide)) rfl ?_
                refine r_goto (tgt := 18) C dX3_settleContraries_69 (by decide) ?_
                first | exact At_lv (by simp) (ih (i + 1) _ (by omega) (Or.inl ⟨rfl, by unfold conb at hf ⊢; unfold anyb; rw [hf, Bool.false_or]; exact b2i_0 h47, by omega⟩)) | exact At_lv (by simp) (ih (i + 1) _ (by omega) (Or.inr ⟨rfl, anyb_t _ ⟨i, by omega, b2i_1 h47⟩, by omega⟩))
        · skip
          refine r_aload_n C dX3_settleContraries_19 rfl rfl ?_
          refine r_getf C (mid_11 hy) (hp_11 _ _) rfl 3 (by decide) in_X3_settleContraries_X3 lk_X3_settleContraries_98 (Or.inr sm_X3_settleContraries_PlannedClause_size) rfl dX3_settleContraries_20 ?_
          refine At_val (v' := vi 0) (by simp [setKS, iv, si, up3]) ?_
          refine r_icmp_ge (tgt := 72) C dX3_settleContraries_23 (by decide) (by omega) (by omega) (fun h23 => ?_) (fun h23 => ?_)
          · skip
            exact r_vret C Rr (⟨rfl, by unfold settleConF; rw [if_pos (show iv S 11 1 y = 0 ∨ iv S 11 1 y = 1 by omega), if_pos ht]⟩) dX3_settleContraries_72
          · exact absurd h23 (by omega)
    exact At_lv (by simp) (loop18 8 0 S (by omega) (Or.inl ⟨rfl, rfl, by omega⟩))
  · skip
    refine r_aload_n C dX3_settleContraries_7 rfl rfl ?_
    refine r_getf C (mid_11 hy) (hp_11 _ _) rfl 1 (by decide) in_X3_settleContraries_X3 lk_X3_settleContraries_66 (Or.inr sm_X3_settleContraries_PlannedClause_kind) rfl dX3_settleContraries_8 ?_
    refine r_iconst C dX3_settleContraries_11 ?_
    refine r_icmp_eq (tgt := 16) C dX3_settleContraries_12 (by decide) (by omega) (by omega) (fun h12 => ?_) (fun h12 => ?_)
    · skip
      refine r_iconst C dX3_settleContraries_16 ?_
      refine r_istore_n (lv' := [(1, _), (0, _)]) C dX3_settleContraries_17 rfl (hn _ (by decide)) rfl ?_
      have loop18 : ∀ (m i : Nat) (Si : ST) (hm : 7 - i < m) (hs : (Si = S ∧ conb S y i = false ∧ (i : Int) ≤ iv S 11 3 y) ∨ (Si = setKS S 11 y (if iv S 11 1 y = 0 then 4 else 3) 0 ∧ conb S y (iv S 11 3 y).toNat = true ∧ (i : Int) ≤ 7)), At X 0 0 18 [(0, vr (some (11, y))), (1, vi (i : Int))] [] Si := by
        intro kf
        induction kf with
        | zero => intro i Si hm hs; exact absurd hm (by omega)
        | succ kf ih =>
          intro i Si hm hs
          refine r_iload_n C dX3_settleContraries_18 rfl rfl ?_
          rcases hs with ⟨e, hf, hi⟩ | ⟨e, ht, hi⟩ <;> subst Si
          · skip
            refine r_aload_n C dX3_settleContraries_19 rfl rfl ?_
            refine r_getf C (mid_11 hy) (hp_11 _ _) rfl 3 (by decide) in_X3_settleContraries_X3 lk_X3_settleContraries_98 (Or.inr sm_X3_settleContraries_PlannedClause_size) rfl dX3_settleContraries_20 ?_
            refine r_icmp_ge (tgt := 72) C dX3_settleContraries_23 (by decide) (by omega) (by omega) (fun h23 => ?_) (fun h23 => ?_)
            · skip
              exact r_vret C Rr (⟨rfl, by unfold settleConF; rw [if_pos (by omega), if_neg (by rw [show (iv S 11 3 y).toNat = i by omega, hf]; decide)]⟩) dX3_settleContraries_72
            · skip
              refine r_aload_n C dX3_settleContraries_26 rfl rfl ?_
              refine r_iload_n C dX3_settleContraries_27 rfl rfl ?_
              refine r_callU (as := [_]) (na := 1) (rest := []) C (mid_11 hy) (hp_11 _ _) rfl (c_partAt_C S y hy (i : Int) (by omega) hz) gX3_settleContraries_X0_partAt_u99X3 (by decide +kernel) (by decide) (by decide) rfl (Nat.le_of_ble_eq_true rfl) rfl dX3_settleContraries_28 rfl (fun v1 S1 hp1 => ?_)
              obtain ⟨rfl, e9⟩ := hp1
              subst S1
              have hpi := hps i (by omega)
              refine At_val (v' := vr (some (14, pa S 12 y i))) (by rw [if_pos (by omega), Int.toNat_natCast, hpi.1]; rfl) ?_
              refine r_astore_n (lv' := [(2, _), (0, _), (1, _)]) C dX3_settleContraries_31 rfl (hn _ (by decide)) rfl ?_
              refine r_aload_n C dX3_settleContraries_32 rfl rfl ?_
              refine r_ifnull (tgt := 66) C dX3_settleContraries_33 (by decide) (fun h => by cases h) (fun i33 h33 => ?_)
              clear h33
              refine r_aload_n C dX3_settleContraries_36 rfl rfl ?_
              refine r_aload_n C dX3_settleContraries_37 rfl rfl ?_
              refine r_getf C (mid_14 hpi.2) (hp_14 _ _) rfl 0 (by decide) in_X3_settleContraries_X4 lk_X3_settleContraries_103 (Or.inl rfl) rfl dX3_settleContraries_38 ?_
              have hrk := (hR.1 _ hpi.2).1
              refine At_val (v' := vi ((iv S 14 0 (pa S 12 y i)).toNat : Int)) (by congr 1; omega) ?_
              refine r_callSN (as := [_]) (na := 1) (rest := [_]) C (by decide +kernel) ini_X3_settleContraries_X10 st_X3_settleContraries_X10_contraryOf (c_contraryOf S (iv S 14 0 (pa S 12 y i)).toNat (by omega)) gX3_settleContraries_X10_contraryOf_n76 (by decide +kernel) (by decide) (by decide) rfl (Nat.le_of_ble_eq_true rfl) rfl dX3_settleContraries_41 rfl (fun v1 S1 hp1 => ?_)
              obtain ⟨rfl, e9⟩ := hp1
              subst S1
              refine r_callU (as := [_]) (na := 1) (rest := []) C (mid_11 hy) (hp_11 _ _) rfl (c_hasRank_C S y hy _ (ctr_lt (by omega)) hR.1 (hR.2.1 y hy).2) gX3_settleContraries_X0_hasRank_u80X3 (by decide +kernel) (by decide) (by decide) rfl (Nat.le_of_ble_eq_true rfl) rfl dX3_settleContraries_44 rfl (fun v1 S1 hp1 => ?_)
              obtain ⟨rfl, e9⟩ := hp1
              subst S1
              refine r_if_eq (tgt := 66) C dX3_settleContraries_47 (by decide) (by have := b2i_01 (hasR S y (ctr (iv S 14 0 (pa S 12 y i)).toNat)); unfold hasR at this; omega) (fun h47 => ?_) (fun h47 => ?_)
              · skip
                refine r_iinc (lv' := [(1, _), (2, _), (0, _)]) C dX3_settleContraries_66 rfl (hn _ (by decide)) rfl ?_
                refine r_goto (tgt := 18) C dX3_settleContraries_69 (by decide) ?_
                first | exact At_lv (by simp) (ih (i + 1) _ (by omega) (Or.inl ⟨rfl, by unfold conb at hf ⊢; unfold anyb; rw [hf, Bool.false_or]; exact b2i_0 h47, by omega⟩)) | exact At_lv (by simp) (ih (i + 1) _ (by omega) (Or.inr ⟨rfl, anyb_t _ ⟨i, by omega, b2i_1 h47⟩, by omega⟩))
              · skip
                refine r_aload_n C dX3_settleContraries_50 rfl rfl ?_
                refine r_aload_n C dX3_settleContraries_51 rfl rfl ?_
                refine r_getf C (mid_11 hy) (hp_11 _ _) rfl 1 (by decide) in_X3_settleContraries_X3 lk_X3_settleContraries_66 (Or.inr sm_X3_settleContraries_PlannedClause_kind) rfl dX3_settleContraries_52 ?_
                refine r_if_ne (tgt := 62) C dX3_settleContraries_55 (by decide) (by omega) (fun h55 => ?_) (fun h55 => ?_)
                · skip
                  refine r_iconst C dX3_settleContraries_62 ?_
                  refine At_val (v' := vi (if iv S 11 1 y = 0 then 4 else 3)) (by rw [if_neg h55]) ?_
                  refine r_callU (as := [_]) (na := 1) (rest := []) C (mid_11 hy) (hp_11 _ _) rfl (c_fix_C S y hy _) gX3_settleContraries_X0_fix_u106X3 (by decide +kernel) (by decide) (by decide) rfl (Nat.le_of_ble_eq_true rfl) rfl dX3_settleContraries_63 rfl (fun v1 S1 hp1 => ?_)
                  obtain ⟨rfl, e9⟩ := hp1
                  subst S1
                  refine r_iinc (lv' := [(1, _), (2, _), (0, _)]) C dX3_settleContraries_66 rfl (hn _ (by decide)) rfl ?_
                  refine r_goto (tgt := 18) C dX3_settleContraries_69 (by decide) ?_
                  first | exact At_lv (by simp) (ih (i + 1) _ (by omega) (Or.inl ⟨rfl, by unfold conb at hf ⊢; unfold anyb; rw [hf, Bool.false_or]; exact b2i_0 h47, by omega⟩)) | exact At_lv (by simp) (ih (i + 1) _ (by omega) (Or.inr ⟨rfl, anyb_t _ ⟨i, by omega, b2i_1 h47⟩, by omega⟩))
                · skip
                  refine r_iconst C dX3_settleContraries_58 ?_
                  refine r_goto (tgt := 63) C dX3_settleContraries_59 (by decide) ?_
                  refine At_val (v' := vi (if iv S 11 1 y = 0 then 4 else 3)) (by rw [if_pos h55]) ?_
                  refine r_callU (as := [_]) (na := 1) (rest := []) C (mid_11 hy) (hp_11 _ _) rfl (c_fix_C S y hy _) gX3_settleContraries_X0_fix_u106X3 (by decide +kernel) (by decide) (by decide) rfl (Nat.le_of_ble_eq_true rfl) rfl dX3_settleContraries_63 rfl (fun v1 S1 hp1 => ?_)
                  obtain ⟨rfl, e9⟩ := hp1
                  subst S1
                  refine r_iinc (lv' := [(1, _), (2, _), (0, _)]) C dX3_settleContraries_66 rfl (hn _ (by decide)) rfl ?_
                  refine r_goto (tgt := 18) C dX3_settleContraries_69 (by decide) ?_
                  first | exact At_lv (by simp) (ih (i + 1) _ (by omega) (Or.inl ⟨rfl, by unfold conb at hf ⊢; unfold anyb; rw [hf, Bool.false_or]; exact b2i_0 h47, by omega⟩)) | exact At_lv (by simp) (ih (i + 1) _ (by omega) (Or.inr ⟨rfl, anyb_t _ ⟨i, by omega, b2i_1 h47⟩, by omega⟩))
          · skip
            refine r_aload_n C dX3_settleContraries_19 rfl rfl ?_
            refine r_getf C (mid_11 hy) (hp_11 _ _) rfl 3 (by decide) in_X3_settleContraries_X3 lk_X3_settleContraries_98 (Or.inr sm_X3_settleContraries_PlannedClause_size) rfl dX3_settleContraries_20 ?_
            refine At_val (v' := vi 0) (by simp [setKS, iv, si, up3]) ?_
            refine r_icmp_ge (tgt := 72) C dX3_settleContraries_23 (by decide) (by omega) (by omega) (fun h23 => ?_) (fun h23 => ?_)
            · skip
              exact r_vret C Rr (⟨rfl, by unfold settleConF; rw [if_pos (show iv S 11 1 y = 0 ∨ iv S 11 1 y = 1 by omega), if_pos ht]⟩) dX3_settleContraries_72
            · exact absurd h23 (by omega)
      exact At_lv (by simp) (loop18 8 0 S (by omega) (Or.inl ⟨rfl, rfl, by omega⟩))
    · skip
      exact r_vret C Rr (⟨rfl, by unfold settleConF; rw [if_neg (by omega)]⟩) dX3_settleContraries_15
set_option maxHeartbeats 4000000 in
set_option maxRecDepth 100000 in
theorem c_Cmake (S : ST) (y k B : Nat) (hy : y < 10) (hk : k < 5) (hB : B < 2 ^ 40) (hR : RI S) (hW : IW S) (hQ : IQ S) : Ct yX3_make wsX3_make 3 [vr (some (11, y)), vr (some (5, k)), vr (some (1, 0)), vl (B : Int)] S (fun v S1 => v = none ∧ S1 = cmkF y k B S) := by
  refine Ct.of (nL := 5) (by decide) rfl (Nat.le_of_ble_eq_true rfl) (by decide) (fun X C Rr hnL => ?_)
  have hn : ∀ i, i < 5 → i < X.2.2.2.2.2 := fun i h => by rw [hnL]; exact h
  obtain ⟨hq1, hq2, hq3, hq4, hq5⟩ := hQ.2.2.2 k hk
  refine r_aload_n C dX3_make_0 rfl rfl ?_
  refine r_aload_n C dX3_make_1 rfl rfl ?_
  refine r_getf C (mid_5 hk) (hp_5 _ _) rfl 1 (by decide) in_X3_make_X9 lk_X3_make_24 (Or.inl rfl) rfl dX3_make_2 ?_
  refine r_aload_n C dX3_make_5 rfl rfl ?_
  refine r_getf C (mid_5 hk) (hp_5 _ _) rfl 2 (by decide) in_X3_make_X9 lk_X3_make_29 (Or.inl rfl) rfl dX3_make_6 ?_
  refine r_lload_n C dX3_make_9 rfl rfl ?_
  refine r_callU (as := [_, _, _]) (na := 3) (rest := []) C (mid_11 hy) (hp_11 _ _) rfl (c_restart_C S y hy _ _ B) gX3_make_X0_restart_u32X3 (by decide +kernel) (by decide) (by decide) rfl (Nat.le_of_ble_eq_true rfl) rfl dX3_make_10 rfl (fun v1 S1 hp1 => ?_)
  obtain ⟨rfl, e9⟩ := hp1
  subst S1
  change At X _ _ _ _ _ (restartF S 11 y (iv S 5 1 k) (iv S 5 2 k) B)
  have hRa : RI (restartF S 11 y (iv S 5 1 k) (iv S 5 2 k) B) := restartF_RI (Or.inl rfl) hR (by omega) (by omega) hB
  have hFa : FR (y / 5) S (restartF S 11 y (iv S 5 1 k) (iv S 5 2 k) B) := restartF_FR (Or.inr ⟨rfl, rfl⟩)
  have hna : iv (restartF S 11 y (iv S 5 1 k) (iv S 5 2 k) B) 11 2 y = iv S 5 2 k := by simp [restartF, iv, si, sj, up3]
  generalize hSa : restartF S 11 y (iv S 5 1 k) (iv S 5 2 k) B = Sa at hRa hFa hna ⊢
  refine r_aload_n C dX3_make_13 rfl rfl ?_
  refine r_getf C (mid_5 hk) (hp_5 _ _) rfl 3 (by decide) in_X3_make_X9 lk_X3_make_36 (Or.inl rfl) rfl dX3_make_14 ?_
  refine At_val (v' := vi (iv S 5 3 k)) (by rw [← (hFa.q 3 k).2]) ?_
  refine r_if_eq (tgt := 28) C dX3_make_17 (by decide) (by omega) (fun h17 => ?_) (fun h17 => ?_)
  · skip
    obtain ⟨Sb, hSb⟩ : ∃ Sb, Sa = Sb := ⟨_, rfl⟩
    have hif : (if iv S 5 3 k = 1 then turnF Sa y (iv S 5 4 k) else Sa) = Sb := by rw [if_neg (by omega)]; exact hSb
    have hRb : RI Sb := hSb ▸ hRa
    have hFb : FR (y / 5) S Sb := hSb ▸ hFa
    rw [hSb]
    refine r_aload_n C dX3_make_28 rfl rfl ?_
    refine r_aload_n C dX3_make_29 rfl rfl ?_
    refine r_getf C (mid_5 hk) (hp_5 _ _) rfl 4 (by decide) in_X3_make_X9 lk_X3_make_40 (Or.inl rfl) rfl dX3_make_30 ?_
    refine At_val (v' := vi (iv S 5 4 k)) (by rw [← (hFb.q 4 k).2]) ?_
    refine r_callU (as := [_]) (na := 1) (rest := []) C (mid_11 hy) (hp_11 _ _) rfl (c_settleSome_C Sb y hy _ hq4 (hRb.2.1 y hy).1) gX3_make_X0_settleSome_u47X3 (by decide +kernel) (by decide) (by decide) rfl (Nat.le_of_ble_eq_true rfl) rfl dX3_make_33 rfl (fun v1 S1 hp1 => ?_)
    obtain ⟨rfl, e9⟩ := hp1
    subst S1
    change At X _ _ _ _ _ (settleSomeF Sb 11 y (iv S 5 4 k))
    have hRc : RI (settleSomeF Sb 11 y (iv S 5 4 k)) := settleSomeF_RI (Or.inl ⟨rfl, hy⟩) hRb
    have hFc : FR (y / 5) S (settleSomeF Sb 11 y (iv S 5 4 k)) := hFb.tr (settleSomeF_FR (Or.inr ⟨rfl, rfl⟩))
    generalize hSc : settleSomeF Sb 11 y (iv S 5 4 k) = Sc at hRc hFc ⊢
    refine r_aload_n C dX3_make_36 rfl rfl ?_
    refine r_aload_n C dX3_make_37 rfl rfl ?_
    refine r_aload_n C dX3_make_38 rfl rfl ?_
    refine r_lload_n C dX3_make_39 rfl rfl ?_
    refine r_callV (as := [_, _, _]) (na := 3) (rest := []) C (mid_11 hy) (hp_11 _ _) rfl (c_keepLiterals Sc y k B hy hk hB hRc (hFc.iw hW) (hFc.iq hQ)) gX3_make_X3_keepLiterals (by decide +kernel) (by decide) (by decide) rfl (Nat.le_of_ble_eq_true rfl) rfl dX3_make_40 rfl (fun v1 S1 hp1 => ?_)
    obtain ⟨rfl, e9⟩ := hp1
    subst S1
    obtain ⟨hRd, hFd0⟩ := keepLitsF_ok (r := y / 5) hy rfl hk hB hRc (hFc.iq hQ)
    have hFd := hFc.tr hFd0
    generalize hSd : keepLitsF Sc y k B = Sd at hRd hFd ⊢
    refine r_aload_n C dX3_make_43 rfl rfl ?_
    refine r_callV (as := []) (na := 0) (rest := []) C (mid_11 hy) (hp_11 _ _) rfl (c_settleContraries Sd y hy hRd) gX3_make_X3_settleContraries (by decide +kernel) (by decide) (by decide) rfl (Nat.le_of_ble_eq_true rfl) rfl dX3_make_44 rfl (fun v1 S1 hp1 => ?_)
    obtain ⟨rfl, e9⟩ := hp1
    subst S1
    obtain ⟨hRe, hFe0⟩ := settleConF_ok (r := y / 5) hy rfl hRd
    have hFe := hFd.tr hFe0
    generalize hSe : settleConF Sd y = Se at hRe hFe ⊢
    refine r_aload_n C dX3_make_47 rfl rfl ?_
    refine r_callU (as := []) (na := 0) (rest := []) C (mid_11 hy) (hp_11 _ _) rfl (c_settleEmpty_C Se y hy (hRe.2.1 y hy).1 (hRe.2.1 y hy).2.1) gX3_make_X0_settleEmpty_u57X3 (by decide +kernel) (by decide) (by decide) rfl (Nat.le_of_ble_eq_true rfl) rfl dX3_make_48 rfl (fun v1 S1 hp1 => ?_)
    obtain ⟨rfl, e9⟩ := hp1
    subst S1
    change At X _ _ _ _ _ (settleEmptyF Se 11 y)
    have hRf : RI (settleEmptyF Se 11 y) := settleEmptyF_RI (Or.inl ⟨rfl, hy⟩) hRe
    generalize hSf : settleEmptyF Se 11 y = Sf at hRf ⊢
    refine r_aload_n C dX3_make_51 rfl rfl ?_
    refine r_callU (as := []) (na := 0) (rest := []) C (mid_11 hy) (hp_11 _ _) rfl (c_appraise_C Sf y hy (hRf.2.1 y hy).1 (fun p hp => (hRf.1 p hp).2.1) (hRf.2.1 y hy).2) gX3_make_X0_appraise_u60X3 (by decide +kernel) (by decide) (by decide) rfl (Nat.le_of_ble_eq_true rfl) rfl dX3_make_52 rfl (fun v1 S1 hp1 => ?_)
    obtain ⟨rfl, e9⟩ := hp1
    subst S1
    change At X _ _ _ _ _ (appraiseC Sf y)
    have hRg : RI (appraiseC Sf y) := appraiseC_RI hy hRf
    generalize hSg : appraiseC Sf y = Sg at hRg ⊢
    refine r_aload_n C dX3_make_55 rfl rfl ?_
    refine r_callU (as := []) (na := 0) (rest := []) C (mid_11 hy) (hp_11 _ _) rfl (c_order_C Sg y hy (hRg.2.1 y hy).1.1 (fun p hp => (hRg.1 p hp).2.1) hRg.1 (hRg.2.1 y hy).2) gX3_make_X0_order_u63X3 (by decide +kernel) (by decide) (by decide) rfl (Nat.le_of_ble_eq_true rfl) rfl dX3_make_56 rfl (fun v1 S1 hp1 => ?_)
    obtain ⟨rfl, e9⟩ := hp1
    subst S1
    exact r_vret C Rr (⟨rfl, by subst hSg; subst hSf; subst hSe; subst hSd; subst hSc; rw [← hif]; subst hSa; rfl⟩) dX3_make_59
  · skip
    refine r_aload_n C dX3_make_20 rfl rfl ?_
    refine r_aload_n C dX3_make_21 rfl rfl ?_
    refine r_getf C (mid_5 hk) (hp_5 _ _) rfl 4 (by decide) in_X3_make_X9 lk_X3_make_40 (Or.inl rfl) rfl dX3_make_22 ?_
    refine At_val (v' := vi (iv S 5 4 k)) (by rw [← (hFa.q 4 k).2]) ?_
    refine r_callV (as := [_]) (na := 1) (rest := []) C (mid_11 hy) (hp_11 _ _) rfl (c_turn Sa y hy _ hRa) gX3_make_X3_turn (by decide +kernel) (by decide) (by decide) rfl (Nat.le_of_ble_eq_true rfl) rfl dX3_make_25 rfl (fun v1 S1 hp1 => ?_)
    obtain ⟨rfl, e9⟩ := hp1
    subst S1
    have hRb : RI (turnF Sa y (iv S 5 4 k)) := turnF_RI hRa (fun _ => by omega)
    have hFb : FR (y / 5) S (turnF Sa y (iv S 5 4 k)) := hFa.tr (turnF_FR rfl)
    have hcb : cmkF y k B S = cmkF y k B S := rfl
    generalize hSb : turnF Sa y (iv S 5 4 k) = Sb at hRb hFb ⊢
    have hif : (if iv S 5 3 k = 1 then turnF Sa y (iv S 5 4 k) else Sa) = Sb := by rw [if_pos (by omega)]; exact hSb
    refine r_aload_n C dX3_make_28 rfl rfl ?_
    refine r_aload_n C dX3_make_29 rfl rfl ?_
    refine r_getf C (mid_5 hk) (hp_5 _ _) rfl 4 (by decide) in_X3_make_X9 lk_X3_make_40 (Or.inl rfl) rfl dX3_make_30 ?_
    refine At_val (v' := vi (iv S 5 4 k)) (by rw [← (hFb.q 4 k).2]) ?_
    refine r_callU (as := [_]) (na := 1) (rest := []) C (mid_11 hy) (hp_11 _ _) rfl (c_settleSome_C Sb y hy _ hq4 (hRb.2.1 y hy).1) gX3_make_X0_settleSome_u47X3 (by decide +kernel) (by decide) (by decide) rfl (Nat.le_of_ble_eq_true rfl) rfl dX3_make_33 rfl (fun v1 S1 hp1 => ?_)
    obtain ⟨rfl, e9⟩ := hp1
    subst S1
    change At X _ _ _ _ _ (settleSomeF Sb 11 y (iv S 5 4 k))
    have hRc : RI (settleSomeF Sb 11 y (iv S 5 4 k)) := settleSomeF_RI (Or.inl ⟨rfl, hy⟩) hRb
    have hFc : FR (y / 5) S (settleSomeF Sb 11 y (iv S 5 4 k)) := hFb.tr (settleSomeF_FR (Or.inr ⟨rfl, rfl⟩))
    generalize hSc : settleSomeF Sb 11 y (iv S 5 4 k) = Sc at hRc hFc ⊢
    refine r_aload_n C dX3_make_36 rfl rfl ?_
    refine r_aload_n C dX3_make_37 rfl rfl ?_
    refine r_aload_n C dX3_make_38 rfl rfl ?_
    refine r_lload_n C dX3_make_39 rfl rfl ?_
    refine r_callV (as := [_, _, _]) (na := 3) (rest := []) C (mid_11 hy) (hp_11 _ _) rfl (c_keepLiterals Sc y k B hy hk hB hRc (hFc.iw hW) (hFc.iq hQ)) gX3_make_X3_keepLiterals (by decide +kernel) (by decide) (by decide) rfl (Nat.le_of_ble_eq_true rfl) rfl dX3_make_40 rfl (fun v1 S1 hp1 => ?_)
    obtain ⟨rfl, e9⟩ := hp1
    subst S1
    obtain ⟨hRd, hFd0⟩ := keepLitsF_ok (r := y / 5) hy rfl hk hB hRc (hFc.iq hQ)
    have hFd := hFc.tr hFd0
    generalize hSd : keepLitsF Sc y k B = Sd at hRd hFd ⊢
    refine r_aload_n C dX3_make_43 rfl rfl ?_
    refine r_callV (as := []) (na := 0) (rest := []) C (mid_11 hy) (hp_11 _ _) rfl (c_settleContraries Sd y hy hRd) gX3_make_X3_settleContraries (by decide +kernel) (by decide) (by decide) rfl (Nat.le_of_ble_eq_true rfl) rfl dX3_make_44 rfl (fun v1 S1 hp1 => ?_)
    obtain ⟨rfl, e9⟩ := hp1
    subst S1
    obtain ⟨hRe, hFe0⟩ := settleConF_ok (r := y / 5) hy rfl hRd
    have hFe := hFd.tr hFe0
    generalize hSe : settleConF Sd y = Se at hRe hFe ⊢
    refine r_aload_n C dX3_make_47 rfl rfl ?_
    refine r_callU (as := []) (na := 0) (rest := []) C (mid_11 hy) (hp_11 _ _) rfl (c_settleEmpty_C Se y hy (hRe.2.1 y hy).1 (hRe.2.1 y hy).2.1) gX3_make_X0_settleEmpty_u57X3 (by decide +kernel) (by decide) (by decide) rfl (Nat.le_of_ble_eq_true rfl) rfl dX3_make_48 rfl (fun v1 S1 hp1 => ?_)
    obtain ⟨rfl, e9⟩ := hp1
    subst S1
    change At X _ _ _ _ _ (settleEmptyF Se 11 y)
    have hRf : RI (settleEmptyF Se 11 y) := settleEmptyF_RI (Or.inl ⟨rfl, hy⟩) hRe
    generalize hSf : settleEmptyF Se 11 y = Sf at hRf ⊢
    refine r_aload_n C dX3_make_51 rfl rfl ?_
    refine r_callU (as := []) (na := 0) (rest := []) C (mid_11 hy) (hp_11 _ _) rfl (c_appraise_C Sf y hy (hRf.2.1 y hy).1 (fun p hp => (hRf.1 p hp).2.1) (hRf.2.1 y hy).2) gX3_make_X0_appraise_u60X3 (by decide +kernel) (by decide) (by decide) rfl (Nat.le_of_ble_eq_true rfl) rfl dX3_make_52 rfl (fun v1 S1 hp1 => ?_)
    obtain ⟨rfl, e9⟩ := hp1
    subst S1
    change At X _ _ _ _ _ (appraiseC Sf y)
    have hRg : RI (appraiseC Sf y) := appraiseC_RI hy hRf
    generalize hSg : appraiseC Sf y = Sg at hRg ⊢
    refine r_aload_n C dX3_make_55 rfl rfl ?_
    refine r_callU (as := []) (na := 0) (rest := []) C (mid_11 hy) (hp_11 _ _) rfl (c_order_C Sg y hy (hRg.2.1 y hy).1.1 (fun p hp => (hRg.1 p hp).2.1) hRg.1 (hRg.2.1 y hy).2) gX3_make_X0_order_u63X3 (by decide +kernel) (by decide) (by decide) rfl (Nat.le_of_ble_eq_true rfl) rfl dX3_make_56 rfl (fun v1 S1 hp1 => ?_)
    obtain ⟨rfl, e9⟩ := hp1
    subst S1
    exact r_vret C Rr (⟨rfl, by subst hSg; subst hSf; subst hSe; subst hSd; subst hSc; rw [← hif]; subst hSa; rfl⟩) dX3_make_59
