theorem in_X2_takeIn_X3 : ∀ w ∈ wsX30, w ∈ wsX2_takeIn := by decide +kernel
theorem lk_X2_takeIn_76 : Cond.fieldLink RX2 76 "PostingPlanner$PlannedClause" "kind" "I" ∈ wsX2_takeIn := by decide +kernel
theorem sm_X2_takeIn_PlannedClause_kind : Cond.sameField "PostingPlanner$PlannedClause" "PostingPlanner$Group" "kind" "I" ∈ wsX2_takeIn := by decide +kernel
theorem in_X2_takeIn_X2 : ∀ w ∈ wsX20, w ∈ wsX2_takeIn := by decide +kernel
theorem lk_X2_takeIn_77 : Cond.fieldLink RX2 77 "PostingPlanner$Plan" "kind" "I" ∈ wsX2_takeIn := by decide +kernel
theorem sm_X2_takeIn_Plan_kind : Cond.sameField "PostingPlanner$Plan" "PostingPlanner$Group" "kind" "I" ∈ wsX2_takeIn := by decide +kernel
theorem lk_X2_takeIn_78 : Cond.fieldLink RX2 78 "PostingPlanner$Plan" "need" "I" ∈ wsX2_takeIn := by decide +kernel
theorem sm_X2_takeIn_Plan_need : Cond.sameField "PostingPlanner$Plan" "PostingPlanner$Group" "need" "I" ∈ wsX2_takeIn := by decide +kernel
theorem in_X2_make_X5 : ∀ w ∈ wsX50, w ∈ wsX2_make := by decide +kernel
theorem lk_X2_make_26 : Cond.fieldLink RX2 26 "PostingPlanner$Question" "kind" "I" ∈ wsX2_make := by decide +kernel
theorem lk_X2_make_32 : Cond.fieldLink RX2 32 "PostingPlanner$Question" "need" "I" ∈ wsX2_make := by decide +kernel
theorem in_X2_make_X2 : ∀ w ∈ wsX20, w ∈ wsX2_make := by decide +kernel
theorem lk_X2_make_11 : Cond.fieldLink RX2 11 "PostingPlanner$Plan" "clauses" "[LPostingPlanner$PlannedClause;" ∈ wsX2_make := by decide +kernel
theorem lk_X2_make_55 : Cond.fieldLink RX2 55 "PostingPlanner$Plan" "size" "I" ∈ wsX2_make := by decide +kernel
theorem sm_X2_make_Plan_size : Cond.sameField "PostingPlanner$Plan" "PostingPlanner$Group" "size" "I" ∈ wsX2_make := by decide +kernel
theorem in_X2_plannedAt_X3 : ∀ w ∈ wsX30, w ∈ wsX2_plannedAt := by decide +kernel
theorem lk_X2_plannedAt_86 : Cond.fieldLink RX2 86 "PostingPlanner$Part" "rank" "I" ∈ wsX2_plannedAt := by decide +kernel
theorem in_X2_plannedAt_X2 : ∀ w ∈ wsX20, w ∈ wsX2_plannedAt := by decide +kernel
theorem lk_X2_plannedAt_11 : Cond.fieldLink RX2 11 "PostingPlanner$Plan" "clauses" "[LPostingPlanner$PlannedClause;" ∈ wsX2_plannedAt := by decide +kernel
theorem in_X6_restart_X6 : ∀ w ∈ wsX60, w ∈ wsX6_restart := by decide +kernel
theorem lk_X6_restart_23 : Cond.fieldLink RX6 23 "PostingPlanner$Run" "plan" "LPostingPlanner$Plan;" ∈ wsX6_restart := by decide +kernel
theorem lk_X6_restart_12 : Cond.fieldLink RX6 12 "PostingPlanner$Run" "tally" "LPostingPlanner$Tally;" ∈ wsX6_restart := by decide +kernel
theorem in_X6_restart_X8 : ∀ w ∈ wsX80, w ∈ wsX6_restart := by decide +kernel
theorem lk_X6_restart_31 : Cond.fieldLink RX6 31 "PostingPlanner$Tally" "sum" "I" ∈ wsX6_restart := by decide +kernel
theorem lk_X6_restart_35 : Cond.fieldLink RX6 35 "PostingPlanner$Run" "isBegun" "Z" ∈ wsX6_restart := by decide +kernel
theorem lk_X6_restart_39 : Cond.fieldLink RX6 39 "PostingPlanner$Run" "given" "I" ∈ wsX6_restart := by decide +kernel
theorem in_X6_restart_X2 : ∀ w ∈ wsX20, w ∈ wsX6_restart := by decide +kernel
theorem lk_X6_restart_42 : Cond.fieldLink RX6 42 "PostingPlanner$Plan" "estimate" "I" ∈ wsX6_restart := by decide +kernel
theorem sm_X6_restart_Plan_estimate : Cond.sameField "PostingPlanner$Plan" "PostingPlanner$Part" "estimate" "I" ∈ wsX6_restart := by decide +kernel
theorem in_X6_advance_X6 : ∀ w ∈ wsX60, w ∈ wsX6_advance := by decide +kernel
theorem lk_X6_advance_39 : Cond.fieldLink RX6 39 "PostingPlanner$Run" "given" "I" ∈ wsX6_advance := by decide +kernel
theorem lk_X6_advance_45 : Cond.methodLink RX6 45 Lib.Math.max.name ∈ wsX6_advance := by decide +kernel
theorem st_X6_advance_Mmax : Cond.static Lib.Math.max.name ∈ wsX6_advance := by decide +kernel
theorem ini_X6_advance_Math : Cond.initialized "java/lang/Math" ∈ wsX6_advance := by decide +kernel
theorem co_X6_advance_Mmax : Cond.code Lib.Math.max.name Lib.Math.max.code 2 (some .int) ∈ wsX6_advance := by decide +kernel
theorem lk_X6_advance_23 : Cond.fieldLink RX6 23 "PostingPlanner$Run" "plan" "LPostingPlanner$Plan;" ∈ wsX6_advance := by decide +kernel
set_option maxHeartbeats 4000000 in
set_option maxRecDepth 100000 in
theorem c_takeIn (S : ST) (y c : Nat) (hy : y < 2) (hc : c < 10) (hR : RI S) : Ct yX2_takeIn wsX2_takeIn 1 [vr (some (8, y)), vr (some (11, c))] S (fun v S1 => v = none ∧ S1 = takeF S y c) := by
  refine Ct.of (nL := 2) (by decide) rfl (Nat.le_of_ble_eq_true rfl) (by decide) (fun X C Rr hnL => ?_)
  have hn : ∀ i, i < 2 → i < X.2.2.2.2.2 := fun i h => by rw [hnL]; exact h
  obtain ⟨hck1, hck2, -⟩ := (hR.2.1 c hc).1
  obtain ⟨hk1, hk2, -⟩ := (hR.2.2 y hy).1
  refine r_aload_n C dX2_takeIn_0 rfl rfl ?_
  refine r_callU (as := []) (na := 0) (rest := []) C (mid_11 hc) (hp_11 _ _) rfl (c_isFixed_C S c hc (hR.2.1 c hc).1) gX2_takeIn_X0_isFixed_u71X3 (by decide +kernel) (by decide) (by decide) rfl (Nat.le_of_ble_eq_true rfl) rfl dX2_takeIn_1 rfl (fun v1 S1 hp1 => ?_)
  obtain ⟨rfl, e9⟩ := hp1
  subst S1
  refine r_if_ne (tgt := 15) C dX2_takeIn_4 (by decide) (by have := b2i_01 (decide (iv S 11 1 c = 3 ∨ iv S 11 1 c = 4)); omega) (fun h4 => ?_) (fun h4 => ?_)
  · skip
    refine r_aload_n C dX2_takeIn_15 rfl rfl ?_
    refine r_getf C (mid_11 hc) (hp_11 _ _) rfl 1 (by decide) in_X2_takeIn_X3 lk_X2_takeIn_76 (Or.inr sm_X2_takeIn_PlannedClause_kind) rfl dX2_takeIn_16 ?_
    refine r_iconst C dX2_takeIn_19 ?_
    refine r_icmp_ne (tgt := 44) C dX2_takeIn_20 (by decide) (by omega) (by omega) (fun h20 => ?_) (fun h20 => ?_)
    · skip
      refine r_aload_n C dX2_takeIn_44 rfl rfl ?_
      refine r_getf C (mid_11 hc) (hp_11 _ _) rfl 1 (by decide) in_X2_takeIn_X3 lk_X2_takeIn_76 (Or.inr sm_X2_takeIn_PlannedClause_kind) rfl dX2_takeIn_45 ?_
      refine r_iconst C dX2_takeIn_48 ?_
      refine r_icmp_ne (tgt := 68) C dX2_takeIn_49 (by decide) (by omega) (by omega) (fun h49 => ?_) (fun h49 => ?_)
      · skip
        refine r_aload_n C dX2_takeIn_68 rfl rfl ?_
        refine r_getf C (mid_11 hc) (hp_11 _ _) rfl 1 (by decide) in_X2_takeIn_X3 lk_X2_takeIn_76 (Or.inr sm_X2_takeIn_PlannedClause_kind) rfl dX2_takeIn_69 ?_
        refine r_iconst C dX2_takeIn_72 ?_
        refine r_icmp_ne (tgt := 88) C dX2_takeIn_73 (by decide) (by omega) (by omega) (fun h73 => ?_) (fun h73 => ?_)
        · skip
          exact r_vret C Rr (⟨rfl, by unfold takeF; first | (exfalso; omega) | (rw [if_pos (of_decide_eq_false (b2i_0 h4))]; rfl) | (rw [if_neg (fun q => q (of_decide_eq_true (b2i_1 h4)))]; first | rw [if_pos (by omega)] | rw [if_neg (by omega), if_pos (by omega)] | rw [if_neg (by omega), if_neg (by omega), if_pos (by omega)] | rw [if_neg (by omega), if_neg (by omega), if_neg (by omega)])⟩) dX2_takeIn_88
        · skip
          refine r_aload_n C dX2_takeIn_76 rfl rfl ?_
          refine r_getf C (mid_8 hy) (hp_8 _ _) rfl 1 (by decide) in_X2_takeIn_X2 lk_X2_takeIn_77 (Or.inr sm_X2_takeIn_Plan_kind) rfl dX2_takeIn_77 ?_
          refine r_if_ne (tgt := 88) C dX2_takeIn_80 (by decide) (by omega) (fun h80 => ?_) (fun h80 => ?_)
          · skip
            exact r_vret C Rr (⟨rfl, by unfold takeF; first | (exfalso; omega) | (rw [if_pos (of_decide_eq_false (b2i_0 h4))]; rfl) | (rw [if_neg (fun q => q (of_decide_eq_true (b2i_1 h4)))]; first | rw [if_pos (by omega)] | rw [if_neg (by omega), if_pos (by omega)] | rw [if_neg (by omega), if_neg (by omega), if_pos (by omega)] | rw [if_neg (by omega), if_neg (by omega), if_neg (by omega)])⟩) dX2_takeIn_88
          · skip
            refine r_aload_n C dX2_takeIn_83 rfl rfl ?_
            refine r_iconst C dX2_takeIn_84 ?_
            refine r_callU (as := [_]) (na := 1) (rest := []) C (mid_8 hy) (hp_8 _ _) rfl (c_fix_P S y hy 4) gX2_takeIn_X0_fix_u79X2 (by decide +kernel) (by decide) (by decide) rfl (Nat.le_of_ble_eq_true rfl) rfl dX2_takeIn_85 rfl (fun v1 S1 hp1 => ?_)
            obtain ⟨rfl, e9⟩ := hp1
            subst S1
            exact r_vret C Rr (⟨rfl, by unfold takeF; first | (exfalso; omega) | (rw [if_pos (of_decide_eq_false (b2i_0 h4))]; rfl) | (rw [if_neg (fun q => q (of_decide_eq_true (b2i_1 h4)))]; first | rw [if_pos (by omega)] | rw [if_neg (by omega), if_pos (by omega)] | rw [if_neg (by omega), if_neg (by omega), if_pos (by omega)] | rw [if_neg (by omega), if_neg (by omega), if_neg (by omega)])⟩) dX2_takeIn_88
      · skip
        refine r_aload_n C dX2_takeIn_52 rfl rfl ?_
        refine r_getf C (mid_8 hy) (hp_8 _ _) rfl 1 (by decide) in_X2_takeIn_X2 lk_X2_takeIn_77 (Or.inr sm_X2_takeIn_Plan_kind) rfl dX2_takeIn_53 ?_
        refine r_iconst C dX2_takeIn_56 ?_
        refine r_icmp_ne (tgt := 68) C dX2_takeIn_57 (by decide) (by omega) (by omega) (fun h57 => ?_) (fun h57 => ?_)
        · skip
          refine r_aload_n C dX2_takeIn_68 rfl rfl ?_
          refine r_getf C (mid_11 hc) (hp_11 _ _) rfl 1 (by decide) in_X2_takeIn_X3 lk_X2_takeIn_76 (Or.inr sm_X2_takeIn_PlannedClause_kind) rfl dX2_takeIn_69 ?_
          refine r_iconst C dX2_takeIn_72 ?_
          refine r_icmp_ne (tgt := 88) C dX2_takeIn_73 (by decide) (by omega) (by omega) (fun h73 => ?_) (fun h73 => ?_)
          · skip
            exact r_vret C Rr (⟨rfl, by unfold takeF; first | (exfalso; omega) | (rw [if_pos (of_decide_eq_false (b2i_0 h4))]; rfl) | (rw [if_neg (fun q => q (of_decide_eq_true (b2i_1 h4)))]; first | rw [if_pos (by omega)] | rw [if_neg (by omega), if_pos (by omega)] | rw [if_neg (by omega), if_neg (by omega), if_pos (by omega)] | rw [if_neg (by omega), if_neg (by omega), if_neg (by omega)])⟩) dX2_takeIn_88
          · skip
            refine r_aload_n C dX2_takeIn_76 rfl rfl ?_
            refine r_getf C (mid_8 hy) (hp_8 _ _) rfl 1 (by decide) in_X2_takeIn_X2 lk_X2_takeIn_77 (Or.inr sm_X2_takeIn_Plan_kind) rfl dX2_takeIn_77 ?_
            refine r_if_ne (tgt := 88) C dX2_takeIn_80 (by decide) (by omega) (fun h80 => ?_) (fun h80 => ?_)
            · skip
              exact r_vret C Rr (⟨rfl, by unfold takeF; first | (exfalso; omega) | (rw [if_pos (of_decide_eq_false (b2i_0 h4))]; rfl) | (rw [if_neg (fun q => q (of_decide_eq_true (b2i_1 h4)))]; first | rw [if_pos (by omega)] | rw [if_neg (by omega), if_pos (by omega)] | rw [if_neg (by omega), if_neg (by omega), if_pos (by omega)] | rw [if_neg (by omega), if_neg (by omega), if_neg (by omega)])⟩) dX2_takeIn_88
            · skip
              refine r_aload_n C dX2_takeIn_83 rfl rfl ?_
              refine r_iconst C dX2_takeIn_84 ?_
              refine r_callU (as := [_]) (na := 1) (rest := []) C (mid_8 hy) (hp_8 _ _) rfl (c_fix_P S y hy 4) gX2_takeIn_X0_fix_u79X2 (by decide +kernel) (by decide) (by decide) rfl (Nat.le_of_ble_eq_true rfl) rfl dX2_takeIn_85 rfl (fun v1 S1 hp1 => ?_)
              obtain ⟨rfl, e9⟩ := hp1
              subst S1
              exact r_vret C Rr (⟨rfl, by unfold takeF; first | (exfalso; omega) | (rw [if_pos (of_decide_eq_false (b2i_0 h4))]; rfl) | (rw [if_neg (fun q => q (of_decide_eq_true (b2i_1 h4)))]; first | rw [if_pos (by omega)] | rw [if_neg (by omega), if_pos (by omega)] | rw [if_neg (by omega), if_neg (by omega), if_pos (by omega)] | rw [if_neg (by omega), if_neg (by omega), if_neg (by omega)])⟩) dX2_takeIn_88
        · skip
          refine r_aload_n C dX2_takeIn_60 rfl rfl ?_
          refine r_iconst C dX2_takeIn_61 ?_
          refine r_callU (as := [_]) (na := 1) (rest := []) C (mid_8 hy) (hp_8 _ _) rfl (c_fix_P S y hy 3) gX2_takeIn_X0_fix_u79X2 (by decide +kernel) (by decide) (by decide) rfl (Nat.le_of_ble_eq_true rfl) rfl dX2_takeIn_62 rfl (fun v1 S1 hp1 => ?_)
          obtain ⟨rfl, e9⟩ := hp1
          subst S1
          refine r_goto (tgt := 88) C dX2_takeIn_65 (by decide) ?_
          exact r_vret C Rr (⟨rfl, by unfold takeF; first | (exfalso; omega) | (rw [if_pos (of_decide_eq_false (b2i_0 h4))]; rfl) | (rw [if_neg (fun q => q (of_decide_eq_true (b2i_1 h4)))]; first | rw [if_pos (by omega)] | rw [if_neg (by omega), if_pos (by omega)] | rw [if_neg (by omega), if_neg (by omega), if_pos (by omega)] | rw [if_neg (by omega), if_neg (by omega), if_neg (by omega)])⟩) dX2_takeIn_88
    · skip
      refine r_aload_n C dX2_takeIn_23 rfl rfl ?_
      refine r_getf C (mid_8 hy) (hp_8 _ _) rfl 1 (by decide) in_X2_takeIn_X2 lk_X2_takeIn_77 (Or.inr sm_X2_takeIn_Plan_kind) rfl dX2_takeIn_24 ?_
      refine r_iconst C dX2_takeIn_27 ?_
      refine r_icmp_ne (tgt := 44) C dX2_takeIn_28 (by decide) (by omega) (by omega) (fun h28 => ?_) (fun h28 => ?_)
      · skip
        refine r_aload_n C dX2_takeIn_44 rfl rfl ?_
        refine r_getf C (mid_11 hc) (hp_11 _ _) rfl 1 (by decide) in_X2_takeIn_X3 lk_X2_takeIn_76 (Or.inr sm_X2_takeIn_PlannedClause_kind) rfl dX2_takeIn_45 ?_
        refine r_iconst C dX2_takeIn_48 ?_
        refine r_icmp_ne (tgt := 68) C dX2_takeIn_49 (by decide) (by omega) (by omega) (fun h49 => ?_) (fun h49 => ?_)
        · skip
          refine r_aload_n C dX2_takeIn_68 rfl rfl ?_
          refine r_getf C (mid_11 hc) (hp_11 _ _) rfl 1 (by decide) in_X2_takeIn_X3 lk_X2_takeIn_76 (Or.inr sm_X2_takeIn_PlannedClause_kind) rfl dX2_takeIn_69 ?_
          refine r_iconst C dX2_takeIn_72 ?_
          refine r_icmp_ne (tgt := 88) C dX2_takeIn_73 (by decide) (by omega) (by omega) (fun h73 => ?_) (fun h73 => ?_)
          · skip
            exact r_vret C Rr (⟨rfl, by unfold takeF; first | (exfalso; omega) | (rw [if_pos (of_decide_eq_false (b2i_0 h4))]; rfl) | (rw [if_neg (fun q => q (of_decide_eq_true (b2i_1 h4)))]; first | rw [if_pos (by omega)] | rw [if_neg (by omega), if_pos (by omega)] | rw [if_neg (by omega), if_neg (by omega), if_pos (by omega)] | rw [if_neg (by omega), if_neg (by omega), if_neg (by omega)])⟩) dX2_takeIn_88
          · skip
            refine r_aload_n C dX2_takeIn_76 rfl rfl ?_
            refine r_getf C (mid_8 hy) (hp_8 _ _) rfl 1 (by decide) in_X2_takeIn_X2 lk_X2_takeIn_77 (Or.inr sm_X2_takeIn_Plan_kind) rfl dX2_takeIn_77 ?_
            refine r_if_ne (tgt := 88) C dX2_takeIn_80 (by decide) (by omega) (fun h80 => ?_) (fun h80 => ?_)
            · skip
              exact r_vret C Rr (⟨rfl, by unfold takeF; first | (exfalso; omega) | (rw [if_pos (of_decide_eq_false (b2i_0 h4))]; rfl) | (rw [if_neg (fun q => q (of_decide_eq_true (b2i_1 h4)))]; first | rw [if_pos (by omega)] | rw [if_neg (by omega), if_pos (by omega)] | rw [if_neg (by omega), if_neg (by omega), if_pos (by omega)] | rw [if_neg (by omega), if_neg (by omega), if_neg (by omega)])⟩) dX2_takeIn_88
            · skip
              refine r_aload_n C dX2_takeIn_83 rfl rfl ?_
              refine r_iconst C dX2_takeIn_84 ?_
              refine r_callU (as := [_]) (na := 1) (rest := []) C (mid_8 hy) (hp_8 _ _) rfl (c_fix_P S y hy 4) gX2_takeIn_X0_fix_u79X2 (by decide +kernel) (by decide) (by decide) rfl (Nat.le_of_ble_eq_true rfl) rfl dX2_takeIn_85 rfl (fun v1 S1 hp1 => ?_)
              obtain ⟨rfl, e9⟩ := hp1
              subst S1
              exact r_vret C Rr (⟨rfl, by unfold takeF; first | (exfalso; omega) | (rw [if_pos (of_decide_eq_false (b2i_0 h4))]; rfl) | (rw [if_neg (fun q => q (of_decide_eq_true (b2i_1 h4)))]; first | rw [if_pos (by omega)] | rw [if_neg (by omega), if_pos (by omega)] | rw [if_neg (by omega), if_neg (by omega), if_pos (by omega)] | rw [if_neg (by omega), if_neg (by omega), if_neg (by omega)])⟩) dX2_takeIn_88
        · skip
          refine r_aload_n C dX2_takeIn_52 rfl rfl ?_
          refine r_getf C (mid_8 hy) (hp_8 _ _) rfl 1 (by decide) in_X2_takeIn_X2 lk_X2_takeIn_77 (Or.inr sm_X2_takeIn_Plan_kind) rfl dX2_takeIn_53 ?_
          refine r_iconst C dX2_takeIn_56 ?_
          refine r_icmp_ne (tgt := 68) C dX2_takeIn_57 (by decide) (by omega) (by omega) (fun h57 => ?_) (fun h57 => ?_)
          · skip
            refine r_aload_n C dX2_takeIn_68 rfl rfl ?_
            refine r_getf C (mid_11 hc) (hp_11 _ _) rfl 1 (by decide) in_X2_takeIn_X3 lk_X2_takeIn_76 (Or.inr sm_X2_takeIn_PlannedClause_kind) rfl dX2_takeIn_69 ?_
            refine r_iconst C dX2_takeIn_72 ?_
            refine r_icmp_ne (tgt := 88) C dX2_takeIn_73 (by decide) (by omega) (by omega) (fun h73 => ?_) (fun h73 => ?_)
            · skip
              exact r_vret C Rr (⟨rfl, by unfold takeF; first | (exfalso; omega) | (rw [if_pos (of_decide_eq_false (b2i_0 h4))]; rfl) | (rw [if_neg (fun q => q (of_decide_eq_true (b2i_1 h4)))]; first | rw [if_pos (by omega)] | rw [if_neg (by omega), if_pos (by omega)] | rw [if_neg (by omega), if_neg (by omega), if_pos (by omega)] | rw [if_neg (by omega), if_neg (by omega), if_neg (by omega)])⟩) dX2_takeIn_88
            · skip
              refine r_aload_n C dX2_takeIn_76 rfl rfl ?_
              refine r_getf C (mid_8 hy) (hp_8 _ _) rfl 1 (by decide) in_X2_takeIn_X2 lk_X2_takeIn_77 (Or.inr sm_X2_takeIn_Plan_kind) rfl dX2_takeIn_77 ?_
              refine r_if_ne (tgt := 88) C dX2_takeIn_80 (by decide) (by omega) (fun h80 => ?_) (fun h80 => ?_)
              · skip
                exact r_vret C Rr (⟨rfl, by unfold takeF; first | (exfalso; omega) | (rw [if_pos (of_decide_eq_false (b2i_0 h4))]; rfl) | (rw [if_neg (fun q => q (of_decide_eq_true (b2i_1 h4)))]; first | rw [if_pos (by omega)] | rw [if_neg (by omega), if_pos (by omega)] | rw [if_neg (by omega), if_neg (by omega), if_pos (by omega)] | rw [if_neg (by omega), if_neg (by omega), if_neg (by omega)])⟩) dX2_takeIn_88
              · skip
                refine r_aload_n C dX2_takeIn_83 rfl rfl ?_
                refine r_iconst C dX2_takeIn_84 ?_
                refine r_callU (as := [_]) (na := 1) (rest := []) C (mid_8 hy) (hp_8 _ _) rfl (c_fix_P S y hy 4) gX2_takeIn_X0_fix_u79X2 (by decide +kernel) (by decide) (by decide) rfl (Nat.le_of_ble_eq_true rfl) rfl dX2_takeIn_85 rfl (fun v1 S1 hp1 => ?_)
                obtain ⟨rfl, e9⟩ := hp1
                subst S1
                exact r_vret C Rr (⟨rfl, by unfold takeF; first | (exfalso; omega) | (rw [if_pos (of_decide_eq_false (b2i_0 h4))]; rfl) | (rw [if_neg (fun q => q (of_decide_eq_true (b2i_1 h4)))]; first | rw [if_pos (by omega)] | rw [if_neg (by omega), if_pos (by omega)] | rw [if_neg (by omega), if_neg (by omega), if_pos (by omega)] | rw [if_neg (by omega), if_neg (by omega), if_neg (by omega)])⟩) dX2_takeIn_88
          · skip
            refine r_aload_n C dX2_takeIn_60 rfl rfl ?_
            refine r_iconst C dX2_takeIn_61 ?_
            refine r_callU (as := [_]) (na := 1) (rest := []) C (mid_8 hy) (hp_8 _ _) rfl (c_fix_P S y hy 3) gX2_takeIn_X0_fix_u79X2 (by decide +kernel) (by decide) (by decide) rfl (Nat.le_of_ble_eq_true rfl) rfl dX2_takeIn_62 rfl (fun v1 S1 hp1 => ?_)
            obtain ⟨rfl, e9⟩ := hp1
            subst S1
            refine r_goto (tgt := 88) C dX2_takeIn_65 (by decide) ?_
            exact r_vret C Rr (⟨rfl, by unfold takeF; first | (exfalso; omega) | (rw [if_pos (of_decide_eq_false (b2i_0 h4))]; rfl) | (rw [if_neg (fun q => q (of_decide_eq_true (b2i_1 h4)))]; first | rw [if_pos (by omega)] | rw [if_neg (by omega), if_pos (by omega)] | rw [if_neg (by omega), if_neg (by omega), if_pos (by omega)] | rw [if_neg (by omega), if_neg (by omega), if_neg (by omega)])⟩) dX2_takeIn_88
      · skip
        refine r_aload_n C dX2_takeIn_31 rfl rfl ?_
        refine r_dup C rfl dX2_takeIn_32 ?_
        refine r_getf C (mid_8 hy) (hp_8 _ _) rfl 2 (by decide) in_X2_takeIn_X2 lk_X2_takeIn_78 (Or.inr sm_X2_takeIn_Plan_need) rfl dX2_takeIn_33 ?_
        refine r_iconst C dX2_takeIn_36 ?_
        refine r_isub C dX2_takeIn_37 ?_
        refine r_putf  C (mid_8 hy) (hp_8 _ _) rfl 2 (by decide) in_X2_takeIn_X2 lk_X2_takeIn_78 (Or.inr sm_X2_takeIn_Plan_need) tyX2 tyX2_ok nmX2 rfl (tyX2_ok 2 (by decide)) (fun _ => rfl) (fun _ => rfl) (Nat.le_of_ble_eq_true rfl) (hs_8_2 _ _ _) dX2_takeIn_38 ?_
        refine r_goto (tgt := 88) C dX2_takeIn_41 (by decide) ?_
        exact r_vret C Rr (⟨rfl, by unfold takeF; first | (exfalso; omega) | (rw [if_pos (of_decide_eq_false (b2i_0 h4))]; rfl) | (rw [if_neg (fun q => q (of_decide_eq_true (b2i_1 h4)))]; first | rw [if_pos (by omega)] | rw [if_neg (by omega), if_pos (by omega)] | rw [if_neg (by omega), if_neg (by omega), if_pos (by omega)] | rw [if_neg (by omega), if_neg (by omega), if_neg (by omega)])⟩) dX2_takeIn_88
  · skip
    refine r_aload_n C dX2_takeIn_7 rfl rfl ?_
    refine r_aload_n C dX2_takeIn_8 rfl rfl ?_
    refine r_callU (as := [_]) (na := 1) (rest := []) C (mid_8 hy) (hp_8 _ _) rfl (c_keep_P S y hy c hc (hR.2.2 y hy).2.1) gX2_takeIn_X0_keep_u72X2 (by decide +kernel) (by decide) (by decide) rfl (Nat.le_of_ble_eq_true rfl) rfl dX2_takeIn_9 rfl (fun v1 S1 hp1 => ?_)
    obtain ⟨rfl, e9⟩ := hp1
    subst S1
    refine r_goto (tgt := 88) C dX2_takeIn_12 (by decide) ?_
    exact r_vret C Rr (⟨rfl, by unfold takeF; first | (exfalso; omega) | (rw [if_pos (of_decide_eq_false (b2i_0 h4))]; rfl) | (rw [if_neg (fun q => q (of_decide_eq_true (b2i_1 h4)))]; first | rw [if_pos (by omega)] | rw [if_neg (by omega), if_pos (by omega)] | rw [if_neg (by omega), if_neg (by omega), if_pos (by omega)] | rw [if_neg (by omega), if_neg (by omega), if_neg (by omega)])⟩) dX2_takeIn_88
theorem plF_stop {y B i : Nat} {S : ST} (h : iv (plF y B i S) 8 1 y = 3 ∨ iv (plF y B i S) 8 1 y = 4) : ∀ n, i ≤ n → plF y B i S = plF y B n S := by
  intro n hn
  induction n with
  | zero => rw [show i = 0 by omega]
  | succ n ih =>
    by_cases q : i = n + 1
    · rw [q]
    · have e := ih (by omega)
      have : plF y B (n + 1) S = plF y B n S := if_pos (Or.inl (e ▸ h))
      rw [this, e]

set_option maxHeartbeats 4000000 in
set_option maxRecDepth 100000 in
theorem c_Pmake (S : ST) (y : Nat) (hy : y < 2) (hR : RI S) (hW : IW S) (hQ : IQ S) : Ct yX2_make wsX2_make 4 [vr (some (8, y)), vr (some (3, 0)), vr (some (1, 0))] S (fun v S1 => v = none ∧ S1 = pmkF y S) := by
  refine Ct.of (nL := 7) (by decide) rfl (Nat.le_of_ble_eq_true rfl) (by decide) (fun X C Rr hnL => ?_)
  have hn : ∀ i, i < 7 → i < X.2.2.2.2.2 := fun i h => by rw [hnL]; exact h
  obtain ⟨hq1, hq2, hq3, hq4⟩ := id hQ
  have hB : bset (thr S) 40 < 2 ^ 40 := bset40 _
  refine r_aload_n C dX2_make_0 rfl rfl ?_
  refine r_callV (as := []) (na := 0) (rest := []) C mid_1 (hp_1 _) rfl (c_allThere S hW) gX2_make_X7_allThere (by decide +kernel) (by decide) (by decide) rfl (Nat.le_of_ble_eq_true rfl) rfl dX2_make_1 rfl (fun v1 S1 hp1 => ?_)
  obtain ⟨rfl, e9⟩ := hp1
  subst S1
  refine r_lstore_n (lv' := [(3, _), (0, _), (1, _), (2, _)]) C dX2_make_4 rfl (hn _ (by decide)) rfl ?_
  refine r_aload_n C dX2_make_5 rfl rfl ?_
  refine r_aload_n C dX2_make_6 rfl rfl ?_
  refine r_getf C mid_3 (hp_3 _) rfl 1 (by decide) in_X2_make_X5 lk_X2_make_26 (Or.inl rfl) rfl dX2_make_7 ?_
  refine r_aload_n C dX2_make_10 rfl rfl ?_
  refine r_getf C mid_3 (hp_3 _) rfl 2 (by decide) in_X2_make_X5 lk_X2_make_32 (Or.inl rfl) rfl dX2_make_11 ?_
  refine r_lload_n C dX2_make_14 rfl rfl ?_
  refine r_callU (as := [_, _, _]) (na := 3) (rest := []) C (mid_8 hy) (hp_8 _ _) rfl (c_restart_P S y hy _ _ (bset (thr S) 40)) gX2_make_X0_restart_u35X2 (by decide +kernel) (by decide) (by decide) rfl (Nat.le_of_ble_eq_true rfl) rfl dX2_make_15 rfl (fun v1 S1 hp1 => ?_)
  obtain ⟨rfl, e9⟩ := hp1
  subst S1
  change At X _ _ _ _ _ (restartF S 8 y (iv S 3 1 0) (iv S 3 2 0) (bset (thr S) 40))
  have hRa : RI (restartF S 8 y (iv S 3 1 0) (iv S 3 2 0) (bset (thr S) 40)) := restartF_RI (Or.inr rfl) hR (by omega) (by omega) hB
  have hFa : FM (PR y) (QR y) S (restartF S 8 y (iv S 3 1 0) (iv S 3 2 0) (bset (thr S) 40)) := restartF_FM (Or.inl ⟨rfl, rfl⟩)
  have hna : 0 ≤ iv (restartF S 8 y (iv S 3 1 0) (iv S 3 2 0) (bset (thr S) 40)) 8 2 y := by rw [show iv (restartF S 8 y (iv S 3 1 0) (iv S 3 2 0) (bset (thr S) 40)) 8 2 y = iv S 3 2 0 by simp [restartF, iv, si, sj, up3]]; omega
  generalize hSa : restartF S 8 y (iv S 3 1 0) (iv S 3 2 0) (bset (thr S) 40) = Sa at hRa hFa hna ⊢
  refine r_iconst C dX2_make_18 ?_
  refine r_istore (lv' := [(5, _), (3, _), (0, _), (1, _), (2, _)]) C dX2_make_19 (hn _ (by decide)) rfl ?_
  have loop21 : ∀ (m i : Nat) (hm : 6 - i < m) (hi : i ≤ 5), At X 0 0 21 [(0, vr (some (8, y))), (1, vr (some (3, 0))), (2, vr (some (1, 0))), (3, vl ((bset (thr S) 40) : Int)), (5, vi (i : Int))] [] (plF y (bset (thr S) 40) i Sa) := by
    intro kf
    induction kf with
    | zero => intro i hm hi; exact absurd hm (by omega)
    | succ kf ih =>
      intro i hm hi
      obtain ⟨hRi, hFi0, -⟩ := plF_ok (B := (bset (thr S) 40)) hy hB hRa (hFa.fr.iq hQ) hna i hi
      have hFi := hFa.tr hFi0
      have hQi := hFi.fr.iq hQ
      have hWi := hFi.fr.iw hW
      have hki := (hRi.2.2 y hy).1.1
      refine r_iload C dX2_make_21 rfl ?_
      refine r_aload_n C dX2_make_23 rfl rfl ?_
      refine r_getf C (mid_8 hy) (hp_8 _ _) rfl 8 (by decide) in_X2_make_X2 lk_X2_make_11 (Or.inl rfl) rfl dX2_make_24 ?_
      refine r_alen C (mid_10 hy) (Or.inr ⟨_, (hp_10 _ _)⟩) (fun _ => ⟨_, rfl⟩) dX2_make_27 ?_
      refine r_icmp_ge (tgt := 92) C dX2_make_28 (by decide) (by omega) (by omega) (fun h28 => ?_) (fun h28 => ?_)
      · skip
        have hT : (plF y (bset (thr S) 40) i Sa) = plF y (bset (thr S) 40) 5 Sa := by rw [show i = 5 by omega]
        rw [hT] at hRi hFi ⊢
        generalize hSb : plF y (bset (thr S) 40) 5 Sa = Sb at hRi hFi ⊢
        refine r_aload_n C dX2_make_92 rfl rfl ?_
        refine r_aload_n C dX2_make_93 rfl rfl ?_
        refine r_getf C (mid_8 hy) (hp_8 _ _) rfl 3 (by decide) in_X2_make_X2 lk_X2_make_55 (Or.inr sm_X2_make_Plan_size) rfl dX2_make_94 ?_
        refine r_callU (as := [_]) (na := 1) (rest := []) C (mid_8 hy) (hp_8 _ _) rfl (c_settleSome_P Sb y hy _ (hRi.2.2 y hy).2.1 (hRi.2.2 y hy).1) gX2_make_X0_settleSome_u58X2 (by decide +kernel) (by decide) (by decide) rfl (Nat.le_of_ble_eq_true rfl) rfl dX2_make_97 rfl (fun v1 S1 hp1 => ?_)
        obtain ⟨rfl, e9⟩ := hp1
        subst S1
        change At X _ _ _ _ _ (settleSomeF Sb 8 y (iv Sb 8 3 y))
        have hRc : RI (settleSomeF Sb 8 y (iv Sb 8 3 y)) := settleSomeF_RI (Or.inr ⟨rfl, hy⟩) hRi
        generalize hSc : settleSomeF Sb 8 y (iv Sb 8 3 y) = Sc at hRc ⊢
        refine r_aload_n C dX2_make_100 rfl rfl ?_
        refine r_callU (as := []) (na := 0) (rest := []) C (mid_8 hy) (hp_8 _ _) rfl (c_settleEmpty_P Sc y hy (hRc.2.2 y hy).1 (hRc.2.2 y hy).2.1) gX2_make_X0_settleEmpty_u62X2 (by decide +kernel) (by decide) (by decide) rfl (Nat.le_of_ble_eq_true rfl) rfl dX2_make_101 rfl (fun v1 S1 hp1 => ?_)
        obtain ⟨rfl, e9⟩ := hp1
        subst S1
        change At X _ _ _ _ _ (settleEmptyF Sc 8 y)
        have hRd : RI (settleEmptyF Sc 8 y) := settleEmptyF_RI (Or.inr ⟨rfl, hy⟩) hRc
        generalize hSd : settleEmptyF Sc 8 y = Sd at hRd ⊢
        refine r_aload_n C dX2_make_104 rfl rfl ?_
        refine r_callU (as := []) (na := 0) (rest := []) C (mid_8 hy) (hp_8 _ _) rfl (c_appraise_P Sd y hy (hRd.2.2 y hy).1 (fun p hp => (hRd.2.1 p hp).1.2.2.1) (hRd.2.2 y hy).2) gX2_make_X0_appraise_u65X2 (by decide +kernel) (by decide) (by decide) rfl (Nat.le_of_ble_eq_true rfl) rfl dX2_make_105 rfl (fun v1 S1 hp1 => ?_)
        obtain ⟨rfl, e9⟩ := hp1
        subst S1
        change At X _ _ _ _ _ (appraiseP Sd y)
        have hRf : RI (appraiseP Sd y) := appraiseP_RI hy hRd
        generalize hSf : appraiseP Sd y = Sf at hRf ⊢
        refine r_aload_n C dX2_make_108 rfl rfl ?_
        refine r_callU (as := []) (na := 0) (rest := []) C (mid_8 hy) (hp_8 _ _) rfl (c_order_P Sf y hy (hRf.2.2 y hy).1.1 (fun p hp => (hRf.2.1 p hp).1.2.2.1) (hRf.2.2 y hy).2) gX2_make_X0_order_u68X2 (by decide +kernel) (by decide) (by decide) rfl (Nat.le_of_ble_eq_true rfl) rfl dX2_make_109 rfl (fun v1 S1 hp1 => ?_)
        obtain ⟨rfl, e9⟩ := hp1
        subst S1
        exact r_vret C Rr (⟨rfl, by subst hSf; subst hSd; subst hSc; subst hSb; subst hSa; rfl⟩) dX2_make_112
      · skip
        refine r_aload_n C dX2_make_31 rfl rfl ?_
        refine r_callU (as := []) (na := 0) (rest := []) C (mid_8 hy) (hp_8 _ _) rfl (c_isFixed_P (plF y (bset (thr S) 40) i Sa) y hy (hRi.2.2 y hy).1) gX2_make_X0_isFixed_u39X2 (by decide +kernel) (by decide) (by decide) rfl (Nat.le_of_ble_eq_true rfl) rfl dX2_make_32 rfl (fun v1 S1 hp1 => ?_)
        obtain ⟨rfl, e9⟩ := hp1
        subst S1
        refine r_if_ne (tgt := 92) C dX2_make_35 (by decide) (by have := b2i_01 (decide (iv (plF y (bset (thr S) 40) i Sa) 8 1 y = 3 ∨ iv (plF y (bset (thr S) 40) i Sa) 8 1 y = 4)); omega) (fun h35 => ?_) (fun h35 => ?_)
        · skip
          have hT : (plF y (bset (thr S) 40) i Sa) = plF y (bset (thr S) 40) 5 Sa := plF_stop (of_decide_eq_true (b2i_1 h35)) 5 hi
          rw [hT] at hRi hFi ⊢
          generalize hSb : plF y (bset (thr S) 40) 5 Sa = Sb at hRi hFi ⊢
          refine r_aload_n C dX2_make_92 rfl rfl ?_
          refine r_aload_n C dX2_make_93 rfl rfl ?_
          refine r_getf C (mid_8 hy) (hp_8 _ _) rfl 3 (by decide) in_X2_make_X2 lk_X2_make_55 (Or.inr sm_X2_make_Plan_size) rfl dX2_make_94 ?_
          refine r_callU (as := [_]) (na := 1) (rest := []) C (mid_8 hy) (hp_8 _ _) rfl (c_settleSome_P Sb y hy _ (hRi.2.2 y hy).2.1 (hRi.2.2 y hy).1) gX2_make_X0_settleSome_u58X2 (by decide +kernel) (by decide) (by decide) rfl (Nat.le_of_ble_eq_true rfl) rfl dX2_make_97 rfl (fun v1 S1 hp1 => ?_)
          obtain ⟨rfl, e9⟩ := hp1
          subst S1
          change At X _ _ _ _ _ (settleSomeF Sb 8 y (iv Sb 8 3 y))
          have hRc : RI (settleSomeF Sb 8 y (iv Sb 8 3 y)) := settleSomeF_RI (Or.inr ⟨rfl, hy⟩) hRi
          generalize hSc : settleSomeF Sb 8 y (iv Sb 8 3 y) = Sc at hRc ⊢
          refine r_aload_n C dX2_make_100 rfl rfl ?_
          refine r_callU (as := []) (na := 0) (rest := []) C (mid_8 hy) (hp_8 _ _) rfl (c_settleEmpty_P Sc y hy (hRc.2.2 y hy).1 (hRc.2.2 y hy).2.1) gX2_make_X0_settleEmpty_u62X2 (by decide +kernel) (by decide) (by decide) rfl (Nat.le_of_ble_eq_true rfl) rfl dX2_make_101 rfl (fun v1 S1 hp1 => ?_)
          obtain ⟨rfl, e9⟩ := hp1
          subst S1
          change At X _ _ _ _ _ (settleEmptyF Sc 8 y)
          have hRd : RI (settleEmptyF Sc 8 y) := settleEmptyF_RI (Or.inr ⟨rfl, hy⟩) hRc
          generalize hSd : settleEmptyF Sc 8 y = Sd at hRd ⊢
          refine r_aload_n C dX2_make_104 rfl rfl ?_
          refine r_callU (as := []) (na := 0) (rest := []) C (mid_8 hy) (hp_8 _ _) rfl (c_appraise_P Sd y hy (hRd.2.2 y hy).1 (fun p hp => (hRd.2.1 p hp).1.2.2.1) (hRd.2.2 y hy).2) gX2_make_X0_appraise_u65X2 (by decide +kernel) (by decide) (by decide) rfl (Nat.le_of_ble_eq_true rfl) rfl dX2_make_105 rfl (fun v1 S1 hp1 => ?_)
          obtain ⟨rfl, e9⟩ := hp1
          subst S1
          change At X _ _ _ _ _ (appraiseP Sd y)
          have hRf : RI (appraiseP Sd y) := appraiseP_RI hy hRd
          generalize hSf : appraiseP Sd y = Sf at hRf ⊢
          refine r_aload_n C dX2_make_108 rfl rfl ?_
          refine r_callU (as := []) (na := 0) (rest := []) C (mid_8 hy) (hp_8 _ _) rfl (c_order_P Sf y hy (hRf.2.2 y hy).1.1 (fun p hp => (hRf.2.1 p hp).1.2.2.1) (hRf.2.2 y hy).2) gX2_make_X0_order_u68X2 (by decide +kernel) (by decide) (by decide) rfl (Nat.le_of_ble_eq_true rfl) rfl dX2_make_109 rfl (fun v1 S1 hp1 => ?_)
          obtain ⟨rfl, e9⟩ := hp1
          subst S1
          exact r_vret C Rr (⟨rfl, by subst hSf; subst hSd; subst hSc; subst hSb; subst hSa; rfl⟩) dX2_make_112
        · skip
          refine r_aload_n C dX2_make_38 rfl rfl ?_
          by_cases hin : (i : Int) < iv (plF y (bset (thr S) 40) i Sa) 3 3 0
          · skip
            refine r_iload C dX2_make_39 rfl ?_
            refine r_callV (as := [_]) (na := 1) (rest := []) C mid_3 (hp_3 _) rfl (c_toldAt (plF y (bset (thr S) 40) i Sa) (i : Int) (by omega) hQi.1) gX2_make_X5_toldAt (by decide +kernel) (by decide) (by decide) rfl (Nat.le_of_ble_eq_true rfl) rfl dX2_make_41 rfl (fun v1 S1 hp1 => ?_)
            obtain ⟨rfl, e9⟩ := hp1
            subst S1
            have hnf := of_decide_eq_false (b2i_0 h35)
            refine At_val (v' := vr (some (5, i))) (by rw [if_pos (by omega)]; rfl) ?_
            refine r_astore (lv' := [(6, _), (0, _), (1, _), (2, _), (3, _), (5, _)]) C dX2_make_44 (hn _ (by decide)) rfl ?_
            refine r_aload C dX2_make_46 rfl ?_
            refine r_ifnull (tgt := 86) C dX2_make_48 (by decide) (fun h => by cases h) (fun i48 h48 => ?_)
            clear h48
            refine r_aload_n C dX2_make_51 rfl rfl ?_
            refine r_getf C (mid_8 hy) (hp_8 _ _) rfl 8 (by decide) in_X2_make_X2 lk_X2_make_11 (Or.inl rfl) rfl dX2_make_52 ?_
            refine r_iload C dX2_make_55 rfl ?_
            refine r_aald (j := _) C (mid_10 hy) (hp_10 _ _) (fun _ => rfl) (rfl) (by omega) (by decide) dX2_make_57 ?_
            refine r_ifnull (tgt := 86) C dX2_make_58 (by decide) (fun h => by cases h) (fun i58 h58 => ?_)
            clear h58
            refine r_aload_n C dX2_make_61 rfl rfl ?_
            refine r_getf C (mid_8 hy) (hp_8 _ _) rfl 8 (by decide) in_X2_make_X2 lk_X2_make_11 (Or.inl rfl) rfl dX2_make_62 ?_
            refine r_iload C dX2_make_65 rfl ?_
            refine r_aald (j := _) C (mid_10 hy) (hp_10 _ _) (fun _ => rfl) (rfl) (by omega) (by decide) dX2_make_67 ?_
            refine r_aload C dX2_make_68 rfl ?_
            refine r_aload_n C dX2_make_70 rfl rfl ?_
            refine r_lload_n C dX2_make_71 rfl rfl ?_
            refine r_callV (as := [_, _, _]) (na := 3) (rest := []) C (mid_11 (by omega)) (hp_11 _ _) rfl (c_Cmake (plF y (bset (thr S) 40) i Sa) (5 * y + i) i (bset (thr S) 40) (by omega) (by omega) hB hRi hWi hQi) gX2_make_X3_make (by decide +kernel) (by decide) (by decide) rfl (Nat.le_of_ble_eq_true rfl) rfl dX2_make_72 rfl (fun v1 S1 hp1 => ?_)
            obtain ⟨rfl, e9⟩ := hp1
            subst S1
            obtain ⟨hRc, hFc⟩ := cmkF_ok (S := (plF y (bset (thr S) 40) i Sa)) (y := 5 * y + i) (k := i) (B := (bset (thr S) 40)) (by omega) (by omega) hB hRi hQi
            refine r_aload_n C dX2_make_75 rfl rfl ?_
            refine r_aload_n C dX2_make_76 rfl rfl ?_
            refine r_getf C (mid_8 hy) (hp_8 _ _) rfl 8 (by decide) in_X2_make_X2 lk_X2_make_11 (Or.inl rfl) rfl dX2_make_77 ?_
            refine r_iload C dX2_make_80 rfl ?_
            refine r_aald (j := _) C (mid_10 hy) (hp_10 _ _) (fun _ => rfl) (rfl) (by omega) (by decide) dX2_make_82 ?_
            refine r_callV (as := [_]) (na := 1) (rest := []) C (mid_8 hy) (hp_8 _ _) rfl (c_takeIn (cmkF (5 * y + i) i (bset (thr S) 40) (plF y (bset (thr S) 40) i Sa)) y (5 * y + i) hy (by omega) hRc) gX2_make_X2_takeIn (by decide +kernel) (by decide) (by decide) rfl (Nat.le_of_ble_eq_true rfl) rfl dX2_make_83 rfl (fun v1 S1 hp1 => ?_)
            obtain ⟨rfl, e9⟩ := hp1
            subst S1
            have e1 : plF y (bset (thr S) 40) (i + 1) Sa = takeF (cmkF (5 * y + i) i (bset (thr S) 40) (plF y (bset (thr S) 40) i Sa)) y (5 * y + i) := if_neg (fun q => q.elim hnf (fun q => q hin))
            refine r_iinc (lv' := [(5, _), (6, _), (0, _), (1, _), (2, _), (3, _)]) C dX2_make_86 rfl (hn _ (by decide)) rfl ?_
            refine r_goto (tgt := 21) C dX2_make_89 (by decide) ?_
            have ihn := ih (i + 1) (by omega) (by omega)
            rw [e1] at ihn
            exact At_lv (by simp) ihn
          · skip
            refine r_iload C dX2_make_39 rfl ?_
            refine r_callV (as := [_]) (na := 1) (rest := []) C mid_3 (hp_3 _) rfl (c_toldAt (plF y (bset (thr S) 40) i Sa) (i : Int) (by omega) hQi.1) gX2_make_X5_toldAt (by decide +kernel) (by decide) (by decide) rfl (Nat.le_of_ble_eq_true rfl) rfl dX2_make_41 rfl (fun v1 S1 hp1 => ?_)
            obtain ⟨rfl, e9⟩ := hp1
            subst S1
            have hnf := of_decide_eq_false (b2i_0 h35)
            refine At_val (v' := vr none) (by rw [if_neg (by omega)]) ?_
            refine r_astore (lv' := [(6, _), (0, _), (1, _), (2, _), (3, _), (5, _)]) C dX2_make_44 (hn _ (by decide)) rfl ?_
            refine r_aload C dX2_make_46 rfl ?_
            refine r_ifnull (tgt := 86) C dX2_make_48 (by decide) (fun h48 => ?_) (fun i48 h48 => by cases h48)
            clear h48
            have e1 : plF y (bset (thr S) 40) (i + 1) Sa = (plF y (bset (thr S) 40) i Sa) := if_pos (Or.inr hin)
            refine r_iinc (lv' := [(5, _), (6, _), (0, _), (1, _), (2, _), (3, _)]) C dX2_make_86 rfl (hn _ (by decide)) rfl ?_
            refine r_goto (tgt := 21) C dX2_make_89 (by decide) ?_
            have ihn := ih (i + 1) (by omega) (by omega)
            rw [e1] at ihn
            exact At_lv (by simp) ihn
  exact At_lv (by simp) (loop21 7 0 (by omega) (by omega))
set_option maxHeartbeats 4000000 in
set_option maxRecDepth 100000 in
theorem c_plannedAt (S : ST) (y : Nat) (d : Int) (hy : y < 2) (hd : -2147483648 ≤ d ∧ d < 2147483648) (hR : RI S) : Ct yX2_plannedAt wsX2_plannedAt 1 [vr (some (8, y)), vi d] S (fun v S1 => v = some (vr (if 0 ≤ d ∧ d < iv S 8 3 y then some (11, 5 * y + pa S 9 y d.toNat % 5) else none)) ∧ S1 = S) := by
  refine Ct.of (nL := 3) (by decide) rfl (Nat.le_of_ble_eq_true rfl) (by decide) (fun X C Rr hnL => ?_)
  have hn : ∀ i, i < 3 → i < X.2.2.2.2.2 := fun i h => by rw [hnL]; exact h
  obtain ⟨hz, hps⟩ := id (hR.2.2 y hy).2
  refine r_aload_n C dX2_plannedAt_0 rfl rfl ?_
  by_cases hin : 0 ≤ d ∧ d < iv S 8 3 y
  · skip
    refine r_iload_n C dX2_plannedAt_1 rfl rfl ?_
    refine r_callU (as := [_]) (na := 1) (rest := []) C (mid_8 hy) (hp_8 _ _) rfl (c_partAt_P S y hy d hd hz) gX2_plannedAt_X0_partAt_u82X2 (by decide +kernel) (by decide) (by decide) rfl (Nat.le_of_ble_eq_true rfl) rfl dX2_plannedAt_2 rfl (fun v1 S1 hp1 => ?_)
    obtain ⟨rfl, e9⟩ := hp1
    subst S1
    have hpi := hps d.toNat (by omega)
    refine At_val (v' := vr (some (11, pa S 9 y d.toNat))) (by rw [if_pos hin, hpi.1]; rfl) ?_
    refine r_astore_n (lv' := [(2, _), (0, _), (1, _)]) C dX2_plannedAt_5 rfl (hn _ (by decide)) rfl ?_
    refine r_aload_n C dX2_plannedAt_6 rfl rfl ?_
    refine r_ifnull (tgt := 29) C dX2_plannedAt_7 (by decide) (fun h => by cases h) (fun i7 h7 => ?_)
    clear h7
    refine r_aload_n C dX2_plannedAt_10 rfl rfl ?_
    refine r_getf C (mid_11 hpi.2) (hp_11 _ _) rfl 5 (by decide) in_X2_plannedAt_X3 lk_X2_plannedAt_86 (Or.inl rfl) rfl dX2_plannedAt_11 ?_
    refine r_if_lt (tgt := 29) C dX2_plannedAt_14 (by decide) (by omega) (fun h14 => ?_) (fun h14 => ?_)
    · exact absurd h14 (by omega)
    refine r_aload_n C dX2_plannedAt_17 rfl rfl ?_
    refine r_getf C (mid_11 hpi.2) (hp_11 _ _) rfl 5 (by decide) in_X2_plannedAt_X3 lk_X2_plannedAt_86 (Or.inl rfl) rfl dX2_plannedAt_18 ?_
    refine r_aload_n C dX2_plannedAt_21 rfl rfl ?_
    refine r_getf C (mid_8 hy) (hp_8 _ _) rfl 8 (by decide) in_X2_plannedAt_X2 lk_X2_plannedAt_11 (Or.inl rfl) rfl dX2_plannedAt_22 ?_
    refine r_alen C (mid_10 hy) (Or.inr ⟨_, (hp_10 _ _)⟩) (fun _ => ⟨_, rfl⟩) dX2_plannedAt_25 ?_
    refine r_icmp_lt (tgt := 31) C dX2_plannedAt_26 (by decide) (by omega) (by omega) (fun h26 => ?_) (fun h26 => ?_)
    · skip
      refine r_aload_n C dX2_plannedAt_31 rfl rfl ?_
      refine r_getf C (mid_8 hy) (hp_8 _ _) rfl 8 (by decide) in_X2_plannedAt_X2 lk_X2_plannedAt_11 (Or.inl rfl) rfl dX2_plannedAt_32 ?_
      refine r_aload_n C dX2_plannedAt_35 rfl rfl ?_
      refine r_getf C (mid_11 hpi.2) (hp_11 _ _) rfl 5 (by decide) in_X2_plannedAt_X3 lk_X2_plannedAt_86 (Or.inl rfl) rfl dX2_plannedAt_36 ?_
      refine r_aald (j := _) C (mid_10 hy) (hp_10 _ _) (fun _ => rfl) (rfl) (by omega) (by decide) dX2_plannedAt_39 ?_
      exact r_aret C Rr (⟨by rw [if_pos hin], rfl⟩) dX2_plannedAt_40
    · exact absurd h26 (by omega)
  · skip
    refine r_iload_n C dX2_plannedAt_1 rfl rfl ?_
    refine r_callU (as := [_]) (na := 1) (rest := []) C (mid_8 hy) (hp_8 _ _) rfl (c_partAt_P S y hy d hd hz) gX2_plannedAt_X0_partAt_u82X2 (by decide +kernel) (by decide) (by decide) rfl (Nat.le_of_ble_eq_true rfl) rfl dX2_plannedAt_2 rfl (fun v1 S1 hp1 => ?_)
    obtain ⟨rfl, e9⟩ := hp1
    subst S1
    refine At_val (v' := vr none) (by rw [if_neg hin]) ?_
    refine r_astore_n (lv' := [(2, _), (0, _), (1, _)]) C dX2_plannedAt_5 rfl (hn _ (by decide)) rfl ?_
    refine r_aload_n C dX2_plannedAt_6 rfl rfl ?_
    refine r_ifnull (tgt := 29) C dX2_plannedAt_7 (by decide) (fun h7 => ?_) (fun i7 h7 => by cases h7)
    clear h7
    refine r_null C dX2_plannedAt_29 ?_
    exact r_aret C Rr (⟨by rw [if_neg hin], rfl⟩) dX2_plannedAt_30
set_option maxHeartbeats 4000000 in
set_option maxRecDepth 100000 in
theorem c_Rrestart (S : ST) (hR : RI S) (hW : IW S) (hQ : IQ S) : Ct yX6_restart wsX6_restart 5 [vr (some (15, 0)), vr (some (3, 0)), vr (some (1, 0))] S (fun v S1 => v = some (vi (iv (pmkF 1 S) 8 6 1)) ∧ S1 = si (si (si (pmkF 1 S) 7 0 1 0) 15 2 0 1) 15 3 0 (-1)) := by
  refine Ct.of (nL := 3) (by decide) rfl (Nat.le_of_ble_eq_true rfl) (by decide) (fun X C Rr hnL => ?_)
  have hn : ∀ i, i < 3 → i < X.2.2.2.2.2 := fun i h => by rw [hnL]; exact h
  refine r_aload_n C dX6_restart_0 rfl rfl ?_
  refine r_getf C mid_15 (hp_15 _) rfl 1 (by decide) in_X6_restart_X6 lk_X6_restart_23 (Or.inl rfl) rfl dX6_restart_1 ?_
  refine r_aload_n C dX6_restart_4 rfl rfl ?_
  refine r_aload_n C dX6_restart_5 rfl rfl ?_
  refine r_callV (as := [_, _]) (na := 2) (rest := []) C (mid_8 (by decide)) (hp_8 _ _) rfl (c_Pmake S 1 (by decide) hR hW hQ) gX6_restart_X2_make (by decide +kernel) (by decide) (by decide) rfl (Nat.le_of_ble_eq_true rfl) rfl dX6_restart_6 rfl (fun v1 S1 hp1 => ?_)
  obtain ⟨rfl, e9⟩ := hp1
  subst S1
  refine r_aload_n C dX6_restart_9 rfl rfl ?_
  refine r_getf C mid_15 (hp_15 _) rfl 0 (by decide) in_X6_restart_X6 lk_X6_restart_12 (Or.inl rfl) rfl dX6_restart_10 ?_
  refine r_iconst C dX6_restart_13 ?_
  refine r_putf  C (mid_7 (by decide)) (hp_7 _ _) rfl 0 (by decide) in_X6_restart_X8 lk_X6_restart_31 (Or.inl rfl) tyX8 tyX8_ok nmX8 rfl (tyX8_ok 0 (by decide)) (fun _ => rfl) (fun _ => rfl) (Nat.le_of_ble_eq_true rfl) (hs_7_0 _ _ _) dX6_restart_14 ?_
  refine r_aload_n C dX6_restart_17 rfl rfl ?_
  refine r_iconst C dX6_restart_18 ?_
  refine r_putf  C mid_15 (hp_15 _) rfl 2 (by decide) in_X6_restart_X6 lk_X6_restart_35 (Or.inl rfl) tyX6 tyX6_ok nmX6 rfl (tyX6_ok 2 (by decide)) (fun _ => rfl) (fun _ => rfl) (Nat.le_of_ble_eq_true rfl) (hs_15_2 _ _) dX6_restart_19 ?_
  refine r_aload_n C dX6_restart_22 rfl rfl ?_
  refine r_iconst C dX6_restart_23 ?_
  refine r_putf  C mid_15 (hp_15 _) rfl 3 (by decide) in_X6_restart_X6 lk_X6_restart_39 (Or.inl rfl) tyX6 tyX6_ok nmX6 rfl (tyX6_ok 3 (by decide)) (fun _ => rfl) (fun _ => rfl) (Nat.le_of_ble_eq_true rfl) (hs_15_3 _ _) dX6_restart_24 ?_
  refine r_aload_n C dX6_restart_27 rfl rfl ?_
  refine r_getf C mid_15 (hp_15 _) rfl 1 (by decide) in_X6_restart_X6 lk_X6_restart_23 (Or.inl rfl) rfl dX6_restart_28 ?_
  refine r_getf C (mid_8 (by decide)) (hp_8 _ _) rfl 6 (by decide) in_X6_restart_X2 lk_X6_restart_42 (Or.inr sm_X6_restart_Plan_estimate) rfl dX6_restart_31 ?_
  exact r_iret C Rr (⟨rfl, rfl⟩) dX6_restart_34
def advF (d : Int) (S : ST) : Int × ST :=
  if 40 ≤ max d (iv S 15 3 0 + 1) then (-1, S) else
  if 40 ≤ (plSk 1 (max d (iv S 15 3 0 + 1)).toNat S).1 then (-1, (plSk 1 (max d (iv S 15 3 0 + 1)).toNat S).2) else
  (((plSk 1 (max d (iv S 15 3 0 + 1)).toNat S).1 : Nat), si (plSk 1 (max d (iv S 15 3 0 + 1)).toNat S).2 15 3 0 ((plSk 1 (max d (iv S 15 3 0 + 1)).toNat S).1 : Nat))
theorem plSk_le {S : ST} {y d : Nat} (hd : d < 40) (hR : RI S) (hy : y < 2) : (plSk y d S).1 ≤ 40 := by
  unfold plSk
  split
  · have := (hR.2.2 y hy).1.2.2.2.1
    show (iv S 8 7 y).toNat ≤ 40
    omega
  · exact (grpSk_inv (t := 8) (sk := psk y) (pl := plP y) (y := y) (I := fun q => RI q ∧ RS S q) hd (fun j w s _ hw hs => clSk_inv hw hs) ⟨hR, RS.rf S⟩).2

set_option maxHeartbeats 4000000 in
set_option maxRecDepth 100000 in
theorem c_advance (S : ST) (d : Int) (hd : 0 ≤ d ∧ d < 40) (hR : RI S) (hg : -1 ≤ iv S 15 3 0 ∧ iv S 15 3 0 ≤ 39) : Ct yX6_advance wsX6_advance 9 [vr (some (15, 0)), vi d] S (fun v S1 => v = some (vi (advF d S).1) ∧ S1 = (advF d S).2) := by
  refine Ct.of (nL := 4) (by decide) rfl (Nat.le_of_ble_eq_true rfl) (by decide) (fun X C Rr hnL => ?_)
  have hn : ∀ i, i < 4 → i < X.2.2.2.2.2 := fun i h => by rw [hnL]; exact h
  refine r_iload_n C dX6_advance_0 rfl rfl ?_
  refine r_aload_n C dX6_advance_1 rfl rfl ?_
  refine r_getf C mid_15 (hp_15 _) rfl 3 (by decide) in_X6_advance_X6 lk_X6_advance_39 (Or.inl rfl) rfl dX6_advance_2 ?_
  refine r_iconst C dX6_advance_5 ?_
  refine r_iadd C dX6_advance_6 ?_
  refine r_mmax C (by decide) lk_X6_advance_45 st_X6_advance_Mmax ini_X6_advance_Math co_X6_advance_Mmax (by omega) (by omega) (Nat.le_of_ble_eq_true rfl) dX6_advance_7 ?_
  refine r_istore_n (lv' := [(2, _), (0, _), (1, _)]) C dX6_advance_10 rfl (hn _ (by decide)) rfl ?_
  refine r_iload_n C dX6_advance_11 rfl rfl ?_
  refine r_bipush C dX6_advance_12 (by decide) ?_
  refine r_icmp_lt (tgt := 22) C dX6_advance_14 (by decide) (by omega) (by omega) (fun h14 => ?_) (fun h14 => ?_)
  · skip
    have hsl := plSk_le (S := S) (y := 1) (d := (max d (iv S 15 3 0 + 1)).toNat) (by omega) hR (by decide)
    refine r_aload_n C dX6_advance_22 rfl rfl ?_
    refine r_getf C mid_15 (hp_15 _) rfl 1 (by decide) in_X6_advance_X6 lk_X6_advance_23 (Or.inl rfl) rfl dX6_advance_23 ?_
    refine r_iload_n C dX6_advance_26 rfl rfl ?_
    refine At_val (v' := vi ((max d (iv S 15 3 0 + 1)).toNat : Nat)) (by rw [Int.toNat_of_nonneg (by omega)]) ?_
    refine r_iconst C dX6_advance_27 ?_
    refine r_callU (as := [_, _]) (na := 2) (rest := []) C (mid_8 (by decide)) (hp_8 _ _) rfl (c_seek_P S 1 (by decide) (max d (iv S 15 3 0 + 1)).toNat 0 rfl (by omega) hR) gX6_advance_X0_seek_u51X2 (by decide +kernel) (by decide) (by decide) rfl (Nat.le_of_ble_eq_true rfl) rfl dX6_advance_28 rfl (fun v1 S1 hp1 => ?_)
    obtain ⟨rfl, e9⟩ := hp1
    subst S1
    refine r_istore_n (lv' := [(3, _), (2, _), (0, _), (1, _)]) C dX6_advance_31 rfl (hn _ (by decide)) rfl ?_
    refine r_iload_n C dX6_advance_32 rfl rfl ?_
    refine r_bipush C dX6_advance_33 (by decide) ?_
    refine r_icmp_lt (tgt := 40) C dX6_advance_35 (by decide) (by omega) (by omega) (fun h35 => ?_) (fun h35 => ?_)
    · skip
      refine r_aload_n C dX6_advance_40 rfl rfl ?_
      refine r_iload_n C dX6_advance_41 rfl rfl ?_
      refine r_putf  C mid_15 (hp_15 _) rfl 3 (by decide) in_X6_advance_X6 lk_X6_advance_39 (Or.inl rfl) tyX6 tyX6_ok nmX6 rfl (tyX6_ok 3 (by decide)) (fun _ => rfl) (fun _ => rfl) (Nat.le_of_ble_eq_true rfl) (hs_15_3 _ _) dX6_advance_42 ?_
      refine r_iload_n C dX6_advance_45 rfl rfl ?_
      exact r_iret C Rr (⟨by unfold advF; rw [if_neg (by omega), if_neg (by omega)], by unfold advF; rw [if_neg (by omega), if_neg (by omega)]⟩) dX6_advance_46
    · skip
      refine r_iconst C dX6_advance_38 ?_
      exact r_iret C Rr (⟨by unfold advF; rw [if_neg (by omega), if_pos (by omega)], by unfold advF; rw [if_neg (by omega), if_pos (by omega)]⟩) dX6_advance_39
  · skip
    refine r_bipush C dX6_advance_17 (by decide) ?_
    refine r_goto (tgt := 31) C dX6_advance_19 (by decide) ?_
    refine r_istore_n (lv' := [(3, _), (2, _), (0, _), (1, _)]) C dX6_advance_31 rfl (hn _ (by decide)) rfl ?_
    refine r_iload_n C dX6_advance_32 rfl rfl ?_
    refine r_bipush C dX6_advance_33 (by decide) ?_
    refine r_icmp_lt (tgt := 40) C dX6_advance_35 (by decide) (by omega) (by omega) (fun h35 => ?_) (fun h35 => ?_)
    · exact absurd h35 (by omega)
    refine r_iconst C dX6_advance_38 ?_
    exact r_iret C Rr (⟨by unfold advF; rw [if_pos (by omega)], by unfold advF; rw [if_pos (by omega)]⟩) dX6_advance_39
