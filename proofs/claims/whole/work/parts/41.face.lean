theorem ti_X10_checkDocument_10 : ∀ w ∈ Cond.classLink RX10 99 "java/lang/IndexOutOfBoundsException" :: Cond.initialized "java/lang/IndexOutOfBoundsException" :: (vx_atS RX10 103 "java/lang/IndexOutOfBoundsException" thUp).filter goodWord, w ∈ wsX10_checkDocument := by decide +kernel
theorem tn_X10_103 : ∀ w ∈ (vx_atS RX10 103 "java/lang/IndexOutOfBoundsException" thUp).filter (fun w => !goodWord w), w ∈ (thD.map (fun x => Cond.declares (Bundle.initS x)) ++ [Cond.castable "java/lang/IndexOutOfBoundsException" "java/lang/IndexOutOfBoundsException"]) := by decide +kernel
theorem tg_X10_99_103 : ∀ w ∈ Cond.classLink RX10 99 "java/lang/IndexOutOfBoundsException" :: Cond.initialized "java/lang/IndexOutOfBoundsException" :: vx_atS RX10 103 "java/lang/IndexOutOfBoundsException" thUp, vx_ot w = true := by decide +kernel
theorem ti_X10_checkWord_10 : ∀ w ∈ Cond.classLink RX10 99 "java/lang/IndexOutOfBoundsException" :: Cond.initialized "java/lang/IndexOutOfBoundsException" :: (vx_atS RX10 103 "java/lang/IndexOutOfBoundsException" thUp).filter goodWord, w ∈ wsX10_checkWord := by decide +kernel
theorem ti_X10_checkKindAndNeed_60 : ∀ w ∈ Cond.classLink RX10 46 "java/lang/IllegalArgumentException" :: Cond.initialized "java/lang/IllegalArgumentException" :: (vx_atS RX10 50 "java/lang/IllegalArgumentException" thUp).filter goodWord, w ∈ wsX10_checkKindAndNeed := by decide +kernel
theorem tn_X10_50 : ∀ w ∈ (vx_atS RX10 50 "java/lang/IllegalArgumentException" thUp).filter (fun w => !goodWord w), w ∈ (thD.map (fun x => Cond.declares (Bundle.initS x)) ++ [Cond.castable "java/lang/IllegalArgumentException" "java/lang/IllegalArgumentException"]) := by decide +kernel
theorem tg_X10_46_50 : ∀ w ∈ Cond.classLink RX10 46 "java/lang/IllegalArgumentException" :: Cond.initialized "java/lang/IllegalArgumentException" :: vx_atS RX10 50 "java/lang/IllegalArgumentException" thUp, vx_ot w = true := by decide +kernel
theorem ti_X10_checkKindAndNeed_14 : ∀ w ∈ Cond.classLink RX10 46 "java/lang/IllegalArgumentException" :: Cond.initialized "java/lang/IllegalArgumentException" :: (vx_atS RX10 50 "java/lang/IllegalArgumentException" thUp).filter goodWord, w ∈ wsX10_checkKindAndNeed := by decide +kernel
theorem in_X10_checkRun_X10 : ∀ w ∈ wsX100, w ∈ wsX10_checkRun := by decide +kernel
theorem lk_X10_checkRun_38 : Cond.fieldLink RX10 38 "PostingPlanner" "run" "LPostingPlanner$Run;" ∈ wsX10_checkRun := by decide +kernel
theorem in_X10_checkRun_X6 : ∀ w ∈ wsX60, w ∈ wsX10_checkRun := by decide +kernel
theorem lk_X10_checkRun_177 : Cond.fieldLink RX10 177 "PostingPlanner$Run" "isBegun" "Z" ∈ wsX10_checkRun := by decide +kernel
theorem ti_X10_checkRun_10 : ∀ w ∈ Cond.classLink RX10 90 "java/lang/IllegalStateException" :: Cond.initialized "java/lang/IllegalStateException" :: (vx_atS RX10 94 "java/lang/IllegalStateException" thUp).filter goodWord, w ∈ wsX10_checkRun := by decide +kernel
theorem tn_X10_94 : ∀ w ∈ (vx_atS RX10 94 "java/lang/IllegalStateException" thUp).filter (fun w => !goodWord w), w ∈ (thD.map (fun x => Cond.declares (Bundle.initS x)) ++ [Cond.castable "java/lang/IllegalStateException" "java/lang/IllegalStateException"]) := by decide +kernel
theorem tg_X10_90_94 : ∀ w ∈ Cond.classLink RX10 90 "java/lang/IllegalStateException" :: Cond.initialized "java/lang/IllegalStateException" :: vx_atS RX10 94 "java/lang/IllegalStateException" thUp, vx_ot w = true := by decide +kernel
theorem ti_X10_put_16 : ∀ w ∈ Cond.classLink RX10 46 "java/lang/IllegalArgumentException" :: Cond.initialized "java/lang/IllegalArgumentException" :: (vx_atS RX10 50 "java/lang/IllegalArgumentException" thUp).filter goodWord, w ∈ wsX10_put := by decide +kernel
theorem in_X10_put_X10 : ∀ w ∈ wsX100, w ∈ wsX10_put := by decide +kernel
theorem lk_X10_put_10 : Cond.fieldLink RX10 10 "PostingPlanner" "shelf" "LPostingPlanner$Shelf;" ∈ wsX10_put := by decide +kernel
theorem in_X10_drop_X10 : ∀ w ∈ wsX100, w ∈ wsX10_drop := by decide +kernel
theorem lk_X10_drop_10 : Cond.fieldLink RX10 10 "PostingPlanner" "shelf" "LPostingPlanner$Shelf;" ∈ wsX10_drop := by decide +kernel
theorem in_X10_documents_X10 : ∀ w ∈ wsX100, w ∈ wsX10_documents := by decide +kernel
theorem lk_X10_documents_10 : Cond.fieldLink RX10 10 "PostingPlanner" "shelf" "LPostingPlanner$Shelf;" ∈ wsX10_documents := by decide +kernel
theorem in_X10_count_X10 : ∀ w ∈ wsX100, w ∈ wsX10_count := by decide +kernel
theorem lk_X10_count_10 : Cond.fieldLink RX10 10 "PostingPlanner" "shelf" "LPostingPlanner$Shelf;" ∈ wsX10_count := by decide +kernel
theorem in_X10_ask_X10 : ∀ w ∈ wsX100, w ∈ wsX10_ask := by decide +kernel
theorem lk_X10_ask_19 : Cond.fieldLink RX10 19 "PostingPlanner" "question" "LPostingPlanner$Question;" ∈ wsX10_ask := by decide +kernel
theorem in_X10_clause_X10 : ∀ w ∈ wsX100, w ∈ wsX10_clause := by decide +kernel
theorem lk_X10_clause_19 : Cond.fieldLink RX10 19 "PostingPlanner" "question" "LPostingPlanner$Question;" ∈ wsX10_clause := by decide +kernel
theorem ti_X10_clause_26 : ∀ w ∈ Cond.classLink RX10 90 "java/lang/IllegalStateException" :: Cond.initialized "java/lang/IllegalStateException" :: (vx_atS RX10 94 "java/lang/IllegalStateException" thUp).filter goodWord, w ∈ wsX10_clause := by decide +kernel
theorem in_X10_literal_X10 : ∀ w ∈ wsX100, w ∈ wsX10_literal := by decide +kernel
theorem lk_X10_literal_19 : Cond.fieldLink RX10 19 "PostingPlanner" "question" "LPostingPlanner$Question;" ∈ wsX10_literal := by decide +kernel
theorem in_X10_literal_X9 : ∀ w ∈ wsX90, w ∈ wsX10_literal := by decide +kernel
theorem lk_X10_literal_111 : Cond.fieldLink RX10 111 "PostingPlanner$ToldClause" "size" "I" ∈ wsX10_literal := by decide +kernel
theorem ti_X10_literal_43 : ∀ w ∈ Cond.classLink RX10 90 "java/lang/IllegalStateException" :: Cond.initialized "java/lang/IllegalStateException" :: (vx_atS RX10 94 "java/lang/IllegalStateException" thUp).filter goodWord, w ∈ wsX10_literal := by decide +kernel
theorem ti_X10_literal_15 : ∀ w ∈ Cond.classLink RX10 99 "java/lang/IndexOutOfBoundsException" :: Cond.initialized "java/lang/IndexOutOfBoundsException" :: (vx_atS RX10 103 "java/lang/IndexOutOfBoundsException" thUp).filter goodWord, w ∈ wsX10_literal := by decide +kernel
theorem in_X10_isHit_X10 : ∀ w ∈ wsX100, w ∈ wsX10_isHit := by decide +kernel
theorem lk_X10_isHit_10 : Cond.fieldLink RX10 10 "PostingPlanner" "shelf" "LPostingPlanner$Shelf;" ∈ wsX10_isHit := by decide +kernel
theorem lk_X10_isHit_19 : Cond.fieldLink RX10 19 "PostingPlanner" "question" "LPostingPlanner$Question;" ∈ wsX10_isHit := by decide +kernel
theorem in_X10_planKind_X10 : ∀ w ∈ wsX100, w ∈ wsX10_planKind := by decide +kernel
theorem lk_X10_planKind_31 : Cond.fieldLink RX10 31 "PostingPlanner" "plan" "LPostingPlanner$Plan;" ∈ wsX10_planKind := by decide +kernel
theorem lk_X10_planKind_19 : Cond.fieldLink RX10 19 "PostingPlanner" "question" "LPostingPlanner$Question;" ∈ wsX10_planKind := by decide +kernel
theorem lk_X10_planKind_10 : Cond.fieldLink RX10 10 "PostingPlanner" "shelf" "LPostingPlanner$Shelf;" ∈ wsX10_planKind := by decide +kernel
theorem in_X10_planKind_X2 : ∀ w ∈ wsX20, w ∈ wsX10_planKind := by decide +kernel
theorem lk_X10_planKind_122 : Cond.fieldLink RX10 122 "PostingPlanner$Plan" "kind" "I" ∈ wsX10_planKind := by decide +kernel
theorem sm_X10_planKind_Plan_kind : Cond.sameField "PostingPlanner$Plan" "PostingPlanner$Group" "kind" "I" ∈ wsX10_planKind := by decide +kernel
theorem in_X10_planSize_X10 : ∀ w ∈ wsX100, w ∈ wsX10_planSize := by decide +kernel
theorem lk_X10_planSize_31 : Cond.fieldLink RX10 31 "PostingPlanner" "plan" "LPostingPlanner$Plan;" ∈ wsX10_planSize := by decide +kernel
theorem lk_X10_planSize_19 : Cond.fieldLink RX10 19 "PostingPlanner" "question" "LPostingPlanner$Question;" ∈ wsX10_planSize := by decide +kernel
theorem lk_X10_planSize_10 : Cond.fieldLink RX10 10 "PostingPlanner" "shelf" "LPostingPlanner$Shelf;" ∈ wsX10_planSize := by decide +kernel
theorem in_X10_planSize_X2 : ∀ w ∈ wsX20, w ∈ wsX10_planSize := by decide +kernel
theorem lk_X10_planSize_128 : Cond.fieldLink RX10 128 "PostingPlanner$Plan" "size" "I" ∈ wsX10_planSize := by decide +kernel
theorem sm_X10_planSize_Plan_size : Cond.sameField "PostingPlanner$Plan" "PostingPlanner$Group" "size" "I" ∈ wsX10_planSize := by decide +kernel
theorem in_X10_estimate_X10 : ∀ w ∈ wsX100, w ∈ wsX10_estimate := by decide +kernel
theorem lk_X10_estimate_31 : Cond.fieldLink RX10 31 "PostingPlanner" "plan" "LPostingPlanner$Plan;" ∈ wsX10_estimate := by decide +kernel
theorem lk_X10_estimate_19 : Cond.fieldLink RX10 19 "PostingPlanner" "question" "LPostingPlanner$Question;" ∈ wsX10_estimate := by decide +kernel
theorem lk_X10_estimate_10 : Cond.fieldLink RX10 10 "PostingPlanner" "shelf" "LPostingPlanner$Shelf;" ∈ wsX10_estimate := by decide +kernel
theorem in_X10_estimate_X2 : ∀ w ∈ wsX20, w ∈ wsX10_estimate := by decide +kernel
theorem lk_X10_estimate_129 : Cond.fieldLink RX10 129 "PostingPlanner$Plan" "estimate" "I" ∈ wsX10_estimate := by decide +kernel
theorem sm_X10_estimate_Plan_estimate : Cond.sameField "PostingPlanner$Plan" "PostingPlanner$Part" "estimate" "I" ∈ wsX10_estimate := by decide +kernel
theorem in_X10_planNeed_X10 : ∀ w ∈ wsX100, w ∈ wsX10_planNeed := by decide +kernel
theorem lk_X10_planNeed_31 : Cond.fieldLink RX10 31 "PostingPlanner" "plan" "LPostingPlanner$Plan;" ∈ wsX10_planNeed := by decide +kernel
theorem lk_X10_planNeed_19 : Cond.fieldLink RX10 19 "PostingPlanner" "question" "LPostingPlanner$Question;" ∈ wsX10_planNeed := by decide +kernel
theorem lk_X10_planNeed_10 : Cond.fieldLink RX10 10 "PostingPlanner" "shelf" "LPostingPlanner$Shelf;" ∈ wsX10_planNeed := by decide +kernel
theorem in_X10_planNeed_X2 : ∀ w ∈ wsX20, w ∈ wsX10_planNeed := by decide +kernel
theorem lk_X10_planNeed_122 : Cond.fieldLink RX10 122 "PostingPlanner$Plan" "kind" "I" ∈ wsX10_planNeed := by decide +kernel
theorem sm_X10_planNeed_Plan_kind : Cond.sameField "PostingPlanner$Plan" "PostingPlanner$Group" "kind" "I" ∈ wsX10_planNeed := by decide +kernel
theorem lk_X10_planNeed_125 : Cond.fieldLink RX10 125 "PostingPlanner$Plan" "need" "I" ∈ wsX10_planNeed := by decide +kernel
theorem sm_X10_planNeed_Plan_need : Cond.sameField "PostingPlanner$Plan" "PostingPlanner$Group" "need" "I" ∈ wsX10_planNeed := by decide +kernel
theorem in_X10_plannedClause_X10 : ∀ w ∈ wsX100, w ∈ wsX10_plannedClause := by decide +kernel
theorem lk_X10_plannedClause_31 : Cond.fieldLink RX10 31 "PostingPlanner" "plan" "LPostingPlanner$Plan;" ∈ wsX10_plannedClause := by decide +kernel
theorem lk_X10_plannedClause_19 : Cond.fieldLink RX10 19 "PostingPlanner" "question" "LPostingPlanner$Question;" ∈ wsX10_plannedClause := by decide +kernel
theorem lk_X10_plannedClause_10 : Cond.fieldLink RX10 10 "PostingPlanner" "shelf" "LPostingPlanner$Shelf;" ∈ wsX10_plannedClause := by decide +kernel
theorem ti_X10_plannedClause_28 : ∀ w ∈ Cond.classLink RX10 46 "java/lang/IllegalArgumentException" :: Cond.initialized "java/lang/IllegalArgumentException" :: (vx_atS RX10 50 "java/lang/IllegalArgumentException" thUp).filter goodWord, w ∈ wsX10_plannedClause := by decide +kernel
theorem in_X10_clauseAt_X3 : ∀ w ∈ wsX30, w ∈ wsX10_clauseAt := by decide +kernel
theorem lk_X10_clauseAt_136 : Cond.fieldLink RX10 136 "PostingPlanner$PlannedClause" "rank" "I" ∈ wsX10_clauseAt := by decide +kernel
theorem sm_X10_clauseAt_PlannedClause_rank : Cond.sameField "PostingPlanner$PlannedClause" "PostingPlanner$Part" "rank" "I" ∈ wsX10_clauseAt := by decide +kernel
theorem in_X10_kindAt_X3 : ∀ w ∈ wsX30, w ∈ wsX10_kindAt := by decide +kernel
theorem lk_X10_kindAt_141 : Cond.fieldLink RX10 141 "PostingPlanner$PlannedClause" "kind" "I" ∈ wsX10_kindAt := by decide +kernel
theorem sm_X10_kindAt_PlannedClause_kind : Cond.sameField "PostingPlanner$PlannedClause" "PostingPlanner$Group" "kind" "I" ∈ wsX10_kindAt := by decide +kernel
theorem in_X10_estimateAt_X3 : ∀ w ∈ wsX30, w ∈ wsX10_estimateAt := by decide +kernel
theorem lk_X10_estimateAt_142 : Cond.fieldLink RX10 142 "PostingPlanner$PlannedClause" "estimate" "I" ∈ wsX10_estimateAt := by decide +kernel
theorem sm_X10_estimateAt_PlannedClause_estimate : Cond.sameField "PostingPlanner$PlannedClause" "PostingPlanner$Part" "estimate" "I" ∈ wsX10_estimateAt := by decide +kernel
theorem in_X10_literalAt_X4 : ∀ w ∈ wsX40, w ∈ wsX10_literalAt := by decide +kernel
theorem lk_X10_literalAt_149 : Cond.fieldLink RX10 149 "PostingPlanner$Part" "rank" "I" ∈ wsX10_literalAt := by decide +kernel
theorem ti_X10_literalAt_14 : ∀ w ∈ Cond.classLink RX10 46 "java/lang/IllegalArgumentException" :: Cond.initialized "java/lang/IllegalArgumentException" :: (vx_atS RX10 50 "java/lang/IllegalArgumentException" thUp).filter goodWord, w ∈ wsX10_literalAt := by decide +kernel
theorem in_X10_begin_X10 : ∀ w ∈ wsX100, w ∈ wsX10_begin := by decide +kernel
theorem lk_X10_begin_38 : Cond.fieldLink RX10 38 "PostingPlanner" "run" "LPostingPlanner$Run;" ∈ wsX10_begin := by decide +kernel
theorem lk_X10_begin_19 : Cond.fieldLink RX10 19 "PostingPlanner" "question" "LPostingPlanner$Question;" ∈ wsX10_begin := by decide +kernel
theorem lk_X10_begin_10 : Cond.fieldLink RX10 10 "PostingPlanner" "shelf" "LPostingPlanner$Shelf;" ∈ wsX10_begin := by decide +kernel
theorem in_X10_leap_X10 : ∀ w ∈ wsX100, w ∈ wsX10_leap := by decide +kernel
theorem lk_X10_leap_38 : Cond.fieldLink RX10 38 "PostingPlanner" "run" "LPostingPlanner$Run;" ∈ wsX10_leap := by decide +kernel
theorem in_X10_next_X10 : ∀ w ∈ wsX100, w ∈ wsX10_next := by decide +kernel
theorem lk_X10_next_38 : Cond.fieldLink RX10 38 "PostingPlanner" "run" "LPostingPlanner$Run;" ∈ wsX10_next := by decide +kernel
theorem in_X10_readings_X10 : ∀ w ∈ wsX100, w ∈ wsX10_readings := by decide +kernel
theorem lk_X10_readings_38 : Cond.fieldLink RX10 38 "PostingPlanner" "run" "LPostingPlanner$Run;" ∈ wsX10_readings := by decide +kernel
theorem in_X10_readings_X6 : ∀ w ∈ wsX60, w ∈ wsX10_readings := by decide +kernel
theorem lk_X10_readings_162 : Cond.fieldLink RX10 162 "PostingPlanner$Run" "tally" "LPostingPlanner$Tally;" ∈ wsX10_readings := by decide +kernel
theorem in_X10_readings_X8 : ∀ w ∈ wsX80, w ∈ wsX10_readings := by decide +kernel
theorem lk_X10_readings_166 : Cond.fieldLink RX10 166 "PostingPlanner$Tally" "sum" "I" ∈ wsX10_readings := by decide +kernel
set_option maxHeartbeats 4000000 in
set_option maxRecDepth 100000 in
theorem c_checkDocument (S : ST) (d : Int) (hd : -2147483648 ≤ d ∧ d < 2147483648) : CtX yX10_checkDocument wsX10_checkDocument 6 1 [vr (some (0, 0)), vi d] S (fun v S1 => v = none ∧ S1 = S ∧ 0 ≤ d ∧ d < 40) (fun E S1 => S1 = S ∧ E = "java/lang/IndexOutOfBoundsException" ∧ ¬ (0 ≤ d ∧ d < 40)) := by
  refine CtX.of (nL := 2) (by decide) rfl (Nat.le_of_ble_eq_true rfl) (by decide) (fun X C Tt hnL => ?_)
  have hcl1 : 0 + 1 ≤ X.1.2.2.2.1.cells := Nat.le_trans (by decide) Tt.room.1
  have hsl1 : 0 + 6 * 1 ≤ X.1.2.2.2.1.slots := Nat.le_trans (by decide) Tt.room.2
  have hn : ∀ i, i < 2 → i < X.2.2.2.2.2 := fun i h => by rw [hnL]; exact h
  refine r_iload_n C dX10_checkDocument_0 rfl rfl ?_
  refine r_if_lt (tgt := 10) C dX10_checkDocument_1 (by decide) (by omega) (fun h1 => ?_) (fun h1 => ?_)
  · skip
    exact x_throw (is := 169) (text := "there is no such document") (cls := "java/lang/IndexOutOfBoundsException") C Tt (by decide +kernel) (by decide +kernel) (by decide +kernel) ti_X10_checkDocument_10 tn_X10_103 tg_X10_99_103 dX10_checkDocument_10 dX10_checkDocument_13 dX10_checkDocument_14 dX10_checkDocument_16 dX10_checkDocument_19 (by decide) (by decide) (Nat.le_of_ble_eq_true rfl) (by decide) (by decide) (⟨rfl, rfl, by omega⟩)
  · skip
    refine r_iload_n C dX10_checkDocument_4 rfl rfl ?_
    refine r_bipush C dX10_checkDocument_5 (by decide) ?_
    refine r_icmp_lt (tgt := 20) C dX10_checkDocument_7 (by decide) (by omega) (by omega) (fun h7 => ?_) (fun h7 => ?_)
    · skip
      exact x_vret C Tt (by decide) (by decide) (⟨rfl, rfl, by omega, by omega⟩) dX10_checkDocument_20
    · skip
      exact x_throw (is := 169) (text := "there is no such document") (cls := "java/lang/IndexOutOfBoundsException") C Tt (by decide +kernel) (by decide +kernel) (by decide +kernel) ti_X10_checkDocument_10 tn_X10_103 tg_X10_99_103 dX10_checkDocument_10 dX10_checkDocument_13 dX10_checkDocument_14 dX10_checkDocument_16 dX10_checkDocument_19 (by decide) (by decide) (Nat.le_of_ble_eq_true rfl) (by decide) (by decide) (⟨rfl, rfl, by omega⟩)
set_option maxHeartbeats 4000000 in
set_option maxRecDepth 100000 in
theorem c_checkWord (S : ST) (d : Int) (hd : -2147483648 ≤ d ∧ d < 2147483648) : CtX yX10_checkWord wsX10_checkWord 6 1 [vr (some (0, 0)), vi d] S (fun v S1 => v = none ∧ S1 = S ∧ 0 ≤ d ∧ d < 8) (fun E S1 => S1 = S ∧ E = "java/lang/IndexOutOfBoundsException" ∧ ¬ (0 ≤ d ∧ d < 8)) := by
  refine CtX.of (nL := 2) (by decide) rfl (Nat.le_of_ble_eq_true rfl) (by decide) (fun X C Tt hnL => ?_)
  have hcl1 : 0 + 1 ≤ X.1.2.2.2.1.cells := Nat.le_trans (by decide) Tt.room.1
  have hsl1 : 0 + 6 * 1 ≤ X.1.2.2.2.1.slots := Nat.le_trans (by decide) Tt.room.2
  have hn : ∀ i, i < 2 → i < X.2.2.2.2.2 := fun i h => by rw [hnL]; exact h
  refine r_iload_n C dX10_checkWord_0 rfl rfl ?_
  refine r_if_lt (tgt := 10) C dX10_checkWord_1 (by decide) (by omega) (fun h1 => ?_) (fun h1 => ?_)
  · skip
    exact x_throw (is := 171) (text := "there is no such word") (cls := "java/lang/IndexOutOfBoundsException") C Tt (by decide +kernel) (by decide +kernel) (by decide +kernel) ti_X10_checkWord_10 tn_X10_103 tg_X10_99_103 dX10_checkWord_10 dX10_checkWord_13 dX10_checkWord_14 dX10_checkWord_16 dX10_checkWord_19 (by decide) (by decide) (Nat.le_of_ble_eq_true rfl) (by decide) (by decide) (⟨rfl, rfl, by omega⟩)
  · skip
    refine r_iload_n C dX10_checkWord_4 rfl rfl ?_
    refine r_bipush C dX10_checkWord_5 (by decide) ?_
    refine r_icmp_lt (tgt := 20) C dX10_checkWord_7 (by decide) (by omega) (by omega) (fun h7 => ?_) (fun h7 => ?_)
    · skip
      exact x_vret C Tt (by decide) (by decide) (⟨rfl, rfl, by omega, by omega⟩) dX10_checkWord_20
    · skip
      exact x_throw (is := 171) (text := "there is no such word") (cls := "java/lang/IndexOutOfBoundsException") C Tt (by decide +kernel) (by decide +kernel) (by decide +kernel) ti_X10_checkWord_10 tn_X10_103 tg_X10_99_103 dX10_checkWord_10 dX10_checkWord_13 dX10_checkWord_14 dX10_checkWord_16 dX10_checkWord_19 (by decide) (by decide) (Nat.le_of_ble_eq_true rfl) (by decide) (by decide) (⟨rfl, rfl, by omega⟩)
set_option maxHeartbeats 4000000 in
set_option maxRecDepth 100000 in
theorem c_checkKN (S : ST) (kd nd mo : Int) (hkd : -2147483648 ≤ kd ∧ kd < 2147483648) (hnd : -2147483648 ≤ nd ∧ nd < 2147483648) (hm : 0 ≤ mo ∧ mo ≤ 6) : CtX yX10_checkKindAndNeed wsX10_checkKindAndNeed 6 1 [vr (some (0, 0)), vi kd, vi nd, vi mo] S (fun v S1 => v = none ∧ S1 = S ∧ ((kd = 0 ∧ nd = 0) ∨ (kd = 1 ∧ nd = 0) ∨ (kd = 2 ∧ 1 ≤ nd ∧ nd ≤ mo))) (fun E S1 => S1 = S ∧ E = "java/lang/IllegalArgumentException" ∧ ¬ ((kd = 0 ∧ nd = 0) ∨ (kd = 1 ∧ nd = 0) ∨ (kd = 2 ∧ 1 ≤ nd ∧ nd ≤ mo))) := by
  refine CtX.of (nL := 6) (by decide) rfl (Nat.le_of_ble_eq_true rfl) (by decide) (fun X C Tt hnL => ?_)
  have hcl1 : 0 + 1 ≤ X.1.2.2.2.1.cells := Nat.le_trans (by decide) Tt.room.1
  have hsl1 : 0 + 6 * 1 ≤ X.1.2.2.2.1.slots := Nat.le_trans (by decide) Tt.room.2
  have hn : ∀ i, i < 6 → i < X.2.2.2.2.2 := fun i h => by rw [hnL]; exact h
  refine r_iload_n C dX10_checkKindAndNeed_0 rfl rfl ?_
  refine r_if_eq (tgt := 24) C dX10_checkKindAndNeed_1 (by decide) (by omega) (fun h1 => ?_) (fun h1 => ?_)
  · skip
    refine r_iload_n C dX10_checkKindAndNeed_24 rfl rfl ?_
    refine r_iconst C dX10_checkKindAndNeed_25 ?_
    refine r_icmp_ne (tgt := 33) C dX10_checkKindAndNeed_26 (by decide) (by omega) (by omega) (fun h26 => ?_) (fun h26 => ?_)
    · skip
      refine r_iconst C dX10_checkKindAndNeed_33 ?_
      refine r_istore (lv' := [(4, _), (0, _), (1, _), (2, _), (3, _)]) C dX10_checkKindAndNeed_34 (hn _ (by decide)) rfl ?_
      refine r_iload_n C dX10_checkKindAndNeed_36 rfl rfl ?_
      refine r_iconst C dX10_checkKindAndNeed_37 ?_
      refine r_icmp_ne (tgt := 45) C dX10_checkKindAndNeed_38 (by decide) (by omega) (by omega) (fun h38 => ?_) (fun h38 => ?_)
      · skip
        refine r_iconst C dX10_checkKindAndNeed_45 ?_
        refine r_istore (lv' := [(5, _), (4, _), (0, _), (1, _), (2, _), (3, _)]) C dX10_checkKindAndNeed_46 (hn _ (by decide)) rfl ?_
        refine r_iload_n C dX10_checkKindAndNeed_48 rfl rfl ?_
        refine r_iload C dX10_checkKindAndNeed_49 rfl ?_
        refine r_icmp_lt (tgt := 60) C dX10_checkKindAndNeed_51 (by decide) (by omega) (by omega) (fun h51 => ?_) (fun h51 => ?_)
        · skip
          exact x_throw (is := 175) (text := "need is out of range") (cls := "java/lang/IllegalArgumentException") C Tt (by decide +kernel) (by decide +kernel) (by decide +kernel) ti_X10_checkKindAndNeed_60 tn_X10_50 tg_X10_46_50 dX10_checkKindAndNeed_60 dX10_checkKindAndNeed_63 dX10_checkKindAndNeed_64 dX10_checkKindAndNeed_66 dX10_checkKindAndNeed_69 (by decide) (by decide) (Nat.le_of_ble_eq_true rfl) (by decide) (by decide) (⟨rfl, rfl, by omega⟩)
        · skip
          refine r_iload_n C dX10_checkKindAndNeed_54 rfl rfl ?_
          refine r_iload C dX10_checkKindAndNeed_55 rfl ?_
          refine r_icmp_le (tgt := 70) C dX10_checkKindAndNeed_57 (by decide) (by omega) (by omega) (fun h57 => ?_) (fun h57 => ?_)
          · skip
            exact x_vret C Tt (by decide) (by decide) (⟨rfl, rfl, by omega⟩) dX10_checkKindAndNeed_70
          · skip
            exact x_throw (is := 175) (text := "need is out of range") (cls := "java/lang/IllegalArgumentException") C Tt (by decide +kernel) (by decide +kernel) (by decide +kernel) ti_X10_checkKindAndNeed_60 tn_X10_50 tg_X10_46_50 dX10_checkKindAndNeed_60 dX10_checkKindAndNeed_63 dX10_checkKindAndNeed_64 dX10_checkKindAndNeed_66 dX10_checkKindAndNeed_69 (by decide) (by decide) (Nat.le_of_ble_eq_true rfl) (by decide) (by decide) (⟨rfl, rfl, by omega⟩)
      · skip
        refine r_iload_n C dX10_checkKindAndNeed_41 rfl rfl ?_
        refine r_goto (tgt := 46) C dX10_checkKindAndNeed_42 (by decide) ?_
        refine r_istore (lv' := [(5, _), (4, _), (0, _), (1, _), (2, _), (3, _)]) C dX10_checkKindAndNeed_46 (hn _ (by decide)) rfl ?_
        refine r_iload_n C dX10_checkKindAndNeed_48 rfl rfl ?_
        refine r_iload C dX10_checkKindAndNeed_49 rfl ?_
        refine r_icmp_lt (tgt := 60) C dX10_checkKindAndNeed_51 (by decide) (by omega) (by omega) (fun h51 => ?_) (fun h51 => ?_)
        · skip
          exact x_throw (is := 175) (text := "need is out of range") (cls := "java/lang/IllegalArgumentException") C Tt (by decide +kernel) (by decide +kernel) (by decide +kernel) ti_X10_checkKindAndNeed_60 tn_X10_50 tg_X10_46_50 dX10_checkKindAndNeed_60 dX10_checkKindAndNeed_63 dX10_checkKindAndNeed_64 dX10_checkKindAndNeed_66 dX10_checkKindAndNeed_69 (by decide) (by decide) (Nat.le_of_ble_eq_true rfl) (by decide) (by decide) (⟨rfl, rfl, by omega⟩)
        · skip
          refine r_iload_n C dX10_checkKindAndNeed_54 rfl rfl ?_
          refine r_iload C dX10_checkKindAndNeed_55 rfl ?_
          refine r_icmp_le (tgt := 70) C dX10_checkKindAndNeed_57 (by decide) (by omega) (by omega) (fun h57 => ?_) (fun h57 => ?_)
          · skip
            exact x_vret C Tt (by decide) (by decide) (⟨rfl, rfl, by omega⟩) dX10_checkKindAndNeed_70
          · skip
            exact x_throw (is := 175) (text := "need is out of range") (cls := "java/lang/IllegalArgumentException") C Tt (by decide +kernel) (by decide +kernel) (by decide +kernel) ti_X10_checkKindAndNeed_60 tn_X10_50 tg_X10_46_50 dX10_checkKindAndNeed_60 dX10_checkKindAndNeed_63 dX10_checkKindAndNeed_64 dX10_checkKindAndNeed_66 dX10_checkKindAndNeed_69 (by decide) (by decide) (Nat.le_of_ble_eq_true rfl) (by decide) (by decide) (⟨rfl, rfl, by omega⟩)
    · skip
      refine r_iconst C dX10_checkKindAndNeed_29 ?_
      refine r_goto (tgt := 34) C dX10_checkKindAndNeed_30 (by decide) ?_
      refine r_istore (lv' := [(4, _), (0, _), (1, _), (2, _), (3, _)]) C dX10_checkKindAndNeed_34 (hn _ (by decide)) rfl ?_
      refine r_iload_n C dX10_checkKindAndNeed_36 rfl rfl ?_
      refine r_iconst C dX10_checkKindAndNeed_37 ?_
      refine r_icmp_ne (tgt := 45) C dX10_checkKindAndNeed_38 (by decide) (by omega) (by omega) (fun h38 => ?_) (fun h38 => ?_)
      · skip
        refine r_iconst C dX10_checkKindAndNeed_45 ?_
        refine r_istore (lv' := [(5, _), (4, _), (0, _), (1, _), (2, _), (3, _)]) C dX10_checkKindAndNeed_46 (hn _ (by decide)) rfl ?_
        refine r_iload_n C dX10_checkKindAndNeed_48 rfl rfl ?_
        refine r_iload C dX10_checkKindAndNeed_49 rfl ?_
        refine r_icmp_lt (tgt := 60) C dX10_checkKindAndNeed_51 (by decide) (by omega) (by omega) (fun h51 => ?_) (fun h51 => ?_)
        · skip
          exact x_throw (is := 175) (text := "need is out of range") (cls := "java/lang/IllegalArgumentException") C Tt (by decide +kernel) (by decide +kernel) (by decide +kernel) ti_X10_checkKindAndNeed_60 tn_X10_50 tg_X10_46_50 dX10_checkKindAndNeed_60 dX10_checkKindAndNeed_63 dX10_checkKindAndNeed_64 dX10_checkKindAndNeed_66 dX10_checkKindAndNeed_69 (by decide) (by decide) (Nat.le_of_ble_eq_true rfl) (by decide) (by decide) (⟨rfl, rfl, by omega⟩)
        · skip
          refine r_iload_n C dX10_checkKindAndNeed_54 rfl rfl ?_
          refine r_iload C dX10_checkKindAndNeed_55 rfl ?_
          refine r_icmp_le (tgt := 70) C dX10_checkKindAndNeed_57 (by decide) (by omega) (by omega) (fun h57 => ?_) (fun h57 => ?_)
          · skip
            exact x_vret C Tt (by decide) (by decide) (⟨rfl, rfl, by omega⟩) dX10_checkKindAndNeed_70
          · skip
            exact x_throw (is := 175) (text := "need is out of range") (cls := "java/lang/IllegalArgumentException") C Tt (by decide +kernel) (by decide +kernel) (by decide +kernel) ti_X10_checkKindAndNeed_60 tn_X10_50 tg_X10_46_50 dX10_checkKindAndNeed_60 dX10_checkKindAndNeed_63 dX10_checkKindAndNeed_64 dX10_checkKindAndNeed_66 dX10_checkKindAndNeed_69 (by decide) (by decide) (Nat.le_of_ble_eq_true rfl) (by decide) (by decide) (⟨rfl, rfl, by omega⟩)
      · skip
        refine r_iload_n C dX10_checkKindAndNeed_41 rfl rfl ?_
        refine r_goto (tgt := 46) C dX10_checkKindAndNeed_42 (by decide) ?_
        refine r_istore (lv' := [(5, _), (4, _), (0, _), (1, _), (2, _), (3, _)]) C dX10_checkKindAndNeed_46 (hn _ (by decide)) rfl ?_
        refine r_iload_n C dX10_checkKindAndNeed_48 rfl rfl ?_
        refine r_iload C dX10_checkKindAndNeed_49 rfl ?_
        refine r_icmp_lt (tgt := 60) C dX10_checkKindAndNeed_51 (by decide) (by omega) (by omega) (fun h51 => ?_) (fun h51 => ?_)
        · skip
          exact x_throw (is := 175) (text := "need is out of range") (cls := "java/lang/IllegalArgumentException") C Tt (by decide +kernel) (by decide +kernel) (by decide +kernel) ti_X10_checkKindAndNeed_60 tn_X10_50 tg_X10_46_50 dX10_checkKindAndNeed_60 dX10_checkKindAndNeed_63 dX10_checkKindAndNeed_64 dX10_checkKindAndNeed_66 dX10_checkKindAndNeed_69 (by decide) (by decide) (Nat.le_of_ble_eq_true rfl) (by decide) (by decide) (⟨rfl, rfl, by omega⟩)
        · skip
          refine r_iload_n C dX10_checkKindAndNeed_54 rfl rfl ?_
          refine r_iload C dX10_checkKindAndNeed_55 rfl ?_
          refine r_icmp_le (tgt := 70) C dX10_checkKindAndNeed_57 (by decide) (by omega) (by omega) (fun h57 => ?_) (fun h57 => ?_)
          · skip
            exact x_vret C Tt (by decide) (by decide) (⟨rfl, rfl, by omega⟩) dX10_checkKindAndNeed_70
          · skip
            exact x_throw (is := 175) (text := "need is out of range") (cls := "java/lang/IllegalArgumentException") C Tt (by decide +kernel) (by decide +kernel) (by decide +kernel) ti_X10_checkKindAndNeed_60 tn_X10_50 tg_X10_46_50 dX10_checkKindAndNeed_60 dX10_checkKindAndNeed_63 dX10_checkKindAndNeed_64 dX10_checkKindAndNeed_66 dX10_checkKindAndNeed_69 (by decide) (by decide) (Nat.le_of_ble_eq_true rfl) (by decide) (by decide) (⟨rfl, rfl, by omega⟩)
  · skip
    refine r_iload_n C dX10_checkKindAndNeed_4 rfl rfl ?_
    refine r_iconst C dX10_checkKindAndNeed_5 ?_
    refine r_icmp_eq (tgt := 24) C dX10_checkKindAndNeed_6 (by decide) (by omega) (by omega) (fun h6 => ?_) (fun h6 => ?_)
    · skip
      refine r_iload_n C dX10_checkKindAndNeed_24 rfl rfl ?_
      refine r_iconst C dX10_checkKindAndNeed_25 ?_
      refine r_icmp_ne (tgt := 33) C dX10_checkKindAndNeed_26 (by decide) (by omega) (by omega) (fun h26 => ?_) (fun h26 => ?_)
      · skip
        refine r_iconst C dX10_checkKindAndNeed_33 ?_
        refine r_istore (lv' := [(4, _), (0, _), (1, _), (2, _), (3, _)]) C dX10_checkKindAndNeed_34 (hn _ (by decide)) rfl ?_
        refine r_iload_n C dX10_checkKindAndNeed_36 rfl rfl ?_
        refine r_iconst C dX10_checkKindAndNeed_37 ?_
        refine r_icmp_ne (tgt := 45) C dX10_checkKindAndNeed_38 (by decide) (by omega) (by omega) (fun h38 => ?_) (fun h38 => ?_)
        · skip
          refine r_iconst C dX10_checkKindAndNeed_45 ?_
          refine r_istore (lv' := [(5, _), (4, _), (0, _), (1, _), (2, _), (3, _)]) C dX10_checkKindAndNeed_46 (hn _ (by decide)) rfl ?_
          refine r_iload_n C dX10_checkKindAndNeed_48 rfl rfl ?_
          refine r_iload C dX10_checkKindAndNeed_49 rfl ?_
          refine r_icmp_lt (tgt := 60) C dX10_checkKindAndNeed_51 (by decide) (by omega) (by omega) (fun h51 => ?_) (fun h51 => ?_)
          · skip
            exact x_throw (is := 175) (text := "need is out of range") (cls := "java/lang/IllegalArgumentException") C Tt (by decide +kernel) (by decide +kernel) (by decide +kernel) ti_X10_checkKindAndNeed_60 tn_X10_50 tg_X10_46_50 dX10_checkKindAndNeed_60 dX10_checkKindAndNeed_63 dX10_checkKindAndNeed_64 dX10_checkKindAndNeed_66 dX10_checkKindAndNeed_69 (by decide) (by decide) (Nat.le_of_ble_eq_true rfl) (by decide) (by decide) (⟨rfl, rfl, by omega⟩)
          · skip
            refine r_iload_n C dX10_checkKindAndNeed_54 rfl rfl ?_
            refine r_iload C dX10_checkKindAndNeed_55 rfl ?_
            refine r_icmp_le (tgt := 70) C dX10_checkKindAndNeed_57 (by decide) (by omega) (by omega) (fun h57 => ?_) (fun h57 => ?_)
            · skip
              exact x_vret C Tt (by decide) (by decide) (⟨rfl, rfl, by omega⟩) dX10_checkKindAndNeed_70
            · skip
              exact x_throw (is := 175) (text := "need is out of range") (cls := "java/lang/IllegalArgumentException") C Tt (by decide +kernel) (by decide +kernel) (by decide +kernel) ti_X10_checkKindAndNeed_60 tn_X10_50 tg_X10_46_50 dX10_checkKindAndNeed_60 dX10_checkKindAndNeed_63 dX10_checkKindAndNeed_64 dX10_checkKindAndNeed_66 dX10_checkKindAndNeed_69 (by decide) (by decide) (Nat.le_of_ble_eq_true rfl) (by decide) (by decide) (⟨rfl, rfl, by omega⟩)
        · skip
          refine r_iload_n C dX10_checkKindAndNeed_41 rfl rfl ?_
          refine r_goto (tgt := 46) C dX10_checkKindAndNeed_42 (by decide) ?_
          refine r_istore (lv' := [(5, _), (4, _), (0, _), (1, _), (2, _), (3, _)]) C dX10_checkKindAndNeed_46 (hn _ (by decide)) rfl ?_
          refine r_iload_n C dX10_checkKindAndNeed_48 rfl rfl ?_
          refine r_iload C dX10_checkKindAndNeed_49 rfl ?_
          refine r_icmp_lt (tgt := 60) C dX10_checkKindAndNeed_51 (by decide) (by omega) (by omega) (fun h51 => ?_) (fun h51 => ?_)
          · skip
            exact x_throw (is := 175) (text := "need is out of range") (cls := "java/lang/IllegalArgumentException") C Tt (by decide +kernel) (by decide +kernel) (by decide +kernel) ti_X10_checkKindAndNeed_60 tn_X10_50 tg_X10_46_50 dX10_checkKindAndNeed_60 dX10_checkKindAndNeed_63 dX10_checkKindAndNeed_64 dX10_checkKindAndNeed_66 dX10_checkKindAndNeed_69 (by decide) (by decide) (Nat.le_of_ble_eq_true rfl) (by decide) (by decide) (⟨rfl, rfl, by omega⟩)
          · skip
            refine r_iload_n C dX10_checkKindAndNeed_54 rfl rfl ?_
            refine r_iload C dX10_checkKindAndNeed_55 rfl ?_
            refine r_icmp_le (tgt := 70) C dX10_checkKindAndNeed_57 (by decide) (by omega) (by omega) (fun h57 => ?_) (fun h57 => ?_)
            · skip
              exact x_vret C Tt (by decide) (by decide) (⟨rfl, rfl, by omega⟩) dX10_checkKindAndNeed_70
            · skip
              exact x_throw (is := 175) (text := "need is out of range") (cls := "java/lang/IllegalArgumentException") C Tt (by decide +kernel) (by decide +kernel) (by decide +kernel) ti_X10_checkKindAndNeed_60 tn_X10_50 tg_X10_46_50 dX10_checkKindAndNeed_60 dX10_checkKindAndNeed_63 dX10_checkKindAndNeed_64 dX10_checkKindAndNeed_66 dX10_checkKindAndNeed_69 (by decide) (by decide) (Nat.le_of_ble_eq_true rfl) (by decide) (by decide) (⟨rfl, rfl, by omega⟩)
      · skip
        refine r_iconst C dX10_checkKindAndNeed_29 ?_
        refine r_goto (tgt := 34) C dX10_checkKindAndNeed_30 (by decide) ?_
        refine r_istore (lv' := [(4, _), (0, _), (1, _), (2, _), (3, _)]) C dX10_checkKindAndNeed_34 (hn _ (by decide)) rfl ?_
        refine r_iload_n C dX10_checkKindAndNeed_36 rfl rfl ?_
        refine r_iconst C dX10_checkKindAndNeed_37 ?_
        refine r_icmp_ne (tgt := 45) C dX10_checkKindAndNeed_38 (by decide) (by omega) (by omega) (fun h38 => ?_) (fun h38 => ?_)
        · skip
          refine r_iconst C dX10_checkKindAndNeed_45 ?_
          refine r_istore (lv' := [(5, _), (4, _), (0, _), (1, _), (2, _), (3, _)]) C dX10_checkKindAndNeed_46 (hn _ (by decide)) rfl ?_
          refine r_iload_n C dX10_checkKindAndNeed_48 rfl rfl ?_
          refine r_iload C dX10_checkKindAndNeed_49 rfl ?_
          refine r_icmp_lt (tgt := 60) C dX10_checkKindAndNeed_51 (by decide) (by omega) (by omega) (fun h51 => ?_) (fun h51 => ?_)
          · skip
            exact x_throw (is := 175) (text := "need is out of range") (cls := "java/lang/IllegalArgumentException") C Tt (by decide +kernel) (by decide +kernel) (by decide +kernel) ti_X10_checkKindAndNeed_60 tn_X10_50 tg_X10_46_50 dX10_checkKindAndNeed_60 dX10_checkKindAndNeed_63 dX10_checkKindAndNeed_64 dX10_checkKindAndNeed_66 dX10_checkKindAndNeed_69 (by decide) (by decide) (Nat.le_of_ble_eq_true rfl) (by decide) (by decide) (⟨rfl, rfl, by omega⟩)
          · skip
            refine r_iload_n C dX10_checkKindAndNeed_54 rfl rfl ?_
            refine r_iload C dX10_checkKindAndNeed_55 rfl ?_
            refine r_icmp_le (tgt := 70) C dX10_checkKindAndNeed_57 (by decide) (by omega) (by omega) (fun h57 => ?_) (fun h57 => ?_)
            · skip
              exact x_vret C Tt (by decide) (by decide) (⟨rfl, rfl, by omega⟩) dX10_checkKindAndNeed_70
            · skip
              exact x_throw (is := 175) (text := "need is out of range") (cls := "java/lang/IllegalArgumentException") C Tt (by decide +kernel) (by decide +kernel) (by decide +kernel) ti_X10_checkKindAndNeed_60 tn_X10_50 tg_X10_46_50 dX10_checkKindAndNeed_60 dX10_checkKindAndNeed_63 dX10_checkKindAndNeed_64 dX10_checkKindAndNeed_66 dX10_checkKindAndNeed_69 (by decide) (by decide) (Nat.le_of_ble_eq_true rfl) (by decide) (by decide) (⟨rfl, rfl, by omega⟩)
        · skip
          refine r_iload_n C dX10_checkKindAndNeed_41 rfl rfl ?_
          refine r_goto (tgt := 46) C dX10_checkKindAndNeed_42 (by decide) ?_
          refine r_istore (lv' := [(5, _), (4, _), (0, _), (1, _), (2, _), (3, _)]) C dX10_checkKindAndNeed_46 (hn _ (by decide)) rfl ?_
          refine r_iload_n C dX10_checkKindAndNeed_48 rfl rfl ?_
          refine r_iload C dX10_checkKindAndNeed_49 rfl ?_
          refine r_icmp_lt (tgt := 60) C dX10_checkKindAndNeed_51 (by decide) (by omega) (by omega) (fun h51 => ?_) (fun h51 => ?_)
          · skip
            exact x_throw (is := 175) (text := "need is out of range") (cls := "java/lang/IllegalArgumentException") C Tt (by decide +kernel) (by decide +kernel) (by decide +kernel) ti_X10_checkKindAndNeed_60 tn_X10_50 tg_X10_46_50 dX10_checkKindAndNeed_60 dX10_checkKindAndNeed_63 dX10_checkKindAndNeed_64 dX10_checkKindAndNeed_66 dX10_checkKindAndNeed_69 (by decide) (by decide) (Nat.le_of_ble_eq_true rfl) (by decide) (by decide) (⟨rfl, rfl, by omega⟩)
          · skip
            refine r_iload_n C dX10_checkKindAndNeed_54 rfl rfl ?_
            refine r_iload C dX10_checkKindAndNeed_55 rfl ?_
            refine r_icmp_le (tgt := 70) C dX10_checkKindAndNeed_57 (by decide) (by omega) (by omega) (fun h57 => ?_) (fun h57 => ?_)
            · skip
              exact x_vret C Tt (by decide) (by decide) (⟨rfl, rfl, by omega⟩) dX10_checkKindAndNeed_70
            · skip
              exact x_throw (is := 175) (text := "need is out of range") (cls := "java/lang/IllegalArgumentException") C Tt (by decide +kernel) (by decide +kernel) (by decide +kernel) ti_X10_checkKindAndNeed_60 tn_X10_50 tg_X10_46_50 dX10_checkKindAndNeed_60 dX10_checkKindAndNeed_63 dX10_checkKindAndNeed_64 dX10_checkKindAndNeed_66 dX10_checkKindAndNeed_69 (by decide) (by decide) (Nat.le_of_ble_eq_true rfl) (by decide) (by decide) (⟨rfl, rfl, by omega⟩)
    · skip
      refine r_iload_n C dX10_checkKindAndNeed_9 rfl rfl ?_
      refine r_iconst C dX10_checkKindAndNeed_10 ?_
      refine r_icmp_eq (tgt := 24) C dX10_checkKindAndNeed_11 (by decide) (by omega) (by omega) (fun h11 => ?_) (fun h11 => ?_)
      · skip
        refine r_iload_n C dX10_checkKindAndNeed_24 rfl rfl ?_
        refine r_iconst C dX10_checkKindAndNeed_25 ?_
        refine r_icmp_ne (tgt := 33) C dX10_checkKindAndNeed_26 (by decide) (by omega) (by omega) (fun h26 => ?_) (fun h26 => ?_)
        · skip
          refine r_iconst C dX10_checkKindAndNeed_33 ?_
          refine r_istore (lv' := [(4, _), (0, _), (1, _), (2, _), (3, _)]) C dX10_checkKindAndNeed_34 (hn _ (by decide)) rfl ?_
          refine r_iload_n C dX10_checkKindAndNeed_36 rfl rfl ?_
          refine r_iconst C dX10_checkKindAndNeed_37 ?_
          refine r_icmp_ne (tgt := 45) C dX10_checkKindAndNeed_38 (by decide) (by omega) (by omega) (fun h38 => ?_) (fun h38 => ?_)
          · skip
            refine r_iconst C dX10_checkKindAndNeed_45 ?_
            refine r_istore (lv' := [(5, _), (4, _), (0, _), (1, _), (2, _), (3, _)]) C dX10_checkKindAndNeed_46 (hn _ (by decide)) rfl ?_
            refine r_iload_n C dX10_checkKindAndNeed_48 rfl rfl ?_
            refine r_iload C dX10_checkKindAndNeed_49 rfl ?_
            refine r_icmp_lt (tgt := 60) C dX10_checkKindAndNeed_51 (by decide) (by omega) (by omega) (fun h51 => ?_) (fun h51 => ?_)
            · skip
              exact x_throw (is := 175) (text := "need is out of range") (cls := "java/lang/IllegalArgumentException") C Tt (by decide +kernel) (by decide +kernel) (by decide +kernel) ti_X10_checkKindAndNeed_60 tn_X10_50 tg_X10_46_50 dX10_checkKindAndNeed_60 dX10_checkKindAndNeed_63 dX10_checkKindAndNeed_64 dX10_checkKindAndNeed_66 dX10_checkKindAndNeed_69 (by decide) (by decide) (Nat.le_of_ble_eq_true rfl) (by decide) (by decide) (⟨rfl, rfl, by omega⟩)
            · skip
              refine r_iload_n C dX10_checkKindAndNeed_54 rfl rfl ?_
              refine r_iload C dX10_checkKindAndNeed_55 rfl ?_
              refine r_icmp_le (tgt := 70) C dX10_checkKindAndNeed_57 (by decide) (by omega) (by omega) (fun h57 => ?_) (fun h57 => ?_)
              · skip
                exact x_vret C Tt (by decide) (by decide) (⟨rfl, rfl, by omega⟩) dX10_checkKindAndNeed_70
              · skip
                exact x_throw (is := 175) (text := "need is out of range") (cls := "java/lang/IllegalArgumentException") C Tt (by decide +kernel) (by decide +kernel) (by decide +kernel) ti_X10_checkKindAndNeed_60 tn_X10_50 tg_X10_46_50 dX10_checkKindAndNeed_60 dX10_checkKindAndNeed_63 dX10_checkKindAndNeed_64 dX10_checkKindAndNeed_66 dX10_checkKindAndNeed_69 (by decide) (by decide) (Nat.le_of_ble_eq_true rfl) (by decide) (by decide) (⟨rfl, rfl, by omega⟩)
          · skip
            refine r_iload_n C dX10_checkKindAndNeed_41 rfl rfl ?_
            refine r_goto (tgt := 46) C dX10_checkKindAndNeed_42 (by decide) ?_
            refine r_istore (lv' := [(5, _), (4, _), (0, _), (1, _), (2, _), (3, _)]) C dX10_checkKindAndNeed_46 (hn _ (by decide)) rfl ?_
            refine r_iload_n C dX10_checkKindAndNeed_48 rfl rfl ?_
            refine r_iload C dX10_checkKindAndNeed_49 rfl ?_
            refine r_icmp_lt (tgt := 60) C dX10_checkKindAndNeed_51 (by decide) (by omega) (by omega) (fun h51 => ?_) (fun h51 => ?_)
            · skip
              exact x_throw (is := 175) (text := "need is out of range") (cls := "java/lang/IllegalArgumentException") C Tt (by decide +kernel) (by decide +kernel) (by decide +kernel) ti_X10_checkKindAndNeed_60 tn_X10_50 tg_X10_46_50 dX10_checkKindAndNeed_60 dX10_checkKindAndNeed_63 dX10_checkKindAndNeed_64 dX10_checkKindAndNeed_66 dX10_checkKindAndNeed_69 (by decide) (by decide) (Nat.le_of_ble_eq_true rfl) (by decide) (by decide) (⟨rfl, rfl, by omega⟩)
            · skip
              refine r_iload_n C dX10_checkKindAndNeed_54 rfl rfl ?_
              refine r_iload C dX10_checkKindAndNeed_55 rfl ?_
              refine r_icmp_le (tgt := 70) C dX10_checkKindAndNeed_57 (by decide) (by omega) (by omega) (fun h57 => ?_) (fun h57 => ?_)
              · skip
                exact x_vret C Tt (by decide) (by decide) (⟨rfl, rfl, by omega⟩) dX10_checkKindAndNeed_70
              · skip
                exact x_throw (is := 175) (text := "need is out of range") (cls := "java/lang/IllegalArgumentException") C Tt (by decide +kernel) (by decide +kernel) (by decide +kernel) ti_X10_checkKindAndNeed_60 tn_X10_50 tg_X10_46_50 dX10_checkKindAndNeed_60 dX10_checkKindAndNeed_63 dX10_checkKindAndNeed_64 dX10_checkKindAndNeed_66 dX10_checkKindAndNeed_69 (by decide) (by decide) (Nat.le_of_ble_eq_true rfl) (by decide) (by decide) (⟨rfl, rfl, by omega⟩)
        · skip
          refine r_iconst C dX10_checkKindAndNeed_29 ?_
          refine r_goto (tgt := 34) C dX10_checkKindAndNeed_30 (by decide) ?_
          refine r_istore (lv' := [(4, _), (0, _), (1, _), (2, _), (3, _)]) C dX10_checkKindAndNeed_34 (hn _ (by decide)) rfl ?_
          refine r_iload_n C dX10_checkKindAndNeed_36 rfl rfl ?_
          refine r_iconst C dX10_checkKindAndNeed_37 ?_
          refine r_icmp_ne (tgt := 45) C dX10_checkKindAndNeed_38 (by decide) (by omega) (by omega) (fun h38 => ?_) (fun h38 => ?_)
          · skip
            refine r_iconst C dX10_checkKindAndNeed_45 ?_
            refine r_istore (lv' := [(5, _), (4, _), (0, _), (1, _), (2, _), (3, _)]) C dX10_checkKindAndNeed_46 (hn _ (by decide)) rfl ?_
            refine r_iload_n C dX10_checkKindAndNeed_48 rfl rfl ?_
            refine r_iload C dX10_checkKindAndNeed_49 rfl ?_
            refine r_icmp_lt (tgt := 60) C dX10_checkKindAndNeed_51 (by decide) (by omega) (by omega) (fun h51 => ?_) (fun h51 => ?_)
            · skip
              exact x_throw (is := 175) (text := "need is out of range") (cls := "java/lang/IllegalArgumentException") C Tt (by decide +kernel) (by decide +kernel) (by decide +kernel) ti_X10_checkKindAndNeed_60 tn_X10_50 tg_X10_46_50 dX10_checkKindAndNeed_60 dX10_checkKindAndNeed_63 dX10_checkKindAndNeed_64 dX10_checkKindAndNeed_66 dX10_checkKindAndNeed_69 (by decide) (by decide) (Nat.le_of_ble_eq_true rfl) (by decide) (by decide) (⟨rfl, rfl, by omega⟩)
            · skip
              refine r_iload_n C dX10_checkKindAndNeed_54 rfl rfl ?_
              refine r_iload C dX10_checkKindAndNeed_55 rfl ?_
              refine r_icmp_le (tgt := 70) C dX10_checkKindAndNeed_57 (by decide) (by omega) (by omega) (fun h57 => ?_) (fun h57 => ?_)
              · skip
                exact x_vret C Tt (by decide) (by decide) (⟨rfl, rfl, by omega⟩) dX10_checkKindAndNeed_70
              · skip
                exact x_throw (is := 175) (text := "need is out of range") (cls := "java/lang/IllegalArgumentException") C Tt (by decide +kernel) (by decide +kernel) (by decide +kernel) ti_X10_checkKindAndNeed_60 tn_X10_50 tg_X10_46_50 dX10_checkKindAndNeed_60 dX10_checkKindAndNeed_63 dX10_checkKindAndNeed_64 dX10_checkKindAndNeed_66 dX10_checkKindAndNeed_69 (by decide) (by decide) (Nat.le_of_ble_eq_true rfl) (by decide) (by decide) (⟨rfl, rfl, by omega⟩)
          · skip
            refine r_iload_n C dX10_checkKindAndNeed_41 rfl rfl ?_
            refine r_goto (tgt := 46) C dX10_checkKindAndNeed_42 (by decide) ?_
            refine r_istore (lv' := [(5, _), (4, _), (0, _), (1, _), (2, _), (3, _)]) C dX10_checkKindAndNeed_46 (hn _ (by decide)) rfl ?_
            refine r_iload_n C dX10_checkKindAndNeed_48 rfl rfl ?_
            refine r_iload C dX10_checkKindAndNeed_49 rfl ?_
            refine r_icmp_lt (tgt := 60) C dX10_checkKindAndNeed_51 (by decide) (by omega) (by omega) (fun h51 => ?_) (fun h51 => ?_)
            · skip
              exact x_throw (is := 175) (text := "need is out of range") (cls := "java/lang/IllegalArgumentException") C Tt (by decide +kernel) (by decide +kernel) (by decide +kernel) ti_X10_checkKindAndNeed_60 tn_X10_50 tg_X10_46_50 dX10_checkKindAndNeed_60 dX10_checkKindAndNeed_63 dX10_checkKindAndNeed_64 dX10_checkKindAndNeed_66 dX10_checkKindAndNeed_69 (by decide) (by decide) (Nat.le_of_ble_eq_true rfl) (by decide) (by decide) (⟨rfl, rfl, by omega⟩)
            · skip
              refine r_iload_n C dX10_checkKindAndNeed_54 rfl rfl ?_
              refine r_iload C dX10_checkKindAndNeed_55 rfl ?_
              refine r_icmp_le (tgt := 70) C dX10_checkKindAndNeed_57 (by decide) (by omega) (by omega) (fun h57 => ?_) (fun h57 => ?_)
              · skip
                exact x_vret C Tt (by decide) (by decide) (⟨rfl, rfl, by omega⟩) dX10_checkKindAndNeed_70
              · skip
                exact x_throw (is := 175) (text := "need is out of range") (cls := "java/lang/IllegalArgumentException") C Tt (by decide +kernel) (by decide +kernel) (by decide +kernel) ti_X10_checkKindAndNeed_60 tn_X10_50 tg_X10_46_50 dX10_checkKindAndNeed_60 dX10_checkKindAndNeed_63 dX10_checkKindAndNeed_64 dX10_checkKindAndNeed_66 dX10_checkKindAndNeed_69 (by decide) (by decide) (Nat.le_of_ble_eq_true rfl) (by decide) (by decide) (⟨rfl, rfl, by omega⟩)
      · skip
        exact x_throw (is := 173) (text := "kind is out of range") (cls := "java/lang/IllegalArgumentException") C Tt (by decide +kernel) (by decide +kernel) (by decide +kernel) ti_X10_checkKindAndNeed_14 tn_X10_50 tg_X10_46_50 dX10_checkKindAndNeed_14 dX10_checkKindAndNeed_17 dX10_checkKindAndNeed_18 dX10_checkKindAndNeed_20 dX10_checkKindAndNeed_23 (by decide) (by decide) (Nat.le_of_ble_eq_true rfl) (by decide) (by decide) (⟨rfl, rfl, by omega⟩)
set_option maxHeartbeats 4000000 in
set_option maxRecDepth 100000 in
theorem c_checkRun (S : ST) (hb : iv S 15 2 0 = 0 ∨ iv S 15 2 0 = 1) : CtX yX10_checkRun wsX10_checkRun 6 1 [vr (some (0, 0))] S (fun v S1 => v = none ∧ S1 = S ∧ iv S 15 2 0 = 1) (fun E S1 => S1 = S ∧ E = "java/lang/IllegalStateException" ∧ iv S 15 2 0 = 0) := by
  refine CtX.of (nL := 1) (by decide) rfl (Nat.le_of_ble_eq_true rfl) (by decide) (fun X C Tt hnL => ?_)
  have hcl1 : 0 + 1 ≤ X.1.2.2.2.1.cells := Nat.le_trans (by decide) Tt.room.1
  have hsl1 : 0 + 6 * 1 ≤ X.1.2.2.2.1.slots := Nat.le_trans (by decide) Tt.room.2
  have hn : ∀ i, i < 1 → i < X.2.2.2.2.2 := fun i h => by rw [hnL]; exact h
  refine r_aload_n C dX10_checkRun_0 rfl rfl ?_
  refine r_getf C mid_0 (hp_0 _) rfl 3 (by decide) in_X10_checkRun_X10 lk_X10_checkRun_38 (Or.inl rfl) rfl dX10_checkRun_1 ?_
  refine r_getf C mid_15 (hp_15 _) rfl 2 (by decide) in_X10_checkRun_X6 lk_X10_checkRun_177 (Or.inl rfl) rfl dX10_checkRun_4 ?_
  refine r_if_ne (tgt := 20) C dX10_checkRun_7 (by decide) (by omega) (fun h7 => ?_) (fun h7 => ?_)
  · skip
    exact x_vret C Tt (by decide) (by decide) (⟨rfl, rfl, by omega⟩) dX10_checkRun_20
  · skip
    exact x_throw (is := 181) (text := "there is no run") (cls := "java/lang/IllegalStateException") C Tt (by decide +kernel) (by decide +kernel) (by decide +kernel) ti_X10_checkRun_10 tn_X10_94 tg_X10_90_94 dX10_checkRun_10 dX10_checkRun_13 dX10_checkRun_14 dX10_checkRun_16 dX10_checkRun_19 (by decide) (by decide) (Nat.le_of_ble_eq_true rfl) (by decide) (by decide) (⟨rfl, rfl, by omega⟩)
set_option maxHeartbeats 4000000 in
set_option maxRecDepth 100000 in
theorem c_put (S : ST) (d w : Int) (hd : -2147483648 ≤ d ∧ d < 2147483648) (hw : -2147483648 ≤ w ∧ w < 2147483648) (hCI : CI S)  : CtX yX10_put wsX10_put 7 2 [vr (some (0, 0)), vi d, vi w] S (fun v S1 => v = some (vi (b2i (thr S d.toNat))) ∧ S1 = sa S 2 0 d.toNat w ∧ (0 ≤ d ∧ d < 40) ∧ 0 ≤ w ∧ w ≤ 255) (fun E S1 => S1 = S ∧ ((E = "java/lang/IndexOutOfBoundsException" ∧ ¬ (0 ≤ d ∧ d < 40)) ∨ (E = "java/lang/IllegalArgumentException" ∧ (0 ≤ d ∧ d < 40) ∧ ¬ (0 ≤ w ∧ w ≤ 255)))) := by
  refine CtX.of (nL := 3) (by decide) rfl (Nat.le_of_ble_eq_true rfl) (by decide) (fun X C Tt hnL => ?_)
  have hcl1 : 0 + 1 ≤ X.1.2.2.2.1.cells := Nat.le_trans (by decide) Tt.room.1
  have hsl1 : 0 + 6 * 1 ≤ X.1.2.2.2.1.slots := Nat.le_trans (by decide) Tt.room.2
  have hcl2 : 0 + 1 + 1 ≤ X.1.2.2.2.1.cells := Nat.le_trans (by decide) Tt.room.1
  have hsl2 : 0 + 6 * 1 + 6 * 1 ≤ X.1.2.2.2.1.slots := Nat.le_trans (by decide) Tt.room.2
  have hn : ∀ i, i < 3 → i < X.2.2.2.2.2 := fun i h => by rw [hnL]; exact h
  refine r_aload_n C dX10_put_0 rfl rfl ?_
  refine r_iload_n C dX10_put_1 rfl rfl ?_
  refine x_callV (as := [_]) (na := 1) (rest := []) C Tt mid_0 (hp_0 _) rfl (c_checkDocument S d hd) gX10_put_X10_checkDocument (by decide +kernel) (by decide) (by decide) rfl (Nat.le_of_ble_eq_true rfl) rfl dX10_put_2 rfl (by decide) (by decide) (fun E S1 h => ⟨h.1, Or.inl ⟨h.2.1, h.2.2⟩⟩) (fun v1 S1 hp1 => ?_)
  obtain ⟨rfl, e9, hr1⟩ := hp1
  subst S1
  refine r_iload_n C dX10_put_5 rfl rfl ?_
  refine r_if_lt (tgt := 16) C dX10_put_6 (by decide) (by omega) (fun h6 => ?_) (fun h6 => ?_)
  · skip
    exact x_throw (is := 48) (text := "words is out of range") (cls := "java/lang/IllegalArgumentException") C Tt (by decide +kernel) (by decide +kernel) (by decide +kernel) ti_X10_put_16 tn_X10_50 tg_X10_46_50 dX10_put_16 dX10_put_19 dX10_put_20 dX10_put_22 dX10_put_25 (by decide) (by decide) (Nat.le_of_ble_eq_true rfl) (by decide) (by decide) (⟨rfl, Or.inr ⟨rfl, hr1, by omega⟩⟩)
  · skip
    refine r_iload_n C dX10_put_9 rfl rfl ?_
    refine r_sipush C dX10_put_10 (by decide) ?_
    refine r_icmp_le (tgt := 26) C dX10_put_13 (by decide) (by omega) (by omega) (fun h13 => ?_) (fun h13 => ?_)
    · skip
      refine r_aload_n C dX10_put_26 rfl rfl ?_
      refine r_getf C mid_0 (hp_0 _) rfl 0 (by decide) in_X10_put_X10 lk_X10_put_10 (Or.inl rfl) rfl dX10_put_27 ?_
      refine r_iload_n C dX10_put_30 rfl rfl ?_
      refine At_val (v' := vi (d.toNat : Int)) (by rw [Int.toNat_of_nonneg hr1.1]) ?_
      refine r_iload_n C dX10_put_31 rfl rfl ?_
      refine r_callV (as := [_, _]) (na := 2) (rest := []) C mid_1 (hp_1 _) rfl (c_replace S d.toNat w (by omega) (by omega) hCI.2.1) gX10_put_X7_replace (by decide +kernel) (by decide) (by decide) rfl (Nat.le_of_ble_eq_true rfl) rfl dX10_put_32 rfl (fun v1 S1 hp1 => ?_)
      obtain ⟨rfl, e9⟩ := hp1
      subst S1
      exact x_zret C Tt (b2i_01 _) (by decide) (by decide) (⟨rfl, rfl, hr1, by omega⟩) dX10_put_35
    · skip
      exact x_throw (is := 48) (text := "words is out of range") (cls := "java/lang/IllegalArgumentException") C Tt (by decide +kernel) (by decide +kernel) (by decide +kernel) ti_X10_put_16 tn_X10_50 tg_X10_46_50 dX10_put_16 dX10_put_19 dX10_put_20 dX10_put_22 dX10_put_25 (by decide) (by decide) (Nat.le_of_ble_eq_true rfl) (by decide) (by decide) (⟨rfl, Or.inr ⟨rfl, hr1, by omega⟩⟩)
set_option maxHeartbeats 4000000 in
set_option maxRecDepth 100000 in
theorem c_drop (S : ST) (d : Int) (hd : -2147483648 ≤ d ∧ d < 2147483648) (hCI : CI S)  : CtX yX10_drop wsX10_drop 7 1 [vr (some (0, 0)), vi d] S (fun v S1 => v = some (vi (b2i (thr S d.toNat))) ∧ S1 = sa S 2 0 d.toNat (-1) ∧ (0 ≤ d ∧ d < 40)) (fun E S1 => S1 = S ∧ E = "java/lang/IndexOutOfBoundsException" ∧ ¬ (0 ≤ d ∧ d < 40)) := by
  refine CtX.of (nL := 2) (by decide) rfl (Nat.le_of_ble_eq_true rfl) (by decide) (fun X C Tt hnL => ?_)
  have hcl1 : 0 + 1 ≤ X.1.2.2.2.1.cells := Nat.le_trans (by decide) Tt.room.1
  have hsl1 : 0 + 6 * 1 ≤ X.1.2.2.2.1.slots := Nat.le_trans (by decide) Tt.room.2
  have hn : ∀ i, i < 2 → i < X.2.2.2.2.2 := fun i h => by rw [hnL]; exact h
  refine r_aload_n C dX10_drop_0 rfl rfl ?_
  refine r_iload_n C dX10_drop_1 rfl rfl ?_
  refine x_callV (as := [_]) (na := 1) (rest := []) C Tt mid_0 (hp_0 _) rfl (c_checkDocument S d hd) gX10_drop_X10_checkDocument (by decide +kernel) (by decide) (by decide) rfl (Nat.le_of_ble_eq_true rfl) rfl dX10_drop_2 rfl (by decide) (by decide) (fun E S1 h => h) (fun v1 S1 hp1 => ?_)
  obtain ⟨rfl, e9, hr1⟩ := hp1
  subst S1
  refine r_aload_n C dX10_drop_5 rfl rfl ?_
  refine r_getf C mid_0 (hp_0 _) rfl 0 (by decide) in_X10_drop_X10 lk_X10_drop_10 (Or.inl rfl) rfl dX10_drop_6 ?_
  refine r_iload_n C dX10_drop_9 rfl rfl ?_
  refine At_val (v' := vi (d.toNat : Int)) (by rw [Int.toNat_of_nonneg hr1.1]) ?_
  refine r_iconst C dX10_drop_10 ?_
  refine r_callV (as := [_, _]) (na := 2) (rest := []) C mid_1 (hp_1 _) rfl (c_replace S d.toNat (-1) (by omega) (by omega) hCI.2.1) gX10_drop_X7_replace (by decide +kernel) (by decide) (by decide) rfl (Nat.le_of_ble_eq_true rfl) rfl dX10_drop_11 rfl (fun v1 S1 hp1 => ?_)
  obtain ⟨rfl, e9⟩ := hp1
  subst S1
  exact x_zret C Tt (b2i_01 _) (by decide) (by decide) (⟨rfl, rfl, hr1⟩) dX10_drop_14
set_option maxHeartbeats 4000000 in
set_option maxRecDepth 100000 in
theorem c_documents (S : ST) (hCI : CI S)  : Ct yX10_documents wsX10_documents 3 [vr (some (0, 0))] S (fun v S1 => v = some (vi ((pop (bset (thr S) 40) : Nat) : Int)) ∧ S1 = S) := by
  refine Ct.of (nL := 1) (by decide) rfl (Nat.le_of_ble_eq_true rfl) (by decide) (fun X C Rr hnL => ?_)
  have hn : ∀ i, i < 1 → i < X.2.2.2.2.2 := fun i h => by rw [hnL]; exact h
  refine r_aload_n C dX10_documents_0 rfl rfl ?_
  refine r_getf C mid_0 (hp_0 _) rfl 0 (by decide) in_X10_documents_X10 lk_X10_documents_10 (Or.inl rfl) rfl dX10_documents_1 ?_
  refine r_callV (as := []) (na := 0) (rest := []) C mid_1 (hp_1 _) rfl (c_allThere S hCI.2.1) gX10_documents_X7_allThere (by decide +kernel) (by decide) (by decide) rfl (Nat.le_of_ble_eq_true rfl) rfl dX10_documents_4 rfl (fun v1 S1 hp1 => ?_)
  obtain ⟨rfl, e9⟩ := hp1
  subst S1
  refine r_callS (as := [_]) (na := 1) (rest := []) C (c_bitCount S (bset (thr S) 40) (bset40 _)) gX10_documents_J13_bitCount_95d88 (by decide +kernel) (by decide) (by decide) rfl (Nat.le_of_ble_eq_true rfl) rfl dX10_documents_7 rfl (fun v1 S1 hp1 => ?_)
  obtain ⟨rfl, e9⟩ := hp1
  subst S1
  exact r_iret C Rr (⟨rfl, rfl⟩) dX10_documents_10
set_option maxHeartbeats 4000000 in
set_option maxRecDepth 100000 in
theorem c_count (S : ST) (d : Int) (hd : -2147483648 ≤ d ∧ d < 2147483648) (hCI : CI S)  : CtX yX10_count wsX10_count 7 1 [vr (some (0, 0)), vi d] S (fun v S1 => v = some (vi ((pop (bset (tru S (2 * d.toNat)) 40) : Nat) : Int)) ∧ S1 = S ∧ 0 ≤ d ∧ d < 8) (fun E S1 => S1 = S ∧ E = "java/lang/IndexOutOfBoundsException" ∧ ¬ (0 ≤ d ∧ d < 8)) := by
  refine CtX.of (nL := 2) (by decide) rfl (Nat.le_of_ble_eq_true rfl) (by decide) (fun X C Tt hnL => ?_)
  have hcl1 : 0 + 1 ≤ X.1.2.2.2.1.cells := Nat.le_trans (by decide) Tt.room.1
  have hsl1 : 0 + 6 * 1 ≤ X.1.2.2.2.1.slots := Nat.le_trans (by decide) Tt.room.2
  have hn : ∀ i, i < 2 → i < X.2.2.2.2.2 := fun i h => by rw [hnL]; exact h
  refine r_aload_n C dX10_count_0 rfl rfl ?_
  refine r_iload_n C dX10_count_1 rfl rfl ?_
  refine x_callV (as := [_]) (na := 1) (rest := []) C Tt mid_0 (hp_0 _) rfl (c_checkWord S d hd) gX10_count_X10_checkWord (by decide +kernel) (by decide) (by decide) rfl (Nat.le_of_ble_eq_true rfl) rfl dX10_count_2 rfl (by decide) (by decide) (fun E S1 h => h) (fun v1 S1 hp1 => ?_)
  obtain ⟨rfl, e9, hr1⟩ := hp1
  subst S1
  refine r_aload_n C dX10_count_5 rfl rfl ?_
  refine r_getf C mid_0 (hp_0 _) rfl 0 (by decide) in_X10_count_X10 lk_X10_count_10 (Or.inl rfl) rfl dX10_count_6 ?_
  refine r_iload_n C dX10_count_9 rfl rfl ?_
  refine r_iconst C dX10_count_10 ?_
  refine r_callS (as := [_, _]) (na := 2) (rest := [_]) C (c_codeOf S d 0 hr1 (Or.inl rfl)) gX10_count_X10_codeOf (by decide +kernel) (by decide) (by decide) rfl (Nat.le_of_ble_eq_true rfl) rfl dX10_count_11 rfl (fun v1 S1 hp1 => ?_)
  obtain ⟨rfl, e9⟩ := hp1
  subst S1
  refine At_val (v' := vi ((2 * d.toNat : Nat) : Int)) (by congr 1; omega) ?_
  refine r_callV (as := [_]) (na := 1) (rest := []) C mid_1 (hp_1 _) rfl (c_truthsOf S (2 * d.toNat) (by omega) hCI.2.1) gX10_count_X7_truthsOf (by decide +kernel) (by decide) (by decide) rfl (Nat.le_of_ble_eq_true rfl) rfl dX10_count_14 rfl (fun v1 S1 hp1 => ?_)
  obtain ⟨rfl, e9⟩ := hp1
  subst S1
  refine r_callS (as := [_]) (na := 1) (rest := []) C (c_bitCount S (bset (tru S (2 * d.toNat)) 40) (bset40 _)) gX10_count_J13_bitCount_95d88 (by decide +kernel) (by decide) (by decide) rfl (Nat.le_of_ble_eq_true rfl) rfl dX10_count_17 rfl (fun v1 S1 hp1 => ?_)
  obtain ⟨rfl, e9⟩ := hp1
  subst S1
  exact x_iret C Tt (by decide) (by decide) (⟨rfl, rfl, hr1⟩) dX10_count_20
set_option maxHeartbeats 4000000 in
set_option maxRecDepth 100000 in
theorem c_ask (S : ST) (kd nd : Int) (hkd : -2147483648 ≤ kd ∧ kd < 2147483648) (hnd : -2147483648 ≤ nd ∧ nd < 2147483648) (hCI : CI S)  : CtX yX10_ask wsX10_ask 7 1 [vr (some (0, 0)), vi kd, vi nd] S (fun v S1 => v = some (vi (iv S 3 3 0)) ∧ S1 = si (si (si S 3 1 0 kd) 3 2 0 nd) 3 3 0 0 ∧ ((kd = 0 ∧ nd = 0) ∨ (kd = 1 ∧ nd = 0) ∨ (kd = 2 ∧ 1 ≤ nd ∧ nd ≤ 5))) (fun E S1 => S1 = S ∧ E = "java/lang/IllegalArgumentException" ∧ ¬ ((kd = 0 ∧ nd = 0) ∨ (kd = 1 ∧ nd = 0) ∨ (kd = 2 ∧ 1 ≤ nd ∧ nd ≤ 5))) := by
  refine CtX.of (nL := 3) (by decide) rfl (Nat.le_of_ble_eq_true rfl) (by decide) (fun X C Tt hnL => ?_)
  have hcl1 : 0 + 1 ≤ X.1.2.2.2.1.cells := Nat.le_trans (by decide) Tt.room.1
  have hsl1 : 0 + 6 * 1 ≤ X.1.2.2.2.1.slots := Nat.le_trans (by decide) Tt.room.2
  have hn : ∀ i, i < 3 → i < X.2.2.2.2.2 := fun i h => by rw [hnL]; exact h
  refine r_aload_n C dX10_ask_0 rfl rfl ?_
  refine r_iload_n C dX10_ask_1 rfl rfl ?_
  refine r_iload_n C dX10_ask_2 rfl rfl ?_
  refine r_iconst C dX10_ask_3 ?_
  refine x_callV (as := [_, _, _]) (na := 3) (rest := []) C Tt mid_0 (hp_0 _) rfl (c_checkKN S kd nd 5 hkd hnd (by decide)) gX10_ask_X10_checkKindAndNeed (by decide +kernel) (by decide) (by decide) rfl (Nat.le_of_ble_eq_true rfl) rfl dX10_ask_4 rfl (by decide) (by decide) (fun E S1 h => h) (fun v1 S1 hp1 => ?_)
  obtain ⟨rfl, e9, hr1⟩ := hp1
  subst S1
  refine r_aload_n C dX10_ask_7 rfl rfl ?_
  refine r_getf C mid_0 (hp_0 _) rfl 1 (by decide) in_X10_ask_X10 lk_X10_ask_19 (Or.inl rfl) rfl dX10_ask_8 ?_
  refine r_iload_n C dX10_ask_11 rfl rfl ?_
  refine r_iload_n C dX10_ask_12 rfl rfl ?_
  refine r_callV (as := [_, _]) (na := 2) (rest := []) C mid_3 (hp_3 _) rfl (c_Qrestart S kd nd) gX10_ask_X5_restart (by decide +kernel) (by decide) (by decide) rfl (Nat.le_of_ble_eq_true rfl) rfl dX10_ask_13 rfl (fun v1 S1 hp1 => ?_)
  obtain ⟨rfl, e9⟩ := hp1
  subst S1
  exact x_iret C Tt (by decide) (by decide) (⟨rfl, rfl, hr1⟩) dX10_ask_16
set_option maxHeartbeats 4000000 in
set_option maxRecDepth 100000 in
theorem c_clause (S : ST) (kd nd b : Int) (hkd : -2147483648 ≤ kd ∧ kd < 2147483648) (hnd : -2147483648 ≤ nd ∧ nd < 2147483648) (hb : b = 0 ∨ b = 1) (hCI : CI S)  : CtX yX10_clause wsX10_clause 7 2 [vr (some (0, 0)), vi kd, vi nd, vi b] S (fun v S1 => v = some (vi (iv S 3 3 0)) ∧ S1 = si (si (si (si (si S 5 1 (iv S 3 3 0).toNat kd) 5 2 (iv S 3 3 0).toNat nd) 5 3 (iv S 3 3 0).toNat b) 5 4 (iv S 3 3 0).toNat 0) 3 3 0 (iv S 3 3 0 + 1) ∧ ((kd = 0 ∧ nd = 0) ∨ (kd = 1 ∧ nd = 0) ∨ (kd = 2 ∧ 1 ≤ nd ∧ nd ≤ 6)) ∧ iv S 3 3 0 < 5) (fun E S1 => S1 = S ∧ ((E = "java/lang/IllegalArgumentException" ∧ ¬ ((kd = 0 ∧ nd = 0) ∨ (kd = 1 ∧ nd = 0) ∨ (kd = 2 ∧ 1 ≤ nd ∧ nd ≤ 6))) ∨ (E = "java/lang/IllegalStateException" ∧ ((kd = 0 ∧ nd = 0) ∨ (kd = 1 ∧ nd = 0) ∨ (kd = 2 ∧ 1 ≤ nd ∧ nd ≤ 6)) ∧ ¬ iv S 3 3 0 < 5))) := by
  refine CtX.of (nL := 5) (by decide) rfl (Nat.le_of_ble_eq_true rfl) (by decide) (fun X C Tt hnL => ?_)
  have hcl1 : 0 + 1 ≤ X.1.2.2.2.1.cells := Nat.le_trans (by decide) Tt.room.1
  have hsl1 : 0 + 6 * 1 ≤ X.1.2.2.2.1.slots := Nat.le_trans (by decide) Tt.room.2
  have hcl2 : 0 + 1 + 1 ≤ X.1.2.2.2.1.cells := Nat.le_trans (by decide) Tt.room.1
  have hsl2 : 0 + 6 * 1 + 6 * 1 ≤ X.1.2.2.2.1.slots := Nat.le_trans (by decide) Tt.room.2
  have hn : ∀ i, i < 5 → i < X.2.2.2.2.2 := fun i h => by rw [hnL]; exact h
  obtain ⟨hq3, -⟩ := id hCI.2.2
  refine r_aload_n C dX10_clause_0 rfl rfl ?_
  refine r_iload_n C dX10_clause_1 rfl rfl ?_
  refine r_iload_n C dX10_clause_2 rfl rfl ?_
  refine r_bipush C dX10_clause_3 (by decide) ?_
  refine x_callV (as := [_, _, _]) (na := 3) (rest := []) C Tt mid_0 (hp_0 _) rfl (c_checkKN S kd nd 6 hkd hnd (by decide)) gX10_clause_X10_checkKindAndNeed (by decide +kernel) (by decide) (by decide) rfl (Nat.le_of_ble_eq_true rfl) rfl dX10_clause_5 rfl (by decide) (by decide) (fun E S1 h => ⟨h.1, Or.inl h.2⟩) (fun v1 S1 hp1 => ?_)
  obtain ⟨rfl, e9, hr1⟩ := hp1
  subst S1
  refine r_aload_n C dX10_clause_8 rfl rfl ?_
  refine r_getf C mid_0 (hp_0 _) rfl 1 (by decide) in_X10_clause_X10 lk_X10_clause_19 (Or.inl rfl) rfl dX10_clause_9 ?_
  refine r_iload_n C dX10_clause_12 rfl rfl ?_
  refine r_iload_n C dX10_clause_13 rfl rfl ?_
  by_cases hlt : iv S 3 3 0 < 5
  · skip
    refine r_iload_n C dX10_clause_14 rfl rfl ?_
    refine r_callV (as := [_, _, _]) (na := 3) (rest := []) C mid_3 (hp_3 _) rfl (c_Qappend S kd nd b hb hq3) gX10_clause_X5_append (by decide +kernel) (by decide) (by decide) rfl (Nat.le_of_ble_eq_true rfl) rfl dX10_clause_15 rfl (fun v1 S1 hp1 => ?_)
    obtain ⟨rfl, e9⟩ := hp1
    rw [if_pos hlt] at e9 ⊢
    refine r_istore (lv' := [(4, _), (0, _), (1, _), (2, _), (3, _)]) C dX10_clause_18 (hn _ (by decide)) rfl ?_
    refine r_iload C dX10_clause_20 rfl ?_
    refine r_iconst C dX10_clause_22 ?_
    refine r_icmp_ne (tgt := 36) C dX10_clause_23 (by decide) (by omega) (by omega) (fun h23 => ?_) (fun h23 => ?_)
    · skip
      refine r_iload C dX10_clause_36 rfl ?_
      exact x_iret C Tt (by decide) (by decide) (⟨rfl, e9, hr1, hlt⟩) dX10_clause_38
    · exact absurd h23 (by omega)
  · skip
    refine r_iload_n C dX10_clause_14 rfl rfl ?_
    refine r_callV (as := [_, _, _]) (na := 3) (rest := []) C mid_3 (hp_3 _) rfl (c_Qappend S kd nd b hb hq3) gX10_clause_X5_append (by decide +kernel) (by decide) (by decide) rfl (Nat.le_of_ble_eq_true rfl) rfl dX10_clause_15 rfl (fun v1 S1 hp1 => ?_)
    obtain ⟨rfl, e9⟩ := hp1
    rw [if_neg hlt] at e9 ⊢
    refine r_istore (lv' := [(4, _), (0, _), (1, _), (2, _), (3, _)]) C dX10_clause_18 (hn _ (by decide)) rfl ?_
    refine r_iload C dX10_clause_20 rfl ?_
    refine r_iconst C dX10_clause_22 ?_
    refine r_icmp_ne (tgt := 36) C dX10_clause_23 (by decide) (by omega) (by omega) (fun h23 => ?_) (fun h23 => ?_)
    · exact absurd h23 (by omega)
    exact x_throw (is := 92) (text := "the question has 5 clauses") (cls := "java/lang/IllegalStateException") C Tt (by decide +kernel) (by decide +kernel) (by decide +kernel) ti_X10_clause_26 tn_X10_94 tg_X10_90_94 dX10_clause_26 dX10_clause_29 dX10_clause_30 dX10_clause_32 dX10_clause_35 (by decide) (by decide) (Nat.le_of_ble_eq_true rfl) (by decide) (by decide) (⟨e9, Or.inr ⟨rfl, hr1, hlt⟩⟩)
set_option maxHeartbeats 4000000 in
set_option maxRecDepth 100000 in
theorem c_literal (S : ST) (cn wd b : Int) (hcn : -2147483648 ≤ cn ∧ cn < 2147483648) (hwd : -2147483648 ≤ wd ∧ wd < 2147483648) (hb : b = 0 ∨ b = 1) (hCI : CI S)  : CtX yX10_literal wsX10_literal 7 2 [vr (some (0, 0)), vi cn, vi wd, vi b] S (fun v S1 => v = some (vi (iv S 5 4 cn.toNat + 1)) ∧ S1 = si (sa S 6 cn.toNat (iv S 5 4 cn.toNat).toNat (2 * wd + b)) 5 4 cn.toNat (iv S 5 4 cn.toNat + 1) ∧ (0 ≤ cn ∧ cn < iv S 3 3 0) ∧ (0 ≤ wd ∧ wd < 8) ∧ iv S 5 4 cn.toNat < 6) (fun E S1 => S1 = S ∧ ((E = "java/lang/IndexOutOfBoundsException" ∧ ¬ ((0 ≤ cn ∧ cn < iv S 3 3 0) ∧ (0 ≤ wd ∧ wd < 8))) ∨ (E = "java/lang/IllegalStateException" ∧ (0 ≤ cn ∧ cn < iv S 3 3 0) ∧ (0 ≤ wd ∧ wd < 8) ∧ ¬ iv S 5 4 cn.toNat < 6))) := by
  refine CtX.of (nL := 5) (by decide) rfl (Nat.le_of_ble_eq_true rfl) (by decide) (fun X C Tt hnL => ?_)
  have hcl1 : 0 + 1 ≤ X.1.2.2.2.1.cells := Nat.le_trans (by decide) Tt.room.1
  have hsl1 : 0 + 6 * 1 ≤ X.1.2.2.2.1.slots := Nat.le_trans (by decide) Tt.room.2
  have hcl2 : 0 + 1 + 1 ≤ X.1.2.2.2.1.cells := Nat.le_trans (by decide) Tt.room.1
  have hsl2 : 0 + 6 * 1 + 6 * 1 ≤ X.1.2.2.2.1.slots := Nat.le_trans (by decide) Tt.room.2
  have hn : ∀ i, i < 5 → i < X.2.2.2.2.2 := fun i h => by rw [hnL]; exact h
  obtain ⟨hq3, -, -, hq4⟩ := id hCI.2.2
  refine r_aload_n C dX10_literal_0 rfl rfl ?_
  refine r_getf C mid_0 (hp_0 _) rfl 1 (by decide) in_X10_literal_X10 lk_X10_literal_19 (Or.inl rfl) rfl dX10_literal_1 ?_
  by_cases hin : 0 ≤ cn ∧ cn < iv S 3 3 0
  · skip
    refine r_iload_n C dX10_literal_4 rfl rfl ?_
    refine r_callV (as := [_]) (na := 1) (rest := []) C mid_3 (hp_3 _) rfl (c_toldAt S cn hcn hq3) gX10_literal_X5_toldAt (by decide +kernel) (by decide) (by decide) rfl (Nat.le_of_ble_eq_true rfl) rfl dX10_literal_5 rfl (fun v1 S1 hp1 => ?_)
    obtain ⟨rfl, e9⟩ := hp1
    subst S1
    refine At_val (v' := vr (some (5, cn.toNat))) (by rw [if_pos hin]) ?_
    obtain ⟨-, -, -, hz, -⟩ := hq4 cn.toNat (by omega)
    refine r_astore (lv' := [(4, _), (0, _), (1, _), (2, _), (3, _)]) C dX10_literal_8 (hn _ (by decide)) rfl ?_
    refine r_aload C dX10_literal_10 rfl ?_
    refine r_ifnonnull (tgt := 25) C dX10_literal_12 (by decide) (fun i12 h12 => ?_) (fun h => by cases h)
    clear h12
    refine r_aload_n C dX10_literal_25 rfl rfl ?_
    refine r_iload_n C dX10_literal_26 rfl rfl ?_
    refine x_callV (as := [_]) (na := 1) (rest := []) C Tt mid_0 (hp_0 _) rfl (c_checkWord S wd hwd) gX10_literal_X10_checkWord (by decide +kernel) (by decide) (by decide) rfl (Nat.le_of_ble_eq_true rfl) rfl dX10_literal_27 rfl (by decide) (by decide) (fun E S1 h => ⟨h.1, Or.inl ⟨h.2.1, fun q => h.2.2 q.2⟩⟩) (fun v1 S1 hp1 => ?_)
    obtain ⟨rfl, e9, hr1⟩ := hp1
    subst S1
    refine r_aload C dX10_literal_30 rfl ?_
    refine r_iload_n C dX10_literal_32 rfl rfl ?_
    refine r_iload_n C dX10_literal_33 rfl rfl ?_
    refine r_callS (as := [_, _]) (na := 2) (rest := [_]) C (c_codeOf S wd b hr1 hb) gX10_literal_X10_codeOf (by decide +kernel) (by decide) (by decide) rfl (Nat.le_of_ble_eq_true rfl) rfl dX10_literal_34 rfl (fun v1 S1 hp1 => ?_)
    obtain ⟨rfl, e9⟩ := hp1
    subst S1
    refine r_callV (as := [_]) (na := 1) (rest := []) C (mid_5 (by omega)) (hp_5 _ _) rfl (c_Tappend S cn.toNat (2 * wd + b) (by omega) hz) gX10_literal_X9_append (by decide +kernel) (by decide) (by decide) rfl (Nat.le_of_ble_eq_true rfl) rfl dX10_literal_37 rfl (fun v1 S1 hp1 => ?_)
    obtain ⟨rfl, e9⟩ := hp1
    refine r_if_ne (tgt := 53) C dX10_literal_40 (by decide) (by have := b2i_01 (decide (iv S 5 4 cn.toNat < 6)); omega) (fun h40 => ?_) (fun h40 => ?_)
    · skip
      have hnl := of_decide_eq_true (b2i_1 h40)
      rw [if_pos hnl] at e9
      subst S1
      refine r_aload C dX10_literal_53 rfl ?_
      refine r_getf C (mid_5 (by omega)) (hp_5 _ _) rfl 4 (by decide) in_X10_literal_X9 lk_X10_literal_111 (Or.inl rfl) rfl dX10_literal_55 ?_
      exact x_iret C Tt (by decide) (by decide) (⟨by simp [iv, si, sa, up3], rfl, hin, hr1, hnl⟩) dX10_literal_58
    · skip
      have hnl := of_decide_eq_false (b2i_0 h40)
      exact x_throw (is := 109) (text := "the clause has 6 literals") (cls := "java/lang/IllegalStateException") C Tt (by decide +kernel) (by decide +kernel) (by decide +kernel) ti_X10_literal_43 tn_X10_94 tg_X10_90_94 dX10_literal_43 dX10_literal_46 dX10_literal_47 dX10_literal_49 dX10_literal_52 (by decide) (by decide) (Nat.le_of_ble_eq_true rfl) (by decide) (by decide) (⟨by rw [e9, if_neg hnl], Or.inr ⟨rfl, hin, hr1, hnl⟩⟩)
  · skip
    refine r_iload_n C dX10_literal_4 rfl rfl ?_
    refine r_callV (as := [_]) (na := 1) (rest := []) C mid_3 (hp_3 _) rfl (c_toldAt S cn hcn hq3) gX10_literal_X5_toldAt (by decide +kernel) (by decide) (by decide) rfl (Nat.le_of_ble_eq_true rfl) rfl dX10_literal_5 rfl (fun v1 S1 hp1 => ?_)
    obtain ⟨rfl, e9⟩ := hp1
    subst S1
    refine At_val (v' := vr none) (by rw [if_neg hin]) ?_
    refine r_astore (lv' := [(4, _), (0, _), (1, _), (2, _), (3, _)]) C dX10_literal_8 (hn _ (by decide)) rfl ?_
    refine r_aload C dX10_literal_10 rfl ?_
    refine r_ifnonnull (tgt := 25) C dX10_literal_12 (by decide) (fun i12 h12 => by cases h12) (fun h12 => ?_)
    clear h12
    exact x_throw (is := 101) (text := "there is no such clause") (cls := "java/lang/IndexOutOfBoundsException") C Tt (by decide +kernel) (by decide +kernel) (by decide +kernel) ti_X10_literal_15 tn_X10_103 tg_X10_99_103 dX10_literal_15 dX10_literal_18 dX10_literal_19 dX10_literal_21 dX10_literal_24 (by decide) (by decide) (Nat.le_of_ble_eq_true rfl) (by decide) (by decide) (⟨rfl, Or.inl ⟨rfl, fun q => hin q.1⟩⟩)
set_option maxHeartbeats 4000000 in
set_option maxRecDepth 100000 in
theorem c_isHit (S : ST) (d : Int) (hd : 0 ≤ d ∧ d < 40) (hCI : CI S)  : Ct yX10_isHit wsX10_isHit 3 [vr (some (0, 0)), vi d] S (fun v S1 => v = some (vi (b2i (thr S d.toNat && qT S (ai S 2 0 d.toNat).toNat))) ∧ S1 = S) := by
  refine Ct.of (nL := 3) (by decide) rfl (Nat.le_of_ble_eq_true rfl) (by decide) (fun X C Rr hnL => ?_)
  have hn : ∀ i, i < 3 → i < X.2.2.2.2.2 := fun i h => by rw [hnL]; exact h
  have hWd := hCI.2.1 d.toNat (by omega)
  refine r_aload_n C dX10_isHit_0 rfl rfl ?_
  refine r_getf C mid_0 (hp_0 _) rfl 0 (by decide) in_X10_isHit_X10 lk_X10_isHit_10 (Or.inl rfl) rfl dX10_isHit_1 ?_
  refine r_iload_n C dX10_isHit_4 rfl rfl ?_
  refine r_callV (as := [_]) (na := 1) (rest := []) C mid_1 (hp_1 _) rfl (c_wordsAt S d (by omega) hCI.2.1) gX10_isHit_X7_wordsAt (by decide +kernel) (by decide) (by decide) rfl (Nat.le_of_ble_eq_true rfl) rfl dX10_isHit_5 rfl (fun v1 S1 hp1 => ?_)
  obtain ⟨rfl, e9⟩ := hp1
  subst S1
  refine At_val (v' := vi (ai S 2 0 d.toNat)) (by rw [if_pos hd]) ?_
  refine r_istore_n (lv' := [(2, _), (0, _), (1, _)]) C dX10_isHit_8 rfl (hn _ (by decide)) rfl ?_
  refine r_iload_n C dX10_isHit_9 rfl rfl ?_
  refine r_iconst C dX10_isHit_10 ?_
  refine r_icmp_eq (tgt := 29) C dX10_isHit_11 (by decide) (by omega) (by omega) (fun h11 => ?_) (fun h11 => ?_)
  · skip
    refine r_iconst C dX10_isHit_29 ?_
    exact r_zret C Rr (by decide) (⟨by rw [b2i_f (by rw [show thr S d.toNat = false from decide_eq_false (by omega), Bool.false_and])], rfl⟩) dX10_isHit_30
  · skip
    refine r_aload_n C dX10_isHit_14 rfl rfl ?_
    refine r_getf C mid_0 (hp_0 _) rfl 1 (by decide) in_X10_isHit_X10 lk_X10_isHit_19 (Or.inl rfl) rfl dX10_isHit_15 ?_
    refine r_iload_n C dX10_isHit_18 rfl rfl ?_
    refine At_val (v' := vi ((ai S 2 0 d.toNat).toNat : Int)) (by rw [Int.toNat_of_nonneg (by omega)]) ?_
    refine r_callV (as := [_]) (na := 1) (rest := []) C mid_3 (hp_3 _) rfl (c_QisTrueOf S (ai S 2 0 d.toNat).toNat (by omega) hCI.2.2) gX10_isHit_X5_isTrueOf (by decide +kernel) (by decide) (by decide) rfl (Nat.le_of_ble_eq_true rfl) rfl dX10_isHit_19 rfl (fun v1 S1 hp1 => ?_)
    obtain ⟨rfl, e9⟩ := hp1
    subst S1
    refine r_if_eq (tgt := 29) C dX10_isHit_22 (by decide) (by have := b2i_01 (qT S (ai S 2 0 d.toNat).toNat); omega) (fun h22 => ?_) (fun h22 => ?_)
    · skip
      refine r_iconst C dX10_isHit_29 ?_
      exact r_zret C Rr (by decide) (⟨by rw [b2i_f (by rw [b2i_0 h22, Bool.and_false])], rfl⟩) dX10_isHit_30
    · skip
      refine r_iconst C dX10_isHit_25 ?_
      refine r_goto (tgt := 30) C dX10_isHit_26 (by decide) ?_
      exact r_zret C Rr (by decide) (⟨by rw [b2i_t (by rw [show thr S d.toNat = true from decide_eq_true (by omega), b2i_1 h22]; rfl)], rfl⟩) dX10_isHit_30
set_option maxHeartbeats 4000000 in
set_option maxRecDepth 100000 in
theorem c_matches (S : ST) (d : Int) (hd : -2147483648 ≤ d ∧ d < 2147483648) (hCI : CI S)  : CtX yX10_matches wsX10_matches 7 1 [vr (some (0, 0)), vi d] S (fun v S1 => v = some (vi (b2i (thr S d.toNat && qT S (ai S 2 0 d.toNat).toNat))) ∧ S1 = S ∧ 0 ≤ d ∧ d < 40) (fun E S1 => S1 = S ∧ E = "java/lang/IndexOutOfBoundsException" ∧ ¬ (0 ≤ d ∧ d < 40)) := by
  refine CtX.of (nL := 2) (by decide) rfl (Nat.le_of_ble_eq_true rfl) (by decide) (fun X C Tt hnL => ?_)
  have hcl1 : 0 + 1 ≤ X.1.2.2.2.1.cells := Nat.le_trans (by decide) Tt.room.1
  have hsl1 : 0 + 6 * 1 ≤ X.1.2.2.2.1.slots := Nat.le_trans (by decide) Tt.room.2
  have hn : ∀ i, i < 2 → i < X.2.2.2.2.2 := fun i h => by rw [hnL]; exact h
  refine r_aload_n C dX10_matches_0 rfl rfl ?_
  refine r_iload_n C dX10_matches_1 rfl rfl ?_
  refine x_callV (as := [_]) (na := 1) (rest := []) C Tt mid_0 (hp_0 _) rfl (c_checkDocument S d hd) gX10_matches_X10_checkDocument (by decide +kernel) (by decide) (by decide) rfl (Nat.le_of_ble_eq_true rfl) rfl dX10_matches_2 rfl (by decide) (by decide) (fun E S1 h => h) (fun v1 S1 hp1 => ?_)
  obtain ⟨rfl, e9, hr1⟩ := hp1
  subst S1
  refine r_aload_n C dX10_matches_5 rfl rfl ?_
  refine r_iload_n C dX10_matches_6 rfl rfl ?_
  refine r_callV (as := [_]) (na := 1) (rest := []) C mid_0 (hp_0 _) rfl (c_isHit S d hr1 hCI) gX10_matches_X10_isHit (by decide +kernel) (by decide) (by decide) rfl (Nat.le_of_ble_eq_true rfl) rfl dX10_matches_7 rfl (fun v1 S1 hp1 => ?_)
  obtain ⟨rfl, e9⟩ := hp1
  subst S1
  exact x_zret C Tt (b2i_01 _) (by decide) (by decide) (⟨rfl, rfl, hr1⟩) dX10_matches_10
set_option maxHeartbeats 4000000 in
set_option maxRecDepth 100000 in
theorem c_hits (S : ST) (hCI : CI S)  : Ct yX10_hits wsX10_hits 4 [vr (some (0, 0))] S (fun v S1 => v = some (vi ((cnt (fun d => thr S d && qT S (ai S 2 0 d).toNat) 0 40 : Nat) : Int)) ∧ S1 = S) := by
  refine Ct.of (nL := 3) (by decide) rfl (Nat.le_of_ble_eq_true rfl) (by decide) (fun X C Rr hnL => ?_)
  have hn : ∀ i, i < 3 → i < X.2.2.2.2.2 := fun i h => by rw [hnL]; exact h
  refine r_iconst C dX10_hits_0 ?_
  refine r_istore_n (lv' := [(1, _), (0, _)]) C dX10_hits_1 rfl (hn _ (by decide)) rfl ?_
  refine r_iconst C dX10_hits_2 ?_
  refine r_istore_n (lv' := [(2, _), (1, _), (0, _)]) C dX10_hits_3 rfl (hn _ (by decide)) rfl ?_
  have loop4 : ∀ (k i : Nat) (hk : 40 - i < k) (hi : i ≤ 40), At X 0 0 4 [(0, vr (some (0, 0))), (1, vi ((cnt (fun d => thr S d && qT S (ai S 2 0 d).toNat) 0 i : Nat) : Int)), (2, vi (i : Int))] [] S := by
    intro kf
    induction kf with
    | zero => intro i hk hi; exact absurd hk (by omega)
    | succ kf ih =>
      intro i hk hi
      have hcl := cnt_le (fun d => thr S d && qT S (ai S 2 0 d).toNat) 0 i
      refine r_iload_n C dX10_hits_4 rfl rfl ?_
      refine r_bipush C dX10_hits_5 (by decide) ?_
      refine r_icmp_ge (tgt := 27) C dX10_hits_7 (by decide) (by omega) (by omega) (fun h7 => ?_) (fun h7 => ?_)
      · skip
        refine r_iload_n C dX10_hits_27 rfl rfl ?_
        exact r_iret C Rr (⟨by rw [show i = 40 by omega], rfl⟩) dX10_hits_28
      · skip
        refine r_aload_n C dX10_hits_10 rfl rfl ?_
        refine r_iload_n C dX10_hits_11 rfl rfl ?_
        refine r_callV (as := [_]) (na := 1) (rest := []) C mid_0 (hp_0 _) rfl (c_isHit S (i : Int) (by omega) hCI) gX10_hits_X10_isHit (by decide +kernel) (by decide) (by decide) rfl (Nat.le_of_ble_eq_true rfl) rfl dX10_hits_12 rfl (fun v1 S1 hp1 => ?_)
        obtain ⟨rfl, e9⟩ := hp1
        subst S1
        refine r_if_eq (tgt := 21) C dX10_hits_15 (by decide) (by have := b2i_01 (thr S (i : Int).toNat && qT S (ai S 2 0 (i : Int).toNat).toNat); omega) (fun h15 => ?_) (fun h15 => ?_)
        · skip
          have e1 : cnt (fun d => thr S d && qT S (ai S 2 0 d).toNat) 0 (i + 1) = cnt (fun d => thr S d && qT S (ai S 2 0 d).toNat) 0 i := cnt0_no (b2i_0 h15)
          refine r_iinc (lv' := [(2, _), (0, _), (1, _)]) C dX10_hits_21 rfl (hn _ (by decide)) rfl ?_
          refine r_goto (tgt := 4) C dX10_hits_24 (by decide) ?_
          exact At_lv (by simp [e1]) (ih (i + 1) (by omega) (by omega))
        · skip
          have e1 : cnt (fun d => thr S d && qT S (ai S 2 0 d).toNat) 0 (i + 1) = cnt (fun d => thr S d && qT S (ai S 2 0 d).toNat) 0 i + 1 := cnt0_yes (b2i_1 h15)
          refine r_iinc (lv' := [(1, _), (0, _), (2, _)]) C dX10_hits_18 rfl (hn _ (by decide)) rfl ?_
          refine r_iinc (lv' := [(2, _), (1, _), (0, _)]) C dX10_hits_21 rfl (hn _ (by decide)) rfl ?_
          refine r_goto (tgt := 4) C dX10_hits_24 (by decide) ?_
          exact At_lv (by simp [e1]) (ih (i + 1) (by omega) (by omega))
  exact At_lv (by simp [cnt]) (loop4 41 0 (by omega) (by omega))
set_option maxHeartbeats 4000000 in
set_option maxRecDepth 100000 in
theorem c_planKind (S : ST) (hCI : CI S)  : Ct yX10_planKind wsX10_planKind 5 [vr (some (0, 0))] S (fun v S1 => v = some (vi (iv (pmkF 0 S) 8 1 0)) ∧ S1 = pmkF 0 S) := by
  refine Ct.of (nL := 1) (by decide) rfl (Nat.le_of_ble_eq_true rfl) (by decide) (fun X C Rr hnL => ?_)
  have hn : ∀ i, i < 1 → i < X.2.2.2.2.2 := fun i h => by rw [hnL]; exact h
  refine r_aload_n C dX10_planKind_0 rfl rfl ?_
  refine r_getf C mid_0 (hp_0 _) rfl 2 (by decide) in_X10_planKind_X10 lk_X10_planKind_31 (Or.inl rfl) rfl dX10_planKind_1 ?_
  refine r_aload_n C dX10_planKind_4 rfl rfl ?_
  refine r_getf C mid_0 (hp_0 _) rfl 1 (by decide) in_X10_planKind_X10 lk_X10_planKind_19 (Or.inl rfl) rfl dX10_planKind_5 ?_
  refine r_aload_n C dX10_planKind_8 rfl rfl ?_
  refine r_getf C mid_0 (hp_0 _) rfl 0 (by decide) in_X10_planKind_X10 lk_X10_planKind_10 (Or.inl rfl) rfl dX10_planKind_9 ?_
  refine r_callV (as := [_, _]) (na := 2) (rest := []) C (mid_8 (by decide)) (hp_8 _ _) rfl (c_Pmake S 0 (by decide) hCI.1 hCI.2.1 hCI.2.2) gX10_planKind_X2_make (by decide +kernel) (by decide) (by decide) rfl (Nat.le_of_ble_eq_true rfl) rfl dX10_planKind_12 rfl (fun v1 S1 hp1 => ?_)
  obtain ⟨rfl, e9⟩ := hp1
  subst S1
  refine r_aload_n C dX10_planKind_15 rfl rfl ?_
  refine r_getf C mid_0 (hp_0 _) rfl 2 (by decide) in_X10_planKind_X10 lk_X10_planKind_31 (Or.inl rfl) rfl dX10_planKind_16 ?_
  refine r_getf C (mid_8 (by decide)) (hp_8 _ _) rfl 1 (by decide) in_X10_planKind_X2 lk_X10_planKind_122 (Or.inr sm_X10_planKind_Plan_kind) rfl dX10_planKind_19 ?_
  exact r_iret C Rr (⟨rfl, rfl⟩) dX10_planKind_22
set_option maxHeartbeats 4000000 in
set_option maxRecDepth 100000 in
theorem c_planSize (S : ST) (hCI : CI S)  : Ct yX10_planSize wsX10_planSize 5 [vr (some (0, 0))] S (fun v S1 => v = some (vi (iv (pmkF 0 S) 8 3 0)) ∧ S1 = pmkF 0 S) := by
  refine Ct.of (nL := 1) (by decide) rfl (Nat.le_of_ble_eq_true rfl) (by decide) (fun X C Rr hnL => ?_)
  have hn : ∀ i, i < 1 → i < X.2.2.2.2.2 := fun i h => by rw [hnL]; exact h
  refine r_aload_n C dX10_planSize_0 rfl rfl ?_
  refine r_getf C mid_0 (hp_0 _) rfl 2 (by decide) in_X10_planSize_X10 lk_X10_planSize_31 (Or.inl rfl) rfl dX10_planSize_1 ?_
  refine r_aload_n C dX10_planSize_4 rfl rfl ?_
  refine r_getf C mid_0 (hp_0 _) rfl 1 (by decide) in_X10_planSize_X10 lk_X10_planSize_19 (Or.inl rfl) rfl dX10_planSize_5 ?_
  refine r_aload_n C dX10_planSize_8 rfl rfl ?_
  refine r_getf C mid_0 (hp_0 _) rfl 0 (by decide) in_X10_planSize_X10 lk_X10_planSize_10 (Or.inl rfl) rfl dX10_planSize_9 ?_
  refine r_callV (as := [_, _]) (na := 2) (rest := []) C (mid_8 (by decide)) (hp_8 _ _) rfl (c_Pmake S 0 (by decide) hCI.1 hCI.2.1 hCI.2.2) gX10_planSize_X2_make (by decide +kernel) (by decide) (by decide) rfl (Nat.le_of_ble_eq_true rfl) rfl dX10_planSize_12 rfl (fun v1 S1 hp1 => ?_)
  obtain ⟨rfl, e9⟩ := hp1
  subst S1
  refine r_aload_n C dX10_planSize_15 rfl rfl ?_
  refine r_getf C mid_0 (hp_0 _) rfl 2 (by decide) in_X10_planSize_X10 lk_X10_planSize_31 (Or.inl rfl) rfl dX10_planSize_16 ?_
  refine r_getf C (mid_8 (by decide)) (hp_8 _ _) rfl 3 (by decide) in_X10_planSize_X2 lk_X10_planSize_128 (Or.inr sm_X10_planSize_Plan_size) rfl dX10_planSize_19 ?_
  exact r_iret C Rr (⟨rfl, rfl⟩) dX10_planSize_22
set_option maxHeartbeats 4000000 in
set_option maxRecDepth 100000 in
theorem c_estimate (S : ST) (hCI : CI S)  : Ct yX10_estimate wsX10_estimate 5 [vr (some (0, 0))] S (fun v S1 => v = some (vi (iv (pmkF 0 S) 8 6 0)) ∧ S1 = pmkF 0 S) := by
  refine Ct.of (nL := 1) (by decide) rfl (Nat.le_of_ble_eq_true rfl) (by decide) (fun X C Rr hnL => ?_)
  have hn : ∀ i, i < 1 → i < X.2.2.2.2.2 := fun i h => by rw [hnL]; exact h
  refine r_aload_n C dX10_estimate_0 rfl rfl ?_
  refine r_getf C mid_0 (hp_0 _) rfl 2 (by decide) in_X10_estimate_X10 lk_X10_estimate_31 (Or.inl rfl) rfl dX10_estimate_1 ?_
  refine r_aload_n C dX10_estimate_4 rfl rfl ?_
  refine r_getf C mid_0 (hp_0 _) rfl 1 (by decide) in_X10_estimate_X10 lk_X10_estimate_19 (Or.inl rfl) rfl dX10_estimate_5 ?_
  refine r_aload_n C dX10_estimate_8 rfl rfl ?_
  refine r_getf C mid_0 (hp_0 _) rfl 0 (by decide) in_X10_estimate_X10 lk_X10_estimate_10 (Or.inl rfl) rfl dX10_estimate_9 ?_
  refine r_callV (as := [_, _]) (na := 2) (rest := []) C (mid_8 (by decide)) (hp_8 _ _) rfl (c_Pmake S 0 (by decide) hCI.1 hCI.2.1 hCI.2.2) gX10_estimate_X2_make (by decide +kernel) (by decide) (by decide) rfl (Nat.le_of_ble_eq_true rfl) rfl dX10_estimate_12 rfl (fun v1 S1 hp1 => ?_)
  obtain ⟨rfl, e9⟩ := hp1
  subst S1
  refine r_aload_n C dX10_estimate_15 rfl rfl ?_
  refine r_getf C mid_0 (hp_0 _) rfl 2 (by decide) in_X10_estimate_X10 lk_X10_estimate_31 (Or.inl rfl) rfl dX10_estimate_16 ?_
  refine r_getf C (mid_8 (by decide)) (hp_8 _ _) rfl 6 (by decide) in_X10_estimate_X2 lk_X10_estimate_129 (Or.inr sm_X10_estimate_Plan_estimate) rfl dX10_estimate_19 ?_
  exact r_iret C Rr (⟨rfl, rfl⟩) dX10_estimate_22
set_option maxHeartbeats 4000000 in
set_option maxRecDepth 100000 in
theorem c_planNeed (S : ST) (hCI : CI S)  : Ct yX10_planNeed wsX10_planNeed 5 [vr (some (0, 0))] S (fun v S1 => v = some (vi (if iv (pmkF 0 S) 8 1 0 = 2 then iv (pmkF 0 S) 8 2 0 else 0)) ∧ S1 = pmkF 0 S) := by
  refine Ct.of (nL := 1) (by decide) rfl (Nat.le_of_ble_eq_true rfl) (by decide) (fun X C Rr hnL => ?_)
  have hn : ∀ i, i < 1 → i < X.2.2.2.2.2 := fun i h => by rw [hnL]; exact h
  have hPo := pmkF_ok (S := S) (y := 0) (by decide) hCI.1 hCI.2.2
  have hPk := (hPo.1.2.2 0 (by decide)).1.1
  refine r_aload_n C dX10_planNeed_0 rfl rfl ?_
  refine r_getf C mid_0 (hp_0 _) rfl 2 (by decide) in_X10_planNeed_X10 lk_X10_planNeed_31 (Or.inl rfl) rfl dX10_planNeed_1 ?_
  refine r_aload_n C dX10_planNeed_4 rfl rfl ?_
  refine r_getf C mid_0 (hp_0 _) rfl 1 (by decide) in_X10_planNeed_X10 lk_X10_planNeed_19 (Or.inl rfl) rfl dX10_planNeed_5 ?_
  refine r_aload_n C dX10_planNeed_8 rfl rfl ?_
  refine r_getf C mid_0 (hp_0 _) rfl 0 (by decide) in_X10_planNeed_X10 lk_X10_planNeed_10 (Or.inl rfl) rfl dX10_planNeed_9 ?_
  refine r_callV (as := [_, _]) (na := 2) (rest := []) C (mid_8 (by decide)) (hp_8 _ _) rfl (c_Pmake S 0 (by decide) hCI.1 hCI.2.1 hCI.2.2) gX10_planNeed_X2_make (by decide +kernel) (by decide) (by decide) rfl (Nat.le_of_ble_eq_true rfl) rfl dX10_planNeed_12 rfl (fun v1 S1 hp1 => ?_)
  obtain ⟨rfl, e9⟩ := hp1
  subst S1
  refine r_aload_n C dX10_planNeed_15 rfl rfl ?_
  refine r_getf C mid_0 (hp_0 _) rfl 2 (by decide) in_X10_planNeed_X10 lk_X10_planNeed_31 (Or.inl rfl) rfl dX10_planNeed_16 ?_
  refine r_getf C (mid_8 (by decide)) (hp_8 _ _) rfl 1 (by decide) in_X10_planNeed_X2 lk_X10_planNeed_122 (Or.inr sm_X10_planNeed_Plan_kind) rfl dX10_planNeed_19 ?_
  refine r_iconst C dX10_planNeed_22 ?_
  refine r_icmp_ne (tgt := 36) C dX10_planNeed_23 (by decide) (by omega) (by omega) (fun h23 => ?_) (fun h23 => ?_)
  · skip
    refine r_iconst C dX10_planNeed_36 ?_
    exact r_iret C Rr (⟨by rw [if_neg h23], rfl⟩) dX10_planNeed_37
  · skip
    refine r_aload_n C dX10_planNeed_26 rfl rfl ?_
    refine r_getf C mid_0 (hp_0 _) rfl 2 (by decide) in_X10_planNeed_X10 lk_X10_planNeed_31 (Or.inl rfl) rfl dX10_planNeed_27 ?_
    refine r_getf C (mid_8 (by decide)) (hp_8 _ _) rfl 2 (by decide) in_X10_planNeed_X2 lk_X10_planNeed_125 (Or.inr sm_X10_planNeed_Plan_need) rfl dX10_planNeed_30 ?_
    refine r_goto (tgt := 37) C dX10_planNeed_33 (by decide) ?_
    exact r_iret C Rr (⟨by rw [if_pos h23], rfl⟩) dX10_planNeed_37
set_option maxHeartbeats 4000000 in
set_option maxRecDepth 100000 in
theorem c_plannedClause (S : ST) (d : Int) (hd : -2147483648 ≤ d ∧ d < 2147483648) (hCI : CI S)  : CtX yX10_plannedClause wsX10_plannedClause 6 1 [vr (some (0, 0)), vi d] S (fun v S1 => v = some (vr (some (11, (pa (pmkF 0 S) 9 0 d.toNat % 5)))) ∧ S1 = pmkF 0 S ∧ (0 ≤ d ∧ d < iv (pmkF 0 S) 8 3 0)) (fun E S1 => S1 = pmkF 0 S ∧ E = "java/lang/IllegalArgumentException" ∧ ¬ (0 ≤ d ∧ d < iv (pmkF 0 S) 8 3 0)) := by
  refine CtX.of (nL := 3) (by decide) rfl (Nat.le_of_ble_eq_true rfl) (by decide) (fun X C Tt hnL => ?_)
  have hcl1 : 0 + 1 ≤ X.1.2.2.2.1.cells := Nat.le_trans (by decide) Tt.room.1
  have hsl1 : 0 + 6 * 1 ≤ X.1.2.2.2.1.slots := Nat.le_trans (by decide) Tt.room.2
  have hn : ∀ i, i < 3 → i < X.2.2.2.2.2 := fun i h => by rw [hnL]; exact h
  have hPo := pmkF_ok (S := S) (y := 0) (by decide) hCI.1 hCI.2.2
  refine r_aload_n C dX10_plannedClause_0 rfl rfl ?_
  refine r_getf C mid_0 (hp_0 _) rfl 2 (by decide) in_X10_plannedClause_X10 lk_X10_plannedClause_31 (Or.inl rfl) rfl dX10_plannedClause_1 ?_
  refine r_aload_n C dX10_plannedClause_4 rfl rfl ?_
  refine r_getf C mid_0 (hp_0 _) rfl 1 (by decide) in_X10_plannedClause_X10 lk_X10_plannedClause_19 (Or.inl rfl) rfl dX10_plannedClause_5 ?_
  refine r_aload_n C dX10_plannedClause_8 rfl rfl ?_
  refine r_getf C mid_0 (hp_0 _) rfl 0 (by decide) in_X10_plannedClause_X10 lk_X10_plannedClause_10 (Or.inl rfl) rfl dX10_plannedClause_9 ?_
  refine r_callV (as := [_, _]) (na := 2) (rest := []) C (mid_8 (by decide)) (hp_8 _ _) rfl (c_Pmake S 0 (by decide) hCI.1 hCI.2.1 hCI.2.2) gX10_plannedClause_X2_make (by decide +kernel) (by decide) (by decide) rfl (Nat.le_of_ble_eq_true rfl) rfl dX10_plannedClause_12 rfl (fun v1 S1 hp1 => ?_)
  obtain ⟨rfl, e9⟩ := hp1
  subst S1
  refine r_aload_n C dX10_plannedClause_15 rfl rfl ?_
  refine r_getf C mid_0 (hp_0 _) rfl 2 (by decide) in_X10_plannedClause_X10 lk_X10_plannedClause_31 (Or.inl rfl) rfl dX10_plannedClause_16 ?_
  by_cases hin : (0 ≤ d ∧ d < iv (pmkF 0 S) 8 3 0)
  · skip
    refine r_iload_n C dX10_plannedClause_19 rfl rfl ?_
    refine r_callV (as := [_]) (na := 1) (rest := []) C (mid_8 (by decide)) (hp_8 _ _) rfl (c_plannedAt (pmkF 0 S) 0 d (by decide) hd hPo.1) gX10_plannedClause_X2_plannedAt (by decide +kernel) (by decide) (by decide) rfl (Nat.le_of_ble_eq_true rfl) rfl dX10_plannedClause_20 rfl (fun v1 S1 hp1 => ?_)
    obtain ⟨rfl, e9⟩ := hp1
    subst S1
    refine At_val (v' := vr (some (11, (pa (pmkF 0 S) 9 0 d.toNat % 5)))) (by rw [if_pos hin, show 5 * 0 + pa (pmkF 0 S) 9 0 d.toNat % 5 = pa (pmkF 0 S) 9 0 d.toNat % 5 by omega]) ?_
    refine r_astore_n (lv' := [(2, _), (0, _), (1, _)]) C dX10_plannedClause_23 rfl (hn _ (by decide)) rfl ?_
    refine r_aload_n C dX10_plannedClause_24 rfl rfl ?_
    refine r_ifnonnull (tgt := 38) C dX10_plannedClause_25 (by decide) (fun i25 h25 => ?_) (fun h => by cases h)
    clear h25
    refine r_aload_n C dX10_plannedClause_38 rfl rfl ?_
    exact x_aret C Tt (by decide) (by decide) (⟨rfl, rfl, hin⟩) dX10_plannedClause_39
  · skip
    refine r_iload_n C dX10_plannedClause_19 rfl rfl ?_
    refine r_callV (as := [_]) (na := 1) (rest := []) C (mid_8 (by decide)) (hp_8 _ _) rfl (c_plannedAt (pmkF 0 S) 0 d (by decide) hd hPo.1) gX10_plannedClause_X2_plannedAt (by decide +kernel) (by decide) (by decide) rfl (Nat.le_of_ble_eq_true rfl) rfl dX10_plannedClause_20 rfl (fun v1 S1 hp1 => ?_)
    obtain ⟨rfl, e9⟩ := hp1
    subst S1
    refine At_val (v' := vr none) (by rw [if_neg hin]) ?_
    refine r_astore_n (lv' := [(2, _), (0, _), (1, _)]) C dX10_plannedClause_23 rfl (hn _ (by decide)) rfl ?_
    refine r_aload_n C dX10_plannedClause_24 rfl rfl ?_
    refine r_ifnonnull (tgt := 38) C dX10_plannedClause_25 (by decide) (fun i25 h25 => by cases h25) (fun h25 => ?_)
    clear h25
    exact x_throw (is := 192) (text := "place is out of range") (cls := "java/lang/IllegalArgumentException") C Tt (by decide +kernel) (by decide +kernel) (by decide +kernel) ti_X10_plannedClause_28 tn_X10_50 tg_X10_46_50 dX10_plannedClause_28 dX10_plannedClause_31 dX10_plannedClause_32 dX10_plannedClause_34 dX10_plannedClause_37 (by decide) (by decide) (Nat.le_of_ble_eq_true rfl) (by decide) (by decide) (⟨rfl, rfl, hin⟩)
set_option maxHeartbeats 4000000 in
set_option maxRecDepth 100000 in
theorem c_clauseAt (S : ST) (d : Int) (hd : -2147483648 ≤ d ∧ d < 2147483648) (hCI : CI S)  : CtX yX10_clauseAt wsX10_clauseAt 7 1 [vr (some (0, 0)), vi d] S (fun v S1 => v = some (vi ((((pa (pmkF 0 S) 9 0 d.toNat % 5) % 5 : Nat) : Int))) ∧ S1 = pmkF 0 S ∧ (0 ≤ d ∧ d < iv (pmkF 0 S) 8 3 0)) (fun E S1 => S1 = pmkF 0 S ∧ E = "java/lang/IllegalArgumentException" ∧ ¬ (0 ≤ d ∧ d < iv (pmkF 0 S) 8 3 0)) := by
  refine CtX.of (nL := 2) (by decide) rfl (Nat.le_of_ble_eq_true rfl) (by decide) (fun X C Tt hnL => ?_)
  have hcl1 : 0 + 1 ≤ X.1.2.2.2.1.cells := Nat.le_trans (by decide) Tt.room.1
  have hsl1 : 0 + 6 * 1 ≤ X.1.2.2.2.1.slots := Nat.le_trans (by decide) Tt.room.2
  have hn : ∀ i, i < 2 → i < X.2.2.2.2.2 := fun i h => by rw [hnL]; exact h
  refine r_aload_n C dX10_clauseAt_0 rfl rfl ?_
  refine r_iload_n C dX10_clauseAt_1 rfl rfl ?_
  refine x_callV (as := [_]) (na := 1) (rest := []) C Tt mid_0 (hp_0 _) rfl (c_plannedClause S d hd hCI) gX10_clauseAt_X10_plannedClause (by decide +kernel) (by decide) (by decide) rfl (Nat.le_of_ble_eq_true rfl) rfl dX10_clauseAt_2 rfl (by decide) (by decide) (fun E S1 h => h) (fun v1 S1 hp1 => ?_)
  obtain ⟨rfl, e9, hr1⟩ := hp1
  subst S1
  refine r_getf C (mid_11 (by omega)) (hp_11 _ _) rfl 5 (by decide) in_X10_clauseAt_X3 lk_X10_clauseAt_136 (Or.inr sm_X10_clauseAt_PlannedClause_rank) rfl dX10_clauseAt_5 ?_
  exact x_iret C Tt (by decide) (by decide) (⟨rfl, rfl, hr1⟩) dX10_clauseAt_8
set_option maxHeartbeats 4000000 in
set_option maxRecDepth 100000 in
theorem c_kindAt (S : ST) (d : Int) (hd : -2147483648 ≤ d ∧ d < 2147483648) (hCI : CI S)  : CtX yX10_kindAt wsX10_kindAt 7 1 [vr (some (0, 0)), vi d] S (fun v S1 => v = some (vi (iv (pmkF 0 S) 11 1 (pa (pmkF 0 S) 9 0 d.toNat % 5))) ∧ S1 = pmkF 0 S ∧ (0 ≤ d ∧ d < iv (pmkF 0 S) 8 3 0)) (fun E S1 => S1 = pmkF 0 S ∧ E = "java/lang/IllegalArgumentException" ∧ ¬ (0 ≤ d ∧ d < iv (pmkF 0 S) 8 3 0)) := by
  refine CtX.of (nL := 2) (by decide) rfl (Nat.le_of_ble_eq_true rfl) (by decide) (fun X C Tt hnL => ?_)
  have hcl1 : 0 + 1 ≤ X.1.2.2.2.1.cells := Nat.le_trans (by decide) Tt.room.1
  have hsl1 : 0 + 6 * 1 ≤ X.1.2.2.2.1.slots := Nat.le_trans (by decide) Tt.room.2
  have hn : ∀ i, i < 2 → i < X.2.2.2.2.2 := fun i h => by rw [hnL]; exact h
  refine r_aload_n C dX10_kindAt_0 rfl rfl ?_
  refine r_iload_n C dX10_kindAt_1 rfl rfl ?_
  refine x_callV (as := [_]) (na := 1) (rest := []) C Tt mid_0 (hp_0 _) rfl (c_plannedClause S d hd hCI) gX10_kindAt_X10_plannedClause (by decide +kernel) (by decide) (by decide) rfl (Nat.le_of_ble_eq_true rfl) rfl dX10_kindAt_2 rfl (by decide) (by decide) (fun E S1 h => h) (fun v1 S1 hp1 => ?_)
  obtain ⟨rfl, e9, hr1⟩ := hp1
  subst S1
  refine r_getf C (mid_11 (by omega)) (hp_11 _ _) rfl 1 (by decide) in_X10_kindAt_X3 lk_X10_kindAt_141 (Or.inr sm_X10_kindAt_PlannedClause_kind) rfl dX10_kindAt_5 ?_
  exact x_iret C Tt (by decide) (by decide) (⟨rfl, rfl, hr1⟩) dX10_kindAt_8
set_option maxHeartbeats 4000000 in
set_option maxRecDepth 100000 in
theorem c_estimateAt (S : ST) (d : Int) (hd : -2147483648 ≤ d ∧ d < 2147483648) (hCI : CI S)  : CtX yX10_estimateAt wsX10_estimateAt 7 1 [vr (some (0, 0)), vi d] S (fun v S1 => v = some (vi (iv (pmkF 0 S) 11 6 (pa (pmkF 0 S) 9 0 d.toNat % 5))) ∧ S1 = pmkF 0 S ∧ (0 ≤ d ∧ d < iv (pmkF 0 S) 8 3 0)) (fun E S1 => S1 = pmkF 0 S ∧ E = "java/lang/IllegalArgumentException" ∧ ¬ (0 ≤ d ∧ d < iv (pmkF 0 S) 8 3 0)) := by
  refine CtX.of (nL := 2) (by decide) rfl (Nat.le_of_ble_eq_true rfl) (by decide) (fun X C Tt hnL => ?_)
  have hcl1 : 0 + 1 ≤ X.1.2.2.2.1.cells := Nat.le_trans (by decide) Tt.room.1
  have hsl1 : 0 + 6 * 1 ≤ X.1.2.2.2.1.slots := Nat.le_trans (by decide) Tt.room.2
  have hn : ∀ i, i < 2 → i < X.2.2.2.2.2 := fun i h => by rw [hnL]; exact h
  refine r_aload_n C dX10_estimateAt_0 rfl rfl ?_
  refine r_iload_n C dX10_estimateAt_1 rfl rfl ?_
  refine x_callV (as := [_]) (na := 1) (rest := []) C Tt mid_0 (hp_0 _) rfl (c_plannedClause S d hd hCI) gX10_estimateAt_X10_plannedClause (by decide +kernel) (by decide) (by decide) rfl (Nat.le_of_ble_eq_true rfl) rfl dX10_estimateAt_2 rfl (by decide) (by decide) (fun E S1 h => h) (fun v1 S1 hp1 => ?_)
  obtain ⟨rfl, e9, hr1⟩ := hp1
  subst S1
  refine r_getf C (mid_11 (by omega)) (hp_11 _ _) rfl 6 (by decide) in_X10_estimateAt_X3 lk_X10_estimateAt_142 (Or.inr sm_X10_estimateAt_PlannedClause_estimate) rfl dX10_estimateAt_5 ?_
  exact x_iret C Tt (by decide) (by decide) (⟨rfl, rfl, hr1⟩) dX10_estimateAt_8
set_option maxHeartbeats 4000000 in
set_option maxRecDepth 100000 in
theorem c_literalAt (S : ST) (d j : Int) (hd : -2147483648 ≤ d ∧ d < 2147483648) (hj : -2147483648 ≤ j ∧ j < 2147483648) (hCI : CI S)  : CtX yX10_literalAt wsX10_literalAt 7 2 [vr (some (0, 0)), vi d, vi j] S (fun v S1 => v = some (vi (iv (pmkF 0 S) 14 0 (pa (pmkF 0 S) 12 (pa (pmkF 0 S) 9 0 d.toNat % 5) j.toNat))) ∧ S1 = pmkF 0 S ∧ (0 ≤ d ∧ d < iv (pmkF 0 S) 8 3 0) ∧ (0 ≤ j ∧ j < iv (pmkF 0 S) 11 3 (pa (pmkF 0 S) 9 0 d.toNat % 5))) (fun E S1 => S1 = pmkF 0 S ∧ E = "java/lang/IllegalArgumentException" ∧ ¬ ((0 ≤ d ∧ d < iv (pmkF 0 S) 8 3 0) ∧ (0 ≤ j ∧ j < iv (pmkF 0 S) 11 3 (pa (pmkF 0 S) 9 0 d.toNat % 5)))) := by
  refine CtX.of (nL := 4) (by decide) rfl (Nat.le_of_ble_eq_true rfl) (by decide) (fun X C Tt hnL => ?_)
  have hcl1 : 0 + 1 ≤ X.1.2.2.2.1.cells := Nat.le_trans (by decide) Tt.room.1
  have hsl1 : 0 + 6 * 1 ≤ X.1.2.2.2.1.slots := Nat.le_trans (by decide) Tt.room.2
  have hcl2 : 0 + 1 + 1 ≤ X.1.2.2.2.1.cells := Nat.le_trans (by decide) Tt.room.1
  have hsl2 : 0 + 6 * 1 + 6 * 1 ≤ X.1.2.2.2.1.slots := Nat.le_trans (by decide) Tt.room.2
  have hn : ∀ i, i < 4 → i < X.2.2.2.2.2 := fun i h => by rw [hnL]; exact h
  have hPo := pmkF_ok (S := S) (y := 0) (by decide) hCI.1 hCI.2.2
  obtain ⟨hz, hps⟩ := id (hPo.1.2.1 (pa (pmkF 0 S) 9 0 d.toNat % 5) (by omega)).2
  refine r_aload_n C dX10_literalAt_0 rfl rfl ?_
  refine r_iload_n C dX10_literalAt_1 rfl rfl ?_
  refine x_callV (as := [_]) (na := 1) (rest := []) C Tt mid_0 (hp_0 _) rfl (c_plannedClause S d hd hCI) gX10_literalAt_X10_plannedClause (by decide +kernel) (by decide) (by decide) rfl (Nat.le_of_ble_eq_true rfl) rfl dX10_literalAt_2 rfl (by decide) (by decide) (fun E S1 h => ⟨h.1, h.2.1, fun q => h.2.2 q.1⟩) (fun v1 S1 hp1 => ?_)
  obtain ⟨rfl, e9, hr1⟩ := hp1
  subst S1
  by_cases hin : (0 ≤ j ∧ j < iv (pmkF 0 S) 11 3 (pa (pmkF 0 S) 9 0 d.toNat % 5))
  · skip
    refine r_iload_n C dX10_literalAt_5 rfl rfl ?_
    refine r_callU (as := [_]) (na := 1) (rest := []) C (mid_11 (by omega)) (hp_11 _ _) rfl (c_partAt_C (pmkF 0 S) (pa (pmkF 0 S) 9 0 d.toNat % 5) (by omega) j hj hz) gX10_literalAt_X0_partAt_u143X3 (by decide +kernel) (by decide) (by decide) rfl (Nat.le_of_ble_eq_true rfl) rfl dX10_literalAt_6 rfl (fun v1 S1 hp1 => ?_)
    obtain ⟨rfl, e9⟩ := hp1
    subst S1
    have hpj := hps j.toNat (by omega)
    refine At_val (v' := vr (some (14, pa (pmkF 0 S) 12 (pa (pmkF 0 S) 9 0 d.toNat % 5) j.toNat))) (by rw [if_pos hin, hpj.1]; rfl) ?_
    refine r_astore_n (lv' := [(3, _), (0, _), (1, _), (2, _)]) C dX10_literalAt_9 rfl (hn _ (by decide)) rfl ?_
    refine r_aload_n C dX10_literalAt_10 rfl rfl ?_
    refine r_ifnonnull (tgt := 24) C dX10_literalAt_11 (by decide) (fun i11 h11 => ?_) (fun h => by cases h)
    clear h11
    refine r_aload_n C dX10_literalAt_24 rfl rfl ?_
    refine r_getf C (mid_14 hpj.2) (hp_14 _ _) rfl 0 (by decide) in_X10_literalAt_X4 lk_X10_literalAt_149 (Or.inl rfl) rfl dX10_literalAt_25 ?_
    exact x_iret C Tt (by decide) (by decide) (⟨rfl, rfl, hr1, hin⟩) dX10_literalAt_28
  · skip
    refine r_iload_n C dX10_literalAt_5 rfl rfl ?_
    refine r_callU (as := [_]) (na := 1) (rest := []) C (mid_11 (by omega)) (hp_11 _ _) rfl (c_partAt_C (pmkF 0 S) (pa (pmkF 0 S) 9 0 d.toNat % 5) (by omega) j hj hz) gX10_literalAt_X0_partAt_u143X3 (by decide +kernel) (by decide) (by decide) rfl (Nat.le_of_ble_eq_true rfl) rfl dX10_literalAt_6 rfl (fun v1 S1 hp1 => ?_)
    obtain ⟨rfl, e9⟩ := hp1
    subst S1
    refine At_val (v' := vr none) (by rw [if_neg hin]) ?_
    refine r_astore_n (lv' := [(3, _), (0, _), (1, _), (2, _)]) C dX10_literalAt_9 rfl (hn _ (by decide)) rfl ?_
    refine r_aload_n C dX10_literalAt_10 rfl rfl ?_
    refine r_ifnonnull (tgt := 24) C dX10_literalAt_11 (by decide) (fun i11 h11 => by cases h11) (fun h11 => ?_)
    clear h11
    exact x_throw (is := 147) (text := "index is out of range") (cls := "java/lang/IllegalArgumentException") C Tt (by decide +kernel) (by decide +kernel) (by decide +kernel) ti_X10_literalAt_14 tn_X10_50 tg_X10_46_50 dX10_literalAt_14 dX10_literalAt_17 dX10_literalAt_18 dX10_literalAt_20 dX10_literalAt_23 (by decide) (by decide) (Nat.le_of_ble_eq_true rfl) (by decide) (by decide) (⟨rfl, rfl, fun q => hin q.2⟩)
set_option maxHeartbeats 4000000 in
set_option maxRecDepth 100000 in
theorem c_begin (S : ST) (hCI : CI S)  : Ct yX10_begin wsX10_begin 6 [vr (some (0, 0))] S (fun v S1 => v = some (vi (iv (pmkF 1 S) 8 6 1)) ∧ S1 = si (si (si (pmkF 1 S) 7 0 1 0) 15 2 0 1) 15 3 0 (-1)) := by
  refine Ct.of (nL := 1) (by decide) rfl (Nat.le_of_ble_eq_true rfl) (by decide) (fun X C Rr hnL => ?_)
  have hn : ∀ i, i < 1 → i < X.2.2.2.2.2 := fun i h => by rw [hnL]; exact h
  refine r_aload_n C dX10_begin_0 rfl rfl ?_
  refine r_getf C mid_0 (hp_0 _) rfl 3 (by decide) in_X10_begin_X10 lk_X10_begin_38 (Or.inl rfl) rfl dX10_begin_1 ?_
  refine r_aload_n C dX10_begin_4 rfl rfl ?_
  refine r_getf C mid_0 (hp_0 _) rfl 1 (by decide) in_X10_begin_X10 lk_X10_begin_19 (Or.inl rfl) rfl dX10_begin_5 ?_
  refine r_aload_n C dX10_begin_8 rfl rfl ?_
  refine r_getf C mid_0 (hp_0 _) rfl 0 (by decide) in_X10_begin_X10 lk_X10_begin_10 (Or.inl rfl) rfl dX10_begin_9 ?_
  refine r_callV (as := [_, _]) (na := 2) (rest := []) C mid_15 (hp_15 _) rfl (c_Rrestart S hCI.1 hCI.2.1 hCI.2.2) gX10_begin_X6_restart (by decide +kernel) (by decide) (by decide) rfl (Nat.le_of_ble_eq_true rfl) rfl dX10_begin_12 rfl (fun v1 S1 hp1 => ?_)
  obtain ⟨rfl, e9⟩ := hp1
  subst S1
  exact r_iret C Rr (⟨rfl, rfl⟩) dX10_begin_15
set_option maxHeartbeats 4000000 in
set_option maxRecDepth 100000 in
theorem c_leap (S : ST) (d : Int) (hd : -2147483648 ≤ d ∧ d < 2147483648) (hCI : CI S) (hb : iv S 15 2 0 = 0 ∨ iv S 15 2 0 = 1) (hg : -1 ≤ iv S 15 3 0 ∧ iv S 15 3 0 ≤ 39) : CtX yX10_leap wsX10_leap 10 2 [vr (some (0, 0)), vi d] S (fun v S1 => v = some (vi (advF d S).1) ∧ S1 = (advF d S).2 ∧ (0 ≤ d ∧ d < 40) ∧ iv S 15 2 0 = 1) (fun E S1 => S1 = S ∧ ((E = "java/lang/IndexOutOfBoundsException" ∧ ¬ (0 ≤ d ∧ d < 40)) ∨ (E = "java/lang/IllegalStateException" ∧ (0 ≤ d ∧ d < 40) ∧ iv S 15 2 0 = 0))) := by
  refine CtX.of (nL := 2) (by decide) rfl (Nat.le_of_ble_eq_true rfl) (by decide) (fun X C Tt hnL => ?_)
  have hcl1 : 0 + 1 ≤ X.1.2.2.2.1.cells := Nat.le_trans (by decide) Tt.room.1
  have hsl1 : 0 + 6 * 1 ≤ X.1.2.2.2.1.slots := Nat.le_trans (by decide) Tt.room.2
  have hcl2 : 0 + 1 + 1 ≤ X.1.2.2.2.1.cells := Nat.le_trans (by decide) Tt.room.1
  have hsl2 : 0 + 6 * 1 + 6 * 1 ≤ X.1.2.2.2.1.slots := Nat.le_trans (by decide) Tt.room.2
  have hn : ∀ i, i < 2 → i < X.2.2.2.2.2 := fun i h => by rw [hnL]; exact h
  refine r_aload_n C dX10_leap_0 rfl rfl ?_
  refine r_iload_n C dX10_leap_1 rfl rfl ?_
  refine x_callV (as := [_]) (na := 1) (rest := []) C Tt mid_0 (hp_0 _) rfl (c_checkDocument S d hd) gX10_leap_X10_checkDocument (by decide +kernel) (by decide) (by decide) rfl (Nat.le_of_ble_eq_true rfl) rfl dX10_leap_2 rfl (by decide) (by decide) (fun E S1 h => ⟨h.1, Or.inl h.2⟩) (fun v1 S1 hp1 => ?_)
  obtain ⟨rfl, e9, hr1⟩ := hp1
  subst S1
  refine r_aload_n C dX10_leap_5 rfl rfl ?_
  refine x_callV (as := []) (na := 0) (rest := []) C Tt mid_0 (hp_0 _) rfl (c_checkRun S hb) gX10_leap_X10_checkRun (by decide +kernel) (by decide) (by decide) rfl (Nat.le_of_ble_eq_true rfl) rfl dX10_leap_6 rfl (by decide) (by decide) (fun E S1 h => ⟨h.1, Or.inr ⟨h.2.1, hr1, h.2.2⟩⟩) (fun v1 S1 hp1 => ?_)
  obtain ⟨rfl, e9, hr2⟩ := hp1
  subst S1
  refine r_aload_n C dX10_leap_9 rfl rfl ?_
  refine r_getf C mid_0 (hp_0 _) rfl 3 (by decide) in_X10_leap_X10 lk_X10_leap_38 (Or.inl rfl) rfl dX10_leap_10 ?_
  refine r_iload_n C dX10_leap_13 rfl rfl ?_
  refine r_callV (as := [_]) (na := 1) (rest := []) C mid_15 (hp_15 _) rfl (c_advance S d hr1 hCI.1 hg) gX10_leap_X6_advance (by decide +kernel) (by decide) (by decide) rfl (Nat.le_of_ble_eq_true rfl) rfl dX10_leap_14 rfl (fun v1 S1 hp1 => ?_)
  obtain ⟨rfl, e9⟩ := hp1
  subst S1
  exact x_iret C Tt (by decide) (by decide) (⟨rfl, rfl, hr1, hr2⟩) dX10_leap_17
set_option maxHeartbeats 4000000 in
set_option maxRecDepth 100000 in
theorem c_next (S : ST) (hCI : CI S) (hb : iv S 15 2 0 = 0 ∨ iv S 15 2 0 = 1) (hg : -1 ≤ iv S 15 3 0 ∧ iv S 15 3 0 ≤ 39) : CtX yX10_next wsX10_next 10 1 [vr (some (0, 0))] S (fun v S1 => v = some (vi (advF 0 S).1) ∧ S1 = (advF 0 S).2 ∧ iv S 15 2 0 = 1) (fun E S1 => S1 = S ∧ E = "java/lang/IllegalStateException" ∧ iv S 15 2 0 = 0) := by
  refine CtX.of (nL := 1) (by decide) rfl (Nat.le_of_ble_eq_true rfl) (by decide) (fun X C Tt hnL => ?_)
  have hcl1 : 0 + 1 ≤ X.1.2.2.2.1.cells := Nat.le_trans (by decide) Tt.room.1
  have hsl1 : 0 + 6 * 1 ≤ X.1.2.2.2.1.slots := Nat.le_trans (by decide) Tt.room.2
  have hn : ∀ i, i < 1 → i < X.2.2.2.2.2 := fun i h => by rw [hnL]; exact h
  refine r_aload_n C dX10_next_0 rfl rfl ?_
  refine x_callV (as := []) (na := 0) (rest := []) C Tt mid_0 (hp_0 _) rfl (c_checkRun S hb) gX10_next_X10_checkRun (by decide +kernel) (by decide) (by decide) rfl (Nat.le_of_ble_eq_true rfl) rfl dX10_next_1 rfl (by decide) (by decide) (fun E S1 h => h) (fun v1 S1 hp1 => ?_)
  obtain ⟨rfl, e9, hr1⟩ := hp1
  subst S1
  refine r_aload_n C dX10_next_4 rfl rfl ?_
  refine r_getf C mid_0 (hp_0 _) rfl 3 (by decide) in_X10_next_X10 lk_X10_next_38 (Or.inl rfl) rfl dX10_next_5 ?_
  refine r_iconst C dX10_next_8 ?_
  refine r_callV (as := [_]) (na := 1) (rest := []) C mid_15 (hp_15 _) rfl (c_advance S 0 (by decide) hCI.1 hg) gX10_next_X6_advance (by decide +kernel) (by decide) (by decide) rfl (Nat.le_of_ble_eq_true rfl) rfl dX10_next_9 rfl (fun v1 S1 hp1 => ?_)
  obtain ⟨rfl, e9⟩ := hp1
  subst S1
  exact x_iret C Tt (by decide) (by decide) (⟨rfl, rfl, hr1⟩) dX10_next_12
set_option maxHeartbeats 4000000 in
set_option maxRecDepth 100000 in
theorem c_readings (S : ST) (hb : iv S 15 2 0 = 0 ∨ iv S 15 2 0 = 1) (hg : -1 ≤ iv S 15 3 0 ∧ iv S 15 3 0 ≤ 39) : CtX yX10_readings wsX10_readings 7 1 [vr (some (0, 0))] S (fun v S1 => v = some (vi (iv S 7 0 1)) ∧ S1 = S ∧ iv S 15 2 0 = 1) (fun E S1 => S1 = S ∧ E = "java/lang/IllegalStateException" ∧ iv S 15 2 0 = 0) := by
  refine CtX.of (nL := 1) (by decide) rfl (Nat.le_of_ble_eq_true rfl) (by decide) (fun X C Tt hnL => ?_)
  have hcl1 : 0 + 1 ≤ X.1.2.2.2.1.cells := Nat.le_trans (by decide) Tt.room.1
  have hsl1 : 0 + 6 * 1 ≤ X.1.2.2.2.1.slots := Nat.le_trans (by decide) Tt.room.2
  have hn : ∀ i, i < 1 → i < X.2.2.2.2.2 := fun i h => by rw [hnL]; exact h
  refine r_aload_n C dX10_readings_0 rfl rfl ?_
  refine x_callV (as := []) (na := 0) (rest := []) C Tt mid_0 (hp_0 _) rfl (c_checkRun S hb) gX10_readings_X10_checkRun (by decide +kernel) (by decide) (by decide) rfl (Nat.le_of_ble_eq_true rfl) rfl dX10_readings_1 rfl (by decide) (by decide) (fun E S1 h => h) (fun v1 S1 hp1 => ?_)
  obtain ⟨rfl, e9, hr1⟩ := hp1
  subst S1
  refine r_aload_n C dX10_readings_4 rfl rfl ?_
  refine r_getf C mid_0 (hp_0 _) rfl 3 (by decide) in_X10_readings_X10 lk_X10_readings_38 (Or.inl rfl) rfl dX10_readings_5 ?_
  refine r_getf C mid_15 (hp_15 _) rfl 0 (by decide) in_X10_readings_X6 lk_X10_readings_162 (Or.inl rfl) rfl dX10_readings_8 ?_
  refine r_getf C (mid_7 (by decide)) (hp_7 _ _) rfl 0 (by decide) in_X10_readings_X8 lk_X10_readings_166 (Or.inl rfl) rfl dX10_readings_11 ?_
  exact x_iret C Tt (by decide) (by decide) (⟨rfl, rfl, hr1⟩) dX10_readings_14
