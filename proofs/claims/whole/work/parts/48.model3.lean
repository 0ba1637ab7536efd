section ST1
variable {X : XT} {cells slots pc : Nat} {lv : List (Nat × AV)} {st : List AV} {S S' : ST}
theorem At_st (e : S = S') (k : At X cells slots pc lv st S') : At X cells slots pc lv st S := e ▸ k
end ST1
theorem si_si (S : ST) (t k y : Nat) (a b : Int) : si (si S t k y a) t k y b = si S t k y b := by
  simp only [si]
  congr 1
  funext t' k' y'
  simp only [up3]
  split <;> simp_all
theorem in_X11_makes_X11 : ∀ w ∈ wsX110, w ∈ wsX11_makes := by decide +kernel
theorem lk_X11_makes_108 : Cond.fieldLink RX11 108 "PostingPlannerModel" "kind" "I" ∈ wsX11_makes := by decide +kernel
theorem lk_X11_makes_135 : Cond.fieldLink RX11 135 "PostingPlannerModel" "planKind" "I" ∈ wsX11_makes := by decide +kernel
theorem lk_X11_makes_111 : Cond.fieldLink RX11 111 "PostingPlannerModel" "need" "I" ∈ wsX11_makes := by decide +kernel
theorem lk_X11_makes_138 : Cond.fieldLink RX11 138 "PostingPlannerModel" "planNeed" "I" ∈ wsX11_makes := by decide +kernel
theorem lk_X11_makes_141 : Cond.fieldLink RX11 141 "PostingPlannerModel" "planSize" "I" ∈ wsX11_makes := by decide +kernel
theorem lk_X11_makes_105 : Cond.fieldLink RX11 105 "PostingPlannerModel" "clauses" "I" ∈ wsX11_makes := by decide +kernel
theorem lk_X11_makes_47 : Cond.fieldLink RX11 47 "PostingPlannerModel" "order" "[I" ∈ wsX11_makes := by decide +kernel
theorem lk_X11_makes_44 : Cond.fieldLink RX11 44 "PostingPlannerModel" "estimates" "[I" ∈ wsX11_makes := by decide +kernel
theorem lk_X11_makes_32 : Cond.fieldLink RX11 32 "PostingPlannerModel" "clauseKinds" "[I" ∈ wsX11_makes := by decide +kernel
theorem in_X11_planEstimate_X11 : ∀ w ∈ wsX110, w ∈ wsX11_planEstimate := by decide +kernel
theorem lk_X11_planEstimate_141 : Cond.fieldLink RX11 141 "PostingPlannerModel" "planSize" "I" ∈ wsX11_planEstimate := by decide +kernel
theorem lk_X11_planEstimate_135 : Cond.fieldLink RX11 135 "PostingPlannerModel" "planKind" "I" ∈ wsX11_planEstimate := by decide +kernel
theorem lk_X11_planEstimate_138 : Cond.fieldLink RX11 138 "PostingPlannerModel" "planNeed" "I" ∈ wsX11_planEstimate := by decide +kernel
theorem lk_X11_planEstimate_44 : Cond.fieldLink RX11 44 "PostingPlannerModel" "estimates" "[I" ∈ wsX11_planEstimate := by decide +kernel
theorem lk_X11_planEstimate_47 : Cond.fieldLink RX11 47 "PostingPlannerModel" "order" "[I" ∈ wsX11_planEstimate := by decide +kernel
theorem in_X11_planKind_X11 : ∀ w ∈ wsX110, w ∈ wsX11_planKind := by decide +kernel
theorem lk_X11_planKind_74 : Cond.fieldLink RX11 74 "PostingPlannerModel" "last" "I" ∈ wsX11_planKind := by decide +kernel
theorem lk_X11_planKind_135 : Cond.fieldLink RX11 135 "PostingPlannerModel" "planKind" "I" ∈ wsX11_planKind := by decide +kernel
theorem in_X11_planNeed_X11 : ∀ w ∈ wsX110, w ∈ wsX11_planNeed := by decide +kernel
theorem lk_X11_planNeed_74 : Cond.fieldLink RX11 74 "PostingPlannerModel" "last" "I" ∈ wsX11_planNeed := by decide +kernel
theorem lk_X11_planNeed_138 : Cond.fieldLink RX11 138 "PostingPlannerModel" "planNeed" "I" ∈ wsX11_planNeed := by decide +kernel
theorem in_X11_planSize_X11 : ∀ w ∈ wsX110, w ∈ wsX11_planSize := by decide +kernel
theorem lk_X11_planSize_74 : Cond.fieldLink RX11 74 "PostingPlannerModel" "last" "I" ∈ wsX11_planSize := by decide +kernel
theorem lk_X11_planSize_141 : Cond.fieldLink RX11 141 "PostingPlannerModel" "planSize" "I" ∈ wsX11_planSize := by decide +kernel
theorem in_X11_estimate_X11 : ∀ w ∈ wsX110, w ∈ wsX11_estimate := by decide +kernel
theorem lk_X11_estimate_74 : Cond.fieldLink RX11 74 "PostingPlannerModel" "last" "I" ∈ wsX11_estimate := by decide +kernel
theorem in_X11_isPlace_X11 : ∀ w ∈ wsX110, w ∈ wsX11_isPlace := by decide +kernel
theorem lk_X11_isPlace_141 : Cond.fieldLink RX11 141 "PostingPlannerModel" "planSize" "I" ∈ wsX11_isPlace := by decide +kernel
theorem in_X11_clauseAt_X11 : ∀ w ∈ wsX110, w ∈ wsX11_clauseAt := by decide +kernel
theorem lk_X11_clauseAt_47 : Cond.fieldLink RX11 47 "PostingPlannerModel" "order" "[I" ∈ wsX11_clauseAt := by decide +kernel
theorem in_X11_kindAt_X11 : ∀ w ∈ wsX110, w ∈ wsX11_kindAt := by decide +kernel
theorem lk_X11_kindAt_32 : Cond.fieldLink RX11 32 "PostingPlannerModel" "clauseKinds" "[I" ∈ wsX11_kindAt := by decide +kernel
theorem lk_X11_kindAt_47 : Cond.fieldLink RX11 47 "PostingPlannerModel" "order" "[I" ∈ wsX11_kindAt := by decide +kernel
theorem in_X11_estimateAt_X11 : ∀ w ∈ wsX110, w ∈ wsX11_estimateAt := by decide +kernel
theorem lk_X11_estimateAt_44 : Cond.fieldLink RX11 44 "PostingPlannerModel" "estimates" "[I" ∈ wsX11_estimateAt := by decide +kernel
theorem lk_X11_estimateAt_47 : Cond.fieldLink RX11 47 "PostingPlannerModel" "order" "[I" ∈ wsX11_estimateAt := by decide +kernel
theorem in_X11_literalAt_X11 : ∀ w ∈ wsX110, w ∈ wsX11_literalAt := by decide +kernel
theorem lk_X11_literalAt_38 : Cond.fieldLink RX11 38 "PostingPlannerModel" "clauseSizes" "[I" ∈ wsX11_literalAt := by decide +kernel
theorem lk_X11_literalAt_47 : Cond.fieldLink RX11 47 "PostingPlannerModel" "order" "[I" ∈ wsX11_literalAt := by decide +kernel
theorem lk_X11_literalAt_41 : Cond.fieldLink RX11 41 "PostingPlannerModel" "clauseLiterals" "[I" ∈ wsX11_literalAt := by decide +kernel
theorem in_X11_thrown_X11 : ∀ w ∈ wsX110, w ∈ wsX11_thrown := by decide +kernel
theorem lk_X11_thrown_74 : Cond.fieldLink RX11 74 "PostingPlannerModel" "last" "I" ∈ wsX11_thrown := by decide +kernel
set_option maxHeartbeats 4000000 in
set_option maxRecDepth 100000 in
theorem M_makes (S : ST)  (hM : MI S) : Ct yX11_makes wsX11_makes 4 [vr (some (20, 0))] S (fun v1 S1 => v1 = none ∧ S1 = makesF S) := by
  refine Ct.of (nL := 6) (by decide) rfl (Nat.le_of_ble_eq_true rfl) (by decide) (fun X C Rr hnL => ?_)
  have hn : ∀ i, i < 6 → i < X.2.2.2.2.2 := fun i h => by rw [hnL]; exact h
  have hM0 := hM
  have hmk := mkM_ok hM
  have h4 := hM.i4
  refine r_aload_n C dX11_makes_0 rfl rfl ?_
  refine r_aload_n C dX11_makes_1 rfl rfl ?_
  refine r_getf C mid_20 (hp_20 _) rfl 2 (by decide) in_X11_makes_X11 lk_X11_makes_108 (Or.inl rfl) rfl dX11_makes_2 ?_
  have hI2 := hM.i2
  refine r_putf  C mid_20 (hp_20 _) rfl 15 (by decide) in_X11_makes_X11 lk_X11_makes_135 (Or.inl rfl) tyX11 tyX11_ok nmX11 rfl (tyX11_ok 15 (by decide)) (fun _ => rfl) (fun _ => rfl) (Nat.le_of_ble_eq_true rfl) (hs_20_15 _ _) dX11_makes_5 ?_
  refine mw (hM.pi15 (by omega)) (fun hM => ?_)
  refine r_aload_n C dX11_makes_8 rfl rfl ?_
  refine r_aload_n C dX11_makes_9 rfl rfl ?_
  have h3 := hM0.i3
  refine r_getf C mid_20 (hp_20 _) rfl 3 (by decide) in_X11_makes_X11 lk_X11_makes_111 (Or.inl rfl) rfl dX11_makes_10 ?_
  have hI10 := hM.i3
  refine At_val (v' := vi (iv S 20 3 0)) (rfl) ?_
  refine r_putf  C mid_20 (hp_20 _) rfl 16 (by decide) in_X11_makes_X11 lk_X11_makes_138 (Or.inl rfl) tyX11 tyX11_ok nmX11 rfl (tyX11_ok 16 (by decide)) (fun _ => rfl) (fun _ => rfl) (Nat.le_of_ble_eq_true rfl) (hs_20_16 _ _) dX11_makes_13 ?_
  refine mw (hM.pi16 (by omega)) (fun hM => ?_)
  refine r_aload_n C dX11_makes_16 rfl rfl ?_
  refine r_iconst C dX11_makes_17 ?_
  refine r_putf  C mid_20 (hp_20 _) rfl 17 (by decide) in_X11_makes_X11 lk_X11_makes_141 (Or.inl rfl) tyX11 tyX11_ok nmX11 rfl (tyX11_ok 17 (by decide)) (fun _ => rfl) (fun _ => rfl) (Nat.le_of_ble_eq_true rfl) (hs_20_17 _ _) dX11_makes_18 ?_
  refine mw (hM.pi17 (by omega)) (fun hM => ?_)
  refine r_iconst C dX11_makes_21 ?_
  refine r_istore_n (lv' := [(1, _), (0, _)]) C dX11_makes_22 rfl (hn _ (by decide)) rfl ?_
  refine r_iconst C dX11_makes_23 ?_
  refine r_istore_n (lv' := [(2, _), (1, _), (0, _)]) C dX11_makes_24 rfl (hn _ (by decide)) rfl ?_
  refine r_iconst C dX11_makes_25 ?_
  refine r_istore_n (lv' := [(3, _), (2, _), (1, _), (0, _)]) C dX11_makes_26 rfl (hn _ (by decide)) rfl ?_
  have loop27 : ∀ (f i : Nat) (hk : 7 - i < f) (hi : (i : Int) ≤ iv S 20 4 0), At X 0 0 27 [(0, vr (some (20, 0))), (1, vi (b2i (mkL (mk0 S) i).1)), (2, vi (b2i (mkL (mk0 S) i).2.1)), (3, vi (i : Int))] [] (mkL (mk0 S) i).2.2 := by
    intro kf
    induction kf with
    | zero => intro i hk hi; exact absurd hk (by omega)
    | succ kf ih =>
      intro i hk hi
      obtain ⟨hM, hF, h17, h16⟩ := hmk i (by omega)
      have hnb := b2i_01 (mkL (mk0 S) i).1
      have hab := b2i_01 (mkL (mk0 S) i).2.1
      have e4 : iv (mkL (mk0 S) i).2.2 20 4 0 = iv S 20 4 0 := (hF.i (by decide)).trans ((mk0_MF S).i (by decide))
      refine r_iload_n C dX11_makes_27 rfl rfl ?_
      refine r_aload_n C dX11_makes_28 rfl rfl ?_
      refine r_getf C mid_20 (hp_20 _) rfl 4 (by decide) in_X11_makes_X11 lk_X11_makes_105 (Or.inl rfl) rfl dX11_makes_29 ?_
      have hI29 := hM.i4
      refine At_val (v' := vi (iv S 20 4 0)) (by rw [e4]) ?_
      refine r_icmp_ge (tgt := 190) C dX11_makes_32 (by decide) (by omega) (by omega) (fun h32 => ?_) (fun h32 => ?_)
      · skip
        have ei : i = (iv S 20 4 0).toNat := by omega
        subst ei
        have hmx : makesF S = mkE (mkD (mkC (mkB (mkA (mkL (mk0 S) (iv S 20 4 0).toNat).2.2 (mkL (mk0 S) (iv S 20 4 0).toNat).1 (mkL (mk0 S) (iv S 20 4 0).toNat).2.1)))) := rfl
        clear hmk e4 hF h17 h16
        generalize (mkL (mk0 S) (iv S 20 4 0).toNat).1 = nv at hmx hnb ⊢
        generalize (mkL (mk0 S) (iv S 20 4 0).toNat).2.1 = al at hmx hab ⊢
        generalize (mkL (mk0 S) (iv S 20 4 0).toNat).2.2 = TT at hmx hM ⊢
        have hMA := mkA_MI hM nv al
        have hMB := mkB_MI hMA
        have hMC := mkC_MI hMB
        have hMD := mkD_MI hMC
        have t2 := hM.i2
        have t16 := hM.i16
        have t17 := hM.i17
        have cut248 : At X 0 0 248 [(0, vr (some (20, 0))), (1, vi (b2i nv)), (2, vi (b2i al))] [vi (if iv TT 20 2 0 = 0 ∧ nv = true then 4 else if iv TT 20 2 0 = 1 ∧ al = true then 3 else if iv TT 20 2 0 = 2 then someK (iv TT 20 16 0) (iv TT 20 17 0) else iv TT 20 2 0), vr (some (20, 0))] TT := by
          skip
          refine r_putf  C mid_20 (hp_20 _) rfl 15 (by decide) in_X11_makes_X11 lk_X11_makes_135 (Or.inl rfl) tyX11 tyX11_ok nmX11 rfl (tyX11_ok 15 (by decide)) (fun _ => rfl) (fun _ => rfl) (Nat.le_of_ble_eq_true rfl) (hs_20_15 _ _) dX11_makes_248 ?_
          refine mw (hM.pi15 (hMA.i15)) (fun hM => ?_)
          change At X _ _ _ _ _ (mkA TT nv al)
          replace hM := hMA
          generalize hTA : mkA TT nv al = TA at hMA hMB hMC hMD hM hmx ⊢
          have cut293 : At X 0 0 293 [(0, vr (some (20, 0))), (1, vi (b2i nv)), (2, vi (b2i al))] [vi (if iv TA 20 17 0 = 0 ∧ iv TA 20 15 0 = 0 then 3 else if iv TA 20 17 0 = 0 ∧ iv TA 20 15 0 = 1 then 4 else iv TA 20 15 0), vr (some (20, 0))] TA := by
            skip
            refine r_putf  C mid_20 (hp_20 _) rfl 15 (by decide) in_X11_makes_X11 lk_X11_makes_135 (Or.inl rfl) tyX11 tyX11_ok nmX11 rfl (tyX11_ok 15 (by decide)) (fun _ => rfl) (fun _ => rfl) (Nat.le_of_ble_eq_true rfl) (hs_20_15 _ _) dX11_makes_293 ?_
            refine mw (hM.pi15 (hMB.i15)) (fun hM => ?_)
            change At X _ _ _ _ _ (mkB TA)
            replace hM := hMB
            generalize hTB : mkB TA = TB at hMB hMC hMD hM hmx ⊢
            have cut313 : At X 0 0 313 [(0, vr (some (20, 0))), (1, vi (b2i nv)), (2, vi (b2i al))] [vi (if iv TB 20 15 0 = 2 then iv TB 20 16 0 else 0), vr (some (20, 0))] TB := by
              skip
              refine r_putf  C mid_20 (hp_20 _) rfl 16 (by decide) in_X11_makes_X11 lk_X11_makes_138 (Or.inl rfl) tyX11 tyX11_ok nmX11 rfl (tyX11_ok 16 (by decide)) (fun _ => rfl) (fun _ => rfl) (Nat.le_of_ble_eq_true rfl) (hs_20_16 _ _) dX11_makes_313 ?_
              refine mw (hM.pi16 (hMC.i16)) (fun hM => ?_)
              change At X _ _ _ _ _ (mkC TB)
              replace hM := hMC
              generalize hTC : mkC TB = TC at hMC hMD hM hmx ⊢
              have c15 := hM.i15
              have cut337 : At X 0 0 337 [(0, vr (some (20, 0))), (1, vi (b2i nv)), (2, vi (b2i al))] [vi (if iv TC 20 15 0 ≤ 2 then iv TC 20 17 0 else 0), vr (some (20, 0))] TC := by
                skip
                refine r_putf  C mid_20 (hp_20 _) rfl 17 (by decide) in_X11_makes_X11 lk_X11_makes_141 (Or.inl rfl) tyX11 tyX11_ok nmX11 rfl (tyX11_ok 17 (by decide)) (fun _ => rfl) (fun _ => rfl) (Nat.le_of_ble_eq_true rfl) (hs_20_17 _ _) dX11_makes_337 ?_
                refine mw (hM.pi17 (hMD.i17)) (fun hM => ?_)
                change At X _ _ _ _ _ (mkD TC)
                replace hM := hMD
                generalize hU : mkD TC = U at hMD hM hmx ⊢
                have hMU := hM
                have u17 := hM.i17
                have u15 := hM.i15
                have hR18 : ∀ j, (0 : Int) ≤ ai U 21 18 j ∧ ai U 21 18 j ≤ 4 := hM.a18
                by_cases hpk : iv U 20 15 0 = 0
                · skip
                  refine r_iconst C dX11_makes_340 ?_
                  refine r_istore_n (lv' := [(3, _), (0, _), (1, _), (2, _)]) C dX11_makes_341 rfl (hn _ (by decide)) rfl ?_
                  have loop342 : ∀ (f i : Nat) (hk : 8 - i < f) (h1 : 1 ≤ i) (hi : i = 1 ∨ (i : Int) ≤ iv U 20 17 0), At X 0 0 342 [(0, vr (some (20, 0))), (3, vi (i : Int))] [] (sA U 18 (srtA (ltO U) (ai U 21 18) 0 i)) := by
                    intro kf
                    induction kf with
                    | zero => intro i hk h1 hi; exact absurd hk (by omega)
                    | succ kf ih =>
                      intro i hk h1 hi
                      have hM : MI (sA U 18 (srtA (ltO U) (ai U 21 18) 0 i)) := hMU.sA (fun j => srtA_R hR18 _ _ j)
                      refine r_iload_n C dX11_makes_342 rfl rfl ?_
                      refine r_aload_n C dX11_makes_343 rfl rfl ?_
                      refine r_getf C mid_20 (hp_20 _) rfl 17 (by decide) in_X11_makes_X11 lk_X11_makes_141 (Or.inl rfl) rfl dX11_makes_344 ?_
                      have hI344 := hM.i17
                      refine At_val (v' := vi (iv U 20 17 0)) (rfl) ?_
                      refine r_icmp_ge (tgt := 434) C dX11_makes_347 (by decide) (by omega) (by omega) (fun h347 => ?_) (fun h347 => ?_)
                      · skip
                        exact r_vret C Rr (⟨rfl, by rw [hmx]; unfold mkE; rw [if_pos hpk]; rcases hi with hi | hi; rw [hi, srtA_0 _ _ _ 1 (Nat.le_refl 1), srtA_0 _ _ _ (iv U 20 17 0).toNat (by omega)]; rw [show i = (iv U 20 17 0).toNat by omega]⟩) dX11_makes_434
                      · skip
                        refine r_aload_n C dX11_makes_350 rfl rfl ?_
                        refine r_getf C mid_20 (hp_20 _) rfl 15 (by decide) in_X11_makes_X11 lk_X11_makes_135 (Or.inl rfl) rfl dX11_makes_351 ?_
                        have hI351 := hM.i15
                        refine At_val (v' := vi (iv U 20 15 0)) (rfl) ?_
                        refine r_if_ne (tgt := 434) C dX11_makes_354 (by decide) (by omega) (fun h354 => ?_) (fun h354 => ?_)
                        · exact absurd h354 (by omega)
                        refine r_aload_n C dX11_makes_357 rfl rfl ?_
                        refine r_getf C mid_20 (hp_20 _) rfl 18 (by decide) in_X11_makes_X11 lk_X11_makes_47 (Or.inl rfl) rfl dX11_makes_358 ?_
                        refine r_iload_n C dX11_makes_361 rfl rfl ?_
                        refine r_iald (j := 0 + i) C mid_21_18 (hp_21_18 _) rfl (by omega) (by omega) (by decide) dX11_makes_362 ?_
                        refine mr hM.a18 (fun hA362 => ?_)
                        refine At_val (v' := vi (ai U 21 18 (0 + i))) (by rw [ai_sA, srtA_in (by omega), srt_out _ _ _ _ (Nat.le_refl i)]) ?_
                        have hvv := hR18 (0 + i)
                        refine r_istore (lv' := [(4, _), (0, _), (3, _)]) C dX11_makes_363 (hn _ (by decide)) rfl ?_
                        refine r_iload_n C dX11_makes_365 rfl rfl ?_
                        refine r_istore (lv' := [(5, _), (4, _), (0, _), (3, _)]) C dX11_makes_366 (hn _ (by decide)) rfl ?_
                        have loop368 : ∀ (f a : Nat) (hk2 : a < f) (ha : a ≤ i) (hp : posn (ltO U) (srt (ltO U) (fun j => ai U 21 18 (0 + j)) i) (ai U 21 18 (0 + i)) i = posn (ltO U) (srt (ltO U) (fun j => ai U 21 18 (0 + j)) i) (ai U 21 18 (0 + i)) a), At X 0 0 368 [(0, vr (some (20, 0))), (3, vi (i : Int)), (4, vi (ai U 21 18 (0 + i))), (5, vi (a : Int))] [] (sA U 18 (shA (srtA (ltO U) (ai U 21 18) 0 i) 0 i a)) := by
                          intro kf
                          induction kf with
                          | zero => intro a hk2 ha hp; exact absurd hk2 (by omega)
                          | succ kf ih2 =>
                            intro a hk2 ha hp
                            have hM : MI (sA U 18 (shA (srtA (ltO U) (ai U 21 18) 0 i) 0 i a)) := hMU.sA (fun j => shA_R (fun j => srtA_R hR18 _ _ j) _ _ _ j)
                            have hGb := srt_R (lt := (ltO U)) (A := fun j => ai U 21 18 (0 + j)) (fun j => hR18 (0 + j)) i (a - 1)
                            have hE1 := hMU.a14 ((srt (ltO U) (fun j => ai U 21 18 (0 + j)) i) (a - 1)).toNat
                            have hE2 := hMU.a14 (ai U 21 18 (0 + i)).toNat
                            refine r_iload C dX11_makes_368 rfl ?_
                            refine r_if_le (tgt := 419) C dX11_makes_370 (by decide) (by omega) (fun h370 => ?_) (fun h370 => ?_)
                            · skip
                              have hpa : posn (ltO U) (srt (ltO U) (fun j => ai U 21 18 (0 + j)) i) (ai U 21 18 (0 + i)) i = a := by rw [hp, show a = 0 by omega]; rfl
                              refine r_aload_n C dX11_makes_419 rfl rfl ?_
                              refine r_getf C mid_20 (hp_20 _) rfl 18 (by decide) in_X11_makes_X11 lk_X11_makes_47 (Or.inl rfl) rfl dX11_makes_420 ?_
                              refine r_iload C dX11_makes_423 rfl ?_
                              refine r_iload C dX11_makes_425 rfl ?_
                              refine r_iast (j := 0 + a) C mid_21_18 (hp_21_18 _) rfl (by omega) (by omega) (by decide) (ha_21_18 _ _ _) dX11_makes_427 ?_
                              refine mw (hM.pa18 (hR18 _)) (fun hM => ?_)
                              rw [sa_sA, srtA_ins (by omega) ha hpa]
                              refine r_iinc (lv' := [(3, _), (0, _), (4, _), (5, _)]) C dX11_makes_428 rfl (hn _ (by decide)) rfl ?_
                              refine r_goto (tgt := 342) C dX11_makes_431 (by decide) ?_
                              exact At_lv (by simp) (ih (i + 1) (by omega) (by omega) (by omega))
                            · skip
                              refine r_aload_n C dX11_makes_373 rfl rfl ?_
                              refine r_getf C mid_20 (hp_20 _) rfl 14 (by decide) in_X11_makes_X11 lk_X11_makes_44 (Or.inl rfl) rfl dX11_makes_374 ?_
                              refine r_aload_n C dX11_makes_377 rfl rfl ?_
                              refine r_getf C mid_20 (hp_20 _) rfl 18 (by decide) in_X11_makes_X11 lk_X11_makes_47 (Or.inl rfl) rfl dX11_makes_378 ?_
                              refine r_iload C dX11_makes_381 rfl ?_
                              refine r_iconst C dX11_makes_383 ?_
                              refine r_isub C dX11_makes_384 ?_
                              refine r_iald (j := 0 + a - 1) C mid_21_18 (hp_21_18 _) rfl (by omega) (by omega) (by decide) dX11_makes_385 ?_
                              refine mr hM.a18 (fun hA385 => ?_)
                              refine At_val (v' := vi ((srt (ltO U) (fun j => ai U 21 18 (0 + j)) i) (a - 1))) (by rw [ai_sA, shA_at (by omega), show 0 + a - 1 = 0 + (a - 1) by omega, srtA_in (by omega)]) ?_
                              refine r_iald (j := ((srt (ltO U) (fun j => ai U 21 18 (0 + j)) i) (a - 1)).toNat) C mid_21_14 (hp_21_14 _) rfl (by omega) (by omega) (by decide) dX11_makes_386 ?_
                              refine mr hM.a14 (fun hA386 => ?_)
                              refine At_val (v' := vi (ai U 21 14 ((srt (ltO U) (fun j => ai U 21 18 (0 + j)) i) (a - 1)).toNat)) (by rw [ai_sA_ne U (by decide)]) ?_
                              refine r_aload_n C dX11_makes_387 rfl rfl ?_
                              refine r_getf C mid_20 (hp_20 _) rfl 14 (by decide) in_X11_makes_X11 lk_X11_makes_44 (Or.inl rfl) rfl dX11_makes_388 ?_
                              refine r_iload C dX11_makes_391 rfl ?_
                              refine r_iald (j := (ai U 21 18 (0 + i)).toNat) C mid_21_14 (hp_21_14 _) rfl (by omega) (by omega) (by decide) dX11_makes_393 ?_
                              refine mr hM.a14 (fun hA393 => ?_)
                              refine At_val (v' := vi (ai U 21 14 (ai U 21 18 (0 + i)).toNat)) (by rw [ai_sA_ne U (by decide)]) ?_
                              refine r_icmp_le (tgt := 419) C dX11_makes_394 (by decide) (by omega) (by omega) (fun h394 => ?_) (fun h394 => ?_)
                              · skip
                                have hpa : posn (ltO U) (srt (ltO U) (fun j => ai U 21 18 (0 + j)) i) (ai U 21 18 (0 + i)) i = a := by rw [hp]; exact posn_at (decide_eq_false (by omega)) (by omega)
                                refine r_aload_n C dX11_makes_419 rfl rfl ?_
                                refine r_getf C mid_20 (hp_20 _) rfl 18 (by decide) in_X11_makes_X11 lk_X11_makes_47 (Or.inl rfl) rfl dX11_makes_420 ?_
                                refine r_iload C dX11_makes_423 rfl ?_
                                refine r_iload C dX11_makes_425 rfl ?_
                                refine r_iast (j := 0 + a) C mid_21_18 (hp_21_18 _) rfl (by omega) (by omega) (by decide) (ha_21_18 _ _ _) dX11_makes_427 ?_
                                refine mw (hM.pa18 (hR18 _)) (fun hM => ?_)
                                rw [sa_sA, srtA_ins (by omega) ha hpa]
                                refine r_iinc (lv' := [(3, _), (0, _), (4, _), (5, _)]) C dX11_makes_428 rfl (hn _ (by decide)) rfl ?_
                                refine r_goto (tgt := 342) C dX11_makes_431 (by decide) ?_
                                exact At_lv (by simp) (ih (i + 1) (by omega) (by omega) (by omega))
                              · skip
                                refine r_aload_n C dX11_makes_397 rfl rfl ?_
                                refine r_getf C mid_20 (hp_20 _) rfl 18 (by decide) in_X11_makes_X11 lk_X11_makes_47 (Or.inl rfl) rfl dX11_makes_398 ?_
                                refine r_iload C dX11_makes_401 rfl ?_
                                refine r_aload_n C dX11_makes_403 rfl rfl ?_
                                refine r_getf C mid_20 (hp_20 _) rfl 18 (by decide) in_X11_makes_X11 lk_X11_makes_47 (Or.inl rfl) rfl dX11_makes_404 ?_
                                refine r_iload C dX11_makes_407 rfl ?_
                                refine r_iconst C dX11_makes_409 ?_
                                refine r_isub C dX11_makes_410 ?_
                                refine r_iald (j := 0 + a - 1) C mid_21_18 (hp_21_18 _) rfl (by omega) (by omega) (by decide) dX11_makes_411 ?_
                                refine mr hM.a18 (fun hA411 => ?_)
                                refine At_val (v' := vi ((srtA (ltO U) (ai U 21 18) 0 i) (0 + a - 1))) (by rw [ai_sA, shA_at (by omega)]) ?_
                                refine r_iast (j := 0 + a) C mid_21_18 (hp_21_18 _) rfl (by omega) (by omega) (by decide) (ha_21_18 _ _ _) dX11_makes_412 ?_
                                refine mw (hM.pa18 (srtA_R hR18 _ _ _)) (fun hM => ?_)
                                rw [sa_sA, shA_dn (by omega) ha]
                                refine r_iinc (lv' := [(5, _), (0, _), (3, _), (4, _)]) C dX11_makes_413 rfl (hn _ (by decide)) rfl ?_
                                refine r_goto (tgt := 368) C dX11_makes_416 (by decide) ?_
                                exact At_lv (by simp; omega) (ih2 (a - 1) (by omega) (by omega) (by rw [hp]; exact posn_up (decide_eq_true h394) (by omega)))
                        rw [← shA_k (srtA (ltO U) (ai U 21 18) 0 i) 0 i]
                        exact At_lv (by simp) (loop368 (i + 1) i (by omega) (by omega) rfl)
                  rw [← sA_self U 18, ← srtA_0 (ltO U) (ai U 21 18) 0 1 (Nat.le_refl 1)]
                  exact At_lv (by simp) (loop342 9 1 (by omega) (by omega) (Or.inl rfl))
                · skip
                  refine r_iconst C dX11_makes_340 ?_
                  refine r_istore_n (lv' := [(3, _), (0, _), (1, _), (2, _)]) C dX11_makes_341 rfl (hn _ (by decide)) rfl ?_
                  refine r_iload_n C dX11_makes_342 rfl rfl ?_
                  refine r_aload_n C dX11_makes_343 rfl rfl ?_
                  refine r_getf C mid_20 (hp_20 _) rfl 17 (by decide) in_X11_makes_X11 lk_X11_makes_141 (Or.inl rfl) rfl dX11_makes_344 ?_
                  have hI344 := hM.i17
                  refine At_val (v' := vi (iv U 20 17 0)) (rfl) ?_
                  refine r_icmp_ge (tgt := 434) C dX11_makes_347 (by decide) (by omega) (by omega) (fun h347 => ?_) (fun h347 => ?_)
                  · skip
                    exact r_vret C Rr (⟨rfl, by rw [hmx]; unfold mkE; rw [if_neg hpk]⟩) dX11_makes_434
                  · skip
                    refine r_aload_n C dX11_makes_350 rfl rfl ?_
                    refine r_getf C mid_20 (hp_20 _) rfl 15 (by decide) in_X11_makes_X11 lk_X11_makes_135 (Or.inl rfl) rfl dX11_makes_351 ?_
                    have hI351 := hM.i15
                    refine At_val (v' := vi (iv U 20 15 0)) (rfl) ?_
                    refine r_if_ne (tgt := 434) C dX11_makes_354 (by decide) (by omega) (fun h354 => ?_) (fun h354 => ?_)
                    · skip
                      exact r_vret C Rr (⟨rfl, by rw [hmx]; unfold mkE; rw [if_neg hpk]⟩) dX11_makes_434
                    · exact absurd h354 (by omega)
              refine r_aload_n C dX11_makes_316 rfl rfl ?_
              refine r_aload_n C dX11_makes_317 rfl rfl ?_
              refine r_getf C mid_20 (hp_20 _) rfl 15 (by decide) in_X11_makes_X11 lk_X11_makes_135 (Or.inl rfl) rfl dX11_makes_318 ?_
              have hI318 := hM.i15
              refine r_iconst C dX11_makes_321 ?_
              refine r_iconst C dX11_makes_322 ?_
              refine r_callS (as := [_, _, _]) (na := 3) (rest := [_]) C (M_in TC (iv TC 20 15 0) 0 2 (by omega) (by decide) (by decide)) gX11_makes_X11_in (by decide +kernel) (by decide) (by decide) rfl (Nat.le_of_ble_eq_true rfl) rfl dX11_makes_323 rfl (fun v1 S1 hp1 => ?_)
              obtain ⟨rfl, e9⟩ := hp1
              subst S1
              refine r_if_eq (tgt := 336) C dX11_makes_326 (by decide) (by have := b2i_01 (decide (0 ≤ iv TC 20 15 0 ∧ iv TC 20 15 0 ≤ 2)); omega) (fun h326 => ?_) (fun h326 => ?_)
              · skip
                refine r_iconst C dX11_makes_336 ?_
                refine At_val (v' := vi (if iv TC 20 15 0 ≤ 2 then iv TC 20 17 0 else 0)) (congrArg vi (by first | (have q := of_decide_eq_true (b2i_1 h326); rw [if_pos (by omega)]) | (have q := of_decide_eq_false (b2i_0 h326); rw [if_neg (by omega)]))) ?_
                exact At_lv (by simp) cut337
              · skip
                refine r_aload_n C dX11_makes_329 rfl rfl ?_
                refine r_getf C mid_20 (hp_20 _) rfl 17 (by decide) in_X11_makes_X11 lk_X11_makes_141 (Or.inl rfl) rfl dX11_makes_330 ?_
                have hI330 := hM.i17
                refine r_goto (tgt := 337) C dX11_makes_333 (by decide) ?_
                refine At_val (v' := vi (if iv TC 20 15 0 ≤ 2 then iv TC 20 17 0 else 0)) (congrArg vi (by first | (have q := of_decide_eq_true (b2i_1 h326); rw [if_pos (by omega)]) | (have q := of_decide_eq_false (b2i_0 h326); rw [if_neg (by omega)]))) ?_
                exact At_lv (by simp) cut337
            refine r_aload_n C dX11_makes_296 rfl rfl ?_
            refine r_aload_n C dX11_makes_297 rfl rfl ?_
            refine r_getf C mid_20 (hp_20 _) rfl 15 (by decide) in_X11_makes_X11 lk_X11_makes_135 (Or.inl rfl) rfl dX11_makes_298 ?_
            have hI298 := hM.i15
            refine r_iconst C dX11_makes_301 ?_
            refine r_icmp_ne (tgt := 312) C dX11_makes_302 (by decide) (by omega) (by omega) (fun h302 => ?_) (fun h302 => ?_)
            · skip
              refine r_iconst C dX11_makes_312 ?_
              refine At_val (v' := vi (if iv TB 20 15 0 = 2 then iv TB 20 16 0 else 0)) (congrArg vi (by first | rw [if_pos (by omega)] | rw [if_neg (by omega)])) ?_
              exact At_lv (by simp) cut313
            · skip
              refine r_aload_n C dX11_makes_305 rfl rfl ?_
              refine r_getf C mid_20 (hp_20 _) rfl 16 (by decide) in_X11_makes_X11 lk_X11_makes_138 (Or.inl rfl) rfl dX11_makes_306 ?_
              have hI306 := hM.i16
              refine r_goto (tgt := 313) C dX11_makes_309 (by decide) ?_
              refine At_val (v' := vi (if iv TB 20 15 0 = 2 then iv TB 20 16 0 else 0)) (congrArg vi (by first | rw [if_pos (by omega)] | rw [if_neg (by omega)])) ?_
              exact At_lv (by simp) cut313
          have cut289 : (¬ (iv TA 20 17 0 = 0 ∧ iv TA 20 15 0 = 0)) → (¬ (iv TA 20 17 0 = 0 ∧ iv TA 20 15 0 = 1)) → At X 0 0 289 [(0, vr (some (20, 0))), (1, vi (b2i nv)), (2, vi (b2i al))] [vr (some (20, 0))] TA := by
            intro hA hB
            refine r_aload_n C dX11_makes_289 rfl rfl ?_
            refine r_getf C mid_20 (hp_20 _) rfl 15 (by decide) in_X11_makes_X11 lk_X11_makes_135 (Or.inl rfl) rfl dX11_makes_290 ?_
            have hI290 := hM.i15
            refine At_val (v' := vi (if iv TA 20 17 0 = 0 ∧ iv TA 20 15 0 = 0 then 3 else if iv TA 20 17 0 = 0 ∧ iv TA 20 15 0 = 1 then 4 else iv TA 20 15 0)) (congrArg vi (by first | rw [if_pos (by omega)] | rw [if_neg hA, if_pos (by omega)] | rw [if_neg hA, if_neg hB])) ?_
            exact At_lv (by simp) cut293
          have cut270 : (¬ (iv TA 20 17 0 = 0 ∧ iv TA 20 15 0 = 0)) → At X 0 0 270 [(0, vr (some (20, 0))), (1, vi (b2i nv)), (2, vi (b2i al))] [vr (some (20, 0))] TA := by
            intro hA
            refine r_aload_n C dX11_makes_270 rfl rfl ?_
            refine r_getf C mid_20 (hp_20 _) rfl 17 (by decide) in_X11_makes_X11 lk_X11_makes_141 (Or.inl rfl) rfl dX11_makes_271 ?_
            have hI271 := hM.i17
            refine r_if_ne (tgt := 289) C dX11_makes_274 (by decide) (by omega) (fun h274 => ?_) (fun h274 => ?_)
            · skip
              exact At_lv (by simp) (cut289 hA (by omega))
            · skip
              refine r_aload_n C dX11_makes_277 rfl rfl ?_
              refine r_getf C mid_20 (hp_20 _) rfl 15 (by decide) in_X11_makes_X11 lk_X11_makes_135 (Or.inl rfl) rfl dX11_makes_278 ?_
              have hI278 := hM.i15
              refine r_iconst C dX11_makes_281 ?_
              refine r_icmp_ne (tgt := 289) C dX11_makes_282 (by decide) (by omega) (by omega) (fun h282 => ?_) (fun h282 => ?_)
              · skip
                exact At_lv (by simp) (cut289 hA (by omega))
              · skip
                refine r_iconst C dX11_makes_285 ?_
                refine r_goto (tgt := 293) C dX11_makes_286 (by decide) ?_
                refine At_val (v' := vi (if iv TA 20 17 0 = 0 ∧ iv TA 20 15 0 = 0 then 3 else if iv TA 20 17 0 = 0 ∧ iv TA 20 15 0 = 1 then 4 else iv TA 20 15 0)) (congrArg vi (by first | rw [if_pos (by omega)] | rw [if_neg hA, if_pos (by omega)] | rw [if_neg hA, if_neg hB])) ?_
                exact At_lv (by simp) cut293
          refine r_aload_n C dX11_makes_251 rfl rfl ?_
          refine r_aload_n C dX11_makes_252 rfl rfl ?_
          refine r_getf C mid_20 (hp_20 _) rfl 17 (by decide) in_X11_makes_X11 lk_X11_makes_141 (Or.inl rfl) rfl dX11_makes_253 ?_
          have hI253 := hM.i17
          refine r_if_ne (tgt := 270) C dX11_makes_256 (by decide) (by omega) (fun h256 => ?_) (fun h256 => ?_)
          · skip
            exact At_lv (by simp) (cut270 (by omega))
          · skip
            refine r_aload_n C dX11_makes_259 rfl rfl ?_
            refine r_getf C mid_20 (hp_20 _) rfl 15 (by decide) in_X11_makes_X11 lk_X11_makes_135 (Or.inl rfl) rfl dX11_makes_260 ?_
            have hI260 := hM.i15
            refine r_if_ne (tgt := 270) C dX11_makes_263 (by decide) (by omega) (fun h263 => ?_) (fun h263 => ?_)
            · skip
              exact At_lv (by simp) (cut270 (by omega))
            · skip
              refine r_iconst C dX11_makes_266 ?_
              refine r_goto (tgt := 293) C dX11_makes_267 (by decide) ?_
              refine At_val (v' := vi (if iv TA 20 17 0 = 0 ∧ iv TA 20 15 0 = 0 then 3 else if iv TA 20 17 0 = 0 ∧ iv TA 20 15 0 = 1 then 4 else iv TA 20 15 0)) (congrArg vi (by first | rw [if_pos (by omega)] | rw [if_neg hA, if_pos (by omega)] | rw [if_neg hA, if_neg hB])) ?_
              exact At_lv (by simp) cut293
        have cut222 : (¬ (iv TT 20 2 0 = 0 ∧ nv = true)) → (¬ (iv TT 20 2 0 = 1 ∧ al = true)) → At X 0 0 222 [(0, vr (some (20, 0))), (1, vi (b2i nv)), (2, vi (b2i al))] [vr (some (20, 0))] TT := by
          intro hA hB
          refine r_aload_n C dX11_makes_222 rfl rfl ?_
          refine r_getf C mid_20 (hp_20 _) rfl 2 (by decide) in_X11_makes_X11 lk_X11_makes_108 (Or.inl rfl) rfl dX11_makes_223 ?_
          have hI223 := hM.i2
          refine r_iconst C dX11_makes_226 ?_
          refine r_icmp_ne (tgt := 244) C dX11_makes_227 (by decide) (by omega) (by omega) (fun h227 => ?_) (fun h227 => ?_)
          · skip
            refine r_aload_n C dX11_makes_244 rfl rfl ?_
            refine r_getf C mid_20 (hp_20 _) rfl 2 (by decide) in_X11_makes_X11 lk_X11_makes_108 (Or.inl rfl) rfl dX11_makes_245 ?_
            have hI245 := hM.i2
            refine At_val (v' := vi (if iv TT 20 2 0 = 0 ∧ nv = true then 4 else if iv TT 20 2 0 = 1 ∧ al = true then 3 else if iv TT 20 2 0 = 2 then someK (iv TT 20 16 0) (iv TT 20 17 0) else iv TT 20 2 0)) (congrArg vi (by first | rw [if_pos ⟨by omega, b2i_1 h199⟩] | rw [if_neg hA, if_pos ⟨by omega, b2i_1 h215⟩] | rw [if_neg hA, if_neg hB, if_pos (by omega)] | rw [if_neg hA, if_neg hB, if_neg (by omega)])) ?_
            exact At_lv (by simp) cut248
          · skip
            refine r_aload_n C dX11_makes_230 rfl rfl ?_
            refine r_getf C mid_20 (hp_20 _) rfl 16 (by decide) in_X11_makes_X11 lk_X11_makes_138 (Or.inl rfl) rfl dX11_makes_231 ?_
            have hI231 := hM.i16
            refine r_aload_n C dX11_makes_234 rfl rfl ?_
            refine r_getf C mid_20 (hp_20 _) rfl 17 (by decide) in_X11_makes_X11 lk_X11_makes_141 (Or.inl rfl) rfl dX11_makes_235 ?_
            have hI235 := hM.i17
            refine r_callS (as := [_, _]) (na := 2) (rest := [_]) C (M_some TT (iv TT 20 16 0) (iv TT 20 17 0) (by omega) (by omega)) gX11_makes_X11_some (by decide +kernel) (by decide) (by decide) rfl (Nat.le_of_ble_eq_true rfl) rfl dX11_makes_238 rfl (fun v1 S1 hp1 => ?_)
            obtain ⟨rfl, e9⟩ := hp1
            subst S1
            refine r_goto (tgt := 248) C dX11_makes_241 (by decide) ?_
            refine At_val (v' := vi (if iv TT 20 2 0 = 0 ∧ nv = true then 4 else if iv TT 20 2 0 = 1 ∧ al = true then 3 else if iv TT 20 2 0 = 2 then someK (iv TT 20 16 0) (iv TT 20 17 0) else iv TT 20 2 0)) (congrArg vi (by first | rw [if_pos ⟨by omega, b2i_1 h199⟩] | rw [if_neg hA, if_pos ⟨by omega, b2i_1 h215⟩] | rw [if_neg hA, if_neg hB, if_pos (by omega)] | rw [if_neg hA, if_neg hB, if_neg (by omega)])) ?_
            exact At_lv (by simp) cut248
        have cut206 : (¬ (iv TT 20 2 0 = 0 ∧ nv = true)) → At X 0 0 206 [(0, vr (some (20, 0))), (1, vi (b2i nv)), (2, vi (b2i al))] [vr (some (20, 0))] TT := by
          intro hA
          refine r_aload_n C dX11_makes_206 rfl rfl ?_
          refine r_getf C mid_20 (hp_20 _) rfl 2 (by decide) in_X11_makes_X11 lk_X11_makes_108 (Or.inl rfl) rfl dX11_makes_207 ?_
          have hI207 := hM.i2
          refine r_iconst C dX11_makes_210 ?_
          refine r_icmp_ne (tgt := 222) C dX11_makes_211 (by decide) (by omega) (by omega) (fun h211 => ?_) (fun h211 => ?_)
          · skip
            exact At_lv (by simp) (cut222 hA (fun q => by first | omega | (rw [q.2] at h215; exact absurd h215 (by decide))))
          · skip
            refine r_iload_n C dX11_makes_214 rfl rfl ?_
            refine r_if_eq (tgt := 222) C dX11_makes_215 (by decide) (by omega) (fun h215 => ?_) (fun h215 => ?_)
            · skip
              exact At_lv (by simp) (cut222 hA (fun q => by first | omega | (rw [q.2] at h215; exact absurd h215 (by decide))))
            · skip
              refine r_iconst C dX11_makes_218 ?_
              refine r_goto (tgt := 248) C dX11_makes_219 (by decide) ?_
              refine At_val (v' := vi (if iv TT 20 2 0 = 0 ∧ nv = true then 4 else if iv TT 20 2 0 = 1 ∧ al = true then 3 else if iv TT 20 2 0 = 2 then someK (iv TT 20 16 0) (iv TT 20 17 0) else iv TT 20 2 0)) (congrArg vi (by first | rw [if_pos ⟨by omega, b2i_1 h199⟩] | rw [if_neg hA, if_pos ⟨by omega, b2i_1 h215⟩] | rw [if_neg hA, if_neg hB, if_pos (by omega)] | rw [if_neg hA, if_neg hB, if_neg (by omega)])) ?_
              exact At_lv (by simp) cut248
        refine r_aload_n C dX11_makes_190 rfl rfl ?_
        refine r_aload_n C dX11_makes_191 rfl rfl ?_
        refine r_getf C mid_20 (hp_20 _) rfl 2 (by decide) in_X11_makes_X11 lk_X11_makes_108 (Or.inl rfl) rfl dX11_makes_192 ?_
        have hI192 := hM.i2
        refine r_if_ne (tgt := 206) C dX11_makes_195 (by decide) (by omega) (fun h195 => ?_) (fun h195 => ?_)
        · skip
          exact At_lv (by simp) (cut206 (fun q => by first | omega | (rw [q.2] at h199; exact absurd h199 (by decide))))
        · skip
          refine r_iload_n C dX11_makes_198 rfl rfl ?_
          refine r_if_eq (tgt := 206) C dX11_makes_199 (by decide) (by omega) (fun h199 => ?_) (fun h199 => ?_)
          · skip
            exact At_lv (by simp) (cut206 (fun q => by first | omega | (rw [q.2] at h199; exact absurd h199 (by decide))))
          · skip
            refine r_iconst C dX11_makes_202 ?_
            refine r_goto (tgt := 248) C dX11_makes_203 (by decide) ?_
            refine At_val (v' := vi (if iv TT 20 2 0 = 0 ∧ nv = true then 4 else if iv TT 20 2 0 = 1 ∧ al = true then 3 else if iv TT 20 2 0 = 2 then someK (iv TT 20 16 0) (iv TT 20 17 0) else iv TT 20 2 0)) (congrArg vi (by first | rw [if_pos ⟨by omega, b2i_1 h199⟩] | rw [if_neg hA, if_pos ⟨by omega, b2i_1 h215⟩] | rw [if_neg hA, if_neg hB, if_pos (by omega)] | rw [if_neg hA, if_neg hB, if_neg (by omega)])) ?_
            exact At_lv (by simp) cut248
      · skip
        obtain ⟨hMS, hM2, hM3, hM4, hN4⟩ := mkS_MI (S := (mkL (mk0 S) i).2.2) hM (k := i) (by omega) (by omega) (by omega)
        have hM1 := mk1_MI hM i
        have hMp := plainF_MI hM i
        have hnx := b2i_01 ((mkL (mk0 S) i).1 || decide (ai (mk1 (mkL (mk0 S) i).2.2 i) 21 10 i = 4))
        have hax := b2i_01 ((mkL (mk0 S) i).2.1 || decide (ai (mk1 (mkL (mk0 S) i).2.2 i) 21 10 i = 3))
        have cut59 : At X 0 0 59 [(0, vr (some (20, 0))), (1, vi (b2i (mkL (mk0 S) i).1)), (2, vi (b2i (mkL (mk0 S) i).2.1)), (3, vi (i : Int))] [] (mk1 (mkL (mk0 S) i).2.2 i) := by
          skip
          replace hM := hM1
          have cut78 : At X 0 0 78 [(0, vr (some (20, 0))), (1, vi (b2i (mkL (mk0 S) i).1)), (2, vi (b2i (mkL (mk0 S) i).2.1)), (3, vi (i : Int))] [vi (b2i ((mkL (mk0 S) i).1 || decide (ai (mk1 (mkL (mk0 S) i).2.2 i) 21 10 i = 4)))] (mk1 (mkL (mk0 S) i).2.2 i) := by
            skip
            refine r_istore_n (lv' := [(1, _), (0, _), (2, _), (3, _)]) C dX11_makes_78 rfl (hn _ (by decide)) rfl ?_
            have cut98 : At X 0 0 98 [(0, vr (some (20, 0))), (1, vi (b2i ((mkL (mk0 S) i).1 || decide (ai (mk1 (mkL (mk0 S) i).2.2 i) 21 10 i = 4)))), (2, vi (b2i (mkL (mk0 S) i).2.1)), (3, vi (i : Int))] [vi (b2i ((mkL (mk0 S) i).2.1 || decide (ai (mk1 (mkL (mk0 S) i).2.2 i) 21 10 i = 3)))] (mk1 (mkL (mk0 S) i).2.2 i) := by
              skip
              refine r_istore_n (lv' := [(2, _), (0, _), (1, _), (3, _)]) C dX11_makes_98 rfl (hn _ (by decide)) rfl ?_
              have cut127 : At X 0 0 127 [(0, vr (some (20, 0))), (1, vi (b2i ((mkL (mk0 S) i).1 || decide (ai (mk1 (mkL (mk0 S) i).2.2 i) 21 10 i = 4)))), (2, vi (b2i ((mkL (mk0 S) i).2.1 || decide (ai (mk1 (mkL (mk0 S) i).2.2 i) 21 10 i = 3)))), (3, vi (i : Int))] [vi (if iv (mk1 (mkL (mk0 S) i).2.2 i) 20 2 0 = 2 ∧ ai (mk1 (mkL (mk0 S) i).2.2 i) 21 10 i = 3 then 1 else 0), vi (iv (mk1 (mkL (mk0 S) i).2.2 i) 20 16 0), vr (some (20, 0))] (mk1 (mkL (mk0 S) i).2.2 i) := by
                skip
                refine r_isub C dX11_makes_127 ?_
                refine r_putf  C mid_20 (hp_20 _) rfl 16 (by decide) in_X11_makes_X11 lk_X11_makes_138 (Or.inl rfl) tyX11 tyX11_ok nmX11 rfl (tyX11_ok 16 (by decide)) (fun _ => rfl) (fun _ => rfl) (Nat.le_of_ble_eq_true rfl) (hs_20_16 _ _) dX11_makes_128 ?_
                refine mw (hM.pi16 (by have := hM2.i16; exact this)) (fun hM => ?_)
                change At X _ _ _ _ _ (mk2 (mk1 (mkL (mk0 S) i).2.2 i) i)
                replace hM := hM2
                have cut165 : At X 0 0 165 [(0, vr (some (20, 0))), (1, vi (b2i ((mkL (mk0 S) i).1 || decide (ai (mk1 (mkL (mk0 S) i).2.2 i) 21 10 i = 4)))), (2, vi (b2i ((mkL (mk0 S) i).2.1 || decide (ai (mk1 (mkL (mk0 S) i).2.2 i) 21 10 i = 3)))), (3, vi (i : Int))] [] (mk3 (mk2 (mk1 (mkL (mk0 S) i).2.2 i) i) i) := by
                  skip
                  replace hM := hM3
                  have cut179 : At X 0 0 179 [(0, vr (some (20, 0))), (1, vi (b2i ((mkL (mk0 S) i).1 || decide (ai (mk1 (mkL (mk0 S) i).2.2 i) 21 10 i = 4)))), (2, vi (b2i ((mkL (mk0 S) i).2.1 || decide (ai (mk1 (mkL (mk0 S) i).2.2 i) 21 10 i = 3)))), (3, vi (i : Int))] [] (mk4 (mk3 (mk2 (mk1 (mkL (mk0 S) i).2.2 i) i) i) i) := by
                    skip
                    replace hM := hM4
                    refine r_aload_n C dX11_makes_179 rfl rfl ?_
                    refine r_iload_n C dX11_makes_180 rfl rfl ?_
                    refine r_callV (as := [_]) (na := 1) (rest := []) C mid_20 (hp_20 _) rfl (M_estimates (mk4 (mk3 (mk2 (mk1 (mkL (mk0 S) i).2.2 i) i) i) i) i (by omega) hN4 hM) gX11_makes_X11_estimates (by decide +kernel) (by decide) (by decide) rfl (Nat.le_of_ble_eq_true rfl) rfl dX11_makes_181 rfl (fun v1 S1 hp1 => ?_)
                    obtain ⟨rfl, e9⟩ := hp1
                    subst S1
                    refine r_iinc (lv' := [(3, _), (0, _), (1, _), (2, _)]) C dX11_makes_184 rfl (hn _ (by decide)) rfl ?_
                    refine r_goto (tgt := 27) C dX11_makes_187 (by decide) ?_
                    have ihn := ih (i + 1) (by omega) (by omega)
                    exact At_lv (by simp [mkL]) ihn
                  refine r_aload_n C dX11_makes_165 rfl rfl ?_
                  refine r_getf C mid_20 (hp_20 _) rfl 10 (by decide) in_X11_makes_X11 lk_X11_makes_32 (Or.inl rfl) rfl dX11_makes_166 ?_
                  refine r_iload_n C dX11_makes_169 rfl rfl ?_
                  refine r_iald (j := _) C mid_21_10 (hp_21_10 _) rfl (rfl) (by omega) (by decide) dX11_makes_170 ?_
                  refine mr hM.a10 (fun hA170 => ?_)
                  refine r_if_ne (tgt := 179) C dX11_makes_171 (by decide) (by omega) (fun h171 => ?_) (fun h171 => ?_)
                  · skip
                    refine At_st (S' := (mk4 (mk3 (mk2 (mk1 (mkL (mk0 S) i).2.2 i) i) i) i)) ?_ (At_lv (by simp) cut179)
                    first | exact (if_pos (show ai (mk3 (mk2 (mk1 (mkL (mk0 S) i).2.2 i) i) i) 21 10 i = 0 by omega)).symm | exact (if_neg (show ¬ ai (mk3 (mk2 (mk1 (mkL (mk0 S) i).2.2 i) i) i) 21 10 i = 0 by omega)).symm
                  · skip
                    refine r_aload_n C dX11_makes_174 rfl rfl ?_
                    refine r_iload_n C dX11_makes_175 rfl rfl ?_
                    refine r_callV (as := [_]) (na := 1) (rest := []) C mid_20 (hp_20 _) rfl (M_sorts (mk3 (mk2 (mk1 (mkL (mk0 S) i).2.2 i) i) i) i (by omega) hM) gX11_makes_X11_sorts (by decide +kernel) (by decide) (by decide) rfl (Nat.le_of_ble_eq_true rfl) rfl dX11_makes_176 rfl (fun v1 S1 hp1 => ?_)
                    obtain ⟨rfl, e9⟩ := hp1
                    subst S1
                    refine At_st (S' := (mk4 (mk3 (mk2 (mk1 (mkL (mk0 S) i).2.2 i) i) i) i)) ?_ (At_lv (by simp) cut179)
                    first | exact (if_pos (show ai (mk3 (mk2 (mk1 (mkL (mk0 S) i).2.2 i) i) i) 21 10 i = 0 by omega)).symm | exact (if_neg (show ¬ ai (mk3 (mk2 (mk1 (mkL (mk0 S) i).2.2 i) i) i) 21 10 i = 0 by omega)).symm
                refine r_aload_n C dX11_makes_131 rfl rfl ?_
                refine r_getf C mid_20 (hp_20 _) rfl 10 (by decide) in_X11_makes_X11 lk_X11_makes_32 (Or.inl rfl) rfl dX11_makes_132 ?_
                refine r_iload_n C dX11_makes_135 rfl rfl ?_
                refine r_iald (j := _) C mid_21_10 (hp_21_10 _) rfl (rfl) (by omega) (by decide) dX11_makes_136 ?_
                refine mr hM.a10 (fun hA136 => ?_)
                refine r_iconst C dX11_makes_137 ?_
                refine r_iconst C dX11_makes_138 ?_
                refine r_callS (as := [_, _, _]) (na := 3) (rest := []) C (M_in (mk2 (mk1 (mkL (mk0 S) i).2.2 i) i) (ai (mk2 (mk1 (mkL (mk0 S) i).2.2 i) i) 21 10 i) 0 2 (by omega) (by decide) (by decide)) gX11_makes_X11_in (by decide +kernel) (by decide) (by decide) rfl (Nat.le_of_ble_eq_true rfl) rfl dX11_makes_139 rfl (fun v1 S1 hp1 => ?_)
                obtain ⟨rfl, e9⟩ := hp1
                subst S1
                refine r_if_eq (tgt := 165) C dX11_makes_142 (by decide) (by have := b2i_01 (decide (0 ≤ ai (mk2 (mk1 (mkL (mk0 S) i).2.2 i) i) 21 10 i ∧ ai (mk2 (mk1 (mkL (mk0 S) i).2.2 i) i) 21 10 i ≤ 2)); omega) (fun h142 => ?_) (fun h142 => ?_)
                · skip
                  have q142 := of_decide_eq_false (b2i_0 h142)
                  have k10 := hM2.a10 i
                  refine At_st (S' := (mk3 (mk2 (mk1 (mkL (mk0 S) i).2.2 i) i) i)) ?_ (At_lv (by simp) cut165)
                  first | exact (if_pos (show ai (mk2 (mk1 (mkL (mk0 S) i).2.2 i) i) 21 10 i ≤ 2 from q142.2)).symm | exact (if_neg (show ¬ ai (mk2 (mk1 (mkL (mk0 S) i).2.2 i) i) 21 10 i ≤ 2 by omega)).symm
                · skip
                  have q17 : iv (mk2 (mk1 (mkL (mk0 S) i).2.2 i) i) 20 17 0 = iv (mkL (mk0 S) i).2.2 20 17 0 := ((mk2_MF _ i).i (by decide)).trans ((mk1_MF _ i).i (by decide))
                  have g17 := hM2.i17
                  refine r_aload_n C dX11_makes_145 rfl rfl ?_
                  refine r_getf C mid_20 (hp_20 _) rfl 18 (by decide) in_X11_makes_X11 lk_X11_makes_47 (Or.inl rfl) rfl dX11_makes_146 ?_
                  refine r_aload_n C dX11_makes_149 rfl rfl ?_
                  refine r_getf C mid_20 (hp_20 _) rfl 17 (by decide) in_X11_makes_X11 lk_X11_makes_141 (Or.inl rfl) rfl dX11_makes_150 ?_
                  have hI150 := hM.i17
                  refine r_iload_n C dX11_makes_153 rfl rfl ?_
                  refine r_iast (j := (iv (mk2 (mk1 (mkL (mk0 S) i).2.2 i) i) 20 17 0).toNat) C mid_21_18 (hp_21_18 _) rfl (by omega) (by omega) (by decide) (ha_21_18 _ _ _) dX11_makes_154 ?_
                  refine mw (hM.pa18 (by omega)) (fun hM => ?_)
                  refine r_aload_n C dX11_makes_155 rfl rfl ?_
                  refine r_dup C rfl dX11_makes_156 ?_
                  refine r_getf C mid_20 (hp_20 _) rfl 17 (by decide) in_X11_makes_X11 lk_X11_makes_141 (Or.inl rfl) rfl dX11_makes_157 ?_
                  have hI157 := hM.i17
                  refine At_val (v' := vi (iv (mk2 (mk1 (mkL (mk0 S) i).2.2 i) i) 20 17 0)) (rfl) ?_
                  refine r_iconst C dX11_makes_160 ?_
                  refine r_iadd C dX11_makes_161 ?_
                  refine r_putf  C mid_20 (hp_20 _) rfl 17 (by decide) in_X11_makes_X11 lk_X11_makes_141 (Or.inl rfl) tyX11 tyX11_ok nmX11 rfl (tyX11_ok 17 (by decide)) (fun _ => rfl) (fun _ => rfl) (Nat.le_of_ble_eq_true rfl) (hs_20_17 _ _) dX11_makes_162 ?_
                  refine mw (hM.pi17 (by omega)) (fun hM => ?_)
                  have q142 := of_decide_eq_true (b2i_1 h142)
                  refine At_st (S' := (mk3 (mk2 (mk1 (mkL (mk0 S) i).2.2 i) i) i)) ?_ (At_lv (by simp) cut165)
                  first | exact (if_pos (show ai (mk2 (mk1 (mkL (mk0 S) i).2.2 i) i) 21 10 i ≤ 2 from q142.2)).symm | exact (if_neg (show ¬ ai (mk2 (mk1 (mkL (mk0 S) i).2.2 i) i) 21 10 i ≤ 2 by omega)).symm
              refine r_aload_n C dX11_makes_99 rfl rfl ?_
              refine r_dup C rfl dX11_makes_100 ?_
              refine r_getf C mid_20 (hp_20 _) rfl 16 (by decide) in_X11_makes_X11 lk_X11_makes_138 (Or.inl rfl) rfl dX11_makes_101 ?_
              have hI101 := hM.i16
              refine r_aload_n C dX11_makes_104 rfl rfl ?_
              refine r_getf C mid_20 (hp_20 _) rfl 2 (by decide) in_X11_makes_X11 lk_X11_makes_108 (Or.inl rfl) rfl dX11_makes_105 ?_
              have hI105 := hM.i2
              refine r_iconst C dX11_makes_108 ?_
              refine r_icmp_ne (tgt := 126) C dX11_makes_109 (by decide) (by omega) (by omega) (fun h109 => ?_) (fun h109 => ?_)
              · skip
                refine r_iconst C dX11_makes_126 ?_
                refine At_val (v' := vi (if iv (mk1 (mkL (mk0 S) i).2.2 i) 20 2 0 = 2 ∧ ai (mk1 (mkL (mk0 S) i).2.2 i) 21 10 i = 3 then 1 else 0)) (by congr 1; first | rw [if_pos (by omega)] | rw [if_neg (by omega)]) ?_
                exact At_lv (by simp) cut127
              · skip
                refine r_aload_n C dX11_makes_112 rfl rfl ?_
                refine r_getf C mid_20 (hp_20 _) rfl 10 (by decide) in_X11_makes_X11 lk_X11_makes_32 (Or.inl rfl) rfl dX11_makes_113 ?_
                refine r_iload_n C dX11_makes_116 rfl rfl ?_
                refine r_iald (j := _) C mid_21_10 (hp_21_10 _) rfl (rfl) (by omega) (by decide) dX11_makes_117 ?_
                refine mr hM.a10 (fun hA117 => ?_)
                refine r_iconst C dX11_makes_118 ?_
                refine r_icmp_ne (tgt := 126) C dX11_makes_119 (by decide) (by omega) (by omega) (fun h119 => ?_) (fun h119 => ?_)
                · skip
                  refine r_iconst C dX11_makes_126 ?_
                  refine At_val (v' := vi (if iv (mk1 (mkL (mk0 S) i).2.2 i) 20 2 0 = 2 ∧ ai (mk1 (mkL (mk0 S) i).2.2 i) 21 10 i = 3 then 1 else 0)) (by congr 1; first | rw [if_pos (by omega)] | rw [if_neg (by omega)]) ?_
                  exact At_lv (by simp) cut127
                · skip
                  refine r_iconst C dX11_makes_122 ?_
                  refine r_goto (tgt := 127) C dX11_makes_123 (by decide) ?_
                  refine At_val (v' := vi (if iv (mk1 (mkL (mk0 S) i).2.2 i) 20 2 0 = 2 ∧ ai (mk1 (mkL (mk0 S) i).2.2 i) 21 10 i = 3 then 1 else 0)) (by congr 1; first | rw [if_pos (by omega)] | rw [if_neg (by omega)]) ?_
                  exact At_lv (by simp) cut127
            refine r_iload_n C dX11_makes_79 rfl rfl ?_
            refine r_if_ne (tgt := 93) C dX11_makes_80 (by decide) (by omega) (fun h80 => ?_) (fun h80 => ?_)
            · skip
              refine r_iconst C dX11_makes_93 ?_
              refine r_goto (tgt := 98) C dX11_makes_94 (by decide) ?_
              refine At_val (v' := vi (b2i ((mkL (mk0 S) i).2.1 || decide (ai (mk1 (mkL (mk0 S) i).2.2 i) 21 10 i = 3)))) (congrArg vi (by first | (rw [b2i_1 h80]; rfl) | (rw [b2i_0 h80, Bool.false_or]; first | rw [b2i_t (decide_eq_true h90)] | rw [b2i_f (decide_eq_false h90)]))) ?_
              exact At_lv (by simp) cut98
            · skip
              refine r_aload_n C dX11_makes_83 rfl rfl ?_
              refine r_getf C mid_20 (hp_20 _) rfl 10 (by decide) in_X11_makes_X11 lk_X11_makes_32 (Or.inl rfl) rfl dX11_makes_84 ?_
              refine r_iload_n C dX11_makes_87 rfl rfl ?_
              refine r_iald (j := _) C mid_21_10 (hp_21_10 _) rfl (rfl) (by omega) (by decide) dX11_makes_88 ?_
              refine mr hM.a10 (fun hA88 => ?_)
              refine r_iconst C dX11_makes_89 ?_
              refine r_icmp_ne (tgt := 97) C dX11_makes_90 (by decide) (by omega) (by omega) (fun h90 => ?_) (fun h90 => ?_)
              · skip
                refine r_iconst C dX11_makes_97 ?_
                refine At_val (v' := vi (b2i ((mkL (mk0 S) i).2.1 || decide (ai (mk1 (mkL (mk0 S) i).2.2 i) 21 10 i = 3)))) (congrArg vi (by first | (rw [b2i_1 h80]; rfl) | (rw [b2i_0 h80, Bool.false_or]; first | rw [b2i_t (decide_eq_true h90)] | rw [b2i_f (decide_eq_false h90)]))) ?_
                exact At_lv (by simp) cut98
              · skip
                refine r_iconst C dX11_makes_93 ?_
                refine r_goto (tgt := 98) C dX11_makes_94 (by decide) ?_
                refine At_val (v' := vi (b2i ((mkL (mk0 S) i).2.1 || decide (ai (mk1 (mkL (mk0 S) i).2.2 i) 21 10 i = 3)))) (congrArg vi (by first | (rw [b2i_1 h80]; rfl) | (rw [b2i_0 h80, Bool.false_or]; first | rw [b2i_t (decide_eq_true h90)] | rw [b2i_f (decide_eq_false h90)]))) ?_
                exact At_lv (by simp) cut98
          refine r_iload_n C dX11_makes_59 rfl rfl ?_
          refine r_if_ne (tgt := 73) C dX11_makes_60 (by decide) (by omega) (fun h60 => ?_) (fun h60 => ?_)
          · skip
            refine r_iconst C dX11_makes_73 ?_
            refine r_goto (tgt := 78) C dX11_makes_74 (by decide) ?_
            refine At_val (v' := vi (b2i ((mkL (mk0 S) i).1 || decide (ai (mk1 (mkL (mk0 S) i).2.2 i) 21 10 i = 4)))) (congrArg vi (by first | (rw [b2i_1 h60]; rfl) | (rw [b2i_0 h60, Bool.false_or]; first | rw [b2i_t (decide_eq_true h70)] | rw [b2i_f (decide_eq_false h70)]))) ?_
            exact At_lv (by simp) cut78
          · skip
            refine r_aload_n C dX11_makes_63 rfl rfl ?_
            refine r_getf C mid_20 (hp_20 _) rfl 10 (by decide) in_X11_makes_X11 lk_X11_makes_32 (Or.inl rfl) rfl dX11_makes_64 ?_
            refine r_iload_n C dX11_makes_67 rfl rfl ?_
            refine r_iald (j := _) C mid_21_10 (hp_21_10 _) rfl (rfl) (by omega) (by decide) dX11_makes_68 ?_
            refine mr hM.a10 (fun hA68 => ?_)
            refine r_iconst C dX11_makes_69 ?_
            refine r_icmp_ne (tgt := 77) C dX11_makes_70 (by decide) (by omega) (by omega) (fun h70 => ?_) (fun h70 => ?_)
            · skip
              refine r_iconst C dX11_makes_77 ?_
              refine At_val (v' := vi (b2i ((mkL (mk0 S) i).1 || decide (ai (mk1 (mkL (mk0 S) i).2.2 i) 21 10 i = 4)))) (congrArg vi (by first | (rw [b2i_1 h60]; rfl) | (rw [b2i_0 h60, Bool.false_or]; first | rw [b2i_t (decide_eq_true h70)] | rw [b2i_f (decide_eq_false h70)]))) ?_
              exact At_lv (by simp) cut78
            · skip
              refine r_iconst C dX11_makes_73 ?_
              refine r_goto (tgt := 78) C dX11_makes_74 (by decide) ?_
              refine At_val (v' := vi (b2i ((mkL (mk0 S) i).1 || decide (ai (mk1 (mkL (mk0 S) i).2.2 i) 21 10 i = 4)))) (congrArg vi (by first | (rw [b2i_1 h60]; rfl) | (rw [b2i_0 h60, Bool.false_or]; first | rw [b2i_t (decide_eq_true h70)] | rw [b2i_f (decide_eq_false h70)]))) ?_
              exact At_lv (by simp) cut78
        refine r_aload_n C dX11_makes_35 rfl rfl ?_
        refine r_iload_n C dX11_makes_36 rfl rfl ?_
        refine r_callV (as := [_]) (na := 1) (rest := []) C mid_20 (hp_20 _) rfl (M_plainly (mkL (mk0 S) i).2.2 i (by omega) hM) gX11_makes_X11_plainly (by decide +kernel) (by decide) (by decide) rfl (Nat.le_of_ble_eq_true rfl) rfl dX11_makes_37 rfl (fun v1 S1 hp1 => ?_)
        obtain ⟨rfl, e9⟩ := hp1
        subst S1
        replace hM := hMp
        refine r_aload_n C dX11_makes_40 rfl rfl ?_
        refine r_getf C mid_20 (hp_20 _) rfl 10 (by decide) in_X11_makes_X11 lk_X11_makes_32 (Or.inl rfl) rfl dX11_makes_41 ?_
        refine r_iload_n C dX11_makes_44 rfl rfl ?_
        refine r_iald (j := _) C mid_21_10 (hp_21_10 _) rfl (rfl) (by omega) (by decide) dX11_makes_45 ?_
        refine mr hM.a10 (fun hA45 => ?_)
        refine r_iconst C dX11_makes_46 ?_
        refine r_iconst C dX11_makes_47 ?_
        refine r_callS (as := [_, _, _]) (na := 3) (rest := []) C (M_in (plainF (mkL (mk0 S) i).2.2 i) (ai (plainF (mkL (mk0 S) i).2.2 i) 21 10 i) 0 1 (by omega) (by decide) (by decide)) gX11_makes_X11_in (by decide +kernel) (by decide) (by decide) rfl (Nat.le_of_ble_eq_true rfl) rfl dX11_makes_48 rfl (fun v1 S1 hp1 => ?_)
        obtain ⟨rfl, e9⟩ := hp1
        subst S1
        refine r_if_eq (tgt := 59) C dX11_makes_51 (by decide) (by have := b2i_01 (decide (0 ≤ ai (plainF (mkL (mk0 S) i).2.2 i) 21 10 i ∧ ai (plainF (mkL (mk0 S) i).2.2 i) 21 10 i ≤ 1)); omega) (fun h51 => ?_) (fun h51 => ?_)
        · skip
          have q51 := of_decide_eq_false (b2i_0 h51)
          refine At_st (S' := (mk1 (mkL (mk0 S) i).2.2 i)) ?_ (At_lv (by simp) cut59)
          first | exact (if_neg (fun q => q51 ⟨(hMp.a10 i).1, q⟩)).symm | exact (if_pos q51.2).symm
        · skip
          refine r_aload_n C dX11_makes_54 rfl rfl ?_
          refine r_iload_n C dX11_makes_55 rfl rfl ?_
          refine r_callV (as := [_]) (na := 1) (rest := []) C mid_20 (hp_20 _) rfl (M_thins (plainF (mkL (mk0 S) i).2.2 i) i (by omega) hM) gX11_makes_X11_thins (by decide +kernel) (by decide) (by decide) rfl (Nat.le_of_ble_eq_true rfl) rfl dX11_makes_56 rfl (fun v1 S1 hp1 => ?_)
          obtain ⟨rfl, e9⟩ := hp1
          subst S1
          have q51 := of_decide_eq_true (b2i_1 h51)
          refine At_st (S' := (mk1 (mkL (mk0 S) i).2.2 i)) ?_ (At_lv (by simp) cut59)
          first | exact (if_neg (fun q => q51 ⟨(hMp.a10 i).1, q⟩)).symm | exact (if_pos q51.2).symm
  exact At_lv (by simp [mkL, b2i]) (loop27 8 0 (by omega) (by omega))
set_option maxHeartbeats 4000000 in
set_option maxRecDepth 100000 in
theorem M_planEstimate (S : ST) (hn2 : iv S 20 15 0 = 2 → 1 ≤ iv S 20 16 0) (hM : MI S) : Ct yX11_planEstimate wsX11_planEstimate 2 [vr (some (20, 0))] S (fun v1 S1 => v1 = some (vi (planEstM S)) ∧ S1 = S) := by
  refine Ct.of (nL := 4) (by decide) rfl (Nat.le_of_ble_eq_true rfl) (by decide) (fun X C Rr hnL => ?_)
  have hn : ∀ i, i < 4 → i < X.2.2.2.2.2 := fun i h => by rw [hnL]; exact h
  have h17 := hM.i17
  have h15 := hM.i15
  have h16 := hM.i16
  refine r_bipush C dX11_planEstimate_0 (by decide) ?_
  refine r_istore_n (lv' := [(1, _), (0, _)]) C dX11_planEstimate_2 rfl (hn _ (by decide)) rfl ?_
  refine r_iconst C dX11_planEstimate_3 ?_
  refine r_istore_n (lv' := [(2, _), (1, _), (0, _)]) C dX11_planEstimate_4 rfl (hn _ (by decide)) rfl ?_
  refine r_iconst C dX11_planEstimate_5 ?_
  refine r_istore_n (lv' := [(3, _), (2, _), (1, _), (0, _)]) C dX11_planEstimate_6 rfl (hn _ (by decide)) rfl ?_
  have loop7 : ∀ (f i : Nat) (hk : 7 - i < f) (hi : (i : Int) ≤ iv S 20 17 0), At X 0 0 7 [(0, vr (some (20, 0))), (1, vi (leastF (oest S) 40 i)), (2, vi (sumF (oest S) i)), (3, vi (i : Int))] [] S := by
    intro kf
    induction kf with
    | zero => intro i hk hi; exact absurd hk (by omega)
    | succ kf ih =>
      intro i hk hi
      have hlb := leastF_b (e := oest S) (m := 40) (by omega) i (fun j _ => hM.a14 _)
      have hsb := sumF_b (e := oest S) i (fun j _ => hM.a14 _)
      have hoi : 0 ≤ oest S i ∧ oest S i ≤ 40 := hM.a14 _
      refine r_iload_n C dX11_planEstimate_7 rfl rfl ?_
      refine r_aload_n C dX11_planEstimate_8 rfl rfl ?_
      refine r_getf C mid_20 (hp_20 _) rfl 17 (by decide) in_X11_planEstimate_X11 lk_X11_planEstimate_141 (Or.inl rfl) rfl dX11_planEstimate_9 ?_
      have hI9 := hM.i17
      refine r_icmp_ge (tgt := 66) C dX11_planEstimate_12 (by decide) (by omega) (by omega) (fun h12 => ?_) (fun h12 => ?_)
      · skip
        have ei : i = (iv S 20 17 0).toNat := by omega
        subst ei
        refine r_aload_n C dX11_planEstimate_66 rfl rfl ?_
        refine r_aload_n C dX11_planEstimate_67 rfl rfl ?_
        refine r_getf C mid_20 (hp_20 _) rfl 15 (by decide) in_X11_planEstimate_X11 lk_X11_planEstimate_135 (Or.inl rfl) rfl dX11_planEstimate_68 ?_
        have hI68 := hM.i15
        refine r_aload_n C dX11_planEstimate_71 rfl rfl ?_
        refine r_getf C mid_20 (hp_20 _) rfl 16 (by decide) in_X11_planEstimate_X11 lk_X11_planEstimate_138 (Or.inl rfl) rfl dX11_planEstimate_72 ?_
        have hI72 := hM.i16
        refine r_iload_n C dX11_planEstimate_75 rfl rfl ?_
        refine r_iload_n C dX11_planEstimate_76 rfl rfl ?_
        refine r_callV (as := [_, _, _, _]) (na := 4) (rest := []) C mid_20 (hp_20 _) rfl (M_estimated S (iv S 20 15 0) (iv S 20 16 0) (leastF (oest S) 40 (iv S 20 17 0).toNat) (sumF (oest S) (iv S 20 17 0).toNat) h15 h16 hn2 hlb ⟨hsb.1, by omega⟩ hM) gX11_planEstimate_X11_estimated (by decide +kernel) (by decide) (by decide) rfl (Nat.le_of_ble_eq_true rfl) rfl dX11_planEstimate_77 rfl (fun v1 S1 hp1 => ?_)
        obtain ⟨rfl, e9⟩ := hp1
        subst S1
        exact r_iret C Rr (⟨rfl, rfl⟩) dX11_planEstimate_80
      · skip
        refine r_aload_n C dX11_planEstimate_15 rfl rfl ?_
        refine r_getf C mid_20 (hp_20 _) rfl 14 (by decide) in_X11_planEstimate_X11 lk_X11_planEstimate_44 (Or.inl rfl) rfl dX11_planEstimate_16 ?_
        refine r_aload_n C dX11_planEstimate_19 rfl rfl ?_
        refine r_getf C mid_20 (hp_20 _) rfl 18 (by decide) in_X11_planEstimate_X11 lk_X11_planEstimate_47 (Or.inl rfl) rfl dX11_planEstimate_20 ?_
        refine r_iload_n C dX11_planEstimate_23 rfl rfl ?_
        refine r_iald (j := _) C mid_21_18 (hp_21_18 _) rfl (rfl) (by omega) (by decide) dX11_planEstimate_24 ?_
        refine mr hM.a18 (fun hA24 => ?_)
        refine r_iald (j := (ai S 21 18 i).toNat) C mid_21_14 (hp_21_14 _) rfl (by omega) (by omega) (by decide) dX11_planEstimate_25 ?_
        refine mr hM.a14 (fun hA25 => ?_)
        refine At_val (v' := vi (oest S i)) (rfl) ?_
        refine r_iload_n C dX11_planEstimate_26 rfl rfl ?_
        refine r_icmp_ge (tgt := 44) C dX11_planEstimate_27 (by decide) (by omega) (by omega) (fun h27 => ?_) (fun h27 => ?_)
        · skip
          refine r_iload_n C dX11_planEstimate_44 rfl rfl ?_
          refine At_val (v' := vi (min (leastF (oest S) 40 i) (oest S i))) (by congr 1; omega) ?_
          refine r_istore_n (lv' := [(1, _), (0, _), (2, _), (3, _)]) C dX11_planEstimate_45 rfl (hn _ (by decide)) rfl ?_
          refine r_iload_n C dX11_planEstimate_46 rfl rfl ?_
          refine r_aload_n C dX11_planEstimate_47 rfl rfl ?_
          refine r_getf C mid_20 (hp_20 _) rfl 14 (by decide) in_X11_planEstimate_X11 lk_X11_planEstimate_44 (Or.inl rfl) rfl dX11_planEstimate_48 ?_
          refine r_aload_n C dX11_planEstimate_51 rfl rfl ?_
          refine r_getf C mid_20 (hp_20 _) rfl 18 (by decide) in_X11_planEstimate_X11 lk_X11_planEstimate_47 (Or.inl rfl) rfl dX11_planEstimate_52 ?_
          refine r_iload_n C dX11_planEstimate_55 rfl rfl ?_
          refine r_iald (j := _) C mid_21_18 (hp_21_18 _) rfl (rfl) (by omega) (by decide) dX11_planEstimate_56 ?_
          refine mr hM.a18 (fun hA56 => ?_)
          refine r_iald (j := (ai S 21 18 i).toNat) C mid_21_14 (hp_21_14 _) rfl (by omega) (by omega) (by decide) dX11_planEstimate_57 ?_
          refine mr hM.a14 (fun hA57 => ?_)
          refine At_val (v' := vi (oest S i)) (rfl) ?_
          refine r_iadd C dX11_planEstimate_58 ?_
          refine r_istore_n (lv' := [(2, _), (1, _), (0, _), (3, _)]) C dX11_planEstimate_59 rfl (hn _ (by decide)) rfl ?_
          refine r_iinc (lv' := [(3, _), (2, _), (1, _), (0, _)]) C dX11_planEstimate_60 rfl (hn _ (by decide)) rfl ?_
          refine r_goto (tgt := 7) C dX11_planEstimate_63 (by decide) ?_
          exact At_lv (by simp [leastF, sumF]) (ih (i + 1) (by omega) (by omega))
        · skip
          refine r_aload_n C dX11_planEstimate_30 rfl rfl ?_
          refine r_getf C mid_20 (hp_20 _) rfl 14 (by decide) in_X11_planEstimate_X11 lk_X11_planEstimate_44 (Or.inl rfl) rfl dX11_planEstimate_31 ?_
          refine r_aload_n C dX11_planEstimate_34 rfl rfl ?_
          refine r_getf C mid_20 (hp_20 _) rfl 18 (by decide) in_X11_planEstimate_X11 lk_X11_planEstimate_47 (Or.inl rfl) rfl dX11_planEstimate_35 ?_
          refine r_iload_n C dX11_planEstimate_38 rfl rfl ?_
          refine r_iald (j := _) C mid_21_18 (hp_21_18 _) rfl (rfl) (by omega) (by decide) dX11_planEstimate_39 ?_
          refine mr hM.a18 (fun hA39 => ?_)
          refine r_iald (j := (ai S 21 18 i).toNat) C mid_21_14 (hp_21_14 _) rfl (by omega) (by omega) (by decide) dX11_planEstimate_40 ?_
          refine mr hM.a14 (fun hA40 => ?_)
          refine At_val (v' := vi (oest S i)) (rfl) ?_
          refine r_goto (tgt := 45) C dX11_planEstimate_41 (by decide) ?_
          refine At_val (v' := vi (min (leastF (oest S) 40 i) (oest S i))) (by congr 1; omega) ?_
          refine r_istore_n (lv' := [(1, _), (0, _), (2, _), (3, _)]) C dX11_planEstimate_45 rfl (hn _ (by decide)) rfl ?_
          refine r_iload_n C dX11_planEstimate_46 rfl rfl ?_
          refine r_aload_n C dX11_planEstimate_47 rfl rfl ?_
          refine r_getf C mid_20 (hp_20 _) rfl 14 (by decide) in_X11_planEstimate_X11 lk_X11_planEstimate_44 (Or.inl rfl) rfl dX11_planEstimate_48 ?_
          refine r_aload_n C dX11_planEstimate_51 rfl rfl ?_
          refine r_getf C mid_20 (hp_20 _) rfl 18 (by decide) in_X11_planEstimate_X11 lk_X11_planEstimate_47 (Or.inl rfl) rfl dX11_planEstimate_52 ?_
          refine r_iload_n C dX11_planEstimate_55 rfl rfl ?_
          refine r_iald (j := _) C mid_21_18 (hp_21_18 _) rfl (rfl) (by omega) (by decide) dX11_planEstimate_56 ?_
          refine mr hM.a18 (fun hA56 => ?_)
          refine r_iald (j := (ai S 21 18 i).toNat) C mid_21_14 (hp_21_14 _) rfl (by omega) (by omega) (by decide) dX11_planEstimate_57 ?_
          refine mr hM.a14 (fun hA57 => ?_)
          refine At_val (v' := vi (oest S i)) (rfl) ?_
          refine r_iadd C dX11_planEstimate_58 ?_
          refine r_istore_n (lv' := [(2, _), (1, _), (0, _), (3, _)]) C dX11_planEstimate_59 rfl (hn _ (by decide)) rfl ?_
          refine r_iinc (lv' := [(3, _), (2, _), (1, _), (0, _)]) C dX11_planEstimate_60 rfl (hn _ (by decide)) rfl ?_
          refine r_goto (tgt := 7) C dX11_planEstimate_63 (by decide) ?_
          exact At_lv (by simp [leastF, sumF]) (ih (i + 1) (by omega) (by omega))
  exact At_lv (by simp [leastF, sumF]) (loop7 8 0 (by omega) (by omega))
set_option maxHeartbeats 4000000 in
set_option maxRecDepth 100000 in
theorem M_planKind (S : ST)  (hM : MI S) : Ct yX11_planKind wsX11_planKind 5 [vr (some (20, 0))] S (fun v1 S1 => v1 = some (vi (iv (makesF (si S 20 34 0 0)) 20 15 0)) ∧ S1 = (makesF (si S 20 34 0 0))) := by
  refine Ct.of (nL := 1) (by decide) rfl (Nat.le_of_ble_eq_true rfl) (by decide) (fun X C Rr hnL => ?_)
  have hn : ∀ i, i < 1 → i < X.2.2.2.2.2 := fun i h => by rw [hnL]; exact h
  refine r_aload_n C dX11_planKind_0 rfl rfl ?_
  refine r_iconst C dX11_planKind_1 ?_
  refine r_putf  C mid_20 (hp_20 _) rfl 34 (by decide) in_X11_planKind_X11 lk_X11_planKind_74 (Or.inl rfl) tyX11 tyX11_ok nmX11 rfl (tyX11_ok 34 (by decide)) (fun _ => rfl) (fun _ => rfl) (Nat.le_of_ble_eq_true rfl) (hs_20_34 _ _) dX11_planKind_2 ?_
  refine mw (hM.pi34) (fun hM => ?_)
  refine r_aload_n C dX11_planKind_5 rfl rfl ?_
  refine r_callV (as := []) (na := 0) (rest := []) C mid_20 (hp_20 _) rfl (M_makes (si S 20 34 0 0) hM) gX11_planKind_X11_makes (by decide +kernel) (by decide) (by decide) rfl (Nat.le_of_ble_eq_true rfl) rfl dX11_planKind_6 rfl (fun v1 S1 hp1 => ?_)
  obtain ⟨rfl, e9⟩ := hp1
  subst S1
  obtain ⟨hMm, hnm⟩ := makes_n2 hM
  replace hM := hMm
  refine r_aload_n C dX11_planKind_9 rfl rfl ?_
  refine r_getf C mid_20 (hp_20 _) rfl 15 (by decide) in_X11_planKind_X11 lk_X11_planKind_135 (Or.inl rfl) rfl dX11_planKind_10 ?_
  have hI10 := hM.i15
  exact r_iret C Rr (⟨rfl, rfl⟩) dX11_planKind_13
set_option maxHeartbeats 4000000 in
set_option maxRecDepth 100000 in
theorem M_planNeed (S : ST)  (hM : MI S) : Ct yX11_planNeed wsX11_planNeed 5 [vr (some (20, 0))] S (fun v1 S1 => v1 = some (vi (iv (makesF (si S 20 34 0 0)) 20 16 0)) ∧ S1 = (makesF (si S 20 34 0 0))) := by
  refine Ct.of (nL := 1) (by decide) rfl (Nat.le_of_ble_eq_true rfl) (by decide) (fun X C Rr hnL => ?_)
  have hn : ∀ i, i < 1 → i < X.2.2.2.2.2 := fun i h => by rw [hnL]; exact h
  refine r_aload_n C dX11_planNeed_0 rfl rfl ?_
  refine r_iconst C dX11_planNeed_1 ?_
  refine r_putf  C mid_20 (hp_20 _) rfl 34 (by decide) in_X11_planNeed_X11 lk_X11_planNeed_74 (Or.inl rfl) tyX11 tyX11_ok nmX11 rfl (tyX11_ok 34 (by decide)) (fun _ => rfl) (fun _ => rfl) (Nat.le_of_ble_eq_true rfl) (hs_20_34 _ _) dX11_planNeed_2 ?_
  refine mw (hM.pi34) (fun hM => ?_)
  refine r_aload_n C dX11_planNeed_5 rfl rfl ?_
  refine r_callV (as := []) (na := 0) (rest := []) C mid_20 (hp_20 _) rfl (M_makes (si S 20 34 0 0) hM) gX11_planNeed_X11_makes (by decide +kernel) (by decide) (by decide) rfl (Nat.le_of_ble_eq_true rfl) rfl dX11_planNeed_6 rfl (fun v1 S1 hp1 => ?_)
  obtain ⟨rfl, e9⟩ := hp1
  subst S1
  obtain ⟨hMm, hnm⟩ := makes_n2 hM
  replace hM := hMm
  refine r_aload_n C dX11_planNeed_9 rfl rfl ?_
  refine r_getf C mid_20 (hp_20 _) rfl 16 (by decide) in_X11_planNeed_X11 lk_X11_planNeed_138 (Or.inl rfl) rfl dX11_planNeed_10 ?_
  have hI10 := hM.i16
  exact r_iret C Rr (⟨rfl, rfl⟩) dX11_planNeed_13
set_option maxHeartbeats 4000000 in
set_option maxRecDepth 100000 in
theorem M_planSize (S : ST)  (hM : MI S) : Ct yX11_planSize wsX11_planSize 5 [vr (some (20, 0))] S (fun v1 S1 => v1 = some (vi (iv (makesF (si S 20 34 0 0)) 20 17 0)) ∧ S1 = (makesF (si S 20 34 0 0))) := by
  refine Ct.of (nL := 1) (by decide) rfl (Nat.le_of_ble_eq_true rfl) (by decide) (fun X C Rr hnL => ?_)
  have hn : ∀ i, i < 1 → i < X.2.2.2.2.2 := fun i h => by rw [hnL]; exact h
  refine r_aload_n C dX11_planSize_0 rfl rfl ?_
  refine r_iconst C dX11_planSize_1 ?_
  refine r_putf  C mid_20 (hp_20 _) rfl 34 (by decide) in_X11_planSize_X11 lk_X11_planSize_74 (Or.inl rfl) tyX11 tyX11_ok nmX11 rfl (tyX11_ok 34 (by decide)) (fun _ => rfl) (fun _ => rfl) (Nat.le_of_ble_eq_true rfl) (hs_20_34 _ _) dX11_planSize_2 ?_
  refine mw (hM.pi34) (fun hM => ?_)
  refine r_aload_n C dX11_planSize_5 rfl rfl ?_
  refine r_callV (as := []) (na := 0) (rest := []) C mid_20 (hp_20 _) rfl (M_makes (si S 20 34 0 0) hM) gX11_planSize_X11_makes (by decide +kernel) (by decide) (by decide) rfl (Nat.le_of_ble_eq_true rfl) rfl dX11_planSize_6 rfl (fun v1 S1 hp1 => ?_)
  obtain ⟨rfl, e9⟩ := hp1
  subst S1
  obtain ⟨hMm, hnm⟩ := makes_n2 hM
  replace hM := hMm
  refine r_aload_n C dX11_planSize_9 rfl rfl ?_
  refine r_getf C mid_20 (hp_20 _) rfl 17 (by decide) in_X11_planSize_X11 lk_X11_planSize_141 (Or.inl rfl) rfl dX11_planSize_10 ?_
  have hI10 := hM.i17
  exact r_iret C Rr (⟨rfl, rfl⟩) dX11_planSize_13
set_option maxHeartbeats 4000000 in
set_option maxRecDepth 100000 in
theorem M_estimate (S : ST)  (hM : MI S) : Ct yX11_estimate wsX11_estimate 5 [vr (some (20, 0))] S (fun v1 S1 => v1 = some (vi (planEstM (makesF (si S 20 34 0 0)))) ∧ S1 = (makesF (si S 20 34 0 0))) := by
  refine Ct.of (nL := 1) (by decide) rfl (Nat.le_of_ble_eq_true rfl) (by decide) (fun X C Rr hnL => ?_)
  have hn : ∀ i, i < 1 → i < X.2.2.2.2.2 := fun i h => by rw [hnL]; exact h
  refine r_aload_n C dX11_estimate_0 rfl rfl ?_
  refine r_iconst C dX11_estimate_1 ?_
  refine r_putf  C mid_20 (hp_20 _) rfl 34 (by decide) in_X11_estimate_X11 lk_X11_estimate_74 (Or.inl rfl) tyX11 tyX11_ok nmX11 rfl (tyX11_ok 34 (by decide)) (fun _ => rfl) (fun _ => rfl) (Nat.le_of_ble_eq_true rfl) (hs_20_34 _ _) dX11_estimate_2 ?_
  refine mw (hM.pi34) (fun hM => ?_)
  refine r_aload_n C dX11_estimate_5 rfl rfl ?_
  refine r_callV (as := []) (na := 0) (rest := []) C mid_20 (hp_20 _) rfl (M_makes (si S 20 34 0 0) hM) gX11_estimate_X11_makes (by decide +kernel) (by decide) (by decide) rfl (Nat.le_of_ble_eq_true rfl) rfl dX11_estimate_6 rfl (fun v1 S1 hp1 => ?_)
  obtain ⟨rfl, e9⟩ := hp1
  subst S1
  obtain ⟨hMm, hnm⟩ := makes_n2 hM
  replace hM := hMm
  refine r_aload_n C dX11_estimate_9 rfl rfl ?_
  refine r_callV (as := []) (na := 0) (rest := []) C mid_20 (hp_20 _) rfl (M_planEstimate (makesF (si S 20 34 0 0)) hnm hM) gX11_estimate_X11_planEstimate (by decide +kernel) (by decide) (by decide) rfl (Nat.le_of_ble_eq_true rfl) rfl dX11_estimate_10 rfl (fun v1 S1 hp1 => ?_)
  obtain ⟨rfl, e9⟩ := hp1
  subst S1
  exact r_iret C Rr (⟨rfl, rfl⟩) dX11_estimate_13
set_option maxHeartbeats 4000000 in
set_option maxRecDepth 100000 in
theorem M_isPlace (S : ST) (p : Int) (hp : -2147483648 ≤ p ∧ p < 2147483648) (hM : MI S) : Ct yX11_isPlace wsX11_isPlace 5 [vr (some (20, 0)), vi p] S (fun v1 S1 => v1 = some (vi (b2i (decide (0 ≤ p ∧ p ≤ iv (makesF S) 20 17 0 - 1)))) ∧ S1 = si (makesF S) 20 34 0 (if 0 ≤ p ∧ p ≤ iv (makesF S) 20 17 0 - 1 then 0 else 1)) := by
  refine Ct.of (nL := 2) (by decide) rfl (Nat.le_of_ble_eq_true rfl) (by decide) (fun X C Rr hnL => ?_)
  have hn : ∀ i, i < 2 → i < X.2.2.2.2.2 := fun i h => by rw [hnL]; exact h
  refine r_aload_n C dX11_isPlace_0 rfl rfl ?_
  refine r_callV (as := []) (na := 0) (rest := []) C mid_20 (hp_20 _) rfl (M_makes S hM) gX11_isPlace_X11_makes (by decide +kernel) (by decide) (by decide) rfl (Nat.le_of_ble_eq_true rfl) rfl dX11_isPlace_1 rfl (fun v1 S1 hp1 => ?_)
  obtain ⟨rfl, e9⟩ := hp1
  subst S1
  obtain ⟨hMm, hnm⟩ := makes_n2 hM
  replace hM := hMm
  refine r_aload_n C dX11_isPlace_4 rfl rfl ?_
  refine r_iload_n C dX11_isPlace_5 rfl rfl ?_
  refine r_iconst C dX11_isPlace_6 ?_
  by_cases ha : 0 ≤ p ∧ p ≤ iv (makesF S) 20 17 0 - 1
  · skip
    refine r_aload_n C dX11_isPlace_7 rfl rfl ?_
    refine r_getf C mid_20 (hp_20 _) rfl 17 (by decide) in_X11_isPlace_X11 lk_X11_isPlace_141 (Or.inl rfl) rfl dX11_isPlace_8 ?_
    have hI8 := hM.i17
    refine r_iconst C dX11_isPlace_11 ?_
    refine r_isub C dX11_isPlace_12 ?_
    refine r_callS (as := [_, _, _]) (na := 3) (rest := [_]) C (M_in (makesF S) p 0 (iv (makesF S) 20 17 0 - 1) hp (by decide) (by omega)) gX11_isPlace_X11_in (by decide +kernel) (by decide) (by decide) rfl (Nat.le_of_ble_eq_true rfl) rfl dX11_isPlace_13 rfl (fun v1 S1 hp1 => ?_)
    obtain ⟨rfl, e9⟩ := hp1
    subst S1
    refine r_iconst C dX11_isPlace_16 ?_
    refine r_iconst C dX11_isPlace_17 ?_
    refine r_callV (as := [_, _, _]) (na := 3) (rest := []) C mid_20 (hp_20 _) rfl (M_goes (makesF S) (decide (0 ≤ p ∧ p ≤ iv (makesF S) 20 17 0 - 1)) true true hM) gX11_isPlace_X11_goes (by decide +kernel) (by decide) (by decide) rfl (Nat.le_of_ble_eq_true rfl) rfl dX11_isPlace_18 rfl (fun v1 S1 hp1 => ?_)
    obtain ⟨rfl, e9⟩ := hp1
    subst S1
    rw [decide_eq_true ha]
    change At X _ _ _ _ (vi 1 :: _) (si (makesF S) 20 34 0 0)
    replace hM := hM.pi34 (v := 0)
    exact r_zret C Rr (by decide) (⟨by rw [b2i_t (decide_eq_true ha)], by rw [if_pos ha]⟩) dX11_isPlace_21
  · skip
    refine r_aload_n C dX11_isPlace_7 rfl rfl ?_
    refine r_getf C mid_20 (hp_20 _) rfl 17 (by decide) in_X11_isPlace_X11 lk_X11_isPlace_141 (Or.inl rfl) rfl dX11_isPlace_8 ?_
    have hI8 := hM.i17
    refine r_iconst C dX11_isPlace_11 ?_
    refine r_isub C dX11_isPlace_12 ?_
    refine r_callS (as := [_, _, _]) (na := 3) (rest := [_]) C (M_in (makesF S) p 0 (iv (makesF S) 20 17 0 - 1) hp (by decide) (by omega)) gX11_isPlace_X11_in (by decide +kernel) (by decide) (by decide) rfl (Nat.le_of_ble_eq_true rfl) rfl dX11_isPlace_13 rfl (fun v1 S1 hp1 => ?_)
    obtain ⟨rfl, e9⟩ := hp1
    subst S1
    refine r_iconst C dX11_isPlace_16 ?_
    refine r_iconst C dX11_isPlace_17 ?_
    refine r_callV (as := [_, _, _]) (na := 3) (rest := []) C mid_20 (hp_20 _) rfl (M_goes (makesF S) (decide (0 ≤ p ∧ p ≤ iv (makesF S) 20 17 0 - 1)) true true hM) gX11_isPlace_X11_goes (by decide +kernel) (by decide) (by decide) rfl (Nat.le_of_ble_eq_true rfl) rfl dX11_isPlace_18 rfl (fun v1 S1 hp1 => ?_)
    obtain ⟨rfl, e9⟩ := hp1
    subst S1
    rw [decide_eq_false ha]
    change At X _ _ _ _ (vi 0 :: _) (si (makesF S) 20 34 0 1)
    replace hM := hM.pi34 (v := 1)
    exact r_zret C Rr (by decide) (⟨by rw [b2i_f (decide_eq_false ha)], by rw [if_neg ha]⟩) dX11_isPlace_21
set_option maxHeartbeats 4000000 in
set_option maxRecDepth 100000 in
theorem M_clauseAt (S : ST) (p : Int) (hp : -2147483648 ≤ p ∧ p < 2147483648) (hM : MI S) : Ct yX11_clauseAt wsX11_clauseAt 6 [vr (some (20, 0)), vi p] S (fun v1 S1 => (v1 = some (vi (ai (makesF S) 21 18 p.toNat)) ∧ S1 = si (makesF S) 20 34 0 0 ∧ 0 ≤ p ∧ p ≤ iv (makesF S) 20 17 0 - 1) ∨ (v1 = some (vi 0) ∧ S1 = si (makesF S) 20 34 0 1 ∧ ¬ (0 ≤ p ∧ p ≤ iv (makesF S) 20 17 0 - 1))) := by
  refine Ct.of (nL := 2) (by decide) rfl (Nat.le_of_ble_eq_true rfl) (by decide) (fun X C Rr hnL => ?_)
  have hn : ∀ i, i < 2 → i < X.2.2.2.2.2 := fun i h => by rw [hnL]; exact h
  have hM0 := hM
  have hMk := (makes_n2 hM).1
  have hc18 := hMk.a18 p.toNat
  refine r_aload_n C dX11_clauseAt_0 rfl rfl ?_
  by_cases ha : 0 ≤ p ∧ p ≤ iv (makesF S) 20 17 0 - 1
  · skip
    refine r_iload_n C dX11_clauseAt_1 rfl rfl ?_
    refine r_callV (as := [_]) (na := 1) (rest := []) C mid_20 (hp_20 _) rfl (M_isPlace S p hp hM) gX11_clauseAt_X11_isPlace (by decide +kernel) (by decide) (by decide) rfl (Nat.le_of_ble_eq_true rfl) rfl dX11_clauseAt_2 rfl (fun v1 S1 hp1 => ?_)
    obtain ⟨rfl, e9⟩ := hp1
    subst S1
    rw [decide_eq_true ha, if_pos ha]
    change At X _ _ _ _ (vi 1 :: _) _
    replace hM := ((makes_n2 hM).1).pi34 (v := 0)
    refine r_if_eq (tgt := 17) C dX11_clauseAt_5 (by decide) (by omega) (fun h5 => ?_) (fun h5 => ?_)
    · exact absurd h5 (by decide)
    have g17 := (makes_n2 hM0).1.i17
    refine r_aload_n C dX11_clauseAt_8 rfl rfl ?_
    refine r_getf C mid_20 (hp_20 _) rfl 18 (by decide) in_X11_clauseAt_X11 lk_X11_clauseAt_47 (Or.inl rfl) rfl dX11_clauseAt_9 ?_
    refine r_iload_n C dX11_clauseAt_12 rfl rfl ?_
    refine r_iald (j := p.toNat) C mid_21_18 (hp_21_18 _) rfl (by omega) (by omega) (by decide) dX11_clauseAt_13 ?_
    refine mr hM.a18 (fun hA13 => ?_)
    refine At_val (v' := vi (ai (makesF S) 21 18 p.toNat)) (rfl) ?_
    refine r_goto (tgt := 18) C dX11_clauseAt_14 (by decide) ?_
    exact r_iret C Rr (Or.inl ⟨rfl, rfl, ha⟩) dX11_clauseAt_18
  · skip
    refine r_iload_n C dX11_clauseAt_1 rfl rfl ?_
    refine r_callV (as := [_]) (na := 1) (rest := []) C mid_20 (hp_20 _) rfl (M_isPlace S p hp hM) gX11_clauseAt_X11_isPlace (by decide +kernel) (by decide) (by decide) rfl (Nat.le_of_ble_eq_true rfl) rfl dX11_clauseAt_2 rfl (fun v1 S1 hp1 => ?_)
    obtain ⟨rfl, e9⟩ := hp1
    subst S1
    rw [decide_eq_false ha, if_neg ha]
    change At X _ _ _ _ (vi 0 :: _) _
    replace hM := ((makes_n2 hM).1).pi34 (v := 1)
    refine r_if_eq (tgt := 17) C dX11_clauseAt_5 (by decide) (by omega) (fun h5 => ?_) (fun h5 => ?_)
    · skip
      refine r_iconst C dX11_clauseAt_17 ?_
      exact r_iret C Rr (Or.inr ⟨rfl, rfl, ha⟩) dX11_clauseAt_18
    · exact absurd rfl h5
set_option maxHeartbeats 4000000 in
set_option maxRecDepth 100000 in
theorem M_kindAt (S : ST) (p : Int) (hp : -2147483648 ≤ p ∧ p < 2147483648) (hM : MI S) : Ct yX11_kindAt wsX11_kindAt 6 [vr (some (20, 0)), vi p] S (fun v1 S1 => (v1 = some (vi (ai (makesF S) 21 10 (ai (makesF S) 21 18 p.toNat).toNat)) ∧ S1 = si (makesF S) 20 34 0 0 ∧ 0 ≤ p ∧ p ≤ iv (makesF S) 20 17 0 - 1) ∨ (v1 = some (vi 0) ∧ S1 = si (makesF S) 20 34 0 1 ∧ ¬ (0 ≤ p ∧ p ≤ iv (makesF S) 20 17 0 - 1))) := by
  refine Ct.of (nL := 2) (by decide) rfl (Nat.le_of_ble_eq_true rfl) (by decide) (fun X C Rr hnL => ?_)
  have hn : ∀ i, i < 2 → i < X.2.2.2.2.2 := fun i h => by rw [hnL]; exact h
  have hM0 := hM
  have hMk := (makes_n2 hM).1
  have hc18 := hMk.a18 p.toNat
  refine r_aload_n C dX11_kindAt_0 rfl rfl ?_
  by_cases ha : 0 ≤ p ∧ p ≤ iv (makesF S) 20 17 0 - 1
  · skip
    refine r_iload_n C dX11_kindAt_1 rfl rfl ?_
    refine r_callV (as := [_]) (na := 1) (rest := []) C mid_20 (hp_20 _) rfl (M_isPlace S p hp hM) gX11_kindAt_X11_isPlace (by decide +kernel) (by decide) (by decide) rfl (Nat.le_of_ble_eq_true rfl) rfl dX11_kindAt_2 rfl (fun v1 S1 hp1 => ?_)
    obtain ⟨rfl, e9⟩ := hp1
    subst S1
    rw [decide_eq_true ha, if_pos ha]
    change At X _ _ _ _ (vi 1 :: _) _
    replace hM := ((makes_n2 hM).1).pi34 (v := 0)
    refine r_if_eq (tgt := 22) C dX11_kindAt_5 (by decide) (by omega) (fun h5 => ?_) (fun h5 => ?_)
    · exact absurd h5 (by decide)
    have g17 := (makes_n2 hM0).1.i17
    refine r_aload_n C dX11_kindAt_8 rfl rfl ?_
    refine r_getf C mid_20 (hp_20 _) rfl 10 (by decide) in_X11_kindAt_X11 lk_X11_kindAt_32 (Or.inl rfl) rfl dX11_kindAt_9 ?_
    refine r_aload_n C dX11_kindAt_12 rfl rfl ?_
    refine r_getf C mid_20 (hp_20 _) rfl 18 (by decide) in_X11_kindAt_X11 lk_X11_kindAt_47 (Or.inl rfl) rfl dX11_kindAt_13 ?_
    refine r_iload_n C dX11_kindAt_16 rfl rfl ?_
    refine r_iald (j := p.toNat) C mid_21_18 (hp_21_18 _) rfl (by omega) (by omega) (by decide) dX11_kindAt_17 ?_
    refine mr hM.a18 (fun hA17 => ?_)
    refine At_val (v' := vi (ai (makesF S) 21 18 p.toNat)) (rfl) ?_
    refine r_iald (j := (ai (makesF S) 21 18 p.toNat).toNat) C mid_21_10 (hp_21_10 _) rfl (by omega) (by omega) (by decide) dX11_kindAt_18 ?_
    refine mr hM.a10 (fun hA18 => ?_)
    refine At_val (v' := vi (ai (makesF S) 21 10 (ai (makesF S) 21 18 p.toNat).toNat)) (rfl) ?_
    refine r_goto (tgt := 23) C dX11_kindAt_19 (by decide) ?_
    exact r_iret C Rr (Or.inl ⟨rfl, rfl, ha⟩) dX11_kindAt_23
  · skip
    refine r_iload_n C dX11_kindAt_1 rfl rfl ?_
    refine r_callV (as := [_]) (na := 1) (rest := []) C mid_20 (hp_20 _) rfl (M_isPlace S p hp hM) gX11_kindAt_X11_isPlace (by decide +kernel) (by decide) (by decide) rfl (Nat.le_of_ble_eq_true rfl) rfl dX11_kindAt_2 rfl (fun v1 S1 hp1 => ?_)
    obtain ⟨rfl, e9⟩ := hp1
    subst S1
    rw [decide_eq_false ha, if_neg ha]
    change At X _ _ _ _ (vi 0 :: _) _
    replace hM := ((makes_n2 hM).1).pi34 (v := 1)
    refine r_if_eq (tgt := 22) C dX11_kindAt_5 (by decide) (by omega) (fun h5 => ?_) (fun h5 => ?_)
    · skip
      refine r_iconst C dX11_kindAt_22 ?_
      exact r_iret C Rr (Or.inr ⟨rfl, rfl, ha⟩) dX11_kindAt_23
    · exact absurd rfl h5
set_option maxHeartbeats 4000000 in
set_option maxRecDepth 100000 in
theorem M_estimateAt (S : ST) (p : Int) (hp : -2147483648 ≤ p ∧ p < 2147483648) (hM : MI S) : Ct yX11_estimateAt wsX11_estimateAt 6 [vr (some (20, 0)), vi p] S (fun v1 S1 => (v1 = some (vi (ai (makesF S) 21 14 (ai (makesF S) 21 18 p.toNat).toNat)) ∧ S1 = si (makesF S) 20 34 0 0 ∧ 0 ≤ p ∧ p ≤ iv (makesF S) 20 17 0 - 1) ∨ (v1 = some (vi 0) ∧ S1 = si (makesF S) 20 34 0 1 ∧ ¬ (0 ≤ p ∧ p ≤ iv (makesF S) 20 17 0 - 1))) := by
  refine Ct.of (nL := 2) (by decide) rfl (Nat.le_of_ble_eq_true rfl) (by decide) (fun X C Rr hnL => ?_)
  have hn : ∀ i, i < 2 → i < X.2.2.2.2.2 := fun i h => by rw [hnL]; exact h
  have hM0 := hM
  have hMk := (makes_n2 hM).1
  have hc18 := hMk.a18 p.toNat
  refine r_aload_n C dX11_estimateAt_0 rfl rfl ?_
  by_cases ha : 0 ≤ p ∧ p ≤ iv (makesF S) 20 17 0 - 1
  · skip
    refine r_iload_n C dX11_estimateAt_1 rfl rfl ?_
    refine r_callV (as := [_]) (na := 1) (rest := []) C mid_20 (hp_20 _) rfl (M_isPlace S p hp hM) gX11_estimateAt_X11_isPlace (by decide +kernel) (by decide) (by decide) rfl (Nat.le_of_ble_eq_true rfl) rfl dX11_estimateAt_2 rfl (fun v1 S1 hp1 => ?_)
    obtain ⟨rfl, e9⟩ := hp1
    subst S1
    rw [decide_eq_true ha, if_pos ha]
    change At X _ _ _ _ (vi 1 :: _) _
    replace hM := ((makes_n2 hM).1).pi34 (v := 0)
    refine r_if_eq (tgt := 22) C dX11_estimateAt_5 (by decide) (by omega) (fun h5 => ?_) (fun h5 => ?_)
    · exact absurd h5 (by decide)
    have g17 := (makes_n2 hM0).1.i17
    refine r_aload_n C dX11_estimateAt_8 rfl rfl ?_
    refine r_getf C mid_20 (hp_20 _) rfl 14 (by decide) in_X11_estimateAt_X11 lk_X11_estimateAt_44 (Or.inl rfl) rfl dX11_estimateAt_9 ?_
    refine r_aload_n C dX11_estimateAt_12 rfl rfl ?_
    refine r_getf C mid_20 (hp_20 _) rfl 18 (by decide) in_X11_estimateAt_X11 lk_X11_estimateAt_47 (Or.inl rfl) rfl dX11_estimateAt_13 ?_
    refine r_iload_n C dX11_estimateAt_16 rfl rfl ?_
    refine r_iald (j := p.toNat) C mid_21_18 (hp_21_18 _) rfl (by omega) (by omega) (by decide) dX11_estimateAt_17 ?_
    refine mr hM.a18 (fun hA17 => ?_)
    refine At_val (v' := vi (ai (makesF S) 21 18 p.toNat)) (rfl) ?_
    refine r_iald (j := (ai (makesF S) 21 18 p.toNat).toNat) C mid_21_14 (hp_21_14 _) rfl (by omega) (by omega) (by decide) dX11_estimateAt_18 ?_
    refine mr hM.a14 (fun hA18 => ?_)
    refine At_val (v' := vi (ai (makesF S) 21 14 (ai (makesF S) 21 18 p.toNat).toNat)) (rfl) ?_
    refine r_goto (tgt := 23) C dX11_estimateAt_19 (by decide) ?_
    exact r_iret C Rr (Or.inl ⟨rfl, rfl, ha⟩) dX11_estimateAt_23
  · skip
    refine r_iload_n C dX11_estimateAt_1 rfl rfl ?_
    refine r_callV (as := [_]) (na := 1) (rest := []) C mid_20 (hp_20 _) rfl (M_isPlace S p hp hM) gX11_estimateAt_X11_isPlace (by decide +kernel) (by decide) (by decide) rfl (Nat.le_of_ble_eq_true rfl) rfl dX11_estimateAt_2 rfl (fun v1 S1 hp1 => ?_)
    obtain ⟨rfl, e9⟩ := hp1
    subst S1
    rw [decide_eq_false ha, if_neg ha]
    change At X _ _ _ _ (vi 0 :: _) _
    replace hM := ((makes_n2 hM).1).pi34 (v := 1)
    refine r_if_eq (tgt := 22) C dX11_estimateAt_5 (by decide) (by omega) (fun h5 => ?_) (fun h5 => ?_)
    · skip
      refine r_iconst C dX11_estimateAt_22 ?_
      exact r_iret C Rr (Or.inr ⟨rfl, rfl, ha⟩) dX11_estimateAt_23
    · exact absurd rfl h5
set_option maxHeartbeats 4000000 in
set_option maxRecDepth 100000 in
theorem M_literalAt (S : ST) (p j : Int) (hp : -2147483648 ≤ p ∧ p < 2147483648) (hj : -2147483648 ≤ j ∧ j < 2147483648) (hM : MI S) : Ct yX11_literalAt wsX11_literalAt 6 [vr (some (20, 0)), vi p, vi j] S (fun v1 S1 => (v1 = some (vi (ai (makesF S) 21 13 (6 * (ai (makesF S) 21 18 p.toNat).toNat + j.toNat))) ∧ S1 = si (makesF S) 20 34 0 0 ∧ (0 ≤ p ∧ p ≤ iv (makesF S) 20 17 0 - 1) ∧ 0 ≤ j ∧ j ≤ ai (makesF S) 21 12 (ai (makesF S) 21 18 p.toNat).toNat - 1) ∨ (v1 = some (vi 0) ∧ S1 = si (makesF S) 20 34 0 1 ∧ ¬ ((0 ≤ p ∧ p ≤ iv (makesF S) 20 17 0 - 1) ∧ 0 ≤ j ∧ j ≤ ai (makesF S) 21 12 (ai (makesF S) 21 18 p.toNat).toNat - 1))) := by
  refine Ct.of (nL := 4) (by decide) rfl (Nat.le_of_ble_eq_true rfl) (by decide) (fun X C Rr hnL => ?_)
  have hn : ∀ i, i < 4 → i < X.2.2.2.2.2 := fun i h => by rw [hnL]; exact h
  have hM0 := hM
  have hMk := (makes_n2 hM).1
  have hc18 := hMk.a18 p.toNat
  have hc12 := hMk.a12 (ai (makesF S) 21 18 p.toNat).toNat
  have g17 := hMk.i17
  refine r_aload_n C dX11_literalAt_0 rfl rfl ?_
  rcases tri (0 ≤ p ∧ p ≤ iv (makesF S) 20 17 0 - 1) (0 ≤ j ∧ j ≤ ai (makesF S) 21 12 (ai (makesF S) 21 18 p.toNat).toNat - 1) with ⟨ha, hb⟩ | ha | ⟨ha, hb⟩
  · skip
    refine r_iload_n C dX11_literalAt_1 rfl rfl ?_
    refine r_callV (as := [_]) (na := 1) (rest := []) C mid_20 (hp_20 _) rfl (M_isPlace S p hp hM) gX11_literalAt_X11_isPlace (by decide +kernel) (by decide) (by decide) rfl (Nat.le_of_ble_eq_true rfl) rfl dX11_literalAt_2 rfl (fun v1 S1 hp1 => ?_)
    obtain ⟨rfl, e9⟩ := hp1
    subst S1
    rw [decide_eq_true ha, if_pos ha]
    change At X _ _ _ _ (vi 1 :: _) _
    replace hM := ((makes_n2 hM).1).pi34 (v := 0)
    refine r_if_eq (tgt := 33) C dX11_literalAt_5 (by decide) (by omega) (fun h5 => ?_) (fun h5 => ?_)
    · exact absurd h5 (by decide)
    refine r_iload_n C dX11_literalAt_8 rfl rfl ?_
    refine r_iconst C dX11_literalAt_9 ?_
    refine r_aload_n C dX11_literalAt_10 rfl rfl ?_
    refine r_getf C mid_20 (hp_20 _) rfl 12 (by decide) in_X11_literalAt_X11 lk_X11_literalAt_38 (Or.inl rfl) rfl dX11_literalAt_11 ?_
    refine r_aload_n C dX11_literalAt_14 rfl rfl ?_
    refine r_getf C mid_20 (hp_20 _) rfl 18 (by decide) in_X11_literalAt_X11 lk_X11_literalAt_47 (Or.inl rfl) rfl dX11_literalAt_15 ?_
    refine r_iload_n C dX11_literalAt_18 rfl rfl ?_
    refine r_iald (j := p.toNat) C mid_21_18 (hp_21_18 _) rfl (by omega) (by omega) (by decide) dX11_literalAt_19 ?_
    refine mr hM.a18 (fun hA19 => ?_)
    refine At_val (v' := vi (ai (makesF S) 21 18 p.toNat)) (rfl) ?_
    refine r_iald (j := (ai (makesF S) 21 18 p.toNat).toNat) C mid_21_12 (hp_21_12 _) rfl (by omega) (by omega) (by decide) dX11_literalAt_20 ?_
    refine mr hM.a12 (fun hA20 => ?_)
    refine At_val (v' := vi (ai (makesF S) 21 12 (ai (makesF S) 21 18 p.toNat).toNat)) (rfl) ?_
    refine r_iconst C dX11_literalAt_21 ?_
    refine r_isub C dX11_literalAt_22 ?_
    refine r_callS (as := [_, _, _]) (na := 3) (rest := []) C (M_in (si (makesF S) 20 34 0 0) j 0 (ai (makesF S) 21 12 (ai (makesF S) 21 18 p.toNat).toNat - 1) hj (by decide) (by omega)) gX11_literalAt_X11_in (by decide +kernel) (by decide) (by decide) rfl (Nat.le_of_ble_eq_true rfl) rfl dX11_literalAt_23 rfl (fun v1 S1 hp1 => ?_)
    obtain ⟨rfl, e9⟩ := hp1
    subst S1
    refine r_if_eq (tgt := 33) C dX11_literalAt_26 (by decide) (by have := b2i_01 (decide (0 ≤ j ∧ j ≤ ai (makesF S) 21 12 (ai (makesF S) 21 18 p.toNat).toNat - 1)); omega) (fun h26 => ?_) (fun h26 => ?_)
    · exact absurd (b2i_t (decide_eq_true hb)) (by omega)
    refine r_iconst C dX11_literalAt_29 ?_
    refine r_goto (tgt := 34) C dX11_literalAt_30 (by decide) ?_
    refine r_istore_n (lv' := [(3, _), (0, _), (1, _), (2, _)]) C dX11_literalAt_34 rfl (hn _ (by decide)) rfl ?_
    refine r_aload_n C dX11_literalAt_35 rfl rfl ?_
    refine r_iload_n C dX11_literalAt_36 rfl rfl ?_
    refine r_iconst C dX11_literalAt_37 ?_
    refine r_iconst C dX11_literalAt_38 ?_
    refine r_callV (as := [_, _, _]) (na := 3) (rest := []) C mid_20 (hp_20 _) rfl (M_goes (si (makesF S) 20 34 0 0) true true true hM) gX11_literalAt_X11_goes (by decide +kernel) (by decide) (by decide) rfl (Nat.le_of_ble_eq_true rfl) rfl dX11_literalAt_39 rfl (fun v1 S1 hp1 => ?_)
    obtain ⟨rfl, e9⟩ := hp1
    subst S1
    change At X _ _ _ _ (vi 1 :: _) (si (si (makesF S) 20 34 0 0) 20 34 0 0)
    rw [si_si]
    replace hM := hMk.pi34 (v := 0)
    refine r_if_eq (tgt := 64) C dX11_literalAt_42 (by decide) (by omega) (fun h42 => ?_) (fun h42 => ?_)
    · exact absurd h42 (by decide)
    refine r_aload_n C dX11_literalAt_45 rfl rfl ?_
    refine r_getf C mid_20 (hp_20 _) rfl 13 (by decide) in_X11_literalAt_X11 lk_X11_literalAt_41 (Or.inl rfl) rfl dX11_literalAt_46 ?_
    refine r_bipush C dX11_literalAt_49 (by decide) ?_
    refine r_aload_n C dX11_literalAt_51 rfl rfl ?_
    refine r_getf C mid_20 (hp_20 _) rfl 18 (by decide) in_X11_literalAt_X11 lk_X11_literalAt_47 (Or.inl rfl) rfl dX11_literalAt_52 ?_
    refine r_iload_n C dX11_literalAt_55 rfl rfl ?_
    refine r_iald (j := p.toNat) C mid_21_18 (hp_21_18 _) rfl (by omega) (by omega) (by decide) dX11_literalAt_56 ?_
    refine mr hM.a18 (fun hA56 => ?_)
    refine At_val (v' := vi (ai (makesF S) 21 18 p.toNat)) (rfl) ?_
    refine r_imul C dX11_literalAt_57 ?_
    refine r_iload_n C dX11_literalAt_58 rfl rfl ?_
    refine r_iadd C dX11_literalAt_59 ?_
    refine r_iald (j := 6 * (ai (makesF S) 21 18 p.toNat).toNat + j.toNat) C mid_21_13 (hp_21_13 _) rfl (by omega) (by omega) (by decide) dX11_literalAt_60 ?_
    refine mr hM.a13 (fun hA60 => ?_)
    refine At_val (v' := vi (ai (makesF S) 21 13 (6 * (ai (makesF S) 21 18 p.toNat).toNat + j.toNat))) (rfl) ?_
    refine r_goto (tgt := 65) C dX11_literalAt_61 (by decide) ?_
    exact r_iret C Rr (Or.inl ⟨rfl, rfl, ha, hb⟩) dX11_literalAt_65
  · skip
    refine r_iload_n C dX11_literalAt_1 rfl rfl ?_
    refine r_callV (as := [_]) (na := 1) (rest := []) C mid_20 (hp_20 _) rfl (M_isPlace S p hp hM) gX11_literalAt_X11_isPlace (by decide +kernel) (by decide) (by decide) rfl (Nat.le_of_ble_eq_true rfl) rfl dX11_literalAt_2 rfl (fun v1 S1 hp1 => ?_)
    obtain ⟨rfl, e9⟩ := hp1
    subst S1
    rw [decide_eq_false ha, if_neg ha]
    change At X _ _ _ _ (vi 0 :: _) _
    replace hM := ((makes_n2 hM).1).pi34 (v := 1)
    refine r_if_eq (tgt := 33) C dX11_literalAt_5 (by decide) (by omega) (fun h5 => ?_) (fun h5 => ?_)
    · skip
      refine r_iconst C dX11_literalAt_33 ?_
      refine r_istore_n (lv' := [(3, _), (0, _), (1, _), (2, _)]) C dX11_literalAt_34 rfl (hn _ (by decide)) rfl ?_
      refine r_aload_n C dX11_literalAt_35 rfl rfl ?_
      refine r_iload_n C dX11_literalAt_36 rfl rfl ?_
      refine r_iconst C dX11_literalAt_37 ?_
      refine r_iconst C dX11_literalAt_38 ?_
      refine r_callV (as := [_, _, _]) (na := 3) (rest := []) C mid_20 (hp_20 _) rfl (M_goes (si (makesF S) 20 34 0 1) false true true hM) gX11_literalAt_X11_goes (by decide +kernel) (by decide) (by decide) rfl (Nat.le_of_ble_eq_true rfl) rfl dX11_literalAt_39 rfl (fun v1 S1 hp1 => ?_)
      obtain ⟨rfl, e9⟩ := hp1
      subst S1
      change At X _ _ _ _ (vi 0 :: _) (si (si (makesF S) 20 34 0 1) 20 34 0 1)
      rw [si_si]
      replace hM := hMk.pi34 (v := 1)
      refine r_if_eq (tgt := 64) C dX11_literalAt_42 (by decide) (by omega) (fun h42 => ?_) (fun h42 => ?_)
      · skip
        refine r_iconst C dX11_literalAt_64 ?_
        exact r_iret C Rr (Or.inr ⟨rfl, rfl, fun q => ha q.1⟩) dX11_literalAt_65
      · exact absurd rfl h42
    · exact absurd rfl h5
  · skip
    refine r_iload_n C dX11_literalAt_1 rfl rfl ?_
    refine r_callV (as := [_]) (na := 1) (rest := []) C mid_20 (hp_20 _) rfl (M_isPlace S p hp hM) gX11_literalAt_X11_isPlace (by decide +kernel) (by decide) (by decide) rfl (Nat.le_of_ble_eq_true rfl) rfl dX11_literalAt_2 rfl (fun v1 S1 hp1 => ?_)
    obtain ⟨rfl, e9⟩ := hp1
    subst S1
    rw [decide_eq_true ha, if_pos ha]
    change At X _ _ _ _ (vi 1 :: _) _
    replace hM := ((makes_n2 hM).1).pi34 (v := 0)
    refine r_if_eq (tgt := 33) C dX11_literalAt_5 (by decide) (by omega) (fun h5 => ?_) (fun h5 => ?_)
    · exact absurd h5 (by decide)
    refine r_iload_n C dX11_literalAt_8 rfl rfl ?_
    refine r_iconst C dX11_literalAt_9 ?_
    refine r_aload_n C dX11_literalAt_10 rfl rfl ?_
    refine r_getf C mid_20 (hp_20 _) rfl 12 (by decide) in_X11_literalAt_X11 lk_X11_literalAt_38 (Or.inl rfl) rfl dX11_literalAt_11 ?_
    refine r_aload_n C dX11_literalAt_14 rfl rfl ?_
    refine r_getf C mid_20 (hp_20 _) rfl 18 (by decide) in_X11_literalAt_X11 lk_X11_literalAt_47 (Or.inl rfl) rfl dX11_literalAt_15 ?_
    refine r_iload_n C dX11_literalAt_18 rfl rfl ?_
    refine r_iald (j := p.toNat) C mid_21_18 (hp_21_18 _) rfl (by omega) (by omega) (by decide) dX11_literalAt_19 ?_
    refine mr hM.a18 (fun hA19 => ?_)
    refine At_val (v' := vi (ai (makesF S) 21 18 p.toNat)) (rfl) ?_
    refine r_iald (j := (ai (makesF S) 21 18 p.toNat).toNat) C mid_21_12 (hp_21_12 _) rfl (by omega) (by omega) (by decide) dX11_literalAt_20 ?_
    refine mr hM.a12 (fun hA20 => ?_)
    refine At_val (v' := vi (ai (makesF S) 21 12 (ai (makesF S) 21 18 p.toNat).toNat)) (rfl) ?_
    refine r_iconst C dX11_literalAt_21 ?_
    refine r_isub C dX11_literalAt_22 ?_
    refine r_callS (as := [_, _, _]) (na := 3) (rest := []) C (M_in (si (makesF S) 20 34 0 0) j 0 (ai (makesF S) 21 12 (ai (makesF S) 21 18 p.toNat).toNat - 1) hj (by decide) (by omega)) gX11_literalAt_X11_in (by decide +kernel) (by decide) (by decide) rfl (Nat.le_of_ble_eq_true rfl) rfl dX11_literalAt_23 rfl (fun v1 S1 hp1 => ?_)
    obtain ⟨rfl, e9⟩ := hp1
    subst S1
    refine r_if_eq (tgt := 33) C dX11_literalAt_26 (by decide) (by have := b2i_01 (decide (0 ≤ j ∧ j ≤ ai (makesF S) 21 12 (ai (makesF S) 21 18 p.toNat).toNat - 1)); omega) (fun h26 => ?_) (fun h26 => ?_)
    · skip
      refine r_iconst C dX11_literalAt_33 ?_
      refine r_istore_n (lv' := [(3, _), (0, _), (1, _), (2, _)]) C dX11_literalAt_34 rfl (hn _ (by decide)) rfl ?_
      refine r_aload_n C dX11_literalAt_35 rfl rfl ?_
      refine r_iload_n C dX11_literalAt_36 rfl rfl ?_
      refine r_iconst C dX11_literalAt_37 ?_
      refine r_iconst C dX11_literalAt_38 ?_
      refine r_callV (as := [_, _, _]) (na := 3) (rest := []) C mid_20 (hp_20 _) rfl (M_goes (si (makesF S) 20 34 0 0) false true true hM) gX11_literalAt_X11_goes (by decide +kernel) (by decide) (by decide) rfl (Nat.le_of_ble_eq_true rfl) rfl dX11_literalAt_39 rfl (fun v1 S1 hp1 => ?_)
      obtain ⟨rfl, e9⟩ := hp1
      subst S1
      change At X _ _ _ _ (vi 0 :: _) (si (si (makesF S) 20 34 0 0) 20 34 0 1)
      rw [si_si]
      replace hM := hMk.pi34 (v := 1)
      refine r_if_eq (tgt := 64) C dX11_literalAt_42 (by decide) (by omega) (fun h42 => ?_) (fun h42 => ?_)
      · skip
        refine r_iconst C dX11_literalAt_64 ?_
        exact r_iret C Rr (Or.inr ⟨rfl, rfl, fun q => hb q.2⟩) dX11_literalAt_65
      · exact absurd rfl h42
    · exact absurd (b2i_f (decide_eq_false hb)) h26
set_option maxHeartbeats 4000000 in
set_option maxRecDepth 100000 in
theorem M_thrown (S : ST)  : Ct yX11_thrown wsX11_thrown 0 [vr (some (20, 0))] S (fun v1 S1 => v1 = some (vi (iv S 20 34 0)) ∧ S1 = S) := by
  refine Ct.of (nL := 1) (by decide) rfl (Nat.le_of_ble_eq_true rfl) (by decide) (fun X C Rr hnL => ?_)
  have hn : ∀ i, i < 1 → i < X.2.2.2.2.2 := fun i h => by rw [hnL]; exact h
  refine r_aload_n C dX11_thrown_0 rfl rfl ?_
  refine r_getf C mid_20 (hp_20 _) rfl 34 (by decide) in_X11_thrown_X11 lk_X11_thrown_74 (Or.inl rfl) rfl dX11_thrown_1 ?_
  exact r_iret C Rr (⟨rfl, rfl⟩) dX11_thrown_4
