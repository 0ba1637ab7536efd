theorem in_X11_begin_X11 : ∀ w ∈ wsX110, w ∈ wsX11_begin := by decide +kernel
theorem lk_X11_begin_74 : Cond.fieldLink RX11 74 "PostingPlannerModel" "last" "I" ∈ wsX11_begin := by decide +kernel
theorem lk_X11_begin_165 : Cond.fieldLink RX11 165 "PostingPlannerModel" "runs" "Z" ∈ wsX11_begin := by decide +kernel
theorem lk_X11_begin_135 : Cond.fieldLink RX11 135 "PostingPlannerModel" "planKind" "I" ∈ wsX11_begin := by decide +kernel
theorem lk_X11_begin_169 : Cond.fieldLink RX11 169 "PostingPlannerModel" "runKind" "I" ∈ wsX11_begin := by decide +kernel
theorem lk_X11_begin_138 : Cond.fieldLink RX11 138 "PostingPlannerModel" "planNeed" "I" ∈ wsX11_begin := by decide +kernel
theorem lk_X11_begin_172 : Cond.fieldLink RX11 172 "PostingPlannerModel" "runNeed" "I" ∈ wsX11_begin := by decide +kernel
theorem lk_X11_begin_141 : Cond.fieldLink RX11 141 "PostingPlannerModel" "planSize" "I" ∈ wsX11_begin := by decide +kernel
theorem lk_X11_begin_175 : Cond.fieldLink RX11 175 "PostingPlannerModel" "runSize" "I" ∈ wsX11_begin := by decide +kernel
theorem lk_X11_begin_178 : Cond.fieldLink RX11 178 "PostingPlannerModel" "given" "I" ∈ wsX11_begin := by decide +kernel
theorem lk_X11_begin_181 : Cond.fieldLink RX11 181 "PostingPlannerModel" "isOver" "Z" ∈ wsX11_begin := by decide +kernel
theorem lk_X11_begin_184 : Cond.fieldLink RX11 184 "PostingPlannerModel" "readings" "I" ∈ wsX11_begin := by decide +kernel
theorem lk_X11_begin_47 : Cond.fieldLink RX11 47 "PostingPlannerModel" "order" "[I" ∈ wsX11_begin := by decide +kernel
theorem lk_X11_begin_56 : Cond.fieldLink RX11 56 "PostingPlannerModel" "runKinds" "[I" ∈ wsX11_begin := by decide +kernel
theorem lk_X11_begin_32 : Cond.fieldLink RX11 32 "PostingPlannerModel" "clauseKinds" "[I" ∈ wsX11_begin := by decide +kernel
theorem lk_X11_begin_59 : Cond.fieldLink RX11 59 "PostingPlannerModel" "runNeeds" "[I" ∈ wsX11_begin := by decide +kernel
theorem lk_X11_begin_35 : Cond.fieldLink RX11 35 "PostingPlannerModel" "clauseNeeds" "[I" ∈ wsX11_begin := by decide +kernel
theorem lk_X11_begin_62 : Cond.fieldLink RX11 62 "PostingPlannerModel" "runSizes" "[I" ∈ wsX11_begin := by decide +kernel
theorem lk_X11_begin_38 : Cond.fieldLink RX11 38 "PostingPlannerModel" "clauseSizes" "[I" ∈ wsX11_begin := by decide +kernel
theorem lk_X11_begin_71 : Cond.fieldLink RX11 71 "PostingPlannerModel" "clausePlaces" "[I" ∈ wsX11_begin := by decide +kernel
theorem lk_X11_begin_65 : Cond.fieldLink RX11 65 "PostingPlannerModel" "runLiterals" "[I" ∈ wsX11_begin := by decide +kernel
theorem lk_X11_begin_41 : Cond.fieldLink RX11 41 "PostingPlannerModel" "clauseLiterals" "[I" ∈ wsX11_begin := by decide +kernel
theorem lk_X11_begin_68 : Cond.fieldLink RX11 68 "PostingPlannerModel" "literalPlaces" "[I" ∈ wsX11_begin := by decide +kernel
theorem lk_X11_begin_50 : Cond.fieldLink RX11 50 "PostingPlannerModel" "runThere" "[Z" ∈ wsX11_begin := by decide +kernel
theorem lk_X11_begin_7 : Cond.fieldLink RX11 7 "PostingPlannerModel" "there" "[Z" ∈ wsX11_begin := by decide +kernel
theorem lk_X11_begin_53 : Cond.fieldLink RX11 53 "PostingPlannerModel" "runWords" "[I" ∈ wsX11_begin := by decide +kernel
theorem lk_X11_begin_13 : Cond.fieldLink RX11 13 "PostingPlannerModel" "words" "[I" ∈ wsX11_begin := by decide +kernel
theorem in_X11_seeksLiteral_X11 : ∀ w ∈ wsX110, w ∈ wsX11_seeksLiteral := by decide +kernel
theorem lk_X11_seeksLiteral_68 : Cond.fieldLink RX11 68 "PostingPlannerModel" "literalPlaces" "[I" ∈ wsX11_seeksLiteral := by decide +kernel
theorem lk_X11_seeksLiteral_65 : Cond.fieldLink RX11 65 "PostingPlannerModel" "runLiterals" "[I" ∈ wsX11_seeksLiteral := by decide +kernel
theorem lk_X11_seeksLiteral_184 : Cond.fieldLink RX11 184 "PostingPlannerModel" "readings" "I" ∈ wsX11_seeksLiteral := by decide +kernel
theorem lk_X11_seeksLiteral_50 : Cond.fieldLink RX11 50 "PostingPlannerModel" "runThere" "[Z" ∈ wsX11_seeksLiteral := by decide +kernel
theorem lk_X11_seeksLiteral_53 : Cond.fieldLink RX11 53 "PostingPlannerModel" "runWords" "[I" ∈ wsX11_seeksLiteral := by decide +kernel
theorem in_X11_nthLiteral_X11 : ∀ w ∈ wsX110, w ∈ wsX11_nthLiteral := by decide +kernel
theorem lk_X11_nthLiteral_68 : Cond.fieldLink RX11 68 "PostingPlannerModel" "literalPlaces" "[I" ∈ wsX11_nthLiteral := by decide +kernel
theorem in_X11_nthClause_X11 : ∀ w ∈ wsX110, w ∈ wsX11_nthClause := by decide +kernel
theorem lk_X11_nthClause_175 : Cond.fieldLink RX11 175 "PostingPlannerModel" "runSize" "I" ∈ wsX11_nthClause := by decide +kernel
theorem lk_X11_nthClause_71 : Cond.fieldLink RX11 71 "PostingPlannerModel" "clausePlaces" "[I" ∈ wsX11_nthClause := by decide +kernel
theorem in_X11_seeksClause_X11 : ∀ w ∈ wsX110, w ∈ wsX11_seeksClause := by decide +kernel
theorem lk_X11_seeksClause_71 : Cond.fieldLink RX11 71 "PostingPlannerModel" "clausePlaces" "[I" ∈ wsX11_seeksClause := by decide +kernel
theorem lk_X11_seeksClause_56 : Cond.fieldLink RX11 56 "PostingPlannerModel" "runKinds" "[I" ∈ wsX11_seeksClause := by decide +kernel
theorem lk_X11_seeksClause_62 : Cond.fieldLink RX11 62 "PostingPlannerModel" "runSizes" "[I" ∈ wsX11_seeksClause := by decide +kernel
theorem lk_X11_seeksClause_59 : Cond.fieldLink RX11 59 "PostingPlannerModel" "runNeeds" "[I" ∈ wsX11_seeksClause := by decide +kernel
theorem lk_X11_seeksClause_68 : Cond.fieldLink RX11 68 "PostingPlannerModel" "literalPlaces" "[I" ∈ wsX11_seeksClause := by decide +kernel
theorem in_X11_seeksPlan_X11 : ∀ w ∈ wsX110, w ∈ wsX11_seeksPlan := by decide +kernel
theorem lk_X11_seeksPlan_169 : Cond.fieldLink RX11 169 "PostingPlannerModel" "runKind" "I" ∈ wsX11_seeksPlan := by decide +kernel
theorem lk_X11_seeksPlan_175 : Cond.fieldLink RX11 175 "PostingPlannerModel" "runSize" "I" ∈ wsX11_seeksPlan := by decide +kernel
theorem lk_X11_seeksPlan_172 : Cond.fieldLink RX11 172 "PostingPlannerModel" "runNeed" "I" ∈ wsX11_seeksPlan := by decide +kernel
theorem lk_X11_seeksPlan_71 : Cond.fieldLink RX11 71 "PostingPlannerModel" "clausePlaces" "[I" ∈ wsX11_seeksPlan := by decide +kernel
theorem lk_X11_seeksPlan_50 : Cond.fieldLink RX11 50 "PostingPlannerModel" "runThere" "[Z" ∈ wsX11_seeksPlan := by decide +kernel
theorem in_X11_leaps_X11 : ∀ w ∈ wsX110, w ∈ wsX11_leaps := by decide +kernel
theorem lk_X11_leaps_181 : Cond.fieldLink RX11 181 "PostingPlannerModel" "isOver" "Z" ∈ wsX11_leaps := by decide +kernel
theorem lk_X11_leaps_178 : Cond.fieldLink RX11 178 "PostingPlannerModel" "given" "I" ∈ wsX11_leaps := by decide +kernel
theorem in_X11_leap_X11 : ∀ w ∈ wsX110, w ∈ wsX11_leap := by decide +kernel
theorem lk_X11_leap_165 : Cond.fieldLink RX11 165 "PostingPlannerModel" "runs" "Z" ∈ wsX11_leap := by decide +kernel
theorem in_X11_next_X11 : ∀ w ∈ wsX110, w ∈ wsX11_next := by decide +kernel
theorem lk_X11_next_165 : Cond.fieldLink RX11 165 "PostingPlannerModel" "runs" "Z" ∈ wsX11_next := by decide +kernel
theorem in_X11_readings_X11 : ∀ w ∈ wsX110, w ∈ wsX11_readings := by decide +kernel
theorem lk_X11_readings_165 : Cond.fieldLink RX11 165 "PostingPlannerModel" "runs" "Z" ∈ wsX11_readings := by decide +kernel
theorem lk_X11_readings_184 : Cond.fieldLink RX11 184 "PostingPlannerModel" "readings" "I" ∈ wsX11_readings := by decide +kernel
set_option maxHeartbeats 4000000 in
set_option maxRecDepth 100000 in
theorem M_begin (S : ST)  (hM : MI S) : Ct yX11_begin wsX11_begin 5 [vr (some (20, 0))] S (fun v1 S1 => v1 = some (vi (planEstM (mbgF (makesF (si S 20 34 0 0))))) ∧ S1 = mbgF (makesF (si S 20 34 0 0))) := by
  refine Ct.of (nL := 4) (by decide) rfl (Nat.le_of_ble_eq_true rfl) (by decide) (fun X C Rr hnL => ?_)
  have hn : ∀ i, i < 4 → i < X.2.2.2.2.2 := fun i h => by rw [hnL]; exact h
  refine r_aload_n C dX11_begin_0 rfl rfl ?_
  refine r_iconst C dX11_begin_1 ?_
  refine r_putf  C mid_20 (hp_20 _) rfl 34 (by decide) in_X11_begin_X11 lk_X11_begin_74 (Or.inl rfl) tyX11 tyX11_ok nmX11 rfl (tyX11_ok 34 (by decide)) (fun _ => rfl) (fun _ => rfl) (Nat.le_of_ble_eq_true rfl) (hs_20_34 _ _) dX11_begin_2 ?_
  refine mw (hM.pi34) (fun hM => ?_)
  refine r_aload_n C dX11_begin_5 rfl rfl ?_
  refine r_callV (as := []) (na := 0) (rest := []) C mid_20 (hp_20 _) rfl (M_makes (si S 20 34 0 0) hM) gX11_begin_X11_makes (by decide +kernel) (by decide) (by decide) rfl (Nat.le_of_ble_eq_true rfl) rfl dX11_begin_6 rfl (fun v1 S1 hp1 => ?_)
  obtain ⟨rfl, e9⟩ := hp1
  subst S1
  obtain ⟨hMT, hnT⟩ := makes_n2 hM
  generalize hT : makesF (si S 20 34 0 0) = T at hMT hnT ⊢
  replace hM := hMT
  have t15 := hMT.i15
  have t16 := hMT.i16
  have t17 := hMT.i17
  refine r_aload_n C dX11_begin_9 rfl rfl ?_
  refine r_iconst C dX11_begin_10 ?_
  refine r_putf  C mid_20 (hp_20 _) rfl 19 (by decide) in_X11_begin_X11 lk_X11_begin_165 (Or.inl rfl) tyX11 tyX11_ok nmX11 rfl (tyX11_ok 19 (by decide)) (fun _ => rfl) (fun _ => rfl) (Nat.le_of_ble_eq_true rfl) (hs_20_19 _ _) dX11_begin_11 ?_
  refine mw (hM.pi19 (by omega)) (fun hM => ?_)
  have hMP := hM
  refine r_iconst C dX11_begin_14 ?_
  refine r_istore_n (lv' := [(1, _), (0, _)]) C dX11_begin_15 rfl (hn _ (by decide)) rfl ?_
  have loop16 : ∀ (f i : Nat) (hk : 40 - i < f) (hi : i ≤ 40), At X 0 0 16 [(0, vr (some (20, 0))), (1, vi (i : Int))] [] (mcpF (si T 20 19 0 1) i) := by
    intro kf
    induction kf with
    | zero => intro i hk hi; exact absurd hk (by omega)
    | succ kf ih =>
      intro i hk hi
      have hM := mcpF_MI hMP i
      have hF := mcpF_MF (si T 20 19 0 1) i
      have b0 := hMP.a0 i
      have b1 := hMP.a1 i
      refine r_iload_n C dX11_begin_16 rfl rfl ?_
      refine r_bipush C dX11_begin_17 (by decide) ?_
      refine r_icmp_ge (tgt := 52) C dX11_begin_19 (by decide) (by omega) (by omega) (fun h19 => ?_) (fun h19 => ?_)
      · skip
        have ei : i = 40 := by omega
        subst ei
        refine r_aload_n C dX11_begin_52 rfl rfl ?_
        refine r_aload_n C dX11_begin_53 rfl rfl ?_
        refine r_getf C mid_20 (hp_20 _) rfl 15 (by decide) in_X11_begin_X11 lk_X11_begin_135 (Or.inl rfl) rfl dX11_begin_54 ?_
        have hI54 := hM.i15
        refine At_val (v' := vi (iv T 20 15 0)) (congrArg vi (hF.i (q := 15) (by decide))) ?_
        refine r_putf  C mid_20 (hp_20 _) rfl 22 (by decide) in_X11_begin_X11 lk_X11_begin_169 (Or.inl rfl) tyX11 tyX11_ok nmX11 rfl (tyX11_ok 22 (by decide)) (fun _ => rfl) (fun _ => rfl) (Nat.le_of_ble_eq_true rfl) (hs_20_22 _ _) dX11_begin_57 ?_
        refine mw (hM.pi22 (by omega)) (fun hM => ?_)
        refine r_aload_n C dX11_begin_60 rfl rfl ?_
        refine r_aload_n C dX11_begin_61 rfl rfl ?_
        refine r_getf C mid_20 (hp_20 _) rfl 16 (by decide) in_X11_begin_X11 lk_X11_begin_138 (Or.inl rfl) rfl dX11_begin_62 ?_
        have hI62 := hM.i16
        refine At_val (v' := vi (iv T 20 16 0)) (congrArg vi (hF.i (q := 16) (by decide))) ?_
        refine r_putf  C mid_20 (hp_20 _) rfl 23 (by decide) in_X11_begin_X11 lk_X11_begin_172 (Or.inl rfl) tyX11 tyX11_ok nmX11 rfl (tyX11_ok 23 (by decide)) (fun _ => rfl) (fun _ => rfl) (Nat.le_of_ble_eq_true rfl) (hs_20_23 _ _) dX11_begin_65 ?_
        refine mw (hM.pi23 (by omega)) (fun hM => ?_)
        refine r_aload_n C dX11_begin_68 rfl rfl ?_
        refine r_aload_n C dX11_begin_69 rfl rfl ?_
        refine r_getf C mid_20 (hp_20 _) rfl 17 (by decide) in_X11_begin_X11 lk_X11_begin_141 (Or.inl rfl) rfl dX11_begin_70 ?_
        have hI70 := hM.i17
        refine At_val (v' := vi (iv T 20 17 0)) (congrArg vi (hF.i (q := 17) (by decide))) ?_
        refine r_putf  C mid_20 (hp_20 _) rfl 24 (by decide) in_X11_begin_X11 lk_X11_begin_175 (Or.inl rfl) tyX11 tyX11_ok nmX11 rfl (tyX11_ok 24 (by decide)) (fun _ => rfl) (fun _ => rfl) (Nat.le_of_ble_eq_true rfl) (hs_20_24 _ _) dX11_begin_73 ?_
        refine mw (hM.pi24 (by omega)) (fun hM => ?_)
        change At X _ _ _ _ _ (mbA T)
        have hMA := mbA_MI hMT
        have hFA := mbA_MF T
        refine r_iconst C dX11_begin_76 ?_
        refine r_istore_n (lv' := [(1, _), (0, _)]) C dX11_begin_77 rfl (hn _ (by decide)) rfl ?_
        have loop78 : ∀ (f k : Nat) (hk : 7 - k < f) (hi : (k : Int) ≤ iv T 20 17 0), At X 0 0 78 [(0, vr (some (20, 0))), (1, vi (k : Int))] [] (mbo T (mbA T) k) := by
          intro kf
          induction kf with
          | zero => intro k hk hi; exact absurd hk (by omega)
          | succ kf ih =>
            intro k hk hi
            have hM := mbo_MI hMT hMA k
            have hF : MF (kq [20, 21, 25, 26, 27, 28, 29, 30]) (kq [19, 22, 23, 24]) T (mbo T (mbA T) k) := (hFA.up (by decide) (by decide)).tr ((mbo_MF T (mbA T) k).up (by decide) (by decide))
            have c18 := hMT.a18 k
            have c10 := hMT.a10 (ai T 21 18 k).toNat
            have c11 := hMT.a11 (ai T 21 18 k).toNat
            have c12 := hMT.a12 (ai T 21 18 k).toNat
            refine r_iload_n C dX11_begin_78 rfl rfl ?_
            refine r_aload_n C dX11_begin_79 rfl rfl ?_
            refine r_getf C mid_20 (hp_20 _) rfl 17 (by decide) in_X11_begin_X11 lk_X11_begin_141 (Or.inl rfl) rfl dX11_begin_80 ?_
            have hI80 := hM.i17
            refine At_val (v' := vi (iv T 20 17 0)) (congrArg vi (hF.i (q := 17) (by decide))) ?_
            refine r_icmp_ge (tgt := 194) C dX11_begin_83 (by decide) (by omega) (by omega) (fun h83 => ?_) (fun h83 => ?_)
            · skip
              have ek : k = (iv T 20 17 0).toNat := by omega
              subst ek
              refine r_aload_n C dX11_begin_194 rfl rfl ?_
              refine r_iconst C dX11_begin_195 ?_
              refine r_putf  C mid_20 (hp_20 _) rfl 31 (by decide) in_X11_begin_X11 lk_X11_begin_178 (Or.inl rfl) tyX11 tyX11_ok nmX11 rfl (tyX11_ok 31 (by decide)) (fun _ => rfl) (fun _ => rfl) (Nat.le_of_ble_eq_true rfl) (hs_20_31 _ _) dX11_begin_196 ?_
              refine mw (hM.pi31 (by decide)) (fun hM => ?_)
              refine r_aload_n C dX11_begin_199 rfl rfl ?_
              refine r_iconst C dX11_begin_200 ?_
              refine r_putf  C mid_20 (hp_20 _) rfl 32 (by decide) in_X11_begin_X11 lk_X11_begin_181 (Or.inl rfl) tyX11 tyX11_ok nmX11 rfl (tyX11_ok 32 (by decide)) (fun _ => rfl) (fun _ => rfl) (Nat.le_of_ble_eq_true rfl) (hs_20_32 _ _) dX11_begin_201 ?_
              refine mw (hM.pi32 (by decide)) (fun hM => ?_)
              refine r_aload_n C dX11_begin_204 rfl rfl ?_
              refine r_iconst C dX11_begin_205 ?_
              refine r_putf  C mid_20 (hp_20 _) rfl 33 (by decide) in_X11_begin_X11 lk_X11_begin_184 (Or.inl rfl) tyX11 tyX11_ok nmX11 rfl (tyX11_ok 33 (by decide)) (fun _ => rfl) (fun _ => rfl) (Nat.le_of_ble_eq_true rfl) (hs_20_33 _ _) dX11_begin_206 ?_
              refine mw (hM.pi33) (fun hM => ?_)
              change At X _ _ _ _ _ (mbgF T)
              have hFg := mbgF_MF T
              replace hM := mbgF_MI hMT
              refine r_aload_n C dX11_begin_209 rfl rfl ?_
              refine r_callV (as := []) (na := 0) (rest := []) C mid_20 (hp_20 _) rfl (M_planEstimate (mbgF T) (by rw [hFg.i (by decide), hFg.i (by decide)]; exact hnT) hM) gX11_begin_X11_planEstimate (by decide +kernel) (by decide) (by decide) rfl (Nat.le_of_ble_eq_true rfl) rfl dX11_begin_210 rfl (fun v1 S1 hp1 => ?_)
              obtain ⟨rfl, e9⟩ := hp1
              subst S1
              exact r_iret C Rr (⟨by rw [hT], by rw [hT]⟩) dX11_begin_213
            · skip
              refine r_aload_n C dX11_begin_86 rfl rfl ?_
              refine r_getf C mid_20 (hp_20 _) rfl 18 (by decide) in_X11_begin_X11 lk_X11_begin_47 (Or.inl rfl) rfl dX11_begin_87 ?_
              refine r_iload_n C dX11_begin_90 rfl rfl ?_
              refine r_iald (j := _) C mid_21_18 (hp_21_18 _) rfl (rfl) (by omega) (by decide) dX11_begin_91 ?_
              refine mr hM.a18 (fun hA91 => ?_)
              refine At_val (v' := vi (ai T 21 18 k)) (congrArg vi (hF.a (q := 18) (by decide) _)) ?_
              refine r_istore_n (lv' := [(2, _), (0, _), (1, _)]) C dX11_begin_92 rfl (hn _ (by decide)) rfl ?_
              refine r_aload_n C dX11_begin_93 rfl rfl ?_
              refine r_getf C mid_20 (hp_20 _) rfl 25 (by decide) in_X11_begin_X11 lk_X11_begin_56 (Or.inl rfl) rfl dX11_begin_94 ?_
              refine r_iload_n C dX11_begin_97 rfl rfl ?_
              refine r_aload_n C dX11_begin_98 rfl rfl ?_
              refine r_getf C mid_20 (hp_20 _) rfl 10 (by decide) in_X11_begin_X11 lk_X11_begin_32 (Or.inl rfl) rfl dX11_begin_99 ?_
              refine r_iload_n C dX11_begin_102 rfl rfl ?_
              refine r_iald (j := (ai T 21 18 k).toNat) C mid_21_10 (hp_21_10 _) rfl (by omega) (by omega) (by decide) dX11_begin_103 ?_
              refine mr hM.a10 (fun hA103 => ?_)
              refine At_val (v' := vi (ai T 21 10 (ai T 21 18 k).toNat)) (congrArg vi (hF.a (q := 10) (by decide) _)) ?_
              refine r_iast (j := _) C mid_21_25 (hp_21_25 _) rfl (rfl) (by omega) (by decide) (ha_21_25 _ _ _) dX11_begin_104 ?_
              refine mw (hM.pa25 (by omega)) (fun hM => ?_)
              refine r_aload_n C dX11_begin_105 rfl rfl ?_
              refine r_getf C mid_20 (hp_20 _) rfl 26 (by decide) in_X11_begin_X11 lk_X11_begin_59 (Or.inl rfl) rfl dX11_begin_106 ?_
              refine r_iload_n C dX11_begin_109 rfl rfl ?_
              refine r_aload_n C dX11_begin_110 rfl rfl ?_
              refine r_getf C mid_20 (hp_20 _) rfl 11 (by decide) in_X11_begin_X11 lk_X11_begin_35 (Or.inl rfl) rfl dX11_begin_111 ?_
              refine r_iload_n C dX11_begin_114 rfl rfl ?_
              refine r_iald (j := (ai T 21 18 k).toNat) C mid_21_11 (hp_21_11 _) rfl (by omega) (by omega) (by decide) dX11_begin_115 ?_
              refine mr hM.a11 (fun hA115 => ?_)
              refine At_val (v' := vi (ai T 21 11 (ai T 21 18 k).toNat)) (congrArg vi (hF.a (q := 11) (by decide) _)) ?_
              refine r_iast (j := _) C mid_21_26 (hp_21_26 _) rfl (rfl) (by omega) (by decide) (ha_21_26 _ _ _) dX11_begin_116 ?_
              refine mw (hM.pa26 (by omega)) (fun hM => ?_)
              refine r_aload_n C dX11_begin_117 rfl rfl ?_
              refine r_getf C mid_20 (hp_20 _) rfl 27 (by decide) in_X11_begin_X11 lk_X11_begin_62 (Or.inl rfl) rfl dX11_begin_118 ?_
              refine r_iload_n C dX11_begin_121 rfl rfl ?_
              refine r_aload_n C dX11_begin_122 rfl rfl ?_
              refine r_getf C mid_20 (hp_20 _) rfl 12 (by decide) in_X11_begin_X11 lk_X11_begin_38 (Or.inl rfl) rfl dX11_begin_123 ?_
              refine r_iload_n C dX11_begin_126 rfl rfl ?_
              refine r_iald (j := (ai T 21 18 k).toNat) C mid_21_12 (hp_21_12 _) rfl (by omega) (by omega) (by decide) dX11_begin_127 ?_
              refine mr hM.a12 (fun hA127 => ?_)
              refine At_val (v' := vi (ai T 21 12 (ai T 21 18 k).toNat)) (congrArg vi (hF.a (q := 12) (by decide) _)) ?_
              refine r_iast (j := _) C mid_21_27 (hp_21_27 _) rfl (rfl) (by omega) (by decide) (ha_21_27 _ _ _) dX11_begin_128 ?_
              refine mw (hM.pa27 (by omega)) (fun hM => ?_)
              refine r_aload_n C dX11_begin_129 rfl rfl ?_
              refine r_getf C mid_20 (hp_20 _) rfl 30 (by decide) in_X11_begin_X11 lk_X11_begin_71 (Or.inl rfl) rfl dX11_begin_130 ?_
              refine r_iload_n C dX11_begin_133 rfl rfl ?_
              refine r_iconst C dX11_begin_134 ?_
              refine r_iast (j := _) C mid_21_30 (hp_21_30 _) rfl (rfl) (by omega) (by decide) (ha_21_30 _ _ _) dX11_begin_135 ?_
              refine mw (hM.pa30 (by decide)) (fun hM => ?_)
              change At X _ _ _ _ _ (mb1 T (mbo T (mbA T) k) k)
              have hM1 : MI (mb1 T (mbo T (mbA T) k) k) := mb1_MI hMT (mbo_MI hMT hMA k) k
              have hF1 := mb1_MF T (mbo T (mbA T) k) k
              refine r_iconst C dX11_begin_136 ?_
              refine r_istore_n (lv' := [(3, _), (2, _), (0, _), (1, _)]) C dX11_begin_137 rfl (hn _ (by decide)) rfl ?_
              have loop138 : ∀ (f j : Nat) (hk2 : 7 - j < f) (hj : (j : Int) ≤ ai T 21 12 (ai T 21 18 k).toNat), At X 0 0 138 [(0, vr (some (20, 0))), (1, vi (k : Int)), (2, vi (ai T 21 18 k)), (3, vi (j : Int))] [] (mbl T (mb1 T (mbo T (mbA T) k) k) k j) := by
                intro kf
                induction kf with
                | zero => intro j hk2 hj; exact absurd hk2 (by omega)
                | succ kf ih2 =>
                  intro j hk2 hj
                  have hM := mbl_MI hMT hM1 k j
                  have hF2 : MF (kq [20, 21, 25, 26, 27, 28, 29, 30]) (kq [19, 22, 23, 24]) T (mbl T (mb1 T (mbo T (mbA T) k) k) k j) := hF.tr ((hF1.tr (mbl_MF T (mb1 T (mbo T (mbA T) k) k) k j)).up (by decide) (by decide))
                  have c13 := hMT.a13 (6 * (ai T 21 18 k).toNat + j)
                  refine r_iload_n C dX11_begin_138 rfl rfl ?_
                  refine r_aload_n C dX11_begin_139 rfl rfl ?_
                  refine r_getf C mid_20 (hp_20 _) rfl 12 (by decide) in_X11_begin_X11 lk_X11_begin_38 (Or.inl rfl) rfl dX11_begin_140 ?_
                  refine r_iload_n C dX11_begin_143 rfl rfl ?_
                  refine r_iald (j := (ai T 21 18 k).toNat) C mid_21_12 (hp_21_12 _) rfl (by omega) (by omega) (by decide) dX11_begin_144 ?_
                  refine mr hM.a12 (fun hA144 => ?_)
                  refine At_val (v' := vi (ai T 21 12 (ai T 21 18 k).toNat)) (congrArg vi (hF2.a (q := 12) (by decide) _)) ?_
                  refine r_icmp_ge (tgt := 188) C dX11_begin_145 (by decide) (by omega) (by omega) (fun h145 => ?_) (fun h145 => ?_)
                  · skip
                    have ej : j = (ai T 21 12 (ai T 21 18 k).toNat).toNat := by omega
                    subst ej
                    refine r_iinc (lv' := [(1, _), (0, _), (2, _), (3, _)]) C dX11_begin_188 rfl (hn _ (by decide)) rfl ?_
                    refine r_goto (tgt := 78) C dX11_begin_191 (by decide) ?_
                    exact At_lv (by simp) (ih (k + 1) (by omega) (by omega))
                  · skip
                    refine r_aload_n C dX11_begin_148 rfl rfl ?_
                    refine r_getf C mid_20 (hp_20 _) rfl 28 (by decide) in_X11_begin_X11 lk_X11_begin_65 (Or.inl rfl) rfl dX11_begin_149 ?_
                    refine r_bipush C dX11_begin_152 (by decide) ?_
                    refine r_iload_n C dX11_begin_154 rfl rfl ?_
                    refine r_imul C dX11_begin_155 ?_
                    refine r_iload_n C dX11_begin_156 rfl rfl ?_
                    refine r_iadd C dX11_begin_157 ?_
                    refine r_aload_n C dX11_begin_158 rfl rfl ?_
                    refine r_getf C mid_20 (hp_20 _) rfl 13 (by decide) in_X11_begin_X11 lk_X11_begin_41 (Or.inl rfl) rfl dX11_begin_159 ?_
                    refine r_bipush C dX11_begin_162 (by decide) ?_
                    refine r_iload_n C dX11_begin_164 rfl rfl ?_
                    refine r_imul C dX11_begin_165 ?_
                    refine r_iload_n C dX11_begin_166 rfl rfl ?_
                    refine r_iadd C dX11_begin_167 ?_
                    refine r_iald (j := 6 * (ai T 21 18 k).toNat + j) C mid_21_13 (hp_21_13 _) rfl (by omega) (by omega) (by decide) dX11_begin_168 ?_
                    refine mr hM.a13 (fun hA168 => ?_)
                    refine At_val (v' := vi (ai T 21 13 (6 * (ai T 21 18 k).toNat + j))) (congrArg vi (hF2.a (q := 13) (by decide) _)) ?_
                    refine r_iast (j := 6 * k + j) C mid_21_28 (hp_21_28 _) rfl (by omega) (by omega) (by decide) (ha_21_28 _ _ _) dX11_begin_169 ?_
                    refine mw (hM.pa28 (by omega)) (fun hM => ?_)
                    refine r_aload_n C dX11_begin_170 rfl rfl ?_
                    refine r_getf C mid_20 (hp_20 _) rfl 29 (by decide) in_X11_begin_X11 lk_X11_begin_68 (Or.inl rfl) rfl dX11_begin_171 ?_
                    refine r_bipush C dX11_begin_174 (by decide) ?_
                    refine r_iload_n C dX11_begin_176 rfl rfl ?_
                    refine r_imul C dX11_begin_177 ?_
                    refine r_iload_n C dX11_begin_178 rfl rfl ?_
                    refine r_iadd C dX11_begin_179 ?_
                    refine r_iconst C dX11_begin_180 ?_
                    refine r_iast (j := 6 * k + j) C mid_21_29 (hp_21_29 _) rfl (by omega) (by omega) (by decide) (ha_21_29 _ _ _) dX11_begin_181 ?_
                    refine mw (hM.pa29 (by decide)) (fun hM => ?_)
                    refine r_iinc (lv' := [(3, _), (0, _), (1, _), (2, _)]) C dX11_begin_182 rfl (hn _ (by decide)) rfl ?_
                    refine r_goto (tgt := 138) C dX11_begin_185 (by decide) ?_
                    exact At_lv (by simp) (ih2 (j + 1) (by omega) (by omega))
              exact At_lv (by simp) (loop138 8 0 (by omega) (by omega))
        exact At_lv (by simp) (loop78 8 0 (by omega) (by omega))
      · skip
        refine r_aload_n C dX11_begin_22 rfl rfl ?_
        refine r_getf C mid_20 (hp_20 _) rfl 20 (by decide) in_X11_begin_X11 lk_X11_begin_50 (Or.inl rfl) rfl dX11_begin_23 ?_
        refine r_iload_n C dX11_begin_26 rfl rfl ?_
        refine r_aload_n C dX11_begin_27 rfl rfl ?_
        refine r_getf C mid_20 (hp_20 _) rfl 0 (by decide) in_X11_begin_X11 lk_X11_begin_7 (Or.inl rfl) rfl dX11_begin_28 ?_
        refine r_iload_n C dX11_begin_31 rfl rfl ?_
        refine r_bald (j := _) C mid_21_0 (hp_21_0 _) rfl (rfl) (by omega) (by decide) dX11_begin_32 ?_
        refine mr hM.a0 (fun hA32 => ?_)
        refine At_val (v' := vi (ai (si T 20 19 0 1) 21 0 i)) (congrArg vi (hF.a (q := 0) (by decide) _)) ?_
        refine r_bast (j := _) C mid_21_20 (hp_21_20 _) rfl (rfl) (by omega) (by decide) ((by omega)) (ha_21_20 _ _ _) dX11_begin_33 ?_
        refine mw (hM.pa20 (by omega)) (fun hM => ?_)
        refine r_aload_n C dX11_begin_34 rfl rfl ?_
        refine r_getf C mid_20 (hp_20 _) rfl 21 (by decide) in_X11_begin_X11 lk_X11_begin_53 (Or.inl rfl) rfl dX11_begin_35 ?_
        refine r_iload_n C dX11_begin_38 rfl rfl ?_
        refine r_aload_n C dX11_begin_39 rfl rfl ?_
        refine r_getf C mid_20 (hp_20 _) rfl 1 (by decide) in_X11_begin_X11 lk_X11_begin_13 (Or.inl rfl) rfl dX11_begin_40 ?_
        refine r_iload_n C dX11_begin_43 rfl rfl ?_
        refine r_iald (j := _) C mid_21_1 (hp_21_1 _) rfl (rfl) (by omega) (by decide) dX11_begin_44 ?_
        refine mr hM.a1 (fun hA44 => ?_)
        refine At_val (v' := vi (ai (si T 20 19 0 1) 21 1 i)) (congrArg vi (hF.a (q := 1) (by decide) _)) ?_
        refine r_iast (j := _) C mid_21_21 (hp_21_21 _) rfl (rfl) (by omega) (by decide) (ha_21_21 _ _ _) dX11_begin_45 ?_
        refine mw (hM.pa21 (by omega)) (fun hM => ?_)
        refine r_iinc (lv' := [(1, _), (0, _)]) C dX11_begin_46 rfl (hn _ (by decide)) rfl ?_
        refine r_goto (tgt := 16) C dX11_begin_49 (by decide) ?_
        exact At_lv (by simp) (ih (i + 1) (by omega) (by omega))
  exact At_lv (by simp) (loop16 41 0 (by omega) (by omega))
set_option maxHeartbeats 4000000 in
set_option maxRecDepth 100000 in
theorem M_seeksLiteral (S : ST) (a d : Nat) (ha : a < 30) (hd : d ≤ 40) (hM : MI S) : Ct yX11_seeksLiteral wsX11_seeksLiteral 1 [vr (some (20, 0)), vi (a : Int), vi (d : Int)] S (fun v1 S1 => v1 = none ∧ S1 = mlitSk S a d) := by
  refine Ct.of (nL := 6) (by decide) rfl (Nat.le_of_ble_eq_true rfl) (by decide) (fun X C Rr hnL => ?_)
  have hn : ∀ i, i < 6 → i < X.2.2.2.2.2 := fun i h => by rw [hnL]; exact h
  have q29 := hM.a29 a
  have q28 := hM.a28 a
  refine r_aload_n C dX11_seeksLiteral_0 rfl rfl ?_
  refine r_getf C mid_20 (hp_20 _) rfl 29 (by decide) in_X11_seeksLiteral_X11 lk_X11_seeksLiteral_68 (Or.inl rfl) rfl dX11_seeksLiteral_1 ?_
  refine r_iload_n C dX11_seeksLiteral_4 rfl rfl ?_
  refine r_iald (j := _) C mid_21_29 (hp_21_29 _) rfl (rfl) (by omega) (by decide) dX11_seeksLiteral_5 ?_
  refine mr hM.a29 (fun hA5 => ?_)
  refine r_iload_n C dX11_seeksLiteral_6 rfl rfl ?_
  refine r_icmp_lt (tgt := 11) C dX11_seeksLiteral_7 (by decide) (by omega) (by omega) (fun h7 => ?_) (fun h7 => ?_)
  · skip
    refine r_aload_n C dX11_seeksLiteral_11 rfl rfl ?_
    refine r_getf C mid_20 (hp_20 _) rfl 28 (by decide) in_X11_seeksLiteral_X11 lk_X11_seeksLiteral_65 (Or.inl rfl) rfl dX11_seeksLiteral_12 ?_
    refine r_iload_n C dX11_seeksLiteral_15 rfl rfl ?_
    refine r_iald (j := _) C mid_21_28 (hp_21_28 _) rfl (rfl) (by omega) (by decide) dX11_seeksLiteral_16 ?_
    refine mr hM.a28 (fun hA16 => ?_)
    refine At_val (v' := vi ((ai S 21 28 a).toNat : Int)) (by congr 1 <;> omega) ?_
    refine r_istore_n (lv' := [(3, _), (0, _), (1, _), (2, _)]) C dX11_seeksLiteral_17 rfl (hn _ (by decide)) rfl ?_
    refine r_iload_n C dX11_seeksLiteral_18 rfl rfl ?_
    refine r_istore (lv' := [(4, _), (3, _), (0, _), (1, _), (2, _)]) C dX11_seeksLiteral_19 (hn _ (by decide)) rfl ?_
    refine r_iconst C dX11_seeksLiteral_21 ?_
    refine r_istore (lv' := [(5, _), (4, _), (3, _), (0, _), (1, _), (2, _)]) C dX11_seeksLiteral_22 (hn _ (by decide)) rfl ?_
    have loop24 : ∀ (f m : Nat) (hk : 41 - (d + m) < f) (hm : d + m ≤ 40) (hq : fo (mtt S (ai S 21 28 a).toNat) (40 - d) d = fo (mtt S (ai S 21 28 a).toNat) (40 - (d + m)) (d + m)), At X 0 0 24 [(0, vr (some (20, 0))), (1, vi (a : Int)), (2, vi (d : Int)), (3, vi ((ai S 21 28 a).toNat : Int)), (4, vi ((d + m : Nat) : Int)), (5, vi (cnt (mth S) d m : Nat))] [] S := by
      intro kf
      induction kf with
      | zero => intro m hk hm hq; exact absurd hk (by omega)
      | succ kf ih =>
        intro m hk hm hq
        have hcl := cnt_le (mth S) d m
        refine r_iload C dX11_seeksLiteral_24 rfl ?_
        refine r_bipush C dX11_seeksLiteral_26 (by decide) ?_
        refine r_icmp_ge (tgt := 81) C dX11_seeksLiteral_28 (by decide) (by omega) (by omega) (fun h28 => ?_) (fun h28 => ?_)
        · skip
          have hqe : (mfs S (ai S 21 28 a).toNat d) = d + m := by unfold mfs; rw [hq, show d + m = 40 by omega]; rfl
          refine r_aload_n C dX11_seeksLiteral_81 rfl rfl ?_
          refine r_dup C rfl dX11_seeksLiteral_82 ?_
          refine r_getf C mid_20 (hp_20 _) rfl 33 (by decide) in_X11_seeksLiteral_X11 lk_X11_seeksLiteral_184 (Or.inl rfl) rfl dX11_seeksLiteral_83 ?_
          refine r_iload_n C dX11_seeksLiteral_86 rfl rfl ?_
          refine r_iconst C dX11_seeksLiteral_87 ?_
          refine r_irem (z := (((ai S 21 28 a).toNat % 2 : Nat) : Int)) C dX11_seeksLiteral_88 (m_n2) (m_rem2 (by omega)) ?_
          refine r_if_ne (tgt := 96) C dX11_seeksLiteral_89 (by decide) (by omega) (fun h89 => ?_) (fun h89 => ?_)
          · skip
            refine r_iload C dX11_seeksLiteral_96 rfl ?_
            refine r_iconst C dX11_seeksLiteral_98 ?_
            refine r_iadd C dX11_seeksLiteral_99 ?_
            refine At_val (v' := vi (mlc S (ai S 21 28 a).toNat d (mfs S (ai S 21 28 a).toNat d))) (by unfold mlc; rw [hqe]; first | rw [if_pos (by omega)] | (rw [if_neg (by omega), show d + m - d = m by omega])) ?_
            refine r_iadd C dX11_seeksLiteral_100 ?_
            refine r_putf  C mid_20 (hp_20 _) rfl 33 (by decide) in_X11_seeksLiteral_X11 lk_X11_seeksLiteral_184 (Or.inl rfl) tyX11 tyX11_ok nmX11 rfl (tyX11_ok 33 (by decide)) (fun _ => rfl) (fun _ => rfl) (Nat.le_of_ble_eq_true rfl) (hs_20_33 _ _) dX11_seeksLiteral_101 ?_
            refine mw (hM.pi33) (fun hM => ?_)
            refine r_aload_n C dX11_seeksLiteral_104 rfl rfl ?_
            refine r_getf C mid_20 (hp_20 _) rfl 29 (by decide) in_X11_seeksLiteral_X11 lk_X11_seeksLiteral_68 (Or.inl rfl) rfl dX11_seeksLiteral_105 ?_
            refine r_iload_n C dX11_seeksLiteral_108 rfl rfl ?_
            refine r_iload C dX11_seeksLiteral_109 rfl ?_
            refine At_val (v' := vi (((mfs S (ai S 21 28 a).toNat d) : Nat) : Int)) (by rw [hqe]) ?_
            refine r_iast (j := _) C mid_21_29 (hp_21_29 _) rfl (rfl) (by omega) (by decide) (ha_21_29 _ _ _) dX11_seeksLiteral_111 ?_
            refine mw (hM.pa29 (by rw [hqe]; omega)) (fun hM => ?_)
            exact r_vret C Rr (⟨rfl, by unfold mlitSk; rw [if_neg (by omega)]⟩) dX11_seeksLiteral_112
          · skip
            refine r_iconst C dX11_seeksLiteral_92 ?_
            refine r_goto (tgt := 100) C dX11_seeksLiteral_93 (by decide) ?_
            refine At_val (v' := vi (mlc S (ai S 21 28 a).toNat d (mfs S (ai S 21 28 a).toNat d))) (by unfold mlc; rw [hqe]; first | rw [if_pos (by omega)] | (rw [if_neg (by omega), show d + m - d = m by omega])) ?_
            refine r_iadd C dX11_seeksLiteral_100 ?_
            refine r_putf  C mid_20 (hp_20 _) rfl 33 (by decide) in_X11_seeksLiteral_X11 lk_X11_seeksLiteral_184 (Or.inl rfl) tyX11 tyX11_ok nmX11 rfl (tyX11_ok 33 (by decide)) (fun _ => rfl) (fun _ => rfl) (Nat.le_of_ble_eq_true rfl) (hs_20_33 _ _) dX11_seeksLiteral_101 ?_
            refine mw (hM.pi33) (fun hM => ?_)
            refine r_aload_n C dX11_seeksLiteral_104 rfl rfl ?_
            refine r_getf C mid_20 (hp_20 _) rfl 29 (by decide) in_X11_seeksLiteral_X11 lk_X11_seeksLiteral_68 (Or.inl rfl) rfl dX11_seeksLiteral_105 ?_
            refine r_iload_n C dX11_seeksLiteral_108 rfl rfl ?_
            refine r_iload C dX11_seeksLiteral_109 rfl ?_
            refine At_val (v' := vi (((mfs S (ai S 21 28 a).toNat d) : Nat) : Int)) (by rw [hqe]) ?_
            refine r_iast (j := _) C mid_21_29 (hp_21_29 _) rfl (rfl) (by omega) (by decide) (ha_21_29 _ _ _) dX11_seeksLiteral_111 ?_
            refine mw (hM.pa29 (by rw [hqe]; omega)) (fun hM => ?_)
            exact r_vret C Rr (⟨rfl, by unfold mlitSk; rw [if_neg (by omega)]⟩) dX11_seeksLiteral_112
        · skip
          have cut55 : ((mtt S (ai S 21 28 a).toNat) (d + m) = false) → At X 0 0 55 [(0, vr (some (20, 0))), (1, vi (a : Int)), (2, vi (d : Int)), (3, vi ((ai S 21 28 a).toNat : Int)), (4, vi ((d + m : Nat) : Int)), (5, vi (cnt (mth S) d m : Nat))] [] S := by
            intro hnp
            have hst := fo_step (mtt S (ai S 21 28 a).toNat) (d := d + m) (by omega)
            rw [if_neg (by rw [hnp]; decide)] at hst
            refine r_iload C dX11_seeksLiteral_55 rfl ?_
            refine r_aload_n C dX11_seeksLiteral_57 rfl rfl ?_
            refine r_getf C mid_20 (hp_20 _) rfl 20 (by decide) in_X11_seeksLiteral_X11 lk_X11_seeksLiteral_50 (Or.inl rfl) rfl dX11_seeksLiteral_58 ?_
            refine r_iload C dX11_seeksLiteral_61 rfl ?_
            refine r_bald (j := _) C mid_21_20 (hp_21_20 _) rfl (rfl) (by omega) (by decide) dX11_seeksLiteral_63 ?_
            refine mr hM.a20 (fun hA63 => ?_)
            refine r_if_eq (tgt := 71) C dX11_seeksLiteral_64 (by decide) (by omega) (fun h64 => ?_) (fun h64 => ?_)
            · skip
              refine r_iconst C dX11_seeksLiteral_71 ?_
              have e1 : cnt (mth S) d (m + 1) = cnt (mth S) d m := by show cnt (mth S) d m + (if mth S (d + m) = true then 1 else 0) = _; rw [if_neg (by rw [show mth S (d + m) = false from decide_eq_false (show ¬ ai S 21 20 (d + m) = 1 by omega)]; decide), Nat.add_zero]
              refine r_iadd C dX11_seeksLiteral_72 ?_
              refine r_istore (lv' := [(5, _), (0, _), (1, _), (2, _), (3, _), (4, _)]) C dX11_seeksLiteral_73 (hn _ (by decide)) rfl ?_
              refine r_iinc (lv' := [(4, _), (5, _), (0, _), (1, _), (2, _), (3, _)]) C dX11_seeksLiteral_75 rfl (hn _ (by decide)) rfl ?_
              refine r_goto (tgt := 24) C dX11_seeksLiteral_78 (by decide) ?_
              exact At_lv (by simp [e1, Int.add_assoc]) (ih (m + 1) (by omega) (by omega) (hq.trans hst))
            · skip
              refine r_iconst C dX11_seeksLiteral_67 ?_
              refine r_goto (tgt := 72) C dX11_seeksLiteral_68 (by decide) ?_
              have e1 : cnt (mth S) d (m + 1) = cnt (mth S) d m + 1 := by show cnt (mth S) d m + (if mth S (d + m) = true then 1 else 0) = _; rw [if_pos (show mth S (d + m) = true from decide_eq_true (show ai S 21 20 (d + m) = 1 by omega))]
              refine r_iadd C dX11_seeksLiteral_72 ?_
              refine r_istore (lv' := [(5, _), (0, _), (1, _), (2, _), (3, _), (4, _)]) C dX11_seeksLiteral_73 (hn _ (by decide)) rfl ?_
              refine r_iinc (lv' := [(4, _), (5, _), (0, _), (1, _), (2, _), (3, _)]) C dX11_seeksLiteral_75 rfl (hn _ (by decide)) rfl ?_
              refine r_goto (tgt := 24) C dX11_seeksLiteral_78 (by decide) ?_
              exact At_lv (by simp [e1, Int.add_assoc]) (ih (m + 1) (by omega) (by omega) (hq.trans hst))
          refine r_aload_n C dX11_seeksLiteral_31 rfl rfl ?_
          refine r_getf C mid_20 (hp_20 _) rfl 20 (by decide) in_X11_seeksLiteral_X11 lk_X11_seeksLiteral_50 (Or.inl rfl) rfl dX11_seeksLiteral_32 ?_
          refine r_iload C dX11_seeksLiteral_35 rfl ?_
          refine r_bald (j := _) C mid_21_20 (hp_21_20 _) rfl (rfl) (by omega) (by decide) dX11_seeksLiteral_37 ?_
          refine mr hM.a20 (fun hA37 => ?_)
          refine r_if_eq (tgt := 55) C dX11_seeksLiteral_38 (by decide) (by omega) (fun h38 => ?_) (fun h38 => ?_)
          · skip
            exact At_lv (by simp) (cut55 (by first | (unfold mtt; rw [b2i_0 h52, Bool.and_false]; done) | (unfold mtt; rw [show mth S (d + m) = false from decide_eq_false (show ¬ ai S 21 20 (d + m) = 1 by omega), Bool.false_and])))
          · skip
            refine r_aload_n C dX11_seeksLiteral_41 rfl rfl ?_
            refine r_getf C mid_20 (hp_20 _) rfl 21 (by decide) in_X11_seeksLiteral_X11 lk_X11_seeksLiteral_53 (Or.inl rfl) rfl dX11_seeksLiteral_42 ?_
            refine r_iload C dX11_seeksLiteral_45 rfl ?_
            refine r_iald (j := _) C mid_21_21 (hp_21_21 _) rfl (rfl) (by omega) (by decide) dX11_seeksLiteral_47 ?_
            refine mr hM.a21 (fun hA47 => ?_)
            refine At_val (v' := vi ((ai S 21 21 (d + m)).toNat : Int)) (by congr 1 <;> omega) ?_
            refine r_iload_n C dX11_seeksLiteral_48 rfl rfl ?_
            refine r_callS (as := [_, _]) (na := 2) (rest := []) C (M_isTrue S (ai S 21 21 (d + m)).toNat (ai S 21 28 a).toNat (by omega) (by omega)) gX11_seeksLiteral_X11_isTrue (by decide +kernel) (by decide) (by decide) rfl (Nat.le_of_ble_eq_true rfl) rfl dX11_seeksLiteral_49 rfl (fun v1 S1 hp1 => ?_)
            obtain ⟨rfl, e9⟩ := hp1
            subst S1
            refine r_if_ne (tgt := 81) C dX11_seeksLiteral_52 (by decide) (by have := b2i_01 (litT (ai S 21 28 a).toNat (ai S 21 21 (d + m)).toNat); omega) (fun h52 => ?_) (fun h52 => ?_)
            · skip
              have hqe : (mfs S (ai S 21 28 a).toNat d) = d + m := by unfold mfs; rw [hq, fo_step _ (by omega), if_pos (by unfold mtt; rw [show mth S (d + m) = true from decide_eq_true (show ai S 21 20 (d + m) = 1 by omega), b2i_1 h52]; rfl)]
              refine r_aload_n C dX11_seeksLiteral_81 rfl rfl ?_
              refine r_dup C rfl dX11_seeksLiteral_82 ?_
              refine r_getf C mid_20 (hp_20 _) rfl 33 (by decide) in_X11_seeksLiteral_X11 lk_X11_seeksLiteral_184 (Or.inl rfl) rfl dX11_seeksLiteral_83 ?_
              refine r_iload_n C dX11_seeksLiteral_86 rfl rfl ?_
              refine r_iconst C dX11_seeksLiteral_87 ?_
              refine r_irem (z := (((ai S 21 28 a).toNat % 2 : Nat) : Int)) C dX11_seeksLiteral_88 (m_n2) (m_rem2 (by omega)) ?_
              refine r_if_ne (tgt := 96) C dX11_seeksLiteral_89 (by decide) (by omega) (fun h89 => ?_) (fun h89 => ?_)
              · skip
                refine r_iload C dX11_seeksLiteral_96 rfl ?_
                refine r_iconst C dX11_seeksLiteral_98 ?_
                refine r_iadd C dX11_seeksLiteral_99 ?_
                refine At_val (v' := vi (mlc S (ai S 21 28 a).toNat d (mfs S (ai S 21 28 a).toNat d))) (by unfold mlc; rw [hqe]; first | rw [if_pos (by omega)] | (rw [if_neg (by omega), show d + m - d = m by omega])) ?_
                refine r_iadd C dX11_seeksLiteral_100 ?_
                refine r_putf  C mid_20 (hp_20 _) rfl 33 (by decide) in_X11_seeksLiteral_X11 lk_X11_seeksLiteral_184 (Or.inl rfl) tyX11 tyX11_ok nmX11 rfl (tyX11_ok 33 (by decide)) (fun _ => rfl) (fun _ => rfl) (Nat.le_of_ble_eq_true rfl) (hs_20_33 _ _) dX11_seeksLiteral_101 ?_
                refine mw (hM.pi33) (fun hM => ?_)
                refine r_aload_n C dX11_seeksLiteral_104 rfl rfl ?_
                refine r_getf C mid_20 (hp_20 _) rfl 29 (by decide) in_X11_seeksLiteral_X11 lk_X11_seeksLiteral_68 (Or.inl rfl) rfl dX11_seeksLiteral_105 ?_
                refine r_iload_n C dX11_seeksLiteral_108 rfl rfl ?_
                refine r_iload C dX11_seeksLiteral_109 rfl ?_
                refine At_val (v' := vi (((mfs S (ai S 21 28 a).toNat d) : Nat) : Int)) (by rw [hqe]) ?_
                refine r_iast (j := _) C mid_21_29 (hp_21_29 _) rfl (rfl) (by omega) (by decide) (ha_21_29 _ _ _) dX11_seeksLiteral_111 ?_
                refine mw (hM.pa29 (by rw [hqe]; omega)) (fun hM => ?_)
                exact r_vret C Rr (⟨rfl, by unfold mlitSk; rw [if_neg (by omega)]⟩) dX11_seeksLiteral_112
              · skip
                refine r_iconst C dX11_seeksLiteral_92 ?_
                refine r_goto (tgt := 100) C dX11_seeksLiteral_93 (by decide) ?_
                refine At_val (v' := vi (mlc S (ai S 21 28 a).toNat d (mfs S (ai S 21 28 a).toNat d))) (by unfold mlc; rw [hqe]; first | rw [if_pos (by omega)] | (rw [if_neg (by omega), show d + m - d = m by omega])) ?_
                refine r_iadd C dX11_seeksLiteral_100 ?_
                refine r_putf  C mid_20 (hp_20 _) rfl 33 (by decide) in_X11_seeksLiteral_X11 lk_X11_seeksLiteral_184 (Or.inl rfl) tyX11 tyX11_ok nmX11 rfl (tyX11_ok 33 (by decide)) (fun _ => rfl) (fun _ => rfl) (Nat.le_of_ble_eq_true rfl) (hs_20_33 _ _) dX11_seeksLiteral_101 ?_
                refine mw (hM.pi33) (fun hM => ?_)
                refine r_aload_n C dX11_seeksLiteral_104 rfl rfl ?_
                refine r_getf C mid_20 (hp_20 _) rfl 29 (by decide) in_X11_seeksLiteral_X11 lk_X11_seeksLiteral_68 (Or.inl rfl) rfl dX11_seeksLiteral_105 ?_
                refine r_iload_n C dX11_seeksLiteral_108 rfl rfl ?_
                refine r_iload C dX11_seeksLiteral_109 rfl ?_
                refine At_val (v' := vi (((mfs S (ai S 21 28 a).toNat d) : Nat) : Int)) (by rw [hqe]) ?_
                refine r_iast (j := _) C mid_21_29 (hp_21_29 _) rfl (rfl) (by omega) (by decide) (ha_21_29 _ _ _) dX11_seeksLiteral_111 ?_
                refine mw (hM.pa29 (by rw [hqe]; omega)) (fun hM => ?_)
                exact r_vret C Rr (⟨rfl, by unfold mlitSk; rw [if_neg (by omega)]⟩) dX11_seeksLiteral_112
            · skip
              exact At_lv (by simp) (cut55 (by first | (unfold mtt; rw [b2i_0 h52, Bool.and_false]; done) | (unfold mtt; rw [show mth S (d + m) = false from decide_eq_false (show ¬ ai S 21 20 (d + m) = 1 by omega), Bool.false_and])))
    exact At_lv (by simp [cnt]) (loop24 42 0 (by omega) (by omega) rfl)
  · skip
    exact r_vret C Rr (⟨rfl, by unfold mlitSk; rw [if_pos (by omega)]⟩) dX11_seeksLiteral_10
set_option maxHeartbeats 4000000 in
set_option maxRecDepth 100000 in
theorem M_nthLiteral (S : ST) (a n : Nat) (nd : Int) (ha : a + n ≤ 30) (hn6 : n ≤ 6) (hnd : -20 ≤ nd ∧ nd ≤ 20) (hM : MI S) : Ct yX11_nthLiteral wsX11_nthLiteral 0 [vr (some (20, 0)), vi (a : Int), vi (n : Int), vi nd] S (fun v1 S1 => v1 = some (vi ((nthF (fun j => ai S 21 29 (a + j)) n nd 41 0 : Nat) : Int)) ∧ S1 = S) := by
  refine Ct.of (nL := 7) (by decide) rfl (Nat.le_of_ble_eq_true rfl) (by decide) (fun X C Rr hnL => ?_)
  have hn : ∀ i, i < 7 → i < X.2.2.2.2.2 := fun i h => by rw [hnL]; exact h
  refine r_iconst C dX11_nthLiteral_0 ?_
  refine r_istore (lv' := [(4, _), (0, _), (1, _), (2, _), (3, _)]) C dX11_nthLiteral_1 (hn _ (by decide)) rfl ?_
  have loop3 : ∀ (f p : Nat) (hk : 41 - p < f) (hp : p ≤ 41) (hq : nthF (fun j => ai S 21 29 (a + j)) n nd 41 0 = nthF (fun j => ai S 21 29 (a + j)) n nd (41 - p) p), At X 0 0 3 [(0, vr (some (20, 0))), (1, vi (a : Int)), (2, vi (n : Int)), (3, vi nd), (4, vi (p : Int))] [] S := by
    intro kf
    induction kf with
    | zero => intro p hk hp hq; exact absurd hk (by omega)
    | succ kf ih =>
      intro p hk hp hq
      refine r_iload C dX11_nthLiteral_3 rfl ?_
      refine r_bipush C dX11_nthLiteral_5 (by decide) ?_
      refine r_icmp_gt (tgt := 67) C dX11_nthLiteral_7 (by decide) (by omega) (by omega) (fun h7 => ?_) (fun h7 => ?_)
      · skip
        refine r_bipush C dX11_nthLiteral_67 (by decide) ?_
        exact r_iret C Rr (⟨by rw [hq, show p = 41 by omega]; rfl, rfl⟩) dX11_nthLiteral_69
      · skip
        refine r_iconst C dX11_nthLiteral_10 ?_
        refine r_istore (lv' := [(5, _), (0, _), (1, _), (2, _), (3, _), (4, _)]) C dX11_nthLiteral_11 (hn _ (by decide)) rfl ?_
        refine r_iconst C dX11_nthLiteral_13 ?_
        refine r_istore (lv' := [(6, _), (5, _), (0, _), (1, _), (2, _), (3, _), (4, _)]) C dX11_nthLiteral_14 (hn _ (by decide)) rfl ?_
        have loop16 : ∀ (f j : Nat) (hk2 : 7 - j < f) (hj : j ≤ n), At X 0 0 16 [(0, vr (some (20, 0))), (1, vi (a : Int)), (2, vi (n : Int)), (3, vi nd), (4, vi (p : Int)), (5, vi ((cnt (fun j => decide ((fun j => ai S 21 29 (a + j)) j ≤ (p : Int))) 0 j : Nat) : Int)), (6, vi (j : Int))] [] S := by
          intro kf
          induction kf with
          | zero => intro j hk2 hj; exact absurd hk2 (by omega)
          | succ kf ih2 =>
            intro j hk2 hj
            have hcj := cnt_le (fun j => decide ((fun j => ai S 21 29 (a + j)) j ≤ (p : Int))) 0 j
            refine r_iload C dX11_nthLiteral_16 rfl ?_
            refine r_iload_n C dX11_nthLiteral_18 rfl rfl ?_
            refine r_icmp_ge (tgt := 52) C dX11_nthLiteral_19 (by decide) (by omega) (by omega) (fun h19 => ?_) (fun h19 => ?_)
            · skip
              have ej : n = j := by omega
              subst ej
              refine r_iload C dX11_nthLiteral_52 rfl ?_
              refine r_iload_n C dX11_nthLiteral_54 rfl rfl ?_
              refine r_icmp_lt (tgt := 61) C dX11_nthLiteral_55 (by decide) (by omega) (by omega) (fun h55 => ?_) (fun h55 => ?_)
              · skip
                refine r_iinc (lv' := [(4, _), (0, _), (1, _), (2, _), (3, _), (5, _), (6, _)]) C dX11_nthLiteral_61 rfl (hn _ (by decide)) rfl ?_
                refine r_goto (tgt := 3) C dX11_nthLiteral_64 (by decide) ?_
                exact At_lv (by simp) (ih (p + 1) (by omega) (by omega) (hq.trans (nthF_no (by omega) (by show ¬ nd ≤ ((cnt (fun j => decide ((fun j => ai S 21 29 (a + j)) j ≤ (p : Int))) 0 n : Nat) : Int); omega))))
              · skip
                refine r_iload C dX11_nthLiteral_58 rfl ?_
                exact r_iret C Rr (⟨by rw [hq, nthF_yes (by omega) (by show nd ≤ ((cnt (fun j => decide ((fun j => ai S 21 29 (a + j)) j ≤ (p : Int))) 0 n : Nat) : Int); omega)], rfl⟩) dX11_nthLiteral_60
            · skip
              refine r_iload C dX11_nthLiteral_22 rfl ?_
              refine r_aload_n C dX11_nthLiteral_24 rfl rfl ?_
              refine r_getf C mid_20 (hp_20 _) rfl 29 (by decide) in_X11_nthLiteral_X11 lk_X11_nthLiteral_68 (Or.inl rfl) rfl dX11_nthLiteral_25 ?_
              refine r_iload_n C dX11_nthLiteral_28 rfl rfl ?_
              refine r_iload C dX11_nthLiteral_29 rfl ?_
              refine r_iadd C dX11_nthLiteral_31 ?_
              refine r_iald (j := a + j) C mid_21_29 (hp_21_29 _) rfl (by omega) (by omega) (by decide) dX11_nthLiteral_32 ?_
              refine mr hM.a29 (fun hA32 => ?_)
              refine At_val (v' := vi ((fun j => ai S 21 29 (a + j)) j)) (rfl) ?_
              have hpj : -1 ≤ (fun j => ai S 21 29 (a + j)) j ∧ (fun j => ai S 21 29 (a + j)) j ≤ 40 := hM.a29 _
              refine r_iload C dX11_nthLiteral_33 rfl ?_
              refine r_icmp_gt (tgt := 42) C dX11_nthLiteral_35 (by decide) (by omega) (by omega) (fun h35 => ?_) (fun h35 => ?_)
              · skip
                refine r_iconst C dX11_nthLiteral_42 ?_
                have e2 : cnt (fun j => decide ((fun j => ai S 21 29 (a + j)) j ≤ (p : Int))) 0 (j + 1) = cnt (fun j => decide ((fun j => ai S 21 29 (a + j)) j ≤ (p : Int))) 0 j := cnt0_no (decide_eq_false (by omega))
                refine r_iadd C dX11_nthLiteral_43 ?_
                refine r_istore (lv' := [(5, _), (0, _), (1, _), (2, _), (3, _), (4, _), (6, _)]) C dX11_nthLiteral_44 (hn _ (by decide)) rfl ?_
                refine r_iinc (lv' := [(6, _), (5, _), (0, _), (1, _), (2, _), (3, _), (4, _)]) C dX11_nthLiteral_46 rfl (hn _ (by decide)) rfl ?_
                refine r_goto (tgt := 16) C dX11_nthLiteral_49 (by decide) ?_
                exact At_lv (by simp [e2]) (ih2 (j + 1) (by omega) (by omega))
              · skip
                refine r_iconst C dX11_nthLiteral_38 ?_
                refine r_goto (tgt := 43) C dX11_nthLiteral_39 (by decide) ?_
                have e2 : cnt (fun j => decide ((fun j => ai S 21 29 (a + j)) j ≤ (p : Int))) 0 (j + 1) = cnt (fun j => decide ((fun j => ai S 21 29 (a + j)) j ≤ (p : Int))) 0 j + 1 := cnt0_yes (decide_eq_true (by omega))
                refine r_iadd C dX11_nthLiteral_43 ?_
                refine r_istore (lv' := [(5, _), (0, _), (1, _), (2, _), (3, _), (4, _), (6, _)]) C dX11_nthLiteral_44 (hn _ (by decide)) rfl ?_
                refine r_iinc (lv' := [(6, _), (5, _), (0, _), (1, _), (2, _), (3, _), (4, _)]) C dX11_nthLiteral_46 rfl (hn _ (by decide)) rfl ?_
                refine r_goto (tgt := 16) C dX11_nthLiteral_49 (by decide) ?_
                exact At_lv (by simp [e2]) (ih2 (j + 1) (by omega) (by omega))
        exact At_lv (by simp [cnt]) (loop16 8 0 (by omega) (by omega))
  exact At_lv (by simp) (loop3 42 0 (by omega) (by omega) rfl)
set_option maxHeartbeats 4000000 in
set_option maxRecDepth 100000 in
theorem M_nthClause (S : ST) (nd : Int) (hnd : -20 ≤ nd ∧ nd ≤ 20) (hM : MI S) : Ct yX11_nthClause wsX11_nthClause 0 [vr (some (20, 0)), vi nd] S (fun v1 S1 => v1 = some (vi ((nthF (fun j => ai S 21 30 j) (iv S 20 24 0).toNat nd 41 0 : Nat) : Int)) ∧ S1 = S) := by
  refine Ct.of (nL := 5) (by decide) rfl (Nat.le_of_ble_eq_true rfl) (by decide) (fun X C Rr hnL => ?_)
  have hn : ∀ i, i < 5 → i < X.2.2.2.2.2 := fun i h => by rw [hnL]; exact h
  have i24 := hM.i24
  refine r_iconst C dX11_nthClause_0 ?_
  refine r_istore_n (lv' := [(2, _), (0, _), (1, _)]) C dX11_nthClause_1 rfl (hn _ (by decide)) rfl ?_
  have loop2 : ∀ (f p : Nat) (hk : 41 - p < f) (hp : p ≤ 41) (hq : nthF (fun j => ai S 21 30 j) (iv S 20 24 0).toNat nd 41 0 = nthF (fun j => ai S 21 30 j) (iv S 20 24 0).toNat nd (41 - p) p), At X 0 0 2 [(0, vr (some (20, 0))), (1, vi nd), (2, vi (p : Int))] [] S := by
    intro kf
    induction kf with
    | zero => intro p hk hp hq; exact absurd hk (by omega)
    | succ kf ih =>
      intro p hk hp hq
      refine r_iload_n C dX11_nthClause_2 rfl rfl ?_
      refine r_bipush C dX11_nthClause_3 (by decide) ?_
      refine r_icmp_gt (tgt := 60) C dX11_nthClause_5 (by decide) (by omega) (by omega) (fun h5 => ?_) (fun h5 => ?_)
      · skip
        refine r_bipush C dX11_nthClause_60 (by decide) ?_
        exact r_iret C Rr (⟨by rw [hq, show p = 41 by omega]; rfl, rfl⟩) dX11_nthClause_62
      · skip
        refine r_iconst C dX11_nthClause_8 ?_
        refine r_istore_n (lv' := [(3, _), (0, _), (1, _), (2, _)]) C dX11_nthClause_9 rfl (hn _ (by decide)) rfl ?_
        refine r_iconst C dX11_nthClause_10 ?_
        refine r_istore (lv' := [(4, _), (3, _), (0, _), (1, _), (2, _)]) C dX11_nthClause_11 (hn _ (by decide)) rfl ?_
        have loop13 : ∀ (f j : Nat) (hk2 : 7 - j < f) (hj : j ≤ (iv S 20 24 0).toNat), At X 0 0 13 [(0, vr (some (20, 0))), (1, vi nd), (2, vi (p : Int)), (3, vi ((cnt (fun j => decide ((fun j => ai S 21 30 j) j ≤ (p : Int))) 0 j : Nat) : Int)), (4, vi (j : Int))] [] S := by
          intro kf
          induction kf with
          | zero => intro j hk2 hj; exact absurd hk2 (by omega)
          | succ kf ih2 =>
            intro j hk2 hj
            have hcj := cnt_le (fun j => decide ((fun j => ai S 21 30 j) j ≤ (p : Int))) 0 j
            refine r_iload C dX11_nthClause_13 rfl ?_
            refine r_aload_n C dX11_nthClause_15 rfl rfl ?_
            refine r_getf C mid_20 (hp_20 _) rfl 24 (by decide) in_X11_nthClause_X11 lk_X11_nthClause_175 (Or.inl rfl) rfl dX11_nthClause_16 ?_
            have hI16 := hM.i24
            refine r_icmp_ge (tgt := 47) C dX11_nthClause_19 (by decide) (by omega) (by omega) (fun h19 => ?_) (fun h19 => ?_)
            · skip
              have ej : (iv S 20 24 0).toNat = j := by omega
              subst ej
              refine r_iload_n C dX11_nthClause_47 rfl rfl ?_
              refine r_iload_n C dX11_nthClause_48 rfl rfl ?_
              refine r_icmp_lt (tgt := 54) C dX11_nthClause_49 (by decide) (by omega) (by omega) (fun h49 => ?_) (fun h49 => ?_)
              · skip
                refine r_iinc (lv' := [(2, _), (0, _), (1, _), (3, _), (4, _)]) C dX11_nthClause_54 rfl (hn _ (by decide)) rfl ?_
                refine r_goto (tgt := 2) C dX11_nthClause_57 (by decide) ?_
                exact At_lv (by simp) (ih (p + 1) (by omega) (by omega) (hq.trans (nthF_no (by omega) (by show ¬ nd ≤ ((cnt (fun j => decide ((fun j => ai S 21 30 j) j ≤ (p : Int))) 0 (iv S 20 24 0).toNat : Nat) : Int); omega))))
              · skip
                refine r_iload_n C dX11_nthClause_52 rfl rfl ?_
                exact r_iret C Rr (⟨by rw [hq, nthF_yes (by omega) (by show nd ≤ ((cnt (fun j => decide ((fun j => ai S 21 30 j) j ≤ (p : Int))) 0 (iv S 20 24 0).toNat : Nat) : Int); omega)], rfl⟩) dX11_nthClause_53
            · skip
              refine r_iload_n C dX11_nthClause_22 rfl rfl ?_
              refine r_aload_n C dX11_nthClause_23 rfl rfl ?_
              refine r_getf C mid_20 (hp_20 _) rfl 30 (by decide) in_X11_nthClause_X11 lk_X11_nthClause_71 (Or.inl rfl) rfl dX11_nthClause_24 ?_
              refine r_iload C dX11_nthClause_27 rfl ?_
              refine r_iald (j := j) C mid_21_30 (hp_21_30 _) rfl (by omega) (by omega) (by decide) dX11_nthClause_29 ?_
              refine mr hM.a30 (fun hA29 => ?_)
              refine At_val (v' := vi ((fun j => ai S 21 30 j) j)) (rfl) ?_
              have hpj : -1 ≤ (fun j => ai S 21 30 j) j ∧ (fun j => ai S 21 30 j) j ≤ 40 := hM.a30 _
              refine r_iload_n C dX11_nthClause_30 rfl rfl ?_
              refine r_icmp_gt (tgt := 38) C dX11_nthClause_31 (by decide) (by omega) (by omega) (fun h31 => ?_) (fun h31 => ?_)
              · skip
                refine r_iconst C dX11_nthClause_38 ?_
                have e2 : cnt (fun j => decide ((fun j => ai S 21 30 j) j ≤ (p : Int))) 0 (j + 1) = cnt (fun j => decide ((fun j => ai S 21 30 j) j ≤ (p : Int))) 0 j := cnt0_no (decide_eq_false (by omega))
                refine r_iadd C dX11_nthClause_39 ?_
                refine r_istore_n (lv' := [(3, _), (0, _), (1, _), (2, _), (4, _)]) C dX11_nthClause_40 rfl (hn _ (by decide)) rfl ?_
                refine r_iinc (lv' := [(4, _), (3, _), (0, _), (1, _), (2, _)]) C dX11_nthClause_41 rfl (hn _ (by decide)) rfl ?_
                refine r_goto (tgt := 13) C dX11_nthClause_44 (by decide) ?_
                exact At_lv (by simp [e2]) (ih2 (j + 1) (by omega) (by omega))
              · skip
                refine r_iconst C dX11_nthClause_34 ?_
                refine r_goto (tgt := 39) C dX11_nthClause_35 (by decide) ?_
                have e2 : cnt (fun j => decide ((fun j => ai S 21 30 j) j ≤ (p : Int))) 0 (j + 1) = cnt (fun j => decide ((fun j => ai S 21 30 j) j ≤ (p : Int))) 0 j + 1 := cnt0_yes (decide_eq_true (by omega))
                refine r_iadd C dX11_nthClause_39 ?_
                refine r_istore_n (lv' := [(3, _), (0, _), (1, _), (2, _), (4, _)]) C dX11_nthClause_40 rfl (hn _ (by decide)) rfl ?_
                refine r_iinc (lv' := [(4, _), (3, _), (0, _), (1, _), (2, _)]) C dX11_nthClause_41 rfl (hn _ (by decide)) rfl ?_
                refine r_goto (tgt := 13) C dX11_nthClause_44 (by decide) ?_
                exact At_lv (by simp [e2]) (ih2 (j + 1) (by omega) (by omega))
        exact At_lv (by simp [cnt]) (loop13 8 0 (by omega) (by omega))
  exact At_lv (by simp) (loop2 42 0 (by omega) (by omega) rfl)
set_option maxHeartbeats 4000000 in
set_option maxRecDepth 100000 in
theorem M_seeksClause (S : ST) (cl d : Nat) (hcl : cl < 5) (hd : d < 40) (hk9 : ai S 21 25 cl ≤ 2) (hRN : RN S) (hM : MI S) : Ct yX11_seeksClause wsX11_seeksClause 2 [vr (some (20, 0)), vi (cl : Int), vi (d : Int)] S (fun v1 S1 => v1 = none ∧ S1 = mclSk cl d S) := by
  refine Ct.of (nL := 9) (by decide) rfl (Nat.le_of_ble_eq_true rfl) (by decide) (fun X C Rr hnL => ?_)
  have hn : ∀ i, i < 9 → i < X.2.2.2.2.2 := fun i h => by rw [hnL]; exact h
  have q30 := hM.a30 cl
  have q25 := hM.a25 cl
  have q26 := hM.a26 cl
  have q27 := hM.a27 cl
  refine r_aload_n C dX11_seeksClause_0 rfl rfl ?_
  refine r_getf C mid_20 (hp_20 _) rfl 30 (by decide) in_X11_seeksClause_X11 lk_X11_seeksClause_71 (Or.inl rfl) rfl dX11_seeksClause_1 ?_
  refine r_iload_n C dX11_seeksClause_4 rfl rfl ?_
  refine r_iald (j := _) C mid_21_30 (hp_21_30 _) rfl (rfl) (by omega) (by decide) dX11_seeksClause_5 ?_
  refine mr hM.a30 (fun hA5 => ?_)
  refine r_iload_n C dX11_seeksClause_6 rfl rfl ?_
  refine r_icmp_lt (tgt := 11) C dX11_seeksClause_7 (by decide) (by omega) (by omega) (fun h7 => ?_) (fun h7 => ?_)
  · skip
    refine r_bipush C dX11_seeksClause_11 (by decide) ?_
    refine r_iload_n C dX11_seeksClause_13 rfl rfl ?_
    refine r_imul C dX11_seeksClause_14 ?_
    refine At_val (v' := vi ((6 * cl : Nat) : Int)) (by congr 1 <;> omega) ?_
    refine r_istore_n (lv' := [(3, _), (0, _), (1, _), (2, _)]) C dX11_seeksClause_15 rfl (hn _ (by decide)) rfl ?_
    refine r_iload_n C dX11_seeksClause_16 rfl rfl ?_
    refine r_istore (lv' := [(4, _), (3, _), (0, _), (1, _), (2, _)]) C dX11_seeksClause_17 (hn _ (by decide)) rfl ?_
    have hs0 : MI S ∧ MF (kq [29]) (kq [33]) S S := ⟨hM, MF.rf _ _ S⟩
    refine r_iconst C dX11_seeksClause_19 ?_
    refine r_istore (lv' := [(5, _), (4, _), (3, _), (0, _), (1, _), (2, _)]) C dX11_seeksClause_20 (hn _ (by decide)) rfl ?_
    refine r_aload_n C dX11_seeksClause_22 rfl rfl ?_
    refine r_getf C mid_20 (hp_20 _) rfl 25 (by decide) in_X11_seeksClause_X11 lk_X11_seeksClause_56 (Or.inl rfl) rfl dX11_seeksClause_23 ?_
    refine r_iload_n C dX11_seeksClause_26 rfl rfl ?_
    refine r_iald (j := cl) C mid_21_25 (hp_21_25 _) rfl (rfl) (by omega) (by decide) dX11_seeksClause_27 ?_
    refine mr hM.a25 (fun hA27 => ?_)
    refine r_if_ne (tgt := 103) C dX11_seeksClause_28 (by decide) (by omega) (fun h28 => ?_) (fun h28 => ?_)
    · skip
      have cut123 : At X 0 0 123 [(0, vr (some (20, 0))), (1, vi (cl : Int)), (2, vi (d : Int)), (3, vi ((6 * cl : Nat) : Int)), (4, vi (d : Int)), (5, vi 0)] [vi (if (ai S 21 25 cl) = 1 then 1 else (ai S 21 26 cl))] S := by
        skip
        generalize hND : (if (ai S 21 25 cl) = 1 then 1 else (ai S 21 26 cl)) = ND
        refine r_istore (lv' := [(6, _), (0, _), (1, _), (2, _), (3, _), (4, _), (5, _)]) C dX11_seeksClause_123 (hn _ (by decide)) rfl ?_
        by_cases hk1 : (ai S 21 25 cl) = 1
        · skip
          refine r_iconst C dX11_seeksClause_125 ?_
          rw [if_pos hk1] at hND
          subst hND
          have hw4 := hd
          refine r_istore (lv' := [(7, _), (6, _), (0, _), (1, _), (2, _), (3, _), (4, _), (5, _)]) C dX11_seeksClause_126 (hn _ (by decide)) rfl ?_
          refine r_iload C dX11_seeksClause_128 rfl ?_
          refine r_if_eq (tgt := 216) C dX11_seeksClause_130 (by decide) (by omega) (fun h130 => ?_) (fun h130 => ?_)
          · exact absurd h130 (by decide)
          refine r_iconst C dX11_seeksClause_133 ?_
          refine r_istore (lv' := [(8, _), (7, _), (6, _), (0, _), (1, _), (2, _), (3, _), (4, _), (5, _)]) C dX11_seeksClause_134 (hn _ (by decide)) rfl ?_
          have loop136 : ∀ (f j : Nat) (hk3 : 7 - j < f) (hj : j ≤ (ai S 21 27 cl).toNat), At X 0 0 136 [(0, vr (some (20, 0))), (1, vi (cl : Int)), (2, vi (d : Int)), (3, vi ((6 * cl : Nat) : Int)), (4, vi (d : Int)), (6, vi 1), (8, vi (j : Int))] [] (gAnyA (mlsk cl) d j S).2 := by
            intro kf
            induction kf with
            | zero => intro j hk3 hj; exact absurd hk3 (by omega)
            | succ kf ih3 =>
              intro j hk3 hj
              obtain ⟨hsj, -⟩ := gAnyC_pl (S := S) (cl := cl) (w := d) (by omega) hs0 j
              obtain ⟨hM, hF⟩ := id hsj
              refine r_iload C dX11_seeksClause_136 rfl ?_
              refine r_aload_n C dX11_seeksClause_138 rfl rfl ?_
              refine r_getf C mid_20 (hp_20 _) rfl 27 (by decide) in_X11_seeksClause_X11 lk_X11_seeksClause_62 (Or.inl rfl) rfl dX11_seeksClause_139 ?_
              refine r_iload_n C dX11_seeksClause_142 rfl rfl ?_
              refine r_iald (j := cl) C mid_21_27 (hp_21_27 _) rfl (rfl) (by omega) (by decide) dX11_seeksClause_143 ?_
              refine mr hM.a27 (fun hA143 => ?_)
              refine At_val (v' := vi (ai S 21 27 cl)) (congrArg vi (hF.a (q := 27) (by decide) _)) ?_
              refine r_icmp_ge (tgt := 163) C dX11_seeksClause_144 (by decide) (by omega) (by omega) (fun h144 => ?_) (fun h144 => ?_)
              · skip
                have ej : j = (ai S 21 27 cl).toNat := by omega
                subst ej
                obtain ⟨hsT, hTp⟩ := gAnyC_pl (S := S) (cl := cl) (w := d) (by omega) hs0 ((ai S 21 27 cl).toNat)
                refine r_aload_n C dX11_seeksClause_163 rfl rfl ?_
                refine r_iload_n C dX11_seeksClause_164 rfl rfl ?_
                refine r_aload_n C dX11_seeksClause_165 rfl rfl ?_
                refine r_getf C mid_20 (hp_20 _) rfl 27 (by decide) in_X11_seeksClause_X11 lk_X11_seeksClause_62 (Or.inl rfl) rfl dX11_seeksClause_166 ?_
                refine r_iload_n C dX11_seeksClause_169 rfl rfl ?_
                refine r_iald (j := cl) C mid_21_27 (hp_21_27 _) rfl (rfl) (by omega) (by decide) dX11_seeksClause_170 ?_
                refine mr hM.a27 (fun hA170 => ?_)
                refine At_val (v' := vi (((ai S 21 27 cl).toNat : Nat) : Int)) (by rw [hF.a (q := 27) (by decide)]; congr 1; omega) ?_
                refine r_iload C dX11_seeksClause_171 rfl ?_
                refine r_callV (as := [_, _, _]) (na := 3) (rest := []) C mid_20 (hp_20 _) rfl (M_nthLiteral (gAnyA (mlsk cl) d (ai S 21 27 cl).toNat S).2 (6 * cl) (ai S 21 27 cl).toNat 1 (by omega) (by omega) (by omega) hM) gX11_seeksClause_X11_nthLiteral (by decide +kernel) (by decide) (by decide) rfl (Nat.le_of_ble_eq_true rfl) rfl dX11_seeksClause_173 rfl (fun v1 S1 hp1 => ?_)
                obtain ⟨rfl, e9⟩ := hp1
                subst S1
                change At X _ _ _ _ (vi ((nthF (mplC cl (gAnyA (mlsk cl) d (ai S 21 27 cl).toNat S).2) (ai S 21 27 cl).toNat 1 41 0 : Nat) : Int) :: _) _
                have hN1 : nthF (mplC cl (gAnyA (mlsk cl) d (ai S 21 27 cl).toNat S).2) (ai S 21 27 cl).toNat 1 41 0 ≤ 40 := nthF_le 41 0 (by decide)
                have hN2 : d ≤ nthF (mplC cl (gAnyA (mlsk cl) d (ai S 21 27 cl).toNat S).2) (ai S 21 27 cl).toNat 1 41 0 := nthF_ge (by omega) hTp (by omega) 41 0 rfl
                generalize hNN : nthF (mplC cl (gAnyA (mlsk cl) d (ai S 21 27 cl).toNat S).2) (ai S 21 27 cl).toNat 1 41 0 = N1 at hN1 hN2 ⊢
                refine r_istore (lv' := [(8, _), (0, _), (1, _), (2, _), (3, _), (4, _), (6, _)]) C dX11_seeksClause_176 (hn _ (by decide)) rfl ?_
                refine r_aload_n C dX11_seeksClause_178 rfl rfl ?_
                refine r_getf C mid_20 (hp_20 _) rfl 25 (by decide) in_X11_seeksClause_X11 lk_X11_seeksClause_56 (Or.inl rfl) rfl dX11_seeksClause_179 ?_
                refine r_iload_n C dX11_seeksClause_182 rfl rfl ?_
                refine r_iald (j := cl) C mid_21_25 (hp_21_25 _) rfl (rfl) (by omega) (by decide) dX11_seeksClause_183 ?_
                refine mr hM.a25 (fun hA183 => ?_)
                refine At_val (v' := vi (ai S 21 25 cl)) (congrArg vi (hF.a (q := 25) (by decide) _)) ?_
                refine r_iconst C dX11_seeksClause_184 ?_
                refine r_icmp_ne (tgt := 206) C dX11_seeksClause_185 (by decide) (by omega) (by omega) (fun h185 => ?_) (fun h185 => ?_)
                · skip
                  refine r_iconst C dX11_seeksClause_206 ?_
                  refine r_istore (lv' := [(7, _), (8, _), (0, _), (1, _), (2, _), (3, _), (4, _), (6, _)]) C dX11_seeksClause_207 (hn _ (by decide)) rfl ?_
                  refine r_iload C dX11_seeksClause_209 rfl ?_
                  refine r_istore (lv' := [(4, _), (7, _), (8, _), (0, _), (1, _), (2, _), (3, _), (6, _)]) C dX11_seeksClause_211 (hn _ (by decide)) rfl ?_
                  refine r_goto (tgt := 128) C dX11_seeksClause_213 (by decide) ?_
                  refine r_iload C dX11_seeksClause_128 rfl ?_
                  refine r_if_eq (tgt := 216) C dX11_seeksClause_130 (by decide) (by omega) (fun h130 => ?_) (fun h130 => ?_)
                  · skip
                    have hG : (N1, (gAnyA (mlsk cl) d (ai S 21 27 cl).toNat S).2) = mcG cl d S := by unfold mcG mgrp; rw [if_neg (by omega), if_pos hk1]; rw [hNN]
                    refine r_aload_n C dX11_seeksClause_216 rfl rfl ?_
                    refine r_getf C mid_20 (hp_20 _) rfl 30 (by decide) in_X11_seeksClause_X11 lk_X11_seeksClause_71 (Or.inl rfl) rfl dX11_seeksClause_217 ?_
                    refine r_iload_n C dX11_seeksClause_220 rfl rfl ?_
                    refine r_iload C dX11_seeksClause_221 rfl ?_
                    refine r_iast (j := cl) C mid_21_30 (hp_21_30 _) rfl (rfl) (by omega) (by decide) (ha_21_30 _ _ _) dX11_seeksClause_223 ?_
                    refine mw (hM.pa30 (by omega)) (fun hM => ?_)
                    exact r_vret C Rr (⟨rfl, mclSk_of (by omega) hG⟩) dX11_seeksClause_224
                  · exact absurd rfl h130
                · exact absurd h185 (by omega)
              · skip
                refine r_aload_n C dX11_seeksClause_147 rfl rfl ?_
                refine r_iload_n C dX11_seeksClause_148 rfl rfl ?_
                refine r_iload C dX11_seeksClause_149 rfl ?_
                refine r_iadd C dX11_seeksClause_151 ?_
                refine At_val (v' := vi ((6 * cl + j : Nat) : Int)) (by congr 1 <;> omega) ?_
                refine r_iload C dX11_seeksClause_152 rfl ?_
                refine r_callV (as := [_, _]) (na := 2) (rest := []) C mid_20 (hp_20 _) rfl (M_seeksLiteral (gAnyA (mlsk cl) d j S).2 (6 * cl + j) d (by omega) (by omega) hM) gX11_seeksClause_X11_seeksLiteral (by decide +kernel) (by decide) (by decide) rfl (Nat.le_of_ble_eq_true rfl) rfl dX11_seeksClause_154 rfl (fun v1 S1 hp1 => ?_)
                obtain ⟨rfl, e9⟩ := hp1
                subst S1
                refine r_iinc (lv' := [(8, _), (0, _), (1, _), (2, _), (3, _), (4, _), (6, _)]) C dX11_seeksClause_157 rfl (hn _ (by decide)) rfl ?_
                refine r_goto (tgt := 136) C dX11_seeksClause_160 (by decide) ?_
                exact At_lv (by simp) (ih3 (j + 1) (by omega) (by omega))
          exact At_lv (by simp) (loop136 8 0 (by omega) (by omega))
        · skip
          refine r_iconst C dX11_seeksClause_125 ?_
          rw [if_neg hk1] at hND
          subst hND
          have hk2 : (ai S 21 25 cl) = 2 := by omega
          have hn1 := hRN cl hcl (by omega) (by omega)
          refine r_istore (lv' := [(7, _), (6, _), (0, _), (1, _), (2, _), (3, _), (4, _), (5, _)]) C dX11_seeksClause_126 (hn _ (by decide)) rfl ?_
          have loop128 : ∀ (f w : Nat) (s : ST) (go : Int) (hw : w ≤ 40) (hgo : go = 0 ∨ go = 1) (hs : MI s ∧ MF (kq [29]) (kq [33]) S s) (hg : ((go = 1 ∧ w < 40 ∧ ∃ g, f = g + 1 ∧ 40 ≤ g + w ∧ gSome (mlsk cl) (fun s => ((nthF (mplC cl s) (ai S 21 27 cl).toNat (ai S 21 26 cl) 41 0 : Nat) : Int)) (ai S 21 27 cl).toNat g w s = mcG cl d S) ∨ (go = 0 ∧ 0 < f ∧ (w, s) = mcG cl d S))), At X 0 0 128 [(0, vr (some (20, 0))), (1, vi (cl : Int)), (2, vi (d : Int)), (3, vi ((6 * cl : Nat) : Int)), (4, vi (w : Int)), (6, vi (ai S 21 26 cl)), (7, vi go)] [] s := by
            intro kf
            induction kf with
            | zero => intro w s go hw hgo hs hg; exact hg.elim (fun q => by obtain ⟨-, -, g, q1, -⟩ := q; exact absurd q1 (by omega)) (fun q => absurd q.2.1 (by omega))
            | succ kf ih =>
              intro w s go hw hgo hs hg
              obtain ⟨hM, hF⟩ := id hs
              refine r_iload C dX11_seeksClause_128 rfl ?_
              refine r_if_eq (tgt := 216) C dX11_seeksClause_130 (by decide) (by omega) (fun h130 => ?_) (fun h130 => ?_)
              · skip
                have hG : (w, s) = mcG cl d S := hg.elim (fun q => absurd q.1 (by omega)) (fun q => q.2.2)
                refine r_aload_n C dX11_seeksClause_216 rfl rfl ?_
                refine r_getf C mid_20 (hp_20 _) rfl 30 (by decide) in_X11_seeksClause_X11 lk_X11_seeksClause_71 (Or.inl rfl) rfl dX11_seeksClause_217 ?_
                refine r_iload_n C dX11_seeksClause_220 rfl rfl ?_
                refine r_iload C dX11_seeksClause_221 rfl ?_
                refine r_iast (j := cl) C mid_21_30 (hp_21_30 _) rfl (rfl) (by omega) (by decide) (ha_21_30 _ _ _) dX11_seeksClause_223 ?_
                refine mw (hM.pa30 (by omega)) (fun hM => ?_)
                exact r_vret C Rr (⟨rfl, mclSk_of (by omega) hG⟩) dX11_seeksClause_224
              · skip
                obtain ⟨hw4, g, hgf, hgw, hg1⟩ : w < 40 ∧ ∃ g, kf + 1 = g + 1 ∧ 40 ≤ g + w ∧ gSome (mlsk cl) (fun s => ((nthF (mplC cl s) (ai S 21 27 cl).toNat (ai S 21 26 cl) 41 0 : Nat) : Int)) (ai S 21 27 cl).toNat g w s = mcG cl d S := hg.elim (fun q => q.2) (fun q => absurd q.1 (by omega))
                obtain rfl : kf = g := by omega
                obtain ⟨g1, rfl⟩ : ∃ g1, kf = g1 + 1 := ⟨kf - 1, by omega⟩
                refine r_iconst C dX11_seeksClause_133 ?_
                refine r_istore (lv' := [(8, _), (0, _), (1, _), (2, _), (3, _), (4, _), (6, _), (7, _)]) C dX11_seeksClause_134 (hn _ (by decide)) rfl ?_
                have loop136 : ∀ (f j : Nat) (hk3 : 7 - j < f) (hj : j ≤ (ai S 21 27 cl).toNat), At X 0 0 136 [(0, vr (some (20, 0))), (1, vi (cl : Int)), (2, vi (d : Int)), (3, vi ((6 * cl : Nat) : Int)), (4, vi (w : Int)), (6, vi (ai S 21 26 cl)), (8, vi (j : Int))] [] (gAnyA (mlsk cl) w j s).2 := by
                  intro kf
                  induction kf with
                  | zero => intro j hk3 hj; exact absurd hk3 (by omega)
                  | succ kf ih3 =>
                    intro j hk3 hj
                    obtain ⟨hsj, -⟩ := gAnyC_pl (S := S) (cl := cl) (w := w) (by omega) hs j
                    obtain ⟨hM, hF⟩ := id hsj
                    refine r_iload C dX11_seeksClause_136 rfl ?_
                    refine r_aload_n C dX11_seeksClause_138 rfl rfl ?_
                    refine r_getf C mid_20 (hp_20 _) rfl 27 (by decide) in_X11_seeksClause_X11 lk_X11_seeksClause_62 (Or.inl rfl) rfl dX11_seeksClause_139 ?_
                    refine r_iload_n C dX11_seeksClause_142 rfl rfl ?_
                    refine r_iald (j := cl) C mid_21_27 (hp_21_27 _) rfl (rfl) (by omega) (by decide) dX11_seeksClause_143 ?_
                    refine mr hM.a27 (fun hA143 => ?_)
                    refine At_val (v' := vi (ai S 21 27 cl)) (congrArg vi (hF.a (q := 27) (by decide) _)) ?_
                    refine r_icmp_ge (tgt := 163) C dX11_seeksClause_144 (by decide) (by omega) (by omega) (fun h144 => ?_) (fun h144 => ?_)
                    · skip
                      have ej : j = (ai S 21 27 cl).toNat := by omega
                      subst ej
                      obtain ⟨hsT, hTp⟩ := gAnyC_pl (S := S) (cl := cl) (w := w) (by omega) hs ((ai S 21 27 cl).toNat)
                      refine r_aload_n C dX11_seeksClause_163 rfl rfl ?_
                      refine r_iload_n C dX11_seeksClause_164 rfl rfl ?_
                      refine r_aload_n C dX11_seeksClause_165 rfl rfl ?_
                      refine r_getf C mid_20 (hp_20 _) rfl 27 (by decide) in_X11_seeksClause_X11 lk_X11_seeksClause_62 (Or.inl rfl) rfl dX11_seeksClause_166 ?_
                      refine r_iload_n C dX11_seeksClause_169 rfl rfl ?_
                      refine r_iald (j := cl) C mid_21_27 (hp_21_27 _) rfl (rfl) (by omega) (by decide) dX11_seeksClause_170 ?_
                      refine mr hM.a27 (fun hA170 => ?_)
                      refine At_val (v' := vi (((ai S 21 27 cl).toNat : Nat) : Int)) (by rw [hF.a (q := 27) (by decide)]; congr 1; omega) ?_
                      refine r_iload C dX11_seeksClause_171 rfl ?_
                      refine r_callV (as := [_, _, _]) (na := 3) (rest := []) C mid_20 (hp_20 _) rfl (M_nthLiteral (gAnyA (mlsk cl) w (ai S 21 27 cl).toNat s).2 (6 * cl) (ai S 21 27 cl).toNat (ai S 21 26 cl) (by omega) (by omega) (by omega) hM) gX11_seeksClause_X11_nthLiteral (by decide +kernel) (by decide) (by decide) rfl (Nat.le_of_ble_eq_true rfl) rfl dX11_seeksClause_173 rfl (fun v1 S1 hp1 => ?_)
                      obtain ⟨rfl, e9⟩ := hp1
                      subst S1
                      change At X _ _ _ _ (vi ((nthF (mplC cl (gAnyA (mlsk cl) w (ai S 21 27 cl).toNat s).2) (ai S 21 27 cl).toNat (ai S 21 26 cl) 41 0 : Nat) : Int) :: _) _
                      have hN1 : nthF (mplC cl (gAnyA (mlsk cl) w (ai S 21 27 cl).toNat s).2) (ai S 21 27 cl).toNat (ai S 21 26 cl) 41 0 ≤ 40 := nthF_le 41 0 (by decide)
                      have hN2 : w ≤ nthF (mplC cl (gAnyA (mlsk cl) w (ai S 21 27 cl).toNat s).2) (ai S 21 27 cl).toNat (ai S 21 26 cl) 41 0 := nthF_ge (by omega) hTp (by omega) 41 0 rfl
                      generalize hNN : nthF (mplC cl (gAnyA (mlsk cl) w (ai S 21 27 cl).toNat s).2) (ai S 21 27 cl).toNat (ai S 21 26 cl) 41 0 = N1 at hN1 hN2 ⊢
                      refine r_istore (lv' := [(8, _), (0, _), (1, _), (2, _), (3, _), (4, _), (6, _)]) C dX11_seeksClause_176 (hn _ (by decide)) rfl ?_
                      refine r_aload_n C dX11_seeksClause_178 rfl rfl ?_
                      refine r_getf C mid_20 (hp_20 _) rfl 25 (by decide) in_X11_seeksClause_X11 lk_X11_seeksClause_56 (Or.inl rfl) rfl dX11_seeksClause_179 ?_
                      refine r_iload_n C dX11_seeksClause_182 rfl rfl ?_
                      refine r_iald (j := cl) C mid_21_25 (hp_21_25 _) rfl (rfl) (by omega) (by decide) dX11_seeksClause_183 ?_
                      refine mr hM.a25 (fun hA183 => ?_)
                      refine At_val (v' := vi (ai S 21 25 cl)) (congrArg vi (hF.a (q := 25) (by decide) _)) ?_
                      refine r_iconst C dX11_seeksClause_184 ?_
                      refine r_icmp_ne (tgt := 206) C dX11_seeksClause_185 (by decide) (by omega) (by omega) (fun h185 => ?_) (fun h185 => ?_)
                      · exact absurd h185 (by omega)
                      refine r_iload C dX11_seeksClause_188 rfl ?_
                      refine r_iload C dX11_seeksClause_190 rfl ?_
                      refine r_icmp_le (tgt := 206) C dX11_seeksClause_192 (by decide) (by omega) (by omega) (fun h192 => ?_) (fun h192 => ?_)
                      · skip
                        have hgn : (((0 : Int) = 1 ∧ N1 < 40 ∧ ∃ g, (g1 + 1) = g + 1 ∧ 40 ≤ g + N1 ∧ gSome (mlsk cl) (fun s => ((nthF (mplC cl s) (ai S 21 27 cl).toNat (ai S 21 26 cl) 41 0 : Nat) : Int)) (ai S 21 27 cl).toNat g N1 (gAnyA (mlsk cl) w (ai S 21 27 cl).toNat s).2 = mcG cl d S) ∨ ((0 : Int) = 0 ∧ 0 < (g1 + 1) ∧ (N1, (gAnyA (mlsk cl) w (ai S 21 27 cl).toNat s).2) = mcG cl d S)) := Or.inr ⟨rfl, by omega, by rw [← hg1, gSome_le hw4 (show ((nthF (mplC cl (gAnyA (mlsk cl) w (ai S 21 27 cl).toNat s).2) (ai S 21 27 cl).toNat (ai S 21 26 cl) 41 0 : Nat) : Int) ≤ (w : Int) by rw [hNN]; omega), show N1 = w by omega]⟩
                        refine r_iconst C dX11_seeksClause_206 ?_
                        refine r_istore (lv' := [(7, _), (8, _), (0, _), (1, _), (2, _), (3, _), (4, _), (6, _)]) C dX11_seeksClause_207 (hn _ (by decide)) rfl ?_
                        refine r_iload C dX11_seeksClause_209 rfl ?_
                        refine r_istore (lv' := [(4, _), (7, _), (8, _), (0, _), (1, _), (2, _), (3, _), (6, _)]) C dX11_seeksClause_211 (hn _ (by decide)) rfl ?_
                        refine r_goto (tgt := 128) C dX11_seeksClause_213 (by decide) ?_
                        exact At_lv (by simp) (ih N1 (gAnyA (mlsk cl) w (ai S 21 27 cl).toNat s).2 _ (by omega) (by decide) hsT hgn)
                      · skip
                        refine r_iload C dX11_seeksClause_195 rfl ?_
                        refine r_bipush C dX11_seeksClause_197 (by decide) ?_
                        refine r_icmp_ge (tgt := 206) C dX11_seeksClause_199 (by decide) (by omega) (by omega) (fun h199 => ?_) (fun h199 => ?_)
                        · skip
                          have hgt : gSome (mlsk cl) (fun s => ((nthF (mplC cl s) (ai S 21 27 cl).toNat (ai S 21 26 cl) 41 0 : Nat) : Int)) (ai S 21 27 cl).toNat (g1 + 1) w s = gSome (mlsk cl) (fun s => ((nthF (mplC cl s) (ai S 21 27 cl).toNat (ai S 21 26 cl) 41 0 : Nat) : Int)) (ai S 21 27 cl).toNat g1 N1 (gAnyA (mlsk cl) w (ai S 21 27 cl).toNat s).2 := (gSome_gt hw4 (show ¬ ((nthF (mplC cl (gAnyA (mlsk cl) w (ai S 21 27 cl).toNat s).2) (ai S 21 27 cl).toNat (ai S 21 26 cl) 41 0 : Nat) : Int) ≤ (w : Int) by rw [hNN]; omega)).trans (by show gSome _ _ _ g1 (nthF (mplC cl (gAnyA (mlsk cl) w (ai S 21 27 cl).toNat s).2) (ai S 21 27 cl).toNat (ai S 21 26 cl) 41 0) _ = _; rw [hNN])
                          have hgn : (((0 : Int) = 1 ∧ N1 < 40 ∧ ∃ g, (g1 + 1) = g + 1 ∧ 40 ≤ g + N1 ∧ gSome (mlsk cl) (fun s => ((nthF (mplC cl s) (ai S 21 27 cl).toNat (ai S 21 26 cl) 41 0 : Nat) : Int)) (ai S 21 27 cl).toNat g N1 (gAnyA (mlsk cl) w (ai S 21 27 cl).toNat s).2 = mcG cl d S) ∨ ((0 : Int) = 0 ∧ 0 < (g1 + 1) ∧ (N1, (gAnyA (mlsk cl) w (ai S 21 27 cl).toNat s).2) = mcG cl d S)) := Or.inr ⟨rfl, by omega, by rw [← hg1, hgt, show N1 = 40 by omega, gSome_40]⟩
                          refine r_iconst C dX11_seeksClause_206 ?_
                          refine r_istore (lv' := [(7, _), (8, _), (0, _), (1, _), (2, _), (3, _), (4, _), (6, _)]) C dX11_seeksClause_207 (hn _ (by decide)) rfl ?_
                          refine r_iload C dX11_seeksClause_209 rfl ?_
                          refine r_istore (lv' := [(4, _), (7, _), (8, _), (0, _), (1, _), (2, _), (3, _), (6, _)]) C dX11_seeksClause_211 (hn _ (by decide)) rfl ?_
                          refine r_goto (tgt := 128) C dX11_seeksClause_213 (by decide) ?_
                          exact At_lv (by simp) (ih N1 (gAnyA (mlsk cl) w (ai S 21 27 cl).toNat s).2 _ (by omega) (by decide) hsT hgn)
                        · skip
                          have hgt : gSome (mlsk cl) (fun s => ((nthF (mplC cl s) (ai S 21 27 cl).toNat (ai S 21 26 cl) 41 0 : Nat) : Int)) (ai S 21 27 cl).toNat (g1 + 1) w s = gSome (mlsk cl) (fun s => ((nthF (mplC cl s) (ai S 21 27 cl).toNat (ai S 21 26 cl) 41 0 : Nat) : Int)) (ai S 21 27 cl).toNat g1 N1 (gAnyA (mlsk cl) w (ai S 21 27 cl).toNat s).2 := (gSome_gt hw4 (show ¬ ((nthF (mplC cl (gAnyA (mlsk cl) w (ai S 21 27 cl).toNat s).2) (ai S 21 27 cl).toNat (ai S 21 26 cl) 41 0 : Nat) : Int) ≤ (w : Int) by rw [hNN]; omega)).trans (by show gSome _ _ _ g1 (nthF (mplC cl (gAnyA (mlsk cl) w (ai S 21 27 cl).toNat s).2) (ai S 21 27 cl).toNat (ai S 21 26 cl) 41 0) _ = _; rw [hNN])
                          have hgn : (((1 : Int) = 1 ∧ N1 < 40 ∧ ∃ g, (g1 + 1) = g + 1 ∧ 40 ≤ g + N1 ∧ gSome (mlsk cl) (fun s => ((nthF (mplC cl s) (ai S 21 27 cl).toNat (ai S 21 26 cl) 41 0 : Nat) : Int)) (ai S 21 27 cl).toNat g N1 (gAnyA (mlsk cl) w (ai S 21 27 cl).toNat s).2 = mcG cl d S) ∨ ((1 : Int) = 0 ∧ 0 < (g1 + 1) ∧ (N1, (gAnyA (mlsk cl) w (ai S 21 27 cl).toNat s).2) = mcG cl d S)) := Or.inl ⟨rfl, by omega, g1, rfl, by omega, hgt.symm.trans hg1⟩
                          refine r_iconst C dX11_seeksClause_202 ?_
                          refine r_goto (tgt := 207) C dX11_seeksClause_203 (by decide) ?_
                          refine r_istore (lv' := [(7, _), (8, _), (0, _), (1, _), (2, _), (3, _), (4, _), (6, _)]) C dX11_seeksClause_207 (hn _ (by decide)) rfl ?_
                          refine r_iload C dX11_seeksClause_209 rfl ?_
                          refine r_istore (lv' := [(4, _), (7, _), (8, _), (0, _), (1, _), (2, _), (3, _), (6, _)]) C dX11_seeksClause_211 (hn _ (by decide)) rfl ?_
                          refine r_goto (tgt := 128) C dX11_seeksClause_213 (by decide) ?_
                          exact At_lv (by simp) (ih N1 (gAnyA (mlsk cl) w (ai S 21 27 cl).toNat s).2 _ (by omega) (by decide) hsT hgn)
                    · skip
                      refine r_aload_n C dX11_seeksClause_147 rfl rfl ?_
                      refine r_iload_n C dX11_seeksClause_148 rfl rfl ?_
                      refine r_iload C dX11_seeksClause_149 rfl ?_
                      refine r_iadd C dX11_seeksClause_151 ?_
                      refine At_val (v' := vi ((6 * cl + j : Nat) : Int)) (by congr 1 <;> omega) ?_
                      refine r_iload C dX11_seeksClause_152 rfl ?_
                      refine r_callV (as := [_, _]) (na := 2) (rest := []) C mid_20 (hp_20 _) rfl (M_seeksLiteral (gAnyA (mlsk cl) w j s).2 (6 * cl + j) w (by omega) (by omega) hM) gX11_seeksClause_X11_seeksLiteral (by decide +kernel) (by decide) (by decide) rfl (Nat.le_of_ble_eq_true rfl) rfl dX11_seeksClause_154 rfl (fun v1 S1 hp1 => ?_)
                      obtain ⟨rfl, e9⟩ := hp1
                      subst S1
                      refine r_iinc (lv' := [(8, _), (0, _), (1, _), (2, _), (3, _), (4, _), (6, _)]) C dX11_seeksClause_157 rfl (hn _ (by decide)) rfl ?_
                      refine r_goto (tgt := 136) C dX11_seeksClause_160 (by decide) ?_
                      exact At_lv (by simp) (ih3 (j + 1) (by omega) (by omega))
                exact At_lv (by simp) (loop136 8 0 (by omega) (by omega))
          have hGS : gSome (mlsk cl) (fun s => ((nthF (mplC cl s) (ai S 21 27 cl).toNat (ai S 21 26 cl) 41 0 : Nat) : Int)) (ai S 21 27 cl).toNat 40 d S = mcG cl d S := by unfold mcG mgrp; rw [if_neg (by omega), if_neg hk1]
          exact At_lv (by simp) (loop128 41 d S 1 (by omega) (Or.inr rfl) hs0 (Or.inl ⟨rfl, hd, 40, rfl, by omega, hGS⟩))
      refine r_aload_n C dX11_seeksClause_103 rfl rfl ?_
      refine r_getf C mid_20 (hp_20 _) rfl 25 (by decide) in_X11_seeksClause_X11 lk_X11_seeksClause_56 (Or.inl rfl) rfl dX11_seeksClause_104 ?_
      refine r_iload_n C dX11_seeksClause_107 rfl rfl ?_
      refine r_iald (j := _) C mid_21_25 (hp_21_25 _) rfl (rfl) (by omega) (by decide) dX11_seeksClause_108 ?_
      refine mr hM.a25 (fun hA108 => ?_)
      refine r_iconst C dX11_seeksClause_109 ?_
      refine r_icmp_ne (tgt := 117) C dX11_seeksClause_110 (by decide) (by omega) (by omega) (fun h110 => ?_) (fun h110 => ?_)
      · skip
        refine r_aload_n C dX11_seeksClause_117 rfl rfl ?_
        refine r_getf C mid_20 (hp_20 _) rfl 26 (by decide) in_X11_seeksClause_X11 lk_X11_seeksClause_59 (Or.inl rfl) rfl dX11_seeksClause_118 ?_
        refine r_iload_n C dX11_seeksClause_121 rfl rfl ?_
        refine r_iald (j := cl) C mid_21_26 (hp_21_26 _) rfl (rfl) (by omega) (by decide) dX11_seeksClause_122 ?_
        refine mr hM.a26 (fun hA122 => ?_)
        generalize hND : (if (ai S 21 25 cl) = 1 then 1 else (ai S 21 26 cl)) = ND
        refine At_val (v' := vi (if (ai S 21 25 cl) = 1 then 1 else (ai S 21 26 cl))) (congrArg vi (by first | rw [if_pos (by omega)] | rw [if_neg (by omega)])) ?_
        exact At_lv (by simp) cut123
      · skip
        refine r_iconst C dX11_seeksClause_113 ?_
        refine r_goto (tgt := 123) C dX11_seeksClause_114 (by decide) ?_
        generalize hND : (if (ai S 21 25 cl) = 1 then 1 else (ai S 21 26 cl)) = ND
        refine At_val (v' := vi (if (ai S 21 25 cl) = 1 then 1 else (ai S 21 26 cl))) (congrArg vi (by first | rw [if_pos (by omega)] | rw [if_neg (by omega)])) ?_
        exact At_lv (by simp) cut123
    · skip
      have hGA : gAll (mlsk cl) (ai S 21 27 cl).toNat 1000 d 0 S = mcG cl d S := by unfold mcG mgrp; rw [if_pos (by omega)]
      have loop31 : ∀ (f w k : Nat) (s : ST) (hk : (40 - w) * 7 + (7 - k) < f) (hw : w ≤ 40) (hkn : k ≤ (ai S 21 27 cl).toNat) (hs : MI s ∧ MF (kq [29]) (kq [33]) S s) (hg : ((w < 40 ∧ gAll (mlsk cl) (ai S 21 27 cl).toNat f w k s = mcG cl d S) ∨ (w = 40 ∧ (40, s) = mcG cl d S))), At X 0 0 31 [(0, vr (some (20, 0))), (1, vi (cl : Int)), (2, vi (d : Int)), (3, vi ((6 * cl : Nat) : Int)), (4, vi (w : Int)), (5, vi (k : Int))] [] s := by
        intro kf
        induction kf with
        | zero => intro w k s hk hw hkn hs hg; exact absurd hk (by omega)
        | succ kf ih =>
          intro w k s hk hw hkn hs hg
          obtain ⟨hM, hF⟩ := id hs
          refine r_iload C dX11_seeksClause_31 rfl ?_
          refine r_aload_n C dX11_seeksClause_33 rfl rfl ?_
          refine r_getf C mid_20 (hp_20 _) rfl 27 (by decide) in_X11_seeksClause_X11 lk_X11_seeksClause_62 (Or.inl rfl) rfl dX11_seeksClause_34 ?_
          refine r_iload_n C dX11_seeksClause_37 rfl rfl ?_
          refine r_iald (j := cl) C mid_21_27 (hp_21_27 _) rfl (rfl) (by omega) (by decide) dX11_seeksClause_38 ?_
          refine mr hM.a27 (fun hA38 => ?_)
          refine At_val (v' := vi (ai S 21 27 cl)) (congrArg vi (hF.a (q := 27) (by decide) _)) ?_
          refine r_icmp_ge (tgt := 94) C dX11_seeksClause_39 (by decide) (by omega) (by omega) (fun h39 => ?_) (fun h39 => ?_)
          · skip
            have hG : (w, s) = mcG cl d S := hg.elim (fun q => by rw [← q.2, gAll_out (by omega)]) (fun q => by rw [← q.2, q.1])
            refine r_aload_n C dX11_seeksClause_94 rfl rfl ?_
            refine r_getf C mid_20 (hp_20 _) rfl 30 (by decide) in_X11_seeksClause_X11 lk_X11_seeksClause_71 (Or.inl rfl) rfl dX11_seeksClause_95 ?_
            refine r_iload_n C dX11_seeksClause_98 rfl rfl ?_
            refine r_iload C dX11_seeksClause_99 rfl ?_
            refine r_iast (j := cl) C mid_21_30 (hp_21_30 _) rfl (rfl) (by omega) (by decide) (ha_21_30 _ _ _) dX11_seeksClause_101 ?_
            refine mw (hM.pa30 (by omega)) (fun hM => ?_)
            exact r_vret C Rr (⟨rfl, mclSk_of (by omega) hG⟩) dX11_seeksClause_102
          · skip
            refine r_iload C dX11_seeksClause_42 rfl ?_
            refine r_bipush C dX11_seeksClause_44 (by decide) ?_
            refine r_icmp_ge (tgt := 94) C dX11_seeksClause_46 (by decide) (by omega) (by omega) (fun h46 => ?_) (fun h46 => ?_)
            · skip
              have hG : (w, s) = mcG cl d S := hg.elim (fun q => absurd q.1 (by omega)) (fun q => by rw [← q.2, q.1])
              refine r_aload_n C dX11_seeksClause_94 rfl rfl ?_
              refine r_getf C mid_20 (hp_20 _) rfl 30 (by decide) in_X11_seeksClause_X11 lk_X11_seeksClause_71 (Or.inl rfl) rfl dX11_seeksClause_95 ?_
              refine r_iload_n C dX11_seeksClause_98 rfl rfl ?_
              refine r_iload C dX11_seeksClause_99 rfl ?_
              refine r_iast (j := cl) C mid_21_30 (hp_21_30 _) rfl (rfl) (by omega) (by decide) (ha_21_30 _ _ _) dX11_seeksClause_101 ?_
              refine mw (hM.pa30 (by omega)) (fun hM => ?_)
              exact r_vret C Rr (⟨rfl, mclSk_of (by omega) hG⟩) dX11_seeksClause_102
            · skip
              refine r_aload_n C dX11_seeksClause_49 rfl rfl ?_
              refine r_iload_n C dX11_seeksClause_50 rfl rfl ?_
              refine r_iload C dX11_seeksClause_51 rfl ?_
              refine r_iadd C dX11_seeksClause_53 ?_
              refine At_val (v' := vi ((6 * cl + k : Nat) : Int)) (by congr 1 <;> omega) ?_
              refine r_iload C dX11_seeksClause_54 rfl ?_
              refine r_callV (as := [_, _]) (na := 2) (rest := []) C mid_20 (hp_20 _) rfl (M_seeksLiteral s (6 * cl + k) w (by omega) (by omega) hM) gX11_seeksClause_X11_seeksLiteral (by decide +kernel) (by decide) (by decide) rfl (Nat.le_of_ble_eq_true rfl) rfl dX11_seeksClause_56 rfl (fun v1 S1 hp1 => ?_)
              obtain ⟨rfl, e9⟩ := hp1
              subst S1
              obtain ⟨hr1, hr2, hr3, hr4⟩ := mlsk_ok (cl := cl) (j := k) (w := w) (by omega) hs
              change At X _ _ _ _ _ ((mlsk cl) k w s).2
              generalize hrr : (mlsk cl) k w s = r at hr1 hr2 hr3 hr4 ⊢
              replace hM := hr1.1
              refine r_aload_n C dX11_seeksClause_59 rfl rfl ?_
              refine r_getf C mid_20 (hp_20 _) rfl 29 (by decide) in_X11_seeksClause_X11 lk_X11_seeksClause_68 (Or.inl rfl) rfl dX11_seeksClause_60 ?_
              refine r_iload_n C dX11_seeksClause_63 rfl rfl ?_
              refine r_iload C dX11_seeksClause_64 rfl ?_
              refine r_iadd C dX11_seeksClause_66 ?_
              refine r_iald (j := 6 * cl + k) C mid_21_29 (hp_21_29 _) rfl (by omega) (by omega) (by decide) dX11_seeksClause_67 ?_
              refine mr hM.a29 (fun hA67 => ?_)
              refine At_val (v' := vi ((r.1 : Nat) : Int)) (congrArg vi hr4) ?_
              refine r_istore (lv' := [(6, _), (0, _), (1, _), (2, _), (3, _), (4, _), (5, _)]) C dX11_seeksClause_68 (hn _ (by decide)) rfl ?_
              refine r_iload C dX11_seeksClause_70 rfl ?_
              refine r_iload C dX11_seeksClause_72 rfl ?_
              refine r_icmp_le (tgt := 81) C dX11_seeksClause_74 (by decide) (by omega) (by omega) (fun h74 => ?_) (fun h74 => ?_)
              · skip
                have hb : ((r.1 < 40 ∧ gAll (mlsk cl) (ai S 21 27 cl).toNat kf r.1 (k + 1) r.2 = mcG cl d S) ∨ (r.1 = 40 ∧ (40, r.2) = mcG cl d S)) := Or.inl ⟨by omega, by rw [← gAll_eq (by omega) hrr (by omega) (by omega)]; exact hg.elim (fun q => q.2) (fun q => absurd q.1 (by omega))⟩
                refine r_iload C dX11_seeksClause_81 rfl ?_
                refine r_iconst C dX11_seeksClause_83 ?_
                refine r_iadd C dX11_seeksClause_84 ?_
                refine r_istore (lv' := [(5, _), (6, _), (0, _), (1, _), (2, _), (3, _), (4, _)]) C dX11_seeksClause_85 (hn _ (by decide)) rfl ?_
                refine r_iload C dX11_seeksClause_87 rfl ?_
                refine r_istore (lv' := [(4, _), (5, _), (6, _), (0, _), (1, _), (2, _), (3, _)]) C dX11_seeksClause_89 (hn _ (by decide)) rfl ?_
                refine r_goto (tgt := 31) C dX11_seeksClause_91 (by decide) ?_
                first | exact At_lv (by simp) (ih r.1 (k + 1) r.2 (by omega) (by omega) (by omega) hr1 hb) | exact At_lv (by simp) (ih r.1 0 r.2 (by omega) (by omega) (by omega) hr1 hb)
              · skip
                have hg1 : gAll (mlsk cl) (ai S 21 27 cl).toNat (kf + 1) w k s = mcG cl d S := hg.elim (fun q => q.2) (fun q => absurd q.1 (by omega))
                have hb : ((r.1 < 40 ∧ gAll (mlsk cl) (ai S 21 27 cl).toNat kf r.1 0 r.2 = mcG cl d S) ∨ (r.1 = 40 ∧ (40, r.2) = mcG cl d S)) := (Nat.lt_or_ge r.1 40).elim (fun q => Or.inl ⟨q, (gAll_up (sk := (mlsk cl)) (n := (ai S 21 27 cl).toNat) (f := kf) (k := k) (w := w) (s := s) (by omega) hrr (by omega) q).symm.trans hg1⟩) (fun q => Or.inr ⟨by omega, (gAll_end (sk := (mlsk cl)) (n := (ai S 21 27 cl).toNat) (f := kf) (k := k) (w := w) (s := s) (by omega) hrr q).symm.trans hg1⟩)
                refine r_iconst C dX11_seeksClause_77 ?_
                refine r_goto (tgt := 85) C dX11_seeksClause_78 (by decide) ?_
                refine r_istore (lv' := [(5, _), (6, _), (0, _), (1, _), (2, _), (3, _), (4, _)]) C dX11_seeksClause_85 (hn _ (by decide)) rfl ?_
                refine r_iload C dX11_seeksClause_87 rfl ?_
                refine r_istore (lv' := [(4, _), (5, _), (6, _), (0, _), (1, _), (2, _), (3, _)]) C dX11_seeksClause_89 (hn _ (by decide)) rfl ?_
                refine r_goto (tgt := 31) C dX11_seeksClause_91 (by decide) ?_
                first | exact At_lv (by simp) (ih r.1 (k + 1) r.2 (by omega) (by omega) (by omega) hr1 hb) | exact At_lv (by simp) (ih r.1 0 r.2 (by omega) (by omega) (by omega) hr1 hb)
      exact At_lv (by simp) (loop31 1000 d 0 S (by omega) (by omega) (by omega) hs0 (Or.inl ⟨hd, hGA⟩))
  · skip
    exact r_vret C Rr (⟨rfl, by unfold mclSk; rw [if_pos (by omega)]⟩) dX11_seeksClause_10
set_option maxHeartbeats 4000000 in
set_option maxRecDepth 100000 in
theorem M_seeksPlan (S : ST) (d : Nat) (hd : d < 40) (hRK : RK S) (hM : MI S) : Ct yX11_seeksPlan wsX11_seeksPlan 3 [vr (some (20, 0)), vi (d : Int)] S (fun v1 S1 => v1 = some (vi ((mplSk d S).1 : Nat)) ∧ S1 = (mplSk d S).2) := by
  refine Ct.of (nL := 7) (by decide) rfl (Nat.le_of_ble_eq_true rfl) (by decide) (fun X C Rr hnL => ?_)
  have hn : ∀ i, i < 7 → i < X.2.2.2.2.2 := fun i h => by rw [hnL]; exact h
  have q22 := hM.i22
  have q23 := hM.i23
  have q24 := hM.i24
  refine r_iload_n C dX11_seeksPlan_0 rfl rfl ?_
  refine r_istore_n (lv' := [(2, _), (0, _), (1, _)]) C dX11_seeksPlan_1 rfl (hn _ (by decide)) rfl ?_
  refine r_aload_n C dX11_seeksPlan_2 rfl rfl ?_
  refine r_getf C mid_20 (hp_20 _) rfl 22 (by decide) in_X11_seeksPlan_X11 lk_X11_seeksPlan_169 (Or.inl rfl) rfl dX11_seeksPlan_3 ?_
  have hI3 := hM.i22
  refine r_iconst C dX11_seeksPlan_6 ?_
  refine r_icmp_ne (tgt := 13) C dX11_seeksPlan_7 (by decide) (by omega) (by omega) (fun h7 => ?_) (fun h7 => ?_)
  · skip
    refine r_aload_n C dX11_seeksPlan_13 rfl rfl ?_
    refine r_getf C mid_20 (hp_20 _) rfl 22 (by decide) in_X11_seeksPlan_X11 lk_X11_seeksPlan_169 (Or.inl rfl) rfl dX11_seeksPlan_14 ?_
    have hI14 := hM.i22
    refine r_iconst C dX11_seeksPlan_17 ?_
    refine r_icmp_ne (tgt := 44) C dX11_seeksPlan_18 (by decide) (by omega) (by omega) (fun h18 => ?_) (fun h18 => ?_)
    · skip
      refine r_iconst C dX11_seeksPlan_44 ?_
      refine r_istore_n (lv' := [(3, _), (2, _), (0, _), (1, _)]) C dX11_seeksPlan_45 rfl (hn _ (by decide)) rfl ?_
      have hs0 : PIn S S := ⟨⟨hM, MF.rf _ _ S⟩, hRK.1⟩
      have hmp : mplSk d S = mpG d S := by unfold mplSk; rw [if_neg (by omega), if_neg (by omega)]
      refine r_aload_n C dX11_seeksPlan_46 rfl rfl ?_
      refine r_getf C mid_20 (hp_20 _) rfl 22 (by decide) in_X11_seeksPlan_X11 lk_X11_seeksPlan_169 (Or.inl rfl) rfl dX11_seeksPlan_47 ?_
      have hI47 := hM.i22
      refine r_if_ne (tgt := 103) C dX11_seeksPlan_50 (by decide) (by omega) (fun h50 => ?_) (fun h50 => ?_)
      · skip
        have cut119 : At X 0 0 119 [(0, vr (some (20, 0))), (1, vi (d : Int)), (2, vi (d : Int)), (3, vi 0)] [vi (if (iv S 20 22 0) = 1 then 1 else (iv S 20 23 0))] S := by
          skip
          generalize hND : (if (iv S 20 22 0) = 1 then 1 else (iv S 20 23 0)) = ND
          refine r_istore (lv' := [(4, _), (0, _), (1, _), (2, _), (3, _)]) C dX11_seeksPlan_119 (hn _ (by decide)) rfl ?_
          by_cases hk1 : (iv S 20 22 0) = 1
          · skip
            refine r_iconst C dX11_seeksPlan_121 ?_
            rw [if_pos hk1] at hND
            subst hND
            have hw4 := hd
            refine r_istore (lv' := [(5, _), (4, _), (0, _), (1, _), (2, _), (3, _)]) C dX11_seeksPlan_122 (hn _ (by decide)) rfl ?_
            refine r_iload C dX11_seeksPlan_124 rfl ?_
            refine r_if_eq (tgt := 196) C dX11_seeksPlan_126 (by decide) (by omega) (fun h126 => ?_) (fun h126 => ?_)
            · exact absurd h126 (by decide)
            refine r_iconst C dX11_seeksPlan_129 ?_
            refine r_istore (lv' := [(6, _), (5, _), (4, _), (0, _), (1, _), (2, _), (3, _)]) C dX11_seeksPlan_130 (hn _ (by decide)) rfl ?_
            have loop132 : ∀ (f j : Nat) (hk3 : 7 - j < f) (hj : j ≤ (iv S 20 24 0).toNat), At X 0 0 132 [(0, vr (some (20, 0))), (2, vi (d : Int)), (4, vi 1), (6, vi (j : Int))] [] (gAnyA mpsk d j S).2 := by
              intro kf
              induction kf with
              | zero => intro j hk3 hj; exact absurd hk3 (by omega)
              | succ kf ih3 =>
                intro j hk3 hj
                obtain ⟨hsj, -⟩ := gAnyP_pl (S := S) (w := d) (by omega) hs0 j (by omega)
                obtain ⟨⟨hM, hF⟩, hRj⟩ := id hsj
                refine r_iload C dX11_seeksPlan_132 rfl ?_
                refine r_aload_n C dX11_seeksPlan_134 rfl rfl ?_
                refine r_getf C mid_20 (hp_20 _) rfl 24 (by decide) in_X11_seeksPlan_X11 lk_X11_seeksPlan_175 (Or.inl rfl) rfl dX11_seeksPlan_135 ?_
                have hI135 := hM.i24
                refine At_val (v' := vi (iv S 20 24 0)) (congrArg vi (hF.i (q := 24) (by decide))) ?_
                refine r_icmp_ge (tgt := 154) C dX11_seeksPlan_138 (by decide) (by omega) (by omega) (fun h138 => ?_) (fun h138 => ?_)
                · skip
                  have ej : j = (iv S 20 24 0).toNat := by omega
                  subst ej
                  obtain ⟨hsT, hTp⟩ := gAnyP_pl (S := S) (w := d) (by omega) hs0 ((iv S 20 24 0).toNat) (by omega)
                  refine r_aload_n C dX11_seeksPlan_154 rfl rfl ?_
                  refine r_iload C dX11_seeksPlan_155 rfl ?_
                  refine r_callV (as := [_]) (na := 1) (rest := []) C mid_20 (hp_20 _) rfl (M_nthClause (gAnyA mpsk d (iv S 20 24 0).toNat S).2 1 (by omega) hM) gX11_seeksPlan_X11_nthClause (by decide +kernel) (by decide) (by decide) rfl (Nat.le_of_ble_eq_true rfl) rfl dX11_seeksPlan_157 rfl (fun v1 S1 hp1 => ?_)
                  obtain ⟨rfl, e9⟩ := hp1
                  subst S1
                  rw [hF.i (q := 24) (by decide)]
                  change At X _ _ _ _ (vi ((nthF (mplP (gAnyA mpsk d (iv S 20 24 0).toNat S).2) (iv S 20 24 0).toNat 1 41 0 : Nat) : Int) :: _) _
                  have hN1 : nthF (mplP (gAnyA mpsk d (iv S 20 24 0).toNat S).2) (iv S 20 24 0).toNat 1 41 0 ≤ 40 := nthF_le 41 0 (by decide)
                  have hN2 : d ≤ nthF (mplP (gAnyA mpsk d (iv S 20 24 0).toNat S).2) (iv S 20 24 0).toNat 1 41 0 := nthF_ge (by omega) hTp (by omega) 41 0 rfl
                  generalize hNN : nthF (mplP (gAnyA mpsk d (iv S 20 24 0).toNat S).2) (iv S 20 24 0).toNat 1 41 0 = N1 at hN1 hN2 ⊢
                  refine r_istore (lv' := [(6, _), (0, _), (2, _), (4, _)]) C dX11_seeksPlan_160 (hn _ (by decide)) rfl ?_
                  refine r_aload_n C dX11_seeksPlan_162 rfl rfl ?_
                  refine r_getf C mid_20 (hp_20 _) rfl 22 (by decide) in_X11_seeksPlan_X11 lk_X11_seeksPlan_169 (Or.inl rfl) rfl dX11_seeksPlan_163 ?_
                  have hI163 := hM.i22
                  refine At_val (v' := vi (iv S 20 22 0)) (congrArg vi (hF.i (q := 22) (by decide))) ?_
                  refine r_iconst C dX11_seeksPlan_166 ?_
                  refine r_icmp_ne (tgt := 187) C dX11_seeksPlan_167 (by decide) (by omega) (by omega) (fun h167 => ?_) (fun h167 => ?_)
                  · skip
                    refine r_iconst C dX11_seeksPlan_187 ?_
                    refine r_istore (lv' := [(5, _), (6, _), (0, _), (2, _), (4, _)]) C dX11_seeksPlan_188 (hn _ (by decide)) rfl ?_
                    refine r_iload C dX11_seeksPlan_190 rfl ?_
                    refine r_istore_n (lv' := [(2, _), (5, _), (6, _), (0, _), (4, _)]) C dX11_seeksPlan_192 rfl (hn _ (by decide)) rfl ?_
                    refine r_goto (tgt := 124) C dX11_seeksPlan_193 (by decide) ?_
                    refine r_iload C dX11_seeksPlan_124 rfl ?_
                    refine r_if_eq (tgt := 196) C dX11_seeksPlan_126 (by decide) (by omega) (fun h126 => ?_) (fun h126 => ?_)
                    · skip
                      have hG : (N1, (gAnyA mpsk d (iv S 20 24 0).toNat S).2) = mpG d S := by unfold mpG mgrp; rw [if_neg (by omega), if_pos hk1]; rw [hNN]
                      refine r_iload_n C dX11_seeksPlan_196 rfl rfl ?_
                      exact r_iret C Rr (⟨by rw [hmp, ← hG], by rw [hmp, ← hG]⟩) dX11_seeksPlan_197
                    · exact absurd rfl h126
                  · exact absurd h167 (by omega)
                · skip
                  refine r_aload_n C dX11_seeksPlan_141 rfl rfl ?_
                  refine r_iload C dX11_seeksPlan_142 rfl ?_
                  refine r_iload_n C dX11_seeksPlan_144 rfl rfl ?_
                  refine r_callV (as := [_, _]) (na := 2) (rest := []) C mid_20 (hp_20 _) rfl (M_seeksClause (gAnyA mpsk d j S).2 j d (by omega) (by omega) (by rw [hF.a (q := 25) (by decide)]; exact hRK.2.1 _ (by omega)) hRj hM) gX11_seeksPlan_X11_seeksClause (by decide +kernel) (by decide) (by decide) rfl (Nat.le_of_ble_eq_true rfl) rfl dX11_seeksPlan_145 rfl (fun v1 S1 hp1 => ?_)
                  obtain ⟨rfl, e9⟩ := hp1
                  subst S1
                  refine r_iinc (lv' := [(6, _), (0, _), (2, _), (4, _)]) C dX11_seeksPlan_148 rfl (hn _ (by decide)) rfl ?_
                  refine r_goto (tgt := 132) C dX11_seeksPlan_151 (by decide) ?_
                  exact At_lv (by simp) (ih3 (j + 1) (by omega) (by omega))
            exact At_lv (by simp) (loop132 8 0 (by omega) (by omega))
          · skip
            refine r_iconst C dX11_seeksPlan_121 ?_
            rw [if_neg hk1] at hND
            subst hND
            have hk2 : (iv S 20 22 0) = 2 := by omega
            have hn1 := hRK.2.2 (by omega)
            refine r_istore (lv' := [(5, _), (4, _), (0, _), (1, _), (2, _), (3, _)]) C dX11_seeksPlan_122 (hn _ (by decide)) rfl ?_
            have loop124 : ∀ (f w : Nat) (s : ST) (go : Int) (hw : w ≤ 40) (hgo : go = 0 ∨ go = 1) (hs : PIn S s) (hg : ((go = 1 ∧ w < 40 ∧ ∃ g, f = g + 1 ∧ 40 ≤ g + w ∧ gSome mpsk (fun s => ((nthF (mplP s) (iv S 20 24 0).toNat (iv S 20 23 0) 41 0 : Nat) : Int)) (iv S 20 24 0).toNat g w s = mpG d S) ∨ (go = 0 ∧ 0 < f ∧ (w, s) = mpG d S))), At X 0 0 124 [(0, vr (some (20, 0))), (2, vi (w : Int)), (4, vi (iv S 20 23 0)), (5, vi go)] [] s := by
              intro kf
              induction kf with
              | zero => intro w s go hw hgo hs hg; exact hg.elim (fun q => by obtain ⟨-, -, g, q1, -⟩ := q; exact absurd q1 (by omega)) (fun q => absurd q.2.1 (by omega))
              | succ kf ih =>
                intro w s go hw hgo hs hg
                obtain ⟨⟨hM, hF⟩, hRj⟩ := id hs
                refine r_iload C dX11_seeksPlan_124 rfl ?_
                refine r_if_eq (tgt := 196) C dX11_seeksPlan_126 (by decide) (by omega) (fun h126 => ?_) (fun h126 => ?_)
                · skip
                  have hG : (w, s) = mpG d S := hg.elim (fun q => absurd q.1 (by omega)) (fun q => q.2.2)
                  refine r_iload_n C dX11_seeksPlan_196 rfl rfl ?_
                  exact r_iret C Rr (⟨by rw [hmp, ← hG], by rw [hmp, ← hG]⟩) dX11_seeksPlan_197
                · skip
                  obtain ⟨hw4, g, hgf, hgw, hg1⟩ : w < 40 ∧ ∃ g, kf + 1 = g + 1 ∧ 40 ≤ g + w ∧ gSome mpsk (fun s => ((nthF (mplP s) (iv S 20 24 0).toNat (iv S 20 23 0) 41 0 : Nat) : Int)) (iv S 20 24 0).toNat g w s = mpG d S := hg.elim (fun q => q.2) (fun q => absurd q.1 (by omega))
                  obtain rfl : kf = g := by omega
                  obtain ⟨g1, rfl⟩ : ∃ g1, kf = g1 + 1 := ⟨kf - 1, by omega⟩
                  refine r_iconst C dX11_seeksPlan_129 ?_
                  refine r_istore (lv' := [(6, _), (0, _), (2, _), (4, _), (5, _)]) C dX11_seeksPlan_130 (hn _ (by decide)) rfl ?_
                  have loop132 : ∀ (f j : Nat) (hk3 : 7 - j < f) (hj : j ≤ (iv S 20 24 0).toNat), At X 0 0 132 [(0, vr (some (20, 0))), (2, vi (w : Int)), (4, vi (iv S 20 23 0)), (6, vi (j : Int))] [] (gAnyA mpsk w j s).2 := by
                    intro kf
                    induction kf with
                    | zero => intro j hk3 hj; exact absurd hk3 (by omega)
                    | succ kf ih3 =>
                      intro j hk3 hj
                      obtain ⟨hsj, -⟩ := gAnyP_pl (S := S) (w := w) (by omega) hs j (by omega)
                      obtain ⟨⟨hM, hF⟩, hRj⟩ := id hsj
                      refine r_iload C dX11_seeksPlan_132 rfl ?_
                      refine r_aload_n C dX11_seeksPlan_134 rfl rfl ?_
                      refine r_getf C mid_20 (hp_20 _) rfl 24 (by decide) in_X11_seeksPlan_X11 lk_X11_seeksPlan_175 (Or.inl rfl) rfl dX11_seeksPlan_135 ?_
                      have hI135 := hM.i24
                      refine At_val (v' := vi (iv S 20 24 0)) (congrArg vi (hF.i (q := 24) (by decide))) ?_
                      refine r_icmp_ge (tgt := 154) C dX11_seeksPlan_138 (by decide) (by omega) (by omega) (fun h138 => ?_) (fun h138 => ?_)
                      · skip
                        have ej : j = (iv S 20 24 0).toNat := by omega
                        subst ej
                        obtain ⟨hsT, hTp⟩ := gAnyP_pl (S := S) (w := w) (by omega) hs ((iv S 20 24 0).toNat) (by omega)
                        refine r_aload_n C dX11_seeksPlan_154 rfl rfl ?_
                        refine r_iload C dX11_seeksPlan_155 rfl ?_
                        refine r_callV (as := [_]) (na := 1) (rest := []) C mid_20 (hp_20 _) rfl (M_nthClause (gAnyA mpsk w (iv S 20 24 0).toNat s).2 (iv S 20 23 0) (by omega) hM) gX11_seeksPlan_X11_nthClause (by decide +kernel) (by decide) (by decide) rfl (Nat.le_of_ble_eq_true rfl) rfl dX11_seeksPlan_157 rfl (fun v1 S1 hp1 => ?_)
                        obtain ⟨rfl, e9⟩ := hp1
                        subst S1
                        rw [hF.i (q := 24) (by decide)]
                        change At X _ _ _ _ (vi ((nthF (mplP (gAnyA mpsk w (iv S 20 24 0).toNat s).2) (iv S 20 24 0).toNat (iv S 20 23 0) 41 0 : Nat) : Int) :: _) _
                        have hN1 : nthF (mplP (gAnyA mpsk w (iv S 20 24 0).toNat s).2) (iv S 20 24 0).toNat (iv S 20 23 0) 41 0 ≤ 40 := nthF_le 41 0 (by decide)
                        have hN2 : w ≤ nthF (mplP (gAnyA mpsk w (iv S 20 24 0).toNat s).2) (iv S 20 24 0).toNat (iv S 20 23 0) 41 0 := nthF_ge (by omega) hTp (by omega) 41 0 rfl
                        generalize hNN : nthF (mplP (gAnyA mpsk w (iv S 20 24 0).toNat s).2) (iv S 20 24 0).toNat (iv S 20 23 0) 41 0 = N1 at hN1 hN2 ⊢
                        refine r_istore (lv' := [(6, _), (0, _), (2, _), (4, _)]) C dX11_seeksPlan_160 (hn _ (by decide)) rfl ?_
                        refine r_aload_n C dX11_seeksPlan_162 rfl rfl ?_
                        refine r_getf C mid_20 (hp_20 _) rfl 22 (by decide) in_X11_seeksPlan_X11 lk_X11_seeksPlan_169 (Or.inl rfl) rfl dX11_seeksPlan_163 ?_
                        have hI163 := hM.i22
                        refine At_val (v' := vi (iv S 20 22 0)) (congrArg vi (hF.i (q := 22) (by decide))) ?_
                        refine r_iconst C dX11_seeksPlan_166 ?_
                        refine r_icmp_ne (tgt := 187) C dX11_seeksPlan_167 (by decide) (by omega) (by omega) (fun h167 => ?_) (fun h167 => ?_)
                        · exact absurd h167 (by omega)
                        refine r_iload C dX11_seeksPlan_170 rfl ?_
                        refine r_iload_n C dX11_seeksPlan_172 rfl rfl ?_
                        refine r_icmp_le (tgt := 187) C dX11_seeksPlan_173 (by decide) (by omega) (by omega) (fun h173 => ?_) (fun h173 => ?_)
                        · skip
                          have hgn : (((0 : Int) = 1 ∧ N1 < 40 ∧ ∃ g, (g1 + 1) = g + 1 ∧ 40 ≤ g + N1 ∧ gSome mpsk (fun s => ((nthF (mplP s) (iv S 20 24 0).toNat (iv S 20 23 0) 41 0 : Nat) : Int)) (iv S 20 24 0).toNat g N1 (gAnyA mpsk w (iv S 20 24 0).toNat s).2 = mpG d S) ∨ ((0 : Int) = 0 ∧ 0 < (g1 + 1) ∧ (N1, (gAnyA mpsk w (iv S 20 24 0).toNat s).2) = mpG d S)) := Or.inr ⟨rfl, by omega, by rw [← hg1, gSome_le hw4 (show ((nthF (mplP (gAnyA mpsk w (iv S 20 24 0).toNat s).2) (iv S 20 24 0).toNat (iv S 20 23 0) 41 0 : Nat) : Int) ≤ (w : Int) by rw [hNN]; omega), show N1 = w by omega]⟩
                          refine r_iconst C dX11_seeksPlan_187 ?_
                          refine r_istore (lv' := [(5, _), (6, _), (0, _), (2, _), (4, _)]) C dX11_seeksPlan_188 (hn _ (by decide)) rfl ?_
                          refine r_iload C dX11_seeksPlan_190 rfl ?_
                          refine r_istore_n (lv' := [(2, _), (5, _), (6, _), (0, _), (4, _)]) C dX11_seeksPlan_192 rfl (hn _ (by decide)) rfl ?_
                          refine r_goto (tgt := 124) C dX11_seeksPlan_193 (by decide) ?_
                          exact At_lv (by simp) (ih N1 (gAnyA mpsk w (iv S 20 24 0).toNat s).2 _ (by omega) (by decide) hsT hgn)
                        · skip
                          refine r_iload C dX11_seeksPlan_176 rfl ?_
                          refine r_bipush C dX11_seeksPlan_178 (by decide) ?_
                          refine r_icmp_ge (tgt := 187) C dX11_seeksPlan_180 (by decide) (by omega) (by omega) (fun h180 => ?_) (fun h180 => ?_)
                          · skip
                            have hgt : gSome mpsk (fun s => ((nthF (mplP s) (iv S 20 24 0).toNat (iv S 20 23 0) 41 0 : Nat) : Int)) (iv S 20 24 0).toNat (g1 + 1) w s = gSome mpsk (fun s => ((nthF (mplP s) (iv S 20 24 0).toNat (iv S 20 23 0) 41 0 : Nat) : Int)) (iv S 20 24 0).toNat g1 N1 (gAnyA mpsk w (iv S 20 24 0).toNat s).2 := (gSome_gt hw4 (show ¬ ((nthF (mplP (gAnyA mpsk w (iv S 20 24 0).toNat s).2) (iv S 20 24 0).toNat (iv S 20 23 0) 41 0 : Nat) : Int) ≤ (w : Int) by rw [hNN]; omega)).trans (by show gSome _ _ _ g1 (nthF (mplP (gAnyA mpsk w (iv S 20 24 0).toNat s).2) (iv S 20 24 0).toNat (iv S 20 23 0) 41 0) _ = _; rw [hNN])
                            have hgn : (((0 : Int) = 1 ∧ N1 < 40 ∧ ∃ g, (g1 + 1) = g + 1 ∧ 40 ≤ g + N1 ∧ gSome mpsk (fun s => ((nthF (mplP s) (iv S 20 24 0).toNat (iv S 20 23 0) 41 0 : Nat) : Int)) (iv S 20 24 0).toNat g N1 (gAnyA mpsk w (iv S 20 24 0).toNat s).2 = mpG d S) ∨ ((0 : Int) = 0 ∧ 0 < (g1 + 1) ∧ (N1, (gAnyA mpsk w (iv S 20 24 0).toNat s).2) = mpG d S)) := Or.inr ⟨rfl, by omega, by rw [← hg1, hgt, show N1 = 40 by omega, gSome_40]⟩
                            refine r_iconst C dX11_seeksPlan_187 ?_
                            refine r_istore (lv' := [(5, _), (6, _), (0, _), (2, _), (4, _)]) C dX11_seeksPlan_188 (hn _ (by decide)) rfl ?_
                            refine r_iload C dX11_seeksPlan_190 rfl ?_
                            refine r_istore_n (lv' := [(2, _), (5, _), (6, _), (0, _), (4, _)]) C dX11_seeksPlan_192 rfl (hn _ (by decide)) rfl ?_
                            refine r_goto (tgt := 124) C dX11_seeksPlan_193 (by decide) ?_
                            exact At_lv (by simp) (ih N1 (gAnyA mpsk w (iv S 20 24 0).toNat s).2 _ (by omega) (by decide) hsT hgn)
                          · skip
                            have hgt : gSome mpsk (fun s => ((nthF (mplP s) (iv S 20 24 0).toNat (iv S 20 23 0) 41 0 : Nat) : Int)) (iv S 20 24 0).toNat (g1 + 1) w s = gSome mpsk (fun s => ((nthF (mplP s) (iv S 20 24 0).toNat (iv S 20 23 0) 41 0 : Nat) : Int)) (iv S 20 24 0).toNat g1 N1 (gAnyA mpsk w (iv S 20 24 0).toNat s).2 := (gSome_gt hw4 (show ¬ ((nthF (mplP (gAnyA mpsk w (iv S 20 24 0).toNat s).2) (iv S 20 24 0).toNat (iv S 20 23 0) 41 0 : Nat) : Int) ≤ (w : Int) by rw [hNN]; omega)).trans (by show gSome _ _ _ g1 (nthF (mplP (gAnyA mpsk w (iv S 20 24 0).toNat s).2) (iv S 20 24 0).toNat (iv S 20 23 0) 41 0) _ = _; rw [hNN])
                            have hgn : (((1 : Int) = 1 ∧ N1 < 40 ∧ ∃ g, (g1 + 1) = g + 1 ∧ 40 ≤ g + N1 ∧ gSome mpsk (fun s => ((nthF (mplP s) (iv S 20 24 0).toNat (iv S 20 23 0) 41 0 : Nat) : Int)) (iv S 20 24 0).toNat g N1 (gAnyA mpsk w (iv S 20 24 0).toNat s).2 = mpG d S) ∨ ((1 : Int) = 0 ∧ 0 < (g1 + 1) ∧ (N1, (gAnyA mpsk w (iv S 20 24 0).toNat s).2) = mpG d S)) := Or.inl ⟨rfl, by omega, g1, rfl, by omega, hgt.symm.trans hg1⟩
                            refine r_iconst C dX11_seeksPlan_183 ?_
                            refine r_goto (tgt := 188) C dX11_seeksPlan_184 (by decide) ?_
                            refine r_istore (lv' := [(5, _), (6, _), (0, _), (2, _), (4, _)]) C dX11_seeksPlan_188 (hn _ (by decide)) rfl ?_
                            refine r_iload C dX11_seeksPlan_190 rfl ?_
                            refine r_istore_n (lv' := [(2, _), (5, _), (6, _), (0, _), (4, _)]) C dX11_seeksPlan_192 rfl (hn _ (by decide)) rfl ?_
                            refine r_goto (tgt := 124) C dX11_seeksPlan_193 (by decide) ?_
                            exact At_lv (by simp) (ih N1 (gAnyA mpsk w (iv S 20 24 0).toNat s).2 _ (by omega) (by decide) hsT hgn)
                      · skip
                        refine r_aload_n C dX11_seeksPlan_141 rfl rfl ?_
                        refine r_iload C dX11_seeksPlan_142 rfl ?_
                        refine r_iload_n C dX11_seeksPlan_144 rfl rfl ?_
                        refine r_callV (as := [_, _]) (na := 2) (rest := []) C mid_20 (hp_20 _) rfl (M_seeksClause (gAnyA mpsk w j s).2 j w (by omega) (by omega) (by rw [hF.a (q := 25) (by decide)]; exact hRK.2.1 _ (by omega)) hRj hM) gX11_seeksPlan_X11_seeksClause (by decide +kernel) (by decide) (by decide) rfl (Nat.le_of_ble_eq_true rfl) rfl dX11_seeksPlan_145 rfl (fun v1 S1 hp1 => ?_)
                        obtain ⟨rfl, e9⟩ := hp1
                        subst S1
                        refine r_iinc (lv' := [(6, _), (0, _), (2, _), (4, _)]) C dX11_seeksPlan_148 rfl (hn _ (by decide)) rfl ?_
                        refine r_goto (tgt := 132) C dX11_seeksPlan_151 (by decide) ?_
                        exact At_lv (by simp) (ih3 (j + 1) (by omega) (by omega))
                  exact At_lv (by simp) (loop132 8 0 (by omega) (by omega))
            have hGS : gSome mpsk (fun s => ((nthF (mplP s) (iv S 20 24 0).toNat (iv S 20 23 0) 41 0 : Nat) : Int)) (iv S 20 24 0).toNat 40 d S = mpG d S := by unfold mpG mgrp; rw [if_neg (by omega), if_neg hk1]
            exact At_lv (by simp) (loop124 41 d S 1 (by omega) (Or.inr rfl) hs0 (Or.inl ⟨rfl, hd, 40, rfl, by omega, hGS⟩))
        refine r_aload_n C dX11_seeksPlan_103 rfl rfl ?_
        refine r_getf C mid_20 (hp_20 _) rfl 22 (by decide) in_X11_seeksPlan_X11 lk_X11_seeksPlan_169 (Or.inl rfl) rfl dX11_seeksPlan_104 ?_
        have hI104 := hM.i22
        refine r_iconst C dX11_seeksPlan_107 ?_
        refine r_icmp_ne (tgt := 115) C dX11_seeksPlan_108 (by decide) (by omega) (by omega) (fun h108 => ?_) (fun h108 => ?_)
        · skip
          refine r_aload_n C dX11_seeksPlan_115 rfl rfl ?_
          refine r_getf C mid_20 (hp_20 _) rfl 23 (by decide) in_X11_seeksPlan_X11 lk_X11_seeksPlan_172 (Or.inl rfl) rfl dX11_seeksPlan_116 ?_
          have hI116 := hM.i23
          generalize hND : (if (iv S 20 22 0) = 1 then 1 else (iv S 20 23 0)) = ND
          refine At_val (v' := vi (if (iv S 20 22 0) = 1 then 1 else (iv S 20 23 0))) (congrArg vi (by first | rw [if_pos (by omega)] | rw [if_neg (by omega)])) ?_
          exact At_lv (by simp) cut119
        · skip
          refine r_iconst C dX11_seeksPlan_111 ?_
          refine r_goto (tgt := 119) C dX11_seeksPlan_112 (by decide) ?_
          generalize hND : (if (iv S 20 22 0) = 1 then 1 else (iv S 20 23 0)) = ND
          refine At_val (v' := vi (if (iv S 20 22 0) = 1 then 1 else (iv S 20 23 0))) (congrArg vi (by first | rw [if_pos (by omega)] | rw [if_neg (by omega)])) ?_
          exact At_lv (by simp) cut119
      · skip
        have hGA : gAll mpsk (iv S 20 24 0).toNat 1000 d 0 S = mpG d S := by unfold mpG mgrp; rw [if_pos (by omega)]
        have loop53 : ∀ (f w k : Nat) (s : ST) (hk : (40 - w) * 7 + (7 - k) < f) (hw : w ≤ 40) (hkn : k ≤ (iv S 20 24 0).toNat) (hs : PIn S s) (hg : ((w < 40 ∧ gAll mpsk (iv S 20 24 0).toNat f w k s = mpG d S) ∨ (w = 40 ∧ (40, s) = mpG d S))), At X 0 0 53 [(0, vr (some (20, 0))), (2, vi (w : Int)), (3, vi (k : Int))] [] s := by
          intro kf
          induction kf with
          | zero => intro w k s hk hw hkn hs hg; exact absurd hk (by omega)
          | succ kf ih =>
            intro w k s hk hw hkn hs hg
            obtain ⟨⟨hM, hF⟩, hRj⟩ := id hs
            refine r_iload_n C dX11_seeksPlan_53 rfl rfl ?_
            refine r_aload_n C dX11_seeksPlan_54 rfl rfl ?_
            refine r_getf C mid_20 (hp_20 _) rfl 24 (by decide) in_X11_seeksPlan_X11 lk_X11_seeksPlan_175 (Or.inl rfl) rfl dX11_seeksPlan_55 ?_
            have hI55 := hM.i24
            refine At_val (v' := vi (iv S 20 24 0)) (congrArg vi (hF.i (q := 24) (by decide))) ?_
            refine r_icmp_ge (tgt := 101) C dX11_seeksPlan_58 (by decide) (by omega) (by omega) (fun h58 => ?_) (fun h58 => ?_)
            · skip
              have hG : (w, s) = mpG d S := hg.elim (fun q => by rw [← q.2, gAll_out (by omega)]) (fun q => by rw [← q.2, q.1])
              refine r_iload_n C dX11_seeksPlan_101 rfl rfl ?_
              exact r_iret C Rr (⟨by rw [hmp, ← hG], by rw [hmp, ← hG]⟩) dX11_seeksPlan_102
            · skip
              refine r_iload_n C dX11_seeksPlan_61 rfl rfl ?_
              refine r_bipush C dX11_seeksPlan_62 (by decide) ?_
              refine r_icmp_ge (tgt := 101) C dX11_seeksPlan_64 (by decide) (by omega) (by omega) (fun h64 => ?_) (fun h64 => ?_)
              · skip
                have hG : (w, s) = mpG d S := hg.elim (fun q => absurd q.1 (by omega)) (fun q => by rw [← q.2, q.1])
                refine r_iload_n C dX11_seeksPlan_101 rfl rfl ?_
                exact r_iret C Rr (⟨by rw [hmp, ← hG], by rw [hmp, ← hG]⟩) dX11_seeksPlan_102
              · skip
                refine r_aload_n C dX11_seeksPlan_67 rfl rfl ?_
                refine r_iload_n C dX11_seeksPlan_68 rfl rfl ?_
                refine r_iload_n C dX11_seeksPlan_69 rfl rfl ?_
                refine r_callV (as := [_, _]) (na := 2) (rest := []) C mid_20 (hp_20 _) rfl (M_seeksClause s k w (by omega) (by omega) (by rw [hF.a (q := 25) (by decide)]; exact hRK.2.1 _ (by omega)) hRj hM) gX11_seeksPlan_X11_seeksClause (by decide +kernel) (by decide) (by decide) rfl (Nat.le_of_ble_eq_true rfl) rfl dX11_seeksPlan_70 rfl (fun v1 S1 hp1 => ?_)
                obtain ⟨rfl, e9⟩ := hp1
                subst S1
                obtain ⟨hr1, hr2, hr3, hr4⟩ := mpsk_ok (j := k) (w := w) (by omega) (by omega) hs
                change At X _ _ _ _ _ (mpsk k w s).2
                generalize hrr : mpsk k w s = r at hr1 hr2 hr3 hr4 ⊢
                replace hM := hr1.1.1
                refine r_aload_n C dX11_seeksPlan_73 rfl rfl ?_
                refine r_getf C mid_20 (hp_20 _) rfl 30 (by decide) in_X11_seeksPlan_X11 lk_X11_seeksPlan_71 (Or.inl rfl) rfl dX11_seeksPlan_74 ?_
                refine r_iload_n C dX11_seeksPlan_77 rfl rfl ?_
                refine r_iald (j := k) C mid_21_30 (hp_21_30 _) rfl (by omega) (by omega) (by decide) dX11_seeksPlan_78 ?_
                refine mr hM.a30 (fun hA78 => ?_)
                refine At_val (v' := vi ((r.1 : Nat) : Int)) (congrArg vi hr4) ?_
                refine r_istore (lv' := [(4, _), (0, _), (2, _), (3, _)]) C dX11_seeksPlan_79 (hn _ (by decide)) rfl ?_
                refine r_iload C dX11_seeksPlan_81 rfl ?_
                refine r_iload_n C dX11_seeksPlan_83 rfl rfl ?_
                refine r_icmp_le (tgt := 91) C dX11_seeksPlan_84 (by decide) (by omega) (by omega) (fun h84 => ?_) (fun h84 => ?_)
                · skip
                  have hb : ((r.1 < 40 ∧ gAll mpsk (iv S 20 24 0).toNat kf r.1 (k + 1) r.2 = mpG d S) ∨ (r.1 = 40 ∧ (40, r.2) = mpG d S)) := Or.inl ⟨by omega, by rw [← gAll_eq (by omega) hrr (by omega) (by omega)]; exact hg.elim (fun q => q.2) (fun q => absurd q.1 (by omega))⟩
                  refine r_iload_n C dX11_seeksPlan_91 rfl rfl ?_
                  refine r_iconst C dX11_seeksPlan_92 ?_
                  refine r_iadd C dX11_seeksPlan_93 ?_
                  refine r_istore_n (lv' := [(3, _), (4, _), (0, _), (2, _)]) C dX11_seeksPlan_94 rfl (hn _ (by decide)) rfl ?_
                  refine r_iload C dX11_seeksPlan_95 rfl ?_
                  refine r_istore_n (lv' := [(2, _), (3, _), (4, _), (0, _)]) C dX11_seeksPlan_97 rfl (hn _ (by decide)) rfl ?_
                  refine r_goto (tgt := 53) C dX11_seeksPlan_98 (by decide) ?_
                  first | exact At_lv (by simp) (ih r.1 (k + 1) r.2 (by omega) (by omega) (by omega) hr1 hb) | exact At_lv (by simp) (ih r.1 0 r.2 (by omega) (by omega) (by omega) hr1 hb)
                · skip
                  have hg1 : gAll mpsk (iv S 20 24 0).toNat (kf + 1) w k s = mpG d S := hg.elim (fun q => q.2) (fun q => absurd q.1 (by omega))
                  have hb : ((r.1 < 40 ∧ gAll mpsk (iv S 20 24 0).toNat kf r.1 0 r.2 = mpG d S) ∨ (r.1 = 40 ∧ (40, r.2) = mpG d S)) := (Nat.lt_or_ge r.1 40).elim (fun q => Or.inl ⟨q, (gAll_up (sk := mpsk) (n := (iv S 20 24 0).toNat) (f := kf) (k := k) (w := w) (s := s) (by omega) hrr (by omega) q).symm.trans hg1⟩) (fun q => Or.inr ⟨by omega, (gAll_end (sk := mpsk) (n := (iv S 20 24 0).toNat) (f := kf) (k := k) (w := w) (s := s) (by omega) hrr q).symm.trans hg1⟩)
                  refine r_iconst C dX11_seeksPlan_87 ?_
                  refine r_goto (tgt := 94) C dX11_seeksPlan_88 (by decide) ?_
                  refine r_istore_n (lv' := [(3, _), (4, _), (0, _), (2, _)]) C dX11_seeksPlan_94 rfl (hn _ (by decide)) rfl ?_
                  refine r_iload C dX11_seeksPlan_95 rfl ?_
                  refine r_istore_n (lv' := [(2, _), (3, _), (4, _), (0, _)]) C dX11_seeksPlan_97 rfl (hn _ (by decide)) rfl ?_
                  refine r_goto (tgt := 53) C dX11_seeksPlan_98 (by decide) ?_
                  first | exact At_lv (by simp) (ih r.1 (k + 1) r.2 (by omega) (by omega) (by omega) hr1 hb) | exact At_lv (by simp) (ih r.1 0 r.2 (by omega) (by omega) (by omega) hr1 hb)
        exact At_lv (by simp) (loop53 1000 d 0 S (by omega) (by omega) (by omega) hs0 (Or.inl ⟨hd, hGA⟩))
    · skip
      have loop21 : ∀ (f p : Nat) (hk : 41 - p < f) (hp : p ≤ 40) (hq : fo (mth S) (40 - d) d = fo (mth S) (40 - p) p), At X 0 0 21 [(0, vr (some (20, 0))), (2, vi (p : Int))] [] S := by
        intro kf
        induction kf with
        | zero => intro p hk hp hq; exact absurd hk (by omega)
        | succ kf ih =>
          intro p hk hp hq
          refine r_iload_n C dX11_seeksPlan_21 rfl rfl ?_
          refine r_bipush C dX11_seeksPlan_22 (by decide) ?_
          refine r_icmp_ge (tgt := 42) C dX11_seeksPlan_24 (by decide) (by omega) (by omega) (fun h24 => ?_) (fun h24 => ?_)
          · skip
            have hqe : fo (mth S) (40 - d) d = p := by rw [hq, show p = 40 by omega]; rfl
            refine r_iload_n C dX11_seeksPlan_42 rfl rfl ?_
            exact r_iret C Rr (⟨by unfold mplSk; rw [if_neg (by omega), if_pos (by omega)]; show _ = some (vi ((fo (mth S) (40 - d) d : Nat) : Int)); rw [hqe], by unfold mplSk; rw [if_neg (by omega), if_pos (by omega)]⟩) dX11_seeksPlan_43
          · skip
            refine r_aload_n C dX11_seeksPlan_27 rfl rfl ?_
            refine r_getf C mid_20 (hp_20 _) rfl 20 (by decide) in_X11_seeksPlan_X11 lk_X11_seeksPlan_50 (Or.inl rfl) rfl dX11_seeksPlan_28 ?_
            refine r_iload_n C dX11_seeksPlan_31 rfl rfl ?_
            refine r_bald (j := _) C mid_21_20 (hp_21_20 _) rfl (rfl) (by omega) (by decide) dX11_seeksPlan_32 ?_
            refine mr hM.a20 (fun hA32 => ?_)
            refine r_if_ne (tgt := 42) C dX11_seeksPlan_33 (by decide) (by omega) (fun h33 => ?_) (fun h33 => ?_)
            · skip
              have hqe : fo (mth S) (40 - d) d = p := by rw [hq, fo_step _ (by omega), if_pos (show mth S p = true from decide_eq_true (show ai S 21 20 p = 1 by omega))]
              refine r_iload_n C dX11_seeksPlan_42 rfl rfl ?_
              exact r_iret C Rr (⟨by unfold mplSk; rw [if_neg (by omega), if_pos (by omega)]; show _ = some (vi ((fo (mth S) (40 - d) d : Nat) : Int)); rw [hqe], by unfold mplSk; rw [if_neg (by omega), if_pos (by omega)]⟩) dX11_seeksPlan_43
            · skip
              refine r_iinc (lv' := [(2, _), (0, _)]) C dX11_seeksPlan_36 rfl (hn _ (by decide)) rfl ?_
              refine r_goto (tgt := 21) C dX11_seeksPlan_39 (by decide) ?_
              exact At_lv (by simp) (ih (p + 1) (by omega) (by omega) (hq.trans (by rw [fo_step _ (by omega), if_neg (by rw [show mth S p = false from decide_eq_false (show ¬ ai S 21 20 p = 1 by omega)]; decide)])))
      exact At_lv (by simp) (loop21 42 d (by omega) (by omega) rfl)
  · skip
    refine r_bipush C dX11_seeksPlan_10 (by decide) ?_
    exact r_iret C Rr (⟨by unfold mplSk; rw [if_pos (by omega)]; rfl, by unfold mplSk; rw [if_pos (by omega)]⟩) dX11_seeksPlan_12
set_option maxHeartbeats 4000000 in
set_option maxRecDepth 100000 in
theorem M_leaps (S : ST) (d : Int) (hd : 0 ≤ d ∧ d < 40) (hRK : RK S) (hM : MI S) : Ct yX11_leaps wsX11_leaps 4 [vr (some (20, 0)), vi d] S (fun v1 S1 => v1 = some (vi (mlpF d S).1) ∧ S1 = (mlpF d S).2) := by
  refine Ct.of (nL := 4) (by decide) rfl (Nat.le_of_ble_eq_true rfl) (by decide) (fun X C Rr hnL => ?_)
  have hn : ∀ i, i < 4 → i < X.2.2.2.2.2 := fun i h => by rw [hnL]; exact h
  have q31 := hM.i31
  have q32 := hM.i32
  obtain ⟨⟨hrM, hrF⟩, hr40⟩ := mlpR_ok (d := d) hM hRK
  have cut18 : At X 0 0 18 [(0, vr (some (20, 0))), (1, vi d)] [vi (((mlpW d S) : Nat) : Int)] S := by
    skip
    have hW40 : (mlpW d S) ≤ 40 := by unfold mlpW; split <;> omega
    refine r_istore_n (lv' := [(2, _), (0, _), (1, _)]) C dX11_leaps_18 rfl (hn _ (by decide)) rfl ?_
    have cut42 : At X 0 0 42 [(0, vr (some (20, 0))), (2, vi (((mlpW d S) : Nat) : Int))] [vi (((mlpR d S).1 : Nat) : Int)] (mlpR d S).2 := by
      skip
      replace hM := hrM
      have r31 := hrM.i31
      refine r_istore_n (lv' := [(3, _), (0, _), (2, _)]) C dX11_leaps_42 rfl (hn _ (by decide)) rfl ?_
      refine r_aload_n C dX11_leaps_43 rfl rfl ?_
      refine r_iload_n C dX11_leaps_44 rfl rfl ?_
      refine r_bipush C dX11_leaps_45 (by decide) ?_
      refine r_icmp_ne (tgt := 54) C dX11_leaps_47 (by decide) (by omega) (by omega) (fun h47 => ?_) (fun h47 => ?_)
      · skip
        refine r_iconst C dX11_leaps_54 ?_
        refine r_putf  C mid_20 (hp_20 _) rfl 32 (by decide) in_X11_leaps_X11 lk_X11_leaps_181 (Or.inl rfl) tyX11 tyX11_ok nmX11 rfl (tyX11_ok 32 (by decide)) (fun _ => rfl) (fun _ => rfl) (Nat.le_of_ble_eq_true rfl) (hs_20_32 _ _) dX11_leaps_55 ?_
        refine mw (hM.pi32 (by omega)) (fun hM => ?_)
        refine r_aload_n C dX11_leaps_58 rfl rfl ?_
        refine r_aload_n C dX11_leaps_59 rfl rfl ?_
        refine r_getf C mid_20 (hp_20 _) rfl 32 (by decide) in_X11_leaps_X11 lk_X11_leaps_181 (Or.inl rfl) rfl dX11_leaps_60 ?_
        have hI60 := hM.i32
        refine At_val (v' := vi 0) (rfl) ?_
        refine r_if_eq (tgt := 73) C dX11_leaps_63 (by decide) (by omega) (fun h63 => ?_) (fun h63 => ?_)
        · skip
          refine r_iload_n C dX11_leaps_73 rfl rfl ?_
          refine r_putf  C mid_20 (hp_20 _) rfl 31 (by decide) in_X11_leaps_X11 lk_X11_leaps_178 (Or.inl rfl) tyX11 tyX11_ok nmX11 rfl (tyX11_ok 31 (by decide)) (fun _ => rfl) (fun _ => rfl) (Nat.le_of_ble_eq_true rfl) (hs_20_31 _ _) dX11_leaps_74 ?_
          refine mw (hM.pi31 (by omega)) (fun hM => ?_)
          refine r_aload_n C dX11_leaps_77 rfl rfl ?_
          refine r_getf C mid_20 (hp_20 _) rfl 32 (by decide) in_X11_leaps_X11 lk_X11_leaps_181 (Or.inl rfl) rfl dX11_leaps_78 ?_
          have hI78 := hM.i32
          refine At_val (v' := vi 0) (rfl) ?_
          refine r_if_eq (tgt := 88) C dX11_leaps_81 (by decide) (by omega) (fun h81 => ?_) (fun h81 => ?_)
          · skip
            refine r_iload_n C dX11_leaps_88 rfl rfl ?_
            exact r_iret C Rr (⟨by unfold mlpF; rw [if_neg (by omega)], by unfold mlpF; rw [if_neg (by omega)]⟩) dX11_leaps_89
          · exact absurd rfl h81
        · exact absurd rfl h63
      · skip
        refine r_iconst C dX11_leaps_50 ?_
        refine r_goto (tgt := 55) C dX11_leaps_51 (by decide) ?_
        refine r_putf  C mid_20 (hp_20 _) rfl 32 (by decide) in_X11_leaps_X11 lk_X11_leaps_181 (Or.inl rfl) tyX11 tyX11_ok nmX11 rfl (tyX11_ok 32 (by decide)) (fun _ => rfl) (fun _ => rfl) (Nat.le_of_ble_eq_true rfl) (hs_20_32 _ _) dX11_leaps_55 ?_
        refine mw (hM.pi32 (by omega)) (fun hM => ?_)
        refine r_aload_n C dX11_leaps_58 rfl rfl ?_
        refine r_aload_n C dX11_leaps_59 rfl rfl ?_
        refine r_getf C mid_20 (hp_20 _) rfl 32 (by decide) in_X11_leaps_X11 lk_X11_leaps_181 (Or.inl rfl) rfl dX11_leaps_60 ?_
        have hI60 := hM.i32
        refine At_val (v' := vi 1) (rfl) ?_
        refine r_if_eq (tgt := 73) C dX11_leaps_63 (by decide) (by omega) (fun h63 => ?_) (fun h63 => ?_)
        · exact absurd h63 (by decide)
        refine r_aload_n C dX11_leaps_66 rfl rfl ?_
        refine r_getf C mid_20 (hp_20 _) rfl 31 (by decide) in_X11_leaps_X11 lk_X11_leaps_178 (Or.inl rfl) rfl dX11_leaps_67 ?_
        have hI67 := hM.i31
        refine At_val (v' := vi (iv (mlpR d S).2 20 31 0)) (rfl) ?_
        refine r_goto (tgt := 74) C dX11_leaps_70 (by decide) ?_
        refine r_putf  C mid_20 (hp_20 _) rfl 31 (by decide) in_X11_leaps_X11 lk_X11_leaps_178 (Or.inl rfl) tyX11 tyX11_ok nmX11 rfl (tyX11_ok 31 (by decide)) (fun _ => rfl) (fun _ => rfl) (Nat.le_of_ble_eq_true rfl) (hs_20_31 _ _) dX11_leaps_74 ?_
        refine mw (hM.pi31 (by omega)) (fun hM => ?_)
        refine r_aload_n C dX11_leaps_77 rfl rfl ?_
        refine r_getf C mid_20 (hp_20 _) rfl 32 (by decide) in_X11_leaps_X11 lk_X11_leaps_181 (Or.inl rfl) rfl dX11_leaps_78 ?_
        have hI78 := hM.i32
        refine At_val (v' := vi 1) (rfl) ?_
        refine r_if_eq (tgt := 88) C dX11_leaps_81 (by decide) (by omega) (fun h81 => ?_) (fun h81 => ?_)
        · exact absurd h81 (by decide)
        refine r_iconst C dX11_leaps_84 ?_
        refine r_goto (tgt := 89) C dX11_leaps_85 (by decide) ?_
        exact r_iret C Rr (⟨by unfold mlpF; rw [if_pos (by omega)], by unfold mlpF; rw [if_pos (by omega)]⟩) dX11_leaps_89
    refine r_aload_n C dX11_leaps_19 rfl rfl ?_
    refine r_getf C mid_20 (hp_20 _) rfl 32 (by decide) in_X11_leaps_X11 lk_X11_leaps_181 (Or.inl rfl) rfl dX11_leaps_20 ?_
    have hI20 := hM.i32
    refine r_if_ne (tgt := 32) C dX11_leaps_23 (by decide) (by omega) (fun h23 => ?_) (fun h23 => ?_)
    · skip
      refine r_bipush C dX11_leaps_32 (by decide) ?_
      refine r_goto (tgt := 42) C dX11_leaps_34 (by decide) ?_
      replace hM := hrM
      have r31 := hrM.i31
      first | (refine At_val (v' := vi (((mlpR d S).1 : Nat) : Int)) (congrArg vi (by rw [show (mlpR d S) = (40, S) from if_pos (by omega)]; rfl)) ?_; exact At_st (by rw [show (mlpR d S) = (40, S) from if_pos (by omega)]) (At_lv (by simp) cut42)) | (refine At_val (v' := vi (((mlpR d S).1 : Nat) : Int)) (congrArg vi (by rw [show (mlpR d S) = mplSk (mlpW d S) S from if_neg (by omega)])) ?_; exact At_st (by rw [show (mlpR d S) = mplSk (mlpW d S) S from if_neg (by omega)]) (At_lv (by simp) cut42))
    · skip
      refine r_iload_n C dX11_leaps_26 rfl rfl ?_
      refine r_bipush C dX11_leaps_27 (by decide) ?_
      refine r_icmp_lt (tgt := 37) C dX11_leaps_29 (by decide) (by omega) (by omega) (fun h29 => ?_) (fun h29 => ?_)
      · skip
        refine r_aload_n C dX11_leaps_37 rfl rfl ?_
        refine r_iload_n C dX11_leaps_38 rfl rfl ?_
        refine r_callV (as := [_]) (na := 1) (rest := []) C mid_20 (hp_20 _) rfl (M_seeksPlan S (mlpW d S) (by omega) hRK hM) gX11_leaps_X11_seeksPlan (by decide +kernel) (by decide) (by decide) rfl (Nat.le_of_ble_eq_true rfl) rfl dX11_leaps_39 rfl (fun v1 S1 hp1 => ?_)
        obtain ⟨rfl, e9⟩ := hp1
        subst S1
        replace hM := hrM
        have r31 := hrM.i31
        first | (refine At_val (v' := vi (((mlpR d S).1 : Nat) : Int)) (congrArg vi (by rw [show (mlpR d S) = (40, S) from if_pos (by omega)]; rfl)) ?_; exact At_st (by rw [show (mlpR d S) = (40, S) from if_pos (by omega)]) (At_lv (by simp) cut42)) | (refine At_val (v' := vi (((mlpR d S).1 : Nat) : Int)) (congrArg vi (by rw [show (mlpR d S) = mplSk (mlpW d S) S from if_neg (by omega)])) ?_; exact At_st (by rw [show (mlpR d S) = mplSk (mlpW d S) S from if_neg (by omega)]) (At_lv (by simp) cut42))
      · skip
        refine r_bipush C dX11_leaps_32 (by decide) ?_
        refine r_goto (tgt := 42) C dX11_leaps_34 (by decide) ?_
        replace hM := hrM
        have r31 := hrM.i31
        first | (refine At_val (v' := vi (((mlpR d S).1 : Nat) : Int)) (congrArg vi (by rw [show (mlpR d S) = (40, S) from if_pos (by omega)]; rfl)) ?_; exact At_st (by rw [show (mlpR d S) = (40, S) from if_pos (by omega)]) (At_lv (by simp) cut42)) | (refine At_val (v' := vi (((mlpR d S).1 : Nat) : Int)) (congrArg vi (by rw [show (mlpR d S) = mplSk (mlpW d S) S from if_neg (by omega)])) ?_; exact At_st (by rw [show (mlpR d S) = mplSk (mlpW d S) S from if_neg (by omega)]) (At_lv (by simp) cut42))
  refine r_iload_n C dX11_leaps_0 rfl rfl ?_
  refine r_aload_n C dX11_leaps_1 rfl rfl ?_
  refine r_getf C mid_20 (hp_20 _) rfl 31 (by decide) in_X11_leaps_X11 lk_X11_leaps_178 (Or.inl rfl) rfl dX11_leaps_2 ?_
  have hI2 := hM.i31
  refine r_icmp_le (tgt := 12) C dX11_leaps_5 (by decide) (by omega) (by omega) (fun h5 => ?_) (fun h5 => ?_)
  · skip
    refine r_aload_n C dX11_leaps_12 rfl rfl ?_
    refine r_getf C mid_20 (hp_20 _) rfl 31 (by decide) in_X11_leaps_X11 lk_X11_leaps_178 (Or.inl rfl) rfl dX11_leaps_13 ?_
    have hI13 := hM.i31
    refine r_iconst C dX11_leaps_16 ?_
    refine r_iadd C dX11_leaps_17 ?_
    have hW40 : (mlpW d S) ≤ 40 := by unfold mlpW; split <;> omega
    refine At_val (v' := vi (((mlpW d S) : Nat) : Int)) (congrArg vi (by unfold mlpW; first | (rw [if_pos (by omega)]; omega) | (rw [if_neg (by omega)]; omega))) ?_
    exact cut18
  · skip
    refine r_iload_n C dX11_leaps_8 rfl rfl ?_
    refine r_goto (tgt := 18) C dX11_leaps_9 (by decide) ?_
    have hW40 : (mlpW d S) ≤ 40 := by unfold mlpW; split <;> omega
    refine At_val (v' := vi (((mlpW d S) : Nat) : Int)) (congrArg vi (by unfold mlpW; first | (rw [if_pos (by omega)]; omega) | (rw [if_neg (by omega)]; omega))) ?_
    exact cut18
set_option maxHeartbeats 4000000 in
set_option maxRecDepth 100000 in
theorem M_leap (S : ST) (d : Int) (hd : -2147483648 ≤ d ∧ d < 2147483648) (hRK : RK S) (hM : MI S) : Ct yX11_leap wsX11_leap 5 [vr (some (20, 0)), vi d] S (fun v1 S1 => (v1 = some (vi (mlpF d (si S 20 34 0 0)).1) ∧ S1 = (mlpF d (si S 20 34 0 0)).2 ∧ (0 ≤ d ∧ d ≤ 39) ∧ iv S 20 19 0 = 1) ∨ (v1 = some (vi 0) ∧ S1 = si S 20 34 0 1 ∧ ¬ (0 ≤ d ∧ d ≤ 39)) ∨ (v1 = some (vi 0) ∧ S1 = si S 20 34 0 2 ∧ (0 ≤ d ∧ d ≤ 39) ∧ ¬ iv S 20 19 0 = 1)) := by
  refine Ct.of (nL := 2) (by decide) rfl (Nat.le_of_ble_eq_true rfl) (by decide) (fun X C Rr hnL => ?_)
  have hn : ∀ i, i < 2 → i < X.2.2.2.2.2 := fun i h => by rw [hnL]; exact h
  have q19 := hM.i19
  refine r_aload_n C dX11_leap_0 rfl rfl ?_
  refine r_iload_n C dX11_leap_1 rfl rfl ?_
  refine r_callS (as := [_]) (na := 1) (rest := [_]) C (M_isDocument S d hd) gX11_leap_X11_isDocument (by decide +kernel) (by decide) (by decide) rfl (Nat.le_of_ble_eq_true rfl) rfl dX11_leap_2 rfl (fun v1 S1 hp1 => ?_)
  obtain ⟨rfl, e9⟩ := hp1
  subst S1
  refine r_aload_n C dX11_leap_5 rfl rfl ?_
  refine r_getf C mid_20 (hp_20 _) rfl 19 (by decide) in_X11_leap_X11 lk_X11_leap_165 (Or.inl rfl) rfl dX11_leap_6 ?_
  have hI6 := hM.i19
  refine At_val (v' := vi (b2i (decide (iv S 20 19 0 = 1)))) (congrArg vi (by first | (rcases (show iv S 20 19 0 = 0 ∨ iv S 20 19 0 = 1 by omega) with q | q; rw [b2i_f (decide_eq_false (by omega)), q]; rw [b2i_t (decide_eq_true q), q]))) ?_
  refine r_iconst C dX11_leap_9 ?_
  rcases tri (0 ≤ d ∧ d ≤ 39) (iv S 20 19 0 = 1) with ⟨ha, hb⟩ | ha | ⟨ha, hb⟩
  · skip
    refine r_callV (as := [_, _, _]) (na := 3) (rest := []) C mid_20 (hp_20 _) rfl (M_goes S (decide (0 ≤ d ∧ d ≤ 39)) (decide (iv S 20 19 0 = 1)) true hM) gX11_leap_X11_goes (by decide +kernel) (by decide) (by decide) rfl (Nat.le_of_ble_eq_true rfl) rfl dX11_leap_10 rfl (fun v1 S1 hp1 => ?_)
    obtain ⟨rfl, e9⟩ := hp1
    subst S1
    rw [decide_eq_true ha, decide_eq_true hb]
    change At X _ _ _ _ (vi 1 :: _) (si S 20 34 0 0)
    replace hM := hM.pi34 (v := 0)
    refine r_if_eq (tgt := 24) C dX11_leap_13 (by decide) (by omega) (fun h13 => ?_) (fun h13 => ?_)
    · exact absurd h13 (by decide)
    refine r_aload_n C dX11_leap_16 rfl rfl ?_
    refine r_iload_n C dX11_leap_17 rfl rfl ?_
    refine r_callV (as := [_]) (na := 1) (rest := []) C mid_20 (hp_20 _) rfl (M_leaps (si S 20 34 0 0) d (by omega) hRK hM) gX11_leap_X11_leaps (by decide +kernel) (by decide) (by decide) rfl (Nat.le_of_ble_eq_true rfl) rfl dX11_leap_18 rfl (fun v1 S1 hp1 => ?_)
    obtain ⟨rfl, e9⟩ := hp1
    subst S1
    refine r_goto (tgt := 25) C dX11_leap_21 (by decide) ?_
    exact r_iret C Rr (Or.inl ⟨rfl, rfl, ha, hb⟩) dX11_leap_25
  · skip
    refine r_callV (as := [_, _, _]) (na := 3) (rest := []) C mid_20 (hp_20 _) rfl (M_goes S (decide (0 ≤ d ∧ d ≤ 39)) (decide (iv S 20 19 0 = 1)) true hM) gX11_leap_X11_goes (by decide +kernel) (by decide) (by decide) rfl (Nat.le_of_ble_eq_true rfl) rfl dX11_leap_10 rfl (fun v1 S1 hp1 => ?_)
    obtain ⟨rfl, e9⟩ := hp1
    subst S1
    rw [decide_eq_false ha]
    change At X _ _ _ _ (vi 0 :: _) (si S 20 34 0 1)
    replace hM := hM.pi34 (v := 1)
    refine r_if_eq (tgt := 24) C dX11_leap_13 (by decide) (by omega) (fun h13 => ?_) (fun h13 => ?_)
    · skip
      refine r_iconst C dX11_leap_24 ?_
      exact r_iret C Rr (Or.inr (Or.inl ⟨rfl, rfl, ha⟩)) dX11_leap_25
    · exact absurd rfl h13
  · skip
    refine r_callV (as := [_, _, _]) (na := 3) (rest := []) C mid_20 (hp_20 _) rfl (M_goes S (decide (0 ≤ d ∧ d ≤ 39)) (decide (iv S 20 19 0 = 1)) true hM) gX11_leap_X11_goes (by decide +kernel) (by decide) (by decide) rfl (Nat.le_of_ble_eq_true rfl) rfl dX11_leap_10 rfl (fun v1 S1 hp1 => ?_)
    obtain ⟨rfl, e9⟩ := hp1
    subst S1
    rw [decide_eq_true ha, decide_eq_false hb]
    change At X _ _ _ _ (vi 0 :: _) (si S 20 34 0 2)
    replace hM := hM.pi34 (v := 2)
    refine r_if_eq (tgt := 24) C dX11_leap_13 (by decide) (by omega) (fun h13 => ?_) (fun h13 => ?_)
    · skip
      refine r_iconst C dX11_leap_24 ?_
      exact r_iret C Rr (Or.inr (Or.inr ⟨rfl, rfl, ha, hb⟩)) dX11_leap_25
    · exact absurd rfl h13
set_option maxHeartbeats 4000000 in
set_option maxRecDepth 100000 in
theorem M_next (S : ST) (hRK : RK S) (hM : MI S) : Ct yX11_next wsX11_next 5 [vr (some (20, 0))] S (fun v1 S1 => (v1 = some (vi (mlpF 0 (si S 20 34 0 0)).1) ∧ S1 = (mlpF 0 (si S 20 34 0 0)).2 ∧ iv S 20 19 0 = 1) ∨ (v1 = some (vi 0) ∧ S1 = si S 20 34 0 1 ∧ ¬ iv S 20 19 0 = 1)) := by
  refine Ct.of (nL := 1) (by decide) rfl (Nat.le_of_ble_eq_true rfl) (by decide) (fun X C Rr hnL => ?_)
  have hn : ∀ i, i < 1 → i < X.2.2.2.2.2 := fun i h => by rw [hnL]; exact h
  have q19 := hM.i19
  refine r_aload_n C dX11_next_0 rfl rfl ?_
  refine r_aload_n C dX11_next_1 rfl rfl ?_
  refine r_getf C mid_20 (hp_20 _) rfl 19 (by decide) in_X11_next_X11 lk_X11_next_165 (Or.inl rfl) rfl dX11_next_2 ?_
  have hI2 := hM.i19
  refine At_val (v' := vi (b2i (decide (iv S 20 19 0 = 1)))) (congrArg vi (by first | (rcases (show iv S 20 19 0 = 0 ∨ iv S 20 19 0 = 1 by omega) with q | q; rw [b2i_f (decide_eq_false (by omega)), q]; rw [b2i_t (decide_eq_true q), q]))) ?_
  refine r_iconst C dX11_next_5 ?_
  refine r_iconst C dX11_next_6 ?_
  by_cases ha : iv S 20 19 0 = 1
  · skip
    refine r_callV (as := [_, _, _]) (na := 3) (rest := []) C mid_20 (hp_20 _) rfl (M_goes S (decide (iv S 20 19 0 = 1)) true true hM) gX11_next_X11_goes (by decide +kernel) (by decide) (by decide) rfl (Nat.le_of_ble_eq_true rfl) rfl dX11_next_7 rfl (fun v1 S1 hp1 => ?_)
    obtain ⟨rfl, e9⟩ := hp1
    subst S1
    rw [decide_eq_true ha]
    change At X _ _ _ _ (vi 1 :: _) (si S 20 34 0 0)
    replace hM := hM.pi34 (v := 0)
    refine r_if_eq (tgt := 21) C dX11_next_10 (by decide) (by omega) (fun h10 => ?_) (fun h10 => ?_)
    · exact absurd h10 (by decide)
    refine r_aload_n C dX11_next_13 rfl rfl ?_
    refine r_iconst C dX11_next_14 ?_
    refine r_callV (as := [_]) (na := 1) (rest := []) C mid_20 (hp_20 _) rfl (M_leaps (si S 20 34 0 0) 0 (by decide) hRK hM) gX11_next_X11_leaps (by decide +kernel) (by decide) (by decide) rfl (Nat.le_of_ble_eq_true rfl) rfl dX11_next_15 rfl (fun v1 S1 hp1 => ?_)
    obtain ⟨rfl, e9⟩ := hp1
    subst S1
    refine r_goto (tgt := 22) C dX11_next_18 (by decide) ?_
    exact r_iret C Rr (Or.inl ⟨rfl, rfl, ha⟩) dX11_next_22
  · skip
    refine r_callV (as := [_, _, _]) (na := 3) (rest := []) C mid_20 (hp_20 _) rfl (M_goes S (decide (iv S 20 19 0 = 1)) true true hM) gX11_next_X11_goes (by decide +kernel) (by decide) (by decide) rfl (Nat.le_of_ble_eq_true rfl) rfl dX11_next_7 rfl (fun v1 S1 hp1 => ?_)
    obtain ⟨rfl, e9⟩ := hp1
    subst S1
    rw [decide_eq_false ha]
    change At X _ _ _ _ (vi 0 :: _) (si S 20 34 0 1)
    replace hM := hM.pi34 (v := 1)
    refine r_if_eq (tgt := 21) C dX11_next_10 (by decide) (by omega) (fun h10 => ?_) (fun h10 => ?_)
    · skip
      refine r_iconst C dX11_next_21 ?_
      exact r_iret C Rr (Or.inr ⟨rfl, rfl, ha⟩) dX11_next_22
    · exact absurd rfl h10
set_option maxHeartbeats 4000000 in
set_option maxRecDepth 100000 in
theorem M_readings (S : ST)  (hM : MI S) : Ct yX11_readings wsX11_readings 2 [vr (some (20, 0))] S (fun v1 S1 => (v1 = some (vi (iv S 20 33 0)) ∧ S1 = si S 20 34 0 0 ∧ iv S 20 19 0 = 1) ∨ (v1 = some (vi 0) ∧ S1 = si S 20 34 0 1 ∧ ¬ iv S 20 19 0 = 1)) := by
  refine Ct.of (nL := 1) (by decide) rfl (Nat.le_of_ble_eq_true rfl) (by decide) (fun X C Rr hnL => ?_)
  have hn : ∀ i, i < 1 → i < X.2.2.2.2.2 := fun i h => by rw [hnL]; exact h
  have q19 := hM.i19
  refine r_aload_n C dX11_readings_0 rfl rfl ?_
  refine r_aload_n C dX11_readings_1 rfl rfl ?_
  refine r_getf C mid_20 (hp_20 _) rfl 19 (by decide) in_X11_readings_X11 lk_X11_readings_165 (Or.inl rfl) rfl dX11_readings_2 ?_
  have hI2 := hM.i19
  refine At_val (v' := vi (b2i (decide (iv S 20 19 0 = 1)))) (congrArg vi (by first | (rcases (show iv S 20 19 0 = 0 ∨ iv S 20 19 0 = 1 by omega) with q | q; rw [b2i_f (decide_eq_false (by omega)), q]; rw [b2i_t (decide_eq_true q), q]))) ?_
  refine r_iconst C dX11_readings_5 ?_
  refine r_iconst C dX11_readings_6 ?_
  by_cases ha : iv S 20 19 0 = 1
  · skip
    refine r_callV (as := [_, _, _]) (na := 3) (rest := []) C mid_20 (hp_20 _) rfl (M_goes S (decide (iv S 20 19 0 = 1)) true true hM) gX11_readings_X11_goes (by decide +kernel) (by decide) (by decide) rfl (Nat.le_of_ble_eq_true rfl) rfl dX11_readings_7 rfl (fun v1 S1 hp1 => ?_)
    obtain ⟨rfl, e9⟩ := hp1
    subst S1
    rw [decide_eq_true ha]
    change At X _ _ _ _ (vi 1 :: _) (si S 20 34 0 0)
    replace hM := hM.pi34 (v := 0)
    refine r_if_eq (tgt := 20) C dX11_readings_10 (by decide) (by omega) (fun h10 => ?_) (fun h10 => ?_)
    · exact absurd h10 (by decide)
    refine r_aload_n C dX11_readings_13 rfl rfl ?_
    refine r_getf C mid_20 (hp_20 _) rfl 33 (by decide) in_X11_readings_X11 lk_X11_readings_184 (Or.inl rfl) rfl dX11_readings_14 ?_
    refine r_goto (tgt := 21) C dX11_readings_17 (by decide) ?_
    exact r_iret C Rr (Or.inl ⟨rfl, rfl, ha⟩) dX11_readings_21
  · skip
    refine r_callV (as := [_, _, _]) (na := 3) (rest := []) C mid_20 (hp_20 _) rfl (M_goes S (decide (iv S 20 19 0 = 1)) true true hM) gX11_readings_X11_goes (by decide +kernel) (by decide) (by decide) rfl (Nat.le_of_ble_eq_true rfl) rfl dX11_readings_7 rfl (fun v1 S1 hp1 => ?_)
    obtain ⟨rfl, e9⟩ := hp1
    subst S1
    rw [decide_eq_false ha]
    change At X _ _ _ _ (vi 0 :: _) (si S 20 34 0 1)
    replace hM := hM.pi34 (v := 1)
    refine r_if_eq (tgt := 20) C dX11_readings_10 (by decide) (by omega) (fun h10 => ?_) (fun h10 => ?_)
    · skip
      refine r_iconst C dX11_readings_20 ?_
      exact r_iret C Rr (Or.inr ⟨rfl, rfl, ha⟩) dX11_readings_21
    · exact absurd rfl h10
