theorem plK_b {S : ST} (h : MI S) (k : Nat) : 0 ≤ plK S k ∧ plK S k ≤ 2 := by
  have h5 := h.a5 k
  unfold plK
  split
  · split
    · omega
    · split <;> omega
  · exact h5
theorem posn_up {lt : Int → Int → Bool} {A : Nat → Int} {v : Int} {a : Nat} (h : lt v (A (a - 1)) = true) (ha : 0 < a) : posn lt A v a = posn lt A v (a - 1) := by
  obtain ⟨b, rfl⟩ : ∃ b, a = b + 1 := ⟨a - 1, by omega⟩
  exact if_pos h
theorem posn_at {lt : Int → Int → Bool} {A : Nat → Int} {v : Int} {a : Nat} (h : lt v (A (a - 1)) = false) (ha : 0 < a) : posn lt A v a = a := by
  obtain ⟨b, rfl⟩ : ∃ b, a = b + 1 := ⟨a - 1, by omega⟩
  exact if_neg (by rw [show A b = A (b + 1 - 1) from rfl, h]; decide)
theorem in_X11_literal_X11 : ∀ w ∈ wsX110, w ∈ wsX11_literal := by decide +kernel
theorem lk_X11_literal_29 : Cond.fieldLink RX11 29 "PostingPlannerModel" "literals" "[I" ∈ wsX11_literal := by decide +kernel
theorem lk_X11_literal_26 : Cond.fieldLink RX11 26 "PostingPlannerModel" "sizes" "[I" ∈ wsX11_literal := by decide +kernel
theorem lk_X11_literal_105 : Cond.fieldLink RX11 105 "PostingPlannerModel" "clauses" "I" ∈ wsX11_literal := by decide +kernel
theorem in_X11_plainly_X11 : ∀ w ∈ wsX110, w ∈ wsX11_plainly := by decide +kernel
theorem lk_X11_plainly_17 : Cond.fieldLink RX11 17 "PostingPlannerModel" "kinds" "[I" ∈ wsX11_plainly := by decide +kernel
theorem lk_X11_plainly_20 : Cond.fieldLink RX11 20 "PostingPlannerModel" "needs" "[I" ∈ wsX11_plainly := by decide +kernel
theorem lk_X11_plainly_38 : Cond.fieldLink RX11 38 "PostingPlannerModel" "clauseSizes" "[I" ∈ wsX11_plainly := by decide +kernel
theorem lk_X11_plainly_26 : Cond.fieldLink RX11 26 "PostingPlannerModel" "sizes" "[I" ∈ wsX11_plainly := by decide +kernel
theorem lk_X11_plainly_32 : Cond.fieldLink RX11 32 "PostingPlannerModel" "clauseKinds" "[I" ∈ wsX11_plainly := by decide +kernel
theorem lk_X11_plainly_35 : Cond.fieldLink RX11 35 "PostingPlannerModel" "clauseNeeds" "[I" ∈ wsX11_plainly := by decide +kernel
theorem lk_X11_plainly_23 : Cond.fieldLink RX11 23 "PostingPlannerModel" "negated" "[Z" ∈ wsX11_plainly := by decide +kernel
theorem lk_X11_plainly_29 : Cond.fieldLink RX11 29 "PostingPlannerModel" "literals" "[I" ∈ wsX11_plainly := by decide +kernel
theorem lk_X11_plainly_41 : Cond.fieldLink RX11 41 "PostingPlannerModel" "clauseLiterals" "[I" ∈ wsX11_plainly := by decide +kernel
theorem in_X11_thins_X11 : ∀ w ∈ wsX110, w ∈ wsX11_thins := by decide +kernel
theorem lk_X11_thins_38 : Cond.fieldLink RX11 38 "PostingPlannerModel" "clauseSizes" "[I" ∈ wsX11_thins := by decide +kernel
theorem lk_X11_thins_32 : Cond.fieldLink RX11 32 "PostingPlannerModel" "clauseKinds" "[I" ∈ wsX11_thins := by decide +kernel
theorem lk_X11_thins_41 : Cond.fieldLink RX11 41 "PostingPlannerModel" "clauseLiterals" "[I" ∈ wsX11_thins := by decide +kernel
theorem in_X11_sorts_X11 : ∀ w ∈ wsX110, w ∈ wsX11_sorts := by decide +kernel
theorem lk_X11_sorts_38 : Cond.fieldLink RX11 38 "PostingPlannerModel" "clauseSizes" "[I" ∈ wsX11_sorts := by decide +kernel
theorem lk_X11_sorts_41 : Cond.fieldLink RX11 41 "PostingPlannerModel" "clauseLiterals" "[I" ∈ wsX11_sorts := by decide +kernel
theorem in_X11_estimates_X11 : ∀ w ∈ wsX110, w ∈ wsX11_estimates := by decide +kernel
theorem lk_X11_estimates_38 : Cond.fieldLink RX11 38 "PostingPlannerModel" "clauseSizes" "[I" ∈ wsX11_estimates := by decide +kernel
theorem lk_X11_estimates_44 : Cond.fieldLink RX11 44 "PostingPlannerModel" "estimates" "[I" ∈ wsX11_estimates := by decide +kernel
theorem lk_X11_estimates_32 : Cond.fieldLink RX11 32 "PostingPlannerModel" "clauseKinds" "[I" ∈ wsX11_estimates := by decide +kernel
theorem lk_X11_estimates_35 : Cond.fieldLink RX11 35 "PostingPlannerModel" "clauseNeeds" "[I" ∈ wsX11_estimates := by decide +kernel
theorem lk_X11_estimates_41 : Cond.fieldLink RX11 41 "PostingPlannerModel" "clauseLiterals" "[I" ∈ wsX11_estimates := by decide +kernel
set_option maxHeartbeats 4000000 in
set_option maxRecDepth 100000 in
theorem M_literal (S : ST) (cn wd b : Int) (hcn : -2147483648 ≤ cn ∧ cn < 2147483648) (hwd : -2147483648 ≤ wd ∧ wd < 2147483648) (hb01 : b = 0 ∨ b = 1) (hM : MI S) : Ct yX11_literal wsX11_literal 1 [vr (some (20, 0)), vi cn, vi wd, vi b] S (fun v1 S1 => (v1 = some (vi (ai S 21 8 cn.toNat + 1)) ∧ S1 = sa (sa (si S 20 34 0 0) 21 9 (6 * cn.toNat + (ai S 21 8 cn.toNat).toNat) (2 * wd + b)) 21 8 cn.toNat (ai S 21 8 cn.toNat + 1) ∧ (((0 ≤ cn ∧ cn ≤ iv S 20 4 0 - 1) ∧ 0 ≤ wd ∧ wd ≤ 7) ∧ ai S 21 8 cn.toNat < 6)) ∨ (v1 = some (vi 0) ∧ S1 = si S 20 34 0 1 ∧ ¬ ((0 ≤ cn ∧ cn ≤ iv S 20 4 0 - 1) ∧ 0 ≤ wd ∧ wd ≤ 7)) ∨ (v1 = some (vi 0) ∧ S1 = si S 20 34 0 2 ∧ ((0 ≤ cn ∧ cn ≤ iv S 20 4 0 - 1) ∧ 0 ≤ wd ∧ wd ≤ 7) ∧ ¬ (((0 ≤ cn ∧ cn ≤ iv S 20 4 0 - 1) ∧ 0 ≤ wd ∧ wd ≤ 7) ∧ ai S 21 8 cn.toNat < 6))) := by
  refine Ct.of (nL := 5) (by decide) rfl (Nat.le_of_ble_eq_true rfl) (by decide) (fun X C Rr hnL => ?_)
  have hn : ∀ i, i < 5 → i < X.2.2.2.2.2 := fun i h => by rw [hnL]; exact h
  have h8 := hM.a8 cn.toNat
  have h4 := hM.i4
  have hkb := b2i_01 (decide ((0 ≤ cn ∧ cn ≤ iv S 20 4 0 - 1) ∧ 0 ≤ wd ∧ wd ≤ 7))
  have cut31 : At X 0 0 31 [(4, vi (b2i (decide ((0 ≤ cn ∧ cn ≤ iv S 20 4 0 - 1) ∧ 0 ≤ wd ∧ wd ≤ 7)))), (0, vr (some (20, 0))), (1, vi cn), (2, vi wd), (3, vi b)] [] S := by
    skip
    have cut55 : At X 0 0 55 [(4, vi (b2i (decide ((0 ≤ cn ∧ cn ≤ iv S 20 4 0 - 1) ∧ 0 ≤ wd ∧ wd ≤ 7)))), (0, vr (some (20, 0))), (1, vi cn), (2, vi wd), (3, vi b)] [vi (b2i (decide (((0 ≤ cn ∧ cn ≤ iv S 20 4 0 - 1) ∧ 0 ≤ wd ∧ wd ≤ 7) ∧ ai S 21 8 cn.toNat < 6))), vi (b2i (decide ((0 ≤ cn ∧ cn ≤ iv S 20 4 0 - 1) ∧ 0 ≤ wd ∧ wd ≤ 7))), vr (some (20, 0))] S := by
      skip
      refine r_iconst C dX11_literal_55 ?_
      rcases tri (((0 ≤ cn ∧ cn ≤ iv S 20 4 0 - 1) ∧ 0 ≤ wd ∧ wd ≤ 7)) ((((0 ≤ cn ∧ cn ≤ iv S 20 4 0 - 1) ∧ 0 ≤ wd ∧ wd ≤ 7) ∧ ai S 21 8 cn.toNat < 6)) with ⟨ha, hb⟩ | ha | ⟨ha, hb⟩
      · skip
        refine r_callV (as := [_, _, _]) (na := 3) (rest := []) C mid_20 (hp_20 _) rfl (M_goes S (decide ((0 ≤ cn ∧ cn ≤ iv S 20 4 0 - 1) ∧ 0 ≤ wd ∧ wd ≤ 7)) (decide (((0 ≤ cn ∧ cn ≤ iv S 20 4 0 - 1) ∧ 0 ≤ wd ∧ wd ≤ 7) ∧ ai S 21 8 cn.toNat < 6)) true hM) gX11_literal_X11_goes (by decide +kernel) (by decide) (by decide) rfl (Nat.le_of_ble_eq_true rfl) rfl dX11_literal_56 rfl (fun v1 S1 hp1 => ?_)
        obtain ⟨rfl, e9⟩ := hp1
        subst S1
        rw [decide_eq_true ha, decide_eq_true hb]
        change At X _ _ _ _ (vi 1 :: _) (si S 20 34 0 0)
        replace hM := hM.pi34 (v := 0)
        refine r_if_ne (tgt := 64) C dX11_literal_59 (by decide) (by omega) (fun h59 => ?_) (fun h59 => ?_)
        · skip
          refine r_aload_n C dX11_literal_64 rfl rfl ?_
          refine r_getf C mid_20 (hp_20 _) rfl 9 (by decide) in_X11_literal_X11 lk_X11_literal_29 (Or.inl rfl) rfl dX11_literal_65 ?_
          refine r_bipush C dX11_literal_68 (by decide) ?_
          refine r_iload_n C dX11_literal_70 rfl rfl ?_
          refine r_imul C dX11_literal_71 ?_
          refine r_aload_n C dX11_literal_72 rfl rfl ?_
          refine r_getf C mid_20 (hp_20 _) rfl 8 (by decide) in_X11_literal_X11 lk_X11_literal_26 (Or.inl rfl) rfl dX11_literal_73 ?_
          refine r_iload_n C dX11_literal_76 rfl rfl ?_
          refine r_iald (j := cn.toNat) C mid_21_8 (hp_21_8 _) rfl (by omega) (by omega) (by decide) dX11_literal_77 ?_
          refine mr hM.a8 (fun hA77 => ?_)
          refine At_val (v' := vi (ai S 21 8 cn.toNat)) (rfl) ?_
          refine r_iadd C dX11_literal_78 ?_
          refine r_iconst C dX11_literal_79 ?_
          refine r_iload_n C dX11_literal_80 rfl rfl ?_
          refine r_imul C dX11_literal_81 ?_
          refine r_iload_n C dX11_literal_82 rfl rfl ?_
          refine r_if_eq (tgt := 90) C dX11_literal_83 (by decide) (by omega) (fun h83 => ?_) (fun h83 => ?_)
          · skip
            refine r_iconst C dX11_literal_90 ?_
            refine r_iadd C dX11_literal_91 ?_
            refine At_val (v' := vi (2 * wd + b)) (by congr 1; omega) ?_
            refine r_iast (j := (6 * cn.toNat + (ai S 21 8 cn.toNat).toNat)) C mid_21_9 (hp_21_9 _) rfl (by omega) (by omega) (by decide) (ha_21_9 _ _ _) dX11_literal_92 ?_
            refine mw (hM.pa9 (by omega)) (fun hM => ?_)
            refine r_aload_n C dX11_literal_93 rfl rfl ?_
            refine r_getf C mid_20 (hp_20 _) rfl 8 (by decide) in_X11_literal_X11 lk_X11_literal_26 (Or.inl rfl) rfl dX11_literal_94 ?_
            refine r_iload_n C dX11_literal_97 rfl rfl ?_
            refine r_dup2 C rfl rfl dX11_literal_98 ?_
            refine r_iald (j := cn.toNat) C mid_21_8 (hp_21_8 _) rfl (by omega) (by omega) (by decide) dX11_literal_99 ?_
            refine mr hM.a8 (fun hA99 => ?_)
            refine At_val (v' := vi (ai S 21 8 cn.toNat)) (rfl) ?_
            refine r_iconst C dX11_literal_100 ?_
            refine r_iadd C dX11_literal_101 ?_
            refine r_iast (j := cn.toNat) C mid_21_8 (hp_21_8 _) rfl (by omega) (by omega) (by decide) (ha_21_8 _ _ _) dX11_literal_102 ?_
            refine mw (hM.pa8 (by omega)) (fun hM => ?_)
            refine r_aload_n C dX11_literal_103 rfl rfl ?_
            refine r_getf C mid_20 (hp_20 _) rfl 8 (by decide) in_X11_literal_X11 lk_X11_literal_26 (Or.inl rfl) rfl dX11_literal_104 ?_
            refine r_iload_n C dX11_literal_107 rfl rfl ?_
            refine r_iald (j := cn.toNat) C mid_21_8 (hp_21_8 _) rfl (by omega) (by omega) (by decide) dX11_literal_108 ?_
            refine mr hM.a8 (fun hA108 => ?_)
            refine At_val (v' := vi (ai S 21 8 cn.toNat + 1)) (by simp [ai, sa, up3]) ?_
            exact r_iret C Rr (Or.inl ⟨rfl, rfl, hb⟩) dX11_literal_109
          · skip
            refine r_iconst C dX11_literal_86 ?_
            refine r_goto (tgt := 91) C dX11_literal_87 (by decide) ?_
            refine r_iadd C dX11_literal_91 ?_
            refine At_val (v' := vi (2 * wd + b)) (by congr 1; omega) ?_
            refine r_iast (j := (6 * cn.toNat + (ai S 21 8 cn.toNat).toNat)) C mid_21_9 (hp_21_9 _) rfl (by omega) (by omega) (by decide) (ha_21_9 _ _ _) dX11_literal_92 ?_
            refine mw (hM.pa9 (by omega)) (fun hM => ?_)
            refine r_aload_n C dX11_literal_93 rfl rfl ?_
            refine r_getf C mid_20 (hp_20 _) rfl 8 (by decide) in_X11_literal_X11 lk_X11_literal_26 (Or.inl rfl) rfl dX11_literal_94 ?_
            refine r_iload_n C dX11_literal_97 rfl rfl ?_
            refine r_dup2 C rfl rfl dX11_literal_98 ?_
            refine r_iald (j := cn.toNat) C mid_21_8 (hp_21_8 _) rfl (by omega) (by omega) (by decide) dX11_literal_99 ?_
            refine mr hM.a8 (fun hA99 => ?_)
            refine At_val (v' := vi (ai S 21 8 cn.toNat)) (rfl) ?_
            refine r_iconst C dX11_literal_100 ?_
            refine r_iadd C dX11_literal_101 ?_
            refine r_iast (j := cn.toNat) C mid_21_8 (hp_21_8 _) rfl (by omega) (by omega) (by decide) (ha_21_8 _ _ _) dX11_literal_102 ?_
            refine mw (hM.pa8 (by omega)) (fun hM => ?_)
            refine r_aload_n C dX11_literal_103 rfl rfl ?_
            refine r_getf C mid_20 (hp_20 _) rfl 8 (by decide) in_X11_literal_X11 lk_X11_literal_26 (Or.inl rfl) rfl dX11_literal_104 ?_
            refine r_iload_n C dX11_literal_107 rfl rfl ?_
            refine r_iald (j := cn.toNat) C mid_21_8 (hp_21_8 _) rfl (by omega) (by omega) (by decide) dX11_literal_108 ?_
            refine mr hM.a8 (fun hA108 => ?_)
            refine At_val (v' := vi (ai S 21 8 cn.toNat + 1)) (by simp [ai, sa, up3]) ?_
            exact r_iret C Rr (Or.inl ⟨rfl, rfl, hb⟩) dX11_literal_109
        · exact absurd h59 (by decide)
      · skip
        refine r_callV (as := [_, _, _]) (na := 3) (rest := []) C mid_20 (hp_20 _) rfl (M_goes S (decide ((0 ≤ cn ∧ cn ≤ iv S 20 4 0 - 1) ∧ 0 ≤ wd ∧ wd ≤ 7)) (decide (((0 ≤ cn ∧ cn ≤ iv S 20 4 0 - 1) ∧ 0 ≤ wd ∧ wd ≤ 7) ∧ ai S 21 8 cn.toNat < 6)) true hM) gX11_literal_X11_goes (by decide +kernel) (by decide) (by decide) rfl (Nat.le_of_ble_eq_true rfl) rfl dX11_literal_56 rfl (fun v1 S1 hp1 => ?_)
        obtain ⟨rfl, e9⟩ := hp1
        subst S1
        rw [decide_eq_false ha]
        change At X _ _ _ _ (vi 0 :: _) (si S 20 34 0 1)
        replace hM := hM.pi34 (v := 1)
        refine r_if_ne (tgt := 64) C dX11_literal_59 (by decide) (by omega) (fun h59 => ?_) (fun h59 => ?_)
        · exact absurd rfl h59
        refine r_iconst C dX11_literal_62 ?_
        exact r_iret C Rr (Or.inr (Or.inl ⟨rfl, rfl, ha⟩)) dX11_literal_63
      · skip
        refine r_callV (as := [_, _, _]) (na := 3) (rest := []) C mid_20 (hp_20 _) rfl (M_goes S (decide ((0 ≤ cn ∧ cn ≤ iv S 20 4 0 - 1) ∧ 0 ≤ wd ∧ wd ≤ 7)) (decide (((0 ≤ cn ∧ cn ≤ iv S 20 4 0 - 1) ∧ 0 ≤ wd ∧ wd ≤ 7) ∧ ai S 21 8 cn.toNat < 6)) true hM) gX11_literal_X11_goes (by decide +kernel) (by decide) (by decide) rfl (Nat.le_of_ble_eq_true rfl) rfl dX11_literal_56 rfl (fun v1 S1 hp1 => ?_)
        obtain ⟨rfl, e9⟩ := hp1
        subst S1
        rw [decide_eq_true ha, decide_eq_false hb]
        change At X _ _ _ _ (vi 0 :: _) (si S 20 34 0 2)
        replace hM := hM.pi34 (v := 2)
        refine r_if_ne (tgt := 64) C dX11_literal_59 (by decide) (by omega) (fun h59 => ?_) (fun h59 => ?_)
        · exact absurd rfl h59
        refine r_iconst C dX11_literal_62 ?_
        exact r_iret C Rr (Or.inr (Or.inr ⟨rfl, rfl, ha, hb⟩)) dX11_literal_63
    refine r_aload_n C dX11_literal_31 rfl rfl ?_
    refine r_iload C dX11_literal_32 rfl ?_
    refine r_iload C dX11_literal_34 rfl ?_
    refine r_if_eq (tgt := 54) C dX11_literal_36 (by decide) (by omega) (fun h36 => ?_) (fun h36 => ?_)
    · skip
      refine r_iconst C dX11_literal_54 ?_
      refine At_val (v' := vi (b2i (decide (((0 ≤ cn ∧ cn ≤ iv S 20 4 0 - 1) ∧ 0 ≤ wd ∧ wd ≤ 7) ∧ ai S 21 8 cn.toNat < 6)))) (by first | (have q1 := of_decide_eq_false (b2i_0 h36); rw [b2i_f (decide_eq_false (by omega))]) | (have q1 := of_decide_eq_true (b2i_1 h36); first | rw [b2i_f (decide_eq_false (by omega))] | rw [b2i_t (decide_eq_true (by omega))])) ?_
      exact At_lv (by simp) cut55
    · skip
      have q3 := of_decide_eq_true (b2i_1 h36)
      refine r_aload_n C dX11_literal_39 rfl rfl ?_
      refine r_getf C mid_20 (hp_20 _) rfl 8 (by decide) in_X11_literal_X11 lk_X11_literal_26 (Or.inl rfl) rfl dX11_literal_40 ?_
      refine r_iload_n C dX11_literal_43 rfl rfl ?_
      refine r_iald (j := cn.toNat) C mid_21_8 (hp_21_8 _) rfl (by omega) (by omega) (by decide) dX11_literal_44 ?_
      refine mr hM.a8 (fun hA44 => ?_)
      refine r_bipush C dX11_literal_45 (by decide) ?_
      refine r_icmp_ge (tgt := 54) C dX11_literal_47 (by decide) (by omega) (by omega) (fun h47 => ?_) (fun h47 => ?_)
      · skip
        refine r_iconst C dX11_literal_54 ?_
        refine At_val (v' := vi (b2i (decide (((0 ≤ cn ∧ cn ≤ iv S 20 4 0 - 1) ∧ 0 ≤ wd ∧ wd ≤ 7) ∧ ai S 21 8 cn.toNat < 6)))) (by first | (have q1 := of_decide_eq_false (b2i_0 h36); rw [b2i_f (decide_eq_false (by omega))]) | (have q1 := of_decide_eq_true (b2i_1 h36); first | rw [b2i_f (decide_eq_false (by omega))] | rw [b2i_t (decide_eq_true (by omega))])) ?_
        exact At_lv (by simp) cut55
      · skip
        refine r_iconst C dX11_literal_50 ?_
        refine r_goto (tgt := 55) C dX11_literal_51 (by decide) ?_
        refine At_val (v' := vi (b2i (decide (((0 ≤ cn ∧ cn ≤ iv S 20 4 0 - 1) ∧ 0 ≤ wd ∧ wd ≤ 7) ∧ ai S 21 8 cn.toNat < 6)))) (by first | (have q1 := of_decide_eq_false (b2i_0 h36); rw [b2i_f (decide_eq_false (by omega))]) | (have q1 := of_decide_eq_true (b2i_1 h36); first | rw [b2i_f (decide_eq_false (by omega))] | rw [b2i_t (decide_eq_true (by omega))])) ?_
        exact At_lv (by simp) cut55
  refine r_iload_n C dX11_literal_0 rfl rfl ?_
  refine r_iconst C dX11_literal_1 ?_
  refine r_aload_n C dX11_literal_2 rfl rfl ?_
  refine r_getf C mid_20 (hp_20 _) rfl 4 (by decide) in_X11_literal_X11 lk_X11_literal_105 (Or.inl rfl) rfl dX11_literal_3 ?_
  have hI3 := hM.i4
  refine r_iconst C dX11_literal_6 ?_
  refine r_isub C dX11_literal_7 ?_
  refine r_callS (as := [_, _, _]) (na := 3) (rest := []) C (M_in S cn 0 (iv S 20 4 0 - 1) hcn (by decide) (by omega)) gX11_literal_X11_in (by decide +kernel) (by decide) (by decide) rfl (Nat.le_of_ble_eq_true rfl) rfl dX11_literal_8 rfl (fun v1 S1 hp1 => ?_)
  obtain ⟨rfl, e9⟩ := hp1
  subst S1
  refine r_if_eq (tgt := 28) C dX11_literal_11 (by decide) (by have := b2i_01 (decide (0 ≤ cn ∧ cn ≤ iv S 20 4 0 - 1)); omega) (fun h11 => ?_) (fun h11 => ?_)
  · skip
    refine r_iconst C dX11_literal_28 ?_
    refine At_val (v' := vi (b2i (decide ((0 ≤ cn ∧ cn ≤ iv S 20 4 0 - 1) ∧ 0 ≤ wd ∧ wd ≤ 7)))) (by first | (have q1 := of_decide_eq_false (b2i_0 h11); rw [b2i_f (decide_eq_false (by omega))]) | (have q1 := of_decide_eq_true (b2i_1 h11); first | (have q2 := of_decide_eq_false (b2i_0 h21); rw [b2i_f (decide_eq_false (by omega))]) | (have q2 := of_decide_eq_true (b2i_1 h21); rw [b2i_t (decide_eq_true (by omega))]))) ?_
    refine r_istore (lv' := [(4, _), (0, _), (1, _), (2, _), (3, _)]) C dX11_literal_29 (hn _ (by decide)) rfl ?_
    exact At_lv (by simp) cut31
  · skip
    refine r_iload_n C dX11_literal_14 rfl rfl ?_
    refine r_iconst C dX11_literal_15 ?_
    refine r_bipush C dX11_literal_16 (by decide) ?_
    refine r_callS (as := [_, _, _]) (na := 3) (rest := []) C (M_in S wd 0 7 hwd (by decide) (by decide)) gX11_literal_X11_in (by decide +kernel) (by decide) (by decide) rfl (Nat.le_of_ble_eq_true rfl) rfl dX11_literal_18 rfl (fun v1 S1 hp1 => ?_)
    obtain ⟨rfl, e9⟩ := hp1
    subst S1
    refine r_if_eq (tgt := 28) C dX11_literal_21 (by decide) (by have := b2i_01 (decide (0 ≤ wd ∧ wd ≤ 7)); omega) (fun h21 => ?_) (fun h21 => ?_)
    · skip
      refine r_iconst C dX11_literal_28 ?_
      refine At_val (v' := vi (b2i (decide ((0 ≤ cn ∧ cn ≤ iv S 20 4 0 - 1) ∧ 0 ≤ wd ∧ wd ≤ 7)))) (by first | (have q1 := of_decide_eq_false (b2i_0 h11); rw [b2i_f (decide_eq_false (by omega))]) | (have q1 := of_decide_eq_true (b2i_1 h11); first | (have q2 := of_decide_eq_false (b2i_0 h21); rw [b2i_f (decide_eq_false (by omega))]) | (have q2 := of_decide_eq_true (b2i_1 h21); rw [b2i_t (decide_eq_true (by omega))]))) ?_
      refine r_istore (lv' := [(4, _), (0, _), (1, _), (2, _), (3, _)]) C dX11_literal_29 (hn _ (by decide)) rfl ?_
      exact At_lv (by simp) cut31
    · skip
      refine r_iconst C dX11_literal_24 ?_
      refine r_goto (tgt := 29) C dX11_literal_25 (by decide) ?_
      refine At_val (v' := vi (b2i (decide ((0 ≤ cn ∧ cn ≤ iv S 20 4 0 - 1) ∧ 0 ≤ wd ∧ wd ≤ 7)))) (by first | (have q1 := of_decide_eq_false (b2i_0 h11); rw [b2i_f (decide_eq_false (by omega))]) | (have q1 := of_decide_eq_true (b2i_1 h11); first | (have q2 := of_decide_eq_false (b2i_0 h21); rw [b2i_f (decide_eq_false (by omega))]) | (have q2 := of_decide_eq_true (b2i_1 h21); rw [b2i_t (decide_eq_true (by omega))]))) ?_
      refine r_istore (lv' := [(4, _), (0, _), (1, _), (2, _), (3, _)]) C dX11_literal_29 (hn _ (by decide)) rfl ?_
      exact At_lv (by simp) cut31
set_option maxHeartbeats 4000000 in
set_option maxRecDepth 100000 in
theorem M_plainly (S : ST) (k : Nat) (hk5 : k < 5) (hM : MI S) : Ct yX11_plainly wsX11_plainly 1 [vr (some (20, 0)), vi (k : Int)] S (fun v1 S1 => v1 = none ∧ S1 = plainF S k) := by
  refine Ct.of (nL := 6) (by decide) rfl (Nat.le_of_ble_eq_true rfl) (by decide) (fun X C Rr hnL => ?_)
  have hn : ∀ i, i < 6 → i < X.2.2.2.2.2 := fun i h => by rw [hnL]; exact h
  have hM0 := hM
  have h5 := hM.a5 k
  have h6 := hM.a6 k
  have h7 := hM.a7 k
  have h8 := hM.a8 k
  obtain ⟨hb1, hb2, hb3⟩ := plK2_b hM k
  refine r_aload_n C dX11_plainly_0 rfl rfl ?_
  refine r_getf C mid_20 (hp_20 _) rfl 5 (by decide) in_X11_plainly_X11 lk_X11_plainly_17 (Or.inl rfl) rfl dX11_plainly_1 ?_
  refine r_iload_n C dX11_plainly_4 rfl rfl ?_
  refine r_iald (j := _) C mid_21_5 (hp_21_5 _) rfl (rfl) (by omega) (by decide) dX11_plainly_5 ?_
  refine mr hM.a5 (fun hA5 => ?_)
  refine r_istore_n (lv' := [(2, _), (0, _), (1, _)]) C dX11_plainly_6 rfl (hn _ (by decide)) rfl ?_
  refine r_aload_n C dX11_plainly_7 rfl rfl ?_
  refine r_getf C mid_20 (hp_20 _) rfl 6 (by decide) in_X11_plainly_X11 lk_X11_plainly_20 (Or.inl rfl) rfl dX11_plainly_8 ?_
  refine r_iload_n C dX11_plainly_11 rfl rfl ?_
  refine r_iald (j := _) C mid_21_6 (hp_21_6 _) rfl (rfl) (by omega) (by decide) dX11_plainly_12 ?_
  refine mr hM.a6 (fun hA12 => ?_)
  refine r_istore_n (lv' := [(3, _), (2, _), (0, _), (1, _)]) C dX11_plainly_13 rfl (hn _ (by decide)) rfl ?_
  refine r_aload_n C dX11_plainly_14 rfl rfl ?_
  refine r_getf C mid_20 (hp_20 _) rfl 12 (by decide) in_X11_plainly_X11 lk_X11_plainly_38 (Or.inl rfl) rfl dX11_plainly_15 ?_
  refine r_iload_n C dX11_plainly_18 rfl rfl ?_
  refine r_aload_n C dX11_plainly_19 rfl rfl ?_
  refine r_getf C mid_20 (hp_20 _) rfl 8 (by decide) in_X11_plainly_X11 lk_X11_plainly_26 (Or.inl rfl) rfl dX11_plainly_20 ?_
  refine r_iload_n C dX11_plainly_23 rfl rfl ?_
  refine r_iald (j := _) C mid_21_8 (hp_21_8 _) rfl (rfl) (by omega) (by decide) dX11_plainly_24 ?_
  refine mr hM.a8 (fun hA24 => ?_)
  refine r_iast (j := _) C mid_21_12 (hp_21_12 _) rfl (rfl) (by omega) (by decide) (ha_21_12 _ _ _) dX11_plainly_25 ?_
  refine mw (hM.pa12 (by omega)) (fun hM => ?_)
  refine r_iconst C dX11_plainly_26 ?_
  refine r_istore (lv' := [(4, _), (3, _), (2, _), (0, _), (1, _)]) C dX11_plainly_27 (hn _ (by decide)) rfl ?_
  have loop29 : ∀ (f i : Nat) (hk : 7 - i < f) (hi : (i : Int) ≤ ai S 21 8 k), At X 0 0 29 [(0, vr (some (20, 0))), (1, vi (k : Int)), (2, vi (ai S 21 5 k)), (3, vi (ai S 21 6 k)), (4, vi (i : Int))] [] (plitF (sa S 21 12 k (ai S 21 8 k)) k i) := by
    intro kf
    induction kf with
    | zero => intro i hk hi; exact absurd hk (by omega)
    | succ kf ih =>
      intro i hk hi
      have hM := plitF_MI (S := (sa S 21 12 k (ai S 21 8 k))) (hM0.pa12 h8) k i
      have hF := plitF_MF (sa S 21 12 k (ai S 21 8 k)) k i
      have h9 := hM0.a9 (6 * k + i)
      have hpc := plc_b hM0 k i
      refine r_iload C dX11_plainly_29 rfl ?_
      refine r_aload_n C dX11_plainly_31 rfl rfl ?_
      refine r_getf C mid_20 (hp_20 _) rfl 8 (by decide) in_X11_plainly_X11 lk_X11_plainly_26 (Or.inl rfl) rfl dX11_plainly_32 ?_
      refine r_iload_n C dX11_plainly_35 rfl rfl ?_
      refine r_iald (j := _) C mid_21_8 (hp_21_8 _) rfl (rfl) (by omega) (by decide) dX11_plainly_36 ?_
      refine mr hM.a8 (fun hA36 => ?_)
      refine At_val (v' := vi (ai S 21 8 k)) (by rw [hF.a (q := 8) (by decide)]; first | done | rfl) ?_
      refine r_icmp_ge (tgt := 104) C dX11_plainly_37 (by decide) (by omega) (by omega) (fun h37 => ?_) (fun h37 => ?_)
      · skip
        have ei : i = (ai S 21 8 k).toNat := by omega
        subst ei
        have cut143 : At X 0 0 143 [(0, vr (some (20, 0))), (1, vi (k : Int)), (2, vi (plK S k)), (3, vi (plN S k))] [] (plitF (sa S 21 12 k (ai S 21 8 k)) k (ai S 21 8 k).toNat) := by
          skip
          refine r_aload_n C dX11_plainly_143 rfl rfl ?_
          refine r_getf C mid_20 (hp_20 _) rfl 10 (by decide) in_X11_plainly_X11 lk_X11_plainly_32 (Or.inl rfl) rfl dX11_plainly_144 ?_
          refine r_iload_n C dX11_plainly_147 rfl rfl ?_
          refine r_iload_n C dX11_plainly_148 rfl rfl ?_
          refine r_iconst C dX11_plainly_149 ?_
          have hk2 : 0 ≤ plK S k ∧ plK S k ≤ 2 := plK_b hM0 k
          refine r_icmp_ne (tgt := 166) C dX11_plainly_150 (by decide) (by omega) (by omega) (fun h150 => ?_) (fun h150 => ?_)
          · skip
            refine r_iload_n C dX11_plainly_166 rfl rfl ?_
            refine At_val (v' := vi (plK2 S k)) (by unfold plK2; first | rw [if_neg (by omega)] | rw [if_pos (by omega)]) ?_
            refine r_iast (j := k) C mid_21_10 (hp_21_10 _) rfl (rfl) (by omega) (by decide) (ha_21_10 _ _ _) dX11_plainly_167 ?_
            refine mw (hM.pa10 (hb1)) (fun hM => ?_)
            refine r_aload_n C dX11_plainly_168 rfl rfl ?_
            refine r_getf C mid_20 (hp_20 _) rfl 11 (by decide) in_X11_plainly_X11 lk_X11_plainly_35 (Or.inl rfl) rfl dX11_plainly_169 ?_
            refine r_iload_n C dX11_plainly_172 rfl rfl ?_
            refine r_aload_n C dX11_plainly_173 rfl rfl ?_
            refine r_getf C mid_20 (hp_20 _) rfl 10 (by decide) in_X11_plainly_X11 lk_X11_plainly_32 (Or.inl rfl) rfl dX11_plainly_174 ?_
            refine r_iload_n C dX11_plainly_177 rfl rfl ?_
            refine r_iald (j := _) C mid_21_10 (hp_21_10 _) rfl (rfl) (by omega) (by decide) dX11_plainly_178 ?_
            refine mr hM.a10 (fun hA178 => ?_)
            refine At_val (v' := vi (plK2 S k)) (by simp [ai, sa, up3]) ?_
            refine r_iconst C dX11_plainly_179 ?_
            refine r_icmp_ne (tgt := 187) C dX11_plainly_180 (by decide) (by omega) (by omega) (fun h180 => ?_) (fun h180 => ?_)
            · skip
              refine r_iconst C dX11_plainly_187 ?_
              refine At_val (v' := vi (if plK2 S k = 2 then plN S k else 0)) (by first | rw [if_neg (by omega)] | rw [if_pos (by omega)]) ?_
              refine r_iast (j := _) C mid_21_11 (hp_21_11 _) rfl (rfl) (by omega) (by decide) (ha_21_11 _ _ _) dX11_plainly_188 ?_
              refine mw (hM.pa11 (by split <;> omega)) (fun hM => ?_)
              exact r_vret C Rr (⟨rfl, rfl⟩) dX11_plainly_189
            · skip
              refine r_iload_n C dX11_plainly_183 rfl rfl ?_
              refine r_goto (tgt := 188) C dX11_plainly_184 (by decide) ?_
              refine At_val (v' := vi (if plK2 S k = 2 then plN S k else 0)) (by first | rw [if_neg (by omega)] | rw [if_pos (by omega)]) ?_
              refine r_iast (j := _) C mid_21_11 (hp_21_11 _) rfl (rfl) (by omega) (by decide) (ha_21_11 _ _ _) dX11_plainly_188 ?_
              refine mw (hM.pa11 (by split <;> omega)) (fun hM => ?_)
              exact r_vret C Rr (⟨rfl, rfl⟩) dX11_plainly_189
          · skip
            refine r_iload_n C dX11_plainly_153 rfl rfl ?_
            refine r_aload_n C dX11_plainly_154 rfl rfl ?_
            refine r_getf C mid_20 (hp_20 _) rfl 8 (by decide) in_X11_plainly_X11 lk_X11_plainly_26 (Or.inl rfl) rfl dX11_plainly_155 ?_
            refine r_iload_n C dX11_plainly_158 rfl rfl ?_
            refine r_iald (j := _) C mid_21_8 (hp_21_8 _) rfl (rfl) (by omega) (by decide) dX11_plainly_159 ?_
            refine mr hM.a8 (fun hA159 => ?_)
            refine At_val (v' := vi (ai S 21 8 k)) (by rw [hF.a (q := 8) (by decide)]; first | done | rfl) ?_
            refine r_callS (as := [_, _]) (na := 2) (rest := [_, _]) C (M_some (plitF (sa S 21 12 k (ai S 21 8 k)) k (ai S 21 8 k).toNat) (plN S k) (ai S 21 8 k) hb2 (by omega)) gX11_plainly_X11_some (by decide +kernel) (by decide) (by decide) rfl (Nat.le_of_ble_eq_true rfl) rfl dX11_plainly_160 rfl (fun v1 S1 hp1 => ?_)
            obtain ⟨rfl, e9⟩ := hp1
            subst S1
            refine r_goto (tgt := 167) C dX11_plainly_163 (by decide) ?_
            refine At_val (v' := vi (plK2 S k)) (by unfold plK2; first | rw [if_neg (by omega)] | rw [if_pos (by omega)]) ?_
            refine r_iast (j := k) C mid_21_10 (hp_21_10 _) rfl (rfl) (by omega) (by decide) (ha_21_10 _ _ _) dX11_plainly_167 ?_
            refine mw (hM.pa10 (hb1)) (fun hM => ?_)
            refine r_aload_n C dX11_plainly_168 rfl rfl ?_
            refine r_getf C mid_20 (hp_20 _) rfl 11 (by decide) in_X11_plainly_X11 lk_X11_plainly_35 (Or.inl rfl) rfl dX11_plainly_169 ?_
            refine r_iload_n C dX11_plainly_172 rfl rfl ?_
            refine r_aload_n C dX11_plainly_173 rfl rfl ?_
            refine r_getf C mid_20 (hp_20 _) rfl 10 (by decide) in_X11_plainly_X11 lk_X11_plainly_32 (Or.inl rfl) rfl dX11_plainly_174 ?_
            refine r_iload_n C dX11_plainly_177 rfl rfl ?_
            refine r_iald (j := _) C mid_21_10 (hp_21_10 _) rfl (rfl) (by omega) (by decide) dX11_plainly_178 ?_
            refine mr hM.a10 (fun hA178 => ?_)
            refine At_val (v' := vi (plK2 S k)) (by simp [ai, sa, up3]) ?_
            refine r_iconst C dX11_plainly_179 ?_
            refine r_icmp_ne (tgt := 187) C dX11_plainly_180 (by decide) (by omega) (by omega) (fun h180 => ?_) (fun h180 => ?_)
            · skip
              refine r_iconst C dX11_plainly_187 ?_
              refine At_val (v' := vi (if plK2 S k = 2 then plN S k else 0)) (by first | rw [if_neg (by omega)] | rw [if_pos (by omega)]) ?_
              refine r_iast (j := _) C mid_21_11 (hp_21_11 _) rfl (rfl) (by omega) (by decide) (ha_21_11 _ _ _) dX11_plainly_188 ?_
              refine mw (hM.pa11 (by split <;> omega)) (fun hM => ?_)
              exact r_vret C Rr (⟨rfl, rfl⟩) dX11_plainly_189
            · skip
              refine r_iload_n C dX11_plainly_183 rfl rfl ?_
              refine r_goto (tgt := 188) C dX11_plainly_184 (by decide) ?_
              refine At_val (v' := vi (if plK2 S k = 2 then plN S k else 0)) (by first | rw [if_neg (by omega)] | rw [if_pos (by omega)]) ?_
              refine r_iast (j := _) C mid_21_11 (hp_21_11 _) rfl (rfl) (by omega) (by decide) (ha_21_11 _ _ _) dX11_plainly_188 ?_
              refine mw (hM.pa11 (by split <;> omega)) (fun hM => ?_)
              exact r_vret C Rr (⟨rfl, rfl⟩) dX11_plainly_189
        refine r_aload_n C dX11_plainly_104 rfl rfl ?_
        refine r_getf C mid_20 (hp_20 _) rfl 7 (by decide) in_X11_plainly_X11 lk_X11_plainly_23 (Or.inl rfl) rfl dX11_plainly_105 ?_
        refine r_iload_n C dX11_plainly_108 rfl rfl ?_
        refine r_bald (j := _) C mid_21_7 (hp_21_7 _) rfl (rfl) (by omega) (by decide) dX11_plainly_109 ?_
        refine mr hM.a7 (fun hA109 => ?_)
        refine At_val (v' := vi (ai S 21 7 k)) (by rw [hF.a (q := 7) (by decide)]; first | done | rfl) ?_
        refine r_if_eq (tgt := 143) C dX11_plainly_110 (by decide) (by omega) (fun h110 => ?_) (fun h110 => ?_)
        · skip
          refine At_lv ?_ cut143
          simp
          unfold plK plN
          constructor <;> (repeat' split) <;> omega
        · skip
          refine r_aload_n C dX11_plainly_113 rfl rfl ?_
          refine r_getf C mid_20 (hp_20 _) rfl 8 (by decide) in_X11_plainly_X11 lk_X11_plainly_26 (Or.inl rfl) rfl dX11_plainly_114 ?_
          refine r_iload_n C dX11_plainly_117 rfl rfl ?_
          refine r_iald (j := _) C mid_21_8 (hp_21_8 _) rfl (rfl) (by omega) (by decide) dX11_plainly_118 ?_
          refine mr hM.a8 (fun hA118 => ?_)
          refine At_val (v' := vi (ai S 21 8 k)) (by rw [hF.a (q := 8) (by decide)]; first | done | rfl) ?_
          refine r_iload_n C dX11_plainly_119 rfl rfl ?_
          refine r_isub C dX11_plainly_120 ?_
          refine r_iconst C dX11_plainly_121 ?_
          refine r_iadd C dX11_plainly_122 ?_
          refine r_istore_n (lv' := [(3, _), (0, _), (1, _), (2, _), (4, _)]) C dX11_plainly_123 rfl (hn _ (by decide)) rfl ?_
          refine r_iload_n C dX11_plainly_124 rfl rfl ?_
          refine r_if_ne (tgt := 132) C dX11_plainly_125 (by decide) (by omega) (fun h125 => ?_) (fun h125 => ?_)
          · skip
            refine r_iload_n C dX11_plainly_132 rfl rfl ?_
            refine r_iconst C dX11_plainly_133 ?_
            refine r_icmp_ne (tgt := 141) C dX11_plainly_134 (by decide) (by omega) (by omega) (fun h134 => ?_) (fun h134 => ?_)
            · skip
              refine r_iconst C dX11_plainly_141 ?_
              have e3 : plN S k = ai S 21 8 k - ai S 21 6 k + 1 := if_pos (by omega)
              have e2 : plK S k = 2 := by unfold plK; rw [if_pos (by omega), if_neg (by omega), if_neg (by omega)]
              refine r_istore_n (lv' := [(2, _), (3, _), (0, _), (1, _), (4, _)]) C dX11_plainly_142 rfl (hn _ (by decide)) rfl ?_
              refine At_lv ?_ cut143
              simp
              unfold plK plN
              constructor <;> (repeat' split) <;> omega
            · skip
              refine r_iconst C dX11_plainly_137 ?_
              refine r_goto (tgt := 142) C dX11_plainly_138 (by decide) ?_
              have e3 : plN S k = ai S 21 8 k - ai S 21 6 k + 1 := if_pos (by omega)
              have e2 : plK S k = 0 := by unfold plK; rw [if_pos (by omega), if_neg (by omega), if_pos (by omega)]
              refine r_istore_n (lv' := [(2, _), (3, _), (0, _), (1, _), (4, _)]) C dX11_plainly_142 rfl (hn _ (by decide)) rfl ?_
              refine At_lv ?_ cut143
              simp
              unfold plK plN
              constructor <;> (repeat' split) <;> omega
          · skip
            refine r_iconst C dX11_plainly_128 ?_
            refine r_goto (tgt := 142) C dX11_plainly_129 (by decide) ?_
            have e3 : plN S k = ai S 21 8 k - ai S 21 6 k + 1 := if_pos (by omega)
            have e2 : plK S k = 1 := by unfold plK; rw [if_pos (by omega), if_pos (by omega)]
            refine r_istore_n (lv' := [(2, _), (3, _), (0, _), (1, _), (4, _)]) C dX11_plainly_142 rfl (hn _ (by decide)) rfl ?_
            refine At_lv ?_ cut143
            simp
            unfold plK plN
            constructor <;> (repeat' split) <;> omega
      · skip
        refine r_aload_n C dX11_plainly_40 rfl rfl ?_
        refine r_getf C mid_20 (hp_20 _) rfl 9 (by decide) in_X11_plainly_X11 lk_X11_plainly_29 (Or.inl rfl) rfl dX11_plainly_41 ?_
        refine r_bipush C dX11_plainly_44 (by decide) ?_
        refine r_iload_n C dX11_plainly_46 rfl rfl ?_
        refine r_imul C dX11_plainly_47 ?_
        refine r_iload C dX11_plainly_48 rfl ?_
        refine r_iadd C dX11_plainly_50 ?_
        refine r_iald (j := 6 * k + i) C mid_21_9 (hp_21_9 _) rfl (by omega) (by omega) (by decide) dX11_plainly_51 ?_
        refine mr hM.a9 (fun hA51 => ?_)
        refine At_val (v' := vi (ai S 21 9 (6 * k + i))) (by rw [hF.a (q := 9) (by decide)]; first | done | rfl) ?_
        refine r_istore (lv' := [(5, _), (0, _), (1, _), (2, _), (3, _), (4, _)]) C dX11_plainly_52 (hn _ (by decide)) rfl ?_
        refine r_aload_n C dX11_plainly_54 rfl rfl ?_
        refine r_getf C mid_20 (hp_20 _) rfl 13 (by decide) in_X11_plainly_X11 lk_X11_plainly_41 (Or.inl rfl) rfl dX11_plainly_55 ?_
        refine r_bipush C dX11_plainly_58 (by decide) ?_
        refine r_iload_n C dX11_plainly_60 rfl rfl ?_
        refine r_imul C dX11_plainly_61 ?_
        refine r_iload C dX11_plainly_62 rfl ?_
        refine r_iadd C dX11_plainly_64 ?_
        refine r_aload_n C dX11_plainly_65 rfl rfl ?_
        refine r_getf C mid_20 (hp_20 _) rfl 7 (by decide) in_X11_plainly_X11 lk_X11_plainly_23 (Or.inl rfl) rfl dX11_plainly_66 ?_
        refine r_iload_n C dX11_plainly_69 rfl rfl ?_
        refine r_bald (j := _) C mid_21_7 (hp_21_7 _) rfl (rfl) (by omega) (by decide) dX11_plainly_70 ?_
        refine mr hM.a7 (fun hA70 => ?_)
        refine At_val (v' := vi (ai S 21 7 k)) (by rw [hF.a (q := 7) (by decide)]; first | done | rfl) ?_
        refine r_if_eq (tgt := 95) C dX11_plainly_71 (by decide) (by omega) (fun h71 => ?_) (fun h71 => ?_)
        · skip
          refine r_iload C dX11_plainly_95 rfl ?_
          refine At_val (v' := vi (plc S k i)) (by unfold plc; first | rw [if_neg (by omega)] | (rw [if_pos (by omega)]; congr 1; unfold ctr; split <;> omega)) ?_
          refine r_iast (j := 6 * k + i) C mid_21_13 (hp_21_13 _) rfl (by omega) (by omega) (by decide) (ha_21_13 _ _ _) dX11_plainly_97 ?_
          refine mw (hM.pa13 (by omega)) (fun hM => ?_)
          refine r_iinc (lv' := [(4, _), (5, _), (0, _), (1, _), (2, _), (3, _)]) C dX11_plainly_98 rfl (hn _ (by decide)) rfl ?_
          refine r_goto (tgt := 29) C dX11_plainly_101 (by decide) ?_
          exact At_lv (by simp) (ih (i + 1) (by omega) (by omega))
        · skip
          refine r_iload C dX11_plainly_74 rfl ?_
          refine r_iconst C dX11_plainly_76 ?_
          refine r_irem (z := ai S 21 9 (6 * k + i) % 2) C dX11_plainly_77 (m_n2) (m_irem (by omega) (by omega)) ?_
          refine r_if_ne (tgt := 88) C dX11_plainly_78 (by decide) (by omega) (fun h78 => ?_) (fun h78 => ?_)
          · skip
            refine r_iload C dX11_plainly_88 rfl ?_
            refine r_iconst C dX11_plainly_90 ?_
            refine r_isub C dX11_plainly_91 ?_
            refine r_goto (tgt := 97) C dX11_plainly_92 (by decide) ?_
            refine At_val (v' := vi (plc S k i)) (by unfold plc; first | rw [if_neg (by omega)] | (rw [if_pos (by omega)]; congr 1; unfold ctr; split <;> omega)) ?_
            refine r_iast (j := 6 * k + i) C mid_21_13 (hp_21_13 _) rfl (by omega) (by omega) (by decide) (ha_21_13 _ _ _) dX11_plainly_97 ?_
            refine mw (hM.pa13 (by omega)) (fun hM => ?_)
            refine r_iinc (lv' := [(4, _), (5, _), (0, _), (1, _), (2, _), (3, _)]) C dX11_plainly_98 rfl (hn _ (by decide)) rfl ?_
            refine r_goto (tgt := 29) C dX11_plainly_101 (by decide) ?_
            exact At_lv (by simp) (ih (i + 1) (by omega) (by omega))
          · skip
            refine r_iload C dX11_plainly_81 rfl ?_
            refine r_iconst C dX11_plainly_83 ?_
            refine r_iadd C dX11_plainly_84 ?_
            refine r_goto (tgt := 97) C dX11_plainly_85 (by decide) ?_
            refine At_val (v' := vi (plc S k i)) (by unfold plc; first | rw [if_neg (by omega)] | (rw [if_pos (by omega)]; congr 1; unfold ctr; split <;> omega)) ?_
            refine r_iast (j := 6 * k + i) C mid_21_13 (hp_21_13 _) rfl (by omega) (by omega) (by decide) (ha_21_13 _ _ _) dX11_plainly_97 ?_
            refine mw (hM.pa13 (by omega)) (fun hM => ?_)
            refine r_iinc (lv' := [(4, _), (5, _), (0, _), (1, _), (2, _), (3, _)]) C dX11_plainly_98 rfl (hn _ (by decide)) rfl ?_
            refine r_goto (tgt := 29) C dX11_plainly_101 (by decide) ?_
            exact At_lv (by simp) (ih (i + 1) (by omega) (by omega))
  exact At_lv (by simp) (loop29 8 0 (by omega) (by omega))
set_option maxHeartbeats 4000000 in
set_option maxRecDepth 100000 in
theorem M_thins (S : ST) (k : Nat) (hk5 : k < 5) (hM : MI S) : Ct yX11_thins wsX11_thins 1 [vr (some (20, 0)), vi (k : Int)] S (fun v1 S1 => v1 = none ∧ S1 = thinF S k) := by
  refine Ct.of (nL := 6) (by decide) rfl (Nat.le_of_ble_eq_true rfl) (by decide) (fun X C Rr hnL => ?_)
  have hn : ∀ i, i < 6 → i < X.2.2.2.2.2 := fun i h => by rw [hnL]; exact h
  have hM0 := hM
  have h12 := hM.a12 k
  refine r_iconst C dX11_thins_0 ?_
  refine r_istore_n (lv' := [(2, _), (0, _), (1, _)]) C dX11_thins_1 rfl (hn _ (by decide)) rfl ?_
  refine r_iconst C dX11_thins_2 ?_
  refine r_istore_n (lv' := [(3, _), (2, _), (0, _), (1, _)]) C dX11_thins_3 rfl (hn _ (by decide)) rfl ?_
  refine r_iconst C dX11_thins_4 ?_
  refine r_istore (lv' := [(4, _), (3, _), (2, _), (0, _), (1, _)]) C dX11_thins_5 (hn _ (by decide)) rfl ?_
  have loop7 : ∀ (f i : Nat) (hk : 7 - i < f) (hi : (i : Int) ≤ ai S 21 12 k), At X 0 0 7 [(0, vr (some (20, 0))), (1, vi (k : Int)), (2, vi ((thF S k i).1 : Nat)), (3, vi (b2i (thF S k i).2.1)), (4, vi (i : Int))] [] (thF S k i).2.2 := by
    intro kf
    induction kf with
    | zero => intro i hk hi; exact absurd hk (by omega)
    | succ kf ih =>
      intro i hk hi
      have hM := thF_MI hM0 k i
      obtain ⟨hF, hni⟩ := thF_MF S k i
      have hb3 := b2i_01 (thF S k i).2.1
      refine r_iload C dX11_thins_7 rfl ?_
      refine r_aload_n C dX11_thins_9 rfl rfl ?_
      refine r_getf C mid_20 (hp_20 _) rfl 12 (by decide) in_X11_thins_X11 lk_X11_thins_38 (Or.inl rfl) rfl dX11_thins_10 ?_
      refine r_iload_n C dX11_thins_13 rfl rfl ?_
      refine r_iald (j := _) C mid_21_12 (hp_21_12 _) rfl (rfl) (by omega) (by decide) dX11_thins_14 ?_
      refine mr hM.a12 (fun hA14 => ?_)
      refine At_val (v' := vi (ai S 21 12 k)) (by rw [hF.a (q := 12) (by decide)]; first | done | rfl) ?_
      refine r_icmp_ge (tgt := 102) C dX11_thins_15 (by decide) (by omega) (by omega) (fun h15 => ?_) (fun h15 => ?_)
      · skip
        have ei : i = (ai S 21 12 k).toNat := by omega
        subst ei
        have h10 := hM.a10 k
        refine r_aload_n C dX11_thins_102 rfl rfl ?_
        refine r_getf C mid_20 (hp_20 _) rfl 12 (by decide) in_X11_thins_X11 lk_X11_thins_38 (Or.inl rfl) rfl dX11_thins_103 ?_
        refine r_iload_n C dX11_thins_106 rfl rfl ?_
        refine r_iload_n C dX11_thins_107 rfl rfl ?_
        refine r_iast (j := _) C mid_21_12 (hp_21_12 _) rfl (rfl) (by omega) (by decide) (ha_21_12 _ _ _) dX11_thins_108 ?_
        refine mw (hM.pa12 (by omega)) (fun hM => ?_)
        have cut123 : At X 0 0 123 [(0, vr (some (20, 0))), (1, vi (k : Int)), (2, vi ((thF S k (ai S 21 12 k).toNat).1 : Nat)), (3, vi (b2i (thF S k (ai S 21 12 k).toNat).2.1))] [vi (b2i (decide (ai (thF S k (ai S 21 12 k).toNat).2.2 21 10 k = 0)))] (sa (thF S k (ai S 21 12 k).toNat).2.2 21 12 k ((thF S k (ai S 21 12 k).toNat).1 : Nat)) := by
          skip
          refine r_istore (lv' := [(4, _), (0, _), (1, _), (2, _), (3, _)]) C dX11_thins_123 (hn _ (by decide)) rfl ?_
          refine r_iload_n C dX11_thins_125 rfl rfl ?_
          refine r_if_ne (tgt := 133) C dX11_thins_126 (by decide) (by omega) (fun h126 => ?_) (fun h126 => ?_)
          · skip
            refine r_aload_n C dX11_thins_133 rfl rfl ?_
            refine r_getf C mid_20 (hp_20 _) rfl 10 (by decide) in_X11_thins_X11 lk_X11_thins_32 (Or.inl rfl) rfl dX11_thins_134 ?_
            refine r_iload_n C dX11_thins_137 rfl rfl ?_
            refine r_iload_n C dX11_thins_138 rfl rfl ?_
            refine r_iload C dX11_thins_139 rfl ?_
            refine r_icmp_ne (tgt := 148) C dX11_thins_141 (by decide) (by have := b2i_01 (thF S k (ai S 21 12 k).toNat).2.1; omega) (by have := b2i_01 (decide (ai (thF S k (ai S 21 12 k).toNat).2.2 21 10 k = 0)); omega) (fun h141 => ?_) (fun h141 => ?_)
            · skip
              refine r_iconst C dX11_thins_148 ?_
              refine r_iast (j := _) C mid_21_10 (hp_21_10 _) rfl (rfl) (by omega) (by decide) (ha_21_10 _ _ _) dX11_thins_149 ?_
              refine mw (hM.pa10 (by first | omega | decide)) (fun hM => ?_)
              exact r_vret C Rr (⟨rfl, by unfold thinF thin2; rw [if_pos (Or.inl (b2i_1 h126)), if_neg h141]⟩) dX11_thins_150
            · skip
              refine r_iconst C dX11_thins_144 ?_
              refine r_goto (tgt := 149) C dX11_thins_145 (by decide) ?_
              refine r_iast (j := _) C mid_21_10 (hp_21_10 _) rfl (rfl) (by omega) (by decide) (ha_21_10 _ _ _) dX11_thins_149 ?_
              refine mw (hM.pa10 (by first | omega | decide)) (fun hM => ?_)
              exact r_vret C Rr (⟨rfl, by unfold thinF thin2; rw [if_pos (Or.inl (b2i_1 h126)), if_pos h141]⟩) dX11_thins_150
          · skip
            refine r_iload_n C dX11_thins_129 rfl rfl ?_
            refine r_if_ne (tgt := 150) C dX11_thins_130 (by decide) (by omega) (fun h130 => ?_) (fun h130 => ?_)
            · skip
              exact r_vret C Rr (⟨rfl, by unfold thinF thin2; rw [if_neg (fun q => q.elim (fun q => by rw [q] at h126; exact absurd h126 (by decide)) (fun q => by omega))]⟩) dX11_thins_150
            · skip
              refine r_aload_n C dX11_thins_133 rfl rfl ?_
              refine r_getf C mid_20 (hp_20 _) rfl 10 (by decide) in_X11_thins_X11 lk_X11_thins_32 (Or.inl rfl) rfl dX11_thins_134 ?_
              refine r_iload_n C dX11_thins_137 rfl rfl ?_
              refine r_iload_n C dX11_thins_138 rfl rfl ?_
              refine r_iload C dX11_thins_139 rfl ?_
              refine r_icmp_ne (tgt := 148) C dX11_thins_141 (by decide) (by have := b2i_01 (thF S k (ai S 21 12 k).toNat).2.1; omega) (by have := b2i_01 (decide (ai (thF S k (ai S 21 12 k).toNat).2.2 21 10 k = 0)); omega) (fun h141 => ?_) (fun h141 => ?_)
              · skip
                refine r_iconst C dX11_thins_148 ?_
                refine r_iast (j := _) C mid_21_10 (hp_21_10 _) rfl (rfl) (by omega) (by decide) (ha_21_10 _ _ _) dX11_thins_149 ?_
                refine mw (hM.pa10 (by first | omega | decide)) (fun hM => ?_)
                exact r_vret C Rr (⟨rfl, by unfold thinF thin2; rw [if_pos (Or.inr (by omega)), if_neg h141]⟩) dX11_thins_150
              · skip
                refine r_iconst C dX11_thins_144 ?_
                refine r_goto (tgt := 149) C dX11_thins_145 (by decide) ?_
                refine r_iast (j := _) C mid_21_10 (hp_21_10 _) rfl (rfl) (by omega) (by decide) (ha_21_10 _ _ _) dX11_thins_149 ?_
                refine mw (hM.pa10 (by first | omega | decide)) (fun hM => ?_)
                exact r_vret C Rr (⟨rfl, by unfold thinF thin2; rw [if_pos (Or.inr (by omega)), if_pos h141]⟩) dX11_thins_150
        refine r_aload_n C dX11_thins_109 rfl rfl ?_
        refine r_getf C mid_20 (hp_20 _) rfl 10 (by decide) in_X11_thins_X11 lk_X11_thins_32 (Or.inl rfl) rfl dX11_thins_110 ?_
        refine r_iload_n C dX11_thins_113 rfl rfl ?_
        refine r_iald (j := _) C mid_21_10 (hp_21_10 _) rfl (rfl) (by omega) (by decide) dX11_thins_114 ?_
        refine mr hM.a10 (fun hA114 => ?_)
        refine At_val (v' := vi (ai (thF S k (ai S 21 12 k).toNat).2.2 21 10 k)) (by simp [ai, sa, up3]) ?_
        refine r_if_ne (tgt := 122) C dX11_thins_115 (by decide) (by omega) (fun h115 => ?_) (fun h115 => ?_)
        · skip
          refine r_iconst C dX11_thins_122 ?_
          refine At_val (v' := vi (b2i (decide (ai (thF S k (ai S 21 12 k).toNat).2.2 21 10 k = 0)))) (by first | rw [b2i_t (decide_eq_true (by omega))] | rw [b2i_f (decide_eq_false (by omega))]) ?_
          exact At_lv (by simp) cut123
        · skip
          refine r_iconst C dX11_thins_118 ?_
          refine r_goto (tgt := 123) C dX11_thins_119 (by decide) ?_
          refine At_val (v' := vi (b2i (decide (ai (thF S k (ai S 21 12 k).toNat).2.2 21 10 k = 0)))) (by first | rw [b2i_t (decide_eq_true (by omega))] | rw [b2i_f (decide_eq_false (by omega))]) ?_
          exact At_lv (by simp) cut123
      · skip
        refine r_aload_n C dX11_thins_18 rfl rfl ?_
        refine r_getf C mid_20 (hp_20 _) rfl 13 (by decide) in_X11_thins_X11 lk_X11_thins_41 (Or.inl rfl) rfl dX11_thins_19 ?_
        refine r_bipush C dX11_thins_22 (by decide) ?_
        refine r_iload_n C dX11_thins_24 rfl rfl ?_
        refine r_imul C dX11_thins_25 ?_
        refine r_iload C dX11_thins_26 rfl ?_
        refine r_iadd C dX11_thins_28 ?_
        refine r_iald (j := 6 * k + i) C mid_21_13 (hp_21_13 _) rfl (by omega) (by omega) (by decide) dX11_thins_29 ?_
        refine mr hM.a13 (fun hA29 => ?_)
        refine r_istore (lv' := [(5, _), (0, _), (1, _), (2, _), (3, _), (4, _)]) C dX11_thins_30 (hn _ (by decide)) rfl ?_
        refine r_aload_n C dX11_thins_32 rfl rfl ?_
        refine r_iload_n C dX11_thins_33 rfl rfl ?_
        refine r_iload_n C dX11_thins_34 rfl rfl ?_
        refine r_iload C dX11_thins_35 rfl ?_
        refine r_callV (as := [_, _, _]) (na := 3) (rest := []) C mid_20 (hp_20 _) rfl (M_hasAhead (thF S k i).2.2 k (thF S k i).1 (ai (thF S k i).2.2 21 13 (6 * k + i)) hk5 (by omega) (by omega) hM) gX11_thins_X11_hasAhead (by decide +kernel) (by decide) (by decide) rfl (Nat.le_of_ble_eq_true rfl) rfl dX11_thins_37 rfl (fun v1 S1 hp1 => ?_)
        obtain ⟨rfl, e9⟩ := hp1
        subst S1
        refine r_if_ne (tgt := 96) C dX11_thins_40 (by decide) (by have := b2i_01 (hasA (thF S k i).2.2 k (thF S k i).1 (ai (thF S k i).2.2 21 13 (6 * k + i))); omega) (fun h40 => ?_) (fun h40 => ?_)
        · skip
          have e1 : thF S k (i + 1) = thF S k i := if_pos (b2i_1 h40)
          refine r_iinc (lv' := [(4, _), (5, _), (0, _), (1, _), (2, _), (3, _)]) C dX11_thins_96 rfl (hn _ (by decide)) rfl ?_
          refine r_goto (tgt := 7) C dX11_thins_99 (by decide) ?_
          have ihn := ih (i + 1) (by omega) (by omega)
          rw [e1] at ihn
          exact At_lv (by simp) ihn
        · skip
          have cut79 : At X 0 0 79 [(5, vi (ai (thF S k i).2.2 21 13 (6 * k + i))), (0, vr (some (20, 0))), (1, vi (k : Int)), (2, vi ((thF S k i).1 : Nat)), (3, vi (b2i (thF S k i).2.1)), (4, vi (i : Int))] [vi (b2i ((thF S k i).2.1 || hasA (thF S k i).2.2 k (thF S k i).1 ((ctr (ai (thF S k i).2.2 21 13 (6 * k + i)).toNat : Nat) : Int)))] (thF S k i).2.2 := by
            skip
            refine r_istore_n (lv' := [(3, _), (5, _), (0, _), (1, _), (2, _), (4, _)]) C dX11_thins_79 rfl (hn _ (by decide)) rfl ?_
            refine r_aload_n C dX11_thins_80 rfl rfl ?_
            refine r_getf C mid_20 (hp_20 _) rfl 13 (by decide) in_X11_thins_X11 lk_X11_thins_41 (Or.inl rfl) rfl dX11_thins_81 ?_
            refine r_bipush C dX11_thins_84 (by decide) ?_
            refine r_iload_n C dX11_thins_86 rfl rfl ?_
            refine r_imul C dX11_thins_87 ?_
            refine r_iload_n C dX11_thins_88 rfl rfl ?_
            refine r_iadd C dX11_thins_89 ?_
            refine r_iload C dX11_thins_90 rfl ?_
            refine r_iast (j := 6 * k + (thF S k i).1) C mid_21_13 (hp_21_13 _) rfl (by omega) (by omega) (by decide) (ha_21_13 _ _ _) dX11_thins_92 ?_
            refine mw (hM.pa13 (by omega)) (fun hM => ?_)
            refine r_iinc (lv' := [(2, _), (3, _), (5, _), (0, _), (1, _), (4, _)]) C dX11_thins_93 rfl (hn _ (by decide)) rfl ?_
            have e1 : thF S k (i + 1) = ((thF S k i).1 + 1, (thF S k i).2.1 || hasA (thF S k i).2.2 k (thF S k i).1 ((ctr (ai (thF S k i).2.2 21 13 (6 * k + i)).toNat : Nat) : Int), sa (thF S k i).2.2 21 13 (6 * k + (thF S k i).1) (ai (thF S k i).2.2 21 13 (6 * k + i))) := if_neg (by rw [b2i_0 h40]; decide)
            refine r_iinc (lv' := [(4, _), (2, _), (3, _), (5, _), (0, _), (1, _)]) C dX11_thins_96 rfl (hn _ (by decide)) rfl ?_
            refine r_goto (tgt := 7) C dX11_thins_99 (by decide) ?_
            have ihn := ih (i + 1) (by omega) (by omega)
            rw [e1] at ihn
            exact At_lv (by simp) ihn
          refine r_iload_n C dX11_thins_43 rfl rfl ?_
          refine r_if_ne (tgt := 74) C dX11_thins_44 (by decide) (by omega) (fun h44 => ?_) (fun h44 => ?_)
          · skip
            refine r_iconst C dX11_thins_74 ?_
            refine r_goto (tgt := 79) C dX11_thins_75 (by decide) ?_
            refine At_val (v' := vi (b2i ((thF S k i).2.1 || hasA (thF S k i).2.2 k (thF S k i).1 ((ctr (ai (thF S k i).2.2 21 13 (6 * k + i)).toNat : Nat) : Int)))) (by first | (rw [b2i_1 h44]; done) | (rw [b2i_1 h44]; rfl) | (rw [b2i_0 h44, Bool.false_or]; first | (rw [b2i_1 h71]; done) | (rw [b2i_1 h71]; rfl) | (rw [b2i_0 h71]; done) | (rw [b2i_0 h71]; rfl))) ?_
            exact At_lv (by simp) cut79
          · skip
            refine r_aload_n C dX11_thins_47 rfl rfl ?_
            refine r_iload_n C dX11_thins_48 rfl rfl ?_
            refine r_iload_n C dX11_thins_49 rfl rfl ?_
            refine r_iload C dX11_thins_50 rfl ?_
            refine r_iconst C dX11_thins_52 ?_
            refine r_irem (z := (ai (thF S k i).2.2 21 13 (6 * k + i)) % 2) C dX11_thins_53 (m_n2) (m_irem (by omega) (by omega)) ?_
            refine r_if_ne (tgt := 64) C dX11_thins_54 (by decide) (by omega) (fun h54 => ?_) (fun h54 => ?_)
            · skip
              refine r_iload C dX11_thins_64 rfl ?_
              refine r_iconst C dX11_thins_66 ?_
              refine r_isub C dX11_thins_67 ?_
              refine At_val (v' := vi ((ctr (ai (thF S k i).2.2 21 13 (6 * k + i)).toNat : Nat) : Int)) (by congr 1; unfold ctr; split <;> omega) ?_
              refine r_callV (as := [_, _, _]) (na := 3) (rest := []) C mid_20 (hp_20 _) rfl (M_hasAhead (thF S k i).2.2 k (thF S k i).1 ((ctr (ai (thF S k i).2.2 21 13 (6 * k + i)).toNat : Nat) : Int) hk5 (by omega) (by have := ctr_lt (show (ai (thF S k i).2.2 21 13 (6 * k + i)).toNat < 16 by omega); omega) hM) gX11_thins_X11_hasAhead (by decide +kernel) (by decide) (by decide) rfl (Nat.le_of_ble_eq_true rfl) rfl dX11_thins_68 rfl (fun v1 S1 hp1 => ?_)
              obtain ⟨rfl, e9⟩ := hp1
              subst S1
              refine r_if_eq (tgt := 78) C dX11_thins_71 (by decide) (by have := b2i_01 (hasA (thF S k i).2.2 k (thF S k i).1 ((ctr (ai (thF S k i).2.2 21 13 (6 * k + i)).toNat : Nat) : Int)); omega) (fun h71 => ?_) (fun h71 => ?_)
              · skip
                refine r_iconst C dX11_thins_78 ?_
                refine At_val (v' := vi (b2i ((thF S k i).2.1 || hasA (thF S k i).2.2 k (thF S k i).1 ((ctr (ai (thF S k i).2.2 21 13 (6 * k + i)).toNat : Nat) : Int)))) (by first | (rw [b2i_1 h44]; done) | (rw [b2i_1 h44]; rfl) | (rw [b2i_0 h44, Bool.false_or]; first | (rw [b2i_1 h71]; done) | (rw [b2i_1 h71]; rfl) | (rw [b2i_0 h71]; done) | (rw [b2i_0 h71]; rfl))) ?_
                exact At_lv (by simp) cut79
              · skip
                refine r_iconst C dX11_thins_74 ?_
                refine r_goto (tgt := 79) C dX11_thins_75 (by decide) ?_
                refine At_val (v' := vi (b2i ((thF S k i).2.1 || hasA (thF S k i).2.2 k (thF S k i).1 ((ctr (ai (thF S k i).2.2 21 13 (6 * k + i)).toNat : Nat) : Int)))) (by first | (rw [b2i_1 h44]; done) | (rw [b2i_1 h44]; rfl) | (rw [b2i_0 h44, Bool.false_or]; first | (rw [b2i_1 h71]; done) | (rw [b2i_1 h71]; rfl) | (rw [b2i_0 h71]; done) | (rw [b2i_0 h71]; rfl))) ?_
                exact At_lv (by simp) cut79
            · skip
              refine r_iload C dX11_thins_57 rfl ?_
              refine r_iconst C dX11_thins_59 ?_
              refine r_iadd C dX11_thins_60 ?_
              refine r_goto (tgt := 68) C dX11_thins_61 (by decide) ?_
              refine At_val (v' := vi ((ctr (ai (thF S k i).2.2 21 13 (6 * k + i)).toNat : Nat) : Int)) (by congr 1; unfold ctr; split <;> omega) ?_
              refine r_callV (as := [_, _, _]) (na := 3) (rest := []) C mid_20 (hp_20 _) rfl (M_hasAhead (thF S k i).2.2 k (thF S k i).1 ((ctr (ai (thF S k i).2.2 21 13 (6 * k + i)).toNat : Nat) : Int) hk5 (by omega) (by have := ctr_lt (show (ai (thF S k i).2.2 21 13 (6 * k + i)).toNat < 16 by omega); omega) hM) gX11_thins_X11_hasAhead (by decide +kernel) (by decide) (by decide) rfl (Nat.le_of_ble_eq_true rfl) rfl dX11_thins_68 rfl (fun v1 S1 hp1 => ?_)
              obtain ⟨rfl, e9⟩ := hp1
              subst S1
              refine r_if_eq (tgt := 78) C dX11_thins_71 (by decide) (by have := b2i_01 (hasA (thF S k i).2.2 k (thF S k i).1 ((ctr (ai (thF S k i).2.2 21 13 (6 * k + i)).toNat : Nat) : Int)); omega) (fun h71 => ?_) (fun h71 => ?_)
              · skip
                refine r_iconst C dX11_thins_78 ?_
                refine At_val (v' := vi (b2i ((thF S k i).2.1 || hasA (thF S k i).2.2 k (thF S k i).1 ((ctr (ai (thF S k i).2.2 21 13 (6 * k + i)).toNat : Nat) : Int)))) (by first | (rw [b2i_1 h44]; done) | (rw [b2i_1 h44]; rfl) | (rw [b2i_0 h44, Bool.false_or]; first | (rw [b2i_1 h71]; done) | (rw [b2i_1 h71]; rfl) | (rw [b2i_0 h71]; done) | (rw [b2i_0 h71]; rfl))) ?_
                exact At_lv (by simp) cut79
              · skip
                refine r_iconst C dX11_thins_74 ?_
                refine r_goto (tgt := 79) C dX11_thins_75 (by decide) ?_
                refine At_val (v' := vi (b2i ((thF S k i).2.1 || hasA (thF S k i).2.2 k (thF S k i).1 ((ctr (ai (thF S k i).2.2 21 13 (6 * k + i)).toNat : Nat) : Int)))) (by first | (rw [b2i_1 h44]; done) | (rw [b2i_1 h44]; rfl) | (rw [b2i_0 h44, Bool.false_or]; first | (rw [b2i_1 h71]; done) | (rw [b2i_1 h71]; rfl) | (rw [b2i_0 h71]; done) | (rw [b2i_0 h71]; rfl))) ?_
                exact At_lv (by simp) cut79
  exact At_lv (by simp [thF, b2i]) (loop7 8 0 (by omega) (by omega))
set_option maxHeartbeats 4000000 in
set_option maxRecDepth 100000 in
theorem M_sorts (S : ST) (k : Nat) (hk5 : k < 5) (hM : MI S) : Ct yX11_sorts wsX11_sorts 3 [vr (some (20, 0)), vi (k : Int)] S (fun v1 S1 => v1 = none ∧ S1 = sortF S k) := by
  refine Ct.of (nL := 5) (by decide) rfl (Nat.le_of_ble_eq_true rfl) (by decide) (fun X C Rr hnL => ?_)
  have hn : ∀ i, i < 5 → i < X.2.2.2.2.2 := fun i h => by rw [hnL]; exact h
  have hM0 := hM
  have h12 := hM.a12 k
  have hR13 : ∀ j, (0 : Int) ≤ ai S 21 13 j ∧ ai S 21 13 j ≤ 15 := hM.a13
  refine r_iconst C dX11_sorts_0 ?_
  refine r_istore_n (lv' := [(2, _), (0, _), (1, _)]) C dX11_sorts_1 rfl (hn _ (by decide)) rfl ?_
  have loop2 : ∀ (f i : Nat) (hk : 8 - i < f) (h1 : 1 ≤ i) (hi : i = 1 ∨ (i : Int) ≤ ai S 21 12 k), At X 0 0 2 [(0, vr (some (20, 0))), (1, vi (k : Int)), (2, vi (i : Int))] [] (sA S 13 (srtA (ltM S) (ai S 21 13) (6 * k) i)) := by
    intro kf
    induction kf with
    | zero => intro i hk h1 hi; exact absurd hk (by omega)
    | succ kf ih =>
      intro i hk h1 hi
      have hM : MI (sA S 13 (srtA (ltM S) (ai S 21 13) (6 * k) i)) := hM0.sA (fun j => srtA_R hR13 _ _ j)
      refine r_iload_n C dX11_sorts_2 rfl rfl ?_
      refine r_aload_n C dX11_sorts_3 rfl rfl ?_
      refine r_getf C mid_20 (hp_20 _) rfl 12 (by decide) in_X11_sorts_X11 lk_X11_sorts_38 (Or.inl rfl) rfl dX11_sorts_4 ?_
      refine r_iload_n C dX11_sorts_7 rfl rfl ?_
      refine r_iald (j := _) C mid_21_12 (hp_21_12 _) rfl (rfl) (by omega) (by decide) dX11_sorts_8 ?_
      refine mr hM.a12 (fun hA8 => ?_)
      refine At_val (v' := vi (ai S 21 12 k)) (rfl) ?_
      refine r_icmp_ge (tgt := 105) C dX11_sorts_9 (by decide) (by omega) (by omega) (fun h9 => ?_) (fun h9 => ?_)
      · skip
        exact r_vret C Rr (⟨rfl, by unfold sortF; rcases hi with hi | hi; rw [hi, srtA_0 _ _ _ 1 (Nat.le_refl 1), srtA_0 _ _ _ (ai S 21 12 k).toNat (by omega)]; rw [show i = (ai S 21 12 k).toNat by omega]⟩) dX11_sorts_105
      · skip
        refine r_aload_n C dX11_sorts_12 rfl rfl ?_
        refine r_getf C mid_20 (hp_20 _) rfl 13 (by decide) in_X11_sorts_X11 lk_X11_sorts_41 (Or.inl rfl) rfl dX11_sorts_13 ?_
        refine r_bipush C dX11_sorts_16 (by decide) ?_
        refine r_iload_n C dX11_sorts_18 rfl rfl ?_
        refine r_imul C dX11_sorts_19 ?_
        refine r_iload_n C dX11_sorts_20 rfl rfl ?_
        refine r_iadd C dX11_sorts_21 ?_
        refine r_iald (j := 6 * k + i) C mid_21_13 (hp_21_13 _) rfl (by omega) (by omega) (by decide) dX11_sorts_22 ?_
        refine mr hM.a13 (fun hA22 => ?_)
        refine At_val (v' := vi (ai S 21 13 (6 * k + i))) (by rw [ai_sA, srtA_in (by omega), srt_out _ _ _ _ (Nat.le_refl i)]) ?_
        have hvv := hR13 (6 * k + i)
        refine r_istore_n (lv' := [(3, _), (0, _), (1, _), (2, _)]) C dX11_sorts_23 rfl (hn _ (by decide)) rfl ?_
        refine r_iload_n C dX11_sorts_24 rfl rfl ?_
        refine r_istore (lv' := [(4, _), (3, _), (0, _), (1, _), (2, _)]) C dX11_sorts_25 (hn _ (by decide)) rfl ?_
        have loop27 : ∀ (f a : Nat) (hk2 : a < f) (ha : a ≤ i) (hp : posn (ltM S) (srt (ltM S) (fun j => ai S 21 13 (6 * k + j)) i) (ai S 21 13 (6 * k + i)) i = posn (ltM S) (srt (ltM S) (fun j => ai S 21 13 (6 * k + j)) i) (ai S 21 13 (6 * k + i)) a), At X 0 0 27 [(0, vr (some (20, 0))), (1, vi (k : Int)), (2, vi (i : Int)), (3, vi (ai S 21 13 (6 * k + i))), (4, vi (a : Int))] [] (sA S 13 (shA (srtA (ltM S) (ai S 21 13) (6 * k) i) (6 * k) i a)) := by
          intro kf
          induction kf with
          | zero => intro a hk2 ha hp; exact absurd hk2 (by omega)
          | succ kf ih2 =>
            intro a hk2 ha hp
            have hM : MI (sA S 13 (shA (srtA (ltM S) (ai S 21 13) (6 * k) i) (6 * k) i a)) := hM0.sA (fun j => shA_R (fun j => srtA_R hR13 _ _ j) _ _ _ j)
            have hGb := srt_R (lt := (ltM S)) (A := fun j => ai S 21 13 (6 * k + j)) (fun j => hR13 (6 * k + j)) i (a - 1)
            refine r_iload C dX11_sorts_27 rfl ?_
            refine r_if_le (tgt := 86) C dX11_sorts_29 (by decide) (by omega) (fun h29 => ?_) (fun h29 => ?_)
            · skip
              have hpa : posn (ltM S) (srt (ltM S) (fun j => ai S 21 13 (6 * k + j)) i) (ai S 21 13 (6 * k + i)) i = a := by rw [hp, show a = 0 by omega]; rfl
              refine r_aload_n C dX11_sorts_86 rfl rfl ?_
              refine r_getf C mid_20 (hp_20 _) rfl 13 (by decide) in_X11_sorts_X11 lk_X11_sorts_41 (Or.inl rfl) rfl dX11_sorts_87 ?_
              refine r_bipush C dX11_sorts_90 (by decide) ?_
              refine r_iload_n C dX11_sorts_92 rfl rfl ?_
              refine r_imul C dX11_sorts_93 ?_
              refine r_iload C dX11_sorts_94 rfl ?_
              refine r_iadd C dX11_sorts_96 ?_
              refine r_iload_n C dX11_sorts_97 rfl rfl ?_
              refine r_iast (j := 6 * k + a) C mid_21_13 (hp_21_13 _) rfl (by omega) (by omega) (by decide) (ha_21_13 _ _ _) dX11_sorts_98 ?_
              refine mw (hM.pa13 (hR13 _)) (fun hM => ?_)
              rw [sa_sA, srtA_ins (by omega) ha hpa]
              refine r_iinc (lv' := [(2, _), (0, _), (1, _), (3, _), (4, _)]) C dX11_sorts_99 rfl (hn _ (by decide)) rfl ?_
              refine r_goto (tgt := 2) C dX11_sorts_102 (by decide) ?_
              exact At_lv (by simp) (ih (i + 1) (by omega) (by omega) (by omega))
            · skip
              refine r_aload_n C dX11_sorts_32 rfl rfl ?_
              refine r_iload_n C dX11_sorts_33 rfl rfl ?_
              refine r_aload_n C dX11_sorts_34 rfl rfl ?_
              refine r_getf C mid_20 (hp_20 _) rfl 13 (by decide) in_X11_sorts_X11 lk_X11_sorts_41 (Or.inl rfl) rfl dX11_sorts_35 ?_
              refine r_bipush C dX11_sorts_38 (by decide) ?_
              refine r_iload_n C dX11_sorts_40 rfl rfl ?_
              refine r_imul C dX11_sorts_41 ?_
              refine r_iload C dX11_sorts_42 rfl ?_
              refine r_iadd C dX11_sorts_44 ?_
              refine r_iconst C dX11_sorts_45 ?_
              refine r_isub C dX11_sorts_46 ?_
              refine r_iald (j := 6 * k + a - 1) C mid_21_13 (hp_21_13 _) rfl (by omega) (by omega) (by decide) dX11_sorts_47 ?_
              refine mr hM.a13 (fun hA47 => ?_)
              refine At_val (v' := vi ((srt (ltM S) (fun j => ai S 21 13 (6 * k + j)) i) (a - 1))) (by rw [ai_sA, shA_at (by omega), show 6 * k + a - 1 = 6 * k + (a - 1) by omega, srtA_in (by omega)]) ?_
              refine r_callV (as := [_, _]) (na := 2) (rest := []) C mid_20 (hp_20 _) rfl (M_isAhead (sA S 13 (shA (srtA (ltM S) (ai S 21 13) (6 * k) i) (6 * k) i a)) (ai S 21 13 (6 * k + i)) ((srt (ltM S) (fun j => ai S 21 13 (6 * k + j)) i) (a - 1)) (by omega) (by omega) hM) gX11_sorts_X11_isAhead (by decide +kernel) (by decide) (by decide) rfl (Nat.le_of_ble_eq_true rfl) rfl dX11_sorts_48 rfl (fun v1 S1 hp1 => ?_)
              obtain ⟨rfl, e9⟩ := hp1
              subst S1
              change At X _ _ _ _ (vi (b2i (ltM S (ai S 21 13 (6 * k + i)) ((srt (ltM S) (fun j => ai S 21 13 (6 * k + j)) i) (a - 1)))) :: _) _
              refine r_if_eq (tgt := 86) C dX11_sorts_51 (by decide) (by have := b2i_01 (ltM S (ai S 21 13 (6 * k + i)) ((srt (ltM S) (fun j => ai S 21 13 (6 * k + j)) i) (a - 1))); omega) (fun h51 => ?_) (fun h51 => ?_)
              · skip
                have hpa : posn (ltM S) (srt (ltM S) (fun j => ai S 21 13 (6 * k + j)) i) (ai S 21 13 (6 * k + i)) i = a := by rw [hp]; exact posn_at (b2i_0 h51) (by omega)
                refine r_aload_n C dX11_sorts_86 rfl rfl ?_
                refine r_getf C mid_20 (hp_20 _) rfl 13 (by decide) in_X11_sorts_X11 lk_X11_sorts_41 (Or.inl rfl) rfl dX11_sorts_87 ?_
                refine r_bipush C dX11_sorts_90 (by decide) ?_
                refine r_iload_n C dX11_sorts_92 rfl rfl ?_
                refine r_imul C dX11_sorts_93 ?_
                refine r_iload C dX11_sorts_94 rfl ?_
                refine r_iadd C dX11_sorts_96 ?_
                refine r_iload_n C dX11_sorts_97 rfl rfl ?_
                refine r_iast (j := 6 * k + a) C mid_21_13 (hp_21_13 _) rfl (by omega) (by omega) (by decide) (ha_21_13 _ _ _) dX11_sorts_98 ?_
                refine mw (hM.pa13 (hR13 _)) (fun hM => ?_)
                rw [sa_sA, srtA_ins (by omega) ha hpa]
                refine r_iinc (lv' := [(2, _), (0, _), (1, _), (3, _), (4, _)]) C dX11_sorts_99 rfl (hn _ (by decide)) rfl ?_
                refine r_goto (tgt := 2) C dX11_sorts_102 (by decide) ?_
                exact At_lv (by simp) (ih (i + 1) (by omega) (by omega) (by omega))
              · skip
                refine r_aload_n C dX11_sorts_54 rfl rfl ?_
                refine r_getf C mid_20 (hp_20 _) rfl 13 (by decide) in_X11_sorts_X11 lk_X11_sorts_41 (Or.inl rfl) rfl dX11_sorts_55 ?_
                refine r_bipush C dX11_sorts_58 (by decide) ?_
                refine r_iload_n C dX11_sorts_60 rfl rfl ?_
                refine r_imul C dX11_sorts_61 ?_
                refine r_iload C dX11_sorts_62 rfl ?_
                refine r_iadd C dX11_sorts_64 ?_
                refine r_aload_n C dX11_sorts_65 rfl rfl ?_
                refine r_getf C mid_20 (hp_20 _) rfl 13 (by decide) in_X11_sorts_X11 lk_X11_sorts_41 (Or.inl rfl) rfl dX11_sorts_66 ?_
                refine r_bipush C dX11_sorts_69 (by decide) ?_
                refine r_iload_n C dX11_sorts_71 rfl rfl ?_
                refine r_imul C dX11_sorts_72 ?_
                refine r_iload C dX11_sorts_73 rfl ?_
                refine r_iadd C dX11_sorts_75 ?_
                refine r_iconst C dX11_sorts_76 ?_
                refine r_isub C dX11_sorts_77 ?_
                refine r_iald (j := 6 * k + a - 1) C mid_21_13 (hp_21_13 _) rfl (by omega) (by omega) (by decide) dX11_sorts_78 ?_
                refine mr hM.a13 (fun hA78 => ?_)
                refine At_val (v' := vi ((srtA (ltM S) (ai S 21 13) (6 * k) i) (6 * k + a - 1))) (by rw [ai_sA, shA_at (by omega)]) ?_
                refine r_iast (j := 6 * k + a) C mid_21_13 (hp_21_13 _) rfl (by omega) (by omega) (by decide) (ha_21_13 _ _ _) dX11_sorts_79 ?_
                refine mw (hM.pa13 (srtA_R hR13 _ _ _)) (fun hM => ?_)
                rw [sa_sA, shA_dn (by omega) ha]
                refine r_iinc (lv' := [(4, _), (0, _), (1, _), (2, _), (3, _)]) C dX11_sorts_80 rfl (hn _ (by decide)) rfl ?_
                refine r_goto (tgt := 27) C dX11_sorts_83 (by decide) ?_
                exact At_lv (by simp; omega) (ih2 (a - 1) (by omega) (by omega) (by rw [hp]; exact posn_up (b2i_1 h51) (by omega)))
        rw [← shA_k (srtA (ltM S) (ai S 21 13) (6 * k) i) (6 * k) i]
        exact At_lv (by simp) (loop27 (i + 1) i (by omega) (by omega) rfl)
  rw [← sA_self S 13, ← srtA_0 (ltM S) (ai S 21 13) (6 * k) 1 (Nat.le_refl 1)]
  exact At_lv (by simp) (loop2 9 1 (by omega) (by omega) (Or.inl rfl))
set_option maxHeartbeats 4000000 in
set_option maxRecDepth 100000 in
theorem M_estimates (S : ST) (k : Nat) (hk5 : k < 5) (hn2 : ai S 21 10 k = 2 → 1 ≤ ai S 21 11 k) (hM : MI S) : Ct yX11_estimates wsX11_estimates 2 [vr (some (20, 0)), vi (k : Int)] S (fun v1 S1 => v1 = none ∧ S1 = estF S k) := by
  refine Ct.of (nL := 6) (by decide) rfl (Nat.le_of_ble_eq_true rfl) (by decide) (fun X C Rr hnL => ?_)
  have hn : ∀ i, i < 6 → i < X.2.2.2.2.2 := fun i h => by rw [hnL]; exact h
  have h12 := hM.a12 k
  have h10 := hM.a10 k
  have h11 := hM.a11 k
  refine r_bipush C dX11_estimates_0 (by decide) ?_
  refine r_istore_n (lv' := [(2, _), (0, _), (1, _)]) C dX11_estimates_2 rfl (hn _ (by decide)) rfl ?_
  refine r_iconst C dX11_estimates_3 ?_
  refine r_istore_n (lv' := [(3, _), (2, _), (0, _), (1, _)]) C dX11_estimates_4 rfl (hn _ (by decide)) rfl ?_
  refine r_iconst C dX11_estimates_5 ?_
  refine r_istore (lv' := [(4, _), (3, _), (2, _), (0, _), (1, _)]) C dX11_estimates_6 (hn _ (by decide)) rfl ?_
  have loop8 : ∀ (f i : Nat) (hk : 7 - i < f) (hi : (i : Int) ≤ ai S 21 12 k), At X 0 0 8 [(0, vr (some (20, 0))), (1, vi (k : Int)), (2, vi (leastF (mest S k) 40 i)), (3, vi (sumF (mest S k) i)), (4, vi (i : Int))] [] S := by
    intro kf
    induction kf with
    | zero => intro i hk hi; exact absurd hk (by omega)
    | succ kf ih =>
      intro i hk hi
      have hlb := leastF_b (e := mest S k) (m := 40) (by omega) i (fun j _ => mest_b j)
      have hsb := sumF_b (e := mest S k) i (fun j _ => mest_b j)
      refine r_iload C dX11_estimates_8 rfl ?_
      refine r_aload_n C dX11_estimates_10 rfl rfl ?_
      refine r_getf C mid_20 (hp_20 _) rfl 12 (by decide) in_X11_estimates_X11 lk_X11_estimates_38 (Or.inl rfl) rfl dX11_estimates_11 ?_
      refine r_iload_n C dX11_estimates_14 rfl rfl ?_
      refine r_iald (j := _) C mid_21_12 (hp_21_12 _) rfl (rfl) (by omega) (by decide) dX11_estimates_15 ?_
      refine mr hM.a12 (fun hA15 => ?_)
      refine r_icmp_ge (tgt := 61) C dX11_estimates_16 (by decide) (by omega) (by omega) (fun h16 => ?_) (fun h16 => ?_)
      · skip
        have ei : i = (ai S 21 12 k).toNat := by omega
        subst ei
        refine r_aload_n C dX11_estimates_61 rfl rfl ?_
        refine r_getf C mid_20 (hp_20 _) rfl 14 (by decide) in_X11_estimates_X11 lk_X11_estimates_44 (Or.inl rfl) rfl dX11_estimates_62 ?_
        refine r_iload_n C dX11_estimates_65 rfl rfl ?_
        refine r_aload_n C dX11_estimates_66 rfl rfl ?_
        refine r_aload_n C dX11_estimates_67 rfl rfl ?_
        refine r_getf C mid_20 (hp_20 _) rfl 10 (by decide) in_X11_estimates_X11 lk_X11_estimates_32 (Or.inl rfl) rfl dX11_estimates_68 ?_
        refine r_iload_n C dX11_estimates_71 rfl rfl ?_
        refine r_iald (j := _) C mid_21_10 (hp_21_10 _) rfl (rfl) (by omega) (by decide) dX11_estimates_72 ?_
        refine mr hM.a10 (fun hA72 => ?_)
        refine r_aload_n C dX11_estimates_73 rfl rfl ?_
        refine r_getf C mid_20 (hp_20 _) rfl 11 (by decide) in_X11_estimates_X11 lk_X11_estimates_35 (Or.inl rfl) rfl dX11_estimates_74 ?_
        refine r_iload_n C dX11_estimates_77 rfl rfl ?_
        refine r_iald (j := _) C mid_21_11 (hp_21_11 _) rfl (rfl) (by omega) (by decide) dX11_estimates_78 ?_
        refine mr hM.a11 (fun hA78 => ?_)
        refine r_iload_n C dX11_estimates_79 rfl rfl ?_
        refine r_iload_n C dX11_estimates_80 rfl rfl ?_
        refine r_callV (as := [_, _, _, _]) (na := 4) (rest := [_, _]) C mid_20 (hp_20 _) rfl (M_estimated S (ai S 21 10 k) (ai S 21 11 k) (leastF (mest S k) 40 (ai S 21 12 k).toNat) (sumF (mest S k) (ai S 21 12 k).toNat) h10 h11 hn2 hlb ⟨hsb.1, by omega⟩ hM) gX11_estimates_X11_estimated (by decide +kernel) (by decide) (by decide) rfl (Nat.le_of_ble_eq_true rfl) rfl dX11_estimates_81 rfl (fun v1 S1 hp1 => ?_)
        obtain ⟨rfl, e9⟩ := hp1
        subst S1
        refine r_iast (j := _) C mid_21_14 (hp_21_14 _) rfl (rfl) (by omega) (by decide) (ha_21_14 _ _ _) dX11_estimates_84 ?_
        refine mw (hM.pa14 (estM_b hlb hsb.1 (by have := mmany_le S; omega) hn2)) (fun hM => ?_)
        exact r_vret C Rr (⟨rfl, rfl⟩) dX11_estimates_85
      · skip
        refine r_aload_n C dX11_estimates_19 rfl rfl ?_
        refine r_aload_n C dX11_estimates_20 rfl rfl ?_
        refine r_getf C mid_20 (hp_20 _) rfl 13 (by decide) in_X11_estimates_X11 lk_X11_estimates_41 (Or.inl rfl) rfl dX11_estimates_21 ?_
        refine r_bipush C dX11_estimates_24 (by decide) ?_
        refine r_iload_n C dX11_estimates_26 rfl rfl ?_
        refine r_imul C dX11_estimates_27 ?_
        refine r_iload C dX11_estimates_28 rfl ?_
        refine r_iadd C dX11_estimates_30 ?_
        refine r_iald (j := 6 * k + i) C mid_21_13 (hp_21_13 _) rfl (by omega) (by omega) (by decide) dX11_estimates_31 ?_
        refine mr hM.a13 (fun hA31 => ?_)
        refine At_val (v' := vi ((ai S 21 13 (6 * k + i)).toNat : Int)) (by congr 1; omega) ?_
        refine r_callV (as := [_]) (na := 1) (rest := []) C mid_20 (hp_20 _) rfl (M_count0 S (ai S 21 13 (6 * k + i)).toNat (by omega) hM) gX11_estimates_X11_count0 (by decide +kernel) (by decide) (by decide) rfl (Nat.le_of_ble_eq_true rfl) rfl dX11_estimates_32 rfl (fun v1 S1 hp1 => ?_)
        obtain ⟨rfl, e9⟩ := hp1
        subst S1
        have hmc := mest_b (S := S) (k := k) i
        change At X _ _ _ _ (vi (mest S k i) :: _) _
        refine r_istore (lv' := [(5, _), (0, _), (1, _), (2, _), (3, _), (4, _)]) C dX11_estimates_35 (hn _ (by decide)) rfl ?_
        refine r_iload C dX11_estimates_37 rfl ?_
        refine r_iload_n C dX11_estimates_39 rfl rfl ?_
        refine r_icmp_ge (tgt := 48) C dX11_estimates_40 (by decide) (by omega) (by omega) (fun h40 => ?_) (fun h40 => ?_)
        · skip
          refine r_iload_n C dX11_estimates_48 rfl rfl ?_
          refine At_val (v' := vi (min (leastF (mest S k) 40 i) (mest S k i))) (by congr 1; omega) ?_
          refine r_istore_n (lv' := [(2, _), (5, _), (0, _), (1, _), (3, _), (4, _)]) C dX11_estimates_49 rfl (hn _ (by decide)) rfl ?_
          refine r_iload_n C dX11_estimates_50 rfl rfl ?_
          refine r_iload C dX11_estimates_51 rfl ?_
          refine r_iadd C dX11_estimates_53 ?_
          refine r_istore_n (lv' := [(3, _), (2, _), (5, _), (0, _), (1, _), (4, _)]) C dX11_estimates_54 rfl (hn _ (by decide)) rfl ?_
          refine r_iinc (lv' := [(4, _), (3, _), (2, _), (5, _), (0, _), (1, _)]) C dX11_estimates_55 rfl (hn _ (by decide)) rfl ?_
          refine r_goto (tgt := 8) C dX11_estimates_58 (by decide) ?_
          exact At_lv (by simp [leastF, sumF]) (ih (i + 1) (by omega) (by omega))
        · skip
          refine r_iload C dX11_estimates_43 rfl ?_
          refine r_goto (tgt := 49) C dX11_estimates_45 (by decide) ?_
          refine At_val (v' := vi (min (leastF (mest S k) 40 i) (mest S k i))) (by congr 1; omega) ?_
          refine r_istore_n (lv' := [(2, _), (5, _), (0, _), (1, _), (3, _), (4, _)]) C dX11_estimates_49 rfl (hn _ (by decide)) rfl ?_
          refine r_iload_n C dX11_estimates_50 rfl rfl ?_
          refine r_iload C dX11_estimates_51 rfl ?_
          refine r_iadd C dX11_estimates_53 ?_
          refine r_istore_n (lv' := [(3, _), (2, _), (5, _), (0, _), (1, _), (4, _)]) C dX11_estimates_54 rfl (hn _ (by decide)) rfl ?_
          refine r_iinc (lv' := [(4, _), (3, _), (2, _), (5, _), (0, _), (1, _)]) C dX11_estimates_55 rfl (hn _ (by decide)) rfl ?_
          refine r_goto (tgt := 8) C dX11_estimates_58 (by decide) ?_
          exact At_lv (by simp [leastF, sumF]) (ih (i + 1) (by omega) (by omega))
  exact At_lv (by simp [leastF, sumF]) (loop8 8 0 (by omega) (by omega))
