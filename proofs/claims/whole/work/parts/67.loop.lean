set_option maxHeartbeats 4000000 in
set_option maxRecDepth 100000 in
theorem law_loop {X : XT} {b L : Nat} {xs : Nat → Int32} (C : Cx X code RL wsL_law 30) (T : LX X b L xs) (hn : ∀ j, j < 7 → j < X.2.2.2.2.2) (hL : L ≤ 2048) : ∀ (f i c t : Nat) (S : ST) (lv : List (Nat × AV)), L + 4 - i < f → i ≤ L + 3 → c ≤ 600000 + i → t ≤ 7000000 + 6 * i → INV S → (∀ q ∈ [(0, vr (some (99, 0))), (1, vr (some (0, 0))), (2, vr (some (20, 0))), (3, vr (some (30, 0))), (4, vi (i : Int))], q ∈ lv) → At X c t 23 lv [] S := by
  intro f
  induction f with
  | zero => intro i c t S lv hf; omega
  | succ f ih =>
    intro i c t S lv hf hi hc ht hI hlv
    have hr := T.room
    have hrc : X.1.2.2.2.1.cells = 646601 := by rw [hr]; rfl
    have hrs : X.1.2.2.2.1.slots = 7156300 := by rw [hr]; rfl
    refine At_lv hlv ?_
    refine r_iload C dL_law_23 rfl ?_
    refine r_aload_n C dL_law_25 rfl rfl ?_
    refine l_slen C T dL_law_26 ?_
    refine r_iconst C dL_law_27 ?_
    refine r_isub C dL_law_28 ?_
    refine r_icmp_gt (tgt := 1130) C dL_law_29 (by decide) (by omega) (by omega) (fun h => ?_) (fun h => ?_)
    · refine r_iconst C dL_law_1130 ?_
      exact l_ret C T (by omega) (by omega) dL_law_1131
    have hi4 : i + 4 ≤ L := by omega
    have back : ∀ (c2 t2 : Nat) (lv : List (Nat × AV)) (S2 : ST), c2 ≤ c + 2 → t2 ≤ t + 12 → INV S2 → (∀ q ∈ [(0, vr (some (99, 0))), (1, vr (some (0, 0))), (2, vr (some (20, 0))), (3, vr (some (30, 0))), (4, vi (i : Int))], q ∈ lv) → At X c2 t2 1124 lv [] S2 := fun c2 t2 lv S2 h1 h2 h3 h4 => by
      refine At_lv h4 ?_
      refine r_iinc (z := (i : Int)) (lv' := [(4, vi (((i + 4 : Nat)) : Int)), (0, vr (some (99, 0))), (1, vr (some (0, 0))), (2, vr (some (20, 0))), (3, vr (some (30, 0)))]) C dL_law_1124 rfl (hn _ (by decide)) rfl ?_
      refine r_goto (tgt := 23) C dL_law_1127 (by decide) ?_
      exact ih (i + 4) c2 t2 S2 _ (by omega) (by omega) (by omega) (by omega) h3 (by simp)
    refine r_aload_n C dL_law_32 rfl rfl ?_
    refine r_iload C dL_law_33 rfl ?_
    refine l_sld (j := i) C T rfl (by omega) dL_law_35 ?_
    refine r_bipush C dL_law_36 (by decide) ?_
    refine r_iand (z := (Int32.ofInt (xs i).toInt &&& Int32.ofInt 31).toInt) C dL_law_38 (i32_of _).symm ?_
    have hz := i32_rng (Int32.ofInt (xs i).toInt &&& Int32.ofInt 31)
    generalize (Int32.ofInt (xs i).toInt &&& Int32.ofInt 31).toInt = z at hz ⊢
    by_cases q0 : z = 0
    · exact r_tin (off := 97) (tgt := 136) C dL_law_39 hz (by omega) (by omega) (by rw [q0]; rfl) (by decide) (k_put C T hn hi4 hI (by omega) (by omega) (by omega) (by omega) back)
    by_cases q1 : z = 1
    · exact r_tin (off := 172) (tgt := 211) C dL_law_39 hz (by omega) (by omega) (by rw [q1]; rfl) (by decide) (k_drop C T hn hi4 hI (by omega) (by omega) (by omega) (by omega) back)
    by_cases q2 : z = 2
    · exact r_tin (off := 235) (tgt := 274) C dL_law_39 hz (by omega) (by omega) (by rw [q2]; rfl) (by decide) (k_documents C T hn hi4 hI (by omega) (by omega) (by omega) (by omega) back)
    by_cases q3 : z = 3
    · exact r_tin (off := 248) (tgt := 287) C dL_law_39 hz (by omega) (by omega) (by rw [q3]; rfl) (by decide) (k_count C T hn hi4 hI (by omega) (by omega) (by omega) (by omega) back)
    by_cases q4 : z = 4
    · exact r_tin (off := 304) (tgt := 343) C dL_law_39 hz (by omega) (by omega) (by rw [q4]; rfl) (by decide) (k_ask C T hn hi4 hI (by omega) (by omega) (by omega) (by omega) back)
    by_cases q5 : z = 5
    · exact r_tin (off := 372) (tgt := 411) C dL_law_39 hz (by omega) (by omega) (by rw [q5]; rfl) (by decide) (k_clause C T hn hi4 hI (by omega) (by omega) (by omega) (by omega) back)
    by_cases q6 : z = 6
    · exact r_tin (off := 468) (tgt := 507) C dL_law_39 hz (by omega) (by omega) (by rw [q6]; rfl) (by decide) (k_literal C T hn hi4 hI (by omega) (by omega) (by omega) (by omega) back)
    by_cases q7 : z = 7
    · exact r_tin (off := 564) (tgt := 603) C dL_law_39 hz (by omega) (by omega) (by rw [q7]; rfl) (by decide) (k_matches C T hn hi4 hI (by omega) (by omega) (by omega) (by omega) back)
    by_cases q8 : z = 8
    · exact r_tin (off := 627) (tgt := 666) C dL_law_39 hz (by omega) (by omega) (by rw [q8]; rfl) (by decide) (k_hits C T hn hi4 hI (by omega) (by omega) (by omega) (by omega) back)
    by_cases q9 : z = 9
    · exact r_tin (off := 640) (tgt := 679) C dL_law_39 hz (by omega) (by omega) (by rw [q9]; rfl) (by decide) (k_planKind C T hn hi4 hI (by omega) (by omega) (by omega) (by omega) back)
    by_cases q10 : z = 10
    · exact r_tin (off := 653) (tgt := 692) C dL_law_39 hz (by omega) (by omega) (by rw [q10]; rfl) (by decide) (k_planNeed C T hn hi4 hI (by omega) (by omega) (by omega) (by omega) back)
    by_cases q11 : z = 11
    · exact r_tin (off := 666) (tgt := 705) C dL_law_39 hz (by omega) (by omega) (by rw [q11]; rfl) (by decide) (k_planSize C T hn hi4 hI (by omega) (by omega) (by omega) (by omega) back)
    by_cases q12 : z = 12
    · exact r_tin (off := 679) (tgt := 718) C dL_law_39 hz (by omega) (by omega) (by rw [q12]; rfl) (by decide) (k_estimate C T hn hi4 hI (by omega) (by omega) (by omega) (by omega) back)
    by_cases q13 : z = 13
    · exact r_tin (off := 692) (tgt := 731) C dL_law_39 hz (by omega) (by omega) (by rw [q13]; rfl) (by decide) (k_clauseAt C T hn hi4 hI (by omega) (by omega) (by omega) (by omega) back)
    by_cases q14 : z = 14
    · exact r_tin (off := 748) (tgt := 787) C dL_law_39 hz (by omega) (by omega) (by rw [q14]; rfl) (by decide) (k_kindAt C T hn hi4 hI (by omega) (by omega) (by omega) (by omega) back)
    by_cases q15 : z = 15
    · exact r_tin (off := 804) (tgt := 843) C dL_law_39 hz (by omega) (by omega) (by rw [q15]; rfl) (by decide) (k_estimateAt C T hn hi4 hI (by omega) (by omega) (by omega) (by omega) back)
    by_cases q16 : z = 16
    · exact r_tin (off := 860) (tgt := 899) C dL_law_39 hz (by omega) (by omega) (by rw [q16]; rfl) (by decide) (k_literalAt C T hn hi4 hI (by omega) (by omega) (by omega) (by omega) back)
    by_cases q17 : z = 17
    · exact r_tin (off := 928) (tgt := 967) C dL_law_39 hz (by omega) (by omega) (by rw [q17]; rfl) (by decide) (k_begin C T hn hi4 hI (by omega) (by omega) (by omega) (by omega) back)
    by_cases q18 : z = 18
    · exact r_tin (off := 941) (tgt := 980) C dL_law_39 hz (by omega) (by omega) (by rw [q18]; rfl) (by decide) (k_leap C T hn hi4 hI (by omega) (by omega) (by omega) (by omega) back)
    by_cases q19 : z = 19
    · exact r_tin (off := 997) (tgt := 1036) C dL_law_39 hz (by omega) (by omega) (by rw [q19]; rfl) (by decide) (k_next C T hn hi4 hI (by omega) (by omega) (by omega) (by omega) back)
    by_cases q20 : z = 20
    · exact r_tin (off := 1041) (tgt := 1080) C dL_law_39 hz (by omega) (by omega) (by rw [q20]; rfl) (by decide) (k_readings C T hn hi4 hI (by omega) (by omega) (by omega) (by omega) back)
    exact r_tout (tgt := 1124) C dL_law_39 hz (by omega) (by decide) (back c t _ S (by omega) (by omega) hI (by simp))
