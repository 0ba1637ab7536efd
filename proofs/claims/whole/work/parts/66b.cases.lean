set_option maxHeartbeats 4000000 in
set_option maxRecDepth 100000 in
theorem k_literal {X : XT} {b L c t i : Nat} {xs : Nat → Int32} (C : Cx X code RL wsL_law 30) (T : LX X b L xs) (hn : ∀ j, j < 7 → j < X.2.2.2.2.2) (hi : i + 4 ≤ L) {S : ST} (hI : INV S) (hc : c + 2 ≤ 646601) (ht : t + 12 ≤ 7156300) (hcf : c + 2 ≤ X.1.2.2.2.1.cells) (hsf : t + 12 ≤ X.1.2.2.2.1.slots) (back : ∀ (c2 t2 : Nat) (lv : List (Nat × AV)) (S2 : ST), c2 ≤ c + 2 → t2 ≤ t + 12 → INV S2 → (∀ q ∈ [(0, vr (some (99, 0))), (1, vr (some (0, 0))), (2, vr (some (20, 0))), (3, vr (some (30, 0))), (4, vi (i : Int))], q ∈ lv) → At X c2 t2 1124 lv [] S2) : At X c t 507 [(0, vr (some (99, 0))), (1, vr (some (0, 0))), (2, vr (some (20, 0))), (3, vr (some (30, 0))), (4, vi (i : Int))] [] S := by
  have hxr : ∀ j, -2147483648 ≤ (xs j).toInt ∧ (xs j).toInt < 2147483648 := fun j => i32_rng (xs j)
  obtain ⟨⟨hCI, hMI, hRK⟩, hQs, -⟩ := id hI
  obtain ⟨hb, hg⟩ := hI.run
  have hcl : c ≤ X.1.2.2.2.1.cells := by omega
  have hsl : t ≤ X.1.2.2.2.1.slots := by omega
  have hcl1 : c + 1 ≤ X.1.2.2.2.1.cells := by omega
  have hsl1 : t + 6 * 1 ≤ X.1.2.2.2.1.slots := by omega
  have hsl2 : t + 6 * 2 ≤ X.1.2.2.2.1.slots := by omega
  have e4 : iv S 20 4 0 = iv S 3 3 0 := hQs.2.1.2.2.symm
  have h35 := hCI.2.2.1
  obtain ⟨bv, hbv⟩ : ∃ z : Int, z = (if (xs (i + 3)).toInt = 0 then 0 else 1) := ⟨_, rfl⟩
  have hb01 : bv = 0 ∨ bv = 1 := by rw [hbv]; split <;> omega
  refine r_aload_n C dL_law_507 rfl rfl ?_
  refine r_aload_n C dL_law_508 rfl rfl ?_
  refine r_iload C dL_law_509 rfl ?_
  refine r_iconst C dL_law_511 ?_
  refine r_iadd C dL_law_512 ?_
  refine l_sld (j := i + 1) C T (by omega) (by omega) dL_law_513 ?_
  refine r_aload_n C dL_law_514 rfl rfl ?_
  refine r_iload C dL_law_515 rfl ?_
  refine r_iconst C dL_law_517 ?_
  refine r_iadd C dL_law_518 ?_
  refine l_sld (j := i + 2) C T (by omega) (by omega) dL_law_519 ?_
  refine r_aload_n C dL_law_520 rfl rfl ?_
  refine r_iload C dL_law_521 rfl ?_
  refine r_iconst C dL_law_523 ?_
  refine r_iadd C dL_law_524 ?_
  refine l_sld (j := i + 3) C T (by omega) (by omega) dL_law_525 ?_
  refine At_if01 (v := bv) (tgt := 533) (jn := 534) C dL_law_526 dL_law_533 dL_law_529 dL_law_530 (by decide) (by decide) rfl (hxr _) hbv ?_
  refine r_aload_n C dL_law_534 rfl rfl ?_
  refine l_callH (as := [vr (some (0, 0)), vi (xs (i + 1)).toInt, vi (xs (i + 2)).toInt, vi bv, vr (some (30, 0))]) (na := 5) (rest := []) C T (l_literal S (xs (i + 1)).toInt (xs (i + 2)).toInt bv (hxr _) (hxr _) hb01 hCI) gL_law_L_literal (by decide +kernel) (by decide) (by decide) rfl (Nat.le_of_ble_eq_true rfl) rfl dL_law_535 rfl (by omega) (by omega) (fun v1 S1 hp1 => ?_)
  rcases hp1 with ⟨rfl, rfl, hn1, hw1, hm1⟩ | ⟨rfl, e0, hd1⟩ | ⟨rfl, e0, hn1, hw1, hm1⟩
  · skip
    refine r_istore (lv' := [(5, _), (0, _), (1, _), (2, _), (3, _), (4, _)]) C dL_law_538 (hn _ (by decide)) rfl ?_
    have e8 : iv S 5 4 (xs (i + 1)).toInt.toNat = ai S 21 8 (xs (i + 1)).toInt.toNat := (hQs.2.2 (xs (i + 1)).toInt.toNat (by omega)).1.2.2.2
    have q9 := hMI.a8 (xs (i + 1)).toInt.toNat
    have q4 : iv (sa (si (sa S 6 (xs (i + 1)).toInt.toNat (iv S 5 4 (xs (i + 1)).toInt.toNat).toNat (2 * (xs (i + 2)).toInt + bv)) 5 4 (xs (i + 1)).toInt.toNat (iv S 5 4 (xs (i + 1)).toInt.toNat + 1)) 30 0 0 (w32 (iv S 5 4 (xs (i + 1)).toInt.toNat + 1))) 20 4 0 = iv S 3 3 0 := e4
    have q8 : ai (sa (si (sa S 6 (xs (i + 1)).toInt.toNat (iv S 5 4 (xs (i + 1)).toInt.toNat).toNat (2 * (xs (i + 2)).toInt + bv)) 5 4 (xs (i + 1)).toInt.toNat (iv S 5 4 (xs (i + 1)).toInt.toNat + 1)) 30 0 0 (w32 (iv S 5 4 (xs (i + 1)).toInt.toNat + 1))) 21 8 (xs (i + 1)).toInt.toNat = iv S 5 4 (xs (i + 1)).toInt.toNat := e8.symm
    refine r_aload_n C dL_law_540 rfl rfl ?_
    refine r_aload_n C dL_law_541 rfl rfl ?_
    refine r_iload C dL_law_542 rfl ?_
    refine r_iconst C dL_law_544 ?_
    refine r_iadd C dL_law_545 ?_
    refine l_sld (j := i + 1) C T (by omega) (by omega) dL_law_546 ?_
    refine r_aload_n C dL_law_547 rfl rfl ?_
    refine r_iload C dL_law_548 rfl ?_
    refine r_iconst C dL_law_550 ?_
    refine r_iadd C dL_law_551 ?_
    refine l_sld (j := i + 2) C T (by omega) (by omega) dL_law_552 ?_
    refine r_aload_n C dL_law_553 rfl rfl ?_
    refine r_iload C dL_law_554 rfl ?_
    refine r_iconst C dL_law_556 ?_
    refine r_iadd C dL_law_557 ?_
    refine l_sld (j := i + 3) C T (by omega) (by omega) dL_law_558 ?_
    refine At_if01 (v := bv) (tgt := 566) (jn := 567) C dL_law_559 dL_law_566 dL_law_562 dL_law_563 (by decide) (by decide) rfl (hxr _) hbv ?_
    refine r_callV (as := [vi (xs (i + 1)).toInt, vi (xs (i + 2)).toInt, vi bv]) (na := 3) (rest := []) C mid_20 (hp_20 _) rfl (M_literal (sa (si (sa S 6 (xs (i + 1)).toInt.toNat (iv S 5 4 (xs (i + 1)).toInt.toNat).toNat (2 * (xs (i + 2)).toInt + bv)) 5 4 (xs (i + 1)).toInt.toNat (iv S 5 4 (xs (i + 1)).toInt.toNat + 1)) 30 0 0 (w32 (iv S 5 4 (xs (i + 1)).toInt.toNat + 1))) (xs (i + 1)).toInt (xs (i + 2)).toInt bv (hxr _) (hxr _) hb01 (hMI.oth (fun _ _ => rfl) (fun _ => rfl))) gL_law_X11_literal (by decide +kernel) (by decide) (by decide) rfl (Nat.le_of_ble_eq_true rfl) rfl dL_law_567 rfl (fun v2 S2 hp2 => ?_)
    rcases hp2 with ⟨rfl, rfl, md, mq⟩ | ⟨rfl, rfl, md⟩ | ⟨rfl, rfl, md, mq⟩
    · skip
      refine r_istore (lv' := [(6, _), (5, _), (0, _), (1, _), (2, _), (3, _), (4, _)]) C dL_law_570 (hn _ (by decide)) rfl ?_
      refine r_aload_n C dL_law_572 rfl rfl ?_
      refine r_callV (as := []) (na := 0) (rest := []) C mid_20 (hp_20 _) rfl (M_thrown _) gL_law_X11_thrown (by decide +kernel) (by decide) (by decide) rfl (Nat.le_of_ble_eq_true rfl) rfl dL_law_573 rfl (fun v3 S3 hp3 => ?_)
      obtain ⟨rfl, e9⟩ := hp3
      subst S3
      refine At_val (v' := vi 0) (congrArg vi (by simp [iv, si, sa, up3])) ?_
      refine r_iload C dL_law_576 rfl ?_
      refine r_icmp_eq (tgt := 583) C dL_law_578 (by decide) (by decide) (by decide) (fun h9 => ?_) (fun h9 => absurd rfl h9)
      refine r_iload C dL_law_583 rfl ?_
      refine r_if_ne (tgt := 600) C dL_law_585 (by decide) (by decide) (fun h8 => absurd rfl h8) (fun h8 => ?_)
      refine r_aload_n C dL_law_588 rfl rfl ?_
      refine r_iconst C dL_law_589 ?_
      refine r_lald (j := 0) C mid_30 (hp_30 _) rfl rfl (by decide) (by decide) dL_law_590 ?_
      refine At_val (v' := vl (w32 (ai (sa (si (sa S 6 (xs (i + 1)).toInt.toNat (iv S 5 4 (xs (i + 1)).toInt.toNat).toNat (2 * (xs (i + 2)).toInt + bv)) 5 4 (xs (i + 1)).toInt.toNat (iv S 5 4 (xs (i + 1)).toInt.toNat + 1)) 30 0 0 (w32 (iv S 5 4 (xs (i + 1)).toInt.toNat + 1))) 21 8 (xs (i + 1)).toInt.toNat + 1))) (congrArg vl (by rw [q8]; rfl)) ?_
      refine r_iload C dL_law_591 rfl ?_
      refine r_i2lx C dL_law_593 ?_
      refine r_lcmp (z := 0) C dL_law_594 (lcmp_self _) ?_
      refine r_if_eq (tgt := 600) C dL_law_595 (by decide) (by decide) (fun h6 => ?_) (fun h6 => absurd rfl h6)
      refine r_goto (tgt := 1124) C dL_law_600 (by decide) ?_
      exact back _ _ _ _ (by omega) (by omega) (by have e7 : (sa (si (sa S 6 (xs (i + 1)).toInt.toNat (iv S 5 4 (xs (i + 1)).toInt.toNat).toNat (2 * (xs (i + 2)).toInt + bv)) 5 4 (xs (i + 1)).toInt.toNat (iv S 5 4 (xs (i + 1)).toInt.toNat + 1)) 30 0 0 (w32 (iv S 5 4 (xs (i + 1)).toInt.toNat + 1))) = litC (sa S 30 0 0 (w32 (iv S 5 4 (xs (i + 1)).toInt.toNat + 1))) (xs (i + 1)).toInt.toNat (iv S 5 4 (xs (i + 1)).toInt.toNat).toNat (2 * (xs (i + 2)).toInt + bv) := congrArg (fun Z => si Z 5 4 (xs (i + 1)).toInt.toNat (iv S 5 4 (xs (i + 1)).toInt.toNat + 1)) (sa_comm S (t := 6) (t' := 30) (by decide) (xs (i + 1)).toInt.toNat 0 (iv S 5 4 (xs (i + 1)).toInt.toNat).toNat 0 (2 * (xs (i + 2)).toInt + bv) (w32 (iv S 5 4 (xs (i + 1)).toInt.toNat + 1))); have g := lit_INV (hI.s30 (w32 (iv S 5 4 (xs (i + 1)).toInt.toNat + 1))) (c := (xs (i + 1)).toInt.toNat) (m := (iv S 5 4 (xs (i + 1)).toInt.toNat).toNat) (v := (2 * (xs (i + 2)).toInt + bv)) (by show (((xs (i + 1)).toInt.toNat : Nat) : Int) < iv S 3 3 0; omega) (by show (((iv S 5 4 (xs (i + 1)).toInt.toNat).toNat : Nat) : Int) = iv S 5 4 (xs (i + 1)).toInt.toNat; omega) (by omega) (by omega); rw [← e7] at g; unfold litM at g; rw [q8] at g ⊢; exact g) (by simp)
    · exfalso; omega
    · exfalso; omega
  · skip
    subst S1
    refine r_istore (lv' := [(5, _), (0, _), (1, _), (2, _), (3, _), (4, _)]) C dL_law_538 (hn _ (by decide)) rfl ?_
    refine r_aload_n C dL_law_540 rfl rfl ?_
    refine r_aload_n C dL_law_541 rfl rfl ?_
    refine r_iload C dL_law_542 rfl ?_
    refine r_iconst C dL_law_544 ?_
    refine r_iadd C dL_law_545 ?_
    refine l_sld (j := i + 1) C T (by omega) (by omega) dL_law_546 ?_
    refine r_aload_n C dL_law_547 rfl rfl ?_
    refine r_iload C dL_law_548 rfl ?_
    refine r_iconst C dL_law_550 ?_
    refine r_iadd C dL_law_551 ?_
    refine l_sld (j := i + 2) C T (by omega) (by omega) dL_law_552 ?_
    refine r_aload_n C dL_law_553 rfl rfl ?_
    refine r_iload C dL_law_554 rfl ?_
    refine r_iconst C dL_law_556 ?_
    refine r_iadd C dL_law_557 ?_
    refine l_sld (j := i + 3) C T (by omega) (by omega) dL_law_558 ?_
    refine At_if01 (v := bv) (tgt := 566) (jn := 567) C dL_law_559 dL_law_566 dL_law_562 dL_law_563 (by decide) (by decide) rfl (hxr _) hbv ?_
    refine r_callV (as := [vi (xs (i + 1)).toInt, vi (xs (i + 2)).toInt, vi bv]) (na := 3) (rest := []) C mid_20 (hp_20 _) rfl (M_literal S (xs (i + 1)).toInt (xs (i + 2)).toInt bv (hxr _) (hxr _) hb01 hMI) gL_law_X11_literal (by decide +kernel) (by decide) (by decide) rfl (Nat.le_of_ble_eq_true rfl) rfl dL_law_567 rfl (fun v2 S2 hp2 => ?_)
    rcases hp2 with ⟨rfl, rfl, md, mq⟩ | ⟨rfl, rfl, md⟩ | ⟨rfl, rfl, md, mq⟩
    · exfalso; omega
    · skip
      refine r_istore (lv' := [(6, _), (5, _), (0, _), (1, _), (2, _), (3, _), (4, _)]) C dL_law_570 (hn _ (by decide)) rfl ?_
      refine r_aload_n C dL_law_572 rfl rfl ?_
      refine r_callV (as := []) (na := 0) (rest := []) C mid_20 (hp_20 _) rfl (M_thrown _) gL_law_X11_thrown (by decide +kernel) (by decide) (by decide) rfl (Nat.le_of_ble_eq_true rfl) rfl dL_law_573 rfl (fun v3 S3 hp3 => ?_)
      obtain ⟨rfl, e9⟩ := hp3
      subst S3
      refine At_val (v' := vi 1) (congrArg vi (by simp [iv, si, sa, up3])) ?_
      refine r_iload C dL_law_576 rfl ?_
      refine r_icmp_eq (tgt := 583) C dL_law_578 (by decide) (by decide) (by decide) (fun h9 => ?_) (fun h9 => absurd rfl h9)
      refine r_iload C dL_law_583 rfl ?_
      refine r_if_ne (tgt := 600) C dL_law_585 (by decide) (by decide) (fun h8 => ?_) (fun h8 => absurd h8 (by decide))
      refine r_goto (tgt := 1124) C dL_law_600 (by decide) ?_
      exact back _ _ _ _ (by omega) (by omega) (hI.s34 1) (by simp)
    · exfalso; omega
  · skip
    subst S1
    refine r_istore (lv' := [(5, _), (0, _), (1, _), (2, _), (3, _), (4, _)]) C dL_law_538 (hn _ (by decide)) rfl ?_
    have e8 : iv S 5 4 (xs (i + 1)).toInt.toNat = ai S 21 8 (xs (i + 1)).toInt.toNat := (hQs.2.2 (xs (i + 1)).toInt.toNat (by omega)).1.2.2.2
    have q9 := hMI.a8 (xs (i + 1)).toInt.toNat
    refine r_aload_n C dL_law_540 rfl rfl ?_
    refine r_aload_n C dL_law_541 rfl rfl ?_
    refine r_iload C dL_law_542 rfl ?_
    refine r_iconst C dL_law_544 ?_
    refine r_iadd C dL_law_545 ?_
    refine l_sld (j := i + 1) C T (by omega) (by omega) dL_law_546 ?_
    refine r_aload_n C dL_law_547 rfl rfl ?_
    refine r_iload C dL_law_548 rfl ?_
    refine r_iconst C dL_law_550 ?_
    refine r_iadd C dL_law_551 ?_
    refine l_sld (j := i + 2) C T (by omega) (by omega) dL_law_552 ?_
    refine r_aload_n C dL_law_553 rfl rfl ?_
    refine r_iload C dL_law_554 rfl ?_
    refine r_iconst C dL_law_556 ?_
    refine r_iadd C dL_law_557 ?_
    refine l_sld (j := i + 3) C T (by omega) (by omega) dL_law_558 ?_
    refine At_if01 (v := bv) (tgt := 566) (jn := 567) C dL_law_559 dL_law_566 dL_law_562 dL_law_563 (by decide) (by decide) rfl (hxr _) hbv ?_
    refine r_callV (as := [vi (xs (i + 1)).toInt, vi (xs (i + 2)).toInt, vi bv]) (na := 3) (rest := []) C mid_20 (hp_20 _) rfl (M_literal S (xs (i + 1)).toInt (xs (i + 2)).toInt bv (hxr _) (hxr _) hb01 hMI) gL_law_X11_literal (by decide +kernel) (by decide) (by decide) rfl (Nat.le_of_ble_eq_true rfl) rfl dL_law_567 rfl (fun v2 S2 hp2 => ?_)
    rcases hp2 with ⟨rfl, rfl, md, mq⟩ | ⟨rfl, rfl, md⟩ | ⟨rfl, rfl, md, mq⟩
    · exfalso; omega
    · exfalso; omega
    · skip
      refine r_istore (lv' := [(6, _), (5, _), (0, _), (1, _), (2, _), (3, _), (4, _)]) C dL_law_570 (hn _ (by decide)) rfl ?_
      refine r_aload_n C dL_law_572 rfl rfl ?_
      refine r_callV (as := []) (na := 0) (rest := []) C mid_20 (hp_20 _) rfl (M_thrown _) gL_law_X11_thrown (by decide +kernel) (by decide) (by decide) rfl (Nat.le_of_ble_eq_true rfl) rfl dL_law_573 rfl (fun v3 S3 hp3 => ?_)
      obtain ⟨rfl, e9⟩ := hp3
      subst S3
      refine At_val (v' := vi 2) (congrArg vi (by simp [iv, si, sa, up3])) ?_
      refine r_iload C dL_law_576 rfl ?_
      refine r_icmp_eq (tgt := 583) C dL_law_578 (by decide) (by decide) (by decide) (fun h9 => ?_) (fun h9 => absurd rfl h9)
      refine r_iload C dL_law_583 rfl ?_
      refine r_if_ne (tgt := 600) C dL_law_585 (by decide) (by decide) (fun h8 => ?_) (fun h8 => absurd h8 (by decide))
      refine r_goto (tgt := 1124) C dL_law_600 (by decide) ?_
      exact back _ _ _ _ (by omega) (by omega) (hI.s34 2) (by simp)
set_option maxHeartbeats 4000000 in
set_option maxRecDepth 100000 in
theorem k_matches {X : XT} {b L c t i : Nat} {xs : Nat → Int32} (C : Cx X code RL wsL_law 30) (T : LX X b L xs) (hn : ∀ j, j < 7 → j < X.2.2.2.2.2) (hi : i + 4 ≤ L) {S : ST} (hI : INV S) (hc : c + 2 ≤ 646601) (ht : t + 12 ≤ 7156300) (hcf : c + 2 ≤ X.1.2.2.2.1.cells) (hsf : t + 12 ≤ X.1.2.2.2.1.slots) (back : ∀ (c2 t2 : Nat) (lv : List (Nat × AV)) (S2 : ST), c2 ≤ c + 2 → t2 ≤ t + 12 → INV S2 → (∀ q ∈ [(0, vr (some (99, 0))), (1, vr (some (0, 0))), (2, vr (some (20, 0))), (3, vr (some (30, 0))), (4, vi (i : Int))], q ∈ lv) → At X c2 t2 1124 lv [] S2) : At X c t 603 [(0, vr (some (99, 0))), (1, vr (some (0, 0))), (2, vr (some (20, 0))), (3, vr (some (30, 0))), (4, vi (i : Int))] [] S := by
  have hxr : ∀ j, -2147483648 ≤ (xs j).toInt ∧ (xs j).toInt < 2147483648 := fun j => i32_rng (xs j)
  obtain ⟨⟨hCI, hMI, hRK⟩, hQs, -⟩ := id hI
  obtain ⟨hb, hg⟩ := hI.run
  have hcl : c ≤ X.1.2.2.2.1.cells := by omega
  have hsl : t ≤ X.1.2.2.2.1.slots := by omega
  have hcl1 : c + 1 ≤ X.1.2.2.2.1.cells := by omega
  have hsl1 : t + 6 * 1 ≤ X.1.2.2.2.1.slots := by omega
  have hsl2 : t + 6 * 2 ≤ X.1.2.2.2.1.slots := by omega
  refine r_aload_n C dL_law_603 rfl rfl ?_
  refine r_aload_n C dL_law_604 rfl rfl ?_
  refine r_iload C dL_law_605 rfl ?_
  refine r_iconst C dL_law_607 ?_
  refine r_iadd C dL_law_608 ?_
  refine l_sld (j := i + 1) C T (by omega) (by omega) dL_law_609 ?_
  refine r_aload_n C dL_law_610 rfl rfl ?_
  refine l_callH (as := [vr (some (0, 0)), vi (xs (i + 1)).toInt, vr (some (30, 0))]) (na := 3) (rest := []) C T (l_matches S (xs (i + 1)).toInt (hxr _) hCI) gL_law_L_matches (by decide +kernel) (by decide) (by decide) rfl (Nat.le_of_ble_eq_true rfl) rfl dL_law_611 rfl (by omega) (by omega) (fun v1 S1 hp1 => ?_)
  rcases hp1 with ⟨rfl, rfl, hd1⟩ | ⟨rfl, e0, hd1⟩
  · skip
    refine r_istore (lv' := [(5, _), (0, _), (1, _), (2, _), (3, _), (4, _)]) C dL_law_614 (hn _ (by decide)) rfl ?_
    refine r_aload_n C dL_law_616 rfl rfl ?_
    refine r_aload_n C dL_law_617 rfl rfl ?_
    refine r_iload C dL_law_618 rfl ?_
    refine r_iconst C dL_law_620 ?_
    refine r_iadd C dL_law_621 ?_
    refine l_sld (j := i + 1) C T (by omega) (by omega) dL_law_622 ?_
    refine r_callV (as := [vi (xs (i + 1)).toInt]) (na := 1) (rest := []) C mid_20 (hp_20 _) rfl (M_matches (sa S 30 0 0 (b2i (thr S (xs (i + 1)).toInt.toNat && qT S (ai S 2 0 (xs (i + 1)).toInt.toNat).toNat))) (xs (i + 1)).toInt (hxr _) (hMI.oth (fun _ _ => rfl) (fun _ => rfl))) gL_law_X11_matches (by decide +kernel) (by decide) (by decide) rfl (Nat.le_of_ble_eq_true rfl) rfl dL_law_623 rfl (fun v2 S2 hp2 => ?_)
    rcases hp2 with ⟨rfl, rfl, md⟩ | ⟨rfl, rfl, md⟩
    · skip
      refine r_istore (lv' := [(6, _), (5, _), (0, _), (1, _), (2, _), (3, _), (4, _)]) C dL_law_626 (hn _ (by decide)) rfl ?_
      refine r_aload_n C dL_law_628 rfl rfl ?_
      refine r_callV (as := []) (na := 0) (rest := []) C mid_20 (hp_20 _) rfl (M_thrown _) gL_law_X11_thrown (by decide +kernel) (by decide) (by decide) rfl (Nat.le_of_ble_eq_true rfl) rfl dL_law_629 rfl (fun v3 S3 hp3 => ?_)
      obtain ⟨rfl, e9⟩ := hp3
      subst S3
      refine At_val (v' := vi 0) (congrArg vi (by simp [iv, si, sa, up3])) ?_
      refine r_iload C dL_law_632 rfl ?_
      refine r_icmp_eq (tgt := 639) C dL_law_634 (by decide) (by decide) (by decide) (fun h9 => ?_) (fun h9 => absurd rfl h9)
      refine r_iload C dL_law_639 rfl ?_
      refine r_if_ne (tgt := 663) C dL_law_641 (by decide) (by decide) (fun h8 => absurd rfl h8) (fun h8 => ?_)
      refine r_aload_n C dL_law_644 rfl rfl ?_
      refine r_iconst C dL_law_645 ?_
      refine r_lald (j := 0) C mid_30 (hp_30 _) rfl rfl (by decide) (by decide) dL_law_646 ?_
      refine At_val (v' := vl (b2i (mhit (sa S 30 0 0 (b2i (thr S (xs (i + 1)).toInt.toNat && qT S (ai S 2 0 (xs (i + 1)).toInt.toNat).toNat))) (xs (i + 1)).toInt.toNat))) (congrArg vl (congrArg b2i ((hit_eq hI (by omega)).trans (mhit_s30 _ _ _).symm))) ?_
      refine r_iload C dL_law_647 rfl ?_
      refine r_if_eq (tgt := 656) C dL_law_649 (by decide) (by have := b2i_01 (mhit (sa S 30 0 0 (b2i (thr S (xs (i + 1)).toInt.toNat && qT S (ai S 2 0 (xs (i + 1)).toInt.toNat).toNat))) (xs (i + 1)).toInt.toNat); omega) (fun h7 => ?_) (fun h7 => ?_)
      · skip
        refine r_lconst C dL_law_656 ?_
        refine At_val (v' := vl (b2i (mhit (sa S 30 0 0 (b2i (thr S (xs (i + 1)).toInt.toNat && qT S (ai S 2 0 (xs (i + 1)).toInt.toNat).toNat))) (xs (i + 1)).toInt.toNat))) (congrArg vl (h7.symm)) ?_
        refine r_lcmp (z := 0) C dL_law_657 (lcmp_self _) ?_
        refine r_if_eq (tgt := 663) C dL_law_658 (by decide) (by decide) (fun h6 => ?_) (fun h6 => absurd rfl h6)
        refine r_goto (tgt := 1124) C dL_law_663 (by decide) ?_
        exact back _ _ _ _ (by omega) (by omega) ((hI.s30 _).s34 0) (by simp)
      · skip
        refine r_lconst C dL_law_652 ?_
        refine r_goto (tgt := 657) C dL_law_653 (by decide) ?_
        refine At_val (v' := vl (b2i (mhit (sa S 30 0 0 (b2i (thr S (xs (i + 1)).toInt.toNat && qT S (ai S 2 0 (xs (i + 1)).toInt.toNat).toNat))) (xs (i + 1)).toInt.toNat))) (congrArg vl (by have := b2i_01 (mhit (sa S 30 0 0 (b2i (thr S (xs (i + 1)).toInt.toNat && qT S (ai S 2 0 (xs (i + 1)).toInt.toNat).toNat))) (xs (i + 1)).toInt.toNat); omega)) ?_
        refine r_lcmp (z := 0) C dL_law_657 (lcmp_self _) ?_
        refine r_if_eq (tgt := 663) C dL_law_658 (by decide) (by decide) (fun h6 => ?_) (fun h6 => absurd rfl h6)
        refine r_goto (tgt := 1124) C dL_law_663 (by decide) ?_
        exact back _ _ _ _ (by omega) (by omega) ((hI.s30 _).s34 0) (by simp)
    · exfalso; omega
  · skip
    subst S1
    refine r_istore (lv' := [(5, _), (0, _), (1, _), (2, _), (3, _), (4, _)]) C dL_law_614 (hn _ (by decide)) rfl ?_
    refine r_aload_n C dL_law_616 rfl rfl ?_
    refine r_aload_n C dL_law_617 rfl rfl ?_
    refine r_iload C dL_law_618 rfl ?_
    refine r_iconst C dL_law_620 ?_
    refine r_iadd C dL_law_621 ?_
    refine l_sld (j := i + 1) C T (by omega) (by omega) dL_law_622 ?_
    refine r_callV (as := [vi (xs (i + 1)).toInt]) (na := 1) (rest := []) C mid_20 (hp_20 _) rfl (M_matches S (xs (i + 1)).toInt (hxr _) hMI) gL_law_X11_matches (by decide +kernel) (by decide) (by decide) rfl (Nat.le_of_ble_eq_true rfl) rfl dL_law_623 rfl (fun v2 S2 hp2 => ?_)
    rcases hp2 with ⟨rfl, rfl, md⟩ | ⟨rfl, rfl, md⟩
    · exfalso; omega
    · skip
      refine r_istore (lv' := [(6, _), (5, _), (0, _), (1, _), (2, _), (3, _), (4, _)]) C dL_law_626 (hn _ (by decide)) rfl ?_
      refine r_aload_n C dL_law_628 rfl rfl ?_
      refine r_callV (as := []) (na := 0) (rest := []) C mid_20 (hp_20 _) rfl (M_thrown _) gL_law_X11_thrown (by decide +kernel) (by decide) (by decide) rfl (Nat.le_of_ble_eq_true rfl) rfl dL_law_629 rfl (fun v3 S3 hp3 => ?_)
      obtain ⟨rfl, e9⟩ := hp3
      subst S3
      refine At_val (v' := vi 1) (congrArg vi (by simp [iv, si, sa, up3])) ?_
      refine r_iload C dL_law_632 rfl ?_
      refine r_icmp_eq (tgt := 639) C dL_law_634 (by decide) (by decide) (by decide) (fun h9 => ?_) (fun h9 => absurd rfl h9)
      refine r_iload C dL_law_639 rfl ?_
      refine r_if_ne (tgt := 663) C dL_law_641 (by decide) (by decide) (fun h8 => ?_) (fun h8 => absurd h8 (by decide))
      refine r_goto (tgt := 1124) C dL_law_663 (by decide) ?_
      exact back _ _ _ _ (by omega) (by omega) (hI.s34 1) (by simp)
set_option maxHeartbeats 4000000 in
set_option maxRecDepth 100000 in
theorem k_hits {X : XT} {b L c t i : Nat} {xs : Nat → Int32} (C : Cx X code RL wsL_law 30) (T : LX X b L xs) (hn : ∀ j, j < 7 → j < X.2.2.2.2.2) (hi : i + 4 ≤ L) {S : ST} (hI : INV S) (hc : c + 2 ≤ 646601) (ht : t + 12 ≤ 7156300) (hcf : c + 2 ≤ X.1.2.2.2.1.cells) (hsf : t + 12 ≤ X.1.2.2.2.1.slots) (back : ∀ (c2 t2 : Nat) (lv : List (Nat × AV)) (S2 : ST), c2 ≤ c + 2 → t2 ≤ t + 12 → INV S2 → (∀ q ∈ [(0, vr (some (99, 0))), (1, vr (some (0, 0))), (2, vr (some (20, 0))), (3, vr (some (30, 0))), (4, vi (i : Int))], q ∈ lv) → At X c2 t2 1124 lv [] S2) : At X c t 666 [(0, vr (some (99, 0))), (1, vr (some (0, 0))), (2, vr (some (20, 0))), (3, vr (some (30, 0))), (4, vi (i : Int))] [] S := by
  have hxr : ∀ j, -2147483648 ≤ (xs j).toInt ∧ (xs j).toInt < 2147483648 := fun j => i32_rng (xs j)
  obtain ⟨⟨hCI, hMI, hRK⟩, hQs, -⟩ := id hI
  obtain ⟨hb, hg⟩ := hI.run
  have hcl : c ≤ X.1.2.2.2.1.cells := by omega
  have hsl : t ≤ X.1.2.2.2.1.slots := by omega
  have hcl1 : c + 1 ≤ X.1.2.2.2.1.cells := by omega
  have hsl1 : t + 6 * 1 ≤ X.1.2.2.2.1.slots := by omega
  have hsl2 : t + 6 * 2 ≤ X.1.2.2.2.1.slots := by omega
  have hcl9 := cnt_le (mhit S) 0 40
  have hrg : -2147483648 ≤ ((cnt (mhit S) 0 40 : Nat) : Int) ∧ ((cnt (mhit S) 0 40 : Nat) : Int) < 2147483648 := by omega
  refine r_aload_n C dL_law_666 rfl rfl ?_
  refine r_callV (as := []) (na := 0) (rest := []) C mid_0 (hp_0 _) rfl (c_hits S hCI) gL_law_X10_hits (by decide +kernel) (by decide) (by decide) rfl (Nat.le_of_ble_eq_true rfl) rfl dL_law_667 rfl (fun v1 S1 hp1 => ?_)
  obtain ⟨rfl, e9⟩ := hp1
  subst S1
  refine At_val (v' := vi (((cnt (mhit S) 0 40 : Nat) : Int))) (congrArg vi (by rw [hits_eq hI])) ?_
  refine r_aload_n C dL_law_670 rfl rfl ?_
  refine r_callV (as := []) (na := 0) (rest := [_]) C mid_20 (hp_20 _) rfl (M_hits S hMI) gL_law_X11_hits (by decide +kernel) (by decide) (by decide) rfl (Nat.le_of_ble_eq_true rfl) rfl dL_law_671 rfl (fun v2 S2 hp2 => ?_)
  obtain ⟨rfl, e9⟩ := hp2
  subst S2
  refine r_icmp_eq (tgt := 1124) C dL_law_674 (by decide) hrg hrg (fun h9 => ?_) (fun h9 => absurd rfl h9)
  exact back _ _ _ _ (by omega) (by omega) (hI.s34 0) (by simp)
set_option maxHeartbeats 4000000 in
set_option maxRecDepth 100000 in
theorem k_planKind {X : XT} {b L c t i : Nat} {xs : Nat → Int32} (C : Cx X code RL wsL_law 30) (T : LX X b L xs) (hn : ∀ j, j < 7 → j < X.2.2.2.2.2) (hi : i + 4 ≤ L) {S : ST} (hI : INV S) (hc : c + 2 ≤ 646601) (ht : t + 12 ≤ 7156300) (hcf : c + 2 ≤ X.1.2.2.2.1.cells) (hsf : t + 12 ≤ X.1.2.2.2.1.slots) (back : ∀ (c2 t2 : Nat) (lv : List (Nat × AV)) (S2 : ST), c2 ≤ c + 2 → t2 ≤ t + 12 → INV S2 → (∀ q ∈ [(0, vr (some (99, 0))), (1, vr (some (0, 0))), (2, vr (some (20, 0))), (3, vr (some (30, 0))), (4, vi (i : Int))], q ∈ lv) → At X c2 t2 1124 lv [] S2) : At X c t 679 [(0, vr (some (99, 0))), (1, vr (some (0, 0))), (2, vr (some (20, 0))), (3, vr (some (30, 0))), (4, vi (i : Int))] [] S := by
  have hxr : ∀ j, -2147483648 ≤ (xs j).toInt ∧ (xs j).toInt < 2147483648 := fun j => i32_rng (xs j)
  obtain ⟨⟨hCI, hMI, hRK⟩, hQs, -⟩ := id hI
  obtain ⟨hb, hg⟩ := hI.run
  have hcl : c ≤ X.1.2.2.2.1.cells := by omega
  have hsl : t ≤ X.1.2.2.2.1.slots := by omega
  have hcl1 : c + 1 ≤ X.1.2.2.2.1.cells := by omega
  have hsl1 : t + 6 * 1 ≤ X.1.2.2.2.1.slots := by omega
  have hsl2 : t + 6 * 2 ≤ X.1.2.2.2.1.slots := by omega
  obtain ⟨hpi, hpn⟩ := plan_INV hI 0
  have hmi := hpi.1.2.1
  have hrg : -2147483648 ≤ iv (makesF (si (pmkF 0 S) 20 34 0 0)) 20 15 0 ∧ iv (makesF (si (pmkF 0 S) 20 34 0 0)) 20 15 0 < 2147483648 := by have := hmi.i15; omega
  refine r_aload_n C dL_law_679 rfl rfl ?_
  refine r_callV (as := []) (na := 0) (rest := []) C mid_0 (hp_0 _) rfl (c_planKind S hCI) gL_law_X10_planKind (by decide +kernel) (by decide) (by decide) rfl (Nat.le_of_ble_eq_true rfl) rfl dL_law_680 rfl (fun v1 S1 hp1 => ?_)
  obtain ⟨rfl, e9⟩ := hp1
  subst S1
  refine At_val (v' := vi (iv (makesF (si (pmkF 0 S) 20 34 0 0)) 20 15 0)) (congrArg vi (hpn.1.2.1)) ?_
  refine r_aload_n C dL_law_683 rfl rfl ?_
  refine r_callV (as := []) (na := 0) (rest := [_]) C mid_20 (hp_20 _) rfl (M_planKind (pmkF 0 S) (pmk_keep hI).2) gL_law_X11_planKind (by decide +kernel) (by decide) (by decide) rfl (Nat.le_of_ble_eq_true rfl) rfl dL_law_684 rfl (fun v2 S2 hp2 => ?_)
  obtain ⟨rfl, e9⟩ := hp2
  subst S2
  refine r_icmp_eq (tgt := 1124) C dL_law_687 (by decide) hrg hrg (fun h9 => ?_) (fun h9 => absurd rfl h9)
  exact back _ _ _ _ (by omega) (by omega) (hpi) (by simp)
set_option maxHeartbeats 4000000 in
set_option maxRecDepth 100000 in
theorem k_planNeed {X : XT} {b L c t i : Nat} {xs : Nat → Int32} (C : Cx X code RL wsL_law 30) (T : LX X b L xs) (hn : ∀ j, j < 7 → j < X.2.2.2.2.2) (hi : i + 4 ≤ L) {S : ST} (hI : INV S) (hc : c + 2 ≤ 646601) (ht : t + 12 ≤ 7156300) (hcf : c + 2 ≤ X.1.2.2.2.1.cells) (hsf : t + 12 ≤ X.1.2.2.2.1.slots) (back : ∀ (c2 t2 : Nat) (lv : List (Nat × AV)) (S2 : ST), c2 ≤ c + 2 → t2 ≤ t + 12 → INV S2 → (∀ q ∈ [(0, vr (some (99, 0))), (1, vr (some (0, 0))), (2, vr (some (20, 0))), (3, vr (some (30, 0))), (4, vi (i : Int))], q ∈ lv) → At X c2 t2 1124 lv [] S2) : At X c t 692 [(0, vr (some (99, 0))), (1, vr (some (0, 0))), (2, vr (some (20, 0))), (3, vr (some (30, 0))), (4, vi (i : Int))] [] S := by
  have hxr : ∀ j, -2147483648 ≤ (xs j).toInt ∧ (xs j).toInt < 2147483648 := fun j => i32_rng (xs j)
  obtain ⟨⟨hCI, hMI, hRK⟩, hQs, -⟩ := id hI
  obtain ⟨hb, hg⟩ := hI.run
  have hcl : c ≤ X.1.2.2.2.1.cells := by omega
  have hsl : t ≤ X.1.2.2.2.1.slots := by omega
  have hcl1 : c + 1 ≤ X.1.2.2.2.1.cells := by omega
  have hsl1 : t + 6 * 1 ≤ X.1.2.2.2.1.slots := by omega
  have hsl2 : t + 6 * 2 ≤ X.1.2.2.2.1.slots := by omega
  obtain ⟨hpi, hpn⟩ := plan_INV hI 0
  have hmi := hpi.1.2.1
  have hrg : -2147483648 ≤ iv (makesF (si (pmkF 0 S) 20 34 0 0)) 20 16 0 ∧ iv (makesF (si (pmkF 0 S) 20 34 0 0)) 20 16 0 < 2147483648 := by have := hmi.i16; omega
  refine r_aload_n C dL_law_692 rfl rfl ?_
  refine r_callV (as := []) (na := 0) (rest := []) C mid_0 (hp_0 _) rfl (c_planNeed S hCI) gL_law_X10_planNeed (by decide +kernel) (by decide) (by decide) rfl (Nat.le_of_ble_eq_true rfl) rfl dL_law_693 rfl (fun v1 S1 hp1 => ?_)
  obtain ⟨rfl, e9⟩ := hp1
  subst S1
  refine At_val (v' := vi (iv (makesF (si (pmkF 0 S) 20 34 0 0)) 20 16 0)) (congrArg vi (need_eq hpn (makes_16 _))) ?_
  refine r_aload_n C dL_law_696 rfl rfl ?_
  refine r_callV (as := []) (na := 0) (rest := [_]) C mid_20 (hp_20 _) rfl (M_planNeed (pmkF 0 S) (pmk_keep hI).2) gL_law_X11_planNeed (by decide +kernel) (by decide) (by decide) rfl (Nat.le_of_ble_eq_true rfl) rfl dL_law_697 rfl (fun v2 S2 hp2 => ?_)
  obtain ⟨rfl, e9⟩ := hp2
  subst S2
  refine r_icmp_eq (tgt := 1124) C dL_law_700 (by decide) hrg hrg (fun h9 => ?_) (fun h9 => absurd rfl h9)
  exact back _ _ _ _ (by omega) (by omega) (hpi) (by simp)
set_option maxHeartbeats 4000000 in
set_option maxRecDepth 100000 in
theorem k_planSize {X : XT} {b L c t i : Nat} {xs : Nat → Int32} (C : Cx X code RL wsL_law 30) (T : LX X b L xs) (hn : ∀ j, j < 7 → j < X.2.2.2.2.2) (hi : i + 4 ≤ L) {S : ST} (hI : INV S) (hc : c + 2 ≤ 646601) (ht : t + 12 ≤ 7156300) (hcf : c + 2 ≤ X.1.2.2.2.1.cells) (hsf : t + 12 ≤ X.1.2.2.2.1.slots) (back : ∀ (c2 t2 : Nat) (lv : List (Nat × AV)) (S2 : ST), c2 ≤ c + 2 → t2 ≤ t + 12 → INV S2 → (∀ q ∈ [(0, vr (some (99, 0))), (1, vr (some (0, 0))), (2, vr (some (20, 0))), (3, vr (some (30, 0))), (4, vi (i : Int))], q ∈ lv) → At X c2 t2 1124 lv [] S2) : At X c t 705 [(0, vr (some (99, 0))), (1, vr (some (0, 0))), (2, vr (some (20, 0))), (3, vr (some (30, 0))), (4, vi (i : Int))] [] S := by
  have hxr : ∀ j, -2147483648 ≤ (xs j).toInt ∧ (xs j).toInt < 2147483648 := fun j => i32_rng (xs j)
  obtain ⟨⟨hCI, hMI, hRK⟩, hQs, -⟩ := id hI
  obtain ⟨hb, hg⟩ := hI.run
  have hcl : c ≤ X.1.2.2.2.1.cells := by omega
  have hsl : t ≤ X.1.2.2.2.1.slots := by omega
  have hcl1 : c + 1 ≤ X.1.2.2.2.1.cells := by omega
  have hsl1 : t + 6 * 1 ≤ X.1.2.2.2.1.slots := by omega
  have hsl2 : t + 6 * 2 ≤ X.1.2.2.2.1.slots := by omega
  obtain ⟨hpi, hpn⟩ := plan_INV hI 0
  have hmi := hpi.1.2.1
  have hrg : -2147483648 ≤ iv (makesF (si (pmkF 0 S) 20 34 0 0)) 20 17 0 ∧ iv (makesF (si (pmkF 0 S) 20 34 0 0)) 20 17 0 < 2147483648 := by have := hmi.i17; omega
  refine r_aload_n C dL_law_705 rfl rfl ?_
  refine r_callV (as := []) (na := 0) (rest := []) C mid_0 (hp_0 _) rfl (c_planSize S hCI) gL_law_X10_planSize (by decide +kernel) (by decide) (by decide) rfl (Nat.le_of_ble_eq_true rfl) rfl dL_law_706 rfl (fun v1 S1 hp1 => ?_)
  obtain ⟨rfl, e9⟩ := hp1
  subst S1
  refine At_val (v' := vi (iv (makesF (si (pmkF 0 S) 20 34 0 0)) 20 17 0)) (congrArg vi (hpn.1.2.2.2.2)) ?_
  refine r_aload_n C dL_law_709 rfl rfl ?_
  refine r_callV (as := []) (na := 0) (rest := [_]) C mid_20 (hp_20 _) rfl (M_planSize (pmkF 0 S) (pmk_keep hI).2) gL_law_X11_planSize (by decide +kernel) (by decide) (by decide) rfl (Nat.le_of_ble_eq_true rfl) rfl dL_law_710 rfl (fun v2 S2 hp2 => ?_)
  obtain ⟨rfl, e9⟩ := hp2
  subst S2
  refine r_icmp_eq (tgt := 1124) C dL_law_713 (by decide) hrg hrg (fun h9 => ?_) (fun h9 => absurd rfl h9)
  exact back _ _ _ _ (by omega) (by omega) (hpi) (by simp)
set_option maxHeartbeats 4000000 in
set_option maxRecDepth 100000 in
theorem k_estimate {X : XT} {b L c t i : Nat} {xs : Nat → Int32} (C : Cx X code RL wsL_law 30) (T : LX X b L xs) (hn : ∀ j, j < 7 → j < X.2.2.2.2.2) (hi : i + 4 ≤ L) {S : ST} (hI : INV S) (hc : c + 2 ≤ 646601) (ht : t + 12 ≤ 7156300) (hcf : c + 2 ≤ X.1.2.2.2.1.cells) (hsf : t + 12 ≤ X.1.2.2.2.1.slots) (back : ∀ (c2 t2 : Nat) (lv : List (Nat × AV)) (S2 : ST), c2 ≤ c + 2 → t2 ≤ t + 12 → INV S2 → (∀ q ∈ [(0, vr (some (99, 0))), (1, vr (some (0, 0))), (2, vr (some (20, 0))), (3, vr (some (30, 0))), (4, vi (i : Int))], q ∈ lv) → At X c2 t2 1124 lv [] S2) : At X c t 718 [(0, vr (some (99, 0))), (1, vr (some (0, 0))), (2, vr (some (20, 0))), (3, vr (some (30, 0))), (4, vi (i : Int))] [] S := by
  have hxr : ∀ j, -2147483648 ≤ (xs j).toInt ∧ (xs j).toInt < 2147483648 := fun j => i32_rng (xs j)
  obtain ⟨⟨hCI, hMI, hRK⟩, hQs, -⟩ := id hI
  obtain ⟨hb, hg⟩ := hI.run
  have hcl : c ≤ X.1.2.2.2.1.cells := by omega
  have hsl : t ≤ X.1.2.2.2.1.slots := by omega
  have hcl1 : c + 1 ≤ X.1.2.2.2.1.cells := by omega
  have hsl1 : t + 6 * 1 ≤ X.1.2.2.2.1.slots := by omega
  have hsl2 : t + 6 * 2 ≤ X.1.2.2.2.1.slots := by omega
  obtain ⟨hpi, hpn⟩ := plan_INV hI 0
  have hmi := hpi.1.2.1
  have hrg : -2147483648 ≤ planEstM (makesF (si (pmkF 0 S) 20 34 0 0)) ∧ planEstM (makesF (si (pmkF 0 S) 20 34 0 0)) < 2147483648 := by rw [← hpn.1.2.2.2.1]; have := est_rng hI; omega
  refine r_aload_n C dL_law_718 rfl rfl ?_
  refine r_callV (as := []) (na := 0) (rest := []) C mid_0 (hp_0 _) rfl (c_estimate S hCI) gL_law_X10_estimate (by decide +kernel) (by decide) (by decide) rfl (Nat.le_of_ble_eq_true rfl) rfl dL_law_719 rfl (fun v1 S1 hp1 => ?_)
  obtain ⟨rfl, e9⟩ := hp1
  subst S1
  refine At_val (v' := vi (planEstM (makesF (si (pmkF 0 S) 20 34 0 0)))) (congrArg vi (hpn.1.2.2.2.1)) ?_
  refine r_aload_n C dL_law_722 rfl rfl ?_
  refine r_callV (as := []) (na := 0) (rest := [_]) C mid_20 (hp_20 _) rfl (M_estimate (pmkF 0 S) (pmk_keep hI).2) gL_law_X11_estimate (by decide +kernel) (by decide) (by decide) rfl (Nat.le_of_ble_eq_true rfl) rfl dL_law_723 rfl (fun v2 S2 hp2 => ?_)
  obtain ⟨rfl, e9⟩ := hp2
  subst S2
  refine r_icmp_eq (tgt := 1124) C dL_law_726 (by decide) hrg hrg (fun h9 => ?_) (fun h9 => absurd rfl h9)
  exact back _ _ _ _ (by omega) (by omega) (hpi) (by simp)
