set_option maxHeartbeats 4000000 in
set_option maxRecDepth 100000 in
theorem k_clauseAt {X : XT} {b L c t i : Nat} {xs : Nat → Int32} (C : Cx X code RL wsL_law 30) (T : LX X b L xs) (hn : ∀ j, j < 7 → j < X.2.2.2.2.2) (hi : i + 4 ≤ L) {S : ST} (hI : INV S) (hc : c + 2 ≤ 646601) (ht : t + 12 ≤ 7156300) (hcf : c + 2 ≤ X.1.2.2.2.1.cells) (hsf : t + 12 ≤ X.1.2.2.2.1.slots) (back : ∀ (c2 t2 : Nat) (lv : List (Nat × AV)) (S2 : ST), c2 ≤ c + 2 → t2 ≤ t + 12 → INV S2 → (∀ q ∈ [(0, vr (some (99, 0))), (1, vr (some (0, 0))), (2, vr (some (20, 0))), (3, vr (some (30, 0))), (4, vi (i : Int))], q ∈ lv) → At X c2 t2 1124 lv [] S2) : At X c t 731 [(0, vr (some (99, 0))), (1, vr (some (0, 0))), (2, vr (some (20, 0))), (3, vr (some (30, 0))), (4, vi (i : Int))] [] S := by
  have hxr : ∀ j, -2147483648 ≤ (xs j).toInt ∧ (xs j).toInt < 2147483648 := fun j => i32_rng (xs j)
  obtain ⟨⟨hCI, hMI, hRK⟩, hQs, -⟩ := id hI
  obtain ⟨hb, hg⟩ := hI.run
  have hcl : c ≤ X.1.2.2.2.1.cells := by omega
  have hsl : t ≤ X.1.2.2.2.1.slots := by omega
  have hcl1 : c + 1 ≤ X.1.2.2.2.1.cells := by omega
  have hsl1 : t + 6 * 1 ≤ X.1.2.2.2.1.slots := by omega
  have hsl2 : t + 6 * 2 ≤ X.1.2.2.2.1.slots := by omega
  refine r_aload_n C dL_law_731 rfl rfl ?_
  refine r_aload_n C dL_law_732 rfl rfl ?_
  refine r_iload C dL_law_733 rfl ?_
  refine r_iconst C dL_law_735 ?_
  refine r_iadd C dL_law_736 ?_
  refine l_sld (j := i + 1) C T (by omega) (by omega) dL_law_737 ?_
  refine r_aload_n C dL_law_738 rfl rfl ?_
  refine l_callH (as := [vr (some (0, 0)), vi (xs (i + 1)).toInt, vr (some (30, 0))]) (na := 3) (rest := []) C T (l_clauseAt S (xs (i + 1)).toInt (hxr _) hCI) gL_law_L_clauseAt (by decide +kernel) (by decide) (by decide) rfl (Nat.le_of_ble_eq_true rfl) rfl dL_law_739 rfl (by omega) (by omega) (fun v1 S1 hp1 => ?_)
  rcases hp1 with ⟨rfl, rfl, hd1⟩ | ⟨rfl, rfl, hd1⟩
  · skip
    refine r_istore (lv' := [(5, _), (0, _), (1, _), (2, _), (3, _), (4, _)]) C dL_law_742 (hn _ (by decide)) rfl ?_
    obtain ⟨hpi, hpn⟩ := at_INV hI (w32 ((((pa (pmkF 0 S) 9 0 (xs (i + 1)).toInt.toNat % 5) % 5 : Nat) : Int)))
    have hsz := hpn.1.2.2.2.2
    refine r_aload_n C dL_law_744 rfl rfl ?_
    refine r_aload_n C dL_law_745 rfl rfl ?_
    refine r_iload C dL_law_746 rfl ?_
    refine r_iconst C dL_law_748 ?_
    refine r_iadd C dL_law_749 ?_
    refine l_sld (j := i + 1) C T (by omega) (by omega) dL_law_750 ?_
    refine r_callV (as := [vi (xs (i + 1)).toInt]) (na := 1) (rest := []) C mid_20 (hp_20 _) rfl (M_clauseAt (sa (pmkF 0 S) 30 0 0 (w32 ((((pa (pmkF 0 S) 9 0 (xs (i + 1)).toInt.toNat % 5) % 5 : Nat) : Int)))) (xs (i + 1)).toInt (hxr _) (pmk_MI3 hI _)) gL_law_X11_clauseAt (by decide +kernel) (by decide) (by decide) rfl (Nat.le_of_ble_eq_true rfl) rfl dL_law_751 rfl (fun v2 S2 hp2 => ?_)
    rcases hp2 with ⟨rfl, rfl, md⟩ | ⟨rfl, rfl, md⟩
    · skip
      refine r_istore (lv' := [(6, _), (5, _), (0, _), (1, _), (2, _), (3, _), (4, _)]) C dL_law_754 (hn _ (by decide)) rfl ?_
      refine r_aload_n C dL_law_756 rfl rfl ?_
      refine r_callV (as := []) (na := 0) (rest := []) C mid_20 (hp_20 _) rfl (M_thrown _) gL_law_X11_thrown (by decide +kernel) (by decide) (by decide) rfl (Nat.le_of_ble_eq_true rfl) rfl dL_law_757 rfl (fun v3 S3 hp3 => ?_)
      obtain ⟨rfl, e9⟩ := hp3
      subst S3
      refine At_val (v' := vi 0) (congrArg vi (rfl)) ?_
      refine r_iload C dL_law_760 rfl ?_
      refine r_icmp_eq (tgt := 767) C dL_law_762 (by decide) (by decide) (by decide) (fun h9 => ?_) (fun h9 => absurd rfl h9)
      refine r_iload C dL_law_767 rfl ?_
      refine r_if_ne (tgt := 784) C dL_law_769 (by decide) (by decide) (fun h8 => absurd rfl h8) (fun h8 => ?_)
      refine r_aload_n C dL_law_772 rfl rfl ?_
      refine r_iconst C dL_law_773 ?_
      refine r_lald (j := 0) C mid_30 (hp_30 _) rfl rfl (by decide) (by decide) dL_law_774 ?_
      refine At_val (v' := vl (w32 (ai (makesF (sa (pmkF 0 S) 30 0 0 (w32 ((((pa (pmkF 0 S) 9 0 (xs (i + 1)).toInt.toNat % 5) % 5 : Nat) : Int))))) 21 18 (xs (i + 1)).toInt.toNat))) (congrArg vl ((mks_30 (sa (pmkF 0 S) 30 0 0 (w32 ((((pa (pmkF 0 S) 9 0 (xs (i + 1)).toInt.toNat % 5) % 5 : Nat) : Int))))).trans (congrArg w32 ((PN_at hpn (d := (xs (i + 1)).toInt) (by omega) (by omega)).1)))) ?_
      refine r_iload C dL_law_775 rfl ?_
      refine r_i2lx C dL_law_777 ?_
      refine r_lcmp (z := 0) C dL_law_778 (lcmp_self _) ?_
      refine r_if_eq (tgt := 784) C dL_law_779 (by decide) (by decide) (fun h6 => ?_) (fun h6 => absurd rfl h6)
      refine r_goto (tgt := 1124) C dL_law_784 (by decide) ?_
      exact back _ _ _ _ (by omega) (by omega) (hpi.s34 0) (by simp)
    · exfalso; omega
  · skip
    refine r_istore (lv' := [(5, _), (0, _), (1, _), (2, _), (3, _), (4, _)]) C dL_law_742 (hn _ (by decide)) rfl ?_
    obtain ⟨hpi, hpn⟩ := at_INV0 hI
    have hsz := hpn.1.2.2.2.2
    refine r_aload_n C dL_law_744 rfl rfl ?_
    refine r_aload_n C dL_law_745 rfl rfl ?_
    refine r_iload C dL_law_746 rfl ?_
    refine r_iconst C dL_law_748 ?_
    refine r_iadd C dL_law_749 ?_
    refine l_sld (j := i + 1) C T (by omega) (by omega) dL_law_750 ?_
    refine r_callV (as := [vi (xs (i + 1)).toInt]) (na := 1) (rest := []) C mid_20 (hp_20 _) rfl (M_clauseAt (pmkF 0 S) (xs (i + 1)).toInt (hxr _) (pmk_keep hI).2) gL_law_X11_clauseAt (by decide +kernel) (by decide) (by decide) rfl (Nat.le_of_ble_eq_true rfl) rfl dL_law_751 rfl (fun v2 S2 hp2 => ?_)
    rcases hp2 with ⟨rfl, rfl, md⟩ | ⟨rfl, rfl, md⟩
    · exfalso; omega
    · skip
      refine r_istore (lv' := [(6, _), (5, _), (0, _), (1, _), (2, _), (3, _), (4, _)]) C dL_law_754 (hn _ (by decide)) rfl ?_
      refine r_aload_n C dL_law_756 rfl rfl ?_
      refine r_callV (as := []) (na := 0) (rest := []) C mid_20 (hp_20 _) rfl (M_thrown _) gL_law_X11_thrown (by decide +kernel) (by decide) (by decide) rfl (Nat.le_of_ble_eq_true rfl) rfl dL_law_757 rfl (fun v3 S3 hp3 => ?_)
      obtain ⟨rfl, e9⟩ := hp3
      subst S3
      refine At_val (v' := vi 1) (congrArg vi (rfl)) ?_
      refine r_iload C dL_law_760 rfl ?_
      refine r_icmp_eq (tgt := 767) C dL_law_762 (by decide) (by decide) (by decide) (fun h9 => ?_) (fun h9 => absurd rfl h9)
      refine r_iload C dL_law_767 rfl ?_
      refine r_if_ne (tgt := 784) C dL_law_769 (by decide) (by decide) (fun h8 => ?_) (fun h8 => absurd h8 (by decide))
      refine r_goto (tgt := 1124) C dL_law_784 (by decide) ?_
      exact back _ _ _ _ (by omega) (by omega) (hpi.s34 1) (by simp)
set_option maxHeartbeats 4000000 in
set_option maxRecDepth 100000 in
theorem k_kindAt {X : XT} {b L c t i : Nat} {xs : Nat → Int32} (C : Cx X code RL wsL_law 30) (T : LX X b L xs) (hn : ∀ j, j < 7 → j < X.2.2.2.2.2) (hi : i + 4 ≤ L) {S : ST} (hI : INV S) (hc : c + 2 ≤ 646601) (ht : t + 12 ≤ 7156300) (hcf : c + 2 ≤ X.1.2.2.2.1.cells) (hsf : t + 12 ≤ X.1.2.2.2.1.slots) (back : ∀ (c2 t2 : Nat) (lv : List (Nat × AV)) (S2 : ST), c2 ≤ c + 2 → t2 ≤ t + 12 → INV S2 → (∀ q ∈ [(0, vr (some (99, 0))), (1, vr (some (0, 0))), (2, vr (some (20, 0))), (3, vr (some (30, 0))), (4, vi (i : Int))], q ∈ lv) → At X c2 t2 1124 lv [] S2) : At X c t 787 [(0, vr (some (99, 0))), (1, vr (some (0, 0))), (2, vr (some (20, 0))), (3, vr (some (30, 0))), (4, vi (i : Int))] [] S := by
  have hxr : ∀ j, -2147483648 ≤ (xs j).toInt ∧ (xs j).toInt < 2147483648 := fun j => i32_rng (xs j)
  obtain ⟨⟨hCI, hMI, hRK⟩, hQs, -⟩ := id hI
  obtain ⟨hb, hg⟩ := hI.run
  have hcl : c ≤ X.1.2.2.2.1.cells := by omega
  have hsl : t ≤ X.1.2.2.2.1.slots := by omega
  have hcl1 : c + 1 ≤ X.1.2.2.2.1.cells := by omega
  have hsl1 : t + 6 * 1 ≤ X.1.2.2.2.1.slots := by omega
  have hsl2 : t + 6 * 2 ≤ X.1.2.2.2.1.slots := by omega
  refine r_aload_n C dL_law_787 rfl rfl ?_
  refine r_aload_n C dL_law_788 rfl rfl ?_
  refine r_iload C dL_law_789 rfl ?_
  refine r_iconst C dL_law_791 ?_
  refine r_iadd C dL_law_792 ?_
  refine l_sld (j := i + 1) C T (by omega) (by omega) dL_law_793 ?_
  refine r_aload_n C dL_law_794 rfl rfl ?_
  refine l_callH (as := [vr (some (0, 0)), vi (xs (i + 1)).toInt, vr (some (30, 0))]) (na := 3) (rest := []) C T (l_kindAt S (xs (i + 1)).toInt (hxr _) hCI) gL_law_L_kindAt (by decide +kernel) (by decide) (by decide) rfl (Nat.le_of_ble_eq_true rfl) rfl dL_law_795 rfl (by omega) (by omega) (fun v1 S1 hp1 => ?_)
  rcases hp1 with ⟨rfl, rfl, hd1⟩ | ⟨rfl, rfl, hd1⟩
  · skip
    refine r_istore (lv' := [(5, _), (0, _), (1, _), (2, _), (3, _), (4, _)]) C dL_law_798 (hn _ (by decide)) rfl ?_
    obtain ⟨hpi, hpn⟩ := at_INV hI (w32 (iv (pmkF 0 S) 11 1 (pa (pmkF 0 S) 9 0 (xs (i + 1)).toInt.toNat % 5)))
    have hsz := hpn.1.2.2.2.2
    refine r_aload_n C dL_law_800 rfl rfl ?_
    refine r_aload_n C dL_law_801 rfl rfl ?_
    refine r_iload C dL_law_802 rfl ?_
    refine r_iconst C dL_law_804 ?_
    refine r_iadd C dL_law_805 ?_
    refine l_sld (j := i + 1) C T (by omega) (by omega) dL_law_806 ?_
    refine r_callV (as := [vi (xs (i + 1)).toInt]) (na := 1) (rest := []) C mid_20 (hp_20 _) rfl (M_kindAt (sa (pmkF 0 S) 30 0 0 (w32 (iv (pmkF 0 S) 11 1 (pa (pmkF 0 S) 9 0 (xs (i + 1)).toInt.toNat % 5)))) (xs (i + 1)).toInt (hxr _) (pmk_MI3 hI _)) gL_law_X11_kindAt (by decide +kernel) (by decide) (by decide) rfl (Nat.le_of_ble_eq_true rfl) rfl dL_law_807 rfl (fun v2 S2 hp2 => ?_)
    rcases hp2 with ⟨rfl, rfl, md⟩ | ⟨rfl, rfl, md⟩
    · skip
      refine r_istore (lv' := [(6, _), (5, _), (0, _), (1, _), (2, _), (3, _), (4, _)]) C dL_law_810 (hn _ (by decide)) rfl ?_
      refine r_aload_n C dL_law_812 rfl rfl ?_
      refine r_callV (as := []) (na := 0) (rest := []) C mid_20 (hp_20 _) rfl (M_thrown _) gL_law_X11_thrown (by decide +kernel) (by decide) (by decide) rfl (Nat.le_of_ble_eq_true rfl) rfl dL_law_813 rfl (fun v3 S3 hp3 => ?_)
      obtain ⟨rfl, e9⟩ := hp3
      subst S3
      refine At_val (v' := vi 0) (congrArg vi (rfl)) ?_
      refine r_iload C dL_law_816 rfl ?_
      refine r_icmp_eq (tgt := 823) C dL_law_818 (by decide) (by decide) (by decide) (fun h9 => ?_) (fun h9 => absurd rfl h9)
      refine r_iload C dL_law_823 rfl ?_
      refine r_if_ne (tgt := 840) C dL_law_825 (by decide) (by decide) (fun h8 => absurd rfl h8) (fun h8 => ?_)
      refine r_aload_n C dL_law_828 rfl rfl ?_
      refine r_iconst C dL_law_829 ?_
      refine r_lald (j := 0) C mid_30 (hp_30 _) rfl rfl (by decide) (by decide) dL_law_830 ?_
      refine At_val (v' := vl (w32 (ai (makesF (sa (pmkF 0 S) 30 0 0 (w32 (iv (pmkF 0 S) 11 1 (pa (pmkF 0 S) 9 0 (xs (i + 1)).toInt.toNat % 5))))) 21 10 (ai (makesF (sa (pmkF 0 S) 30 0 0 (w32 (iv (pmkF 0 S) 11 1 (pa (pmkF 0 S) 9 0 (xs (i + 1)).toInt.toNat % 5))))) 21 18 (xs (i + 1)).toInt.toNat).toNat))) (congrArg vl ((mks_30 (sa (pmkF 0 S) 30 0 0 (w32 (iv (pmkF 0 S) 11 1 (pa (pmkF 0 S) 9 0 (xs (i + 1)).toInt.toNat % 5))))).trans (congrArg w32 ((PN_at hpn (d := (xs (i + 1)).toInt) (by omega) (by omega)).2.1)))) ?_
      refine r_iload C dL_law_831 rfl ?_
      refine r_i2lx C dL_law_833 ?_
      refine r_lcmp (z := 0) C dL_law_834 (lcmp_self _) ?_
      refine r_if_eq (tgt := 840) C dL_law_835 (by decide) (by decide) (fun h6 => ?_) (fun h6 => absurd rfl h6)
      refine r_goto (tgt := 1124) C dL_law_840 (by decide) ?_
      exact back _ _ _ _ (by omega) (by omega) (hpi.s34 0) (by simp)
    · exfalso; omega
  · skip
    refine r_istore (lv' := [(5, _), (0, _), (1, _), (2, _), (3, _), (4, _)]) C dL_law_798 (hn _ (by decide)) rfl ?_
    obtain ⟨hpi, hpn⟩ := at_INV0 hI
    have hsz := hpn.1.2.2.2.2
    refine r_aload_n C dL_law_800 rfl rfl ?_
    refine r_aload_n C dL_law_801 rfl rfl ?_
    refine r_iload C dL_law_802 rfl ?_
    refine r_iconst C dL_law_804 ?_
    refine r_iadd C dL_law_805 ?_
    refine l_sld (j := i + 1) C T (by omega) (by omega) dL_law_806 ?_
    refine r_callV (as := [vi (xs (i + 1)).toInt]) (na := 1) (rest := []) C mid_20 (hp_20 _) rfl (M_kindAt (pmkF 0 S) (xs (i + 1)).toInt (hxr _) (pmk_keep hI).2) gL_law_X11_kindAt (by decide +kernel) (by decide) (by decide) rfl (Nat.le_of_ble_eq_true rfl) rfl dL_law_807 rfl (fun v2 S2 hp2 => ?_)
    rcases hp2 with ⟨rfl, rfl, md⟩ | ⟨rfl, rfl, md⟩
    · exfalso; omega
    · skip
      refine r_istore (lv' := [(6, _), (5, _), (0, _), (1, _), (2, _), (3, _), (4, _)]) C dL_law_810 (hn _ (by decide)) rfl ?_
      refine r_aload_n C dL_law_812 rfl rfl ?_
      refine r_callV (as := []) (na := 0) (rest := []) C mid_20 (hp_20 _) rfl (M_thrown _) gL_law_X11_thrown (by decide +kernel) (by decide) (by decide) rfl (Nat.le_of_ble_eq_true rfl) rfl dL_law_813 rfl (fun v3 S3 hp3 => ?_)
      obtain ⟨rfl, e9⟩ := hp3
      subst S3
      refine At_val (v' := vi 1) (congrArg vi (rfl)) ?_
      refine r_iload C dL_law_816 rfl ?_
      refine r_icmp_eq (tgt := 823) C dL_law_818 (by decide) (by decide) (by decide) (fun h9 => ?_) (fun h9 => absurd rfl h9)
      refine r_iload C dL_law_823 rfl ?_
      refine r_if_ne (tgt := 840) C dL_law_825 (by decide) (by decide) (fun h8 => ?_) (fun h8 => absurd h8 (by decide))
      refine r_goto (tgt := 1124) C dL_law_840 (by decide) ?_
      exact back _ _ _ _ (by omega) (by omega) (hpi.s34 1) (by simp)
set_option maxHeartbeats 4000000 in
set_option maxRecDepth 100000 in
theorem k_estimateAt {X : XT} {b L c t i : Nat} {xs : Nat → Int32} (C : Cx X code RL wsL_law 30) (T : LX X b L xs) (hn : ∀ j, j < 7 → j < X.2.2.2.2.2) (hi : i + 4 ≤ L) {S : ST} (hI : INV S) (hc : c + 2 ≤ 646601) (ht : t + 12 ≤ 7156300) (hcf : c + 2 ≤ X.1.2.2.2.1.cells) (hsf : t + 12 ≤ X.1.2.2.2.1.slots) (back : ∀ (c2 t2 : Nat) (lv : List (Nat × AV)) (S2 : ST), c2 ≤ c + 2 → t2 ≤ t + 12 → INV S2 → (∀ q ∈ [(0, vr (some (99, 0))), (1, vr (some (0, 0))), (2, vr (some (20, 0))), (3, vr (some (30, 0))), (4, vi (i : Int))], q ∈ lv) → At X c2 t2 1124 lv [] S2) : At X c t 843 [(0, vr (some (99, 0))), (1, vr (some (0, 0))), (2, vr (some (20, 0))), (3, vr (some (30, 0))), (4, vi (i : Int))] [] S := by
  have hxr : ∀ j, -2147483648 ≤ (xs j).toInt ∧ (xs j).toInt < 2147483648 := fun j => i32_rng (xs j)
  obtain ⟨⟨hCI, hMI, hRK⟩, hQs, -⟩ := id hI
  obtain ⟨hb, hg⟩ := hI.run
  have hcl : c ≤ X.1.2.2.2.1.cells := by omega
  have hsl : t ≤ X.1.2.2.2.1.slots := by omega
  have hcl1 : c + 1 ≤ X.1.2.2.2.1.cells := by omega
  have hsl1 : t + 6 * 1 ≤ X.1.2.2.2.1.slots := by omega
  have hsl2 : t + 6 * 2 ≤ X.1.2.2.2.1.slots := by omega
  refine r_aload_n C dL_law_843 rfl rfl ?_
  refine r_aload_n C dL_law_844 rfl rfl ?_
  refine r_iload C dL_law_845 rfl ?_
  refine r_iconst C dL_law_847 ?_
  refine r_iadd C dL_law_848 ?_
  refine l_sld (j := i + 1) C T (by omega) (by omega) dL_law_849 ?_
  refine r_aload_n C dL_law_850 rfl rfl ?_
  refine l_callH (as := [vr (some (0, 0)), vi (xs (i + 1)).toInt, vr (some (30, 0))]) (na := 3) (rest := []) C T (l_estimateAt S (xs (i + 1)).toInt (hxr _) hCI) gL_law_L_estimateAt (by decide +kernel) (by decide) (by decide) rfl (Nat.le_of_ble_eq_true rfl) rfl dL_law_851 rfl (by omega) (by omega) (fun v1 S1 hp1 => ?_)
  rcases hp1 with ⟨rfl, rfl, hd1⟩ | ⟨rfl, rfl, hd1⟩
  · skip
    refine r_istore (lv' := [(5, _), (0, _), (1, _), (2, _), (3, _), (4, _)]) C dL_law_854 (hn _ (by decide)) rfl ?_
    obtain ⟨hpi, hpn⟩ := at_INV hI (w32 (iv (pmkF 0 S) 11 6 (pa (pmkF 0 S) 9 0 (xs (i + 1)).toInt.toNat % 5)))
    have hsz := hpn.1.2.2.2.2
    refine r_aload_n C dL_law_856 rfl rfl ?_
    refine r_aload_n C dL_law_857 rfl rfl ?_
    refine r_iload C dL_law_858 rfl ?_
    refine r_iconst C dL_law_860 ?_
    refine r_iadd C dL_law_861 ?_
    refine l_sld (j := i + 1) C T (by omega) (by omega) dL_law_862 ?_
    refine r_callV (as := [vi (xs (i + 1)).toInt]) (na := 1) (rest := []) C mid_20 (hp_20 _) rfl (M_estimateAt (sa (pmkF 0 S) 30 0 0 (w32 (iv (pmkF 0 S) 11 6 (pa (pmkF 0 S) 9 0 (xs (i + 1)).toInt.toNat % 5)))) (xs (i + 1)).toInt (hxr _) (pmk_MI3 hI _)) gL_law_X11_estimateAt (by decide +kernel) (by decide) (by decide) rfl (Nat.le_of_ble_eq_true rfl) rfl dL_law_863 rfl (fun v2 S2 hp2 => ?_)
    rcases hp2 with ⟨rfl, rfl, md⟩ | ⟨rfl, rfl, md⟩
    · skip
      refine r_istore (lv' := [(6, _), (5, _), (0, _), (1, _), (2, _), (3, _), (4, _)]) C dL_law_866 (hn _ (by decide)) rfl ?_
      refine r_aload_n C dL_law_868 rfl rfl ?_
      refine r_callV (as := []) (na := 0) (rest := []) C mid_20 (hp_20 _) rfl (M_thrown _) gL_law_X11_thrown (by decide +kernel) (by decide) (by decide) rfl (Nat.le_of_ble_eq_true rfl) rfl dL_law_869 rfl (fun v3 S3 hp3 => ?_)
      obtain ⟨rfl, e9⟩ := hp3
      subst S3
      refine At_val (v' := vi 0) (congrArg vi (rfl)) ?_
      refine r_iload C dL_law_872 rfl ?_
      refine r_icmp_eq (tgt := 879) C dL_law_874 (by decide) (by decide) (by decide) (fun h9 => ?_) (fun h9 => absurd rfl h9)
      refine r_iload C dL_law_879 rfl ?_
      refine r_if_ne (tgt := 896) C dL_law_881 (by decide) (by decide) (fun h8 => absurd rfl h8) (fun h8 => ?_)
      refine r_aload_n C dL_law_884 rfl rfl ?_
      refine r_iconst C dL_law_885 ?_
      refine r_lald (j := 0) C mid_30 (hp_30 _) rfl rfl (by decide) (by decide) dL_law_886 ?_
      refine At_val (v' := vl (w32 (ai (makesF (sa (pmkF 0 S) 30 0 0 (w32 (iv (pmkF 0 S) 11 6 (pa (pmkF 0 S) 9 0 (xs (i + 1)).toInt.toNat % 5))))) 21 14 (ai (makesF (sa (pmkF 0 S) 30 0 0 (w32 (iv (pmkF 0 S) 11 6 (pa (pmkF 0 S) 9 0 (xs (i + 1)).toInt.toNat % 5))))) 21 18 (xs (i + 1)).toInt.toNat).toNat))) (congrArg vl ((mks_30 (sa (pmkF 0 S) 30 0 0 (w32 (iv (pmkF 0 S) 11 6 (pa (pmkF 0 S) 9 0 (xs (i + 1)).toInt.toNat % 5))))).trans (congrArg w32 ((PN_at hpn (d := (xs (i + 1)).toInt) (by omega) (by omega)).2.2.1)))) ?_
      refine r_iload C dL_law_887 rfl ?_
      refine r_i2lx C dL_law_889 ?_
      refine r_lcmp (z := 0) C dL_law_890 (lcmp_self _) ?_
      refine r_if_eq (tgt := 896) C dL_law_891 (by decide) (by decide) (fun h6 => ?_) (fun h6 => absurd rfl h6)
      refine r_goto (tgt := 1124) C dL_law_896 (by decide) ?_
      exact back _ _ _ _ (by omega) (by omega) (hpi.s34 0) (by simp)
    · exfalso; omega
  · skip
    refine r_istore (lv' := [(5, _), (0, _), (1, _), (2, _), (3, _), (4, _)]) C dL_law_854 (hn _ (by decide)) rfl ?_
    obtain ⟨hpi, hpn⟩ := at_INV0 hI
    have hsz := hpn.1.2.2.2.2
    refine r_aload_n C dL_law_856 rfl rfl ?_
    refine r_aload_n C dL_law_857 rfl rfl ?_
    refine r_iload C dL_law_858 rfl ?_
    refine r_iconst C dL_law_860 ?_
    refine r_iadd C dL_law_861 ?_
    refine l_sld (j := i + 1) C T (by omega) (by omega) dL_law_862 ?_
    refine r_callV (as := [vi (xs (i + 1)).toInt]) (na := 1) (rest := []) C mid_20 (hp_20 _) rfl (M_estimateAt (pmkF 0 S) (xs (i + 1)).toInt (hxr _) (pmk_keep hI).2) gL_law_X11_estimateAt (by decide +kernel) (by decide) (by decide) rfl (Nat.le_of_ble_eq_true rfl) rfl dL_law_863 rfl (fun v2 S2 hp2 => ?_)
    rcases hp2 with ⟨rfl, rfl, md⟩ | ⟨rfl, rfl, md⟩
    · exfalso; omega
    · skip
      refine r_istore (lv' := [(6, _), (5, _), (0, _), (1, _), (2, _), (3, _), (4, _)]) C dL_law_866 (hn _ (by decide)) rfl ?_
      refine r_aload_n C dL_law_868 rfl rfl ?_
      refine r_callV (as := []) (na := 0) (rest := []) C mid_20 (hp_20 _) rfl (M_thrown _) gL_law_X11_thrown (by decide +kernel) (by decide) (by decide) rfl (Nat.le_of_ble_eq_true rfl) rfl dL_law_869 rfl (fun v3 S3 hp3 => ?_)
      obtain ⟨rfl, e9⟩ := hp3
      subst S3
      refine At_val (v' := vi 1) (congrArg vi (rfl)) ?_
      refine r_iload C dL_law_872 rfl ?_
      refine r_icmp_eq (tgt := 879) C dL_law_874 (by decide) (by decide) (by decide) (fun h9 => ?_) (fun h9 => absurd rfl h9)
      refine r_iload C dL_law_879 rfl ?_
      refine r_if_ne (tgt := 896) C dL_law_881 (by decide) (by decide) (fun h8 => ?_) (fun h8 => absurd h8 (by decide))
      refine r_goto (tgt := 1124) C dL_law_896 (by decide) ?_
      exact back _ _ _ _ (by omega) (by omega) (hpi.s34 1) (by simp)
set_option maxHeartbeats 4000000 in
set_option maxRecDepth 100000 in
theorem k_literalAt {X : XT} {b L c t i : Nat} {xs : Nat → Int32} (C : Cx X code RL wsL_law 30) (T : LX X b L xs) (hn : ∀ j, j < 7 → j < X.2.2.2.2.2) (hi : i + 4 ≤ L) {S : ST} (hI : INV S) (hc : c + 2 ≤ 646601) (ht : t + 12 ≤ 7156300) (hcf : c + 2 ≤ X.1.2.2.2.1.cells) (hsf : t + 12 ≤ X.1.2.2.2.1.slots) (back : ∀ (c2 t2 : Nat) (lv : List (Nat × AV)) (S2 : ST), c2 ≤ c + 2 → t2 ≤ t + 12 → INV S2 → (∀ q ∈ [(0, vr (some (99, 0))), (1, vr (some (0, 0))), (2, vr (some (20, 0))), (3, vr (some (30, 0))), (4, vi (i : Int))], q ∈ lv) → At X c2 t2 1124 lv [] S2) : At X c t 899 [(0, vr (some (99, 0))), (1, vr (some (0, 0))), (2, vr (some (20, 0))), (3, vr (some (30, 0))), (4, vi (i : Int))] [] S := by
  have hxr : ∀ j, -2147483648 ≤ (xs j).toInt ∧ (xs j).toInt < 2147483648 := fun j => i32_rng (xs j)
  obtain ⟨⟨hCI, hMI, hRK⟩, hQs, -⟩ := id hI
  obtain ⟨hb, hg⟩ := hI.run
  have hcl : c ≤ X.1.2.2.2.1.cells := by omega
  have hsl : t ≤ X.1.2.2.2.1.slots := by omega
  have hcl1 : c + 1 ≤ X.1.2.2.2.1.cells := by omega
  have hsl1 : t + 6 * 1 ≤ X.1.2.2.2.1.slots := by omega
  have hsl2 : t + 6 * 2 ≤ X.1.2.2.2.1.slots := by omega
  refine r_aload_n C dL_law_899 rfl rfl ?_
  refine r_aload_n C dL_law_900 rfl rfl ?_
  refine r_iload C dL_law_901 rfl ?_
  refine r_iconst C dL_law_903 ?_
  refine r_iadd C dL_law_904 ?_
  refine l_sld (j := i + 1) C T (by omega) (by omega) dL_law_905 ?_
  refine r_aload_n C dL_law_906 rfl rfl ?_
  refine r_iload C dL_law_907 rfl ?_
  refine r_iconst C dL_law_909 ?_
  refine r_iadd C dL_law_910 ?_
  refine l_sld (j := i + 2) C T (by omega) (by omega) dL_law_911 ?_
  refine r_aload_n C dL_law_912 rfl rfl ?_
  refine l_callH (as := [vr (some (0, 0)), vi (xs (i + 1)).toInt, vi (xs (i + 2)).toInt, vr (some (30, 0))]) (na := 4) (rest := []) C T (l_literalAt S (xs (i + 1)).toInt (xs (i + 2)).toInt (hxr _) (hxr _) hCI) gL_law_L_literalAt (by decide +kernel) (by decide) (by decide) rfl (Nat.le_of_ble_eq_true rfl) rfl dL_law_913 rfl (by omega) (by omega) (fun v1 S1 hp1 => ?_)
  rcases hp1 with ⟨rfl, rfl, hd1, hj1⟩ | ⟨rfl, rfl, hd1⟩
  · skip
    refine r_istore (lv' := [(5, _), (0, _), (1, _), (2, _), (3, _), (4, _)]) C dL_law_916 (hn _ (by decide)) rfl ?_
    obtain ⟨hpi, hpn⟩ := at_INV hI (w32 (iv (pmkF 0 S) 14 0 (pa (pmkF 0 S) 12 (pa (pmkF 0 S) 9 0 (xs (i + 1)).toInt.toNat % 5) (xs (i + 2)).toInt.toNat)))
    have hsz := hpn.1.2.2.2.2
    refine r_aload_n C dL_law_918 rfl rfl ?_
    refine r_aload_n C dL_law_919 rfl rfl ?_
    refine r_iload C dL_law_920 rfl ?_
    refine r_iconst C dL_law_922 ?_
    refine r_iadd C dL_law_923 ?_
    refine l_sld (j := i + 1) C T (by omega) (by omega) dL_law_924 ?_
    refine r_aload_n C dL_law_925 rfl rfl ?_
    refine r_iload C dL_law_926 rfl ?_
    refine r_iconst C dL_law_928 ?_
    refine r_iadd C dL_law_929 ?_
    refine l_sld (j := i + 2) C T (by omega) (by omega) dL_law_930 ?_
    refine r_callV (as := [vi (xs (i + 1)).toInt, vi (xs (i + 2)).toInt]) (na := 2) (rest := []) C mid_20 (hp_20 _) rfl (M_literalAt (sa (pmkF 0 S) 30 0 0 (w32 (iv (pmkF 0 S) 14 0 (pa (pmkF 0 S) 12 (pa (pmkF 0 S) 9 0 (xs (i + 1)).toInt.toNat % 5) (xs (i + 2)).toInt.toNat)))) (xs (i + 1)).toInt (xs (i + 2)).toInt (hxr _) (hxr _) (pmk_MI3 hI _)) gL_law_X11_literalAt (by decide +kernel) (by decide) (by decide) rfl (Nat.le_of_ble_eq_true rfl) rfl dL_law_931 rfl (fun v2 S2 hp2 => ?_)
    rcases hp2 with ⟨rfl, rfl, md, mj⟩ | ⟨rfl, rfl, md⟩
    · skip
      refine r_istore (lv' := [(6, _), (5, _), (0, _), (1, _), (2, _), (3, _), (4, _)]) C dL_law_934 (hn _ (by decide)) rfl ?_
      refine r_aload_n C dL_law_936 rfl rfl ?_
      refine r_callV (as := []) (na := 0) (rest := []) C mid_20 (hp_20 _) rfl (M_thrown _) gL_law_X11_thrown (by decide +kernel) (by decide) (by decide) rfl (Nat.le_of_ble_eq_true rfl) rfl dL_law_937 rfl (fun v3 S3 hp3 => ?_)
      obtain ⟨rfl, e9⟩ := hp3
      subst S3
      refine At_val (v' := vi 0) (congrArg vi (rfl)) ?_
      refine r_iload C dL_law_940 rfl ?_
      refine r_icmp_eq (tgt := 947) C dL_law_942 (by decide) (by decide) (by decide) (fun h9 => ?_) (fun h9 => absurd rfl h9)
      refine r_iload C dL_law_947 rfl ?_
      refine r_if_ne (tgt := 964) C dL_law_949 (by decide) (by decide) (fun h8 => absurd rfl h8) (fun h8 => ?_)
      refine r_aload_n C dL_law_952 rfl rfl ?_
      refine r_iconst C dL_law_953 ?_
      refine r_lald (j := 0) C mid_30 (hp_30 _) rfl rfl (by decide) (by decide) dL_law_954 ?_
      refine At_val (v' := vl (w32 (ai (makesF (sa (pmkF 0 S) 30 0 0 (w32 (iv (pmkF 0 S) 14 0 (pa (pmkF 0 S) 12 (pa (pmkF 0 S) 9 0 (xs (i + 1)).toInt.toNat % 5) (xs (i + 2)).toInt.toNat))))) 21 13 (6 * (ai (makesF (sa (pmkF 0 S) 30 0 0 (w32 (iv (pmkF 0 S) 14 0 (pa (pmkF 0 S) 12 (pa (pmkF 0 S) 9 0 (xs (i + 1)).toInt.toNat % 5) (xs (i + 2)).toInt.toNat))))) 21 18 (xs (i + 1)).toInt.toNat).toNat + (xs (i + 2)).toInt.toNat)))) (congrArg vl ((mks_30 (sa (pmkF 0 S) 30 0 0 (w32 (iv (pmkF 0 S) 14 0 (pa (pmkF 0 S) 12 (pa (pmkF 0 S) 9 0 (xs (i + 1)).toInt.toNat % 5) (xs (i + 2)).toInt.toNat))))).trans (congrArg w32 ((PN_at hpn (d := (xs (i + 1)).toInt) (by omega) (by omega)).2.2.2.2 (xs (i + 2)).toInt (by omega) (by omega))))) ?_
      refine r_iload C dL_law_955 rfl ?_
      refine r_i2lx C dL_law_957 ?_
      refine r_lcmp (z := 0) C dL_law_958 (lcmp_self _) ?_
      refine r_if_eq (tgt := 964) C dL_law_959 (by decide) (by decide) (fun h6 => ?_) (fun h6 => absurd rfl h6)
      refine r_goto (tgt := 1124) C dL_law_964 (by decide) ?_
      exact back _ _ _ _ (by omega) (by omega) (hpi.s34 0) (by simp)
    · exfalso; have e12 := (PN_at hpn (d := (xs (i + 1)).toInt) (by omega) (by omega)).2.2.2.1; omega
  · skip
    refine r_istore (lv' := [(5, _), (0, _), (1, _), (2, _), (3, _), (4, _)]) C dL_law_916 (hn _ (by decide)) rfl ?_
    obtain ⟨hpi, hpn⟩ := at_INV0 hI
    have hsz := hpn.1.2.2.2.2
    refine r_aload_n C dL_law_918 rfl rfl ?_
    refine r_aload_n C dL_law_919 rfl rfl ?_
    refine r_iload C dL_law_920 rfl ?_
    refine r_iconst C dL_law_922 ?_
    refine r_iadd C dL_law_923 ?_
    refine l_sld (j := i + 1) C T (by omega) (by omega) dL_law_924 ?_
    refine r_aload_n C dL_law_925 rfl rfl ?_
    refine r_iload C dL_law_926 rfl ?_
    refine r_iconst C dL_law_928 ?_
    refine r_iadd C dL_law_929 ?_
    refine l_sld (j := i + 2) C T (by omega) (by omega) dL_law_930 ?_
    refine r_callV (as := [vi (xs (i + 1)).toInt, vi (xs (i + 2)).toInt]) (na := 2) (rest := []) C mid_20 (hp_20 _) rfl (M_literalAt (pmkF 0 S) (xs (i + 1)).toInt (xs (i + 2)).toInt (hxr _) (hxr _) (pmk_keep hI).2) gL_law_X11_literalAt (by decide +kernel) (by decide) (by decide) rfl (Nat.le_of_ble_eq_true rfl) rfl dL_law_931 rfl (fun v2 S2 hp2 => ?_)
    rcases hp2 with ⟨rfl, rfl, md, mj⟩ | ⟨rfl, rfl, md⟩
    · exfalso; have e12 := (PN_at hpn (d := (xs (i + 1)).toInt) (by omega) (by omega)).2.2.2.1; omega
    · skip
      refine r_istore (lv' := [(6, _), (5, _), (0, _), (1, _), (2, _), (3, _), (4, _)]) C dL_law_934 (hn _ (by decide)) rfl ?_
      refine r_aload_n C dL_law_936 rfl rfl ?_
      refine r_callV (as := []) (na := 0) (rest := []) C mid_20 (hp_20 _) rfl (M_thrown _) gL_law_X11_thrown (by decide +kernel) (by decide) (by decide) rfl (Nat.le_of_ble_eq_true rfl) rfl dL_law_937 rfl (fun v3 S3 hp3 => ?_)
      obtain ⟨rfl, e9⟩ := hp3
      subst S3
      refine At_val (v' := vi 1) (congrArg vi (rfl)) ?_
      refine r_iload C dL_law_940 rfl ?_
      refine r_icmp_eq (tgt := 947) C dL_law_942 (by decide) (by decide) (by decide) (fun h9 => ?_) (fun h9 => absurd rfl h9)
      refine r_iload C dL_law_947 rfl ?_
      refine r_if_ne (tgt := 964) C dL_law_949 (by decide) (by decide) (fun h8 => ?_) (fun h8 => absurd h8 (by decide))
      refine r_goto (tgt := 1124) C dL_law_964 (by decide) ?_
      exact back _ _ _ _ (by omega) (by omega) (hpi.s34 1) (by simp)
set_option maxHeartbeats 4000000 in
set_option maxRecDepth 100000 in
theorem k_begin {X : XT} {b L c t i : Nat} {xs : Nat → Int32} (C : Cx X code RL wsL_law 30) (T : LX X b L xs) (hn : ∀ j, j < 7 → j < X.2.2.2.2.2) (hi : i + 4 ≤ L) {S : ST} (hI : INV S) (hc : c + 2 ≤ 646601) (ht : t + 12 ≤ 7156300) (hcf : c + 2 ≤ X.1.2.2.2.1.cells) (hsf : t + 12 ≤ X.1.2.2.2.1.slots) (back : ∀ (c2 t2 : Nat) (lv : List (Nat × AV)) (S2 : ST), c2 ≤ c + 2 → t2 ≤ t + 12 → INV S2 → (∀ q ∈ [(0, vr (some (99, 0))), (1, vr (some (0, 0))), (2, vr (some (20, 0))), (3, vr (some (30, 0))), (4, vi (i : Int))], q ∈ lv) → At X c2 t2 1124 lv [] S2) : At X c t 967 [(0, vr (some (99, 0))), (1, vr (some (0, 0))), (2, vr (some (20, 0))), (3, vr (some (30, 0))), (4, vi (i : Int))] [] S := by
  have hxr : ∀ j, -2147483648 ≤ (xs j).toInt ∧ (xs j).toInt < 2147483648 := fun j => i32_rng (xs j)
  obtain ⟨⟨hCI, hMI, hRK⟩, hQs, -⟩ := id hI
  obtain ⟨hb, hg⟩ := hI.run
  have hcl : c ≤ X.1.2.2.2.1.cells := by omega
  have hsl : t ≤ X.1.2.2.2.1.slots := by omega
  have hcl1 : c + 1 ≤ X.1.2.2.2.1.cells := by omega
  have hsl1 : t + 6 * 1 ≤ X.1.2.2.2.1.slots := by omega
  have hsl2 : t + 6 * 2 ≤ X.1.2.2.2.1.slots := by omega
  have hrg : -2147483648 ≤ planEstM (mbgF (makesF (si (begC S) 20 34 0 0))) ∧ planEstM (mbgF (makesF (si (begC S) 20 34 0 0))) < 2147483648 := by rw [← (begin_INV hI).2]; have := (beg_rng hI).1; omega
  refine r_aload_n C dL_law_967 rfl rfl ?_
  refine r_callV (as := []) (na := 0) (rest := []) C mid_0 (hp_0 _) rfl (c_begin S hCI) gL_law_X10_begin (by decide +kernel) (by decide) (by decide) rfl (Nat.le_of_ble_eq_true rfl) rfl dL_law_968 rfl (fun v1 S1 hp1 => ?_)
  obtain ⟨rfl, e9⟩ := hp1
  subst S1
  refine At_val (v' := vi (planEstM (mbgF (makesF (si (begC S) 20 34 0 0))))) (congrArg vi ((begin_INV hI).2)) ?_
  refine r_aload_n C dL_law_971 rfl rfl ?_
  refine r_callV (as := []) (na := 0) (rest := [_]) C mid_20 (hp_20 _) rfl (M_begin (begC S) (beg_rng hI).2) gL_law_X11_begin (by decide +kernel) (by decide) (by decide) rfl (Nat.le_of_ble_eq_true rfl) rfl dL_law_972 rfl (fun v2 S2 hp2 => ?_)
  obtain ⟨rfl, e9⟩ := hp2
  subst S2
  refine r_icmp_eq (tgt := 1124) C dL_law_975 (by decide) hrg hrg (fun h9 => ?_) (fun h9 => absurd rfl h9)
  exact back _ _ _ _ (by omega) (by omega) ((begin_INV hI).1) (by simp)
set_option maxHeartbeats 4000000 in
set_option maxRecDepth 100000 in
theorem k_leap {X : XT} {b L c t i : Nat} {xs : Nat → Int32} (C : Cx X code RL wsL_law 30) (T : LX X b L xs) (hn : ∀ j, j < 7 → j < X.2.2.2.2.2) (hi : i + 4 ≤ L) {S : ST} (hI : INV S) (hc : c + 2 ≤ 646601) (ht : t + 12 ≤ 7156300) (hcf : c + 2 ≤ X.1.2.2.2.1.cells) (hsf : t + 12 ≤ X.1.2.2.2.1.slots) (back : ∀ (c2 t2 : Nat) (lv : List (Nat × AV)) (S2 : ST), c2 ≤ c + 2 → t2 ≤ t + 12 → INV S2 → (∀ q ∈ [(0, vr (some (99, 0))), (1, vr (some (0, 0))), (2, vr (some (20, 0))), (3, vr (some (30, 0))), (4, vi (i : Int))], q ∈ lv) → At X c2 t2 1124 lv [] S2) : At X c t 980 [(0, vr (some (99, 0))), (1, vr (some (0, 0))), (2, vr (some (20, 0))), (3, vr (some (30, 0))), (4, vi (i : Int))] [] S := by
  have hxr : ∀ j, -2147483648 ≤ (xs j).toInt ∧ (xs j).toInt < 2147483648 := fun j => i32_rng (xs j)
  obtain ⟨⟨hCI, hMI, hRK⟩, hQs, -⟩ := id hI
  obtain ⟨hb, hg⟩ := hI.run
  have hcl : c ≤ X.1.2.2.2.1.cells := by omega
  have hsl : t ≤ X.1.2.2.2.1.slots := by omega
  have hcl1 : c + 1 ≤ X.1.2.2.2.1.cells := by omega
  have hsl1 : t + 6 * 1 ≤ X.1.2.2.2.1.slots := by omega
  have hsl2 : t + 6 * 2 ≤ X.1.2.2.2.1.slots := by omega
  refine r_aload_n C dL_law_980 rfl rfl ?_
  refine r_aload_n C dL_law_981 rfl rfl ?_
  refine r_iload C dL_law_982 rfl ?_
  refine r_iconst C dL_law_984 ?_
  refine r_iadd C dL_law_985 ?_
  refine l_sld (j := i + 1) C T (by omega) (by omega) dL_law_986 ?_
  refine r_aload_n C dL_law_987 rfl rfl ?_
  refine l_callH (as := [vr (some (0, 0)), vi (xs (i + 1)).toInt, vr (some (30, 0))]) (na := 3) (rest := []) C T (l_leap S (xs (i + 1)).toInt (hxr _) hCI hb hg) gL_law_L_leap (by decide +kernel) (by decide) (by decide) rfl (Nat.le_of_ble_eq_true rfl) rfl dL_law_988 rfl (by omega) (by omega) (fun v1 S1 hp1 => ?_)
  rcases hp1 with ⟨rfl, rfl, hd1, hr1⟩ | ⟨rfl, e0, hd1⟩ | ⟨rfl, e0, hd1, hr1⟩
  · skip
    refine r_istore (lv' := [(5, _), (0, _), (1, _), (2, _), (3, _), (4, _)]) C dL_law_991 (hn _ (by decide)) rfl ?_
    have hr2 : iv S 20 19 0 = 1 := hI.2.2.1.1.symm.trans hr1
    have hak := adv_MK hI (d := (xs (i + 1)).toInt) hd1 (w32 (advF (xs (i + 1)).toInt S).1)
    obtain ⟨hli, hle⟩ := leap_INV3 hI (d := (xs (i + 1)).toInt) hd1 hr2 (w32 (advF (xs (i + 1)).toInt S).1)
    have hml := mlp_at (d := (xs (i + 1)).toInt) hak.1 hak.2.1
    have q19 := hak.2.2
    refine r_aload_n C dL_law_993 rfl rfl ?_
    refine r_aload_n C dL_law_994 rfl rfl ?_
    refine r_iload C dL_law_995 rfl ?_
    refine r_iconst C dL_law_997 ?_
    refine r_iadd C dL_law_998 ?_
    refine l_sld (j := i + 1) C T (by omega) (by omega) dL_law_999 ?_
    refine r_callV (as := [vi (xs (i + 1)).toInt]) (na := 1) (rest := []) C mid_20 (hp_20 _) rfl (M_leap (sa (advF (xs (i + 1)).toInt S).2 30 0 0 (w32 (advF (xs (i + 1)).toInt S).1)) (xs (i + 1)).toInt (hxr _) hak.2.1 hak.1) gL_law_X11_leap (by decide +kernel) (by decide) (by decide) rfl (Nat.le_of_ble_eq_true rfl) rfl dL_law_1000 rfl (fun v2 S2 hp2 => ?_)
    rcases hp2 with ⟨rfl, rfl, md, mr⟩ | ⟨rfl, rfl, md⟩ | ⟨rfl, rfl, md, mr⟩
    · skip
      refine r_istore (lv' := [(6, _), (5, _), (0, _), (1, _), (2, _), (3, _), (4, _)]) C dL_law_1003 (hn _ (by decide)) rfl ?_
      refine r_aload_n C dL_law_1005 rfl rfl ?_
      refine r_callV (as := []) (na := 0) (rest := []) C mid_20 (hp_20 _) rfl (M_thrown _) gL_law_X11_thrown (by decide +kernel) (by decide) (by decide) rfl (Nat.le_of_ble_eq_true rfl) rfl dL_law_1006 rfl (fun v3 S3 hp3 => ?_)
      obtain ⟨rfl, e9⟩ := hp3
      subst S3
      refine At_val (v' := vi 0) (congrArg vi (hml.1)) ?_
      refine r_iload C dL_law_1009 rfl ?_
      refine r_icmp_eq (tgt := 1016) C dL_law_1011 (by decide) (by decide) (by decide) (fun h9 => ?_) (fun h9 => absurd rfl h9)
      refine r_iload C dL_law_1016 rfl ?_
      refine r_if_ne (tgt := 1033) C dL_law_1018 (by decide) (by decide) (fun h8 => absurd rfl h8) (fun h8 => ?_)
      refine r_aload_n C dL_law_1021 rfl rfl ?_
      refine r_iconst C dL_law_1022 ?_
      refine r_lald (j := 0) C mid_30 (hp_30 _) rfl rfl (by decide) (by decide) dL_law_1023 ?_
      refine At_val (v' := vl (w32 ((mlpF (xs (i + 1)).toInt (si (sa (advF (xs (i + 1)).toInt S).2 30 0 0 (w32 (advF (xs (i + 1)).toInt S).1)) 20 34 0 0)).1))) (congrArg vl (hml.2.trans (congrArg w32 hle))) ?_
      refine r_iload C dL_law_1024 rfl ?_
      refine r_i2lx C dL_law_1026 ?_
      refine r_lcmp (z := 0) C dL_law_1027 (lcmp_self _) ?_
      refine r_if_eq (tgt := 1033) C dL_law_1028 (by decide) (by decide) (fun h6 => ?_) (fun h6 => absurd rfl h6)
      refine r_goto (tgt := 1124) C dL_law_1033 (by decide) ?_
      exact back _ _ _ _ (by omega) (by omega) (hli) (by simp)
    · exfalso; omega
    · exfalso; omega
  · skip
    subst S1
    refine r_istore (lv' := [(5, _), (0, _), (1, _), (2, _), (3, _), (4, _)]) C dL_law_991 (hn _ (by decide)) rfl ?_
    refine r_aload_n C dL_law_993 rfl rfl ?_
    refine r_aload_n C dL_law_994 rfl rfl ?_
    refine r_iload C dL_law_995 rfl ?_
    refine r_iconst C dL_law_997 ?_
    refine r_iadd C dL_law_998 ?_
    refine l_sld (j := i + 1) C T (by omega) (by omega) dL_law_999 ?_
    refine r_callV (as := [vi (xs (i + 1)).toInt]) (na := 1) (rest := []) C mid_20 (hp_20 _) rfl (M_leap S (xs (i + 1)).toInt (hxr _) hRK hMI) gL_law_X11_leap (by decide +kernel) (by decide) (by decide) rfl (Nat.le_of_ble_eq_true rfl) rfl dL_law_1000 rfl (fun v2 S2 hp2 => ?_)
    rcases hp2 with ⟨rfl, rfl, md, mr⟩ | ⟨rfl, rfl, md⟩ | ⟨rfl, rfl, md, mr⟩
    · exfalso; omega
    · skip
      refine r_istore (lv' := [(6, _), (5, _), (0, _), (1, _), (2, _), (3, _), (4, _)]) C dL_law_1003 (hn _ (by decide)) rfl ?_
      refine r_aload_n C dL_law_1005 rfl rfl ?_
      refine r_callV (as := []) (na := 0) (rest := []) C mid_20 (hp_20 _) rfl (M_thrown _) gL_law_X11_thrown (by decide +kernel) (by decide) (by decide) rfl (Nat.le_of_ble_eq_true rfl) rfl dL_law_1006 rfl (fun v3 S3 hp3 => ?_)
      obtain ⟨rfl, e9⟩ := hp3
      subst S3
      refine At_val (v' := vi 1) (congrArg vi (by simp [iv, si, sa, up3])) ?_
      refine r_iload C dL_law_1009 rfl ?_
      refine r_icmp_eq (tgt := 1016) C dL_law_1011 (by decide) (by decide) (by decide) (fun h9 => ?_) (fun h9 => absurd rfl h9)
      refine r_iload C dL_law_1016 rfl ?_
      refine r_if_ne (tgt := 1033) C dL_law_1018 (by decide) (by decide) (fun h8 => ?_) (fun h8 => absurd h8 (by decide))
      refine r_goto (tgt := 1124) C dL_law_1033 (by decide) ?_
      exact back _ _ _ _ (by omega) (by omega) (hI.s34 1) (by simp)
    · exfalso; omega
  · skip
    subst S1
    refine r_istore (lv' := [(5, _), (0, _), (1, _), (2, _), (3, _), (4, _)]) C dL_law_991 (hn _ (by decide)) rfl ?_
    have hr2 : iv S 20 19 0 = 0 := hI.2.2.1.1.symm.trans hr1
    refine r_aload_n C dL_law_993 rfl rfl ?_
    refine r_aload_n C dL_law_994 rfl rfl ?_
    refine r_iload C dL_law_995 rfl ?_
    refine r_iconst C dL_law_997 ?_
    refine r_iadd C dL_law_998 ?_
    refine l_sld (j := i + 1) C T (by omega) (by omega) dL_law_999 ?_
    refine r_callV (as := [vi (xs (i + 1)).toInt]) (na := 1) (rest := []) C mid_20 (hp_20 _) rfl (M_leap S (xs (i + 1)).toInt (hxr _) hRK hMI) gL_law_X11_leap (by decide +kernel) (by decide) (by decide) rfl (Nat.le_of_ble_eq_true rfl) rfl dL_law_1000 rfl (fun v2 S2 hp2 => ?_)
    rcases hp2 with ⟨rfl, rfl, md, mr⟩ | ⟨rfl, rfl, md⟩ | ⟨rfl, rfl, md, mr⟩
    · exfalso; omega
    · exfalso; omega
    · skip
      refine r_istore (lv' := [(6, _), (5, _), (0, _), (1, _), (2, _), (3, _), (4, _)]) C dL_law_1003 (hn _ (by decide)) rfl ?_
      refine r_aload_n C dL_law_1005 rfl rfl ?_
      refine r_callV (as := []) (na := 0) (rest := []) C mid_20 (hp_20 _) rfl (M_thrown _) gL_law_X11_thrown (by decide +kernel) (by decide) (by decide) rfl (Nat.le_of_ble_eq_true rfl) rfl dL_law_1006 rfl (fun v3 S3 hp3 => ?_)
      obtain ⟨rfl, e9⟩ := hp3
      subst S3
      refine At_val (v' := vi 2) (congrArg vi (by simp [iv, si, sa, up3])) ?_
      refine r_iload C dL_law_1009 rfl ?_
      refine r_icmp_eq (tgt := 1016) C dL_law_1011 (by decide) (by decide) (by decide) (fun h9 => ?_) (fun h9 => absurd rfl h9)
      refine r_iload C dL_law_1016 rfl ?_
      refine r_if_ne (tgt := 1033) C dL_law_1018 (by decide) (by decide) (fun h8 => ?_) (fun h8 => absurd h8 (by decide))
      refine r_goto (tgt := 1124) C dL_law_1033 (by decide) ?_
      exact back _ _ _ _ (by omega) (by omega) (hI.s34 2) (by simp)
set_option maxHeartbeats 4000000 in
set_option maxRecDepth 100000 in
theorem k_next {X : XT} {b L c t i : Nat} {xs : Nat → Int32} (C : Cx X code RL wsL_law 30) (T : LX X b L xs) (hn : ∀ j, j < 7 → j < X.2.2.2.2.2) (hi : i + 4 ≤ L) {S : ST} (hI : INV S) (hc : c + 2 ≤ 646601) (ht : t + 12 ≤ 7156300) (hcf : c + 2 ≤ X.1.2.2.2.1.cells) (hsf : t + 12 ≤ X.1.2.2.2.1.slots) (back : ∀ (c2 t2 : Nat) (lv : List (Nat × AV)) (S2 : ST), c2 ≤ c + 2 → t2 ≤ t + 12 → INV S2 → (∀ q ∈ [(0, vr (some (99, 0))), (1, vr (some (0, 0))), (2, vr (some (20, 0))), (3, vr (some (30, 0))), (4, vi (i : Int))], q ∈ lv) → At X c2 t2 1124 lv [] S2) : At X c t 1036 [(0, vr (some (99, 0))), (1, vr (some (0, 0))), (2, vr (some (20, 0))), (3, vr (some (30, 0))), (4, vi (i : Int))] [] S := by
  have hxr : ∀ j, -2147483648 ≤ (xs j).toInt ∧ (xs j).toInt < 2147483648 := fun j => i32_rng (xs j)
  obtain ⟨⟨hCI, hMI, hRK⟩, hQs, -⟩ := id hI
  obtain ⟨hb, hg⟩ := hI.run
  have hcl : c ≤ X.1.2.2.2.1.cells := by omega
  have hsl : t ≤ X.1.2.2.2.1.slots := by omega
  have hcl1 : c + 1 ≤ X.1.2.2.2.1.cells := by omega
  have hsl1 : t + 6 * 1 ≤ X.1.2.2.2.1.slots := by omega
  have hsl2 : t + 6 * 2 ≤ X.1.2.2.2.1.slots := by omega
  refine r_aload_n C dL_law_1036 rfl rfl ?_
  refine r_aload_n C dL_law_1037 rfl rfl ?_
  refine l_callH (as := [vr (some (0, 0)), vr (some (30, 0))]) (na := 2) (rest := []) C T (l_next S hCI hb hg) gL_law_L_next (by decide +kernel) (by decide) (by decide) rfl (Nat.le_of_ble_eq_true rfl) rfl dL_law_1038 rfl (by omega) (by omega) (fun v1 S1 hp1 => ?_)
  rcases hp1 with ⟨rfl, rfl, hr1⟩ | ⟨rfl, e0, hr1⟩
  · skip
    refine r_istore (lv' := [(5, _), (0, _), (1, _), (2, _), (3, _), (4, _)]) C dL_law_1041 (hn _ (by decide)) rfl ?_
    have hr2 : iv S 20 19 0 = 1 := hI.2.2.1.1.symm.trans hr1
    have hak := adv_MK hI (d := 0) (by decide) (w32 (advF 0 S).1)
    obtain ⟨hli, hle⟩ := leap_INV3 hI (d := 0) (by decide) hr2 (w32 (advF 0 S).1)
    have hml := mlp_at (d := 0) hak.1 hak.2.1
    have q19 := hak.2.2
    refine r_aload_n C dL_law_1043 rfl rfl ?_
    refine r_callV (as := []) (na := 0) (rest := []) C mid_20 (hp_20 _) rfl (M_next (sa (advF 0 S).2 30 0 0 (w32 (advF 0 S).1)) hak.2.1 hak.1) gL_law_X11_next (by decide +kernel) (by decide) (by decide) rfl (Nat.le_of_ble_eq_true rfl) rfl dL_law_1044 rfl (fun v2 S2 hp2 => ?_)
    rcases hp2 with ⟨rfl, rfl, mr⟩ | ⟨rfl, rfl, mr⟩
    · skip
      refine r_istore (lv' := [(6, _), (5, _), (0, _), (1, _), (2, _), (3, _), (4, _)]) C dL_law_1047 (hn _ (by decide)) rfl ?_
      refine r_aload_n C dL_law_1049 rfl rfl ?_
      refine r_callV (as := []) (na := 0) (rest := []) C mid_20 (hp_20 _) rfl (M_thrown _) gL_law_X11_thrown (by decide +kernel) (by decide) (by decide) rfl (Nat.le_of_ble_eq_true rfl) rfl dL_law_1050 rfl (fun v3 S3 hp3 => ?_)
      obtain ⟨rfl, e9⟩ := hp3
      subst S3
      refine At_val (v' := vi 0) (congrArg vi (hml.1)) ?_
      refine r_iload C dL_law_1053 rfl ?_
      refine r_icmp_eq (tgt := 1060) C dL_law_1055 (by decide) (by decide) (by decide) (fun h9 => ?_) (fun h9 => absurd rfl h9)
      refine r_iload C dL_law_1060 rfl ?_
      refine r_if_ne (tgt := 1077) C dL_law_1062 (by decide) (by decide) (fun h8 => absurd rfl h8) (fun h8 => ?_)
      refine r_aload_n C dL_law_1065 rfl rfl ?_
      refine r_iconst C dL_law_1066 ?_
      refine r_lald (j := 0) C mid_30 (hp_30 _) rfl rfl (by decide) (by decide) dL_law_1067 ?_
      refine At_val (v' := vl (w32 ((mlpF 0 (si (sa (advF 0 S).2 30 0 0 (w32 (advF 0 S).1)) 20 34 0 0)).1))) (congrArg vl (hml.2.trans (congrArg w32 hle))) ?_
      refine r_iload C dL_law_1068 rfl ?_
      refine r_i2lx C dL_law_1070 ?_
      refine r_lcmp (z := 0) C dL_law_1071 (lcmp_self _) ?_
      refine r_if_eq (tgt := 1077) C dL_law_1072 (by decide) (by decide) (fun h6 => ?_) (fun h6 => absurd rfl h6)
      refine r_goto (tgt := 1124) C dL_law_1077 (by decide) ?_
      exact back _ _ _ _ (by omega) (by omega) (hli) (by simp)
    · exfalso; omega
  · skip
    subst S1
    refine r_istore (lv' := [(5, _), (0, _), (1, _), (2, _), (3, _), (4, _)]) C dL_law_1041 (hn _ (by decide)) rfl ?_
    have hr2 : iv S 20 19 0 = 0 := hI.2.2.1.1.symm.trans hr1
    refine r_aload_n C dL_law_1043 rfl rfl ?_
    refine r_callV (as := []) (na := 0) (rest := []) C mid_20 (hp_20 _) rfl (M_next S hRK hMI) gL_law_X11_next (by decide +kernel) (by decide) (by decide) rfl (Nat.le_of_ble_eq_true rfl) rfl dL_law_1044 rfl (fun v2 S2 hp2 => ?_)
    rcases hp2 with ⟨rfl, rfl, mr⟩ | ⟨rfl, rfl, mr⟩
    · exfalso; omega
    · skip
      refine r_istore (lv' := [(6, _), (5, _), (0, _), (1, _), (2, _), (3, _), (4, _)]) C dL_law_1047 (hn _ (by decide)) rfl ?_
      refine r_aload_n C dL_law_1049 rfl rfl ?_
      refine r_callV (as := []) (na := 0) (rest := []) C mid_20 (hp_20 _) rfl (M_thrown _) gL_law_X11_thrown (by decide +kernel) (by decide) (by decide) rfl (Nat.le_of_ble_eq_true rfl) rfl dL_law_1050 rfl (fun v3 S3 hp3 => ?_)
      obtain ⟨rfl, e9⟩ := hp3
      subst S3
      refine At_val (v' := vi 1) (congrArg vi (by simp [iv, si, sa, up3])) ?_
      refine r_iload C dL_law_1053 rfl ?_
      refine r_icmp_eq (tgt := 1060) C dL_law_1055 (by decide) (by decide) (by decide) (fun h9 => ?_) (fun h9 => absurd rfl h9)
      refine r_iload C dL_law_1060 rfl ?_
      refine r_if_ne (tgt := 1077) C dL_law_1062 (by decide) (by decide) (fun h8 => ?_) (fun h8 => absurd h8 (by decide))
      refine r_goto (tgt := 1124) C dL_law_1077 (by decide) ?_
      exact back _ _ _ _ (by omega) (by omega) (hI.s34 1) (by simp)
set_option maxHeartbeats 4000000 in
set_option maxRecDepth 100000 in
theorem k_readings {X : XT} {b L c t i : Nat} {xs : Nat → Int32} (C : Cx X code RL wsL_law 30) (T : LX X b L xs) (hn : ∀ j, j < 7 → j < X.2.2.2.2.2) (hi : i + 4 ≤ L) {S : ST} (hI : INV S) (hc : c + 2 ≤ 646601) (ht : t + 12 ≤ 7156300) (hcf : c + 2 ≤ X.1.2.2.2.1.cells) (hsf : t + 12 ≤ X.1.2.2.2.1.slots) (back : ∀ (c2 t2 : Nat) (lv : List (Nat × AV)) (S2 : ST), c2 ≤ c + 2 → t2 ≤ t + 12 → INV S2 → (∀ q ∈ [(0, vr (some (99, 0))), (1, vr (some (0, 0))), (2, vr (some (20, 0))), (3, vr (some (30, 0))), (4, vi (i : Int))], q ∈ lv) → At X c2 t2 1124 lv [] S2) : At X c t 1080 [(0, vr (some (99, 0))), (1, vr (some (0, 0))), (2, vr (some (20, 0))), (3, vr (some (30, 0))), (4, vi (i : Int))] [] S := by
  have hxr : ∀ j, -2147483648 ≤ (xs j).toInt ∧ (xs j).toInt < 2147483648 := fun j => i32_rng (xs j)
  obtain ⟨⟨hCI, hMI, hRK⟩, hQs, -⟩ := id hI
  obtain ⟨hb, hg⟩ := hI.run
  have hcl : c ≤ X.1.2.2.2.1.cells := by omega
  have hsl : t ≤ X.1.2.2.2.1.slots := by omega
  have hcl1 : c + 1 ≤ X.1.2.2.2.1.cells := by omega
  have hsl1 : t + 6 * 1 ≤ X.1.2.2.2.1.slots := by omega
  have hsl2 : t + 6 * 2 ≤ X.1.2.2.2.1.slots := by omega
  refine r_aload_n C dL_law_1080 rfl rfl ?_
  refine r_aload_n C dL_law_1081 rfl rfl ?_
  refine l_callH (as := [vr (some (0, 0)), vr (some (30, 0))]) (na := 2) (rest := []) C T (l_readings S hb hg) gL_law_L_readings (by decide +kernel) (by decide) (by decide) rfl (Nat.le_of_ble_eq_true rfl) rfl dL_law_1082 rfl (by omega) (by omega) (fun v1 S1 hp1 => ?_)
  rcases hp1 with ⟨rfl, rfl, hr1⟩ | ⟨rfl, e0, hr1⟩
  · skip
    refine r_istore (lv' := [(5, _), (0, _), (1, _), (2, _), (3, _), (4, _)]) C dL_law_1085 (hn _ (by decide)) rfl ?_
    have hr2 : iv S 20 19 0 = 1 := hI.2.2.1.1.symm.trans hr1
    have q19 : iv (sa S 30 0 0 (w32 (iv S 7 0 1))) 20 19 0 = iv S 20 19 0 := rfl
    refine r_aload_n C dL_law_1087 rfl rfl ?_
    refine r_callV (as := []) (na := 0) (rest := []) C mid_20 (hp_20 _) rfl (M_readings (sa S 30 0 0 (w32 (iv S 7 0 1))) (hMI.oth (fun _ _ => rfl) (fun _ => rfl))) gL_law_X11_readings (by decide +kernel) (by decide) (by decide) rfl (Nat.le_of_ble_eq_true rfl) rfl dL_law_1088 rfl (fun v2 S2 hp2 => ?_)
    rcases hp2 with ⟨rfl, rfl, mr⟩ | ⟨rfl, rfl, mr⟩
    · skip
      refine r_istore (lv' := [(6, _), (5, _), (0, _), (1, _), (2, _), (3, _), (4, _)]) C dL_law_1091 (hn _ (by decide)) rfl ?_
      refine r_aload_n C dL_law_1093 rfl rfl ?_
      refine r_callV (as := []) (na := 0) (rest := []) C mid_20 (hp_20 _) rfl (M_thrown _) gL_law_X11_thrown (by decide +kernel) (by decide) (by decide) rfl (Nat.le_of_ble_eq_true rfl) rfl dL_law_1094 rfl (fun v3 S3 hp3 => ?_)
      obtain ⟨rfl, e9⟩ := hp3
      subst S3
      refine At_val (v' := vi 0) (congrArg vi (by simp [iv, si, sa, up3])) ?_
      refine r_iload C dL_law_1097 rfl ?_
      refine r_icmp_eq (tgt := 1104) C dL_law_1099 (by decide) (by decide) (by decide) (fun h9 => ?_) (fun h9 => absurd rfl h9)
      refine r_iload C dL_law_1104 rfl ?_
      refine r_if_ne (tgt := 1121) C dL_law_1106 (by decide) (by decide) (fun h8 => absurd rfl h8) (fun h8 => ?_)
      refine r_aload_n C dL_law_1109 rfl rfl ?_
      refine r_iconst C dL_law_1110 ?_
      refine r_lald (j := 0) C mid_30 (hp_30 _) rfl rfl (by decide) (by decide) dL_law_1111 ?_
      refine At_val (v' := vl (w32 (iv (sa S 30 0 0 (w32 (iv S 7 0 1))) 20 33 0))) (congrArg vl (congrArg w32 (hI.2.2.2 hr2).2.1.1)) ?_
      refine r_iload C dL_law_1112 rfl ?_
      refine r_i2lx C dL_law_1114 ?_
      refine r_lcmp (z := 0) C dL_law_1115 (lcmp_self _) ?_
      refine r_if_eq (tgt := 1121) C dL_law_1116 (by decide) (by decide) (fun h6 => ?_) (fun h6 => absurd rfl h6)
      refine r_goto (tgt := 1124) C dL_law_1121 (by decide) ?_
      exact back _ _ _ _ (by omega) (by omega) ((hI.s30 _).s34 0) (by simp)
    · exfalso; omega
  · skip
    subst S1
    refine r_istore (lv' := [(5, _), (0, _), (1, _), (2, _), (3, _), (4, _)]) C dL_law_1085 (hn _ (by decide)) rfl ?_
    have hr2 : iv S 20 19 0 = 0 := hI.2.2.1.1.symm.trans hr1
    refine r_aload_n C dL_law_1087 rfl rfl ?_
    refine r_callV (as := []) (na := 0) (rest := []) C mid_20 (hp_20 _) rfl (M_readings S hMI) gL_law_X11_readings (by decide +kernel) (by decide) (by decide) rfl (Nat.le_of_ble_eq_true rfl) rfl dL_law_1088 rfl (fun v2 S2 hp2 => ?_)
    rcases hp2 with ⟨rfl, rfl, mr⟩ | ⟨rfl, rfl, mr⟩
    · exfalso; omega
    · skip
      refine r_istore (lv' := [(6, _), (5, _), (0, _), (1, _), (2, _), (3, _), (4, _)]) C dL_law_1091 (hn _ (by decide)) rfl ?_
      refine r_aload_n C dL_law_1093 rfl rfl ?_
      refine r_callV (as := []) (na := 0) (rest := []) C mid_20 (hp_20 _) rfl (M_thrown _) gL_law_X11_thrown (by decide +kernel) (by decide) (by decide) rfl (Nat.le_of_ble_eq_true rfl) rfl dL_law_1094 rfl (fun v3 S3 hp3 => ?_)
      obtain ⟨rfl, e9⟩ := hp3
      subst S3
      refine At_val (v' := vi 1) (congrArg vi (by simp [iv, si, sa, up3])) ?_
      refine r_iload C dL_law_1097 rfl ?_
      refine r_icmp_eq (tgt := 1104) C dL_law_1099 (by decide) (by decide) (by decide) (fun h9 => ?_) (fun h9 => absurd rfl h9)
      refine r_iload C dL_law_1104 rfl ?_
      refine r_if_ne (tgt := 1121) C dL_law_1106 (by decide) (by decide) (fun h8 => ?_) (fun h8 => absurd h8 (by decide))
      refine r_goto (tgt := 1124) C dL_law_1121 (by decide) ?_
      exact back _ _ _ _ (by omega) (by omega) (hI.s34 1) (by simp)
