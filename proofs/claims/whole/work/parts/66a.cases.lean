set_option maxHeartbeats 4000000 in
set_option maxRecDepth 100000 in
theorem k_put {X : XT} {b L c t i : Nat} {xs : Nat → Int32} (C : Cx X code RL wsL_law 30) (T : LX X b L xs) (hn : ∀ j, j < 7 → j < X.2.2.2.2.2) (hi : i + 4 ≤ L) {S : ST} (hI : INV S) (hc : c + 2 ≤ 646601) (ht : t + 12 ≤ 7156300) (hcf : c + 2 ≤ X.1.2.2.2.1.cells) (hsf : t + 12 ≤ X.1.2.2.2.1.slots) (back : ∀ (c2 t2 : Nat) (lv : List (Nat × AV)) (S2 : ST), c2 ≤ c + 2 → t2 ≤ t + 12 → INV S2 → (∀ q ∈ [(0, vr (some (99, 0))), (1, vr (some (0, 0))), (2, vr (some (20, 0))), (3, vr (some (30, 0))), (4, vi (i : Int))], q ∈ lv) → At X c2 t2 1124 lv [] S2) : At X c t 136 [(0, vr (some (99, 0))), (1, vr (some (0, 0))), (2, vr (some (20, 0))), (3, vr (some (30, 0))), (4, vi (i : Int))] [] S := by
  have hxr : ∀ j, -2147483648 ≤ (xs j).toInt ∧ (xs j).toInt < 2147483648 := fun j => i32_rng (xs j)
  obtain ⟨⟨hCI, hMI, hRK⟩, hQs, -⟩ := id hI
  obtain ⟨hb, hg⟩ := hI.run
  have hcl : c ≤ X.1.2.2.2.1.cells := by omega
  have hsl : t ≤ X.1.2.2.2.1.slots := by omega
  have hcl1 : c + 1 ≤ X.1.2.2.2.1.cells := by omega
  have hsl1 : t + 6 * 1 ≤ X.1.2.2.2.1.slots := by omega
  have hsl2 : t + 6 * 2 ≤ X.1.2.2.2.1.slots := by omega
  refine r_aload_n C dL_law_136 rfl rfl ?_
  refine r_aload_n C dL_law_137 rfl rfl ?_
  refine r_iload C dL_law_138 rfl ?_
  refine r_iconst C dL_law_140 ?_
  refine r_iadd C dL_law_141 ?_
  refine l_sld (j := i + 1) C T (by omega) (by omega) dL_law_142 ?_
  refine r_aload_n C dL_law_143 rfl rfl ?_
  refine r_iload C dL_law_144 rfl ?_
  refine r_iconst C dL_law_146 ?_
  refine r_iadd C dL_law_147 ?_
  refine l_sld (j := i + 2) C T (by omega) (by omega) dL_law_148 ?_
  refine r_aload_n C dL_law_149 rfl rfl ?_
  refine l_callH (as := [vr (some (0, 0)), vi (xs (i + 1)).toInt, vi (xs (i + 2)).toInt, vr (some (30, 0))]) (na := 4) (rest := []) C T (l_put S (xs (i + 1)).toInt (xs (i + 2)).toInt (hxr _) (hxr _) hCI) gL_law_L_put (by decide +kernel) (by decide) (by decide) rfl (Nat.le_of_ble_eq_true rfl) rfl dL_law_150 rfl (by omega) (by omega) (fun v1 S1 hp1 => ?_)
  rcases hp1 with ⟨rfl, rfl, hd1, hw1⟩ | ⟨rfl, e0, hd1⟩ | ⟨rfl, e0, hd1, hw1⟩
  · skip
    refine r_istore (lv' := [(5, _), (0, _), (1, _), (2, _), (3, _), (4, _)]) C dL_law_153 (hn _ (by decide)) rfl ?_
    refine r_aload_n C dL_law_155 rfl rfl ?_
    refine r_aload_n C dL_law_156 rfl rfl ?_
    refine r_iload C dL_law_157 rfl ?_
    refine r_iconst C dL_law_159 ?_
    refine r_iadd C dL_law_160 ?_
    refine l_sld (j := i + 1) C T (by omega) (by omega) dL_law_161 ?_
    refine r_aload_n C dL_law_162 rfl rfl ?_
    refine r_iload C dL_law_163 rfl ?_
    refine r_iconst C dL_law_165 ?_
    refine r_iadd C dL_law_166 ?_
    refine l_sld (j := i + 2) C T (by omega) (by omega) dL_law_167 ?_
    refine r_callV (as := [vi (xs (i + 1)).toInt, vi (xs (i + 2)).toInt]) (na := 2) (rest := []) C mid_20 (hp_20 _) rfl (M_put (sa (sa S 2 0 (xs (i + 1)).toInt.toNat (xs (i + 2)).toInt) 30 0 0 (b2i (thr S (xs (i + 1)).toInt.toNat))) (xs (i + 1)).toInt (xs (i + 2)).toInt (hxr _) (hxr _) (hMI.oth (fun _ _ => rfl) (fun _ => rfl))) gL_law_X11_put (by decide +kernel) (by decide) (by decide) rfl (Nat.le_of_ble_eq_true rfl) rfl dL_law_168 rfl (fun v2 S2 hp2 => ?_)
    rcases hp2 with ⟨rfl, rfl, md, mw1⟩ | ⟨rfl, rfl, md⟩ | ⟨rfl, rfl, md, mw1⟩
    · skip
      refine r_istore (lv' := [(6, _), (5, _), (0, _), (1, _), (2, _), (3, _), (4, _)]) C dL_law_171 (hn _ (by decide)) rfl ?_
      refine r_aload_n C dL_law_173 rfl rfl ?_
      refine r_callV (as := []) (na := 0) (rest := []) C mid_20 (hp_20 _) rfl (M_thrown _) gL_law_X11_thrown (by decide +kernel) (by decide) (by decide) rfl (Nat.le_of_ble_eq_true rfl) rfl dL_law_174 rfl (fun v3 S3 hp3 => ?_)
      obtain ⟨rfl, e9⟩ := hp3
      subst S3
      refine At_val (v' := vi 0) (congrArg vi (by simp [iv, si, sa, up3])) ?_
      refine r_iload C dL_law_177 rfl ?_
      refine r_icmp_eq (tgt := 184) C dL_law_179 (by decide) (by decide) (by decide) (fun h9 => ?_) (fun h9 => absurd rfl h9)
      refine r_iload C dL_law_184 rfl ?_
      refine r_if_ne (tgt := 208) C dL_law_186 (by decide) (by decide) (fun h8 => absurd rfl h8) (fun h8 => ?_)
      refine r_aload_n C dL_law_189 rfl rfl ?_
      refine r_iconst C dL_law_190 ?_
      refine r_lald (j := 0) C mid_30 (hp_30 _) rfl rfl (by decide) (by decide) dL_law_191 ?_
      refine At_val (v' := vl (ai S 21 0 (xs (i + 1)).toInt.toNat)) (congrArg vl (had_eq hI (by omega))) ?_
      refine r_iload C dL_law_192 rfl ?_
      refine r_if_eq (tgt := 201) C dL_law_194 (by decide) (by have := hMI.a0 (xs (i + 1)).toInt.toNat; change -2147483648 ≤ ai S 21 0 (xs (i + 1)).toInt.toNat ∧ ai S 21 0 (xs (i + 1)).toInt.toNat < 2147483648; omega) (fun h7 => ?_) (fun h7 => ?_)
      · skip
        refine r_lconst C dL_law_201 ?_
        refine At_val (v' := vl (ai S 21 0 (xs (i + 1)).toInt.toNat)) (congrArg vl (h7.symm)) ?_
        refine r_lcmp (z := 0) C dL_law_202 (lcmp_self _) ?_
        refine r_if_eq (tgt := 208) C dL_law_203 (by decide) (by decide) (fun h6 => ?_) (fun h6 => absurd rfl h6)
        refine r_goto (tgt := 1124) C dL_law_208 (by decide) ?_
        exact back _ _ _ _ (by omega) (by omega) (by rw [sa_comm S (t := 2) (t' := 30) (by decide)]; exact doc_INV (hI.s30 _) (by omega) (by omega)) (by simp)
      · skip
        refine r_lconst C dL_law_197 ?_
        refine r_goto (tgt := 202) C dL_law_198 (by decide) ?_
        refine At_val (v' := vl (ai S 21 0 (xs (i + 1)).toInt.toNat)) (congrArg vl (by have := hMI.a0 (xs (i + 1)).toInt.toNat; change ¬ ai S 21 0 (xs (i + 1)).toInt.toNat = 0 at h7; show (1 : Int) = ai S 21 0 (xs (i + 1)).toInt.toNat; omega)) ?_
        refine r_lcmp (z := 0) C dL_law_202 (lcmp_self _) ?_
        refine r_if_eq (tgt := 208) C dL_law_203 (by decide) (by decide) (fun h6 => ?_) (fun h6 => absurd rfl h6)
        refine r_goto (tgt := 1124) C dL_law_208 (by decide) ?_
        exact back _ _ _ _ (by omega) (by omega) (by rw [sa_comm S (t := 2) (t' := 30) (by decide)]; exact doc_INV (hI.s30 _) (by omega) (by omega)) (by simp)
    · exfalso; omega
    · exfalso; omega
  · skip
    subst S1
    refine r_istore (lv' := [(5, _), (0, _), (1, _), (2, _), (3, _), (4, _)]) C dL_law_153 (hn _ (by decide)) rfl ?_
    refine r_aload_n C dL_law_155 rfl rfl ?_
    refine r_aload_n C dL_law_156 rfl rfl ?_
    refine r_iload C dL_law_157 rfl ?_
    refine r_iconst C dL_law_159 ?_
    refine r_iadd C dL_law_160 ?_
    refine l_sld (j := i + 1) C T (by omega) (by omega) dL_law_161 ?_
    refine r_aload_n C dL_law_162 rfl rfl ?_
    refine r_iload C dL_law_163 rfl ?_
    refine r_iconst C dL_law_165 ?_
    refine r_iadd C dL_law_166 ?_
    refine l_sld (j := i + 2) C T (by omega) (by omega) dL_law_167 ?_
    refine r_callV (as := [vi (xs (i + 1)).toInt, vi (xs (i + 2)).toInt]) (na := 2) (rest := []) C mid_20 (hp_20 _) rfl (M_put S (xs (i + 1)).toInt (xs (i + 2)).toInt (hxr _) (hxr _) hMI) gL_law_X11_put (by decide +kernel) (by decide) (by decide) rfl (Nat.le_of_ble_eq_true rfl) rfl dL_law_168 rfl (fun v2 S2 hp2 => ?_)
    rcases hp2 with ⟨rfl, rfl, md, mw1⟩ | ⟨rfl, rfl, md⟩ | ⟨rfl, rfl, md, mw1⟩
    · exfalso; omega
    · skip
      refine r_istore (lv' := [(6, _), (5, _), (0, _), (1, _), (2, _), (3, _), (4, _)]) C dL_law_171 (hn _ (by decide)) rfl ?_
      refine r_aload_n C dL_law_173 rfl rfl ?_
      refine r_callV (as := []) (na := 0) (rest := []) C mid_20 (hp_20 _) rfl (M_thrown _) gL_law_X11_thrown (by decide +kernel) (by decide) (by decide) rfl (Nat.le_of_ble_eq_true rfl) rfl dL_law_174 rfl (fun v3 S3 hp3 => ?_)
      obtain ⟨rfl, e9⟩ := hp3
      subst S3
      refine At_val (v' := vi 1) (congrArg vi (by simp [iv, si, sa, up3])) ?_
      refine r_iload C dL_law_177 rfl ?_
      refine r_icmp_eq (tgt := 184) C dL_law_179 (by decide) (by decide) (by decide) (fun h9 => ?_) (fun h9 => absurd rfl h9)
      refine r_iload C dL_law_184 rfl ?_
      refine r_if_ne (tgt := 208) C dL_law_186 (by decide) (by decide) (fun h8 => ?_) (fun h8 => absurd h8 (by decide))
      refine r_goto (tgt := 1124) C dL_law_208 (by decide) ?_
      exact back _ _ _ _ (by omega) (by omega) (hI.s34 1) (by simp)
    · exfalso; omega
  · skip
    subst S1
    refine r_istore (lv' := [(5, _), (0, _), (1, _), (2, _), (3, _), (4, _)]) C dL_law_153 (hn _ (by decide)) rfl ?_
    refine r_aload_n C dL_law_155 rfl rfl ?_
    refine r_aload_n C dL_law_156 rfl rfl ?_
    refine r_iload C dL_law_157 rfl ?_
    refine r_iconst C dL_law_159 ?_
    refine r_iadd C dL_law_160 ?_
    refine l_sld (j := i + 1) C T (by omega) (by omega) dL_law_161 ?_
    refine r_aload_n C dL_law_162 rfl rfl ?_
    refine r_iload C dL_law_163 rfl ?_
    refine r_iconst C dL_law_165 ?_
    refine r_iadd C dL_law_166 ?_
    refine l_sld (j := i + 2) C T (by omega) (by omega) dL_law_167 ?_
    refine r_callV (as := [vi (xs (i + 1)).toInt, vi (xs (i + 2)).toInt]) (na := 2) (rest := []) C mid_20 (hp_20 _) rfl (M_put S (xs (i + 1)).toInt (xs (i + 2)).toInt (hxr _) (hxr _) hMI) gL_law_X11_put (by decide +kernel) (by decide) (by decide) rfl (Nat.le_of_ble_eq_true rfl) rfl dL_law_168 rfl (fun v2 S2 hp2 => ?_)
    rcases hp2 with ⟨rfl, rfl, md, mw1⟩ | ⟨rfl, rfl, md⟩ | ⟨rfl, rfl, md, mw1⟩
    · exfalso; omega
    · exfalso; omega
    · skip
      refine r_istore (lv' := [(6, _), (5, _), (0, _), (1, _), (2, _), (3, _), (4, _)]) C dL_law_171 (hn _ (by decide)) rfl ?_
      refine r_aload_n C dL_law_173 rfl rfl ?_
      refine r_callV (as := []) (na := 0) (rest := []) C mid_20 (hp_20 _) rfl (M_thrown _) gL_law_X11_thrown (by decide +kernel) (by decide) (by decide) rfl (Nat.le_of_ble_eq_true rfl) rfl dL_law_174 rfl (fun v3 S3 hp3 => ?_)
      obtain ⟨rfl, e9⟩ := hp3
      subst S3
      refine At_val (v' := vi 2) (congrArg vi (by simp [iv, si, sa, up3])) ?_
      refine r_iload C dL_law_177 rfl ?_
      refine r_icmp_eq (tgt := 184) C dL_law_179 (by decide) (by decide) (by decide) (fun h9 => ?_) (fun h9 => absurd rfl h9)
      refine r_iload C dL_law_184 rfl ?_
      refine r_if_ne (tgt := 208) C dL_law_186 (by decide) (by decide) (fun h8 => ?_) (fun h8 => absurd h8 (by decide))
      refine r_goto (tgt := 1124) C dL_law_208 (by decide) ?_
      exact back _ _ _ _ (by omega) (by omega) (hI.s34 2) (by simp)
set_option maxHeartbeats 4000000 in
set_option maxRecDepth 100000 in
theorem k_drop {X : XT} {b L c t i : Nat} {xs : Nat → Int32} (C : Cx X code RL wsL_law 30) (T : LX X b L xs) (hn : ∀ j, j < 7 → j < X.2.2.2.2.2) (hi : i + 4 ≤ L) {S : ST} (hI : INV S) (hc : c + 2 ≤ 646601) (ht : t + 12 ≤ 7156300) (hcf : c + 2 ≤ X.1.2.2.2.1.cells) (hsf : t + 12 ≤ X.1.2.2.2.1.slots) (back : ∀ (c2 t2 : Nat) (lv : List (Nat × AV)) (S2 : ST), c2 ≤ c + 2 → t2 ≤ t + 12 → INV S2 → (∀ q ∈ [(0, vr (some (99, 0))), (1, vr (some (0, 0))), (2, vr (some (20, 0))), (3, vr (some (30, 0))), (4, vi (i : Int))], q ∈ lv) → At X c2 t2 1124 lv [] S2) : At X c t 211 [(0, vr (some (99, 0))), (1, vr (some (0, 0))), (2, vr (some (20, 0))), (3, vr (some (30, 0))), (4, vi (i : Int))] [] S := by
  have hxr : ∀ j, -2147483648 ≤ (xs j).toInt ∧ (xs j).toInt < 2147483648 := fun j => i32_rng (xs j)
  obtain ⟨⟨hCI, hMI, hRK⟩, hQs, -⟩ := id hI
  obtain ⟨hb, hg⟩ := hI.run
  have hcl : c ≤ X.1.2.2.2.1.cells := by omega
  have hsl : t ≤ X.1.2.2.2.1.slots := by omega
  have hcl1 : c + 1 ≤ X.1.2.2.2.1.cells := by omega
  have hsl1 : t + 6 * 1 ≤ X.1.2.2.2.1.slots := by omega
  have hsl2 : t + 6 * 2 ≤ X.1.2.2.2.1.slots := by omega
  refine r_aload_n C dL_law_211 rfl rfl ?_
  refine r_aload_n C dL_law_212 rfl rfl ?_
  refine r_iload C dL_law_213 rfl ?_
  refine r_iconst C dL_law_215 ?_
  refine r_iadd C dL_law_216 ?_
  refine l_sld (j := i + 1) C T (by omega) (by omega) dL_law_217 ?_
  refine r_aload_n C dL_law_218 rfl rfl ?_
  refine l_callH (as := [vr (some (0, 0)), vi (xs (i + 1)).toInt, vr (some (30, 0))]) (na := 3) (rest := []) C T (l_drop S (xs (i + 1)).toInt (hxr _) hCI) gL_law_L_drop (by decide +kernel) (by decide) (by decide) rfl (Nat.le_of_ble_eq_true rfl) rfl dL_law_219 rfl (by omega) (by omega) (fun v1 S1 hp1 => ?_)
  rcases hp1 with ⟨rfl, rfl, hd1⟩ | ⟨rfl, e0, hd1⟩
  · skip
    refine r_istore (lv' := [(5, _), (0, _), (1, _), (2, _), (3, _), (4, _)]) C dL_law_222 (hn _ (by decide)) rfl ?_
    refine r_aload_n C dL_law_224 rfl rfl ?_
    refine r_aload_n C dL_law_225 rfl rfl ?_
    refine r_iload C dL_law_226 rfl ?_
    refine r_iconst C dL_law_228 ?_
    refine r_iadd C dL_law_229 ?_
    refine l_sld (j := i + 1) C T (by omega) (by omega) dL_law_230 ?_
    refine r_callV (as := [vi (xs (i + 1)).toInt]) (na := 1) (rest := []) C mid_20 (hp_20 _) rfl (M_drop (sa (sa S 2 0 (xs (i + 1)).toInt.toNat (-1)) 30 0 0 (b2i (thr S (xs (i + 1)).toInt.toNat))) (xs (i + 1)).toInt (hxr _) (hMI.oth (fun _ _ => rfl) (fun _ => rfl))) gL_law_X11_drop (by decide +kernel) (by decide) (by decide) rfl (Nat.le_of_ble_eq_true rfl) rfl dL_law_231 rfl (fun v2 S2 hp2 => ?_)
    rcases hp2 with ⟨rfl, rfl, md⟩ | ⟨rfl, rfl, md⟩
    · skip
      refine r_istore (lv' := [(6, _), (5, _), (0, _), (1, _), (2, _), (3, _), (4, _)]) C dL_law_234 (hn _ (by decide)) rfl ?_
      refine r_aload_n C dL_law_236 rfl rfl ?_
      refine r_callV (as := []) (na := 0) (rest := []) C mid_20 (hp_20 _) rfl (M_thrown _) gL_law_X11_thrown (by decide +kernel) (by decide) (by decide) rfl (Nat.le_of_ble_eq_true rfl) rfl dL_law_237 rfl (fun v3 S3 hp3 => ?_)
      obtain ⟨rfl, e9⟩ := hp3
      subst S3
      refine At_val (v' := vi 0) (congrArg vi (by simp [iv, si, sa, up3])) ?_
      refine r_iload C dL_law_240 rfl ?_
      refine r_icmp_eq (tgt := 247) C dL_law_242 (by decide) (by decide) (by decide) (fun h9 => ?_) (fun h9 => absurd rfl h9)
      refine r_iload C dL_law_247 rfl ?_
      refine r_if_ne (tgt := 271) C dL_law_249 (by decide) (by decide) (fun h8 => absurd rfl h8) (fun h8 => ?_)
      refine r_aload_n C dL_law_252 rfl rfl ?_
      refine r_iconst C dL_law_253 ?_
      refine r_lald (j := 0) C mid_30 (hp_30 _) rfl rfl (by decide) (by decide) dL_law_254 ?_
      refine At_val (v' := vl (ai S 21 0 (xs (i + 1)).toInt.toNat)) (congrArg vl (had_eq hI (by omega))) ?_
      refine r_iload C dL_law_255 rfl ?_
      refine r_if_eq (tgt := 264) C dL_law_257 (by decide) (by have := hMI.a0 (xs (i + 1)).toInt.toNat; change -2147483648 ≤ ai S 21 0 (xs (i + 1)).toInt.toNat ∧ ai S 21 0 (xs (i + 1)).toInt.toNat < 2147483648; omega) (fun h7 => ?_) (fun h7 => ?_)
      · skip
        refine r_lconst C dL_law_264 ?_
        refine At_val (v' := vl (ai S 21 0 (xs (i + 1)).toInt.toNat)) (congrArg vl (h7.symm)) ?_
        refine r_lcmp (z := 0) C dL_law_265 (lcmp_self _) ?_
        refine r_if_eq (tgt := 271) C dL_law_266 (by decide) (by decide) (fun h6 => ?_) (fun h6 => absurd rfl h6)
        refine r_goto (tgt := 1124) C dL_law_271 (by decide) ?_
        exact back _ _ _ _ (by omega) (by omega) (by rw [sa_comm S (t := 2) (t' := 30) (by decide)]; exact drop_INV (hI.s30 _) (by omega)) (by simp)
      · skip
        refine r_lconst C dL_law_260 ?_
        refine r_goto (tgt := 265) C dL_law_261 (by decide) ?_
        refine At_val (v' := vl (ai S 21 0 (xs (i + 1)).toInt.toNat)) (congrArg vl (by have := hMI.a0 (xs (i + 1)).toInt.toNat; change ¬ ai S 21 0 (xs (i + 1)).toInt.toNat = 0 at h7; show (1 : Int) = ai S 21 0 (xs (i + 1)).toInt.toNat; omega)) ?_
        refine r_lcmp (z := 0) C dL_law_265 (lcmp_self _) ?_
        refine r_if_eq (tgt := 271) C dL_law_266 (by decide) (by decide) (fun h6 => ?_) (fun h6 => absurd rfl h6)
        refine r_goto (tgt := 1124) C dL_law_271 (by decide) ?_
        exact back _ _ _ _ (by omega) (by omega) (by rw [sa_comm S (t := 2) (t' := 30) (by decide)]; exact drop_INV (hI.s30 _) (by omega)) (by simp)
    · exfalso; omega
  · skip
    subst S1
    refine r_istore (lv' := [(5, _), (0, _), (1, _), (2, _), (3, _), (4, _)]) C dL_law_222 (hn _ (by decide)) rfl ?_
    refine r_aload_n C dL_law_224 rfl rfl ?_
    refine r_aload_n C dL_law_225 rfl rfl ?_
    refine r_iload C dL_law_226 rfl ?_
    refine r_iconst C dL_law_228 ?_
    refine r_iadd C dL_law_229 ?_
    refine l_sld (j := i + 1) C T (by omega) (by omega) dL_law_230 ?_
    refine r_callV (as := [vi (xs (i + 1)).toInt]) (na := 1) (rest := []) C mid_20 (hp_20 _) rfl (M_drop S (xs (i + 1)).toInt (hxr _) hMI) gL_law_X11_drop (by decide +kernel) (by decide) (by decide) rfl (Nat.le_of_ble_eq_true rfl) rfl dL_law_231 rfl (fun v2 S2 hp2 => ?_)
    rcases hp2 with ⟨rfl, rfl, md⟩ | ⟨rfl, rfl, md⟩
    · exfalso; omega
    · skip
      refine r_istore (lv' := [(6, _), (5, _), (0, _), (1, _), (2, _), (3, _), (4, _)]) C dL_law_234 (hn _ (by decide)) rfl ?_
      refine r_aload_n C dL_law_236 rfl rfl ?_
      refine r_callV (as := []) (na := 0) (rest := []) C mid_20 (hp_20 _) rfl (M_thrown _) gL_law_X11_thrown (by decide +kernel) (by decide) (by decide) rfl (Nat.le_of_ble_eq_true rfl) rfl dL_law_237 rfl (fun v3 S3 hp3 => ?_)
      obtain ⟨rfl, e9⟩ := hp3
      subst S3
      refine At_val (v' := vi 1) (congrArg vi (by simp [iv, si, sa, up3])) ?_
      refine r_iload C dL_law_240 rfl ?_
      refine r_icmp_eq (tgt := 247) C dL_law_242 (by decide) (by decide) (by decide) (fun h9 => ?_) (fun h9 => absurd rfl h9)
      refine r_iload C dL_law_247 rfl ?_
      refine r_if_ne (tgt := 271) C dL_law_249 (by decide) (by decide) (fun h8 => ?_) (fun h8 => absurd h8 (by decide))
      refine r_goto (tgt := 1124) C dL_law_271 (by decide) ?_
      exact back _ _ _ _ (by omega) (by omega) (hI.s34 1) (by simp)
set_option maxHeartbeats 4000000 in
set_option maxRecDepth 100000 in
theorem k_documents {X : XT} {b L c t i : Nat} {xs : Nat → Int32} (C : Cx X code RL wsL_law 30) (T : LX X b L xs) (hn : ∀ j, j < 7 → j < X.2.2.2.2.2) (hi : i + 4 ≤ L) {S : ST} (hI : INV S) (hc : c + 2 ≤ 646601) (ht : t + 12 ≤ 7156300) (hcf : c + 2 ≤ X.1.2.2.2.1.cells) (hsf : t + 12 ≤ X.1.2.2.2.1.slots) (back : ∀ (c2 t2 : Nat) (lv : List (Nat × AV)) (S2 : ST), c2 ≤ c + 2 → t2 ≤ t + 12 → INV S2 → (∀ q ∈ [(0, vr (some (99, 0))), (1, vr (some (0, 0))), (2, vr (some (20, 0))), (3, vr (some (30, 0))), (4, vi (i : Int))], q ∈ lv) → At X c2 t2 1124 lv [] S2) : At X c t 274 [(0, vr (some (99, 0))), (1, vr (some (0, 0))), (2, vr (some (20, 0))), (3, vr (some (30, 0))), (4, vi (i : Int))] [] S := by
  have hxr : ∀ j, -2147483648 ≤ (xs j).toInt ∧ (xs j).toInt < 2147483648 := fun j => i32_rng (xs j)
  obtain ⟨⟨hCI, hMI, hRK⟩, hQs, -⟩ := id hI
  obtain ⟨hb, hg⟩ := hI.run
  have hcl : c ≤ X.1.2.2.2.1.cells := by omega
  have hsl : t ≤ X.1.2.2.2.1.slots := by omega
  have hcl1 : c + 1 ≤ X.1.2.2.2.1.cells := by omega
  have hsl1 : t + 6 * 1 ≤ X.1.2.2.2.1.slots := by omega
  have hsl2 : t + 6 * 2 ≤ X.1.2.2.2.1.slots := by omega
  have hmm := mmany_le S
  have hrg : -2147483648 ≤ ((mmany S : Nat) : Int) ∧ ((mmany S : Nat) : Int) < 2147483648 := by omega
  refine r_aload_n C dL_law_274 rfl rfl ?_
  refine r_callV (as := []) (na := 0) (rest := []) C mid_0 (hp_0 _) rfl (c_documents S hCI) gL_law_X10_documents (by decide +kernel) (by decide) (by decide) rfl (Nat.le_of_ble_eq_true rfl) rfl dL_law_275 rfl (fun v1 S1 hp1 => ?_)
  obtain ⟨rfl, e9⟩ := hp1
  subst S1
  refine At_val (v' := vi (((mmany S : Nat) : Int))) (congrArg vi (by rw [many_eq hI])) ?_
  refine r_aload_n C dL_law_278 rfl rfl ?_
  refine r_callV (as := []) (na := 0) (rest := [_]) C mid_20 (hp_20 _) rfl (M_documents S hMI) gL_law_X11_documents (by decide +kernel) (by decide) (by decide) rfl (Nat.le_of_ble_eq_true rfl) rfl dL_law_279 rfl (fun v2 S2 hp2 => ?_)
  obtain ⟨rfl, e9⟩ := hp2
  subst S2
  refine r_icmp_eq (tgt := 1124) C dL_law_282 (by decide) hrg hrg (fun h9 => ?_) (fun h9 => absurd rfl h9)
  exact back _ _ _ _ (by omega) (by omega) (hI.s34 0) (by simp)
set_option maxHeartbeats 4000000 in
set_option maxRecDepth 100000 in
theorem k_count {X : XT} {b L c t i : Nat} {xs : Nat → Int32} (C : Cx X code RL wsL_law 30) (T : LX X b L xs) (hn : ∀ j, j < 7 → j < X.2.2.2.2.2) (hi : i + 4 ≤ L) {S : ST} (hI : INV S) (hc : c + 2 ≤ 646601) (ht : t + 12 ≤ 7156300) (hcf : c + 2 ≤ X.1.2.2.2.1.cells) (hsf : t + 12 ≤ X.1.2.2.2.1.slots) (back : ∀ (c2 t2 : Nat) (lv : List (Nat × AV)) (S2 : ST), c2 ≤ c + 2 → t2 ≤ t + 12 → INV S2 → (∀ q ∈ [(0, vr (some (99, 0))), (1, vr (some (0, 0))), (2, vr (some (20, 0))), (3, vr (some (30, 0))), (4, vi (i : Int))], q ∈ lv) → At X c2 t2 1124 lv [] S2) : At X c t 287 [(0, vr (some (99, 0))), (1, vr (some (0, 0))), (2, vr (some (20, 0))), (3, vr (some (30, 0))), (4, vi (i : Int))] [] S := by
  have hxr : ∀ j, -2147483648 ≤ (xs j).toInt ∧ (xs j).toInt < 2147483648 := fun j => i32_rng (xs j)
  obtain ⟨⟨hCI, hMI, hRK⟩, hQs, -⟩ := id hI
  obtain ⟨hb, hg⟩ := hI.run
  have hcl : c ≤ X.1.2.2.2.1.cells := by omega
  have hsl : t ≤ X.1.2.2.2.1.slots := by omega
  have hcl1 : c + 1 ≤ X.1.2.2.2.1.cells := by omega
  have hsl1 : t + 6 * 1 ≤ X.1.2.2.2.1.slots := by omega
  have hsl2 : t + 6 * 2 ≤ X.1.2.2.2.1.slots := by omega
  refine r_aload_n C dL_law_287 rfl rfl ?_
  refine r_aload_n C dL_law_288 rfl rfl ?_
  refine r_iload C dL_law_289 rfl ?_
  refine r_iconst C dL_law_291 ?_
  refine r_iadd C dL_law_292 ?_
  refine l_sld (j := i + 1) C T (by omega) (by omega) dL_law_293 ?_
  refine r_aload_n C dL_law_294 rfl rfl ?_
  refine l_callH (as := [vr (some (0, 0)), vi (xs (i + 1)).toInt, vr (some (30, 0))]) (na := 3) (rest := []) C T (l_count S (xs (i + 1)).toInt (hxr _) hCI) gL_law_L_count (by decide +kernel) (by decide) (by decide) rfl (Nat.le_of_ble_eq_true rfl) rfl dL_law_295 rfl (by omega) (by omega) (fun v1 S1 hp1 => ?_)
  rcases hp1 with ⟨rfl, rfl, hd1⟩ | ⟨rfl, e0, hd1⟩
  · skip
    refine r_istore (lv' := [(5, _), (0, _), (1, _), (2, _), (3, _), (4, _)]) C dL_law_298 (hn _ (by decide)) rfl ?_
    refine r_aload_n C dL_law_300 rfl rfl ?_
    refine r_aload_n C dL_law_301 rfl rfl ?_
    refine r_iload C dL_law_302 rfl ?_
    refine r_iconst C dL_law_304 ?_
    refine r_iadd C dL_law_305 ?_
    refine l_sld (j := i + 1) C T (by omega) (by omega) dL_law_306 ?_
    refine r_callV (as := [vi (xs (i + 1)).toInt]) (na := 1) (rest := []) C mid_20 (hp_20 _) rfl (M_count (sa S 30 0 0 (w32 ((pop (bset (tru S (2 * (xs (i + 1)).toInt.toNat)) 40) : Nat) : Int))) (xs (i + 1)).toInt (hxr _) (hMI.oth (fun _ _ => rfl) (fun _ => rfl))) gL_law_X11_count (by decide +kernel) (by decide) (by decide) rfl (Nat.le_of_ble_eq_true rfl) rfl dL_law_307 rfl (fun v2 S2 hp2 => ?_)
    rcases hp2 with ⟨rfl, rfl, md⟩ | ⟨rfl, rfl, md⟩
    · skip
      refine r_istore (lv' := [(6, _), (5, _), (0, _), (1, _), (2, _), (3, _), (4, _)]) C dL_law_310 (hn _ (by decide)) rfl ?_
      refine r_aload_n C dL_law_312 rfl rfl ?_
      refine r_callV (as := []) (na := 0) (rest := []) C mid_20 (hp_20 _) rfl (M_thrown _) gL_law_X11_thrown (by decide +kernel) (by decide) (by decide) rfl (Nat.le_of_ble_eq_true rfl) rfl dL_law_313 rfl (fun v3 S3 hp3 => ?_)
      obtain ⟨rfl, e9⟩ := hp3
      subst S3
      refine At_val (v' := vi 0) (congrArg vi (by simp [iv, si, sa, up3])) ?_
      refine r_iload C dL_law_316 rfl ?_
      refine r_icmp_eq (tgt := 323) C dL_law_318 (by decide) (by decide) (by decide) (fun h9 => ?_) (fun h9 => absurd rfl h9)
      refine r_iload C dL_law_323 rfl ?_
      refine r_if_ne (tgt := 340) C dL_law_325 (by decide) (by decide) (fun h8 => absurd rfl h8) (fun h8 => ?_)
      refine r_aload_n C dL_law_328 rfl rfl ?_
      refine r_iconst C dL_law_329 ?_
      refine r_lald (j := 0) C mid_30 (hp_30 _) rfl rfl (by decide) (by decide) dL_law_330 ?_
      refine At_val (v' := vl (w32 (((mcount (sa S 30 0 0 (w32 ((pop (bset (tru S (2 * (xs (i + 1)).toInt.toNat)) 40) : Nat) : Int))) (2 * (xs (i + 1)).toInt.toNat) : Nat) : Int)))) (congrArg vl (by rw [(mcount_of (S := S) (S' := sa S 30 0 0 (w32 ((pop (bset (tru S (2 * (xs (i + 1)).toInt.toNat)) 40) : Nat) : Int))) (fun _ => rfl) (fun _ => rfl)).1, ← count_eq hI]; rfl)) ?_
      refine r_iload C dL_law_331 rfl ?_
      refine r_i2lx C dL_law_333 ?_
      refine r_lcmp (z := 0) C dL_law_334 (lcmp_self _) ?_
      refine r_if_eq (tgt := 340) C dL_law_335 (by decide) (by decide) (fun h6 => ?_) (fun h6 => absurd rfl h6)
      refine r_goto (tgt := 1124) C dL_law_340 (by decide) ?_
      exact back _ _ _ _ (by omega) (by omega) ((hI.s30 _).s34 0) (by simp)
    · exfalso; omega
  · skip
    subst S1
    refine r_istore (lv' := [(5, _), (0, _), (1, _), (2, _), (3, _), (4, _)]) C dL_law_298 (hn _ (by decide)) rfl ?_
    refine r_aload_n C dL_law_300 rfl rfl ?_
    refine r_aload_n C dL_law_301 rfl rfl ?_
    refine r_iload C dL_law_302 rfl ?_
    refine r_iconst C dL_law_304 ?_
    refine r_iadd C dL_law_305 ?_
    refine l_sld (j := i + 1) C T (by omega) (by omega) dL_law_306 ?_
    refine r_callV (as := [vi (xs (i + 1)).toInt]) (na := 1) (rest := []) C mid_20 (hp_20 _) rfl (M_count (S) (xs (i + 1)).toInt (hxr _) hMI) gL_law_X11_count (by decide +kernel) (by decide) (by decide) rfl (Nat.le_of_ble_eq_true rfl) rfl dL_law_307 rfl (fun v2 S2 hp2 => ?_)
    rcases hp2 with ⟨rfl, rfl, md⟩ | ⟨rfl, rfl, md⟩
    · exfalso; omega
    · skip
      refine r_istore (lv' := [(6, _), (5, _), (0, _), (1, _), (2, _), (3, _), (4, _)]) C dL_law_310 (hn _ (by decide)) rfl ?_
      refine r_aload_n C dL_law_312 rfl rfl ?_
      refine r_callV (as := []) (na := 0) (rest := []) C mid_20 (hp_20 _) rfl (M_thrown _) gL_law_X11_thrown (by decide +kernel) (by decide) (by decide) rfl (Nat.le_of_ble_eq_true rfl) rfl dL_law_313 rfl (fun v3 S3 hp3 => ?_)
      obtain ⟨rfl, e9⟩ := hp3
      subst S3
      refine At_val (v' := vi 1) (congrArg vi (by simp [iv, si, sa, up3])) ?_
      refine r_iload C dL_law_316 rfl ?_
      refine r_icmp_eq (tgt := 323) C dL_law_318 (by decide) (by decide) (by decide) (fun h9 => ?_) (fun h9 => absurd rfl h9)
      refine r_iload C dL_law_323 rfl ?_
      refine r_if_ne (tgt := 340) C dL_law_325 (by decide) (by decide) (fun h8 => ?_) (fun h8 => absurd h8 (by decide))
      refine r_goto (tgt := 1124) C dL_law_340 (by decide) ?_
      exact back _ _ _ _ (by omega) (by omega) (hI.s34 1) (by simp)
set_option maxHeartbeats 4000000 in
set_option maxRecDepth 100000 in
theorem k_ask {X : XT} {b L c t i : Nat} {xs : Nat → Int32} (C : Cx X code RL wsL_law 30) (T : LX X b L xs) (hn : ∀ j, j < 7 → j < X.2.2.2.2.2) (hi : i + 4 ≤ L) {S : ST} (hI : INV S) (hc : c + 2 ≤ 646601) (ht : t + 12 ≤ 7156300) (hcf : c + 2 ≤ X.1.2.2.2.1.cells) (hsf : t + 12 ≤ X.1.2.2.2.1.slots) (back : ∀ (c2 t2 : Nat) (lv : List (Nat × AV)) (S2 : ST), c2 ≤ c + 2 → t2 ≤ t + 12 → INV S2 → (∀ q ∈ [(0, vr (some (99, 0))), (1, vr (some (0, 0))), (2, vr (some (20, 0))), (3, vr (some (30, 0))), (4, vi (i : Int))], q ∈ lv) → At X c2 t2 1124 lv [] S2) : At X c t 343 [(0, vr (some (99, 0))), (1, vr (some (0, 0))), (2, vr (some (20, 0))), (3, vr (some (30, 0))), (4, vi (i : Int))] [] S := by
  have hxr : ∀ j, -2147483648 ≤ (xs j).toInt ∧ (xs j).toInt < 2147483648 := fun j => i32_rng (xs j)
  obtain ⟨⟨hCI, hMI, hRK⟩, hQs, -⟩ := id hI
  obtain ⟨hb, hg⟩ := hI.run
  have hcl : c ≤ X.1.2.2.2.1.cells := by omega
  have hsl : t ≤ X.1.2.2.2.1.slots := by omega
  have hcl1 : c + 1 ≤ X.1.2.2.2.1.cells := by omega
  have hsl1 : t + 6 * 1 ≤ X.1.2.2.2.1.slots := by omega
  have hsl2 : t + 6 * 2 ≤ X.1.2.2.2.1.slots := by omega
  refine r_aload_n C dL_law_343 rfl rfl ?_
  refine r_aload_n C dL_law_344 rfl rfl ?_
  refine r_iload C dL_law_345 rfl ?_
  refine r_iconst C dL_law_347 ?_
  refine r_iadd C dL_law_348 ?_
  refine l_sld (j := i + 1) C T (by omega) (by omega) dL_law_349 ?_
  refine r_aload_n C dL_law_350 rfl rfl ?_
  refine r_iload C dL_law_351 rfl ?_
  refine r_iconst C dL_law_353 ?_
  refine r_iadd C dL_law_354 ?_
  refine l_sld (j := i + 2) C T (by omega) (by omega) dL_law_355 ?_
  refine r_aload_n C dL_law_356 rfl rfl ?_
  refine l_callH (as := [vr (some (0, 0)), vi (xs (i + 1)).toInt, vi (xs (i + 2)).toInt, vr (some (30, 0))]) (na := 4) (rest := []) C T (l_ask S (xs (i + 1)).toInt (xs (i + 2)).toInt (hxr _) (hxr _) hCI) gL_law_L_ask (by decide +kernel) (by decide) (by decide) rfl (Nat.le_of_ble_eq_true rfl) rfl dL_law_357 rfl (by omega) (by omega) (fun v1 S1 hp1 => ?_)
  rcases hp1 with ⟨rfl, rfl, hd1⟩ | ⟨rfl, e0, hd1⟩
  · skip
    refine r_istore (lv' := [(5, _), (0, _), (1, _), (2, _), (3, _), (4, _)]) C dL_law_360 (hn _ (by decide)) rfl ?_
    refine r_aload_n C dL_law_362 rfl rfl ?_
    refine r_aload_n C dL_law_363 rfl rfl ?_
    refine r_iload C dL_law_364 rfl ?_
    refine r_iconst C dL_law_366 ?_
    refine r_iadd C dL_law_367 ?_
    refine l_sld (j := i + 1) C T (by omega) (by omega) dL_law_368 ?_
    refine r_aload_n C dL_law_369 rfl rfl ?_
    refine r_iload C dL_law_370 rfl ?_
    refine r_iconst C dL_law_372 ?_
    refine r_iadd C dL_law_373 ?_
    refine l_sld (j := i + 2) C T (by omega) (by omega) dL_law_374 ?_
    refine r_callV (as := [vi (xs (i + 1)).toInt, vi (xs (i + 2)).toInt]) (na := 2) (rest := []) C mid_20 (hp_20 _) rfl (M_ask (sa (si (si (si S 3 1 0 (xs (i + 1)).toInt) 3 2 0 (xs (i + 2)).toInt) 3 3 0 0) 30 0 0 (w32 (iv S 3 3 0))) (xs (i + 1)).toInt (xs (i + 2)).toInt (hxr _) (hxr _) (hMI.oth (fun _ _ => rfl) (fun _ => rfl))) gL_law_X11_ask (by decide +kernel) (by decide) (by decide) rfl (Nat.le_of_ble_eq_true rfl) rfl dL_law_375 rfl (fun v2 S2 hp2 => ?_)
    rcases hp2 with ⟨rfl, rfl, md⟩ | ⟨rfl, rfl, md⟩
    · skip
      refine r_istore (lv' := [(6, _), (5, _), (0, _), (1, _), (2, _), (3, _), (4, _)]) C dL_law_378 (hn _ (by decide)) rfl ?_
      refine r_aload_n C dL_law_380 rfl rfl ?_
      refine r_callV (as := []) (na := 0) (rest := []) C mid_20 (hp_20 _) rfl (M_thrown _) gL_law_X11_thrown (by decide +kernel) (by decide) (by decide) rfl (Nat.le_of_ble_eq_true rfl) rfl dL_law_381 rfl (fun v3 S3 hp3 => ?_)
      obtain ⟨rfl, e9⟩ := hp3
      subst S3
      refine At_val (v' := vi 0) (congrArg vi (by simp [iv, si, sa, up3])) ?_
      refine r_iload C dL_law_384 rfl ?_
      refine r_icmp_eq (tgt := 391) C dL_law_386 (by decide) (by decide) (by decide) (fun h9 => ?_) (fun h9 => absurd rfl h9)
      refine r_iload C dL_law_391 rfl ?_
      refine r_if_ne (tgt := 408) C dL_law_393 (by decide) (by decide) (fun h8 => absurd rfl h8) (fun h8 => ?_)
      refine r_aload_n C dL_law_396 rfl rfl ?_
      refine r_iconst C dL_law_397 ?_
      refine r_lald (j := 0) C mid_30 (hp_30 _) rfl rfl (by decide) (by decide) dL_law_398 ?_
      refine At_val (v' := vl (w32 (iv S 20 4 0))) (congrArg vl (by rw [← hQs.2.1.2.2]; rfl)) ?_
      refine r_iload C dL_law_399 rfl ?_
      refine r_i2lx C dL_law_401 ?_
      refine r_lcmp (z := 0) C dL_law_402 (lcmp_self _) ?_
      refine r_if_eq (tgt := 408) C dL_law_403 (by decide) (by decide) (fun h6 => ?_) (fun h6 => absurd rfl h6)
      refine r_goto (tgt := 1124) C dL_law_408 (by decide) ?_
      exact back _ _ _ _ (by omega) (by omega) (ask_INV (hI.s30 _) hd1) (by simp)
    · exfalso; omega
  · skip
    subst S1
    refine r_istore (lv' := [(5, _), (0, _), (1, _), (2, _), (3, _), (4, _)]) C dL_law_360 (hn _ (by decide)) rfl ?_
    refine r_aload_n C dL_law_362 rfl rfl ?_
    refine r_aload_n C dL_law_363 rfl rfl ?_
    refine r_iload C dL_law_364 rfl ?_
    refine r_iconst C dL_law_366 ?_
    refine r_iadd C dL_law_367 ?_
    refine l_sld (j := i + 1) C T (by omega) (by omega) dL_law_368 ?_
    refine r_aload_n C dL_law_369 rfl rfl ?_
    refine r_iload C dL_law_370 rfl ?_
    refine r_iconst C dL_law_372 ?_
    refine r_iadd C dL_law_373 ?_
    refine l_sld (j := i + 2) C T (by omega) (by omega) dL_law_374 ?_
    refine r_callV (as := [vi (xs (i + 1)).toInt, vi (xs (i + 2)).toInt]) (na := 2) (rest := []) C mid_20 (hp_20 _) rfl (M_ask S (xs (i + 1)).toInt (xs (i + 2)).toInt (hxr _) (hxr _) hMI) gL_law_X11_ask (by decide +kernel) (by decide) (by decide) rfl (Nat.le_of_ble_eq_true rfl) rfl dL_law_375 rfl (fun v2 S2 hp2 => ?_)
    rcases hp2 with ⟨rfl, rfl, md⟩ | ⟨rfl, rfl, md⟩
    · exfalso; omega
    · skip
      refine r_istore (lv' := [(6, _), (5, _), (0, _), (1, _), (2, _), (3, _), (4, _)]) C dL_law_378 (hn _ (by decide)) rfl ?_
      refine r_aload_n C dL_law_380 rfl rfl ?_
      refine r_callV (as := []) (na := 0) (rest := []) C mid_20 (hp_20 _) rfl (M_thrown _) gL_law_X11_thrown (by decide +kernel) (by decide) (by decide) rfl (Nat.le_of_ble_eq_true rfl) rfl dL_law_381 rfl (fun v3 S3 hp3 => ?_)
      obtain ⟨rfl, e9⟩ := hp3
      subst S3
      refine At_val (v' := vi 1) (congrArg vi (by simp [iv, si, sa, up3])) ?_
      refine r_iload C dL_law_384 rfl ?_
      refine r_icmp_eq (tgt := 391) C dL_law_386 (by decide) (by decide) (by decide) (fun h9 => ?_) (fun h9 => absurd rfl h9)
      refine r_iload C dL_law_391 rfl ?_
      refine r_if_ne (tgt := 408) C dL_law_393 (by decide) (by decide) (fun h8 => ?_) (fun h8 => absurd h8 (by decide))
      refine r_goto (tgt := 1124) C dL_law_408 (by decide) ?_
      exact back _ _ _ _ (by omega) (by omega) (hI.s34 1) (by simp)
set_option maxHeartbeats 4000000 in
set_option maxRecDepth 100000 in
theorem k_clause {X : XT} {b L c t i : Nat} {xs : Nat → Int32} (C : Cx X code RL wsL_law 30) (T : LX X b L xs) (hn : ∀ j, j < 7 → j < X.2.2.2.2.2) (hi : i + 4 ≤ L) {S : ST} (hI : INV S) (hc : c + 2 ≤ 646601) (ht : t + 12 ≤ 7156300) (hcf : c + 2 ≤ X.1.2.2.2.1.cells) (hsf : t + 12 ≤ X.1.2.2.2.1.slots) (back : ∀ (c2 t2 : Nat) (lv : List (Nat × AV)) (S2 : ST), c2 ≤ c + 2 → t2 ≤ t + 12 → INV S2 → (∀ q ∈ [(0, vr (some (99, 0))), (1, vr (some (0, 0))), (2, vr (some (20, 0))), (3, vr (some (30, 0))), (4, vi (i : Int))], q ∈ lv) → At X c2 t2 1124 lv [] S2) : At X c t 411 [(0, vr (some (99, 0))), (1, vr (some (0, 0))), (2, vr (some (20, 0))), (3, vr (some (30, 0))), (4, vi (i : Int))] [] S := by
  have hxr : ∀ j, -2147483648 ≤ (xs j).toInt ∧ (xs j).toInt < 2147483648 := fun j => i32_rng (xs j)
  obtain ⟨⟨hCI, hMI, hRK⟩, hQs, -⟩ := id hI
  obtain ⟨hb, hg⟩ := hI.run
  have hcl : c ≤ X.1.2.2.2.1.cells := by omega
  have hsl : t ≤ X.1.2.2.2.1.slots := by omega
  have hcl1 : c + 1 ≤ X.1.2.2.2.1.cells := by omega
  have hsl1 : t + 6 * 1 ≤ X.1.2.2.2.1.slots := by omega
  have hsl2 : t + 6 * 2 ≤ X.1.2.2.2.1.slots := by omega
  obtain ⟨bv, hbv⟩ : ∃ z : Int, z = (if (xs (i + 3)).toInt = 0 then 0 else 1) := ⟨_, rfl⟩
  have hb01 : bv = 0 ∨ bv = 1 := by rw [hbv]; split <;> omega
  refine r_aload_n C dL_law_411 rfl rfl ?_
  refine r_aload_n C dL_law_412 rfl rfl ?_
  refine r_iload C dL_law_413 rfl ?_
  refine r_iconst C dL_law_415 ?_
  refine r_iadd C dL_law_416 ?_
  refine l_sld (j := i + 1) C T (by omega) (by omega) dL_law_417 ?_
  refine r_aload_n C dL_law_418 rfl rfl ?_
  refine r_iload C dL_law_419 rfl ?_
  refine r_iconst C dL_law_421 ?_
  refine r_iadd C dL_law_422 ?_
  refine l_sld (j := i + 2) C T (by omega) (by omega) dL_law_423 ?_
  refine r_aload_n C dL_law_424 rfl rfl ?_
  refine r_iload C dL_law_425 rfl ?_
  refine r_iconst C dL_law_427 ?_
  refine r_iadd C dL_law_428 ?_
  refine l_sld (j := i + 3) C T (by omega) (by omega) dL_law_429 ?_
  refine At_if01 (v := bv) (tgt := 437) (jn := 438) C dL_law_430 dL_law_437 dL_law_433 dL_law_434 (by decide) (by decide) rfl (hxr _) hbv ?_
  refine r_aload_n C dL_law_438 rfl rfl ?_
  refine l_callH (as := [vr (some (0, 0)), vi (xs (i + 1)).toInt, vi (xs (i + 2)).toInt, vi bv, vr (some (30, 0))]) (na := 5) (rest := []) C T (l_clause S (xs (i + 1)).toInt (xs (i + 2)).toInt bv (hxr _) (hxr _) hb01 hCI) gL_law_L_clause (by decide +kernel) (by decide) (by decide) rfl (Nat.le_of_ble_eq_true rfl) rfl dL_law_439 rfl (by omega) (by omega) (fun v1 S1 hp1 => ?_)
  rcases hp1 with ⟨rfl, rfl, hd1, hd2⟩ | ⟨rfl, e0, hd1⟩ | ⟨rfl, e0, hd1, hd2⟩
  · skip
    refine r_istore (lv' := [(5, _), (0, _), (1, _), (2, _), (3, _), (4, _)]) C dL_law_442 (hn _ (by decide)) rfl ?_
    have e4 : iv S 20 4 0 = iv S 3 3 0 := hQs.2.1.2.2.symm
    have q4 : iv (sa (si (si (si (si (si S 5 1 (iv S 3 3 0).toNat (xs (i + 1)).toInt) 5 2 (iv S 3 3 0).toNat (xs (i + 2)).toInt) 5 3 (iv S 3 3 0).toNat bv) 5 4 (iv S 3 3 0).toNat 0) 3 3 0 (iv S 3 3 0 + 1)) 30 0 0 (w32 (iv S 3 3 0))) 20 4 0 = iv S 3 3 0 := e4
    refine r_aload_n C dL_law_444 rfl rfl ?_
    refine r_aload_n C dL_law_445 rfl rfl ?_
    refine r_iload C dL_law_446 rfl ?_
    refine r_iconst C dL_law_448 ?_
    refine r_iadd C dL_law_449 ?_
    refine l_sld (j := i + 1) C T (by omega) (by omega) dL_law_450 ?_
    refine r_aload_n C dL_law_451 rfl rfl ?_
    refine r_iload C dL_law_452 rfl ?_
    refine r_iconst C dL_law_454 ?_
    refine r_iadd C dL_law_455 ?_
    refine l_sld (j := i + 2) C T (by omega) (by omega) dL_law_456 ?_
    refine r_aload_n C dL_law_457 rfl rfl ?_
    refine r_iload C dL_law_458 rfl ?_
    refine r_iconst C dL_law_460 ?_
    refine r_iadd C dL_law_461 ?_
    refine l_sld (j := i + 3) C T (by omega) (by omega) dL_law_462 ?_
    refine At_if01 (v := bv) (tgt := 470) (jn := 471) C dL_law_463 dL_law_470 dL_law_466 dL_law_467 (by decide) (by decide) rfl (hxr _) hbv ?_
    refine r_callV (as := [vi (xs (i + 1)).toInt, vi (xs (i + 2)).toInt, vi bv]) (na := 3) (rest := []) C mid_20 (hp_20 _) rfl (M_clause (sa (si (si (si (si (si S 5 1 (iv S 3 3 0).toNat (xs (i + 1)).toInt) 5 2 (iv S 3 3 0).toNat (xs (i + 2)).toInt) 5 3 (iv S 3 3 0).toNat bv) 5 4 (iv S 3 3 0).toNat 0) 3 3 0 (iv S 3 3 0 + 1)) 30 0 0 (w32 (iv S 3 3 0))) (xs (i + 1)).toInt (xs (i + 2)).toInt bv (hxr _) (hxr _) hb01 (hMI.oth (fun _ _ => rfl) (fun _ => rfl))) gL_law_X11_clause (by decide +kernel) (by decide) (by decide) rfl (Nat.le_of_ble_eq_true rfl) rfl dL_law_471 rfl (fun v2 S2 hp2 => ?_)
    rcases hp2 with ⟨rfl, rfl, md, mq⟩ | ⟨rfl, rfl, md⟩ | ⟨rfl, rfl, md, mq⟩
    · skip
      refine r_istore (lv' := [(6, _), (5, _), (0, _), (1, _), (2, _), (3, _), (4, _)]) C dL_law_474 (hn _ (by decide)) rfl ?_
      refine r_aload_n C dL_law_476 rfl rfl ?_
      refine r_callV (as := []) (na := 0) (rest := []) C mid_20 (hp_20 _) rfl (M_thrown _) gL_law_X11_thrown (by decide +kernel) (by decide) (by decide) rfl (Nat.le_of_ble_eq_true rfl) rfl dL_law_477 rfl (fun v3 S3 hp3 => ?_)
      obtain ⟨rfl, e9⟩ := hp3
      subst S3
      refine At_val (v' := vi 0) (congrArg vi (by simp [iv, si, sa, up3])) ?_
      refine r_iload C dL_law_480 rfl ?_
      refine r_icmp_eq (tgt := 487) C dL_law_482 (by decide) (by decide) (by decide) (fun h9 => ?_) (fun h9 => absurd rfl h9)
      refine r_iload C dL_law_487 rfl ?_
      refine r_if_ne (tgt := 504) C dL_law_489 (by decide) (by decide) (fun h8 => absurd rfl h8) (fun h8 => ?_)
      refine r_aload_n C dL_law_492 rfl rfl ?_
      refine r_iconst C dL_law_493 ?_
      refine r_lald (j := 0) C mid_30 (hp_30 _) rfl rfl (by decide) (by decide) dL_law_494 ?_
      refine At_val (v' := vl (w32 (iv S 20 4 0))) (congrArg vl (by rw [e4]; rfl)) ?_
      refine r_iload C dL_law_495 rfl ?_
      refine r_i2lx C dL_law_497 ?_
      refine r_lcmp (z := 0) C dL_law_498 (lcmp_self _) ?_
      refine r_if_eq (tgt := 504) C dL_law_499 (by decide) (by decide) (fun h6 => ?_) (fun h6 => absurd rfl h6)
      refine r_goto (tgt := 1124) C dL_law_504 (by decide) ?_
      exact back _ _ _ _ (by omega) (by omega) (by change INV (tellM (tellC (sa S 30 0 0 (w32 (iv S 3 3 0))) (iv S 3 3 0).toNat (xs (i + 1)).toInt (xs (i + 2)).toInt bv) (iv S 20 4 0).toNat (xs (i + 1)).toInt (xs (i + 2)).toInt bv); rw [e4]; exact tell_INV (hI.s30 _) (by have := hCI.2.2.1; show (((iv S 3 3 0).toNat : Nat) : Int) = iv S 3 3 0; omega) (by omega) hd1 hb01) (by simp)
    · exfalso; omega
    · exfalso; omega
  · skip
    subst S1
    refine r_istore (lv' := [(5, _), (0, _), (1, _), (2, _), (3, _), (4, _)]) C dL_law_442 (hn _ (by decide)) rfl ?_
    refine r_aload_n C dL_law_444 rfl rfl ?_
    refine r_aload_n C dL_law_445 rfl rfl ?_
    refine r_iload C dL_law_446 rfl ?_
    refine r_iconst C dL_law_448 ?_
    refine r_iadd C dL_law_449 ?_
    refine l_sld (j := i + 1) C T (by omega) (by omega) dL_law_450 ?_
    refine r_aload_n C dL_law_451 rfl rfl ?_
    refine r_iload C dL_law_452 rfl ?_
    refine r_iconst C dL_law_454 ?_
    refine r_iadd C dL_law_455 ?_
    refine l_sld (j := i + 2) C T (by omega) (by omega) dL_law_456 ?_
    refine r_aload_n C dL_law_457 rfl rfl ?_
    refine r_iload C dL_law_458 rfl ?_
    refine r_iconst C dL_law_460 ?_
    refine r_iadd C dL_law_461 ?_
    refine l_sld (j := i + 3) C T (by omega) (by omega) dL_law_462 ?_
    refine At_if01 (v := bv) (tgt := 470) (jn := 471) C dL_law_463 dL_law_470 dL_law_466 dL_law_467 (by decide) (by decide) rfl (hxr _) hbv ?_
    refine r_callV (as := [vi (xs (i + 1)).toInt, vi (xs (i + 2)).toInt, vi bv]) (na := 3) (rest := []) C mid_20 (hp_20 _) rfl (M_clause S (xs (i + 1)).toInt (xs (i + 2)).toInt bv (hxr _) (hxr _) hb01 hMI) gL_law_X11_clause (by decide +kernel) (by decide) (by decide) rfl (Nat.le_of_ble_eq_true rfl) rfl dL_law_471 rfl (fun v2 S2 hp2 => ?_)
    rcases hp2 with ⟨rfl, rfl, md, mq⟩ | ⟨rfl, rfl, md⟩ | ⟨rfl, rfl, md, mq⟩
    · exfalso; omega
    · skip
      refine r_istore (lv' := [(6, _), (5, _), (0, _), (1, _), (2, _), (3, _), (4, _)]) C dL_law_474 (hn _ (by decide)) rfl ?_
      refine r_aload_n C dL_law_476 rfl rfl ?_
      refine r_callV (as := []) (na := 0) (rest := []) C mid_20 (hp_20 _) rfl (M_thrown _) gL_law_X11_thrown (by decide +kernel) (by decide) (by decide) rfl (Nat.le_of_ble_eq_true rfl) rfl dL_law_477 rfl (fun v3 S3 hp3 => ?_)
      obtain ⟨rfl, e9⟩ := hp3
      subst S3
      refine At_val (v' := vi 1) (congrArg vi (by simp [iv, si, sa, up3])) ?_
      refine r_iload C dL_law_480 rfl ?_
      refine r_icmp_eq (tgt := 487) C dL_law_482 (by decide) (by decide) (by decide) (fun h9 => ?_) (fun h9 => absurd rfl h9)
      refine r_iload C dL_law_487 rfl ?_
      refine r_if_ne (tgt := 504) C dL_law_489 (by decide) (by decide) (fun h8 => ?_) (fun h8 => absurd h8 (by decide))
      refine r_goto (tgt := 1124) C dL_law_504 (by decide) ?_
      exact back _ _ _ _ (by omega) (by omega) (hI.s34 1) (by simp)
    · exfalso; omega
  · skip
    subst S1
    refine r_istore (lv' := [(5, _), (0, _), (1, _), (2, _), (3, _), (4, _)]) C dL_law_442 (hn _ (by decide)) rfl ?_
    have e4 : iv S 20 4 0 = iv S 3 3 0 := hQs.2.1.2.2.symm
    refine r_aload_n C dL_law_444 rfl rfl ?_
    refine r_aload_n C dL_law_445 rfl rfl ?_
    refine r_iload C dL_law_446 rfl ?_
    refine r_iconst C dL_law_448 ?_
    refine r_iadd C dL_law_449 ?_
    refine l_sld (j := i + 1) C T (by omega) (by omega) dL_law_450 ?_
    refine r_aload_n C dL_law_451 rfl rfl ?_
    refine r_iload C dL_law_452 rfl ?_
    refine r_iconst C dL_law_454 ?_
    refine r_iadd C dL_law_455 ?_
    refine l_sld (j := i + 2) C T (by omega) (by omega) dL_law_456 ?_
    refine r_aload_n C dL_law_457 rfl rfl ?_
    refine r_iload C dL_law_458 rfl ?_
    refine r_iconst C dL_law_460 ?_
    refine r_iadd C dL_law_461 ?_
    refine l_sld (j := i + 3) C T (by omega) (by omega) dL_law_462 ?_
    refine At_if01 (v := bv) (tgt := 470) (jn := 471) C dL_law_463 dL_law_470 dL_law_466 dL_law_467 (by decide) (by decide) rfl (hxr _) hbv ?_
    refine r_callV (as := [vi (xs (i + 1)).toInt, vi (xs (i + 2)).toInt, vi bv]) (na := 3) (rest := []) C mid_20 (hp_20 _) rfl (M_clause S (xs (i + 1)).toInt (xs (i + 2)).toInt bv (hxr _) (hxr _) hb01 hMI) gL_law_X11_clause (by decide +kernel) (by decide) (by decide) rfl (Nat.le_of_ble_eq_true rfl) rfl dL_law_471 rfl (fun v2 S2 hp2 => ?_)
    rcases hp2 with ⟨rfl, rfl, md, mq⟩ | ⟨rfl, rfl, md⟩ | ⟨rfl, rfl, md, mq⟩
    · exfalso; omega
    · exfalso; omega
    · skip
      refine r_istore (lv' := [(6, _), (5, _), (0, _), (1, _), (2, _), (3, _), (4, _)]) C dL_law_474 (hn _ (by decide)) rfl ?_
      refine r_aload_n C dL_law_476 rfl rfl ?_
      refine r_callV (as := []) (na := 0) (rest := []) C mid_20 (hp_20 _) rfl (M_thrown _) gL_law_X11_thrown (by decide +kernel) (by decide) (by decide) rfl (Nat.le_of_ble_eq_true rfl) rfl dL_law_477 rfl (fun v3 S3 hp3 => ?_)
      obtain ⟨rfl, e9⟩ := hp3
      subst S3
      refine At_val (v' := vi 2) (congrArg vi (by simp [iv, si, sa, up3])) ?_
      refine r_iload C dL_law_480 rfl ?_
      refine r_icmp_eq (tgt := 487) C dL_law_482 (by decide) (by decide) (by decide) (fun h9 => ?_) (fun h9 => absurd rfl h9)
      refine r_iload C dL_law_487 rfl ?_
      refine r_if_ne (tgt := 504) C dL_law_489 (by decide) (by decide) (fun h8 => ?_) (fun h8 => absurd h8 (by decide))
      refine r_goto (tgt := 1124) C dL_law_504 (by decide) ?_
      exact back _ _ _ _ (by omega) (by omega) (hI.s34 2) (by simp)
