/-! the model's runs -/
theorem planEstM_of {S S' : ST} (h : mmany S' = mmany S) (e15 : iv S' 20 15 0 = iv S 20 15 0) (e16 : iv S' 20 16 0 = iv S 20 16 0) (e17 : iv S' 20 17 0 = iv S 20 17 0) (e14 : ∀ j, ai S' 21 14 j = ai S 21 14 j) (e18 : ∀ j, ai S' 21 18 j = ai S 21 18 j) : planEstM S' = planEstM S := by
  have eo : oest S' = oest S := by
    funext j
    show ai S' 21 14 (ai S' 21 18 j).toNat = ai S 21 14 (ai S 21 18 j).toNat
    rw [e14, e18]
  unfold planEstM
  rw [eo, h, e15, e16, e17]
def mcpF (S : ST) (i : Nat) : ST := match i with
  | 0 => S
  | i + 1 => sa (sa (mcpF S i) 21 20 i (ai S 21 0 i)) 21 21 i (ai S 21 1 i)
theorem mcpF_MI {S : ST} (h : MI S) : ∀ i, MI (mcpF S i)
  | 0 => h
  | i + 1 => ((mcpF_MI h i).pa20 (h.a0 i)).pa21 (h.a1 i)
theorem mcpF_MF (S : ST) : ∀ i, MF (kq [20, 21]) (kq []) S (mcpF S i)
  | 0 => MF.rf _ _ S
  | i + 1 => ((mcpF_MF S i).tr (MF.sa _ 20 _ _ (by decide))).tr (MF.sa _ 21 _ _ (by decide))
def mbA (T : ST) : ST := si (si (si (mcpF (si T 20 19 0 1) 40) 20 22 0 (iv T 20 15 0)) 20 23 0 (iv T 20 16 0)) 20 24 0 (iv T 20 17 0)
def mb1 (T U : ST) (k : Nat) : ST := sa (sa (sa (sa U 21 25 k (ai T 21 10 (ai T 21 18 k).toNat)) 21 26 k (ai T 21 11 (ai T 21 18 k).toNat)) 21 27 k (ai T 21 12 (ai T 21 18 k).toNat)) 21 30 k (-1)
def mbl (T U : ST) (k j : Nat) : ST := match j with
  | 0 => U
  | j + 1 => sa (sa (mbl T U k j) 21 28 (6 * k + j) (ai T 21 13 (6 * (ai T 21 18 k).toNat + j))) 21 29 (6 * k + j) (-1)
def mbo (T U : ST) (k : Nat) : ST := match k with
  | 0 => U
  | k + 1 => mbl T (mb1 T (mbo T U k) k) k (ai T 21 12 (ai T 21 18 k).toNat).toNat
def mbgF (T : ST) : ST := si (si (si (mbo T (mbA T) (iv T 20 17 0).toNat) 20 31 0 (-1)) 20 32 0 0) 20 33 0 0
theorem mbA_MI {T : ST} (h : MI T) : MI (mbA T) := (((mcpF_MI (h.pi19 (by decide)) 40).pi22 (by have := h.i15; omega)).pi23 h.i16).pi24 h.i17
theorem mbA_MF (T : ST) : MF (kq [20, 21]) (kq [19, 22, 23, 24]) T (mbA T) := ((((MF.si T 19 1 (by decide)).tr ((mcpF_MF _ 40).up (by decide) (by decide))).tr (MF.si _ 22 _ (by decide))).tr (MF.si _ 23 _ (by decide))).tr (MF.si _ 24 _ (by decide))
theorem mb1_MI {T U : ST} (h : MI T) (g : MI U) (k : Nat) : MI (mb1 T U k) := (((g.pa25 (h.a10 _)).pa26 (h.a11 _)).pa27 (h.a12 _)).pa30 (by decide)
theorem mb1_MF (T U : ST) (k : Nat) : MF (kq [25, 26, 27, 28, 29, 30]) (kq []) U (mb1 T U k) := (((MF.sa U 25 _ _ (by decide)).tr (MF.sa _ 26 _ _ (by decide))).tr (MF.sa _ 27 _ _ (by decide))).tr (MF.sa _ 30 _ _ (by decide))
theorem mbl_MI {T U : ST} (h : MI T) (g : MI U) (k : Nat) : ∀ j, MI (mbl T U k j)
  | 0 => g
  | j + 1 => ((mbl_MI h g k j).pa28 (h.a13 _)).pa29 (by decide)
theorem mbl_MF (T U : ST) (k : Nat) : ∀ j, MF (kq [25, 26, 27, 28, 29, 30]) (kq []) U (mbl T U k j)
  | 0 => MF.rf _ _ U
  | j + 1 => ((mbl_MF T U k j).tr (MF.sa _ 28 _ _ (by decide))).tr (MF.sa _ 29 _ _ (by decide))
theorem mbo_MI {T U : ST} (h : MI T) (g : MI U) : ∀ k, MI (mbo T U k)
  | 0 => g
  | k + 1 => mbl_MI h (mb1_MI h (mbo_MI h g k) k) k _
theorem mbo_MF (T U : ST) : ∀ k, MF (kq [25, 26, 27, 28, 29, 30]) (kq []) U (mbo T U k)
  | 0 => MF.rf _ _ U
  | k + 1 => ((mbo_MF T U k).tr (mb1_MF T _ k)).tr (mbl_MF T _ k _)
theorem mbgF_MI {T : ST} (h : MI T) : MI (mbgF T) := (((mbo_MI h (mbA_MI h) _).pi31 (by decide)).pi32 (by decide)).pi33
theorem mbgF_MF (T : ST) : MF (kq [20, 21, 25, 26, 27, 28, 29, 30]) (kq [19, 22, 23, 24, 31, 32, 33]) T (mbgF T) := (((((mbA_MF T).up (by decide) (by decide)).tr ((mbo_MF T (mbA T) _).up (by decide) (by decide))).tr (MF.si _ 31 _ (by decide))).tr (MF.si _ 32 _ (by decide))).tr (MF.si _ 33 _ (by decide))
-- seeking
def mth (S : ST) (d : Nat) : Bool := decide (ai S 21 20 d = 1)
def mtt (S : ST) (c d : Nat) : Bool := mth S d && litT c (ai S 21 21 d).toNat
def mfs (S : ST) (c d : Nat) : Nat := fo (mtt S c) (40 - d) d
theorem mfs_b {S : ST} {c d : Nat} (hd : d ≤ 40) : d ≤ mfs S c d ∧ mfs S c d ≤ 40 := by
  have h1 := fo_ge (mtt S c) (40 - d) d
  have h2 := fo_le (mtt S c) (40 - d) d
  unfold mfs
  omega
def mlc (S : ST) (c d q : Nat) : Int := if c % 2 = 0 then 1 else ((cnt (mth S) d (q - d) : Nat) : Int) + 1
def mlitSk (S : ST) (a d : Nat) : ST := if (d : Int) ≤ ai S 21 29 a then S else sa (si S 20 33 0 (iv S 20 33 0 + mlc S (ai S 21 28 a).toNat d (mfs S (ai S 21 28 a).toNat d))) 21 29 a ((mfs S (ai S 21 28 a).toNat d : Nat) : Int)
def nthF (pl : Nat → Int) (n : Nat) (nd : Int) (f p : Nat) : Nat := match f with
  | 0 => 40
  | f + 1 => if nd ≤ upTo pl n p then p else nthF pl n nd f (p + 1)
theorem nthF_no {pl : Nat → Int} {n : Nat} {nd : Int} {p : Nat} (h : p < 41) (q : ¬ nd ≤ upTo pl n p) : nthF pl n nd (41 - p) p = nthF pl n nd (41 - (p + 1)) (p + 1) := by
  rw [show 41 - p = (41 - (p + 1)) + 1 by omega]
  exact if_neg q
theorem nthF_yes {pl : Nat → Int} {n : Nat} {nd : Int} {p : Nat} (h : p < 41) (q : nd ≤ upTo pl n p) : nthF pl n nd (41 - p) p = p := by
  rw [show 41 - p = (41 - (p + 1)) + 1 by omega]
  exact if_pos q
theorem nthF_le {pl : Nat → Int} {n : Nat} {nd : Int} : ∀ f p, f + p ≤ 41 → nthF pl n nd f p ≤ 40
  | 0, _, _ => Nat.le_refl 40
  | f + 1, p, h => by
    unfold nthF
    split
    · omega
    · exact nthF_le f (p + 1) (by omega)
theorem upTo_0 {pl : Nat → Int} {b : Int} : ∀ n, (∀ j, j < n → b < pl j) → upTo pl n b = 0
  | 0, _ => rfl
  | n + 1, h => (cnt0_no (decide_eq_false (by have := h n (by omega); omega))).trans (upTo_0 n (fun j hj => h j (by omega)))
theorem nthF_ge {pl : Nat → Int} {n : Nat} {nd : Int} {w : Nat} (hnd : 1 ≤ nd) (hpl : ∀ j, j < n → (w : Int) ≤ pl j) (hw : w ≤ 40) : ∀ f p, f + p = 41 → w ≤ nthF pl n nd f p
  | 0, _, _ => hw
  | f + 1, p, h => by
    unfold nthF
    split
    · rename_i q
      by_cases z : w ≤ p
      · exact z
      · rw [upTo_0 n (fun j hj => by have := hpl j hj; omega)] at q
        omega
    · exact nthF_ge hnd hpl hw f (p + 1) (by omega)
theorem gAll_eq {σ : Type} {sk : Nat → Nat → σ → Nat × σ} {n f w k : Nat} {s : σ} {r : Nat × σ} (hk : k < n) (hr : sk k w s = r) (h : r.1 = w) (hw : w < 40) : gAll sk n (f + 1) w k s = gAll sk n f r.1 (k + 1) r.2 := by
  conv => lhs; unfold gAll
  rw [if_pos hk, hr, if_neg (by omega), if_neg (by omega), h]
theorem gAll_up {σ : Type} {sk : Nat → Nat → σ → Nat × σ} {n f w k : Nat} {s : σ} {r : Nat × σ} (hk : k < n) (hr : sk k w s = r) (h : w < r.1) (h4 : r.1 < 40) : gAll sk n (f + 1) w k s = gAll sk n f r.1 0 r.2 := by
  conv => lhs; unfold gAll
  rw [if_pos hk, hr, if_neg (by omega), if_pos h]
theorem gAll_end {σ : Type} {sk : Nat → Nat → σ → Nat × σ} {n f w k : Nat} {s : σ} {r : Nat × σ} (hk : k < n) (hr : sk k w s = r) (h : 40 ≤ r.1) : gAll sk n (f + 1) w k s = (40, r.2) := by
  conv => lhs; unfold gAll
  rw [if_pos hk, hr, if_pos h]
theorem gAll_out {σ : Type} {sk : Nat → Nat → σ → Nat × σ} {n f w k : Nat} {s : σ} (hk : ¬ k < n) : gAll sk n (f + 1) w k s = (w, s) := if_neg hk
theorem gSome_le {σ : Type} {sk : Nat → Nat → σ → Nat × σ} {nth : σ → Int} {n f w : Nat} {s : σ} (hw : w < 40) (h : nth (gAnyA sk w n s).2 ≤ (w : Int)) : gSome sk nth n (f + 1) w s = (w, (gAnyA sk w n s).2) := by
  conv => lhs; unfold gSome
  rw [if_pos hw, if_pos h]
theorem gSome_gt {σ : Type} {sk : Nat → Nat → σ → Nat × σ} {nth : σ → Int} {n f w : Nat} {s : σ} (hw : w < 40) (h : ¬ nth (gAnyA sk w n s).2 ≤ (w : Int)) : gSome sk nth n (f + 1) w s = gSome sk nth n f (nth (gAnyA sk w n s).2).toNat (gAnyA sk w n s).2 := by
  conv => lhs; unfold gSome
  rw [if_pos hw, if_neg h]
theorem gSome_40 {σ : Type} {sk : Nat → Nat → σ → Nat × σ} {nth : σ → Int} {n : Nat} {s : σ} : ∀ f, gSome sk nth n f 40 s = (40, s)
  | 0 => rfl
  | f + 1 => if_neg (by decide)
def mlsk (cl j d : Nat) (S : ST) : Nat × ST := ((ai (mlitSk S (6 * cl + j) d) 21 29 (6 * cl + j)).toNat, mlitSk S (6 * cl + j) d)
def mgrp (sk : Nat → Nat → ST → Nat × ST) (pl : ST → Nat → Int) (kd nd : Int) (n d : Nat) (S : ST) : Nat × ST :=
  if kd = 0 then gAll sk n 1000 d 0 S else if kd = 1 then (nthF (pl (gAnyA sk d n S).2) n 1 41 0, (gAnyA sk d n S).2) else gSome sk (fun s => ((nthF (pl s) n nd 41 0 : Nat) : Int)) n 40 d S
def mplC (cl : Nat) (s : ST) (j : Nat) : Int := ai s 21 29 (6 * cl + j)
def mplP (s : ST) (j : Nat) : Int := ai s 21 30 j
def mcG (cl d : Nat) (S : ST) : Nat × ST := mgrp (mlsk cl) (mplC cl) (ai S 21 25 cl) (ai S 21 26 cl) (ai S 21 27 cl).toNat d S
def mclSk (cl d : Nat) (S : ST) : ST := if (d : Int) ≤ ai S 21 30 cl then S else sa (mcG cl d S).2 21 30 cl (((mcG cl d S).1 : Nat) : Int)
def mpsk (j d : Nat) (S : ST) : Nat × ST := ((ai (mclSk j d S) 21 30 j).toNat, mclSk j d S)
def mpG (d : Nat) (S : ST) : Nat × ST := mgrp mpsk mplP (iv S 20 22 0) (iv S 20 23 0) (iv S 20 24 0).toNat d S
def mplSk (d : Nat) (S : ST) : Nat × ST := if iv S 20 22 0 = 4 then (40, S) else if iv S 20 22 0 = 3 then (fo (mth S) (40 - d) d, S) else mpG d S
theorem mlitSk_MI {S : ST} (h : MI S) (a : Nat) {d : Nat} (hd : d ≤ 40) : MI (mlitSk S a d) := by
  unfold mlitSk
  split
  · exact h
  · have := mfs_b (S := S) (c := (ai S 21 28 a).toNat) hd
    exact h.pi33.pa29 (by omega)
theorem mlitSk_MF (S : ST) (a d : Nat) : MF (kq [29]) (kq [33]) S (mlitSk S a d) := by
  unfold mlitSk
  split
  · exact MF.rf _ _ S
  · exact (MF.si S 33 _ (by decide)).tr (MF.sa _ 29 _ _ (by decide))
theorem sa_at (S : ST) (t y j : Nat) (v : Int) : ai (sa S t y j v) t y j = v := by simp [ai, sa, up3]
theorem sa_nj (S : ST) (t y : Nat) {j j' : Nat} (v : Int) (h : ¬ j' = j) : ai (sa S t y j v) t y j' = ai S t y j' := by simp [ai, sa, up3, h]
theorem mlitSk_pl {S : ST} (h : MI S) (a : Nat) {d : Nat} (hd : d ≤ 40) : (d : Int) ≤ ai (mlitSk S a d) 21 29 a ∧ ai (mlitSk S a d) 21 29 a ≤ 40 := by
  have hb := h.a29 a
  unfold mlitSk
  split
  · rename_i q; exact ⟨q, hb.2⟩
  · have := mfs_b (S := S) (c := (ai S 21 28 a).toNat) hd
    rw [sa_at]
    omega
theorem mlitSk_ne (S : ST) {a b : Nat} (d : Nat) (h : ¬ b = a) : ai (mlitSk S a d) 21 29 b = ai S 21 29 b := by
  unfold mlitSk
  split
  · rfl
  · rw [sa_nj _ _ _ _ h]; rfl
theorem mlsk_ok {S s : ST} {cl j w : Nat} (hw : w ≤ 40) (h : MI s ∧ MF (kq [29]) (kq [33]) S s) : (MI (mlsk cl j w s).2 ∧ MF (kq [29]) (kq [33]) S (mlsk cl j w s).2) ∧ w ≤ (mlsk cl j w s).1 ∧ (mlsk cl j w s).1 ≤ 40 ∧ ai (mlsk cl j w s).2 21 29 (6 * cl + j) = (((mlsk cl j w s).1 : Nat) : Int) := by
  have hp := mlitSk_pl h.1 (6 * cl + j) hw
  refine ⟨⟨mlitSk_MI h.1 _ hw, h.2.tr (mlitSk_MF _ _ _)⟩, ?_, ?_, ?_⟩
  · show w ≤ (ai (mlitSk s (6 * cl + j) w) 21 29 (6 * cl + j)).toNat; omega
  · show (ai (mlitSk s (6 * cl + j) w) 21 29 (6 * cl + j)).toNat ≤ 40; omega
  · show ai (mlitSk s (6 * cl + j) w) 21 29 (6 * cl + j) = ((ai (mlitSk s (6 * cl + j) w) 21 29 (6 * cl + j)).toNat : Int); omega
/-- after seeking in all of them -/
theorem gAnyC_pl {S s : ST} {cl w : Nat} (hw : w ≤ 40) (h : MI s ∧ MF (kq [29]) (kq [33]) S s) : ∀ i, (MI (gAnyA (mlsk cl) w i s).2 ∧ MF (kq [29]) (kq [33]) S (gAnyA (mlsk cl) w i s).2) ∧ ∀ j, j < i → (w : Int) ≤ mplC cl (gAnyA (mlsk cl) w i s).2 j
  | 0 => ⟨h, fun j hj => absurd hj (by omega)⟩
  | i + 1 => by
    obtain ⟨a, b⟩ := gAnyC_pl hw h i
    obtain ⟨c1, c2, c3, c4⟩ := mlsk_ok (cl := cl) (j := i) hw a
    refine ⟨c1, fun j hj => ?_⟩
    show (w : Int) ≤ ai (mlsk cl i w (gAnyA (mlsk cl) w i s).2).2 21 29 (6 * cl + j)
    by_cases q : j = i
    · subst q; rw [c4]; omega
    · have := b j (by omega)
      show (w : Int) ≤ ai (mlitSk (gAnyA (mlsk cl) w i s).2 (6 * cl + i) w) 21 29 (6 * cl + j)
      rw [mlitSk_ne _ _ (by omega)]
      exact this
theorem gAll_ge {σ : Type} {sk : Nat → Nat → σ → Nat × σ} {n : Nat} {I : σ → Prop} (h1 : ∀ j w s, j < n → I s → w < 40 → w ≤ (sk j w s).1) (h2 : ∀ j w s, j < n → I s → w < 40 → I (sk j w s).2) : ∀ f w k s, I s → w < 40 → w ≤ (gAll sk n f w k s).1
  | 0, w, k, s, _, _ => Nat.le_refl w
  | f + 1, w, k, s, hs, hw => by
    unfold gAll
    split
    · rename_i hk
      have a := h1 k w s hk hs hw
      have b := h2 k w s hk hs hw
      split
      · exact Nat.le_of_lt hw
      · split
        · have := gAll_ge (n := n) h1 h2 f (sk k w s).1 0 (sk k w s).2 b (by omega); omega
        · exact gAll_ge h1 h2 f w (k + 1) (sk k w s).2 b hw
    · exact Nat.le_refl w
theorem gSome_ge {σ : Type} {sk : Nat → Nat → σ → Nat × σ} {nth : σ → Int} {n : Nat} : ∀ f w s, w ≤ 40 → w ≤ (gSome sk nth n f w s).1
  | 0, w, s, hw => hw
  | f + 1, w, s, hw => by
    unfold gSome
    split
    · split
      · exact Nat.le_refl w
      · rename_i q
        by_cases z : (nth (gAnyA sk w n s).2).toNat ≤ 40
        · have := gSome_ge (sk := sk) (nth := nth) (n := n) f (nth (gAnyA sk w n s).2).toNat (gAnyA sk w n s).2 z; omega
        · cases f with
          | zero => exact hw
          | succ f => unfold gSome; rw [if_neg (by omega)]; exact hw
    · exact hw
theorem mcG_ok {S s : ST} {cl d : Nat} (hd : d < 40) (h : MI s ∧ MF (kq [29]) (kq [33]) S s) (hn : ai s 21 25 cl ≠ 0 → ai s 21 25 cl ≠ 1 → 1 ≤ ai s 21 26 cl) : (MI (mcG cl d s).2 ∧ MF (kq [29]) (kq [33]) S (mcG cl d s).2) ∧ d ≤ (mcG cl d s).1 ∧ (mcG cl d s).1 ≤ 40 := by
  have hI : ∀ j w s', j < (ai s 21 27 cl).toNat → w < 40 → (MI s' ∧ MF (kq [29]) (kq [33]) S s') → (MI (mlsk cl j w s').2 ∧ MF (kq [29]) (kq [33]) S (mlsk cl j w s').2) := fun j w s' _ hw hs => (mlsk_ok (by omega) hs).1
  unfold mcG mgrp
  split
  · have a := gAll_inv (I := fun s' => MI s' ∧ MF (kq [29]) (kq [33]) S s') hI 1000 d 0 s hd h
    exact ⟨a.1, gAll_ge (I := fun s' => MI s' ∧ MF (kq [29]) (kq [33]) S s') (fun j w s' _ hs hw => (mlsk_ok (S := S) (by omega) hs).2.1) (fun j w s' _ hs hw => (mlsk_ok (S := S) (by omega) hs).1) 1000 d 0 s h hd, a.2⟩
  · rename_i h0
    split
    · have a := gAnyC_pl (S := S) (cl := cl) (w := d) (by omega) h (ai s 21 27 cl).toNat
      exact ⟨a.1, nthF_ge (by decide) a.2 (by omega) 41 0 rfl, nthF_le 41 0 (by decide)⟩
    · rename_i h1
      have a := gSome_inv (I := fun s' => MI s' ∧ MF (kq [29]) (kq [33]) S s') (nth := fun s' => ((nthF (mplC cl s') (ai s 21 27 cl).toNat (ai s 21 26 cl) 41 0 : Nat) : Int)) hI 40 d s h
      exact ⟨a.1, gSome_ge 40 d s (by omega), a.2⟩
theorem sa_MF (S : ST) (q j : Nat) (v : Int) {l m : List Nat} (h : kq l q) : MF (kq l) (kq m) S (sa S 21 q j v) := MF.sa S q j v h
def RN (S : ST) : Prop := ∀ k, k < 5 → ai S 21 25 k ≠ 0 → ai S 21 25 k ≠ 1 → 1 ≤ ai S 21 26 k
abbrev PIn (S s : ST) : Prop := (MI s ∧ MF (kq [29, 30]) (kq [33]) S s) ∧ RN s
theorem RN.of {S s : ST} (h : RN S) (hF : MF (kq [29, 30]) (kq [33]) S s) : RN s := fun k hk a b => by
  rw [hF.a (by decide)] at a b ⊢
  exact h k hk a b
theorem mclSk_ok {S s : ST} {cl d : Nat} (hcl : cl < 5) (hd : d < 40) (h : PIn S s) : PIn S (mclSk cl d s) ∧ (d : Int) ≤ ai (mclSk cl d s) 21 30 cl ∧ ai (mclSk cl d s) 21 30 cl ≤ 40 := by
  have hb := h.1.1.a30 cl
  unfold mclSk
  split
  · rename_i q; exact ⟨h, q, hb.2⟩
  · obtain ⟨⟨a1, a2⟩, b, c⟩ := mcG_ok (S := s) (s := s) (cl := cl) hd ⟨h.1.1, MF.rf _ _ s⟩ (h.2 cl hcl)
    have hF : MF (kq [29, 30]) (kq [33]) s (sa (mcG cl d s).2 21 30 cl (((mcG cl d s).1 : Nat) : Int)) := (a2.up (by decide) (by decide)).tr (MF.sa _ 30 _ _ (by decide))
    refine ⟨⟨⟨a1.pa30 (by omega), h.1.2.tr hF⟩, h.2.of hF⟩, ?_⟩
    rw [sa_at]
    omega
theorem mclSk_ne {s : ST} {cl d k : Nat} (hcl : cl < 5) (hd : d < 40) (h : MI s) (hn : RN s) (hk : ¬ k = cl) : ai (mclSk cl d s) 21 30 k = ai s 21 30 k := by
  unfold mclSk
  split
  · rfl
  · obtain ⟨⟨a1, a2⟩, b, c⟩ := mcG_ok (S := s) (s := s) (cl := cl) hd ⟨h, MF.rf _ _ s⟩ (hn cl hcl)
    rw [sa_nj _ _ _ _ hk, a2.a (by decide)]
theorem mpsk_ok {S s : ST} {j w : Nat} (hj : j < 5) (hw : w < 40) (h : PIn S s) : PIn S (mpsk j w s).2 ∧ w ≤ (mpsk j w s).1 ∧ (mpsk j w s).1 ≤ 40 ∧ ai (mpsk j w s).2 21 30 j = (((mpsk j w s).1 : Nat) : Int) := by
  obtain ⟨a, b⟩ := mclSk_ok hj hw h
  refine ⟨a, ?_, ?_, ?_⟩
  · show w ≤ (ai (mclSk j w s) 21 30 j).toNat; omega
  · show (ai (mclSk j w s) 21 30 j).toNat ≤ 40; omega
  · show ai (mclSk j w s) 21 30 j = ((ai (mclSk j w s) 21 30 j).toNat : Int); omega
theorem gAnyP_pl {S s : ST} {w : Nat} (hw : w < 40) (h : PIn S s) : ∀ i, i ≤ 5 → PIn S (gAnyA mpsk w i s).2 ∧ ∀ j, j < i → (w : Int) ≤ mplP (gAnyA mpsk w i s).2 j
  | 0, _ => ⟨h, fun j hj => absurd hj (by omega)⟩
  | i + 1, hi => by
    obtain ⟨a, b⟩ := gAnyP_pl hw h i (by omega)
    obtain ⟨c1, c2, c3, c4⟩ := mpsk_ok (j := i) (by omega) hw a
    refine ⟨c1, fun j hj => ?_⟩
    show (w : Int) ≤ ai (mpsk i w (gAnyA mpsk w i s).2).2 21 30 j
    by_cases q : j = i
    · subst q; rw [c4]; omega
    · have := b j (by omega)
      show (w : Int) ≤ ai (mclSk i w (gAnyA mpsk w i s).2) 21 30 j
      rw [mclSk_ne (by omega) hw a.1.1 a.2 q]
      exact this
theorem mclSk_of {S s : ST} {cl d w : Nat} (hd : ¬ (d : Int) ≤ ai S 21 30 cl) (hG : (w, s) = mcG cl d S) : sa s 21 30 cl (w : Int) = mclSk cl d S := by
  unfold mclSk
  rw [if_neg hd, ← hG]
def RK (S : ST) : Prop := RN S ∧ (∀ k, k < (iv S 20 24 0).toNat → ai S 21 25 k ≤ 2) ∧ (iv S 20 22 0 = 2 → 1 ≤ iv S 20 23 0)
theorem mplSk_ok {S : ST} {d : Nat} (hd : d < 40) (h : MI S) (hr : RK S) : (MI (mplSk d S).2 ∧ MF (kq [29, 30]) (kq [33]) S (mplSk d S).2) ∧ d ≤ (mplSk d S).1 ∧ (mplSk d S).1 ≤ 40 := by
  have h24 := h.i24
  have h22 := h.i22
  have hP : PIn S S := ⟨⟨h, MF.rf _ _ S⟩, hr.1⟩
  have hI : ∀ j w s, j < (iv S 20 24 0).toNat → w < 40 → PIn S s → PIn S (mpsk j w s).2 := fun j w s hj hw hs => (mpsk_ok (by omega) hw hs).1
  unfold mplSk
  split
  · exact ⟨⟨h, MF.rf _ _ S⟩, by show d ≤ 40; omega, Nat.le_refl 40⟩
  · split
    · have h1 := fo_ge (mth S) (40 - d) d
      have h2 := fo_le (mth S) (40 - d) d
      exact ⟨⟨h, MF.rf _ _ S⟩, h1, by show fo _ _ _ ≤ 40; omega⟩
    · unfold mpG mgrp
      split
      · have a := gAll_inv (I := PIn S) hI 1000 d 0 S hd hP
        exact ⟨a.1.1, gAll_ge (I := PIn S) (fun j w s hj hs hw => (mpsk_ok (by omega) hw hs).2.1) (fun j w s hj hs hw => (mpsk_ok (by omega) hw hs).1) 1000 d 0 S hP hd, a.2⟩
      · split
        · have a := gAnyP_pl hd hP (iv S 20 24 0).toNat (by omega)
          exact ⟨a.1.1, nthF_ge (by decide) a.2 (by omega) 41 0 rfl, nthF_le 41 0 (by decide)⟩
        · have a := gSome_inv (I := PIn S) (nth := fun s' => ((nthF (mplP s') (iv S 20 24 0).toNat (iv S 20 23 0) 41 0 : Nat) : Int)) hI 40 d S hP
          exact ⟨a.1.1, gSome_ge 40 d S (by omega), a.2⟩
def mlpW (d : Int) (S : ST) : Nat := (if iv S 20 31 0 < d then d else iv S 20 31 0 + 1).toNat
def mlpR (d : Int) (S : ST) : Nat × ST := if iv S 20 32 0 ≠ 0 ∨ 40 ≤ mlpW d S then (40, S) else mplSk (mlpW d S) S
def mlpF (d : Int) (S : ST) : Int × ST := if (mlpR d S).1 = 40 then (-1, si (si (mlpR d S).2 20 32 0 1) 20 31 0 (iv (mlpR d S).2 20 31 0)) else (((mlpR d S).1 : Nat), si (si (mlpR d S).2 20 32 0 0) 20 31 0 ((mlpR d S).1 : Nat))
theorem mlpR_ok {S : ST} {d : Int} (h : MI S) (hr : RK S) : (MI (mlpR d S).2 ∧ MF (kq [29, 30]) (kq [33]) S (mlpR d S).2) ∧ (mlpR d S).1 ≤ 40 := by
  unfold mlpR
  split
  · exact ⟨⟨h, MF.rf _ _ S⟩, Nat.le_refl 40⟩
  · have a := mplSk_ok (d := mlpW d S) (by omega) h hr
    exact ⟨a.1, a.2.2⟩
