theorem RI_11_1 {S : ST} (h : RI S) (y : Nat) {v : Int} (hv : 0 ≤ v ∧ v ≤ 4) : RI (si S 11 1 y v) := ⟨fun p hp => h.1 p hp, fun x hx => by
    obtain ⟨⟨a1, a2, a3, a4, a5⟩, b, d⟩ := h.2.1 x hx
    refine ⟨⟨?_, a2, a3, a4, a5⟩, b, d⟩
    show 0 ≤ (if 11 = 11 ∧ 1 = 1 ∧ x = y then v else iv S 11 1 x) ∧ (if 11 = 11 ∧ 1 = 1 ∧ x = y then v else iv S 11 1 x) ≤ 4
    split <;> omega, fun x hx => h.2.2 x hx⟩
theorem RI_11_2 {S : ST} (h : RI S) (y : Nat) {v : Int} (hv : -20 ≤ v ∧ v ≤ 20) : RI (si S 11 2 y v) := ⟨fun p hp => h.1 p hp, fun x hx => by
    obtain ⟨⟨a1, a2, a3, a4, a5⟩, b, d⟩ := h.2.1 x hx
    refine ⟨⟨a1, ?_, a3, a4, a5⟩, b, d⟩
    show -20 ≤ (if 11 = 11 ∧ 2 = 2 ∧ x = y then v else iv S 11 2 x) ∧ (if 11 = 11 ∧ 2 = 2 ∧ x = y then v else iv S 11 2 x) ≤ 20
    split <;> omega, fun x hx => h.2.2 x hx⟩
theorem RI_11_6 {S : ST} (h : RI S) (y : Nat) {v : Int} (hv : 0 ≤ v ∧ v ≤ 40) : RI (si S 11 6 y v) := ⟨fun p hp => h.1 p hp, fun x hx => by
    obtain ⟨⟨a1, a2, a3, a4, a5⟩, b, d⟩ := h.2.1 x hx
    refine ⟨⟨a1, a2, ?_, a4, a5⟩, b, d⟩
    show 0 ≤ (if 11 = 11 ∧ 6 = 6 ∧ x = y then v else iv S 11 6 x) ∧ (if 11 = 11 ∧ 6 = 6 ∧ x = y then v else iv S 11 6 x) ≤ 40
    split <;> omega, fun x hx => h.2.2 x hx⟩
theorem RI_11_3 {S : ST} (h : RI S) (y : Nat) {v : Int} (hv : 0 ≤ v ∧ v ≤ 6) (hp : ∀ j : Nat, (j : Int) < v → ar S 12 y j = some (pa S 12 y j) ∧ pa S 12 y j < 60) : RI (si S 11 3 y v) := ⟨fun p hp => h.1 p hp, fun x hx => by
    obtain ⟨⟨a1, a2, a3, a4, a5⟩, b, d⟩ := h.2.1 x hx
    by_cases hxy : x = y
    · subst hxy
      have e : iv (si S 11 3 x v) 11 3 x = v := by simp [iv, si, up3]
      refine ⟨⟨a1, a2, a3, a4, a5⟩, by rw [e]; omega, fun j hj => ?_⟩
      rw [e] at hj
      exact hp j hj
    · have e : iv (si S 11 3 y v) 11 3 x = iv S 11 3 x := by simp [iv, si, up3, hxy]
      refine ⟨⟨a1, a2, a3, a4, a5⟩, by rw [e]; exact b, fun j hj => ?_⟩
      rw [e] at hj
      exact d j hj, fun x hx => h.2.2 x hx⟩
theorem RI_11_4 {S : ST} (h : RI S) (y : Nat) {v : Nat} (hv : v < 2 ^ 40) : RI (sj S 11 4 y v) := ⟨fun p hp => h.1 p hp, fun x hx => by
    obtain ⟨⟨a1, a2, a3, a4, a5⟩, b, d⟩ := h.2.1 x hx
    refine ⟨⟨a1, a2, a3, a4, ?_⟩, b, d⟩
    show (if 11 = 11 ∧ 4 = 4 ∧ x = y then v else jv S 11 4 x) < 2 ^ 40
    split
    · exact hv
    · exact a5, fun x hx => h.2.2 x hx⟩
theorem RI_8_1 {S : ST} (h : RI S) (y : Nat) {v : Int} (hv : 0 ≤ v ∧ v ≤ 4) : RI (si S 8 1 y v) := ⟨fun p hp => h.1 p hp, fun x hx => h.2.1 x hx, fun x hx => by
    obtain ⟨⟨a1, a2, a3, a4, a5⟩, b, d⟩ := h.2.2 x hx
    refine ⟨⟨?_, a2, a3, a4, a5⟩, b, d⟩
    show 0 ≤ (if 8 = 8 ∧ 1 = 1 ∧ x = y then v else iv S 8 1 x) ∧ (if 8 = 8 ∧ 1 = 1 ∧ x = y then v else iv S 8 1 x) ≤ 4
    split <;> omega⟩
theorem RI_8_2 {S : ST} (h : RI S) (y : Nat) {v : Int} (hv : -20 ≤ v ∧ v ≤ 20) : RI (si S 8 2 y v) := ⟨fun p hp => h.1 p hp, fun x hx => h.2.1 x hx, fun x hx => by
    obtain ⟨⟨a1, a2, a3, a4, a5⟩, b, d⟩ := h.2.2 x hx
    refine ⟨⟨a1, ?_, a3, a4, a5⟩, b, d⟩
    show -20 ≤ (if 8 = 8 ∧ 2 = 2 ∧ x = y then v else iv S 8 2 x) ∧ (if 8 = 8 ∧ 2 = 2 ∧ x = y then v else iv S 8 2 x) ≤ 20
    split <;> omega⟩
theorem RI_8_6 {S : ST} (h : RI S) (y : Nat) {v : Int} (hv : 0 ≤ v ∧ v ≤ 40) : RI (si S 8 6 y v) := ⟨fun p hp => h.1 p hp, fun x hx => h.2.1 x hx, fun x hx => by
    obtain ⟨⟨a1, a2, a3, a4, a5⟩, b, d⟩ := h.2.2 x hx
    refine ⟨⟨a1, a2, ?_, a4, a5⟩, b, d⟩
    show 0 ≤ (if 8 = 8 ∧ 6 = 6 ∧ x = y then v else iv S 8 6 x) ∧ (if 8 = 8 ∧ 6 = 6 ∧ x = y then v else iv S 8 6 x) ≤ 40
    split <;> omega⟩
theorem RI_8_3 {S : ST} (h : RI S) (y : Nat) {v : Int} (hv : 0 ≤ v ∧ v ≤ 6) (hp : ∀ j : Nat, (j : Int) < v → ar S 9 y j = some (pa S 9 y j) ∧ pa S 9 y j < 10) : RI (si S 8 3 y v) := ⟨fun p hp => h.1 p hp, fun x hx => h.2.1 x hx, fun x hx => by
    obtain ⟨⟨a1, a2, a3, a4, a5⟩, b, d⟩ := h.2.2 x hx
    by_cases hxy : x = y
    · subst hxy
      have e : iv (si S 8 3 x v) 8 3 x = v := by simp [iv, si, up3]
      refine ⟨⟨a1, a2, a3, a4, a5⟩, by rw [e]; omega, fun j hj => ?_⟩
      rw [e] at hj
      exact hp j hj
    · have e : iv (si S 8 3 y v) 8 3 x = iv S 8 3 x := by simp [iv, si, up3, hxy]
      refine ⟨⟨a1, a2, a3, a4, a5⟩, by rw [e]; exact b, fun j hj => ?_⟩
      rw [e] at hj
      exact d j hj⟩
theorem RI_8_4 {S : ST} (h : RI S) (y : Nat) {v : Nat} (hv : v < 2 ^ 40) : RI (sj S 8 4 y v) := ⟨fun p hp => h.1 p hp, fun x hx => h.2.1 x hx, fun x hx => by
    obtain ⟨⟨a1, a2, a3, a4, a5⟩, b, d⟩ := h.2.2 x hx
    refine ⟨⟨a1, a2, a3, a4, ?_⟩, b, d⟩
    show (if 8 = 8 ∧ 4 = 4 ∧ x = y then v else jv S 8 4 x) < 2 ^ 40
    split
    · exact hv
    · exact a5⟩
theorem RI_14_0 {S : ST} (h : RI S) (y : Nat) {v : Int} (hv : 0 ≤ v ∧ v < 16) : RI (si S 14 0 y v) := ⟨fun x hx => by
    obtain ⟨a, b, c, d, f⟩ := h.1 x hx
    refine ⟨?_, b, c, d, f⟩
    show 0 ≤ (if 14 = 14 ∧ 0 = 0 ∧ x = y then v else iv S 14 0 x) ∧ (if 14 = 14 ∧ 0 = 0 ∧ x = y then v else iv S 14 0 x) < 16
    split <;> omega, fun x hx => h.2.1 x hx, fun x hx => h.2.2 x hx⟩
theorem RI_14_1 {S : ST} (h : RI S) (y : Nat) {v : Int} (hv : 0 ≤ v ∧ v ≤ 40) : RI (si S 14 1 y v) := ⟨fun x hx => by
    obtain ⟨a, b, c, d, f⟩ := h.1 x hx
    refine ⟨a, ?_, c, d, f⟩
    show 0 ≤ (if 14 = 14 ∧ 1 = 1 ∧ x = y then v else iv S 14 1 x) ∧ (if 14 = 14 ∧ 1 = 1 ∧ x = y then v else iv S 14 1 x) ≤ 40
    split <;> omega, fun x hx => h.2.1 x hx, fun x hx => h.2.2 x hx⟩
theorem RI_j14_4 {S : ST} (h : RI S) (y : Nat) {v : Nat} (hv : v < 2 ^ 40) : RI (sj S 14 4 y v) := ⟨fun x hx => by
    obtain ⟨a, b, c, d, f⟩ := h.1 x hx
    refine ⟨a, b, c, ?_, f⟩
    show (if 14 = 14 ∧ 4 = 4 ∧ x = y then v else jv S 14 4 x) < 2 ^ 40
    split
    · exact hv
    · assumption, fun x hx => h.2.1 x hx, fun x hx => h.2.2 x hx⟩
theorem RI_j14_5 {S : ST} (h : RI S) (y : Nat) {v : Nat} (hv : v < 2 ^ 40) : RI (sj S 14 5 y v) := ⟨fun x hx => by
    obtain ⟨a, b, c, d, f⟩ := h.1 x hx
    refine ⟨a, b, c, d, ?_⟩
    show (if 14 = 14 ∧ 5 = 5 ∧ x = y then v else jv S 14 5 x) < 2 ^ 40
    split
    · exact hv
    · assumption, fun x hx => h.2.1 x hx, fun x hx => h.2.2 x hx⟩
theorem RI_sar12 {S : ST} (h : RI S) (y : Nat) {A : Nat → Option Nat} (hA : ∀ j : Nat, (j : Int) < iv S 11 3 y → ∃ p, A j = some p ∧ p < 60) : RI (sar S 12 y A) := ⟨fun p hp => h.1 p hp, fun x hx => by
    obtain ⟨a0, b, d⟩ := h.2.1 x hx
    refine ⟨a0, b, fun j hj => ?_⟩
    by_cases hxy : x = y
    · subst hxy
      have e : ar (sar S 12 x A) 12 x j = A j := by simp [ar, sar]
      obtain ⟨p, hp1, hp2⟩ := hA j hj
      refine ⟨?_, ?_⟩
      · rw [e, hp1]; unfold pa; rw [e, hp1]; rfl
      · unfold pa; rw [e, hp1]; exact hp2
    · have e : ar (sar S 12 y A) 12 x j = ar S 12 x j := by simp [ar, sar, hxy]
      have ep : pa (sar S 12 y A) 12 x j = pa S 12 x j := by unfold pa; rw [e]
      rw [e, ep]
      exact d j hj, fun x hx => by
    obtain ⟨a0, b, d⟩ := h.2.2 x hx
    refine ⟨a0, b, fun j hj => ?_⟩
    have e : ar (sar S 12 y A) 9 x j = ar S 9 x j := by simp [ar, sar]
    have ep : pa (sar S 12 y A) 9 x j = pa S 9 x j := by unfold pa; rw [e]
    rw [e, ep]
    exact d j hj⟩
theorem RI_sar9 {S : ST} (h : RI S) (y : Nat) {A : Nat → Option Nat} (hA : ∀ j : Nat, (j : Int) < iv S 8 3 y → ∃ p, A j = some p ∧ p < 10) : RI (sar S 9 y A) := ⟨fun p hp => h.1 p hp, fun x hx => by
    obtain ⟨a0, b, d⟩ := h.2.1 x hx
    refine ⟨a0, b, fun j hj => ?_⟩
    have e : ar (sar S 9 y A) 12 x j = ar S 12 x j := by simp [ar, sar]
    have ep : pa (sar S 9 y A) 12 x j = pa S 12 x j := by unfold pa; rw [e]
    rw [e, ep]
    exact d j hj, fun x hx => by
    obtain ⟨a0, b, d⟩ := h.2.2 x hx
    refine ⟨a0, b, fun j hj => ?_⟩
    by_cases hxy : x = y
    · subst hxy
      have e : ar (sar S 9 x A) 9 x j = A j := by simp [ar, sar]
      obtain ⟨p, hp1, hp2⟩ := hA j hj
      refine ⟨?_, ?_⟩
      · rw [e, hp1]; unfold pa; rw [e, hp1]; rfl
      · unfold pa; rw [e, hp1]; exact hp2
    · have e : ar (sar S 9 y A) 9 x j = ar S 9 x j := by simp [ar, sar, hxy]
      have ep : pa (sar S 9 y A) 9 x j = pa S 9 x j := by unfold pa; rw [e]
      rw [e, ep]
      exact d j hj⟩
theorem sr_eq (S : ST) (t y j : Nat) (v : Option Nat) : sr S t y j v = sar S t y (upF (ar S t y) j v) := by
  conv => lhs; rw [← sar_self S t y]
  exact sr_sar S t y j (ar S t y) v
/-- the class's invariants -/
def CI (S : ST) : Prop := RI S ∧ IW S ∧ IQ S
-- the steps of planning, as they change the cells
def restartF (S : ST) (t y : Nat) (kd nd : Int) (B : Nat) : ST := si (sj (si (si (si S t 1 y kd) t 2 y nd) t 3 y 0) t 4 y B) t 7 y (-1)
def settleSomeF (S : ST) (t y : Nat) (cn : Int) : ST := if iv S t 1 y = 2 then setKS S t y (someK (iv S t 2 y) cn) (if someK (iv S t 2 y) cn = 3 ∨ someK (iv S t 2 y) cn = 4 then 0 else iv S t 3 y) else S
def settleEmptyF (S : ST) (t y : Nat) : ST := if iv S t 3 y = 0 ∧ iv S t 1 y = 0 then setKS S t y 3 0 else if iv S t 3 y = 0 ∧ iv S t 1 y = 1 then setKS S t y 4 0 else S
def appraiseC (S : ST) (y : Nat) : ST := si S 11 6 y (aprF (iv S 11 1 y) (iv S 11 2 y) (pop (jv S 11 4 y) : Int) (leastF (fun j => iv S 14 1 (pa S 12 y j)) (pop (jv S 11 4 y) : Int) (iv S 11 3 y).toNat) (sumF (fun j => iv S 14 1 (pa S 12 y j)) (iv S 11 3 y).toNat))
def appraiseP (S : ST) (y : Nat) : ST := si S 8 6 y (aprF (iv S 8 1 y) (iv S 8 2 y) (pop (jv S 8 4 y) : Int) (leastF (fun j => iv S 11 6 (pa S 9 y j)) (pop (jv S 8 4 y) : Int) (iv S 8 3 y).toNat) (sumF (fun j => iv S 11 6 (pa S 9 y j)) (iv S 8 3 y).toNat))
def orderC (S : ST) (y : Nat) : ST := if iv S 11 1 y = 0 then sar S 12 y (ordF S 12 y (iv S 11 3 y) (srt (ltC S) (pa S 12 y) (iv S 11 3 y).toNat)) else S
def orderP (S : ST) (y : Nat) : ST := if iv S 8 1 y = 0 then sar S 9 y (ordF S 9 y (iv S 8 3 y) (srt (ltP S) (pa S 9 y) (iv S 8 3 y).toNat)) else S
def keepF (S : ST) (t a y p : Nat) : ST := if iv S t 3 y < 6 then si (sr S a y (iv S t 3 y).toNat (some p)) t 3 y (iv S t 3 y + 1) else S
def LmakeF (S : ST) (p : Nat) (cd : Int) (Tb B : Nat) : ST := si (si (si (sj (sj S 14 4 p B) 14 5 p Tb) 14 0 p cd) 14 1 p ((pop Tb : Nat) : Int)) 14 2 p (-1)
def turnF (S : ST) (y : Nat) (cn : Int) : ST := if iv S 11 1 y = 2 then si S 11 2 y (cn - iv S 11 2 y + 1) else si S 11 1 y (if iv S 11 1 y = 0 then 1 else 0)
def codeN (S : ST) (k i : Nat) : Nat := if iv S 5 3 k = 1 then ctr (ai S 6 k i).toNat else (ai S 6 k i).toNat
def hasR (S : ST) (y rk : Nat) : Bool := anyb (fun j => decide (iv S 14 0 (pa S 12 y j) = rk)) (iv S 11 3 y).toNat
def klF (y k B i : Nat) (S : ST) : ST := match i with
  | 0 => S
  | i + 1 => if iv (klF y k B i S) 11 1 y = 2 ∨ hasR (klF y k B i S) y (codeN (klF y k B i S) k i) = false then keepF (LmakeF (klF y k B i S) (6 * y + i) (codeN (klF y k B i S) k i : Nat) (bset (tru (klF y k B i S) (codeN (klF y k B i S) k i)) 40) B) 11 12 y (6 * y + i) else klF y k B i S
def keepLitsF (S : ST) (y k B : Nat) : ST := if iv S 11 1 y = 3 ∨ iv S 11 1 y = 4 then S else klF y k B (iv S 5 4 k).toNat S
def conb (S : ST) (y n : Nat) : Bool := anyb (fun i => hasR S y (ctr (iv S 14 0 (pa S 12 y i)).toNat)) n
def settleConF (S : ST) (y : Nat) : ST := if iv S 11 1 y = 0 ∨ iv S 11 1 y = 1 then (if conb S y (iv S 11 3 y).toNat = true then setKS S 11 y (if iv S 11 1 y = 0 then 4 else 3) 0 else S) else S
def cmkF (y k B : Nat) (S : ST) : ST :=
  let S1 := restartF S 11 y (iv S 5 1 k) (iv S 5 2 k) B
  let S2 := if iv S 5 3 k = 1 then turnF S1 y (iv S 5 4 k) else S1
  let S3 := settleSomeF S2 11 y (iv S 5 4 k)
  let S4 := keepLitsF S3 y k B
  let S5 := settleConF S4 y
  let S6 := settleEmptyF S5 11 y
  orderC (appraiseC S6 y) y
def takeF (S : ST) (y c : Nat) : ST := if ¬ (iv S 11 1 c = 3 ∨ iv S 11 1 c = 4) then keepF S 8 9 y c else if iv S 11 1 c = 3 ∧ iv S 8 1 y = 2 then si S 8 2 y (iv S 8 2 y - 1) else if iv S 11 1 c = 3 ∧ iv S 8 1 y = 1 then setKS S 8 y 3 0 else if iv S 11 1 c = 4 ∧ iv S 8 1 y = 0 then setKS S 8 y 4 0 else S
def plF (y B i : Nat) (S : ST) : ST := match i with
  | 0 => S
  | i + 1 => if (iv (plF y B i S) 8 1 y = 3 ∨ iv (plF y B i S) 8 1 y = 4) ∨ ¬ (i : Int) < iv (plF y B i S) 3 3 0 then plF y B i S else takeF (cmkF (5 * y + i) i B (plF y B i S)) y (5 * y + i)
def pmkF (y : Nat) (S : ST) : ST :=
  let B := bset (thr S) 40
  let S1 := restartF S 8 y (iv S 3 1 0) (iv S 3 2 0) B
  let S2 := plF y B 5 S1
  let S3 := settleSomeF S2 8 y (iv S2 8 3 y)
  let S4 := settleEmptyF S3 8 y
  orderP (appraiseP S4 y) y
