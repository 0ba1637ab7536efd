/-! the model: its cells' ranges -/
def loA (k : Nat) : Int := if k = 11 ∨ k = 26 then -20 else if k = 29 ∨ k = 30 then -1 else 0
def hiA (k : Nat) : Int := match k with
  | 0 => 1
  | 1 => 255
  | 5 => 2
  | 6 => 6
  | 7 => 1
  | 8 => 6
  | 9 => 15
  | 10 => 4
  | 11 => 20
  | 12 => 6
  | 13 => 15
  | 14 => 40
  | 18 => 4
  | 20 => 1
  | 21 => 255
  | 25 => 4
  | 26 => 20
  | 27 => 6
  | 28 => 15
  | 29 => 40
  | 30 => 40
  | _ => 0
def loI (k : Nat) : Int := if k = 16 ∨ k = 23 then -20 else if k = 31 then -1 else 0
def hiI (k : Nat) : Int := match k with
  | 2 => 2
  | 3 => 5
  | 4 => 5
  | 15 => 4
  | 16 => 20
  | 17 => 5
  | 19 => 1
  | 22 => 4
  | 23 => 20
  | 24 => 5
  | 31 => 39
  | 32 => 1
  | _ => 0
def mInt (k : Nat) : Bool := k == 2 || k == 3 || k == 4 || k == 15 || k == 16 || k == 17 || k == 19 || k == 22 || k == 23 || k == 24 || k == 31 || k == 32
def MI (S : ST) : Prop := (∀ k j, loA k ≤ ai S 21 k j ∧ ai S 21 k j ≤ hiA k) ∧ ∀ k, mInt k = true → loI k ≤ iv S 20 k 0 ∧ iv S 20 k 0 ≤ hiI k
theorem MI.put {S : ST} (h : MI S) {k j : Nat} {v : Int} (hv : loA k ≤ v ∧ v ≤ hiA k) : MI (sa S 21 k j v) := ⟨fun k' j' => by
  show loA k' ≤ (if 21 = 21 ∧ k' = k ∧ j' = j then v else ai S 21 k' j') ∧ (if 21 = 21 ∧ k' = k ∧ j' = j then v else ai S 21 k' j') ≤ hiA k'
  split
  · rename_i q; rw [q.2.1]; exact hv
  · exact h.1 k' j', h.2⟩
theorem MI.puti {S : ST} (h : MI S) {k : Nat} {v : Int} (hv : mInt k = true → loI k ≤ v ∧ v ≤ hiI k) : MI (si S 20 k 0 v) := ⟨h.1, fun k' hk => by
  show loI k' ≤ (if 20 = 20 ∧ k' = k ∧ 0 = 0 then v else iv S 20 k' 0) ∧ (if 20 = 20 ∧ k' = k ∧ 0 = 0 then v else iv S 20 k' 0) ≤ hiI k'
  split
  · rename_i q; rw [q.2.1]; exact hv (q.2.1 ▸ hk)
  · exact h.2 k' hk⟩
/-- other cells than the model's -/
theorem MI.oth {S S' : ST} (h : MI S) (h1 : ∀ k j, ai S' 21 k j = ai S 21 k j) (h2 : ∀ k, iv S' 20 k 0 = iv S 20 k 0) : MI S' := ⟨fun k j => by rw [h1]; exact h.1 k j, fun k hk => by rw [h2]; exact h.2 k hk⟩
theorem MI.a0 {S : ST} (h : MI S) (j : Nat) : (0 : Int) ≤ ai S 21 0 j ∧ ai S 21 0 j ≤ 1 := h.1 0 j
theorem MI.pa0 {S : ST} (h : MI S) {j : Nat} {v : Int} (hv : (0 : Int) ≤ v ∧ v ≤ 1) : MI (sa S 21 0 j v) := h.put hv
theorem mid_21_0 : ((21, 0) : Idn) ∈ ids := by decide +kernel
theorem MI.a1 {S : ST} (h : MI S) (j : Nat) : (0 : Int) ≤ ai S 21 1 j ∧ ai S 21 1 j ≤ 255 := h.1 1 j
theorem MI.pa1 {S : ST} (h : MI S) {j : Nat} {v : Int} (hv : (0 : Int) ≤ v ∧ v ≤ 255) : MI (sa S 21 1 j v) := h.put hv
theorem mid_21_1 : ((21, 1) : Idn) ∈ ids := by decide +kernel
theorem MI.a5 {S : ST} (h : MI S) (j : Nat) : (0 : Int) ≤ ai S 21 5 j ∧ ai S 21 5 j ≤ 2 := h.1 5 j
theorem MI.pa5 {S : ST} (h : MI S) {j : Nat} {v : Int} (hv : (0 : Int) ≤ v ∧ v ≤ 2) : MI (sa S 21 5 j v) := h.put hv
theorem mid_21_5 : ((21, 5) : Idn) ∈ ids := by decide +kernel
theorem MI.a6 {S : ST} (h : MI S) (j : Nat) : (0 : Int) ≤ ai S 21 6 j ∧ ai S 21 6 j ≤ 6 := h.1 6 j
theorem MI.pa6 {S : ST} (h : MI S) {j : Nat} {v : Int} (hv : (0 : Int) ≤ v ∧ v ≤ 6) : MI (sa S 21 6 j v) := h.put hv
theorem mid_21_6 : ((21, 6) : Idn) ∈ ids := by decide +kernel
theorem MI.a7 {S : ST} (h : MI S) (j : Nat) : (0 : Int) ≤ ai S 21 7 j ∧ ai S 21 7 j ≤ 1 := h.1 7 j
theorem MI.pa7 {S : ST} (h : MI S) {j : Nat} {v : Int} (hv : (0 : Int) ≤ v ∧ v ≤ 1) : MI (sa S 21 7 j v) := h.put hv
theorem mid_21_7 : ((21, 7) : Idn) ∈ ids := by decide +kernel
theorem MI.a8 {S : ST} (h : MI S) (j : Nat) : (0 : Int) ≤ ai S 21 8 j ∧ ai S 21 8 j ≤ 6 := h.1 8 j
theorem MI.pa8 {S : ST} (h : MI S) {j : Nat} {v : Int} (hv : (0 : Int) ≤ v ∧ v ≤ 6) : MI (sa S 21 8 j v) := h.put hv
theorem mid_21_8 : ((21, 8) : Idn) ∈ ids := by decide +kernel
theorem MI.a9 {S : ST} (h : MI S) (j : Nat) : (0 : Int) ≤ ai S 21 9 j ∧ ai S 21 9 j ≤ 15 := h.1 9 j
theorem MI.pa9 {S : ST} (h : MI S) {j : Nat} {v : Int} (hv : (0 : Int) ≤ v ∧ v ≤ 15) : MI (sa S 21 9 j v) := h.put hv
theorem mid_21_9 : ((21, 9) : Idn) ∈ ids := by decide +kernel
theorem MI.a10 {S : ST} (h : MI S) (j : Nat) : (0 : Int) ≤ ai S 21 10 j ∧ ai S 21 10 j ≤ 4 := h.1 10 j
theorem MI.pa10 {S : ST} (h : MI S) {j : Nat} {v : Int} (hv : (0 : Int) ≤ v ∧ v ≤ 4) : MI (sa S 21 10 j v) := h.put hv
theorem mid_21_10 : ((21, 10) : Idn) ∈ ids := by decide +kernel
theorem MI.a11 {S : ST} (h : MI S) (j : Nat) : (-20 : Int) ≤ ai S 21 11 j ∧ ai S 21 11 j ≤ 20 := h.1 11 j
theorem MI.pa11 {S : ST} (h : MI S) {j : Nat} {v : Int} (hv : (-20 : Int) ≤ v ∧ v ≤ 20) : MI (sa S 21 11 j v) := h.put hv
theorem mid_21_11 : ((21, 11) : Idn) ∈ ids := by decide +kernel
theorem MI.a12 {S : ST} (h : MI S) (j : Nat) : (0 : Int) ≤ ai S 21 12 j ∧ ai S 21 12 j ≤ 6 := h.1 12 j
theorem MI.pa12 {S : ST} (h : MI S) {j : Nat} {v : Int} (hv : (0 : Int) ≤ v ∧ v ≤ 6) : MI (sa S 21 12 j v) := h.put hv
theorem mid_21_12 : ((21, 12) : Idn) ∈ ids := by decide +kernel
theorem MI.a13 {S : ST} (h : MI S) (j : Nat) : (0 : Int) ≤ ai S 21 13 j ∧ ai S 21 13 j ≤ 15 := h.1 13 j
theorem MI.pa13 {S : ST} (h : MI S) {j : Nat} {v : Int} (hv : (0 : Int) ≤ v ∧ v ≤ 15) : MI (sa S 21 13 j v) := h.put hv
theorem mid_21_13 : ((21, 13) : Idn) ∈ ids := by decide +kernel
theorem MI.a14 {S : ST} (h : MI S) (j : Nat) : (0 : Int) ≤ ai S 21 14 j ∧ ai S 21 14 j ≤ 40 := h.1 14 j
theorem MI.pa14 {S : ST} (h : MI S) {j : Nat} {v : Int} (hv : (0 : Int) ≤ v ∧ v ≤ 40) : MI (sa S 21 14 j v) := h.put hv
theorem mid_21_14 : ((21, 14) : Idn) ∈ ids := by decide +kernel
theorem MI.a18 {S : ST} (h : MI S) (j : Nat) : (0 : Int) ≤ ai S 21 18 j ∧ ai S 21 18 j ≤ 4 := h.1 18 j
theorem MI.pa18 {S : ST} (h : MI S) {j : Nat} {v : Int} (hv : (0 : Int) ≤ v ∧ v ≤ 4) : MI (sa S 21 18 j v) := h.put hv
theorem mid_21_18 : ((21, 18) : Idn) ∈ ids := by decide +kernel
theorem MI.a20 {S : ST} (h : MI S) (j : Nat) : (0 : Int) ≤ ai S 21 20 j ∧ ai S 21 20 j ≤ 1 := h.1 20 j
theorem MI.pa20 {S : ST} (h : MI S) {j : Nat} {v : Int} (hv : (0 : Int) ≤ v ∧ v ≤ 1) : MI (sa S 21 20 j v) := h.put hv
theorem mid_21_20 : ((21, 20) : Idn) ∈ ids := by decide +kernel
theorem MI.a21 {S : ST} (h : MI S) (j : Nat) : (0 : Int) ≤ ai S 21 21 j ∧ ai S 21 21 j ≤ 255 := h.1 21 j
theorem MI.pa21 {S : ST} (h : MI S) {j : Nat} {v : Int} (hv : (0 : Int) ≤ v ∧ v ≤ 255) : MI (sa S 21 21 j v) := h.put hv
theorem mid_21_21 : ((21, 21) : Idn) ∈ ids := by decide +kernel
theorem MI.a25 {S : ST} (h : MI S) (j : Nat) : (0 : Int) ≤ ai S 21 25 j ∧ ai S 21 25 j ≤ 4 := h.1 25 j
theorem MI.pa25 {S : ST} (h : MI S) {j : Nat} {v : Int} (hv : (0 : Int) ≤ v ∧ v ≤ 4) : MI (sa S 21 25 j v) := h.put hv
theorem mid_21_25 : ((21, 25) : Idn) ∈ ids := by decide +kernel
theorem MI.a26 {S : ST} (h : MI S) (j : Nat) : (-20 : Int) ≤ ai S 21 26 j ∧ ai S 21 26 j ≤ 20 := h.1 26 j
theorem MI.pa26 {S : ST} (h : MI S) {j : Nat} {v : Int} (hv : (-20 : Int) ≤ v ∧ v ≤ 20) : MI (sa S 21 26 j v) := h.put hv
theorem mid_21_26 : ((21, 26) : Idn) ∈ ids := by decide +kernel
theorem MI.a27 {S : ST} (h : MI S) (j : Nat) : (0 : Int) ≤ ai S 21 27 j ∧ ai S 21 27 j ≤ 6 := h.1 27 j
theorem MI.pa27 {S : ST} (h : MI S) {j : Nat} {v : Int} (hv : (0 : Int) ≤ v ∧ v ≤ 6) : MI (sa S 21 27 j v) := h.put hv
theorem mid_21_27 : ((21, 27) : Idn) ∈ ids := by decide +kernel
theorem MI.a28 {S : ST} (h : MI S) (j : Nat) : (0 : Int) ≤ ai S 21 28 j ∧ ai S 21 28 j ≤ 15 := h.1 28 j
theorem MI.pa28 {S : ST} (h : MI S) {j : Nat} {v : Int} (hv : (0 : Int) ≤ v ∧ v ≤ 15) : MI (sa S 21 28 j v) := h.put hv
theorem mid_21_28 : ((21, 28) : Idn) ∈ ids := by decide +kernel
theorem MI.a29 {S : ST} (h : MI S) (j : Nat) : (-1 : Int) ≤ ai S 21 29 j ∧ ai S 21 29 j ≤ 40 := h.1 29 j
theorem MI.pa29 {S : ST} (h : MI S) {j : Nat} {v : Int} (hv : (-1 : Int) ≤ v ∧ v ≤ 40) : MI (sa S 21 29 j v) := h.put hv
theorem mid_21_29 : ((21, 29) : Idn) ∈ ids := by decide +kernel
theorem MI.a30 {S : ST} (h : MI S) (j : Nat) : (-1 : Int) ≤ ai S 21 30 j ∧ ai S 21 30 j ≤ 40 := h.1 30 j
theorem MI.pa30 {S : ST} (h : MI S) {j : Nat} {v : Int} (hv : (-1 : Int) ≤ v ∧ v ≤ 40) : MI (sa S 21 30 j v) := h.put hv
theorem mid_21_30 : ((21, 30) : Idn) ∈ ids := by decide +kernel
theorem MI.i2 {S : ST} (h : MI S) : (0 : Int) ≤ iv S 20 2 0 ∧ iv S 20 2 0 ≤ 2 := h.2 2 rfl
theorem MI.pi2 {S : ST} (h : MI S) {v : Int} (hv : (0 : Int) ≤ v ∧ v ≤ 2) : MI (si S 20 2 0 v) := h.puti (fun _ => hv)
theorem MI.i3 {S : ST} (h : MI S) : (0 : Int) ≤ iv S 20 3 0 ∧ iv S 20 3 0 ≤ 5 := h.2 3 rfl
theorem MI.pi3 {S : ST} (h : MI S) {v : Int} (hv : (0 : Int) ≤ v ∧ v ≤ 5) : MI (si S 20 3 0 v) := h.puti (fun _ => hv)
theorem MI.i4 {S : ST} (h : MI S) : (0 : Int) ≤ iv S 20 4 0 ∧ iv S 20 4 0 ≤ 5 := h.2 4 rfl
theorem MI.pi4 {S : ST} (h : MI S) {v : Int} (hv : (0 : Int) ≤ v ∧ v ≤ 5) : MI (si S 20 4 0 v) := h.puti (fun _ => hv)
theorem MI.i15 {S : ST} (h : MI S) : (0 : Int) ≤ iv S 20 15 0 ∧ iv S 20 15 0 ≤ 4 := h.2 15 rfl
theorem MI.pi15 {S : ST} (h : MI S) {v : Int} (hv : (0 : Int) ≤ v ∧ v ≤ 4) : MI (si S 20 15 0 v) := h.puti (fun _ => hv)
theorem MI.i16 {S : ST} (h : MI S) : (-20 : Int) ≤ iv S 20 16 0 ∧ iv S 20 16 0 ≤ 20 := h.2 16 rfl
theorem MI.pi16 {S : ST} (h : MI S) {v : Int} (hv : (-20 : Int) ≤ v ∧ v ≤ 20) : MI (si S 20 16 0 v) := h.puti (fun _ => hv)
theorem MI.i17 {S : ST} (h : MI S) : (0 : Int) ≤ iv S 20 17 0 ∧ iv S 20 17 0 ≤ 5 := h.2 17 rfl
theorem MI.pi17 {S : ST} (h : MI S) {v : Int} (hv : (0 : Int) ≤ v ∧ v ≤ 5) : MI (si S 20 17 0 v) := h.puti (fun _ => hv)
theorem MI.i19 {S : ST} (h : MI S) : (0 : Int) ≤ iv S 20 19 0 ∧ iv S 20 19 0 ≤ 1 := h.2 19 rfl
theorem MI.pi19 {S : ST} (h : MI S) {v : Int} (hv : (0 : Int) ≤ v ∧ v ≤ 1) : MI (si S 20 19 0 v) := h.puti (fun _ => hv)
theorem MI.i22 {S : ST} (h : MI S) : (0 : Int) ≤ iv S 20 22 0 ∧ iv S 20 22 0 ≤ 4 := h.2 22 rfl
theorem MI.pi22 {S : ST} (h : MI S) {v : Int} (hv : (0 : Int) ≤ v ∧ v ≤ 4) : MI (si S 20 22 0 v) := h.puti (fun _ => hv)
theorem MI.i23 {S : ST} (h : MI S) : (-20 : Int) ≤ iv S 20 23 0 ∧ iv S 20 23 0 ≤ 20 := h.2 23 rfl
theorem MI.pi23 {S : ST} (h : MI S) {v : Int} (hv : (-20 : Int) ≤ v ∧ v ≤ 20) : MI (si S 20 23 0 v) := h.puti (fun _ => hv)
theorem MI.i24 {S : ST} (h : MI S) : (0 : Int) ≤ iv S 20 24 0 ∧ iv S 20 24 0 ≤ 5 := h.2 24 rfl
theorem MI.pi24 {S : ST} (h : MI S) {v : Int} (hv : (0 : Int) ≤ v ∧ v ≤ 5) : MI (si S 20 24 0 v) := h.puti (fun _ => hv)
theorem MI.i31 {S : ST} (h : MI S) : (-1 : Int) ≤ iv S 20 31 0 ∧ iv S 20 31 0 ≤ 39 := h.2 31 rfl
theorem MI.pi31 {S : ST} (h : MI S) {v : Int} (hv : (-1 : Int) ≤ v ∧ v ≤ 39) : MI (si S 20 31 0 v) := h.puti (fun _ => hv)
theorem MI.i32 {S : ST} (h : MI S) : (0 : Int) ≤ iv S 20 32 0 ∧ iv S 20 32 0 ≤ 1 := h.2 32 rfl
theorem MI.pi32 {S : ST} (h : MI S) {v : Int} (hv : (0 : Int) ≤ v ∧ v ≤ 1) : MI (si S 20 32 0 v) := h.puti (fun _ => hv)
theorem MI.pi33 {S : ST} (h : MI S) {v : Int} : MI (si S 20 33 0 v) := h.puti (fun q => by cases q)
theorem MI.pi34 {S : ST} (h : MI S) {v : Int} : MI (si S 20 34 0 v) := h.puti (fun q => by cases q)
section MR
variable {X : XT} {cells slots pc : Nat} {lv : List (Nat × AV)} {st : List AV} {S : ST}
theorem mr {a b : Int} {q j : Nat} (h : ∀ j, a ≤ ai S 21 q j ∧ ai S 21 q j ≤ b) (k : (a ≤ ai S 21 q j ∧ ai S 21 q j ≤ b) → At X cells slots pc lv (vi (ai S 21 q j) :: st) S) : At X cells slots pc lv (vi (ai S 21 q j) :: st) S := k (h j)
theorem mw (h : MI S) (k : MI S → At X cells slots pc lv st S) : At X cells slots pc lv st S := k h
end MR
/-- an array of the model, all at once -/
def sA (S : ST) (q : Nat) (F : Nat → Int) : ST := (S.1, S.2.1, fun t y j => if t = 21 ∧ y = q then F j else S.2.2.1 t y j, S.2.2.2)
theorem sA_self (S : ST) (q : Nat) : sA S q (ai S 21 q) = S := by
  obtain ⟨a, b, c, f⟩ := S
  simp only [sA, ai]
  congr 3
  funext u v w
  split
  · rename_i h; obtain ⟨rfl, rfl⟩ := h; rfl
  · rfl
theorem sa_sA (S : ST) (q j : Nat) (F : Nat → Int) (v : Int) : sa (sA S q F) 21 q j v = sA S q (upF F j v) := by
  simp only [sa, sA]
  congr 3
  funext a b c
  simp only [up3, upF]
  by_cases h1 : a = 21 <;> by_cases h2 : b = q <;> by_cases h3 : c = j <;> simp [h1, h2, h3]
theorem ai_sA (S : ST) (q : Nat) (F : Nat → Int) : ai (sA S q F) 21 q = F := by
  funext j
  simp [ai, sA]
theorem ai_sA_ne (S : ST) {q q' : Nat} (h : ¬ q' = q) (F : Nat → Int) : ai (sA S q F) 21 q' = ai S 21 q' := by
  funext j
  simp [ai, sA, h]
theorem MI.sA {S : ST} (h : MI S) {q : Nat} {F : Nat → Int} (hF : ∀ j, loA q ≤ F j ∧ F j ≤ hiA q) : MI (sA S q F) := ⟨fun k j => by
  show loA k ≤ (if 21 = 21 ∧ k = q then F j else ai S 21 k j) ∧ (if 21 = 21 ∧ k = q then F j else ai S 21 k j) ≤ hiA k
  split
  · rename_i z; rw [z.2]; exact hF j
  · exact h.1 k j, h.2⟩
/-- what a change of some of the model's cells leaves -/
def MF (K L : Nat → Prop) (S S' : ST) : Prop := S'.2.1 = S.2.1 ∧ S'.2.2.2 = S.2.2.2 ∧ (∀ t k y, ¬ (t = 20 ∧ L k) → iv S' t k y = iv S t k y) ∧ (∀ t y j, ¬ (t = 21 ∧ K y) → ai S' t y j = ai S t y j)
theorem MF.rf (K L : Nat → Prop) (S : ST) : MF K L S S := ⟨rfl, rfl, fun _ _ _ _ => rfl, fun _ _ _ _ => rfl⟩
theorem MF.tr {K L : Nat → Prop} {A B C : ST} (h : MF K L A B) (g : MF K L B C) : MF K L A C := ⟨g.1.trans h.1, g.2.1.trans h.2.1, fun t k y a => (g.2.2.1 t k y a).trans (h.2.2.1 t k y a), fun t y j a => (g.2.2.2 t y j a).trans (h.2.2.2 t y j a)⟩
theorem MF.mono {K L K' L' : Nat → Prop} {A B : ST} (h : MF K L A B) (hk : ∀ k, K k → K' k) (hl : ∀ k, L k → L' k) : MF K' L' A B := ⟨h.1, h.2.1, fun t k y a => h.2.2.1 t k y (fun q => a ⟨q.1, hl k q.2⟩), fun t y j a => h.2.2.2 t y j (fun q => a ⟨q.1, hk y q.2⟩)⟩
theorem MF.sa {K L : Nat → Prop} (S : ST) (q j : Nat) (v : Int) (h : K q) : MF K L S (sa S 21 q j v) := ⟨rfl, rfl, fun _ _ _ _ => rfl, fun t y j' a => by
  show (if t = 21 ∧ y = q ∧ j' = j then v else ai S t y j') = ai S t y j'
  rw [if_neg]
  rintro ⟨rfl, rfl, -⟩
  exact a ⟨rfl, h⟩⟩
theorem MF.sA {K L : Nat → Prop} (S : ST) (q : Nat) (F : Nat → Int) (h : K q) : MF K L S (sA S q F) := ⟨rfl, rfl, fun _ _ _ _ => rfl, fun t y j' a => by
  show (if t = 21 ∧ y = q then F j' else ai S t y j') = ai S t y j'
  rw [if_neg]
  rintro ⟨rfl, rfl⟩
  exact a ⟨rfl, h⟩⟩
theorem MF.si {K L : Nat → Prop} (S : ST) (q : Nat) (v : Int) (h : L q) : MF K L S (si S 20 q 0 v) := ⟨rfl, rfl, fun t k y a => by
  show (if t = 20 ∧ k = q ∧ y = 0 then v else iv S t k y) = iv S t k y
  rw [if_neg]
  rintro ⟨rfl, rfl, -⟩
  exact a ⟨rfl, h⟩, fun _ _ _ _ => rfl⟩
theorem MF.a {K L : Nat → Prop} {S S' : ST} (h : MF K L S S') {q : Nat} (hq : ¬ K q) (j : Nat) : ai S' 21 q j = ai S 21 q j := h.2.2.2 21 q j (fun z => hq z.2)
theorem MF.i {K L : Nat → Prop} {S S' : ST} (h : MF K L S S') {q : Nat} (hq : ¬ L q) : iv S' 20 q 0 = iv S 20 q 0 := h.2.2.1 20 q 0 (fun z => hq z.2)
-- the model's pure steps
def mthr (S : ST) (d : Nat) : Bool := decide (ai S 21 0 d = 1)
def mtru (S : ST) (c d : Nat) : Bool := mthr S d && litT c (ai S 21 1 d).toNat
def mcount (S : ST) (c : Nat) : Nat := cnt (mtru S c) 0 40
def mmany (S : ST) : Nat := cnt (mthr S) 0 40
def mct (S : ST) (k w : Nat) : Bool := (enough (cnt (fun j => litT (ai S 21 9 (6 * k + j)).toNat w) 0 (ai S 21 8 k).toNat) (ai S 21 8 k) (ai S 21 5 k) (ai S 21 6 k)) != decide (ai S 21 7 k = 1)
def mhit (S : ST) (d : Nat) : Bool := mthr S d && enough (cnt (fun k => mct S k (ai S 21 1 d).toNat) 0 (iv S 20 4 0).toNat) (iv S 20 4 0) (iv S 20 2 0) (iv S 20 3 0)
def plN (S : ST) (k : Nat) : Int := if ai S 21 7 k = 1 then ai S 21 8 k - ai S 21 6 k + 1 else ai S 21 6 k
def plK (S : ST) (k : Nat) : Int := if ai S 21 7 k = 1 then (if ai S 21 5 k = 0 then 1 else if ai S 21 5 k = 1 then 0 else 2) else ai S 21 5 k
def plK2 (S : ST) (k : Nat) : Int := if plK S k = 2 then someK (plN S k) (ai S 21 8 k) else plK S k
def plc (S : ST) (k i : Nat) : Int := if ai S 21 7 k = 1 then ((ctr (ai S 21 9 (6 * k + i)).toNat : Nat) : Int) else ai S 21 9 (6 * k + i)
def plitF (S : ST) (k i : Nat) : ST := match i with
  | 0 => S
  | i + 1 => sa (plitF S k i) 21 13 (6 * k + i) (plc S k i)
def plainF (S : ST) (k : Nat) : ST := sa (sa (plitF (sa S 21 12 k (ai S 21 8 k)) k (ai S 21 8 k).toNat) 21 10 k (plK2 S k)) 21 11 k (if plK2 S k = 2 then plN S k else 0)
def hasA (S : ST) (k n : Nat) (c : Int) : Bool := anyb (fun j => decide (ai S 21 13 (6 * k + j) = c)) n
def thF (S : ST) (k i : Nat) : Nat × Bool × ST := match i with
  | 0 => (0, false, S)
  | i + 1 => if hasA (thF S k i).2.2 k (thF S k i).1 (ai (thF S k i).2.2 21 13 (6 * k + i)) = true then thF S k i else ((thF S k i).1 + 1, (thF S k i).2.1 || hasA (thF S k i).2.2 k (thF S k i).1 ((ctr (ai (thF S k i).2.2 21 13 (6 * k + i)).toNat : Nat) : Int), sa (thF S k i).2.2 21 13 (6 * k + (thF S k i).1) (ai (thF S k i).2.2 21 13 (6 * k + i)))
def thin2 (S : ST) (k n : Nat) (b : Bool) : ST := if b = true ∨ n = 0 then sa (sa S 21 12 k (n : Int)) 21 10 k (if b2i b = b2i (decide (ai S 21 10 k = 0)) then 4 else 3) else sa S 21 12 k (n : Int)
def thinF (S : ST) (k : Nat) : ST := thin2 (thF S k (ai S 21 12 k).toNat).2.2 k (thF S k (ai S 21 12 k).toNat).1 (thF S k (ai S 21 12 k).toNat).2.1
def ltM (S : ST) (x y : Int) : Bool := decide (mcount S x.toNat < mcount S y.toNat ∨ (mcount S x.toNat = mcount S y.toNat ∧ x < y))
def ltO (S : ST) (x y : Int) : Bool := decide (ai S 21 14 x.toNat < ai S 21 14 y.toNat)
/-- a stretch of an array, sorted up to i -/
def srtA (lt : Int → Int → Bool) (A : Nat → Int) (b i : Nat) : Nat → Int := fun j => if b ≤ j ∧ j < b + 6 then srt lt (fun j => A (b + j)) i (j - b) else A j
/-- .. the k-th on its way down -/
def shA (A : Nat → Int) (b k a : Nat) : Nat → Int := fun j => if b + a < j ∧ j ≤ b + k then A (j - 1) else A j
theorem shA_k (A : Nat → Int) (b k : Nat) : shA A b k k = A := by
  funext j
  unfold shA
  rw [if_neg (by omega)]
theorem shA_at {A : Nat → Int} {b k a : Nat} (h : 0 < a) : shA A b k a (b + a - 1) = A (b + a - 1) := by
  unfold shA
  rw [if_neg (by omega)]
theorem shA_dn {A : Nat → Int} {b k a : Nat} (h : 0 < a) (hk : a ≤ k) : upF (shA A b k a) (b + a) (A (b + a - 1)) = shA A b k (a - 1) := by
  funext j
  unfold upF shA
  by_cases q : j = b + a
  · subst q; rw [if_pos rfl, if_pos (by omega)]
  · rw [if_neg q]
    by_cases z : b + a < j ∧ j ≤ b + k
    · rw [if_pos z, if_pos (by omega)]
    · rw [if_neg z, if_neg (by omega)]
theorem srtA_in {lt : Int → Int → Bool} {A : Nat → Int} {b i j : Nat} (h : j < 6) : srtA lt A b i (b + j) = srt lt (fun j => A (b + j)) i j := by
  unfold srtA
  rw [if_pos (by omega), Nat.add_sub_cancel_left]
theorem srtA_0 (lt : Int → Int → Bool) (A : Nat → Int) (b i : Nat) (h : i ≤ 1) : srtA lt A b i = A := by
  funext j
  unfold srtA
  split
  · rcases (by omega : i = 0 ∨ i = 1) with rfl | rfl
    · show A (b + (j - b)) = A j; congr 1; omega
    · show insAt _ 0 (posn lt _ _ 0) _ (j - b) = A j
      show insAt (fun j => A (b + j)) 0 0 (A (b + 0)) (j - b) = A j
      unfold insAt
      by_cases q : j = b
      · subst q; simp
      · rw [if_neg (by omega), if_neg (by omega), if_neg (by omega)]; show A (b + (j - b)) = A j; congr 1; omega
  · rfl
theorem srtA_ins {lt : Int → Int → Bool} {A : Nat → Int} {b i a : Nat} (hi : i < 6) (ha : a ≤ i) (hp : posn lt (srt lt (fun j => A (b + j)) i) (A (b + i)) i = a) : upF (shA (srtA lt A b i) b i a) (b + a) (A (b + i)) = srtA lt A b (i + 1) := by
  funext j
  unfold upF
  by_cases q : j = b + a
  · subst q
    rw [if_pos rfl, srtA_in (by omega)]
    show A (b + i) = insAt _ i (posn _ _ _ i) (A (b + i)) a
    rw [hp]
    unfold insAt
    rw [if_neg (by omega), if_pos rfl]
  · rw [if_neg q]
    by_cases z : b ≤ j ∧ j < b + 6
    · have eR : srtA lt A b (i + 1) j = insAt (srt lt (fun j => A (b + j)) i) i (posn lt (srt lt (fun j => A (b + j)) i) (A (b + i)) i) (A (b + i)) (j - b) := if_pos z
      have eL : ∀ j', b ≤ j' ∧ j' < b + 6 → srtA lt A b i j' = srt lt (fun j => A (b + j)) i (j' - b) := fun j' z => if_pos z
      rw [eR, hp]
      unfold shA insAt
      by_cases y1 : j - b < a
      · rw [if_pos y1, if_neg (show ¬ (b + a < j ∧ j ≤ b + i) by omega), eL j z]
      · rw [if_neg y1, if_neg (show ¬ j - b = a by omega)]
        by_cases y2 : j - b ≤ i
        · rw [if_pos y2, if_pos (show b + a < j ∧ j ≤ b + i by omega), eL (j - 1) (by omega), show j - 1 - b = j - b - 1 by omega]
        · rw [if_neg y2, if_neg (show ¬ (b + a < j ∧ j ≤ b + i) by omega), eL j z]
    · have eR : srtA lt A b (i + 1) j = A j := if_neg z
      have eL : srtA lt A b i j = A j := if_neg z
      rw [eR]
      unfold shA
      rw [if_neg (by omega), eL]
theorem srt_R {lt : Int → Int → Bool} {A : Nat → Int} {lo hi : Int} (h : ∀ j, lo ≤ A j ∧ A j ≤ hi) : ∀ i j, lo ≤ srt lt A i j ∧ srt lt A i j ≤ hi
  | 0, j => h j
  | i + 1, j => by
    show lo ≤ insAt _ _ _ _ j ∧ insAt _ _ _ _ j ≤ hi
    unfold insAt
    have ih := srt_R (lt := lt) h i
    split
    · exact ih j
    · split
      · exact h i
      · split
        · exact ih (j - 1)
        · exact ih j
theorem srtA_R {lt : Int → Int → Bool} {A : Nat → Int} {lo hi : Int} (h : ∀ j, lo ≤ A j ∧ A j ≤ hi) (b i j : Nat) : lo ≤ srtA lt A b i j ∧ srtA lt A b i j ≤ hi := by
  unfold srtA
  split
  · exact srt_R (fun j => h (b + j)) i _
  · exact h j
theorem shA_R {A : Nat → Int} {lo hi : Int} (h : ∀ j, lo ≤ A j ∧ A j ≤ hi) (b k a j : Nat) : lo ≤ shA A b k a j ∧ shA A b k a j ≤ hi := by
  unfold shA
  split
  · exact h _
  · exact h j
def sortF (S : ST) (k : Nat) : ST := sA S 13 (srtA (ltM S) (ai S 21 13) (6 * k) (ai S 21 12 k).toNat)
def estM (its needed least sum many : Int) : Int := if its = 0 then least else if its = 3 then many else if its = 4 then 0 else (if (if its = 2 then sum / needed else sum) < many then (if its = 2 then sum / needed else sum) else many)
def mest (S : ST) (k : Nat) : Nat → Int := fun j => (mcount S (ai S 21 13 (6 * k + j)).toNat : Int)
def estF (S : ST) (k : Nat) : ST := sa S 21 14 k (estM (ai S 21 10 k) (ai S 21 11 k) (leastF (mest S k) 40 (ai S 21 12 k).toNat) (sumF (mest S k) (ai S 21 12 k).toNat) (mmany S))
/-- one clause of a plan -/
def mk1 (S : ST) (k : Nat) : ST := if ai (plainF S k) 21 10 k ≤ 1 then thinF (plainF S k) k else plainF S k
def mk2 (S : ST) (k : Nat) : ST := si S 20 16 0 (iv S 20 16 0 - (if iv S 20 2 0 = 2 ∧ ai S 21 10 k = 3 then 1 else 0))
def mk3 (S : ST) (k : Nat) : ST := if ai S 21 10 k ≤ 2 then si (sa S 21 18 (iv S 20 17 0).toNat (k : Int)) 20 17 0 (iv S 20 17 0 + 1) else S
def mk4 (S : ST) (k : Nat) : ST := if ai S 21 10 k = 0 then sortF S k else S
def mkS (S : ST) (k : Nat) : ST := estF (mk4 (mk3 (mk2 (mk1 S k) k) k) k) k
def mkL (S : ST) (i : Nat) : Bool × Bool × ST := match i with
  | 0 => (false, false, S)
  | i + 1 => ((mkL S i).1 || decide (ai (mk1 (mkL S i).2.2 i) 21 10 i = 4), (mkL S i).2.1 || decide (ai (mk1 (mkL S i).2.2 i) 21 10 i = 3), mkS (mkL S i).2.2 i)
def mk0 (S : ST) : ST := si (si (si S 20 15 0 (iv S 20 2 0)) 20 16 0 (iv S 20 3 0)) 20 17 0 0
def mkA (S : ST) (nv al : Bool) : ST := si S 20 15 0 (if iv S 20 2 0 = 0 ∧ nv = true then 4 else if iv S 20 2 0 = 1 ∧ al = true then 3 else if iv S 20 2 0 = 2 then someK (iv S 20 16 0) (iv S 20 17 0) else iv S 20 2 0)
def mkB (S : ST) : ST := si S 20 15 0 (if iv S 20 17 0 = 0 ∧ iv S 20 15 0 = 0 then 3 else if iv S 20 17 0 = 0 ∧ iv S 20 15 0 = 1 then 4 else iv S 20 15 0)
def mkC (S : ST) : ST := si S 20 16 0 (if iv S 20 15 0 = 2 then iv S 20 16 0 else 0)
def mkD (S : ST) : ST := si S 20 17 0 (if iv S 20 15 0 ≤ 2 then iv S 20 17 0 else 0)
def mkE (S : ST) : ST := if iv S 20 15 0 = 0 then sA S 18 (srtA (ltO S) (ai S 21 18) 0 (iv S 20 17 0).toNat) else S
def makesF (S : ST) : ST := mkE (mkD (mkC (mkB (mkA (mkL (mk0 S) (iv S 20 4 0).toNat).2.2 (mkL (mk0 S) (iv S 20 4 0).toNat).1 (mkL (mk0 S) (iv S 20 4 0).toNat).2.1))))
def oest (S : ST) : Nat → Int := fun j => ai S 21 14 (ai S 21 18 j).toNat
def planEstM (S : ST) : Int := estM (iv S 20 15 0) (iv S 20 16 0) (leastF (oest S) 40 (iv S 20 17 0).toNat) (sumF (oest S) (iv S 20 17 0).toNat) (mmany S)
-- frames
abbrev kq (l : List Nat) (k : Nat) : Prop := k ∈ l
theorem plitF_MF (S : ST) (k : Nat) : ∀ i, MF (kq [13]) (kq []) S (plitF S k i)
  | 0 => MF.rf _ _ S
  | i + 1 => (plitF_MF S k i).tr (MF.sa _ 13 _ _ (by decide))
theorem thF_MF (S : ST) (k : Nat) : ∀ i, MF (kq [13]) (kq []) S (thF S k i).2.2 ∧ (thF S k i).1 ≤ i
  | 0 => ⟨MF.rf _ _ S, Nat.le_refl 0⟩
  | i + 1 => by
    obtain ⟨g, h⟩ := thF_MF S k i
    unfold thF
    split
    · exact ⟨g, by omega⟩
    · exact ⟨g.tr (MF.sa _ 13 _ _ (by decide)), by show _ + 1 ≤ i + 1; omega⟩
theorem plc_b {S : ST} (h : MI S) (k i : Nat) : 0 ≤ plc S k i ∧ plc S k i ≤ 15 := by
  have h1 := h.a9 (6 * k + i)
  unfold plc
  split
  · have := ctr_lt (show (ai S 21 9 (6 * k + i)).toNat < 16 by omega); omega
  · exact h1
theorem plitF_MI {S : ST} (h : MI S) (k : Nat) : ∀ i, MI (plitF S k i)
  | 0 => h
  | i + 1 => (plitF_MI h k i).pa13 (plc_b h k i)
theorem thF_MI {S : ST} (h : MI S) (k : Nat) : ∀ i, MI (thF S k i).2.2
  | 0 => h
  | i + 1 => by
    have g := thF_MI h k i
    unfold thF
    split
    · exact g
    · exact g.pa13 (g.a13 _)
theorem plK2_b {S : ST} (h : MI S) (k : Nat) : (0 ≤ plK2 S k ∧ plK2 S k ≤ 4) ∧ (-20 ≤ plN S k ∧ plN S k ≤ 20) ∧ (plK2 S k = 2 → 2 ≤ plN S k) := by
  have h5 := h.a5 k
  have h6 := h.a6 k
  have h8 := h.a8 k
  have hs := someK_b (plN S k) (ai S 21 8 k)
  have hk : 0 ≤ plK S k ∧ plK S k ≤ 2 := by
    unfold plK
    split
    · split
      · omega
      · split <;> omega
    · exact h5
  refine ⟨?_, ?_, ?_⟩
  · unfold plK2
    split
    · exact hs
    · omega
  · unfold plN; split <;> omega
  · unfold plK2
    split
    · unfold someK
      split
      · omega
      · split
        · omega
        · split
          · omega
          · split <;> omega
    · omega
theorem plainF_MI {S : ST} (h : MI S) (k : Nat) : MI (plainF S k) := by
  obtain ⟨h1, h2, h3⟩ := plK2_b h k
  exact ((plitF_MI (h.pa12 (h.a8 k)) k _).pa10 h1).pa11 (by split <;> omega)
theorem plainF_MF (S : ST) (k : Nat) : MF (kq [10, 11, 12, 13]) (kq []) S (plainF S k) :=
  (((MF.sa S 12 _ _ (by decide)).tr ((plitF_MF _ k _).mono (fun z q => by simp at q ⊢; omega) (fun _ q => q))).tr (MF.sa _ 10 _ _ (by decide))).tr (MF.sa _ 11 _ _ (by decide))
theorem thinF_MI {S : ST} (h : MI S) {k : Nat} : MI (thinF S k) := by
  have g := thF_MI h k (ai S 21 12 k).toNat
  have hn := (thF_MF S k (ai S 21 12 k).toNat).2
  have h12 := h.a12 k
  unfold thinF thin2
  split
  · exact (g.pa12 (by omega)).pa10 (by split <;> omega)
  · exact g.pa12 (by omega)
theorem thinF_MF (S : ST) (k : Nat) : MF (kq [10, 11, 12, 13]) (kq []) S (thinF S k) := by
  have g := (thF_MF S k (ai S 21 12 k).toNat).1
  have g' : MF (kq [10, 11, 12, 13]) (kq []) S (thF S k (ai S 21 12 k).toNat).2.2 := g.mono (fun z q => by simp at q ⊢; omega) (fun _ q => q)
  unfold thinF thin2
  split
  · exact (g'.tr (MF.sa _ 12 _ _ (by decide))).tr (MF.sa _ 10 _ _ (by decide))
  · exact g'.tr (MF.sa _ 12 _ _ (by decide))
theorem sortF_MI {S : ST} (h : MI S) (k : Nat) : MI (sortF S k) := h.sA (fun j => srtA_R (fun j => h.1 13 j) _ _ j)
theorem sortF_MF (S : ST) (k : Nat) : MF (kq [13]) (kq []) S (sortF S k) := MF.sA S 13 _ (by decide)
theorem mcount_le (S : ST) (c : Nat) : mcount S c ≤ 40 := cnt_le _ _ _
theorem mmany_le (S : ST) : mmany S ≤ 40 := cnt_le _ _ _
theorem estM_b {its nd least sum many : Int} (h1 : 0 ≤ least ∧ least ≤ 40) (h2 : 0 ≤ sum) (h3 : 0 ≤ many ∧ many ≤ 40) (h4 : its = 2 → 1 ≤ nd) : 0 ≤ estM its nd least sum many ∧ estM its nd least sum many ≤ 40 := by
  have hc : 0 ≤ (if its = 2 then sum / nd else sum) := by
    split
    · exact Int.ediv_nonneg h2 (by rename_i q; have := h4 q; omega)
    · exact h2
  unfold estM
  split
  · exact h1
  · split
    · exact h3
    · split
      · omega
      · split <;> omega
theorem mest_b {S : ST} {k : Nat} (j : Nat) : 0 ≤ mest S k j ∧ mest S k j ≤ 40 := by
  have := mcount_le S (ai S 21 13 (6 * k + j)).toNat
  unfold mest
  omega
theorem estF_MI {S : ST} (h : MI S) {k : Nat} (hn : ai S 21 10 k = 2 → 1 ≤ ai S 21 11 k) : MI (estF S k) := by
  have := mmany_le S
  exact h.pa14 (estM_b (leastF_b (by omega) _ (fun j _ => mest_b j)) (sumF_b _ (fun j _ => mest_b j)).1 (by omega) hn)
theorem estF_MF (S : ST) (k : Nat) : MF (kq [14]) (kq []) S (estF S k) := MF.sa S 14 _ _ (by decide)
section DUP2
variable {X : XT} {cc : ByteArray} {own : String} {Ts : List Cond} {n cells slots pc : Nat} {lv : List (Nat × AV)} {st : List AV} {S : ST}
theorem r_dup2 (C : Cx X cc own Ts n) {v w : AV} (hv : catA v = 1) (hw : catA w = 1) (d : decode cc pc = .ok (.dup2, 1)) (k : At X cells slots (pc + 1) lv (v :: w :: v :: w :: st) S) : At X cells slots pc lv (v :: w :: st) S := by
  obtain ⟨⟨p, l, e, R, s⟩, ⟨m, args, below, meth, c⟩, Q, ⟨D, cy, ad⟩, ⟨A, nL⟩⟩ := X
  obtain ⟨hx, hb, hml, hown, hts, hK, hAd, hAi, hAs, hNw, hR, hnL⟩ := C
  intro H locs ls hP hS hl
  exact lv_dup2_11 hx hb d ((tv_cat ad v).trans hv) ((tv_cat ad w).trans hw) (k H locs ls hP hS hl)
end DUP2
theorem m_irem {a b : Int} (ha : 0 ≤ a ∧ a < 1000000) (hb : 1 ≤ b ∧ b < 1000000) : Int32.ofInt a - Int32.ofInt a / Int32.ofInt b * Int32.ofInt b = Int32.ofInt (a % b) := by
  rw [m_idiv ha hb, ← Int32.ofInt_mul, ← Int32.ofInt_sub]
  congr 1
  rw [Int.emod_def, Int.mul_comm]
theorem m_div2 {c : Nat} (h : c < 1000) : Int32.ofInt (c : Int) / Int32.ofInt 2 = Int32.ofInt ((c / 2 : Nat) : Int) := by
  rw [m_idiv (by omega) (by omega)]
  congr 1
theorem m_rem2 {c : Nat} (h : c < 1000) : Int32.ofInt (c : Int) - Int32.ofInt (c : Int) / Int32.ofInt 2 * Int32.ofInt 2 = Int32.ofInt ((c % 2 : Nat) : Int) := by
  rw [m_irem (by omega) (by omega)]
  congr 1
theorem m_n2 : ¬ Int32.ofInt 2 = 0 := by decide +kernel
