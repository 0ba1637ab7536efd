/-! THE LAYER: cells by logical names, ints as Int, one judgement At, a rule an instruction -/
abbrev Idn := Nat × Nat
abbrev AV := Int ⊕ (Int ⊕ Option Idn)
abbrev vi (z : Int) : AV := .inl z
abbrev vl (z : Int) : AV := .inr (.inl z)
abbrev vr (o : Option Idn) : AV := .inr (.inr o)
def tv (ad : Idn → Nat) (v : AV) : Value := match v with
  | .inl z => .int (Int32.ofInt z)
  | .inr (.inl z) => .long (Int64.ofInt z)
  | .inr (.inr o) => va_rf (o.map ad)
def catA (v : AV) : Nat := match v with
  | .inr (.inl _) => 2
  | _ => 1
theorem tv_cat (ad : Idn → Nat) (v : AV) : (tv ad v).category = catA v := by
  rcases v with z | z | _ | o <;> rfl
/-- a cell: an object, an array of ints or booleans, of references, of longs -/
abbrev AC := (Nat × List AV) ⊕ ((Nat × Nat × (Nat → Int)) ⊕ ((Nat × Nat × (Nat → Option Idn)) ⊕ (Nat × Nat × (Nat → Int))))
def te (cy : Nat → ClassId) (ad : Idn → Nat) (x : AC) : va_E := match x with
  | .inl (ci, fs) => .inr (ci, fs.map (tv ad))
  | .inr (.inl (t, n, g)) => .inl (cy t, n, .inl (fun j => Int32.ofInt (g j)))
  | .inr (.inr (.inl (t, n, g))) => .inl (cy t, n, .inr (.inr (.inr (.inr (fun j => (g j).map ad)))))
  | .inr (.inr (.inr (t, n, g))) => .inl (cy t, n, .inr (.inl (fun j => Int64.ofInt (g j))))
abbrev ST := (Nat → Nat → Nat → Int) × (Nat → Nat → Nat → Nat) × (Nat → Nat → Nat → Int) × (Nat → Nat → Nat → Option Nat)
abbrev iv (S : ST) : Nat → Nat → Nat → Int := S.1
abbrev jv (S : ST) : Nat → Nat → Nat → Nat := S.2.1
abbrev ai (S : ST) : Nat → Nat → Nat → Int := S.2.2.1
abbrev ar (S : ST) : Nat → Nat → Nat → Option Nat := S.2.2.2
def up3 {α : Type} (f : Nat → Nat → Nat → α) (t k x : Nat) (v : α) : Nat → Nat → Nat → α := fun t' k' x' => if t' = t ∧ k' = k ∧ x' = x then v else f t' k' x'
theorem up3_ne {α : Type} {f : Nat → Nat → Nat → α} {t k x t' : Nat} {v : α} (h : ¬ t' = t) : up3 f t k x v t' = f t' := by
  funext a b
  simp [up3, h]
theorem up3_ne2 {α : Type} {f : Nat → Nat → Nat → α} {t k x t' k' : Nat} {v : α} (h : ¬ k' = k) : up3 f t k x v t' k' = f t' k' := by
  funext b
  simp [up3, h]
def upF {α : Type} (f : Nat → α) (k : Nat) (v : α) : Nat → α := fun k' => if k' = k then v else f k'
def si (S : ST) (t k x : Nat) (v : Int) : ST := (up3 S.1 t k x v, S.2)
def sj (S : ST) (t k x : Nat) (v : Nat) : ST := (S.1, up3 S.2.1 t k x v, S.2.2)
def sa (S : ST) (t x j : Nat) (v : Int) : ST := (S.1, S.2.1, up3 S.2.2.1 t x j v, S.2.2.2)
def sr (S : ST) (t x j : Nat) (v : Option Nat) : ST := (S.1, S.2.1, S.2.2.1, up3 S.2.2.2 t x j v)
/-- what the cell of a name holds -/
def hp (S : ST) (i : Idn) : AC :=
  if i.1 = 0 then .inl (8, [vr (some (1, 0)), vr (some (3, 0)), vr (some (8, 0)), vr (some (15, 0))]) else
  if i.1 = 1 then .inl (5, [vr (some (2, 0))]) else
  if i.1 = 2 then .inr (.inl (0, 40, ai S 2 i.2)) else
  if i.1 = 3 then .inl (3, [vr (some (4, 0)), vi (iv S 3 1 i.2), vi (iv S 3 2 i.2), vi (iv S 3 3 i.2)]) else
  if i.1 = 4 then .inr (.inr (.inl (5, 5, fun j => some (5, j)))) else
  if i.1 = 5 then .inl (7, [vr (some (6, i.2)), vi (iv S 5 1 i.2), vi (iv S 5 2 i.2), vi (iv S 5 3 i.2), vi (iv S 5 4 i.2)]) else
  if i.1 = 6 then .inr (.inl (0, 6, ai S 6 i.2)) else
  if i.1 = 7 then .inl (6, [vi (iv S 7 0 i.2)]) else
  if i.1 = 8 then .inl (0, [vr (some (9, i.2)), vi (iv S 8 1 i.2), vi (iv S 8 2 i.2), vi (iv S 8 3 i.2), vl (jv S 8 4 i.2 : Nat), vi (iv S 8 5 i.2), vi (iv S 8 6 i.2), vi (iv S 8 7 i.2), vr (some (10, i.2))]) else
  if i.1 = 9 then .inr (.inr (.inl (2, 6, fun j => (ar S 9 i.2 j).map (fun v => ((11, v) : Idn))))) else
  if i.1 = 10 then .inr (.inr (.inl (3, 5, fun j => some (11, 5 * i.2 + j)))) else
  if i.1 = 11 then .inl (1, [vr (some (12, i.2)), vi (iv S 11 1 i.2), vi (iv S 11 2 i.2), vi (iv S 11 3 i.2), vl (jv S 11 4 i.2 : Nat), vi (i.2 % 5 : Nat), vi (iv S 11 6 i.2), vi (iv S 11 7 i.2), vr (some (13, i.2))]) else
  if i.1 = 12 then .inr (.inr (.inl (2, 6, fun j => (ar S 12 i.2 j).map (fun v => ((14, v) : Idn))))) else
  if i.1 = 13 then .inr (.inr (.inl (4, 6, fun j => some (14, 6 * i.2 + j)))) else
  if i.1 = 14 then .inl (2, [vi (iv S 14 0 i.2), vi (iv S 14 1 i.2), vi (iv S 14 2 i.2), vr (some (7, i.2 / 30)), vl (jv S 14 4 i.2 : Nat), vl (jv S 14 5 i.2 : Nat)]) else
  if i.1 = 15 then .inl (4, [vr (some (7, 1)), vr (some (8, 1)), vi (iv S 15 2 i.2), vi (iv S 15 3 i.2)]) else
  if i.1 = 20 then .inl (9, [vr (some (21, 0)), vr (some (21, 1)), vi (iv S 20 2 i.2), vi (iv S 20 3 i.2), vi (iv S 20 4 i.2), vr (some (21, 5)), vr (some (21, 6)), vr (some (21, 7)), vr (some (21, 8)), vr (some (21, 9)), vr (some (21, 10)), vr (some (21, 11)), vr (some (21, 12)), vr (some (21, 13)), vr (some (21, 14)), vi (iv S 20 15 i.2), vi (iv S 20 16 i.2), vi (iv S 20 17 i.2), vr (some (21, 18)), vi (iv S 20 19 i.2), vr (some (21, 20)), vr (some (21, 21)), vi (iv S 20 22 i.2), vi (iv S 20 23 i.2), vi (iv S 20 24 i.2), vr (some (21, 25)), vr (some (21, 26)), vr (some (21, 27)), vr (some (21, 28)), vr (some (21, 29)), vr (some (21, 30)), vi (iv S 20 31 i.2), vi (iv S 20 32 i.2), vi (iv S 20 33 i.2), vi (iv S 20 34 i.2)]) else
  if i.1 = 21 then .inr (.inl (if i.2 = 0 ∨ i.2 = 7 ∨ i.2 = 20 then 1 else 0, if i.2 < 2 ∨ i.2 = 20 ∨ i.2 = 21 then 40 else if i.2 = 9 ∨ i.2 = 13 ∨ i.2 = 28 ∨ i.2 = 29 then 30 else 5, ai S 21 i.2)) else
  if i.1 = 30 then .inr (.inr (.inr (6, 1, ai S 30 i.2))) else .inl (0, [])
theorem hp_0 (S : ST) : hp S (0, 0) = .inl (8, [vr (some (1, 0)), vr (some (3, 0)), vr (some (8, 0)), vr (some (15, 0))]) := rfl
theorem hp_1 (S : ST) : hp S (1, 0) = .inl (5, [vr (some (2, 0))]) := rfl
theorem hp_2 (S : ST) : hp S (2, 0) = .inr (.inl (0, 40, ai S 2 0)) := rfl
theorem hp_3 (S : ST) : hp S (3, 0) = .inl (3, [vr (some (4, 0)), vi (iv S 3 1 0), vi (iv S 3 2 0), vi (iv S 3 3 0)]) := rfl
theorem hp_4 (S : ST) : hp S (4, 0) = .inr (.inr (.inl (5, 5, fun j => some (5, j)))) := rfl
theorem hp_5 (S : ST) (x : Nat) : hp S (5, x) = .inl (7, [vr (some (6, x)), vi (iv S 5 1 x), vi (iv S 5 2 x), vi (iv S 5 3 x), vi (iv S 5 4 x)]) := rfl
theorem hp_6 (S : ST) (x : Nat) : hp S (6, x) = .inr (.inl (0, 6, ai S 6 x)) := rfl
theorem hp_7 (S : ST) (x : Nat) : hp S (7, x) = .inl (6, [vi (iv S 7 0 x)]) := rfl
theorem hp_8 (S : ST) (x : Nat) : hp S (8, x) = .inl (0, [vr (some (9, x)), vi (iv S 8 1 x), vi (iv S 8 2 x), vi (iv S 8 3 x), vl (jv S 8 4 x : Nat), vi (iv S 8 5 x), vi (iv S 8 6 x), vi (iv S 8 7 x), vr (some (10, x))]) := rfl
theorem hp_9 (S : ST) (x : Nat) : hp S (9, x) = .inr (.inr (.inl (2, 6, fun j => (ar S 9 x j).map (fun v => ((11, v) : Idn))))) := rfl
theorem hp_10 (S : ST) (x : Nat) : hp S (10, x) = .inr (.inr (.inl (3, 5, fun j => some (11, 5 * x + j)))) := rfl
theorem hp_11 (S : ST) (x : Nat) : hp S (11, x) = .inl (1, [vr (some (12, x)), vi (iv S 11 1 x), vi (iv S 11 2 x), vi (iv S 11 3 x), vl (jv S 11 4 x : Nat), vi (x % 5 : Nat), vi (iv S 11 6 x), vi (iv S 11 7 x), vr (some (13, x))]) := rfl
theorem hp_12 (S : ST) (x : Nat) : hp S (12, x) = .inr (.inr (.inl (2, 6, fun j => (ar S 12 x j).map (fun v => ((14, v) : Idn))))) := rfl
theorem hp_13 (S : ST) (x : Nat) : hp S (13, x) = .inr (.inr (.inl (4, 6, fun j => some (14, 6 * x + j)))) := rfl
theorem hp_14 (S : ST) (x : Nat) : hp S (14, x) = .inl (2, [vi (iv S 14 0 x), vi (iv S 14 1 x), vi (iv S 14 2 x), vr (some (7, x / 30)), vl (jv S 14 4 x : Nat), vl (jv S 14 5 x : Nat)]) := rfl
theorem hp_15 (S : ST) : hp S (15, 0) = .inl (4, [vr (some (7, 1)), vr (some (8, 1)), vi (iv S 15 2 0), vi (iv S 15 3 0)]) := rfl
theorem hp_20 (S : ST) : hp S (20, 0) = .inl (9, [vr (some (21, 0)), vr (some (21, 1)), vi (iv S 20 2 0), vi (iv S 20 3 0), vi (iv S 20 4 0), vr (some (21, 5)), vr (some (21, 6)), vr (some (21, 7)), vr (some (21, 8)), vr (some (21, 9)), vr (some (21, 10)), vr (some (21, 11)), vr (some (21, 12)), vr (some (21, 13)), vr (some (21, 14)), vi (iv S 20 15 0), vi (iv S 20 16 0), vi (iv S 20 17 0), vr (some (21, 18)), vi (iv S 20 19 0), vr (some (21, 20)), vr (some (21, 21)), vi (iv S 20 22 0), vi (iv S 20 23 0), vi (iv S 20 24 0), vr (some (21, 25)), vr (some (21, 26)), vr (some (21, 27)), vr (some (21, 28)), vr (some (21, 29)), vr (some (21, 30)), vi (iv S 20 31 0), vi (iv S 20 32 0), vi (iv S 20 33 0), vi (iv S 20 34 0)]) := rfl
theorem hp_21_0 (S : ST) : hp S (21, 0) = .inr (.inl (1, 40, ai S 21 0)) := rfl
theorem hp_21_1 (S : ST) : hp S (21, 1) = .inr (.inl (0, 40, ai S 21 1)) := rfl
theorem hp_21_5 (S : ST) : hp S (21, 5) = .inr (.inl (0, 5, ai S 21 5)) := rfl
theorem hp_21_6 (S : ST) : hp S (21, 6) = .inr (.inl (0, 5, ai S 21 6)) := rfl
theorem hp_21_7 (S : ST) : hp S (21, 7) = .inr (.inl (1, 5, ai S 21 7)) := rfl
theorem hp_21_8 (S : ST) : hp S (21, 8) = .inr (.inl (0, 5, ai S 21 8)) := rfl
theorem hp_21_9 (S : ST) : hp S (21, 9) = .inr (.inl (0, 30, ai S 21 9)) := rfl
theorem hp_21_10 (S : ST) : hp S (21, 10) = .inr (.inl (0, 5, ai S 21 10)) := rfl
theorem hp_21_11 (S : ST) : hp S (21, 11) = .inr (.inl (0, 5, ai S 21 11)) := rfl
theorem hp_21_12 (S : ST) : hp S (21, 12) = .inr (.inl (0, 5, ai S 21 12)) := rfl
theorem hp_21_13 (S : ST) : hp S (21, 13) = .inr (.inl (0, 30, ai S 21 13)) := rfl
theorem hp_21_14 (S : ST) : hp S (21, 14) = .inr (.inl (0, 5, ai S 21 14)) := rfl
theorem hp_21_18 (S : ST) : hp S (21, 18) = .inr (.inl (0, 5, ai S 21 18)) := rfl
theorem hp_21_20 (S : ST) : hp S (21, 20) = .inr (.inl (1, 40, ai S 21 20)) := rfl
theorem hp_21_21 (S : ST) : hp S (21, 21) = .inr (.inl (0, 40, ai S 21 21)) := rfl
theorem hp_21_25 (S : ST) : hp S (21, 25) = .inr (.inl (0, 5, ai S 21 25)) := rfl
theorem hp_21_26 (S : ST) : hp S (21, 26) = .inr (.inl (0, 5, ai S 21 26)) := rfl
theorem hp_21_27 (S : ST) : hp S (21, 27) = .inr (.inl (0, 5, ai S 21 27)) := rfl
theorem hp_21_28 (S : ST) : hp S (21, 28) = .inr (.inl (0, 30, ai S 21 28)) := rfl
theorem hp_21_29 (S : ST) : hp S (21, 29) = .inr (.inl (0, 30, ai S 21 29)) := rfl
theorem hp_21_30 (S : ST) : hp S (21, 30) = .inr (.inl (0, 5, ai S 21 30)) := rfl
theorem hp_30 (S : ST) : hp S (30, 0) = .inr (.inr (.inr (6, 1, ai S 30 0))) := rfl
def upI (f : Idn → AC) (i : Idn) (e : AC) : Idn → AC := fun j => if j = i then e else f j
theorem hs_3_1 (S : ST) (v : Int) : hp (si S 3 1 0 v) = upI (hp S) (3, 0) (.inl (3, [vr (some (4, 0)), vi v, vi (iv S 3 2 0), vi (iv S 3 3 0)])) := by
  funext j
  obtain ⟨t, y⟩ := j
  by_cases h : t = 3
  · subst h
    by_cases h2 : y = 0
    · subst h2
      simp [hp, upI, iv, jv, ai, ar, si, up3]
    · simp [hp, upI, iv, jv, ai, ar, si, up3, h2]
  · simp [hp, upI, iv, jv, ai, ar, si, up3, h]
theorem hs_3_2 (S : ST) (v : Int) : hp (si S 3 2 0 v) = upI (hp S) (3, 0) (.inl (3, [vr (some (4, 0)), vi (iv S 3 1 0), vi v, vi (iv S 3 3 0)])) := by
  funext j
  obtain ⟨t, y⟩ := j
  by_cases h : t = 3
  · subst h
    by_cases h2 : y = 0
    · subst h2
      simp [hp, upI, iv, jv, ai, ar, si, up3]
    · simp [hp, upI, iv, jv, ai, ar, si, up3, h2]
  · simp [hp, upI, iv, jv, ai, ar, si, up3, h]
theorem hs_3_3 (S : ST) (v : Int) : hp (si S 3 3 0 v) = upI (hp S) (3, 0) (.inl (3, [vr (some (4, 0)), vi (iv S 3 1 0), vi (iv S 3 2 0), vi v])) := by
  funext j
  obtain ⟨t, y⟩ := j
  by_cases h : t = 3
  · subst h
    by_cases h2 : y = 0
    · subst h2
      simp [hp, upI, iv, jv, ai, ar, si, up3]
    · simp [hp, upI, iv, jv, ai, ar, si, up3, h2]
  · simp [hp, upI, iv, jv, ai, ar, si, up3, h]
theorem hs_5_1 (S : ST) (x : Nat) (v : Int) : hp (si S 5 1 x v) = upI (hp S) (5, x) (.inl (7, [vr (some (6, x)), vi v, vi (iv S 5 2 x), vi (iv S 5 3 x), vi (iv S 5 4 x)])) := by
  funext j
  obtain ⟨t, y⟩ := j
  by_cases h : t = 5
  · subst h
    by_cases h2 : y = x
    · subst h2
      simp [hp, upI, iv, jv, ai, ar, si, up3]
    · simp [hp, upI, iv, jv, ai, ar, si, up3, h2]
  · simp [hp, upI, iv, jv, ai, ar, si, up3, h]
theorem hs_5_2 (S : ST) (x : Nat) (v : Int) : hp (si S 5 2 x v) = upI (hp S) (5, x) (.inl (7, [vr (some (6, x)), vi (iv S 5 1 x), vi v, vi (iv S 5 3 x), vi (iv S 5 4 x)])) := by
  funext j
  obtain ⟨t, y⟩ := j
  by_cases h : t = 5
  · subst h
    by_cases h2 : y = x
    · subst h2
      simp [hp, upI, iv, jv, ai, ar, si, up3]
    · simp [hp, upI, iv, jv, ai, ar, si, up3, h2]
  · simp [hp, upI, iv, jv, ai, ar, si, up3, h]
theorem hs_5_3 (S : ST) (x : Nat) (v : Int) : hp (si S 5 3 x v) = upI (hp S) (5, x) (.inl (7, [vr (some (6, x)), vi (iv S 5 1 x), vi (iv S 5 2 x), vi v, vi (iv S 5 4 x)])) := by
  funext j
  obtain ⟨t, y⟩ := j
  by_cases h : t = 5
  · subst h
    by_cases h2 : y = x
    · subst h2
      simp [hp, upI, iv, jv, ai, ar, si, up3]
    · simp [hp, upI, iv, jv, ai, ar, si, up3, h2]
  · simp [hp, upI, iv, jv, ai, ar, si, up3, h]
theorem hs_5_4 (S : ST) (x : Nat) (v : Int) : hp (si S 5 4 x v) = upI (hp S) (5, x) (.inl (7, [vr (some (6, x)), vi (iv S 5 1 x), vi (iv S 5 2 x), vi (iv S 5 3 x), vi v])) := by
  funext j
  obtain ⟨t, y⟩ := j
  by_cases h : t = 5
  · subst h
    by_cases h2 : y = x
    · subst h2
      simp [hp, upI, iv, jv, ai, ar, si, up3]
    · simp [hp, upI, iv, jv, ai, ar, si, up3, h2]
  · simp [hp, upI, iv, jv, ai, ar, si, up3, h]
theorem hs_7_0 (S : ST) (x : Nat) (v : Int) : hp (si S 7 0 x v) = upI (hp S) (7, x) (.inl (6, [vi v])) := by
  funext j
  obtain ⟨t, y⟩ := j
  by_cases h : t = 7
  · subst h
    by_cases h2 : y = x
    · subst h2
      simp [hp, upI, iv, jv, ai, ar, si, up3]
    · simp [hp, upI, iv, jv, ai, ar, si, up3, h2]
  · simp [hp, upI, iv, jv, ai, ar, si, up3, h]
theorem hs_8_1 (S : ST) (x : Nat) (v : Int) : hp (si S 8 1 x v) = upI (hp S) (8, x) (.inl (0, [vr (some (9, x)), vi v, vi (iv S 8 2 x), vi (iv S 8 3 x), vl (jv S 8 4 x : Nat), vi (iv S 8 5 x), vi (iv S 8 6 x), vi (iv S 8 7 x), vr (some (10, x))])) := by
  funext j
  obtain ⟨t, y⟩ := j
  by_cases h : t = 8
  · subst h
    by_cases h2 : y = x
    · subst h2
      simp [hp, upI, iv, jv, ai, ar, si, up3]
    · simp [hp, upI, iv, jv, ai, ar, si, up3, h2]
  · simp [hp, upI, iv, jv, ai, ar, si, up3, h]
theorem hs_8_2 (S : ST) (x : Nat) (v : Int) : hp (si S 8 2 x v) = upI (hp S) (8, x) (.inl (0, [vr (some (9, x)), vi (iv S 8 1 x), vi v, vi (iv S 8 3 x), vl (jv S 8 4 x : Nat), vi (iv S 8 5 x), vi (iv S 8 6 x), vi (iv S 8 7 x), vr (some (10, x))])) := by
  funext j
  obtain ⟨t, y⟩ := j
  by_cases h : t = 8
  · subst h
    by_cases h2 : y = x
    · subst h2
      simp [hp, upI, iv, jv, ai, ar, si, up3]
    · simp [hp, upI, iv, jv, ai, ar, si, up3, h2]
  · simp [hp, upI, iv, jv, ai, ar, si, up3, h]
theorem hs_8_3 (S : ST) (x : Nat) (v : Int) : hp (si S 8 3 x v) = upI (hp S) (8, x) (.inl (0, [vr (some (9, x)), vi (iv S 8 1 x), vi (iv S 8 2 x), vi v, vl (jv S 8 4 x : Nat), vi (iv S 8 5 x), vi (iv S 8 6 x), vi (iv S 8 7 x), vr (some (10, x))])) := by
  funext j
  obtain ⟨t, y⟩ := j
  by_cases h : t = 8
  · subst h
    by_cases h2 : y = x
    · subst h2
      simp [hp, upI, iv, jv, ai, ar, si, up3]
    · simp [hp, upI, iv, jv, ai, ar, si, up3, h2]
  · simp [hp, upI, iv, jv, ai, ar, si, up3, h]
theorem hs_8_6 (S : ST) (x : Nat) (v : Int) : hp (si S 8 6 x v) = upI (hp S) (8, x) (.inl (0, [vr (some (9, x)), vi (iv S 8 1 x), vi (iv S 8 2 x), vi (iv S 8 3 x), vl (jv S 8 4 x : Nat), vi (iv S 8 5 x), vi v, vi (iv S 8 7 x), vr (some (10, x))])) := by
  funext j
  obtain ⟨t, y⟩ := j
  by_cases h : t = 8
  · subst h
    by_cases h2 : y = x
    · subst h2
      simp [hp, upI, iv, jv, ai, ar, si, up3]
    · simp [hp, upI, iv, jv, ai, ar, si, up3, h2]
  · simp [hp, upI, iv, jv, ai, ar, si, up3, h]
theorem hs_8_7 (S : ST) (x : Nat) (v : Int) : hp (si S 8 7 x v) = upI (hp S) (8, x) (.inl (0, [vr (some (9, x)), vi (iv S 8 1 x), vi (iv S 8 2 x), vi (iv S 8 3 x), vl (jv S 8 4 x : Nat), vi (iv S 8 5 x), vi (iv S 8 6 x), vi v, vr (some (10, x))])) := by
  funext j
  obtain ⟨t, y⟩ := j
  by_cases h : t = 8
  · subst h
    by_cases h2 : y = x
    · subst h2
      simp [hp, upI, iv, jv, ai, ar, si, up3]
    · simp [hp, upI, iv, jv, ai, ar, si, up3, h2]
  · simp [hp, upI, iv, jv, ai, ar, si, up3, h]
theorem hs_11_1 (S : ST) (x : Nat) (v : Int) : hp (si S 11 1 x v) = upI (hp S) (11, x) (.inl (1, [vr (some (12, x)), vi v, vi (iv S 11 2 x), vi (iv S 11 3 x), vl (jv S 11 4 x : Nat), vi (x % 5 : Nat), vi (iv S 11 6 x), vi (iv S 11 7 x), vr (some (13, x))])) := by
  funext j
  obtain ⟨t, y⟩ := j
  by_cases h : t = 11
  · subst h
    by_cases h2 : y = x
    · subst h2
      simp [hp, upI, iv, jv, ai, ar, si, up3]
    · simp [hp, upI, iv, jv, ai, ar, si, up3, h2]
  · simp [hp, upI, iv, jv, ai, ar, si, up3, h]
theorem hs_11_2 (S : ST) (x : Nat) (v : Int) : hp (si S 11 2 x v) = upI (hp S) (11, x) (.inl (1, [vr (some (12, x)), vi (iv S 11 1 x), vi v, vi (iv S 11 3 x), vl (jv S 11 4 x : Nat), vi (x % 5 : Nat), vi (iv S 11 6 x), vi (iv S 11 7 x), vr (some (13, x))])) := by
  funext j
  obtain ⟨t, y⟩ := j
  by_cases h : t = 11
  · subst h
    by_cases h2 : y = x
    · subst h2
      simp [hp, upI, iv, jv, ai, ar, si, up3]
    · simp [hp, upI, iv, jv, ai, ar, si, up3, h2]
  · simp [hp, upI, iv, jv, ai, ar, si, up3, h]
theorem hs_11_3 (S : ST) (x : Nat) (v : Int) : hp (si S 11 3 x v) = upI (hp S) (11, x) (.inl (1, [vr (some (12, x)), vi (iv S 11 1 x), vi (iv S 11 2 x), vi v, vl (jv S 11 4 x : Nat), vi (x % 5 : Nat), vi (iv S 11 6 x), vi (iv S 11 7 x), vr (some (13, x))])) := by
  funext j
  obtain ⟨t, y⟩ := j
  by_cases h : t = 11
  · subst h
    by_cases h2 : y = x
    · subst h2
      simp [hp, upI, iv, jv, ai, ar, si, up3]
    · simp [hp, upI, iv, jv, ai, ar, si, up3, h2]
  · simp [hp, upI, iv, jv, ai, ar, si, up3, h]
theorem hs_11_6 (S : ST) (x : Nat) (v : Int) : hp (si S 11 6 x v) = upI (hp S) (11, x) (.inl (1, [vr (some (12, x)), vi (iv S 11 1 x), vi (iv S 11 2 x), vi (iv S 11 3 x), vl (jv S 11 4 x : Nat), vi (x % 5 : Nat), vi v, vi (iv S 11 7 x), vr (some (13, x))])) := by
  funext j
  obtain ⟨t, y⟩ := j
  by_cases h : t = 11
  · subst h
    by_cases h2 : y = x
    · subst h2
      simp [hp, upI, iv, jv, ai, ar, si, up3]
    · simp [hp, upI, iv, jv, ai, ar, si, up3, h2]
  · simp [hp, upI, iv, jv, ai, ar, si, up3, h]
theorem hs_11_7 (S : ST) (x : Nat) (v : Int) : hp (si S 11 7 x v) = upI (hp S) (11, x) (.inl (1, [vr (some (12, x)), vi (iv S 11 1 x), vi (iv S 11 2 x), vi (iv S 11 3 x), vl (jv S 11 4 x : Nat), vi (x % 5 : Nat), vi (iv S 11 6 x), vi v, vr (some (13, x))])) := by
  funext j
  obtain ⟨t, y⟩ := j
  by_cases h : t = 11
  · subst h
    by_cases h2 : y = x
    · subst h2
      simp [hp, upI, iv, jv, ai, ar, si, up3]
    · simp [hp, upI, iv, jv, ai, ar, si, up3, h2]
  · simp [hp, upI, iv, jv, ai, ar, si, up3, h]
theorem hs_14_0 (S : ST) (x : Nat) (v : Int) : hp (si S 14 0 x v) = upI (hp S) (14, x) (.inl (2, [vi v, vi (iv S 14 1 x), vi (iv S 14 2 x), vr (some (7, x / 30)), vl (jv S 14 4 x : Nat), vl (jv S 14 5 x : Nat)])) := by
  funext j
  obtain ⟨t, y⟩ := j
  by_cases h : t = 14
  · subst h
    by_cases h2 : y = x
    · subst h2
      simp [hp, upI, iv, jv, ai, ar, si, up3]
    · simp [hp, upI, iv, jv, ai, ar, si, up3, h2]
  · simp [hp, upI, iv, jv, ai, ar, si, up3, h]
theorem hs_14_1 (S : ST) (x : Nat) (v : Int) : hp (si S 14 1 x v) = upI (hp S) (14, x) (.inl (2, [vi (iv S 14 0 x), vi v, vi (iv S 14 2 x), vr (some (7, x / 30)), vl (jv S 14 4 x : Nat), vl (jv S 14 5 x : Nat)])) := by
  funext j
  obtain ⟨t, y⟩ := j
  by_cases h : t = 14
  · subst h
    by_cases h2 : y = x
    · subst h2
      simp [hp, upI, iv, jv, ai, ar, si, up3]
    · simp [hp, upI, iv, jv, ai, ar, si, up3, h2]
  · simp [hp, upI, iv, jv, ai, ar, si, up3, h]
theorem hs_14_2 (S : ST) (x : Nat) (v : Int) : hp (si S 14 2 x v) = upI (hp S) (14, x) (.inl (2, [vi (iv S 14 0 x), vi (iv S 14 1 x), vi v, vr (some (7, x / 30)), vl (jv S 14 4 x : Nat), vl (jv S 14 5 x : Nat)])) := by
  funext j
  obtain ⟨t, y⟩ := j
  by_cases h : t = 14
  · subst h
    by_cases h2 : y = x
    · subst h2
      simp [hp, upI, iv, jv, ai, ar, si, up3]
    · simp [hp, upI, iv, jv, ai, ar, si, up3, h2]
  · simp [hp, upI, iv, jv, ai, ar, si, up3, h]
theorem hs_15_2 (S : ST) (v : Int) : hp (si S 15 2 0 v) = upI (hp S) (15, 0) (.inl (4, [vr (some (7, 1)), vr (some (8, 1)), vi v, vi (iv S 15 3 0)])) := by
  funext j
  obtain ⟨t, y⟩ := j
  by_cases h : t = 15
  · subst h
    by_cases h2 : y = 0
    · subst h2
      simp [hp, upI, iv, jv, ai, ar, si, up3]
    · simp [hp, upI, iv, jv, ai, ar, si, up3, h2]
  · simp [hp, upI, iv, jv, ai, ar, si, up3, h]
theorem hs_15_3 (S : ST) (v : Int) : hp (si S 15 3 0 v) = upI (hp S) (15, 0) (.inl (4, [vr (some (7, 1)), vr (some (8, 1)), vi (iv S 15 2 0), vi v])) := by
  funext j
  obtain ⟨t, y⟩ := j
  by_cases h : t = 15
  · subst h
    by_cases h2 : y = 0
    · subst h2
      simp [hp, upI, iv, jv, ai, ar, si, up3]
    · simp [hp, upI, iv, jv, ai, ar, si, up3, h2]
  · simp [hp, upI, iv, jv, ai, ar, si, up3, h]
theorem hs_20_2 (S : ST) (v : Int) : hp (si S 20 2 0 v) = upI (hp S) (20, 0) (.inl (9, [vr (some (21, 0)), vr (some (21, 1)), vi v, vi (iv S 20 3 0), vi (iv S 20 4 0), vr (some (21, 5)), vr (some (21, 6)), vr (some (21, 7)), vr (some (21, 8)), vr (some (21, 9)), vr (some (21, 10)), vr (some (21, 11)), vr (some (21, 12)), vr (some (21, 13)), vr (some (21, 14)), vi (iv S 20 15 0), vi (iv S 20 16 0), vi (iv S 20 17 0), vr (some (21, 18)), vi (iv S 20 19 0), vr (some (21, 20)), vr (some (21, 21)), vi (iv S 20 22 0), vi (iv S 20 23 0), vi (iv S 20 24 0), vr (some (21, 25)), vr (some (21, 26)), vr (some (21, 27)), vr (some (21, 28)), vr (some (21, 29)), vr (some (21, 30)), vi (iv S 20 31 0), vi (iv S 20 32 0), vi (iv S 20 33 0), vi (iv S 20 34 0)])) := by
  funext j
  obtain ⟨t, y⟩ := j
  by_cases h : t = 20
  · subst h
    by_cases h2 : y = 0
    · subst h2
      simp [hp, upI, iv, jv, ai, ar, si, up3]
    · simp [hp, upI, iv, jv, ai, ar, si, up3, h2]
  · simp [hp, upI, iv, jv, ai, ar, si, up3, h]
theorem hs_20_3 (S : ST) (v : Int) : hp (si S 20 3 0 v) = upI (hp S) (20, 0) (.inl (9, [vr (some (21, 0)), vr (some (21, 1)), vi (iv S 20 2 0), vi v, vi (iv S 20 4 0), vr (some (21, 5)), vr (some (21, 6)), vr (some (21, 7)), vr (some (21, 8)), vr (some (21, 9)), vr (some (21, 10)), vr (some (21, 11)), vr (some (21, 12)), vr (some (21, 13)), vr (some (21, 14)), vi (iv S 20 15 0), vi (iv S 20 16 0), vi (iv S 20 17 0), vr (some (21, 18)), vi (iv S 20 19 0), vr (some (21, 20)), vr (some (21, 21)), vi (iv S 20 22 0), vi (iv S 20 23 0), vi (iv S 20 24 0), vr (some (21, 25)), vr (some (21, 26)), vr (some (21, 27)), vr (some (21, 28)), vr (some (21, 29)), vr (some (21, 30)), vi (iv S 20 31 0), vi (iv S 20 32 0), vi (iv S 20 33 0), vi (iv S 20 34 0)])) := by
  funext j
  obtain ⟨t, y⟩ := j
  by_cases h : t = 20
  · subst h
    by_cases h2 : y = 0
    · subst h2
      simp [hp, upI, iv, jv, ai, ar, si, up3]
    · simp [hp, upI, iv, jv, ai, ar, si, up3, h2]
  · simp [hp, upI, iv, jv, ai, ar, si, up3, h]
theorem hs_20_4 (S : ST) (v : Int) : hp (si S 20 4 0 v) = upI (hp S) (20, 0) (.inl (9, [vr (some (21, 0)), vr (some (21, 1)), vi (iv S 20 2 0), vi (iv S 20 3 0), vi v, vr (some (21, 5)), vr (some (21, 6)), vr (some (21, 7)), vr (some (21, 8)), vr (some (21, 9)), vr (some (21, 10)), vr (some (21, 11)), vr (some (21, 12)), vr (some (21, 13)), vr (some (21, 14)), vi (iv S 20 15 0), vi (iv S 20 16 0), vi (iv S 20 17 0), vr (some (21, 18)), vi (iv S 20 19 0), vr (some (21, 20)), vr (some (21, 21)), vi (iv S 20 22 0), vi (iv S 20 23 0), vi (iv S 20 24 0), vr (some (21, 25)), vr (some (21, 26)), vr (some (21, 27)), vr (some (21, 28)), vr (some (21, 29)), vr (some (21, 30)), vi (iv S 20 31 0), vi (iv S 20 32 0), vi (iv S 20 33 0), vi (iv S 20 34 0)])) := by
  funext j
  obtain ⟨t, y⟩ := j
  by_cases h : t = 20
  · subst h
    by_cases h2 : y = 0
    · subst h2
      simp [hp, upI, iv, jv, ai, ar, si, up3]
    · simp [hp, upI, iv, jv, ai, ar, si, up3, h2]
  · simp [hp, upI, iv, jv, ai, ar, si, up3, h]
theorem hs_20_15 (S : ST) (v : Int) : hp (si S 20 15 0 v) = upI (hp S) (20, 0) (.inl (9, [vr (some (21, 0)), vr (some (21, 1)), vi (iv S 20 2 0), vi (iv S 20 3 0), vi (iv S 20 4 0), vr (some (21, 5)), vr (some (21, 6)), vr (some (21, 7)), vr (some (21, 8)), vr (some (21, 9)), vr (some (21, 10)), vr (some (21, 11)), vr (some (21, 12)), vr (some (21, 13)), vr (some (21, 14)), vi v, vi (iv S 20 16 0), vi (iv S 20 17 0), vr (some (21, 18)), vi (iv S 20 19 0), vr (some (21, 20)), vr (some (21, 21)), vi (iv S 20 22 0), vi (iv S 20 23 0), vi (iv S 20 24 0), vr (some (21, 25)), vr (some (21, 26)), vr (some (21, 27)), vr (some (21, 28)), vr (some (21, 29)), vr (some (21, 30)), vi (iv S 20 31 0), vi (iv S 20 32 0), vi (iv S 20 33 0), vi (iv S 20 34 0)])) := by
  funext j
  obtain ⟨t, y⟩ := j
  by_cases h : t = 20
  · subst h
    by_cases h2 : y = 0
    · subst h2
      simp [hp, upI, iv, jv, ai, ar, si, up3]
    · simp [hp, upI, iv, jv, ai, ar, si, up3, h2]
  · simp [hp, upI, iv, jv, ai, ar, si, up3, h]
theorem hs_20_16 (S : ST) (v : Int) : hp (si S 20 16 0 v) = upI (hp S) (20, 0) (.inl (9, [vr (some (21, 0)), vr (some (21, 1)), vi (iv S 20 2 0), vi (iv S 20 3 0), vi (iv S 20 4 0), vr (some (21, 5)), vr (some (21, 6)), vr (some (21, 7)), vr (some (21, 8)), vr (some (21, 9)), vr (some (21, 10)), vr (some (21, 11)), vr (some (21, 12)), vr (some (21, 13)), vr (some (21, 14)), vi (iv S 20 15 0), vi v, vi (iv S 20 17 0), vr (some (21, 18)), vi (iv S 20 19 0), vr (some (21, 20)), vr (some (21, 21)), vi (iv S 20 22 0), vi (iv S 20 23 0), vi (iv S 20 24 0), vr (some (21, 25)), vr (some (21, 26)), vr (some (21, 27)), vr (some (21, 28)), vr (some (21, 29)), vr (some (21, 30)), vi (iv S 20 31 0), vi (iv S 20 32 0), vi (iv S 20 33 0), vi (iv S 20 34 0)])) := by
  funext j
  obtain ⟨t, y⟩ := j
  by_cases h : t = 20
  · subst h
    by_cases h2 : y = 0
    · subst h2
      simp [hp, upI, iv, jv, ai, ar, si, up3]
    · simp [hp, upI, iv, jv, ai, ar, si, up3, h2]
  · simp [hp, upI, iv, jv, ai, ar, si, up3, h]
theorem hs_20_17 (S : ST) (v : Int) : hp (si S 20 17 0 v) = upI (hp S) (20, 0) (.inl (9, [vr (some (21, 0)), vr (some (21, 1)), vi (iv S 20 2 0), vi (iv S 20 3 0), vi (iv S 20 4 0), vr (some (21, 5)), vr (some (21, 6)), vr (some (21, 7)), vr (some (21, 8)), vr (some (21, 9)), vr (some (21, 10)), vr (some (21, 11)), vr (some (21, 12)), vr (some (21, 13)), vr (some (21, 14)), vi (iv S 20 15 0), vi (iv S 20 16 0), vi v, vr (some (21, 18)), vi (iv S 20 19 0), vr (some (21, 20)), vr (some (21, 21)), vi (iv S 20 22 0), vi (iv S 20 23 0), vi (iv S 20 24 0), vr (some (21, 25)), vr (some (21, 26)), vr (some (21, 27)), vr (some (21, 28)), vr (some (21, 29)), vr (some (21, 30)), vi (iv S 20 31 0), vi (iv S 20 32 0), vi (iv S 20 33 0), vi (iv S 20 34 0)])) := by
  funext j
  obtain ⟨t, y⟩ := j
  by_cases h : t = 20
  · subst h
    by_cases h2 : y = 0
    · subst h2
      simp [hp, upI, iv, jv, ai, ar, si, up3]
    · simp [hp, upI, iv, jv, ai, ar, si, up3, h2]
  · simp [hp, upI, iv, jv, ai, ar, si, up3, h]
theorem hs_20_19 (S : ST) (v : Int) : hp (si S 20 19 0 v) = upI (hp S) (20, 0) (.inl (9, [vr (some (21, 0)), vr (some (21, 1)), vi (iv S 20 2 0), vi (iv S 20 3 0), vi (iv S 20 4 0), vr (some (21, 5)), vr (some (21, 6)), vr (some (21, 7)), vr (some (21, 8)), vr (some (21, 9)), vr (some (21, 10)), vr (some (21, 11)), vr (some (21, 12)), vr (some (21, 13)), vr (some (21, 14)), vi (iv S 20 15 0), vi (iv S 20 16 0), vi (iv S 20 17 0), vr (some (21, 18)), vi v, vr (some (21, 20)), vr (some (21, 21)), vi (iv S 20 22 0), vi (iv S 20 23 0), vi (iv S 20 24 0), vr (some (21, 25)), vr (some (21, 26)), vr (some (21, 27)), vr (some (21, 28)), vr (some (21, 29)), vr (some (21, 30)), vi (iv S 20 31 0), vi (iv S 20 32 0), vi (iv S 20 33 0), vi (iv S 20 34 0)])) := by
  funext j
  obtain ⟨t, y⟩ := j
  by_cases h : t = 20
  · subst h
    by_cases h2 : y = 0
    · subst h2
      simp [hp, upI, iv, jv, ai, ar, si, up3]
    · simp [hp, upI, iv, jv, ai, ar, si, up3, h2]
  · simp [hp, upI, iv, jv, ai, ar, si, up3, h]
theorem hs_20_22 (S : ST) (v : Int) : hp (si S 20 22 0 v) = upI (hp S) (20, 0) (.inl (9, [vr (some (21, 0)), vr (some (21, 1)), vi (iv S 20 2 0), vi (iv S 20 3 0), vi (iv S 20 4 0), vr (some (21, 5)), vr (some (21, 6)), vr (some (21, 7)), vr (some (21, 8)), vr (some (21, 9)), vr (some (21, 10)), vr (some (21, 11)), vr (some (21, 12)), vr (some (21, 13)), vr (some (21, 14)), vi (iv S 20 15 0), vi (iv S 20 16 0), vi (iv S 20 17 0), vr (some (21, 18)), vi (iv S 20 19 0), vr (some (21, 20)), vr (some (21, 21)), vi v, vi (iv S 20 23 0), vi (iv S 20 24 0), vr (some (21, 25)), vr (some (21, 26)), vr (some (21, 27)), vr (some (21, 28)), vr (some (21, 29)), vr (some (21, 30)), vi (iv S 20 31 0), vi (iv S 20 32 0), vi (iv S 20 33 0), vi (iv S 20 34 0)])) := by
  funext j
  obtain ⟨t, y⟩ := j
  by_cases h : t = 20
  · subst h
    by_cases h2 : y = 0
    · subst h2
      simp [hp, upI, iv, jv, ai, ar, si, up3]
    · simp [hp, upI, iv, jv, ai, ar, si, up3, h2]
  · simp [hp, upI, iv, jv, ai, ar, si, up3, h]
theorem hs_20_23 (S : ST) (v : Int) : hp (si S 20 23 0 v) = upI (hp S) (20, 0) (.inl (9, [vr (some (21, 0)), vr (some (21, 1)), vi (iv S 20 2 0), vi (iv S 20 3 0), vi (iv S 20 4 0), vr (some (21, 5)), vr (some (21, 6)), vr (some (21, 7)), vr (some (21, 8)), vr (some (21, 9)), vr (some (21, 10)), vr (some (21, 11)), vr (some (21, 12)), vr (some (21, 13)), vr (some (21, 14)), vi (iv S 20 15 0), vi (iv S 20 16 0), vi (iv S 20 17 0), vr (some (21, 18)), vi (iv S 20 19 0), vr (some (21, 20)), vr (some (21, 21)), vi (iv S 20 22 0), vi v, vi (iv S 20 24 0), vr (some (21, 25)), vr (some (21, 26)), vr (some (21, 27)), vr (some (21, 28)), vr (some (21, 29)), vr (some (21, 30)), vi (iv S 20 31 0), vi (iv S 20 32 0), vi (iv S 20 33 0), vi (iv S 20 34 0)])) := by
  funext j
  obtain ⟨t, y⟩ := j
  by_cases h : t = 20
  · subst h
    by_cases h2 : y = 0
    · subst h2
      simp [hp, upI, iv, jv, ai, ar, si, up3]
    · simp [hp, upI, iv, jv, ai, ar, si, up3, h2]
  · simp [hp, upI, iv, jv, ai, ar, si, up3, h]
theorem hs_20_24 (S : ST) (v : Int) : hp (si S 20 24 0 v) = upI (hp S) (20, 0) (.inl (9, [vr (some (21, 0)), vr (some (21, 1)), vi (iv S 20 2 0), vi (iv S 20 3 0), vi (iv S 20 4 0), vr (some (21, 5)), vr (some (21, 6)), vr (some (21, 7)), vr (some (21, 8)), vr (some (21, 9)), vr (some (21, 10)), vr (some (21, 11)), vr (some (21, 12)), vr (some (21, 13)), vr (some (21, 14)), vi (iv S 20 15 0), vi (iv S 20 16 0), vi (iv S 20 17 0), vr (some (21, 18)), vi (iv S 20 19 0), vr (some (21, 20)), vr (some (21, 21)), vi (iv S 20 22 0), vi (iv S 20 23 0), vi v, vr (some (21, 25)), vr (some (21, 26)), vr (some (21, 27)), vr (some (21, 28)), vr (some (21, 29)), vr (some (21, 30)), vi (iv S 20 31 0), vi (iv S 20 32 0), vi (iv S 20 33 0), vi (iv S 20 34 0)])) := by
  funext j
  obtain ⟨t, y⟩ := j
  by_cases h : t = 20
  · subst h
    by_cases h2 : y = 0
    · subst h2
      simp [hp, upI, iv, jv, ai, ar, si, up3]
    · simp [hp, upI, iv, jv, ai, ar, si, up3, h2]
  · simp [hp, upI, iv, jv, ai, ar, si, up3, h]
theorem hs_20_31 (S : ST) (v : Int) : hp (si S 20 31 0 v) = upI (hp S) (20, 0) (.inl (9, [vr (some (21, 0)), vr (some (21, 1)), vi (iv S 20 2 0), vi (iv S 20 3 0), vi (iv S 20 4 0), vr (some (21, 5)), vr (some (21, 6)), vr (some (21, 7)), vr (some (21, 8)), vr (some (21, 9)), vr (some (21, 10)), vr (some (21, 11)), vr (some (21, 12)), vr (some (21, 13)), vr (some (21, 14)), vi (iv S 20 15 0), vi (iv S 20 16 0), vi (iv S 20 17 0), vr (some (21, 18)), vi (iv S 20 19 0), vr (some (21, 20)), vr (some (21, 21)), vi (iv S 20 22 0), vi (iv S 20 23 0), vi (iv S 20 24 0), vr (some (21, 25)), vr (some (21, 26)), vr (some (21, 27)), vr (some (21, 28)), vr (some (21, 29)), vr (some (21, 30)), vi v, vi (iv S 20 32 0), vi (iv S 20 33 0), vi (iv S 20 34 0)])) := by
  funext j
  obtain ⟨t, y⟩ := j
  by_cases h : t = 20
  · subst h
    by_cases h2 : y = 0
    · subst h2
      simp [hp, upI, iv, jv, ai, ar, si, up3]
    · simp [hp, upI, iv, jv, ai, ar, si, up3, h2]
  · simp [hp, upI, iv, jv, ai, ar, si, up3, h]
theorem hs_20_32 (S : ST) (v : Int) : hp (si S 20 32 0 v) = upI (hp S) (20, 0) (.inl (9, [vr (some (21, 0)), vr (some (21, 1)), vi (iv S 20 2 0), vi (iv S 20 3 0), vi (iv S 20 4 0), vr (some (21, 5)), vr (some (21, 6)), vr (some (21, 7)), vr (some (21, 8)), vr (some (21, 9)), vr (some (21, 10)), vr (some (21, 11)), vr (some (21, 12)), vr (some (21, 13)), vr (some (21, 14)), vi (iv S 20 15 0), vi (iv S 20 16 0), vi (iv S 20 17 0), vr (some (21, 18)), vi (iv S 20 19 0), vr (some (21, 20)), vr (some (21, 21)), vi (iv S 20 22 0), vi (iv S 20 23 0), vi (iv S 20 24 0), vr (some (21, 25)), vr (some (21, 26)), vr (some (21, 27)), vr (some (21, 28)), vr (some (21, 29)), vr (some (21, 30)), vi (iv S 20 31 0), vi v, vi (iv S 20 33 0), vi (iv S 20 34 0)])) := by
  funext j
  obtain ⟨t, y⟩ := j
  by_cases h : t = 20
  · subst h
    by_cases h2 : y = 0
    · subst h2
      simp [hp, upI, iv, jv, ai, ar, si, up3]
    · simp [hp, upI, iv, jv, ai, ar, si, up3, h2]
  · simp [hp, upI, iv, jv, ai, ar, si, up3, h]
theorem hs_20_33 (S : ST) (v : Int) : hp (si S 20 33 0 v) = upI (hp S) (20, 0) (.inl (9, [vr (some (21, 0)), vr (some (21, 1)), vi (iv S 20 2 0), vi (iv S 20 3 0), vi (iv S 20 4 0), vr (some (21, 5)), vr (some (21, 6)), vr (some (21, 7)), vr (some (21, 8)), vr (some (21, 9)), vr (some (21, 10)), vr (some (21, 11)), vr (some (21, 12)), vr (some (21, 13)), vr (some (21, 14)), vi (iv S 20 15 0), vi (iv S 20 16 0), vi (iv S 20 17 0), vr (some (21, 18)), vi (iv S 20 19 0), vr (some (21, 20)), vr (some (21, 21)), vi (iv S 20 22 0), vi (iv S 20 23 0), vi (iv S 20 24 0), vr (some (21, 25)), vr (some (21, 26)), vr (some (21, 27)), vr (some (21, 28)), vr (some (21, 29)), vr (some (21, 30)), vi (iv S 20 31 0), vi (iv S 20 32 0), vi v, vi (iv S 20 34 0)])) := by
  funext j
  obtain ⟨t, y⟩ := j
  by_cases h : t = 20
  · subst h
    by_cases h2 : y = 0
    · subst h2
      simp [hp, upI, iv, jv, ai, ar, si, up3]
    · simp [hp, upI, iv, jv, ai, ar, si, up3, h2]
  · simp [hp, upI, iv, jv, ai, ar, si, up3, h]
theorem hs_20_34 (S : ST) (v : Int) : hp (si S 20 34 0 v) = upI (hp S) (20, 0) (.inl (9, [vr (some (21, 0)), vr (some (21, 1)), vi (iv S 20 2 0), vi (iv S 20 3 0), vi (iv S 20 4 0), vr (some (21, 5)), vr (some (21, 6)), vr (some (21, 7)), vr (some (21, 8)), vr (some (21, 9)), vr (some (21, 10)), vr (some (21, 11)), vr (some (21, 12)), vr (some (21, 13)), vr (some (21, 14)), vi (iv S 20 15 0), vi (iv S 20 16 0), vi (iv S 20 17 0), vr (some (21, 18)), vi (iv S 20 19 0), vr (some (21, 20)), vr (some (21, 21)), vi (iv S 20 22 0), vi (iv S 20 23 0), vi (iv S 20 24 0), vr (some (21, 25)), vr (some (21, 26)), vr (some (21, 27)), vr (some (21, 28)), vr (some (21, 29)), vr (some (21, 30)), vi (iv S 20 31 0), vi (iv S 20 32 0), vi (iv S 20 33 0), vi v])) := by
  funext j
  obtain ⟨t, y⟩ := j
  by_cases h : t = 20
  · subst h
    by_cases h2 : y = 0
    · subst h2
      simp [hp, upI, iv, jv, ai, ar, si, up3]
    · simp [hp, upI, iv, jv, ai, ar, si, up3, h2]
  · simp [hp, upI, iv, jv, ai, ar, si, up3, h]
theorem hs_8_4 (S : ST) (x : Nat) (v : Nat) : hp (sj S 8 4 x v) = upI (hp S) (8, x) (.inl (0, [vr (some (9, x)), vi (iv S 8 1 x), vi (iv S 8 2 x), vi (iv S 8 3 x), vl (v : Nat), vi (iv S 8 5 x), vi (iv S 8 6 x), vi (iv S 8 7 x), vr (some (10, x))])) := by
  funext j
  obtain ⟨t, y⟩ := j
  by_cases h : t = 8
  · subst h
    by_cases h2 : y = x
    · subst h2
      simp [hp, upI, iv, jv, ai, ar, sj, up3]
    · simp [hp, upI, iv, jv, ai, ar, sj, up3, h2]
  · simp [hp, upI, iv, jv, ai, ar, sj, up3, h]
theorem hs_11_4 (S : ST) (x : Nat) (v : Nat) : hp (sj S 11 4 x v) = upI (hp S) (11, x) (.inl (1, [vr (some (12, x)), vi (iv S 11 1 x), vi (iv S 11 2 x), vi (iv S 11 3 x), vl (v : Nat), vi (x % 5 : Nat), vi (iv S 11 6 x), vi (iv S 11 7 x), vr (some (13, x))])) := by
  funext j
  obtain ⟨t, y⟩ := j
  by_cases h : t = 11
  · subst h
    by_cases h2 : y = x
    · subst h2
      simp [hp, upI, iv, jv, ai, ar, sj, up3]
    · simp [hp, upI, iv, jv, ai, ar, sj, up3, h2]
  · simp [hp, upI, iv, jv, ai, ar, sj, up3, h]
theorem hs_14_4 (S : ST) (x : Nat) (v : Nat) : hp (sj S 14 4 x v) = upI (hp S) (14, x) (.inl (2, [vi (iv S 14 0 x), vi (iv S 14 1 x), vi (iv S 14 2 x), vr (some (7, x / 30)), vl (v : Nat), vl (jv S 14 5 x : Nat)])) := by
  funext j
  obtain ⟨t, y⟩ := j
  by_cases h : t = 14
  · subst h
    by_cases h2 : y = x
    · subst h2
      simp [hp, upI, iv, jv, ai, ar, sj, up3]
    · simp [hp, upI, iv, jv, ai, ar, sj, up3, h2]
  · simp [hp, upI, iv, jv, ai, ar, sj, up3, h]
theorem hs_14_5 (S : ST) (x : Nat) (v : Nat) : hp (sj S 14 5 x v) = upI (hp S) (14, x) (.inl (2, [vi (iv S 14 0 x), vi (iv S 14 1 x), vi (iv S 14 2 x), vr (some (7, x / 30)), vl (jv S 14 4 x : Nat), vl (v : Nat)])) := by
  funext j
  obtain ⟨t, y⟩ := j
  by_cases h : t = 14
  · subst h
    by_cases h2 : y = x
    · subst h2
      simp [hp, upI, iv, jv, ai, ar, sj, up3]
    · simp [hp, upI, iv, jv, ai, ar, sj, up3, h2]
  · simp [hp, upI, iv, jv, ai, ar, sj, up3, h]
theorem ha_2 (S : ST) (j : Nat) (v : Int) : hp (sa S 2 0 j v) = upI (hp S) (2, 0) (.inr (.inl (0, 40, upF (ai S 2 0) j v))) := by
  funext j'
  obtain ⟨t, y⟩ := j'
  by_cases h : t = 2
  · subst h
    by_cases h2 : y = 0
    · subst h2
      simp [hp, upI, iv, jv, ai, ar, sa]
      try (funext z; by_cases hz : z = j <;> simp [upF, up3, hz, sa, sr])
    · simp [hp, upI, iv, jv, ai, ar, sa, up3_ne2, h2]
  · simp [hp, upI, iv, jv, ai, ar, sa, up3_ne, h]
theorem ha_6 (S : ST) (x : Nat) (j : Nat) (v : Int) : hp (sa S 6 x j v) = upI (hp S) (6, x) (.inr (.inl (0, 6, upF (ai S 6 x) j v))) := by
  funext j'
  obtain ⟨t, y⟩ := j'
  by_cases h : t = 6
  · subst h
    by_cases h2 : y = x
    · subst h2
      simp [hp, upI, iv, jv, ai, ar, sa]
      try (funext z; by_cases hz : z = j <;> simp [upF, up3, hz, sa, sr])
    · simp [hp, upI, iv, jv, ai, ar, sa, up3_ne2, h2]
  · simp [hp, upI, iv, jv, ai, ar, sa, up3_ne, h]
theorem ha_21_0 (S : ST) (j : Nat) (v : Int) : hp (sa S 21 0 j v) = upI (hp S) (21, 0) (.inr (.inl (1, 40, upF (ai S 21 0) j v))) := by
  funext j'
  obtain ⟨t, y⟩ := j'
  by_cases h : t = 21
  · subst h
    by_cases h2 : y = 0
    · subst h2
      simp [hp, upI, iv, jv, ai, ar, sa]
      try (funext z; by_cases hz : z = j <;> simp [upF, up3, hz, sa, sr])
    · simp [hp, upI, iv, jv, ai, ar, sa, up3_ne2, h2]
  · simp [hp, upI, iv, jv, ai, ar, sa, up3_ne, h]
theorem ha_21_1 (S : ST) (j : Nat) (v : Int) : hp (sa S 21 1 j v) = upI (hp S) (21, 1) (.inr (.inl (0, 40, upF (ai S 21 1) j v))) := by
  funext j'
  obtain ⟨t, y⟩ := j'
  by_cases h : t = 21
  · subst h
    by_cases h2 : y = 1
    · subst h2
      simp [hp, upI, iv, jv, ai, ar, sa]
      try (funext z; by_cases hz : z = j <;> simp [upF, up3, hz, sa, sr])
    · simp [hp, upI, iv, jv, ai, ar, sa, up3_ne2, h2]
  · simp [hp, upI, iv, jv, ai, ar, sa, up3_ne, h]
theorem ha_21_5 (S : ST) (j : Nat) (v : Int) : hp (sa S 21 5 j v) = upI (hp S) (21, 5) (.inr (.inl (0, 5, upF (ai S 21 5) j v))) := by
  funext j'
  obtain ⟨t, y⟩ := j'
  by_cases h : t = 21
  · subst h
    by_cases h2 : y = 5
    · subst h2
      simp [hp, upI, iv, jv, ai, ar, sa]
      try (funext z; by_cases hz : z = j <;> simp [upF, up3, hz, sa, sr])
    · simp [hp, upI, iv, jv, ai, ar, sa, up3_ne2, h2]
  · simp [hp, upI, iv, jv, ai, ar, sa, up3_ne, h]
theorem ha_21_6 (S : ST) (j : Nat) (v : Int) : hp (sa S 21 6 j v) = upI (hp S) (21, 6) (.inr (.inl (0, 5, upF (ai S 21 6) j v))) := by
  funext j'
  obtain ⟨t, y⟩ := j'
  by_cases h : t = 21
  · subst h
    by_cases h2 : y = 6
    · subst h2
      simp [hp, upI, iv, jv, ai, ar, sa]
      try (funext z; by_cases hz : z = j <;> simp [upF, up3, hz, sa, sr])
    · simp [hp, upI, iv, jv, ai, ar, sa, up3_ne2, h2]
  · simp [hp, upI, iv, jv, ai, ar, sa, up3_ne, h]
theorem ha_21_7 (S : ST) (j : Nat) (v : Int) : hp (sa S 21 7 j v) = upI (hp S) (21, 7) (.inr (.inl (1, 5, upF (ai S 21 7) j v))) := by
  funext j'
  obtain ⟨t, y⟩ := j'
  by_cases h : t = 21
  · subst h
    by_cases h2 : y = 7
    · subst h2
      simp [hp, upI, iv, jv, ai, ar, sa]
      try (funext z; by_cases hz : z = j <;> simp [upF, up3, hz, sa, sr])
    · simp [hp, upI, iv, jv, ai, ar, sa, up3_ne2, h2]
  · simp [hp, upI, iv, jv, ai, ar, sa, up3_ne, h]
theorem ha_21_8 (S : ST) (j : Nat) (v : Int) : hp (sa S 21 8 j v) = upI (hp S) (21, 8) (.inr (.inl (0, 5, upF (ai S 21 8) j v))) := by
  funext j'
  obtain ⟨t, y⟩ := j'
  by_cases h : t = 21
  · subst h
    by_cases h2 : y = 8
    · subst h2
      simp [hp, upI, iv, jv, ai, ar, sa]
      try (funext z; by_cases hz : z = j <;> simp [upF, up3, hz, sa, sr])
    · simp [hp, upI, iv, jv, ai, ar, sa, up3_ne2, h2]
  · simp [hp, upI, iv, jv, ai, ar, sa, up3_ne, h]
theorem ha_21_9 (S : ST) (j : Nat) (v : Int) : hp (sa S 21 9 j v) = upI (hp S) (21, 9) (.inr (.inl (0, 30, upF (ai S 21 9) j v))) := by
  funext j'
  obtain ⟨t, y⟩ := j'
  by_cases h : t = 21
  · subst h
    by_cases h2 : y = 9
    · subst h2
      simp [hp, upI, iv, jv, ai, ar, sa]
      try (funext z; by_cases hz : z = j <;> simp [upF, up3, hz, sa, sr])
    · simp [hp, upI, iv, jv, ai, ar, sa, up3_ne2, h2]
  · simp [hp, upI, iv, jv, ai, ar, sa, up3_ne, h]
theorem ha_21_10 (S : ST) (j : Nat) (v : Int) : hp (sa S 21 10 j v) = upI (hp S) (21, 10) (.inr (.inl (0, 5, upF (ai S 21 10) j v))) := by
  funext j'
  obtain ⟨t, y⟩ := j'
  by_cases h : t = 21
  · subst h
    by_cases h2 : y = 10
    · subst h2
      simp [hp, upI, iv, jv, ai, ar, sa]
      try (funext z; by_cases hz : z = j <;> simp [upF, up3, hz, sa, sr])
    · simp [hp, upI, iv, jv, ai, ar, sa, up3_ne2, h2]
  · simp [hp, upI, iv, jv, ai, ar, sa, up3_ne, h]
theorem ha_21_11 (S : ST) (j : Nat) (v : Int) : hp (sa S 21 11 j v) = upI (hp S) (21, 11) (.inr (.inl (0, 5, upF (ai S 21 11) j v))) := by
  funext j'
  obtain ⟨t, y⟩ := j'
  by_cases h : t = 21
  · subst h
    by_cases h2 : y = 11
    · subst h2
      simp [hp, upI, iv, jv, ai, ar, sa]
      try (funext z; by_cases hz : z = j <;> simp [upF, up3, hz, sa, sr])
    · simp [hp, upI, iv, jv, ai, ar, sa, up3_ne2, h2]
  · simp [hp, upI, iv, jv, ai, ar, sa, up3_ne, h]
theorem ha_21_12 (S : ST) (j : Nat) (v : Int) : hp (sa S 21 12 j v) = upI (hp S) (21, 12) (.inr (.inl (0, 5, upF (ai S 21 12) j v))) := by
  funext j'
  obtain ⟨t, y⟩ := j'
  by_cases h : t = 21
  · subst h
    by_cases h2 : y = 12
    · subst h2
      simp [hp, upI, iv, jv, ai, ar, sa]
      try (funext z; by_cases hz : z = j <;> simp [upF, up3, hz, sa, sr])
    · simp [hp, upI, iv, jv, ai, ar, sa, up3_ne2, h2]
  · simp [hp, upI, iv, jv, ai, ar, sa, up3_ne, h]
theorem ha_21_13 (S : ST) (j : Nat) (v : Int) : hp (sa S 21 13 j v) = upI (hp S) (21, 13) (.inr (.inl (0, 30, upF (ai S 21 13) j v))) := by
  funext j'
  obtain ⟨t, y⟩ := j'
  by_cases h : t = 21
  · subst h
    by_cases h2 : y = 13
    · subst h2
      simp [hp, upI, iv, jv, ai, ar, sa]
      try (funext z; by_cases hz : z = j <;> simp [upF, up3, hz, sa, sr])
    · simp [hp, upI, iv, jv, ai, ar, sa, up3_ne2, h2]
  · simp [hp, upI, iv, jv, ai, ar, sa, up3_ne, h]
theorem ha_21_14 (S : ST) (j : Nat) (v : Int) : hp (sa S 21 14 j v) = upI (hp S) (21, 14) (.inr (.inl (0, 5, upF (ai S 21 14) j v))) := by
  funext j'
  obtain ⟨t, y⟩ := j'
  by_cases h : t = 21
  · subst h
    by_cases h2 : y = 14
    · subst h2
      simp [hp, upI, iv, jv, ai, ar, sa]
      try (funext z; by_cases hz : z = j <;> simp [upF, up3, hz, sa, sr])
    · simp [hp, upI, iv, jv, ai, ar, sa, up3_ne2, h2]
  · simp [hp, upI, iv, jv, ai, ar, sa, up3_ne, h]
theorem ha_21_18 (S : ST) (j : Nat) (v : Int) : hp (sa S 21 18 j v) = upI (hp S) (21, 18) (.inr (.inl (0, 5, upF (ai S 21 18) j v))) := by
  funext j'
  obtain ⟨t, y⟩ := j'
  by_cases h : t = 21
  · subst h
    by_cases h2 : y = 18
    · subst h2
      simp [hp, upI, iv, jv, ai, ar, sa]
      try (funext z; by_cases hz : z = j <;> simp [upF, up3, hz, sa, sr])
    · simp [hp, upI, iv, jv, ai, ar, sa, up3_ne2, h2]
  · simp [hp, upI, iv, jv, ai, ar, sa, up3_ne, h]
theorem ha_21_20 (S : ST) (j : Nat) (v : Int) : hp (sa S 21 20 j v) = upI (hp S) (21, 20) (.inr (.inl (1, 40, upF (ai S 21 20) j v))) := by
  funext j'
  obtain ⟨t, y⟩ := j'
  by_cases h : t = 21
  · subst h
    by_cases h2 : y = 20
    · subst h2
      simp [hp, upI, iv, jv, ai, ar, sa]
      try (funext z; by_cases hz : z = j <;> simp [upF, up3, hz, sa, sr])
    · simp [hp, upI, iv, jv, ai, ar, sa, up3_ne2, h2]
  · simp [hp, upI, iv, jv, ai, ar, sa, up3_ne, h]
theorem ha_21_21 (S : ST) (j : Nat) (v : Int) : hp (sa S 21 21 j v) = upI (hp S) (21, 21) (.inr (.inl (0, 40, upF (ai S 21 21) j v))) := by
  funext j'
  obtain ⟨t, y⟩ := j'
  by_cases h : t = 21
  · subst h
    by_cases h2 : y = 21
    · subst h2
      simp [hp, upI, iv, jv, ai, ar, sa]
      try (funext z; by_cases hz : z = j <;> simp [upF, up3, hz, sa, sr])
    · simp [hp, upI, iv, jv, ai, ar, sa, up3_ne2, h2]
  · simp [hp, upI, iv, jv, ai, ar, sa, up3_ne, h]
theorem ha_21_25 (S : ST) (j : Nat) (v : Int) : hp (sa S 21 25 j v) = upI (hp S) (21, 25) (.inr (.inl (0, 5, upF (ai S 21 25) j v))) := by
  funext j'
  obtain ⟨t, y⟩ := j'
  by_cases h : t = 21
  · subst h
    by_cases h2 : y = 25
    · subst h2
      simp [hp, upI, iv, jv, ai, ar, sa]
      try (funext z; by_cases hz : z = j <;> simp [upF, up3, hz, sa, sr])
    · simp [hp, upI, iv, jv, ai, ar, sa, up3_ne2, h2]
  · simp [hp, upI, iv, jv, ai, ar, sa, up3_ne, h]
theorem ha_21_26 (S : ST) (j : Nat) (v : Int) : hp (sa S 21 26 j v) = upI (hp S) (21, 26) (.inr (.inl (0, 5, upF (ai S 21 26) j v))) := by
  funext j'
  obtain ⟨t, y⟩ := j'
  by_cases h : t = 21
  · subst h
    by_cases h2 : y = 26
    · subst h2
      simp [hp, upI, iv, jv, ai, ar, sa]
      try (funext z; by_cases hz : z = j <;> simp [upF, up3, hz, sa, sr])
    · simp [hp, upI, iv, jv, ai, ar, sa, up3_ne2, h2]
  · simp [hp, upI, iv, jv, ai, ar, sa, up3_ne, h]
theorem ha_21_27 (S : ST) (j : Nat) (v : Int) : hp (sa S 21 27 j v) = upI (hp S) (21, 27) (.inr (.inl (0, 5, upF (ai S 21 27) j v))) := by
  funext j'
  obtain ⟨t, y⟩ := j'
  by_cases h : t = 21
  · subst h
    by_cases h2 : y = 27
    · subst h2
      simp [hp, upI, iv, jv, ai, ar, sa]
      try (funext z; by_cases hz : z = j <;> simp [upF, up3, hz, sa, sr])
    · simp [hp, upI, iv, jv, ai, ar, sa, up3_ne2, h2]
  · simp [hp, upI, iv, jv, ai, ar, sa, up3_ne, h]
theorem ha_21_28 (S : ST) (j : Nat) (v : Int) : hp (sa S 21 28 j v) = upI (hp S) (21, 28) (.inr (.inl (0, 30, upF (ai S 21 28) j v))) := by
  funext j'
  obtain ⟨t, y⟩ := j'
  by_cases h : t = 21
  · subst h
    by_cases h2 : y = 28
    · subst h2
      simp [hp, upI, iv, jv, ai, ar, sa]
      try (funext z; by_cases hz : z = j <;> simp [upF, up3, hz, sa, sr])
    · simp [hp, upI, iv, jv, ai, ar, sa, up3_ne2, h2]
  · simp [hp, upI, iv, jv, ai, ar, sa, up3_ne, h]
theorem ha_21_29 (S : ST) (j : Nat) (v : Int) : hp (sa S 21 29 j v) = upI (hp S) (21, 29) (.inr (.inl (0, 30, upF (ai S 21 29) j v))) := by
  funext j'
  obtain ⟨t, y⟩ := j'
  by_cases h : t = 21
  · subst h
    by_cases h2 : y = 29
    · subst h2
      simp [hp, upI, iv, jv, ai, ar, sa]
      try (funext z; by_cases hz : z = j <;> simp [upF, up3, hz, sa, sr])
    · simp [hp, upI, iv, jv, ai, ar, sa, up3_ne2, h2]
  · simp [hp, upI, iv, jv, ai, ar, sa, up3_ne, h]
theorem ha_21_30 (S : ST) (j : Nat) (v : Int) : hp (sa S 21 30 j v) = upI (hp S) (21, 30) (.inr (.inl (0, 5, upF (ai S 21 30) j v))) := by
  funext j'
  obtain ⟨t, y⟩ := j'
  by_cases h : t = 21
  · subst h
    by_cases h2 : y = 30
    · subst h2
      simp [hp, upI, iv, jv, ai, ar, sa]
      try (funext z; by_cases hz : z = j <;> simp [upF, up3, hz, sa, sr])
    · simp [hp, upI, iv, jv, ai, ar, sa, up3_ne2, h2]
  · simp [hp, upI, iv, jv, ai, ar, sa, up3_ne, h]
theorem ha_30 (S : ST) (j : Nat) (v : Int) : hp (sa S 30 0 j v) = upI (hp S) (30, 0) (.inr (.inr (.inr (6, 1, upF (ai S 30 0) j v)))) := by
  funext j'
  obtain ⟨t, y⟩ := j'
  by_cases h : t = 30
  · subst h
    by_cases h2 : y = 0
    · subst h2
      simp [hp, upI, iv, jv, ai, ar, sa]
      try (funext z; by_cases hz : z = j <;> simp [upF, up3, hz, sa, sr])
    · simp [hp, upI, iv, jv, ai, ar, sa, up3_ne2, h2]
  · simp [hp, upI, iv, jv, ai, ar, sa, up3_ne, h]
theorem ha_9 (S : ST) (x : Nat) (j : Nat) (v : Option Nat) : hp (sr S 9 x j v) = upI (hp S) (9, x) (.inr (.inr (.inl (2, 6, upF (fun j => (ar S 9 x j).map (fun v => ((11, v) : Idn))) j (v.map (fun v => ((11, v) : Idn))))))) := by
  funext j'
  obtain ⟨t, y⟩ := j'
  by_cases h : t = 9
  · subst h
    by_cases h2 : y = x
    · subst h2
      simp [hp, upI, iv, jv, ai, ar, sa]
      try (funext z; by_cases hz : z = j <;> simp [upF, up3, hz, sr, sr])
    · simp [hp, upI, iv, jv, ai, ar, sr, up3_ne2, h2]
  · simp [hp, upI, iv, jv, ai, ar, sr, up3_ne, h]
theorem ha_12 (S : ST) (x : Nat) (j : Nat) (v : Option Nat) : hp (sr S 12 x j v) = upI (hp S) (12, x) (.inr (.inr (.inl (2, 6, upF (fun j => (ar S 12 x j).map (fun v => ((14, v) : Idn))) j (v.map (fun v => ((14, v) : Idn))))))) := by
  funext j'
  obtain ⟨t, y⟩ := j'
  by_cases h : t = 12
  · subst h
    by_cases h2 : y = x
    · subst h2
      simp [hp, upI, iv, jv, ai, ar, sa]
      try (funext z; by_cases hz : z = j <;> simp [upF, up3, hz, sr, sr])
    · simp [hp, upI, iv, jv, ai, ar, sr, up3_ne2, h2]
  · simp [hp, upI, iv, jv, ai, ar, sr, up3_ne, h]
