/-- groups: their parts by index -/
def pa (S : ST) (t y j : Nat) : Nat := (ar S t y j).getD 0
def GP (S : ST) (t a y lim : Nat) : Prop := (0 ≤ iv S t 3 y ∧ iv S t 3 y ≤ 6) ∧ ∀ j : Nat, (j : Int) < iv S t 3 y → ar S a y j = some (pa S a y j) ∧ pa S a y j < lim
/-- the numbers of a group -/
def GN (S : ST) (t y : Nat) : Prop := (0 ≤ iv S t 1 y ∧ iv S t 1 y ≤ 4) ∧ (-20 ≤ iv S t 2 y ∧ iv S t 2 y ≤ 20) ∧ (0 ≤ iv S t 6 y ∧ iv S t 6 y ≤ 40) ∧ (-1 ≤ iv S t 7 y ∧ iv S t 7 y ≤ 40) ∧ jv S t 4 y < 2 ^ 40
def IL (S : ST) : Prop := ∀ p, p < 60 → (0 ≤ iv S 14 0 p ∧ iv S 14 0 p < 16) ∧ (0 ≤ iv S 14 1 p ∧ iv S 14 1 p ≤ 40) ∧ (-1 ≤ iv S 14 2 p ∧ iv S 14 2 p ≤ 40) ∧ jv S 14 4 p < 2 ^ 40 ∧ jv S 14 5 p < 2 ^ 40
def IC (S : ST) : Prop := ∀ c, c < 10 → (0 ≤ iv S 11 6 c ∧ iv S 11 6 c ≤ 40) ∧ (-1 ≤ iv S 11 7 c ∧ iv S 11 7 c ≤ 40)
def anyb (p : Nat → Bool) (n : Nat) : Bool := match n with
  | 0 => false
  | n + 1 => anyb p n || p n
def leastF (e : Nat → Int) (m : Int) (n : Nat) : Int := match n with
  | 0 => m
  | n + 1 => min (leastF e m n) (e n)
def sumF (e : Nat → Int) (n : Nat) : Int := match n with
  | 0 => 0
  | n + 1 => sumF e n + e n
theorem sumF_b {e : Nat → Int} : ∀ n, (∀ j, j < n → 0 ≤ e j ∧ e j ≤ 40) → 0 ≤ sumF e n ∧ sumF e n ≤ 40 * n
  | 0, _ => by simp [sumF]
  | n + 1, h => by
    have ih := sumF_b n (fun j hj => h j (by omega))
    have h1 := h n (by omega)
    unfold sumF
    omega
theorem leastF_b {e : Nat → Int} {m : Int} (hm : 0 ≤ m ∧ m ≤ 40) : ∀ n, (∀ j, j < n → 0 ≤ e j ∧ e j ≤ 40) → 0 ≤ leastF e m n ∧ leastF e m n ≤ 40
  | 0, _ => hm
  | n + 1, h => by
    have ih := leastF_b hm n (fun j hj => h j (by omega))
    have h1 := h n (by omega)
    unfold leastF
    omega
theorem anyb_congr {p q : Nat → Bool} : ∀ n, (∀ k, k < n → p k = q k) → anyb p n = anyb q n
  | 0, _ => rfl
  | n + 1, h => by
    unfold anyb
    rw [anyb_congr n (fun k hk => h k (by omega)), h n (by omega)]
theorem anyb_f {p : Nat → Bool} : ∀ n, anyb p n = false → ∀ k, k < n → p k = false
  | 0, _, k, hk => absurd hk (Nat.not_lt_zero k)
  | n + 1, h, k, hk => by
    unfold anyb at h
    rw [Bool.or_eq_false_iff] at h
    by_cases q : k = n
    · subst q; exact h.2
    · exact anyb_f n h.1 k (by omega)
theorem anyb_t {p : Nat → Bool} : ∀ n, (∃ k, k < n ∧ p k = true) → anyb p n = true
  | 0, ⟨k, hk, _⟩ => absurd hk (Nat.not_lt_zero k)
  | n + 1, ⟨k, hk, h⟩ => by
    unfold anyb
    by_cases q : k = n
    · subst q; rw [h, Bool.or_true]
    · rw [anyb_t n ⟨k, by omega, h⟩, Bool.true_or]
theorem anyb_ex {p : Nat → Bool} : ∀ n, anyb p n = true → ∃ k, k < n ∧ p k = true
  | 0, h => by simp [anyb] at h
  | n + 1, h => by
    unfold anyb at h
    rw [Bool.or_eq_true] at h
    rcases h with h | h
    · obtain ⟨k, hk, hp⟩ := anyb_ex n h
      exact ⟨k, by omega, hp⟩
    · exact ⟨n, by omega, h⟩
/-- step 2 -/
def someK (nd n : Int) : Int := if nd ≤ 0 then 3 else if n < nd then 4 else if nd = 1 then 1 else if nd = n then 0 else 2
def aprF (kd nd most least sum : Int) : Int := if kd = 0 then least else if kd = 1 then min sum most else if kd = 2 then (if nd < 1 then most else min (sum / nd) most) else if kd = 3 then most else 0
theorem si_self (S : ST) (t k y : Nat) : si S t k y (iv S t k y) = S := by
  obtain ⟨f, r⟩ := S
  simp only [si, iv]
  congr 1
  funext a b c
  simp only [up3]
  split
  · rename_i h; obtain ⟨rfl, rfl, rfl⟩ := h; rfl
  · rfl
def setKS (S : ST) (t y : Nat) (k z : Int) : ST := si (si S t 1 y k) t 3 y z
theorem setKS_self (S : ST) (t y : Nat) (k : Int) : setKS S t y k (iv S t 3 y) = si S t 1 y k := by
  have h := si_self (si S t 1 y k) t 3 y
  have e : iv (si S t 1 y k) t 3 y = iv S t 3 y := by simp [iv, si, up3]
  rw [e] at h
  exact h
theorem setKS_id (S : ST) (t y : Nat) : setKS S t y (iv S t 1 y) (iv S t 3 y) = S := by rw [setKS_self, si_self]
/-- the parts of a group, all at once -/
def sar (S : ST) (t y : Nat) (A : Nat → Option Nat) : ST := (S.1, S.2.1, S.2.2.1, fun t' y' j => if t' = t ∧ y' = y then A j else S.2.2.2 t' y' j)
theorem sar_self (S : ST) (t y : Nat) : sar S t y (ar S t y) = S := by
  obtain ⟨a, b, c, f⟩ := S
  simp only [sar, ar]
  congr 3
  funext u v w
  split
  · rename_i h; obtain ⟨rfl, rfl⟩ := h; rfl
  · rfl
theorem sr_sar (S : ST) (t y j : Nat) (A : Nat → Option Nat) (v : Option Nat) : sr (sar S t y A) t y j v = sar S t y (upF A j v) := by
  simp only [sr, sar]
  congr 3
  funext a b c
  simp only [up3, upF]
  by_cases h1 : a = t <;> by_cases h2 : b = y <;> by_cases h3 : c = j <;> simp [h1, h2, h3]
theorem ar_sar (S : ST) (t y : Nat) (A : Nat → Option Nat) : ar (sar S t y A) t y = A := by
  funext j
  simp [ar, sar]
/-- insertion of the k-th into the ones before it, from the right -/
def insAt {α : Type} (A : Nat → α) (k a : Nat) (v : α) : Nat → α := fun j => if j < a then A j else if j = a then v else if j ≤ k then A (j - 1) else A j
def posn {α : Type} (lt : α → α → Bool) (A : Nat → α) (v : α) (n : Nat) : Nat := match n with
  | 0 => 0
  | n + 1 => if lt v (A n) = true then posn lt A v n else n + 1
def srt {α : Type} (lt : α → α → Bool) (A : Nat → α) (n : Nat) : Nat → α := match n with
  | 0 => A
  | n + 1 => insAt (srt lt A n) n (posn lt (srt lt A n) (A n) n) (A n)
theorem posn_le {α : Type} (lt : α → α → Bool) (A : Nat → α) (v : α) : ∀ n, posn lt A v n ≤ n
  | 0 => Nat.le_refl 0
  | n + 1 => by
    have ih := posn_le lt A v n
    unfold posn
    split <;> omega
theorem srt_out {α : Type} (lt : α → α → Bool) (A : Nat → α) : ∀ n j, n ≤ j → srt lt A n j = A j
  | 0, j, _ => rfl
  | n + 1, j, h => by
    have ih := srt_out lt A n
    have hp := posn_le lt (srt lt A n) (A n) n
    show insAt _ _ _ _ j = _
    unfold insAt
    rw [if_neg (by omega), if_neg (by omega), if_neg (by omega)]
    exact ih j (by omega)
theorem m_idiv {a b : Int} (ha : 0 ≤ a ∧ a < 1000000) (hb : 1 ≤ b ∧ b < 1000000) : Int32.ofInt a / Int32.ofInt b = Int32.ofInt (a / b) := by
  obtain ⟨x, rfl⟩ : ∃ x : Nat, a = x := ⟨a.toNat, by omega⟩
  obtain ⟨y, rfl⟩ : ∃ y : Nat, b = y := ⟨b.toNat, by omega⟩
  have e : ((x : Int) / (y : Int)) = ((x / y : Nat) : Int) := by simp
  rw [e, i32_nat, i32_nat, i32_nat]
  exact pk_div (by omega) (by omega) (by omega)
theorem m_ne0 {b : Int} (hb : 1 ≤ b ∧ b < 1000000) : ¬ Int32.ofInt b = 0 := fun q => by
  have := (i32_eq (a := b) (b := 0) (by omega) (by omega)).mp q
  omega
