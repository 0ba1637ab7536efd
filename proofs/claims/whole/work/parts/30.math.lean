theorem wb_tb (n : Nat) : (lN n).toBitVec = BitVec.ofNat 64 n := rfl
theorem wb_inj {a b : Int64} (h : a.toBitVec = b.toBitVec) : a = b := Int64.toBitVec_inj.mp h
theorem wb_tn {n : Nat} (h : n < 2 ^ 64) : (lN n).toBitVec.toNat = n := by rw [wb_tb, BitVec.toNat_ofNat, Nat.mod_eq_of_lt h]
theorem wb_c : ∀ k, k < 64 → ((nI k).toInt64 &&& 63) = lN k := by decide +kernel
theorem wb_cu : ∀ k, k < 64 → ((nI k).toInt64.toUInt64 &&& Int64.toUInt64 63) = UInt64.ofNat k := by decide +kernel
theorem wb_sm : ∀ k, k < 64 → (BitVec.ofNat 64 k).smod 64 = BitVec.ofNat 64 k := by decide +kernel
theorem wb_shr {n k : Nat} (hn : n < 2 ^ 64) (hk : k < 64) : ((lN n).toUInt64 >>> ((nI k).toInt64.toUInt64 &&& Int64.toUInt64 63)).toInt64 = lN (n / 2 ^ k) := by
  rw [wb_cu k hk]
  apply wb_inj
  apply BitVec.eq_of_toNat_eq
  show ((lN n).toUInt64 >>> UInt64.ofNat k).toNat = (BitVec.ofNat 64 _).toNat
  have h1 : (UInt64.ofNat k).toNat = k := by
    show (BitVec.ofNat 64 k).toNat = k
    rw [BitVec.toNat_ofNat, Nat.mod_eq_of_lt (by omega)]
  have h2 : (lN n).toUInt64.toNat = n := wb_tn hn
  rw [UInt64.toNat_shiftRight, h1, h2, Nat.mod_eq_of_lt hk, Nat.shiftRight_eq_div_pow, BitVec.toNat_ofNat, Nat.mod_eq_of_lt (Nat.lt_of_le_of_lt (Nat.div_le_self _ _) hn)]
theorem wb_shl (n : Nat) {k : Nat} (hk : k < 64) : lN n <<< ((nI k).toInt64 &&& 63) = lN (n * 2 ^ k) := by
  rw [wb_c k hk]
  apply wb_inj
  rw [Int64.toBitVec_shiftLeft, wb_tb, wb_tb, wb_tb, wb_sm k hk]
  apply BitVec.eq_of_toNat_eq
  rw [BitVec.shiftLeft_eq', BitVec.toNat_shiftLeft, BitVec.toNat_ofNat, BitVec.toNat_ofNat, BitVec.toNat_ofNat, Nat.mod_eq_of_lt (show k < 2 ^ 64 by omega), Nat.shiftLeft_eq, Nat.mul_mod, Nat.mod_mod, ← Nat.mul_mod]
theorem pf_lI {a : Nat} (h : a < 2 ^ 63) : (lN a).toInt = (a : Int) := lg_ofNat_toInt h
theorem pf_shr {a d : Nat} {D : Int64} (hD : (D.toBitVec.smod 64).toNat = d) (h : a < 2 ^ 62) : lN a >>> D = lN (a / 2 ^ d) := by
  have hd : a / 2 ^ d ≤ a := Nat.div_le_self _ _
  apply Int64.toInt_inj.mp
  have e : (lN a >>> D).toInt = (lN a).toInt >>> d := by
    rw [← hD]
    exact BitVec.toInt_sshiftRight ..
  rw [e, Int.shiftRight_eq_div_pow, pf_lI (by omega), pf_lI (by omega)]
  rfl
theorem fb_andL (a b : Nat) : lN a &&& lN b = lN (a &&& b) := by
  apply Int64.toBitVec_inj.1
  show BitVec.ofNat 64 a &&& BitVec.ofNat 64 b = BitVec.ofNat 64 (a &&& b)
  apply BitVec.eq_of_getLsbD_eq
  intro i hi
  simp [hi]
theorem fb_orL (a b : Nat) : lN a ||| lN b = lN (a ||| b) := by
  apply Int64.toBitVec_inj.1
  show BitVec.ofNat 64 a ||| BitVec.ofNat 64 b = BitVec.ofNat 64 (a ||| b)
  apply BitVec.eq_of_getLsbD_eq
  intro i hi
  simp [hi]
theorem m_lN (n : Nat) : Int64.ofInt (n : Int) = lN n := Int64.ofInt_eq_ofNat
theorem m_sh : ∀ k, k < 32 → ((nI k &&& 31).toBitVec.smod 32).toNat = k := by decide +kernel
theorem m_ishr {a k : Nat} (ha : a < 2147483648) (hk : k < 32) : Int32.ofInt (a : Int) >>> (Int32.ofInt (k : Int) &&& 31) = Int32.ofInt ((a / 2 ^ k : Nat) : Int) := by
  rw [i32_nat, i32_nat, i32_nat]
  exact pk_shrN ha _ k (m_sh k hk)
theorem m_iand1 {a : Nat} (ha : a < 4294967296) : Int32.ofInt (a : Int) &&& Int32.ofInt 1 = Int32.ofInt ((a % 2 : Nat) : Int) := by
  rw [i32_nat, i32_nat]
  exact pk_andN ha (m := Int32.ofInt 1) 1 rfl
def ctr (a : Nat) : Nat := if a % 2 = 0 then a + 1 else a - 1
theorem ctr_lt {a : Nat} (h : a < 16) : ctr a < 16 := by unfold ctr; split <;> omega
theorem m_ixor1 : ∀ a : Nat, a < 16 → Int32.ofInt (a : Int) ^^^ Int32.ofInt 1 = Int32.ofInt ((ctr a : Nat) : Int) := by decide +kernel
theorem m_s64 : ∀ k, k < 64 → (((nI k).toInt64 &&& 63).toBitVec.smod 64).toNat = k := by decide +kernel
theorem m_lshl1 {k : Nat} (hk : k < 63) : Int64.ofInt 1 <<< ((Int32.ofInt (k : Int)).toInt64 &&& 63) = Int64.ofInt ((2 ^ k : Nat) : Int) := by
  rw [i32_nat, m_lN, show Int64.ofInt 1 = lN 1 from rfl, wb_shl 1 (by omega), Nat.one_mul]
theorem m_lshr {B k : Nat} (hB : B < 2 ^ 62) (hk : k < 64) : Int64.ofInt (B : Int) >>> ((Int32.ofInt (k : Int)).toInt64 &&& 63) = Int64.ofInt ((B / 2 ^ k : Nat) : Int) := by
  rw [i32_nat, m_lN, m_lN]
  exact pf_shr (m_s64 k hk) hB
theorem m_lushr {B k : Nat} (hB : B < 2 ^ 64) (hk : k < 64) : ((Int64.ofInt (B : Int)).toUInt64 >>> ((Int32.ofInt (k : Int)).toInt64.toUInt64 &&& Int64.toUInt64 63)).toInt64 = Int64.ofInt ((B / 2 ^ k : Nat) : Int) := by
  rw [i32_nat, m_lN, m_lN]
  exact wb_shr hB hk
theorem m_land1 (x : Nat) : Int64.ofInt (x : Int) &&& Int64.ofInt 1 = Int64.ofInt ((x % 2 : Nat) : Int) := by
  rw [m_lN, m_lN, show Int64.ofInt 1 = lN 1 from rfl, fb_andL, Nat.and_one_is_mod]
theorem m_lor (a b : Nat) : Int64.ofInt (a : Int) ||| Int64.ofInt (b : Int) = Int64.ofInt ((a ||| b : Nat) : Int) := by
  rw [m_lN, m_lN, m_lN, fb_orL]
theorem m_cmp (b : Nat) (hb : b % 2 = 0 ∨ b % 2 = 1) : lg_cmp (Int64.ofInt ((b % 2 : Nat) : Int)) (Int64.ofInt 1) = Int32.ofInt (if b % 2 = 1 then 0 else -1) := by
  rcases hb with h | h <;> rw [h] <;> decide +kernel
def b2i (b : Bool) : Int := if b = true then 1 else 0
theorem b2i_01 (b : Bool) : b2i b = 0 ∨ b2i b = 1 := by cases b <;> simp [b2i]
theorem b2i_t {b : Bool} (h : b = true) : b2i b = 1 := by simp [b2i, h]
theorem b2i_f {b : Bool} (h : b = false) : b2i b = 0 := by simp [b2i, h]
-- bit sets, first, counts
def bset (p : Nat → Bool) (n : Nat) : Nat := match n with
  | 0 => 0
  | n + 1 => if p n = true then bset p n ||| 2 ^ n else bset p n
theorem bset_bit (p : Nat → Bool) : ∀ n k, (bset p n).testBit k = (decide (k < n) && p k)
  | 0, k => by simp [bset]
  | n + 1, k => by
    have ih := bset_bit p n k
    unfold bset
    by_cases h : p n = true
    · rw [if_pos h, Nat.testBit_or, ih, Nat.testBit_two_pow]
      by_cases hk : n = k
      · subst hk; simp [h]
      · have h2 : (k < n + 1) ↔ (k < n) := by omega
        simp [hk, h2]
    · rw [if_neg h, ih]
      by_cases hk : k = n
      · subst hk; simp [h]
      · have h2 : (k < n + 1) ↔ (k < n) := by omega
        simp [h2]
theorem bset_lt (p : Nat → Bool) (n : Nat) : bset p n < 2 ^ n := Nat.lt_pow_two_of_testBit _ (fun i hi => by
  rw [bset_bit]
  have h : ¬ i < n := by omega
  simp [h])
theorem bset_lt62 (p : Nat → Bool) {n : Nat} (h : n ≤ 40) : bset p n < 2 ^ 40 := Nat.lt_of_lt_of_le (bset_lt p n) (Nat.pow_le_pow_right (by decide) h)
def fo (p : Nat → Bool) (n d : Nat) : Nat := match n with
  | 0 => d
  | n + 1 => if p d = true then d else fo p n (d + 1)
theorem fo_ge (p : Nat → Bool) : ∀ n d, d ≤ fo p n d
  | 0, d => Nat.le_refl d
  | n + 1, d => by
    have ih := fo_ge p n (d + 1)
    unfold fo
    split <;> omega
theorem fo_le (p : Nat → Bool) : ∀ n d, fo p n d ≤ d + n
  | 0, d => Nat.le_refl d
  | n + 1, d => by
    have ih := fo_le p n (d + 1)
    unfold fo
    split <;> omega
theorem fo_congr {p q : Nat → Bool} : ∀ n d, (∀ k, d ≤ k → k < d + n → p k = q k) → fo p n d = fo q n d
  | 0, d, _ => rfl
  | n + 1, d, h => by
    unfold fo
    rw [h d (Nat.le_refl d) (by omega), fo_congr n (d + 1) (fun k h1 h2 => h k (by omega) (by omega))]
theorem fo_step (p : Nat → Bool) {d : Nat} (h : d < 40) : fo p (40 - d) d = if p d = true then d else fo p (40 - (d + 1)) (d + 1) := by
  rw [show 40 - d = (40 - (d + 1)) + 1 by omega]
  rfl
/-- how many of a .. a + n - 1 -/
def cnt (p : Nat → Bool) (a n : Nat) : Nat := match n with
  | 0 => 0
  | n + 1 => cnt p a n + (if p (a + n) = true then 1 else 0)
theorem cnt_le (p : Nat → Bool) (a : Nat) : ∀ n, cnt p a n ≤ n
  | 0 => Nat.le_refl 0
  | n + 1 => by
    have ih := cnt_le p a n
    unfold cnt
    split <;> omega
theorem cnt_congr {p q : Nat → Bool} (a : Nat) : ∀ n, (∀ k, k < n → p (a + k) = q (a + k)) → cnt p a n = cnt q a n
  | 0, _ => rfl
  | n + 1, h => by
    unfold cnt
    rw [cnt_congr a n (fun k hk => h k (by omega)), h n (by omega)]
theorem cnt_split (p : Nat → Bool) (a m : Nat) : ∀ n, cnt p a (m + n) = cnt p a m + cnt p (a + m) n
  | 0 => rfl
  | n + 1 => by
    have ih := cnt_split p a m n
    rw [← Nat.add_assoc]
    show cnt p a (m + n) + _ = _ + (cnt p (a + m) n + _)
    rw [ih, Nat.add_assoc a m n, Nat.add_assoc]
theorem cnt0_no {p : Nat → Bool} {n : Nat} (h : p n = false) : cnt p 0 (n + 1) = cnt p 0 n := by
  conv => lhs; unfold cnt
  rw [Nat.zero_add, h]
  rfl
theorem cnt0_yes {p : Nat → Bool} {n : Nat} (h : p n = true) : cnt p 0 (n + 1) = cnt p 0 n + 1 := by
  conv => lhs; unfold cnt
  rw [Nat.zero_add, h]
  rfl
theorem b2i_0 {b : Bool} (h : b2i b = 0) : b = false := by cases b <;> simp [b2i] at h ⊢
theorem b2i_1 {b : Bool} (h : ¬ b2i b = 0) : b = true := by cases b <;> simp [b2i] at h ⊢
/-- how many bits of a number below 2 ^ 64 are set -/
def pop (B : Nat) : Nat := cnt (fun k => B.testBit k) 0 64
-- the meaning of literals, clauses, questions
def litT (c w : Nat) : Bool := decide (w / 2 ^ (c / 2) % 2 ≠ c % 2)
def enough (t o kd nd : Int) : Bool := if kd = 0 then decide (t = o) else if kd = 1 then decide (0 < t) else decide (nd ≤ t)
def thr (S : ST) (d : Nat) : Bool := decide (ai S 2 0 d ≠ -1)
def tru (S : ST) (c d : Nat) : Bool := thr S d && litT c (ai S 2 0 d).toNat
def IW (S : ST) : Prop := ∀ d, d < 40 → -1 ≤ ai S 2 0 d ∧ ai S 2 0 d ≤ 255
def IQ (S : ST) : Prop := (0 ≤ iv S 3 3 0 ∧ iv S 3 3 0 ≤ 5) ∧ (0 ≤ iv S 3 1 0 ∧ iv S 3 1 0 ≤ 2) ∧ (0 ≤ iv S 3 2 0 ∧ iv S 3 2 0 ≤ 6) ∧ ∀ x, x < 5 → (0 ≤ iv S 5 1 x ∧ iv S 5 1 x ≤ 2) ∧ (0 ≤ iv S 5 2 x ∧ iv S 5 2 x ≤ 6) ∧ (iv S 5 3 x = 0 ∨ iv S 5 3 x = 1) ∧ (0 ≤ iv S 5 4 x ∧ iv S 5 4 x ≤ 6) ∧ ∀ j, j < 6 → 0 ≤ ai S 6 x j ∧ ai S 6 x j < 16
def ctT (S : ST) (x w : Nat) : Bool := (enough (cnt (fun j => litT (ai S 6 x j).toNat w) 0 (iv S 5 4 x).toNat) (iv S 5 4 x) (iv S 5 1 x) (iv S 5 2 x)) != decide (iv S 5 3 x = 1)
def qT (S : ST) (w : Nat) : Bool := enough (cnt (fun x => ctT S x w) 0 (iv S 3 3 0).toNat) (iv S 3 3 0) (iv S 3 1 0) (iv S 3 2 0)
theorem mid_0 : ((0, 0) : Idn) ∈ ids := by decide +kernel
theorem mid_1 : ((1, 0) : Idn) ∈ ids := by decide +kernel
theorem mid_2 : ((2, 0) : Idn) ∈ ids := by decide +kernel
theorem mid_3 : ((3, 0) : Idn) ∈ ids := by decide +kernel
theorem mid_4 : ((4, 0) : Idn) ∈ ids := by decide +kernel
theorem mid_15 : ((15, 0) : Idn) ∈ ids := by decide +kernel
theorem mid_20 : ((20, 0) : Idn) ∈ ids := by decide +kernel
theorem mid_30 : ((30, 0) : Idn) ∈ ids := by decide +kernel
