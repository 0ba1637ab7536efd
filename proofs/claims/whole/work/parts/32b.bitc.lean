theorem l256 (u v M m : Nat) (hv : v < 2 ^ 8) (hm : m < 2 ^ 8) : (2 ^ 8 * u + v) &&& (2 ^ 8 * M + m) = 2 ^ 8 * (u &&& M) + (v &&& m) := by
  apply Nat.eq_of_testBit_eq
  intro i
  rw [Nat.testBit_and, Nat.testBit_two_pow_mul_add _ hv, Nat.testBit_two_pow_mul_add _ hm, Nat.testBit_two_pow_mul_add _ (Nat.lt_of_le_of_lt Nat.and_le_left hv)]
  by_cases h : i < 8
  · rw [if_pos h, if_pos h, if_pos h, Nat.testBit_and]
  · rw [if_neg h, if_neg h, if_neg h, Nat.testBit_and]
def bf1 (b : Nat) : Nat := b - ((b / 2) &&& 85)
def bf2 (r : Nat) : Nat := (r &&& 51) + ((r / 4) &&& 51)
def bf3 (r : Nat) : Nat := (r + r / 16) &&& 15
def p8 (b : Nat) : Nat := cnt (fun k => b.testBit k) 0 8
theorem bt1 : ∀ b, b < 256 → ∀ e, e < 2 → (128 * e + b / 2) &&& 85 = (b / 2) &&& 85 := by decide +kernel
theorem bt2 : ∀ b, b < 256 → ∀ e, e < 4 → (64 * e + b / 4) &&& 51 = (b / 4) &&& 51 := by decide +kernel
theorem bt3 : ∀ b, b < 72 → ∀ e, e < 5 → (16 * e + (b + b / 16)) &&& 15 = (b + b / 16) &&& 15 := by decide +kernel
theorem bt4 : ∀ b, b < 256 → bf1 b < 256 ∧ bf2 (bf1 b) < 72 ∧ bf2 (bf1 b) % 16 < 5 ∧ bf3 (bf2 (bf1 b)) = p8 b ∧ p8 b ≤ 8 := by decide +kernel
theorem bs1 (q b M : Nat) (hb : b < 256) : (2 ^ 8 * q + b) - (((2 ^ 8 * q + b) / 2) &&& (2 ^ 8 * M + 85)) = 2 ^ 8 * (q - ((q / 2) &&& M)) + bf1 b := by
  have e : (2 ^ 8 * q + b) / 2 = 2 ^ 8 * (q / 2) + (128 * (q % 2) + b / 2) := by omega
  rw [e, l256 _ _ _ _ (by omega) (by decide), bt1 b hb (q % 2) (by omega)]
  have h1 : (q / 2) &&& M ≤ q / 2 := Nat.and_le_left
  have h2 : (b / 2) &&& 85 ≤ b / 2 := Nat.and_le_left
  unfold bf1
  omega
theorem bs2 (q r M : Nat) (hr : r < 256) : ((2 ^ 8 * q + r) &&& (2 ^ 8 * M + 51)) + (((2 ^ 8 * q + r) / 4) &&& (2 ^ 8 * M + 51)) = 2 ^ 8 * ((q &&& M) + ((q / 4) &&& M)) + bf2 r := by
  have e : (2 ^ 8 * q + r) / 4 = 2 ^ 8 * (q / 4) + (64 * (q % 4) + r / 4) := by omega
  rw [e, l256 _ _ _ _ (by omega) (by decide), l256 _ _ _ _ (by omega) (by decide), bt2 r hr (q % 4) (by omega)]
  unfold bf2
  omega
theorem bs3 (q r M : Nat) (hr : r < 72) (hq : q % 16 < 5) : ((2 ^ 8 * q + r) + (2 ^ 8 * q + r) / 16) &&& (2 ^ 8 * M + 15) = 2 ^ 8 * ((q + q / 16) &&& M) + bf3 r := by
  have e : (2 ^ 8 * q + r) + (2 ^ 8 * q + r) / 16 = 2 ^ 8 * (q + q / 16) + (16 * (q % 16) + (r + r / 16)) := by omega
  rw [e, l256 _ _ _ _ (by omega) (by decide), bt3 r hr (q % 16) hq]
  rfl
theorem bx1 (b0 b1 b2 b3 b4 : Nat) (h0 : b0 < 256) (h1 : b1 < 256) (h2 : b2 < 256) (h3 : b3 < 256) (h4 : b4 < 256) : (2 ^ 8 * (2 ^ 8 * (2 ^ 8 * (2 ^ 8 * (2 ^ 8 * 0 + b4) + b3) + b2) + b1) + b0) - (((2 ^ 8 * (2 ^ 8 * (2 ^ 8 * (2 ^ 8 * (2 ^ 8 * 0 + b4) + b3) + b2) + b1) + b0) / 2) &&& 6148914691236517205) = (2 ^ 8 * (2 ^ 8 * (2 ^ 8 * (2 ^ 8 * (2 ^ 8 * 0 + bf1 b4) + bf1 b3) + bf1 b2) + bf1 b1) + bf1 b0) := by
  rw [show (6148914691236517205 : Nat) = 2 ^ 8 * (2 ^ 8 * (2 ^ 8 * (2 ^ 8 * (2 ^ 8 * 5592405 + 85) + 85) + 85) + 85) + 85 from rfl, bs1 _ _ _ h0, bs1 _ _ _ h1, bs1 _ _ _ h2, bs1 _ _ _ h3, bs1 _ _ _ h4]
  rw [show 0 / 2 &&& 5592405 = 0 by decide]
theorem bx2 (b0 b1 b2 b3 b4 : Nat) (h0 : b0 < 256) (h1 : b1 < 256) (h2 : b2 < 256) (h3 : b3 < 256) (h4 : b4 < 256) : ((2 ^ 8 * (2 ^ 8 * (2 ^ 8 * (2 ^ 8 * (2 ^ 8 * 0 + b4) + b3) + b2) + b1) + b0) &&& 3689348814741910323) + (((2 ^ 8 * (2 ^ 8 * (2 ^ 8 * (2 ^ 8 * (2 ^ 8 * 0 + b4) + b3) + b2) + b1) + b0) / 4) &&& 3689348814741910323) = (2 ^ 8 * (2 ^ 8 * (2 ^ 8 * (2 ^ 8 * (2 ^ 8 * 0 + bf2 b4) + bf2 b3) + bf2 b2) + bf2 b1) + bf2 b0) := by
  rw [show (3689348814741910323 : Nat) = 2 ^ 8 * (2 ^ 8 * (2 ^ 8 * (2 ^ 8 * (2 ^ 8 * 3355443 + 51) + 51) + 51) + 51) + 51 from rfl, bs2 _ _ _ h0, bs2 _ _ _ h1, bs2 _ _ _ h2, bs2 _ _ _ h3, bs2 _ _ _ h4]
  rw [show (0 &&& 3355443) + (0 / 4 &&& 3355443) = 0 by decide]
theorem bx3 (b0 b1 b2 b3 b4 : Nat) (h0 : b0 < 72) (g0 : b0 % 16 < 5) (h1 : b1 < 72) (g1 : b1 % 16 < 5) (h2 : b2 < 72) (g2 : b2 % 16 < 5) (h3 : b3 < 72) (g3 : b3 % 16 < 5) (h4 : b4 < 72) (g4 : b4 % 16 < 5) : ((2 ^ 8 * (2 ^ 8 * (2 ^ 8 * (2 ^ 8 * (2 ^ 8 * 0 + b4) + b3) + b2) + b1) + b0) + (2 ^ 8 * (2 ^ 8 * (2 ^ 8 * (2 ^ 8 * (2 ^ 8 * 0 + b4) + b3) + b2) + b1) + b0) / 16) &&& 1085102592571150095 = (2 ^ 8 * (2 ^ 8 * (2 ^ 8 * (2 ^ 8 * (2 ^ 8 * 0 + bf3 b4) + bf3 b3) + bf3 b2) + bf3 b1) + bf3 b0) := by
  rw [show (1085102592571150095 : Nat) = 2 ^ 8 * (2 ^ 8 * (2 ^ 8 * (2 ^ 8 * (2 ^ 8 * 986895 + 15) + 15) + 15) + 15) + 15 from rfl, bs3 _ _ _ h0 (by omega), bs3 _ _ _ h1 (by omega), bs3 _ _ _ h2 (by omega), bs3 _ _ _ h3 (by omega), bs3 _ _ _ h4 (by omega)]
  rw [show (0 + 0 / 16) &&& 986895 = 0 by decide]
theorem pop_b (b0 b1 b2 b3 b4 : Nat) (h0 : b0 < 256) (h1 : b1 < 256) (h2 : b2 < 256) (h3 : b3 < 256) (h4 : b4 < 256) : pop (2 ^ 8 * (2 ^ 8 * (2 ^ 8 * (2 ^ 8 * (2 ^ 8 * 0 + b4) + b3) + b2) + b1) + b0) = p8 b0 + p8 b1 + p8 b2 + p8 b3 + p8 b4 := by
  have hB : (2 ^ 8 * (2 ^ 8 * (2 ^ 8 * (2 ^ 8 * (2 ^ 8 * 0 + b4) + b3) + b2) + b1) + b0) < 2 ^ 40 := by omega
  generalize hBe : (2 ^ 8 * (2 ^ 8 * (2 ^ 8 * (2 ^ 8 * (2 ^ 8 * 0 + b4) + b3) + b2) + b1) + b0) = B at hB ⊢
  have hz : ∀ n, cnt (fun k => B.testBit k) 40 n = 0 := by
    intro n
    induction n with
    | zero => rfl
    | succ n ih =>
      unfold cnt
      rw [ih, if_neg]
      rw [Nat.testBit_lt_two_pow (Nat.lt_of_lt_of_le hB (Nat.pow_le_pow_right (by decide) (by omega)))]
      decide
  have hs : pop B = cnt (fun k => B.testBit k) 0 8 + cnt (fun k => B.testBit k) 8 8 + cnt (fun k => B.testBit k) 16 8 + cnt (fun k => B.testBit k) 24 8 + cnt (fun k => B.testBit k) 32 8 + cnt (fun k => B.testBit k) 40 24 := by
    have q1 := cnt_split (fun k => B.testBit k) 0 8 56
    have q2 := cnt_split (fun k => B.testBit k) 8 8 48
    have q3 := cnt_split (fun k => B.testBit k) 16 8 40
    have q4 := cnt_split (fun k => B.testBit k) 24 8 32
    have q5 := cnt_split (fun k => B.testBit k) 32 8 24
    simp only [Nat.reduceAdd, Nat.zero_add] at q1 q2 q3 q4 q5
    unfold pop
    omega
  have hb : ∀ (s b : Nat), b < 256 → (∀ k, k < 8 → B.testBit (s + k) = b.testBit k) → cnt (fun k => B.testBit k) s 8 = p8 b := by
    intro s b _ h
    have gen : ∀ n, n ≤ 8 → cnt (fun k => B.testBit k) s n = cnt (fun k => b.testBit k) 0 n := by
      intro n
      induction n with
      | zero => intro _; rfl
      | succ n ih =>
        intro hn
        unfold cnt
        rw [ih (by omega), h n (by omega), Nat.zero_add]
    exact gen 8 (Nat.le_refl 8)
  have tb : ∀ (s b : Nat), b < 256 → B / 2 ^ s % 256 = b → ∀ k, k < 8 → B.testBit (s + k) = b.testBit k := by
    intro s b _ e k hk
    subst e
    rw [show (256 : Nat) = 2 ^ 8 from rfl, Nat.testBit_mod_two_pow, Nat.testBit_div_two_pow]
    simp [hk, Nat.add_comm]
  rw [hs, hz 24, hb 0 b0 h0 (tb 0 b0 h0 (by omega)), hb 8 b1 h1 (tb 8 b1 h1 (by omega)), hb 16 b2 h2 (tb 16 b2 h2 (by omega)), hb 24 b3 h3 (tb 24 b3 h3 (by omega)), hb 32 b4 h4 (tb 32 b4 h4 (by omega)), Nat.add_zero]
theorem l1 (y0 y1 y2 y3 y4 : Nat) (h0 : y0 ≤ 8) (h1 : y1 ≤ 8) (h2 : y2 ≤ 8) (h3 : y3 ≤ 8) (h4 : y4 ≤ 8) :
    (2 ^ 8 * (2 ^ 8 * (2 ^ 8 * (2 ^ 8 * (2 ^ 8 * 0 + y4) + y3) + y2) + y1) + y0) + (2 ^ 8 * (2 ^ 8 * (2 ^ 8 * (2 ^ 8 * (2 ^ 8 * 0 + y4) + y3) + y2) + y1) + y0) / 256 = (y0 + y1) + 256 * (y1 + y2) + 65536 * (y2 + y3) + 16777216 * (y3 + y4) + 4294967296 * y4 ∧
    (y0 + y1) + 256 * (y1 + y2) + 65536 * (y2 + y3) + 16777216 * (y3 + y4) + 4294967296 * y4 + ((y0 + y1) + 256 * (y1 + y2) + 65536 * (y2 + y3) + 16777216 * (y3 + y4) + 4294967296 * y4) / 65536 = (y0 + y1 + y2 + y3) + 256 * (y1 + y2 + y3 + y4) + 65536 * (y2 + y3 + y4) + 16777216 * (y3 + y4) + 4294967296 * y4 ∧
    ((y0 + y1 + y2 + y3) + 256 * (y1 + y2 + y3 + y4) + 65536 * (y2 + y3 + y4) + 16777216 * (y3 + y4) + 4294967296 * y4 + ((y0 + y1 + y2 + y3) + 256 * (y1 + y2 + y3 + y4) + 65536 * (y2 + y3 + y4) + 16777216 * (y3 + y4) + 4294967296 * y4) / 4294967296) % 128 = y0 + y1 + y2 + y3 + y4 ∧
    (y0 + y1 + y2 + y3) + 256 * (y1 + y2 + y3 + y4) + 65536 * (y2 + y3 + y4) + 16777216 * (y3 + y4) + 4294967296 * y4 + ((y0 + y1 + y2 + y3) + 256 * (y1 + y2 + y3 + y4) + 65536 * (y2 + y3 + y4) + 16777216 * (y3 + y4) + 4294967296 * y4) / 4294967296 < 2 ^ 43 := by
  refine ⟨?_, ?_, ?_, ?_⟩
  · have : (2 ^ 8 * (2 ^ 8 * (2 ^ 8 * (2 ^ 8 * (2 ^ 8 * 0 + y4) + y3) + y2) + y1) + y0) / 256 = y1 + 256 * y2 + 65536 * y3 + 16777216 * y4 := by omega
    omega
  · have : ((y0 + y1) + 256 * (y1 + y2) + 65536 * (y2 + y3) + 16777216 * (y3 + y4) + 4294967296 * y4) / 65536 = (y2 + y3) + 256 * (y3 + y4) + 65536 * y4 := by omega
    omega
  · have : ((y0 + y1 + y2 + y3) + 256 * (y1 + y2 + y3 + y4) + 65536 * (y2 + y3 + y4) + 16777216 * (y3 + y4) + 4294967296 * y4) / 4294967296 = y4 := by omega
    rw [this]
    omega
  · have : ((y0 + y1 + y2 + y3) + 256 * (y1 + y2 + y3 + y4) + 65536 * (y2 + y3 + y4) + 16777216 * (y3 + y4) + 4294967296 * y4) / 4294967296 = y4 := by omega
    omega
def bc1 (B : Nat) : Nat := B - ((B / 2) &&& 6148914691236517205)
def bc2 (B : Nat) : Nat := (bc1 B &&& 3689348814741910323) + ((bc1 B / 4) &&& 3689348814741910323)
def bc3 (B : Nat) : Nat := (bc2 B + bc2 B / 16) &&& 1085102592571150095
def bc4 (B : Nat) : Nat := bc3 B + bc3 B / 256
def bc5 (B : Nat) : Nat := bc4 B + bc4 B / 65536
def bc6 (B : Nat) : Nat := bc5 B + bc5 B / 4294967296
theorem bc_all {B : Nat} (hB : B < 2 ^ 40) : bc1 B < 2 ^ 40 ∧ bc2 B < 2 ^ 40 ∧ bc3 B < 2 ^ 40 ∧ bc4 B < 2 ^ 41 ∧ bc5 B < 2 ^ 42 ∧ bc6 B < 2 ^ 43 ∧ bc6 B % 128 = pop B := by
  obtain ⟨b0, b1, b2, b3, b4, h0, h1, h2, h3, h4, rfl⟩ : ∃ b0 b1 b2 b3 b4 : Nat, b0 < 256 ∧ b1 < 256 ∧ b2 < 256 ∧ b3 < 256 ∧ b4 < 256 ∧ B = (2 ^ 8 * (2 ^ 8 * (2 ^ 8 * (2 ^ 8 * (2 ^ 8 * 0 + b4) + b3) + b2) + b1) + b0) := ⟨B % 256, B / 256 % 256, B / 65536 % 256, B / 16777216 % 256, B / 4294967296 % 256, by omega, by omega, by omega, by omega, by omega, by omega⟩
  obtain ⟨a0, c0, d0, e0, f0⟩ := bt4 b0 h0
  obtain ⟨a1, c1, d1, e1, f1⟩ := bt4 b1 h1
  obtain ⟨a2, c2, d2, e2, f2⟩ := bt4 b2 h2
  obtain ⟨a3, c3, d3, e3, f3⟩ := bt4 b3 h3
  obtain ⟨a4, c4, d4, e4, f4⟩ := bt4 b4 h4
  have g1 : bc1 (2 ^ 8 * (2 ^ 8 * (2 ^ 8 * (2 ^ 8 * (2 ^ 8 * 0 + b4) + b3) + b2) + b1) + b0) = (2 ^ 8 * (2 ^ 8 * (2 ^ 8 * (2 ^ 8 * (2 ^ 8 * 0 + bf1 b4) + bf1 b3) + bf1 b2) + bf1 b1) + bf1 b0) := bx1 b0 b1 b2 b3 b4 h0 h1 h2 h3 h4
  have g2 : bc2 (2 ^ 8 * (2 ^ 8 * (2 ^ 8 * (2 ^ 8 * (2 ^ 8 * 0 + b4) + b3) + b2) + b1) + b0) = (2 ^ 8 * (2 ^ 8 * (2 ^ 8 * (2 ^ 8 * (2 ^ 8 * 0 + bf2 (bf1 b4)) + bf2 (bf1 b3)) + bf2 (bf1 b2)) + bf2 (bf1 b1)) + bf2 (bf1 b0)) := by
    unfold bc2
    rw [g1]
    exact bx2 _ _ _ _ _ a0 a1 a2 a3 a4
  have g3 : bc3 (2 ^ 8 * (2 ^ 8 * (2 ^ 8 * (2 ^ 8 * (2 ^ 8 * 0 + b4) + b3) + b2) + b1) + b0) = (2 ^ 8 * (2 ^ 8 * (2 ^ 8 * (2 ^ 8 * (2 ^ 8 * 0 + p8 b4) + p8 b3) + p8 b2) + p8 b1) + p8 b0) := by
    unfold bc3
    rw [g2]
    rw [bx3 _ _ _ _ _ c0 d0 c1 d1 c2 d2 c3 d3 c4 d4, e0, e1, e2, e3, e4]
  rw [pop_b b0 b1 b2 b3 b4 h0 h1 h2 h3 h4]
  have k1 := l1 _ _ _ _ _ f0 f1 f2 f3 f4
  have k4 : bc4 (2 ^ 8 * (2 ^ 8 * (2 ^ 8 * (2 ^ 8 * (2 ^ 8 * 0 + b4) + b3) + b2) + b1) + b0) = (p8 b0 + p8 b1) + 256 * (p8 b1 + p8 b2) + 65536 * (p8 b2 + p8 b3) + 16777216 * (p8 b3 + p8 b4) + 4294967296 * p8 b4 := by
    unfold bc4
    rw [g3]
    exact k1.1
  have k5 : bc5 (2 ^ 8 * (2 ^ 8 * (2 ^ 8 * (2 ^ 8 * (2 ^ 8 * 0 + b4) + b3) + b2) + b1) + b0) = (p8 b0 + p8 b1 + p8 b2 + p8 b3) + 256 * (p8 b1 + p8 b2 + p8 b3 + p8 b4) + 65536 * (p8 b2 + p8 b3 + p8 b4) + 16777216 * (p8 b3 + p8 b4) + 4294967296 * p8 b4 := by
    unfold bc5
    rw [k4]
    exact k1.2.1
  have k6 : bc6 (2 ^ 8 * (2 ^ 8 * (2 ^ 8 * (2 ^ 8 * (2 ^ 8 * 0 + b4) + b3) + b2) + b1) + b0) % 128 = p8 b0 + p8 b1 + p8 b2 + p8 b3 + p8 b4 ∧ bc6 (2 ^ 8 * (2 ^ 8 * (2 ^ 8 * (2 ^ 8 * (2 ^ 8 * 0 + b4) + b3) + b2) + b1) + b0) < 2 ^ 43 := by
    unfold bc6
    rw [k5]
    exact k1.2.2
  refine ⟨?_, ?_, ?_, ?_, ?_, k6.2, k6.1⟩
  · rw [g1]; omega
  · rw [g2]; omega
  · rw [g3]; omega
  · rw [k4]; omega
  · rw [k5]; omega
theorem m_land (a b : Nat) : Int64.ofInt (a : Int) &&& Int64.ofInt (b : Int) = Int64.ofInt ((a &&& b : Nat) : Int) := by
  rw [m_lN, m_lN, m_lN, fb_andL]
theorem m_ladd (a b : Nat) : Int64.ofInt (a : Int) + Int64.ofInt (b : Int) = Int64.ofInt ((a + b : Nat) : Int) := by
  rw [m_lN, m_lN, m_lN, lN_add]
theorem m_lsub {a b : Nat} (h : b ≤ a) : Int64.ofInt (a : Int) - Int64.ofInt (b : Int) = Int64.ofInt ((a - b : Nat) : Int) := by
  rw [m_lN, m_lN, m_lN, lN_sub h]
theorem m_l2i (a : Nat) : (Int64.ofInt (a : Int)).toInt32 = Int32.ofInt (a : Int) := by
  rw [m_lN, lN_i, i32_nat]
theorem m_iand127 {a : Nat} (ha : a % 4294967296 = a % 4294967296) : Int32.ofInt (a : Int) &&& Int32.ofInt 127 = Int32.ofInt ((a % 128 : Nat) : Int) := by
  have h := pk_and (Int32.ofInt (a : Int)) (m := Int32.ofInt 127) 7 rfl
  rw [h, ← i32_nat]
  congr 2
  rw [i32_nat]
  show (BitVec.ofNat 32 a).toNat % 2 ^ 7 = a % 128
  rw [BitVec.toNat_ofNat]
  omega
theorem kc_J13_bitCount_95d88_314 : Cond.constantLong RJ13 314 (6148914691236517205) ∈ wsJ13_bitCount_95d88 := by decide +kernel
theorem kc_J13_bitCount_95d88_316 : Cond.constantLong RJ13 316 (3689348814741910323) ∈ wsJ13_bitCount_95d88 := by decide +kernel
theorem kc_J13_bitCount_95d88_318 : Cond.constantLong RJ13 318 (1085102592571150095) ∈ wsJ13_bitCount_95d88 := by decide +kernel
set_option maxHeartbeats 4000000 in
set_option maxRecDepth 100000 in
theorem c_bitCount (S : ST) (B : Nat) (hB : B < 2 ^ 40) : Ct yJ13_bitCount_95d88 wsJ13_bitCount_95d88 0 [vl (B : Int)] S (fun v S1 => v = some (vi ((pop B : Nat) : Int)) ∧ S1 = S) := by
  refine Ct.of (nL := 2) (by decide) rfl (Nat.le_of_ble_eq_true rfl) (by decide) (fun X C Rr hnL => ?_)
  have hn : ∀ i, i < 2 → i < X.2.2.2.2.2 := fun i h => by rw [hnL]; exact h
  obtain ⟨h1, h2, h3, h4, h5, h6, hp⟩ := bc_all hB
  refine r_lload_n C dJ13_bitCount_95d88_0 rfl rfl ?_
  refine r_lload_n C dJ13_bitCount_95d88_1 rfl rfl ?_
  refine r_iconst C dJ13_bitCount_95d88_2 ?_
  refine r_lushr (z := ((B / 2 ^ 1 : Nat) : Int)) C dJ13_bitCount_95d88_3 (m_lushr (k := 1) (by omega) (by decide)) ?_
  refine r_ldc2 (z := ((6148914691236517205 : Nat) : Int)) C dJ13_bitCount_95d88_4 kc_J13_bitCount_95d88_314 (by decide +kernel) ?_
  refine r_land (z := (((B / 2 ^ 1) &&& 6148914691236517205 : Nat) : Int)) C dJ13_bitCount_95d88_7 (m_land _ 6148914691236517205) ?_
  refine r_lsub (z := ((bc1 B : Nat) : Int)) C dJ13_bitCount_95d88_8 (m_lsub (Nat.le_trans Nat.and_le_left (Nat.div_le_self _ _))) ?_
  refine r_lstore_n (lv' := [(0, _)]) C dJ13_bitCount_95d88_9 rfl (hn _ (by decide)) rfl ?_
  refine r_lload_n C dJ13_bitCount_95d88_10 rfl rfl ?_
  refine r_ldc2 (z := ((3689348814741910323 : Nat) : Int)) C dJ13_bitCount_95d88_11 kc_J13_bitCount_95d88_316 (by decide +kernel) ?_
  refine r_land (z := ((bc1 B &&& 3689348814741910323 : Nat) : Int)) C dJ13_bitCount_95d88_14 (m_land _ 3689348814741910323) ?_
  refine r_lload_n C dJ13_bitCount_95d88_15 rfl rfl ?_
  refine r_iconst C dJ13_bitCount_95d88_16 ?_
  refine r_lushr (z := ((bc1 B / 2 ^ 2 : Nat) : Int)) C dJ13_bitCount_95d88_17 (m_lushr (k := 2) (by omega) (by decide)) ?_
  refine r_ldc2 (z := ((3689348814741910323 : Nat) : Int)) C dJ13_bitCount_95d88_18 kc_J13_bitCount_95d88_316 (by decide +kernel) ?_
  refine r_land (z := (((bc1 B / 2 ^ 2) &&& 3689348814741910323 : Nat) : Int)) C dJ13_bitCount_95d88_21 (m_land _ 3689348814741910323) ?_
  refine r_ladd (z := ((bc2 B : Nat) : Int)) C dJ13_bitCount_95d88_22 (m_ladd _ _) ?_
  refine r_lstore_n (lv' := [(0, _)]) C dJ13_bitCount_95d88_23 rfl (hn _ (by decide)) rfl ?_
  refine r_lload_n C dJ13_bitCount_95d88_24 rfl rfl ?_
  refine r_lload_n C dJ13_bitCount_95d88_25 rfl rfl ?_
  refine r_iconst C dJ13_bitCount_95d88_26 ?_
  refine r_lushr (z := ((bc2 B / 2 ^ 4 : Nat) : Int)) C dJ13_bitCount_95d88_27 (m_lushr (k := 4) (by omega) (by decide)) ?_
  refine r_ladd (z := ((bc2 B + bc2 B / 2 ^ 4 : Nat) : Int)) C dJ13_bitCount_95d88_28 (m_ladd _ _) ?_
  refine r_ldc2 (z := ((1085102592571150095 : Nat) : Int)) C dJ13_bitCount_95d88_29 kc_J13_bitCount_95d88_318 (by decide +kernel) ?_
  refine r_land (z := ((bc3 B : Nat) : Int)) C dJ13_bitCount_95d88_32 (m_land _ 1085102592571150095) ?_
  refine r_lstore_n (lv' := [(0, _)]) C dJ13_bitCount_95d88_33 rfl (hn _ (by decide)) rfl ?_
  refine r_lload_n C dJ13_bitCount_95d88_34 rfl rfl ?_
  refine r_lload_n C dJ13_bitCount_95d88_35 rfl rfl ?_
  refine r_bipush C dJ13_bitCount_95d88_36 (by decide) ?_
  refine r_lushr (z := ((bc3 B / 2 ^ 8 : Nat) : Int)) C dJ13_bitCount_95d88_38 (m_lushr (k := 8) (by omega) (by decide)) ?_
  refine r_ladd (z := ((bc4 B : Nat) : Int)) C dJ13_bitCount_95d88_39 (m_ladd _ _) ?_
  refine r_lstore_n (lv' := [(0, _)]) C dJ13_bitCount_95d88_40 rfl (hn _ (by decide)) rfl ?_
  refine r_lload_n C dJ13_bitCount_95d88_41 rfl rfl ?_
  refine r_lload_n C dJ13_bitCount_95d88_42 rfl rfl ?_
  refine r_bipush C dJ13_bitCount_95d88_43 (by decide) ?_
  refine r_lushr (z := ((bc4 B / 2 ^ 16 : Nat) : Int)) C dJ13_bitCount_95d88_45 (m_lushr (k := 16) (by omega) (by decide)) ?_
  refine r_ladd (z := ((bc5 B : Nat) : Int)) C dJ13_bitCount_95d88_46 (m_ladd _ _) ?_
  refine r_lstore_n (lv' := [(0, _)]) C dJ13_bitCount_95d88_47 rfl (hn _ (by decide)) rfl ?_
  refine r_lload_n C dJ13_bitCount_95d88_48 rfl rfl ?_
  refine r_lload_n C dJ13_bitCount_95d88_49 rfl rfl ?_
  refine r_bipush C dJ13_bitCount_95d88_50 (by decide) ?_
  refine r_lushr (z := ((bc5 B / 2 ^ 32 : Nat) : Int)) C dJ13_bitCount_95d88_52 (m_lushr (k := 32) (by omega) (by decide)) ?_
  refine r_ladd (z := ((bc6 B : Nat) : Int)) C dJ13_bitCount_95d88_53 (m_ladd _ _) ?_
  refine r_lstore_n (lv' := [(0, _)]) C dJ13_bitCount_95d88_54 rfl (hn _ (by decide)) rfl ?_
  refine r_lload_n C dJ13_bitCount_95d88_55 rfl rfl ?_
  refine r_l2i (z := ((bc6 B : Nat) : Int)) C dJ13_bitCount_95d88_56 (m_l2i _) ?_
  refine r_bipush C dJ13_bitCount_95d88_57 (by decide) ?_
  refine r_iand (z := ((bc6 B % 128 : Nat) : Int)) C dJ13_bitCount_95d88_59 (m_iand127 rfl) ?_
  exact r_iret C Rr (⟨by rw [hp], rfl⟩) dJ13_bitCount_95d88_60
