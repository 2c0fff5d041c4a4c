/-! LONGS AS SETS of numbers below 64 -/
def tb (x : Int64) (i : Nat) : Bool := x.toBitVec.getLsbD i
theorem tb_ext {x y : Int64} (h : ∀ i, i < 64 → tb x i = tb y i) : x = y := Int64.toBitVec_inj.mp (BitVec.eq_of_getLsbD_eq (fun i hi => h i hi))
theorem tb_big {x : Int64} {i : Nat} (h : 64 ≤ i) : tb x i = false := BitVec.getLsbD_of_ge _ _ h
theorem tb_or (x y : Int64) (i : Nat) : tb (x ||| y) i = (tb x i || tb y i) := by unfold tb; rw [Int64.toBitVec_or, BitVec.getLsbD_or]
theorem tb_and (x y : Int64) (i : Nat) : tb (x &&& y) i = (tb x i && tb y i) := by unfold tb; rw [Int64.toBitVec_and, BitVec.getLsbD_and]
theorem tb_xor (x y : Int64) (i : Nat) : tb (x ^^^ y) i = (tb x i ^^ tb y i) := by unfold tb; rw [Int64.toBitVec_xor, BitVec.getLsbD_xor]
theorem tb_m1 : ∀ i, i < 64 → tb (-1) i = true := by decide +kernel
theorem tb_not (x : Int64) {i : Nat} (h : i < 64) : tb (x ^^^ (-1)) i = !tb x i := by rw [tb_xor, tb_m1 i h, Bool.xor_true]
theorem tb_0 (i : Nat) : tb 0 i = false := BitVec.getLsbD_zero
/-- one number alone, as the machine makes it -/
def one (n : Int32) : Int64 := (1 : Int64) <<< (n.toInt64 &&& 63)
theorem one_tp : ∀ k, k < 64 → (one (nI k)).toBitVec = BitVec.twoPow 64 k := by decide +kernel
theorem tb_one {k : Nat} (hk : k < 64) (i : Nat) : tb (one (nI k)) i = decide (i = k) := by
  unfold tb
  rw [one_tp k hk, BitVec.getLsbD_twoPow]
  by_cases h : i = k
  · subst h; simp [hk]
  · have : ¬ k = i := fun e => h e.symm
    simp [h, this]
theorem shr_cnt : ∀ k, k < 64 → ((nI k).toInt64.toUInt64 &&& Int64.toUInt64 63).toNat = k := by decide +kernel
theorem hasX_tb (s : Int64) {k : Nat} (hk : k < 64) : hasX s (nI k) = if tb s k = true then 1 else 0 := by
  unfold hasX
  have h := ts_bit (w := s) hk (shr_cnt k hk)
  unfold tb
  by_cases hb : s.toBitVec.getLsbD k = true
  · rw [if_pos hb, if_neg (fun e => by rw [h.mp e] at hb; cases hb)]
  · have hb : s.toBitVec.getLsbD k = false := by simpa using hb
    rw [if_pos (h.mpr hb), if_neg (by rw [hb]; decide)]
theorem hasX_01 (s : Int64) (n : Int32) : hasX s n = 0 ∨ hasX s n = 1 := by
  unfold hasX
  split
  · exact Or.inl rfl
  · exact Or.inr rfl
theorem hasX_ne0 (s : Int64) {k : Nat} (hk : k < 64) : hasX s (nI k) ≠ 0 ↔ tb s k = true := by
  rw [hasX_tb s hk]
  by_cases h : tb s k = true <;> simp [h]
theorem hasX_eq0 (s : Int64) {k : Nat} (hk : k < 64) : hasX s (nI k) = 0 ↔ tb s k = false := by
  rw [hasX_tb s hk]
  by_cases h : tb s k = true <;> simp [h]
/-- how many of the numbers below n are in the set -/
def cntN (x : Int64) : Nat → Nat
  | 0 => 0
  | n + 1 => cntN x n + (if tb x n = true then 1 else 0)
def cnt (x : Int64) : Nat := cntN x 64
theorem cntN_le (x : Int64) : ∀ n, cntN x n ≤ n
  | 0 => Nat.le_refl 0
  | n + 1 => by
    have := cntN_le x n
    rw [cntN]
    split <;> omega
theorem cnt_le (x : Int64) : cnt x ≤ 64 := cntN_le x 64
/-! the count of the ones by sums of neighbours, as the JDK has it -/
def onesN : Nat → Nat → Nat
  | 0, _ => 0
  | n + 1, x => x % 2 + onesN n (x / 2)
theorem onesN_snoc : ∀ (n x : Nat), onesN (n + 1) x = onesN n x + (x / 2 ^ n) % 2
  | 0, x => by simp [onesN]
  | n + 1, x => by
    rw [onesN, onesN_snoc n (x / 2), onesN]
    rw [Nat.div_div_eq_div_mul, show 2 * 2 ^ n = 2 ^ (n + 1) by rw [Nat.pow_succ]; omega]
    omega
theorem onesN_cnt (x : Int64) : ∀ n, n ≤ 64 → onesN n x.toBitVec.toNat = cntN x n
  | 0, _ => rfl
  | n + 1, h => by
    rw [onesN_snoc, onesN_cnt x n (by omega), cntN]
    have : tb x n = decide ((x.toBitVec.toNat / 2 ^ n) % 2 = 1) := by
      unfold tb
      rw [BitVec.getLsbD, Nat.testBit_eq_decide_div_mod_eq]
    rw [this]
    by_cases h1 : (x.toBitVec.toNat / 2 ^ n) % 2 = 1
    · simp [h1]
    · have : (x.toBitVec.toNat / 2 ^ n) % 2 = 0 := by omega
      simp [this]
theorem onesN_split : ∀ (m n a y : Nat), a < 2 ^ m → onesN (m + n) (a + 2 ^ m * y) = onesN m a + onesN n y
  | 0, n, a, y, h => by
    have : a = 0 := by simpa using h
    subst this
    simp [onesN]
  | m + 1, n, a, y, h => by
    rw [show m + 1 + n = (m + n) + 1 by omega, onesN, onesN]
    have e1 : 2 ^ (m + 1) * y = 2 * (2 ^ m * y) := by rw [Nat.pow_succ, Nat.mul_comm (2 ^ m) 2, Nat.mul_assoc]
    have e2 : (a + 2 ^ (m + 1) * y) % 2 = a % 2 := by rw [e1]; omega
    have e3 : (a + 2 ^ (m + 1) * y) / 2 = a / 2 + 2 ^ m * y := by rw [e1]; omega
    rw [e2, e3, onesN_split m n (a / 2) y (by rw [Nat.pow_succ] at h; omega)]
    omega
theorem and_split (a m y z : Nat) (ha : a < 256) (hm : m < 256) : (a + 256 * y) &&& (m + 256 * z) = (a &&& m) + 256 * (y &&& z) := by
  have h1 : a + 256 * y = 2 ^ 8 * y + a := by omega
  have h2 : m + 256 * z = 2 ^ 8 * z + m := by omega
  have hx : (a &&& m) < 2 ^ 8 := Nat.lt_of_le_of_lt Nat.and_le_left (by omega)
  have h3 : (a &&& m) + 256 * (y &&& z) = 2 ^ 8 * (y &&& z) + (a &&& m) := by omega
  rw [h1, h2, h3]
  apply Nat.eq_of_testBit_eq
  intro i
  rw [Nat.testBit_and, Nat.testBit_two_pow_mul_add _ (by omega), Nat.testBit_two_pow_mul_add _ (by omega), Nat.testBit_two_pow_mul_add _ hx]
  by_cases hi : i < 8
  · simp [hi]
  · simp [hi]
