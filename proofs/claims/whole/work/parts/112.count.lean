/-! Long.bitCount counts -/
def msk (m : Nat) : Nat → Nat
  | 0 => 0
  | n + 1 => m + 256 * msk m n
theorem msk_s (m n : Nat) : msk m (n + 1) = m + 256 * msk m n := rfl
def f1 (n x : Nat) : Nat := x - ((x / 2) &&& msk 85 n)
def f2 (n x : Nat) : Nat := (x &&& msk 51 n) + ((x / 4) &&& msk 51 n)
def f3 (n x : Nat) : Nat := (x + x / 16) &&& msk 15 n
def s1 (a : Nat) : Nat := a - ((a / 2) &&& 85)
def s2 (a : Nat) : Nat := (a &&& 51) + ((a / 4) &&& 51)
def s3 (a : Nat) : Nat := (a + a / 16) &&& 15
theorem bt1 : ∀ a, a < 256 → ∀ t, t < 2 → (a / 2 + 128 * t) &&& 85 = (a / 2) &&& 85 := by decide +kernel
theorem bt2 : ∀ a, a < 256 → ∀ t, t < 4 → (a / 4 + 64 * t) &&& 51 = (a / 4) &&& 51 := by decide +kernel
theorem bt3 : ∀ a, a < 256 → s1 a < 256 ∧ s2 (s1 a) < 69 ∧ s2 (s1 a) % 16 ≤ 4 ∧ s3 (s2 (s1 a)) = onesN 8 a ∧ onesN 8 a ≤ 8 ∧ (a / 2) &&& 85 ≤ a := by decide +kernel
theorem bt4 : ∀ a, a < 69 → ∀ t, t < 5 → (a + a / 16 + 16 * t) &&& 15 = (a + a / 16) &&& 15 := by decide +kernel
theorem f1s (n a y : Nat) (ha : a < 256) : f1 (n + 1) (a + 256 * y) = s1 a + 256 * f1 n y := by
  unfold f1 s1
  have e : (a + 256 * y) / 2 = (a / 2 + 128 * (y % 2)) + 256 * (y / 2) := by omega
  rw [e, msk_s, and_split _ _ _ _ (by omega) (by omega), bt1 a ha _ (Nat.mod_lt _ (by omega))]
  have h1 := (bt3 a ha).2.2.2.2.2
  have h2 : (y / 2) &&& msk 85 n ≤ y := Nat.le_trans Nat.and_le_left (by omega)
  omega
theorem f2s (n a y : Nat) (ha : a < 256) : f2 (n + 1) (a + 256 * y) = s2 a + 256 * f2 n y := by
  unfold f2 s2
  have e : (a + 256 * y) / 4 = (a / 4 + 64 * (y % 4)) + 256 * (y / 4) := by omega
  rw [e, msk_s, and_split a _ _ _ ha (by omega), and_split _ _ _ _ (by omega) (by omega), bt2 a ha _ (Nat.mod_lt _ (by omega))]
  omega
theorem f3s (n a y : Nat) (ha : a < 69) (hy : y % 16 ≤ 4) : f3 (n + 1) (a + 256 * y) = s3 a + 256 * f3 n y := by
  unfold f3 s3
  have e : (a + 256 * y) + (a + 256 * y) / 16 = (a + a / 16 + 16 * (y % 16)) + 256 * (y + y / 16) := by omega
  rw [e, msk_s, and_split _ _ _ _ (by omega) (by omega), bt4 a ha _ (by omega)]
theorem cut256 (x : Nat) : x = x % 256 + 256 * (x / 256) := by omega
theorem f2_low (n x : Nat) : f2 n (f1 n x) % 16 ≤ 4 := by
  cases n with
  | zero => simp [f2, msk]
  | succ n =>
    rw [cut256 x, f1s _ _ _ (Nat.mod_lt _ (by omega))]
    have h := bt3 (x % 256) (Nat.mod_lt _ (by omega))
    rw [f2s _ _ _ h.1]
    have := h.2.2.1
    omega
def ff (n x : Nat) : Nat := f3 n (f2 n (f1 n x))
theorem ff_s (n x : Nat) : ff (n + 1) x = onesN 8 (x % 256) + 256 * ff n (x / 256) := by
  unfold ff
  have h := bt3 (x % 256) (Nat.mod_lt _ (by omega))
  conv => lhs; rw [cut256 x]
  rw [f1s _ _ _ (Nat.mod_lt _ (by omega)), f2s _ _ _ h.1, f3s _ _ _ h.2.1 (f2_low _ _), h.2.2.2.1]
theorem ff_0 (x : Nat) : ff 0 x = 0 := by simp [ff, f3, msk]
theorem ones_s (n x : Nat) : onesN (8 + n) x = onesN 8 (x % 256) + onesN n (x / 256) := by
  conv => lhs; rw [cut256 x]
  exact onesN_split 8 n (x % 256) (x / 256) (Nat.mod_lt _ (by omega))
theorem hb (c z Z : Nat) (hc : c ≤ 8) (hz : z ≤ Z) : c + 256 * z ≤ 8 + 256 * Z := by omega
theorem ff_le : ∀ (n x : Nat), ff n x ≤ msk 8 n
  | 0, x => by rw [ff_0]; exact Nat.zero_le _
  | n + 1, x => by
    rw [ff_s, msk]
    have := (bt3 (x % 256) (Nat.mod_lt _ (by omega))).2.2.2.2.1
    have := ff_le n (x / 256)
    omega
/-- the sums of neighbours, by places -/
theorem fold4 (c0 c1 z1 z2 : Nat) (h0 : c0 ≤ 8) (h1 : z1 = c1 + 256 * z2) : (c0 + 256 * z1) + (c0 + 256 * z1) / 256 = (c0 + c1) + 256 * (z1 + z2) := by omega
theorem fold4' (c1 c2 z1 z2 z3 : Nat) (h1 : z1 = c1 + 256 * z2) (h2 : z2 = c2 + 256 * z3) : z1 + z2 = (c1 + c2) + 256 * (z2 + z3) := by omega
theorem fold5 (d0 d1 d2 w1 w2 w3 : Nat) (h0 : d0 ≤ 16) (h1 : d1 ≤ 16) (e1 : w1 = d1 + 256 * w2) (e2 : w2 = d2 + 256 * w3) : (d0 + 256 * w1) + (d0 + 256 * w1) / 65536 = (d0 + d2) + 256 * (w1 + w3) := by omega
theorem fold6 (e0 e1 e2 e3 v1 v2 v3 v4 : Nat) (h0 : e0 ≤ 32) (h1 : e1 ≤ 32) (h2 : e2 ≤ 32) (h3 : e3 ≤ 32) (f1 : v1 = e1 + 256 * v2) (f2 : v2 = e2 + 256 * v3) (f3 : v3 = e3 + 256 * v4) : (e0 + 256 * v1) / 4294967296 = v4 := by
  have a1 : (e0 + 256 * v1) / 256 = v1 := by omega
  have a2 : v1 / 256 = v2 := by omega
  have a3 : v2 / 256 = v3 := by omega
  have a4 : v3 / 256 = v4 := by omega
  rw [show (4294967296 : Nat) = 256 * 256 * 256 * 256 from rfl, ← Nat.div_div_eq_div_mul, ← Nat.div_div_eq_div_mul, ← Nat.div_div_eq_div_mul, a1, a2, a3, a4]
theorem fold_v (a b p p' q q' : Nat) (hp : p = a + 256 * q) (hp' : p' = b + 256 * q') : p + p' = (a + b) + 256 * (q + q') := by omega
theorem fold_e (e0 e4 r1 r2 : Nat) (h0 : e0 ≤ 32) (h4 : e4 ≤ 32) : (e0 + 256 * r1 + (e4 + 256 * r2)) % 128 = e0 + e4 := by omega
theorem fold_p (c0 c1 c2 c3 c4 c5 c6 c7 q1 q2 q3 q4 q5 q6 q7 y3 y4 y5 y6 : Nat) (b0 : c0 ≤ 8) (b1 : c1 ≤ 8) (b2 : c2 ≤ 8) (b3 : c3 ≤ 8) (b4 : c4 ≤ 8) (b5 : c5 ≤ 8) (b6 : c6 ≤ 8) (b7 : c7 ≤ 8)
    (h3 : y3 = c0 + 256 * q1) (z1 : q1 = c1 + 256 * q2) (z2 : q2 = c2 + 256 * q3) (z3 : q3 = c3 + 256 * q4) (z4 : q4 = c4 + 256 * q5) (z5 : q5 = c5 + 256 * q6) (z6 : q6 = c6 + 256 * q7) (z7 : q7 = c7 + 256 * 0)
    (h4 : y4 = y3 + y3 / 256) (h5 : y5 = y4 + y4 / 65536) (h6 : y6 = y5 + y5 / 4294967296) : y6 % 128 = c0 + (c1 + (c2 + (c3 + (c4 + (c5 + (c6 + (c7 + 0))))))) := by
  have w1 := fold4' c1 c2 q1 q2 q3 z1 z2
  have w2 := fold4' c2 c3 q2 q3 q4 z2 z3
  have w3 := fold4' c3 c4 q3 q4 q5 z3 z4
  have w4 := fold4' c4 c5 q4 q5 q6 z4 z5
  have w5 := fold4' c5 c6 q5 q6 q7 z5 z6
  have w6 := fold4' c6 c7 q6 q7 0 z6 z7
  rw [h3, fold4 c0 c1 q1 q2 b0 z1] at h4
  generalize q1 + q2 = p1 at *
  generalize q2 + q3 = p2 at *
  generalize q3 + q4 = p3 at *
  generalize q4 + q5 = p4 at *
  generalize q5 + q6 = p5 at *
  generalize q6 + q7 = p6 at *
  generalize q7 + 0 = p7 at *
  rw [h4, fold5 (c0 + c1) (c1 + c2) (c2 + c3) p1 p2 p3 (Nat.add_le_add b0 b1) (Nat.add_le_add b1 b2) w1 w2] at h5
  have v1 := fold_v _ _ _ _ _ _ w1 w3
  have v2 := fold_v _ _ _ _ _ _ w2 w4
  have v3 := fold_v _ _ _ _ _ _ w3 w5
  have v4 := fold_v _ _ _ _ _ _ w4 w6
  have h7 := fold6 ((c0 + c1) + (c2 + c3)) _ _ _ (p1 + p3) (p2 + p4) (p3 + p5) (p4 + p6) (Nat.add_le_add (Nat.add_le_add b0 b1) (Nat.add_le_add b2 b3)) (Nat.add_le_add (Nat.add_le_add b1 b2) (Nat.add_le_add b3 b4)) (Nat.add_le_add (Nat.add_le_add b2 b3) (Nat.add_le_add b4 b5)) (Nat.add_le_add (Nat.add_le_add b3 b4) (Nat.add_le_add b5 b6)) v1 v2 v3
  rw [h5, h7, v4] at h6
  rw [h6, fold_e _ _ _ _ (Nat.add_le_add (Nat.add_le_add b0 b1) (Nat.add_le_add b2 b3)) (Nat.add_le_add (Nat.add_le_add b4 b5) (Nat.add_le_add b6 b7))]
  clear w1 w2 w3 w4 w5 w6 v1 v2 v3 v4 h7 h3 h4 h5 h6 z1 z2 z3 z4 z5 z6 z7
  omega
theorem fold_ok (X y3 y4 y5 y6 : Nat) (h3 : y3 = ff 8 X) (h4 : y4 = y3 + y3 / 256) (h5 : y5 = y4 + y4 / 65536) (h6 : y6 = y5 + y5 / 4294967296) : y6 % 128 = onesN 64 X := by
  have o64 : onesN 64 X = onesN 8 (X % 256) + onesN 56 (X / 256) := ones_s 56 X
  have o56 : onesN 56 (X / 256) = onesN 8 (X / 256 % 256) + onesN 48 (X / 256 / 256) := ones_s 48 _
  have o48 : onesN 48 (X / 256 / 256) = onesN 8 (X / 256 / 256 % 256) + onesN 40 (X / 256 / 256 / 256) := ones_s 40 _
  have o40 : onesN 40 (X / 256 / 256 / 256) = onesN 8 (X / 256 / 256 / 256 % 256) + onesN 32 (X / 256 / 256 / 256 / 256) := ones_s 32 _
  have o32 : onesN 32 (X / 256 / 256 / 256 / 256) = onesN 8 (X / 256 / 256 / 256 / 256 % 256) + onesN 24 (X / 256 / 256 / 256 / 256 / 256) := ones_s 24 _
  have o24 : onesN 24 (X / 256 / 256 / 256 / 256 / 256) = onesN 8 (X / 256 / 256 / 256 / 256 / 256 % 256) + onesN 16 (X / 256 / 256 / 256 / 256 / 256 / 256) := ones_s 16 _
  have o16 : onesN 16 (X / 256 / 256 / 256 / 256 / 256 / 256) = onesN 8 (X / 256 / 256 / 256 / 256 / 256 / 256 % 256) + onesN 8 (X / 256 / 256 / 256 / 256 / 256 / 256 / 256) := ones_s 8 _
  have o8 : onesN 8 (X / 256 / 256 / 256 / 256 / 256 / 256 / 256) = onesN 8 (X / 256 / 256 / 256 / 256 / 256 / 256 / 256 % 256) + 0 := ones_s 0 _
  have bb : ∀ z, onesN 8 (z % 256) ≤ 8 := fun z => (bt3 (z % 256) (Nat.mod_lt _ (by omega))).2.2.2.2.1
  have z7 := ff_s 0 (X / 256 / 256 / 256 / 256 / 256 / 256 / 256)
  rw [ff_0] at z7
  have := fold_p _ _ _ _ _ _ _ _ _ _ _ _ _ _ _ y3 y4 y5 y6 (bb _) (bb _) (bb _) (bb _) (bb _) (bb _) (bb _) (bb _) (h3.trans (ff_s 7 X)) (ff_s 6 (X / 256)) (ff_s 5 (X / 256 / 256)) (ff_s 4 (X / 256 / 256 / 256)) (ff_s 3 (X / 256 / 256 / 256 / 256)) (ff_s 2 (X / 256 / 256 / 256 / 256 / 256)) (ff_s 1 (X / 256 / 256 / 256 / 256 / 256 / 256)) z7 h4 h5 h6
  rw [this, o64, o56, o48, o40, o32, o24, o16, o8]
