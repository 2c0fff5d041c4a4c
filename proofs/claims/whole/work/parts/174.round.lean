/-! a ROUND as mathematics -/
abbrev RA : Type := (Nat → Int64) × Int64 × (Nat → Nat) × (Nat → Nat) × (Nat → Bool) × (Nat → Nat) × Nat × (Nat → Nat) × Nat
def aN (A : RA) : Nat → Int64 := A.1
def aL (A : RA) : Int64 := A.2.1
def aA (A : RA) : Nat → Nat := A.2.2.1
def aC (A : RA) : Nat → Nat := A.2.2.2.1
def aO (A : RA) : Nat → Bool := A.2.2.2.2.1
def aT (A : RA) : Nat → Nat := A.2.2.2.2.2.1
def aK (A : RA) : Nat := A.2.2.2.2.2.2.1
def aS (A : RA) : Nat → Nat := A.2.2.2.2.2.2.2.1
def aQ (A : RA) : Nat := A.2.2.2.2.2.2.2.2
def itr (al : Nat → Nat) : Nat → Nat → Nat
  | 0, n => n
  | f + 1, n => itr al f (al n)
/-- the node that a name is in -/
def rt (al : Nat → Nat) (n : Nat) : Nat := itr al 64 n
theorem itr_fix {al : Nat → Nat} {n : Nat} (h : al n = n) : ∀ f, itr al f n = n
  | 0 => rfl
  | f + 1 => by rw [itr, h, itr_fix h f]
theorem itr_lt {al : Nat → Nat} (h : ∀ n, n < 64 → al n < 64) : ∀ f n, n < 64 → itr al f n < 64
  | 0, n, hn => hn
  | f + 1, n, hn => by rw [itr]; exact itr_lt h f _ (h n hn)
theorem itr_end {al : Nat → Nat} (h : ∀ n, n < 64 → al n ≤ n) : ∀ f n, n < 64 → n ≤ f → al (itr al f n) = itr al f n
  | 0, n, hn, hf => by
    have : n = 0 := by omega
    subst this
    have := h 0 (by omega)
    show al 0 = 0
    omega
  | f + 1, n, hn, hf => by
    rw [itr]
    have h1 := h n hn
    by_cases e : al n = n
    · rw [e, itr_fix e]; exact e
    · exact itr_end h f _ (by omega) (by omega)
theorem rt_fix {al : Nat → Nat} (h : ∀ n, n < 64 → al n ≤ n) {n : Nat} (hn : n < 64) : al (rt al n) = rt al n := itr_end h 64 n hn (by omega)
theorem rt_lt {al : Nat → Nat} (h : ∀ n, n < 64 → al n ≤ n) {n : Nat} (hn : n < 64) : rt al n < 64 := itr_lt (fun n hn => by have := h n hn; omega) 64 n hn
/-- the least below n that is so, or n -/
def lf (f : Nat → Bool) : Nat → Nat
  | 0 => 0
  | n + 1 => if lf f n < n then lf f n else if f n = true then n else n + 1
theorem lf_none {f : Nat → Bool} : ∀ {n}, (∀ j, j < n → f j = false) → lf f n = n
  | 0, _ => rfl
  | n + 1, h => by rw [lf, lf_none (fun j hj => h j (by omega)), if_neg (Nat.lt_irrefl n), if_neg (by rw [h n (by omega)]; decide)]
theorem lf_some {f : Nat → Bool} {x : Nat} (h : ∀ j, j < x → f j = false) (hx : f x = true) : ∀ r, lf f (x + 1 + r) = x
  | 0 => by rw [Nat.add_zero, lf, lf_none h, if_neg (Nat.lt_irrefl x), if_pos hx]
  | r + 1 => by rw [← Nat.add_assoc, lf, lf_some h hx r, if_pos (by omega)]
theorem lf_found {f : Nat → Bool} {x n : Nat} (h : ∀ j, j < x → f j = false) (hx : f x = true) (hn : x < n) : lf f n = x := by
  have := lf_some h hx (n - (x + 1))
  rwa [show x + 1 + (n - (x + 1)) = n by omega] at this
theorem lf_is (f : Nat → Bool) : ∀ n, (lf f n = n ∧ ∀ j, j < n → f j = false) ∨ (lf f n < n ∧ f (lf f n) = true ∧ ∀ j, j < lf f n → f j = false)
  | 0 => Or.inl ⟨rfl, fun j hj => by omega⟩
  | n + 1 => by
    rw [lf]
    rcases lf_is f n with ⟨h1, h2⟩ | ⟨h1, h2, h3⟩
    · rw [h1, if_neg (Nat.lt_irrefl n)]
      by_cases c : f n = true
      · rw [if_pos c]; exact Or.inr ⟨by omega, c, h2⟩
      · rw [if_neg c]
        refine Or.inl ⟨rfl, fun j hj => ?_⟩
        by_cases e : j = n
        · rw [e]; exact Bool.eq_false_iff.mpr c
        · exact h2 j (by omega)
    · rw [if_pos h1]; exact Or.inr ⟨by omega, h2, h3⟩
def anyB (f : Nat → Bool) : Nat → Bool
  | 0 => false
  | n + 1 => anyB f n || f n
def cntF (f : Nat → Bool) : Nat → Nat
  | 0 => 0
  | n + 1 => cntF f n + (if f n = true then 1 else 0)
theorem anyB_iff (f : Nat → Bool) : ∀ n, anyB f n = true ↔ ∃ j, j < n ∧ f j = true
  | 0 => ⟨fun h => (by cases h), fun ⟨j, h, _⟩ => (by omega)⟩
  | n + 1 => by
    rw [anyB, Bool.or_eq_true, anyB_iff f n]
    constructor
    · rintro (⟨j, h1, h2⟩ | h)
      · exact ⟨j, by omega, h2⟩
      · exact ⟨n, by omega, h⟩
    · rintro ⟨j, h1, h2⟩
      by_cases e : j = n
      · rw [e] at h2; exact Or.inr h2
      · exact Or.inl ⟨j, by omega, h2⟩
theorem cntF_le (f : Nat → Bool) : ∀ n, cntF f n ≤ n
  | 0 => Nat.le_refl _
  | n + 1 => by
    rw [cntF]
    have := cntF_le f n
    split <;> omega
theorem cntF_congr {f g : Nat → Bool} : ∀ {n}, (∀ j, j < n → f j = g j) → cntF f n = cntF g n
  | 0, _ => rfl
  | n + 1, h => by rw [cntF, cntF, cntF_congr (fun j hj => h j (by omega)), h n (by omega)]
theorem anyB_congr {f g : Nat → Bool} : ∀ {n}, (∀ j, j < n → f j = g j) → anyB f n = anyB g n
  | 0, _ => rfl
  | n + 1, h => by rw [anyB, anyB, anyB_congr (fun j hj => h j (by omega)), h n (by omega)]
/-- one more than the lightest of those that are so, or 0 -/
def bst (f : Nat → Bool) (w : Nat → Nat) : Nat → Nat
  | 0 => 0
  | n + 1 => if f n = true ∧ (bst f w n = 0 ∨ w n < w (bst f w n - 1)) then n + 1 else bst f w n
abbrev noB (x : Nat) : Int64 := one (nI x) ^^^ (-1)
def lowA (k : Nat) (A : RA) (n : Nat) : Bool := decide (4 ≤ n) && tb (aL A) n && decide (cnt (aN A n) < k)
def inA (f1 f2 : Nat → Nat) (A : RA) (m n : Nat) : Bool := decide (rt (aA A) (f1 m) = n) || decide (rt (aA A) (f2 m) = n)
def movA (mv : Nat) (f1 f2 : Nat → Nat) (A : RA) (n : Nat) : Bool := anyB (fun m => aO A m && inA f1 f2 A m n) mv
def takeA (A : RA) (x : Nat) : RA := (fun t => if tb (aN A x) t = true then aN A t &&& noB x else aN A t, aL A &&& noB x, aA A, aC A, aO A, va_up (aT A) (aK A) x, aK A + 1, aS A, aQ A)
def noteA (A : RA) (c : Nat) : RA := (aN A, aL A, aA A, aC A, aO A, aT A, aK A, va_up (aS A) (aQ A) c, aQ A + 1)
def shutA (f1 f2 : Nat → Nat) (A : RA) (x : Nat) : RA := (aN A, aL A, aA A, aC A, fun m => aO A m && !inA f1 f2 A m x, aT A, aK A, aS A, aQ A)
def shutM (A : RA) (m : Nat) : RA := (aN A, aL A, aA A, aC A, va_up (aO A) m false, aT A, aK A, aS A, aQ A)
def mrgN (N : Nat → Int64) (x y : Nat) : Nat → Int64 := fun t => if tb (N y) t = true then (N t &&& noB y) ||| one (nI x) else N t
def mergeA (A : RA) (x y : Nat) : RA := (va_up (mrgN (aN A) x y) x (mrgN (aN A) x y x ||| mrgN (aN A) x y y), aL A &&& noB y, va_up (aA A) y x, va_up (aC A) x (aC A x + aC A y), aO A, aT A, aK A, aS A, aQ A)
def safeR (k : Nat) (A : RA) (x y : Nat) : Bool := !anyB (fun t => tb (aN A y) t && !lowA k A t && decide (4 ≤ t) && !tb (aN A x) t) 64
def crowd (k : Nat) (A : RA) (x y t : Nat) : Bool := (tb (aN A x) t || tb (aN A y) t) && (decide (t < 4) || decide (k + (if (tb (aN A x) t && tb (aN A y) t) = true then 1 else 0) ≤ cnt (aN A t)))
def safeV (k : Nat) (A : RA) (x y : Nat) : Bool := decide (cntF (crowd k A x y) 64 < k)
def safeA (k : Nat) (A : RA) (x y : Nat) : Bool := if x < 4 then safeR k A x y else safeV k A x y
def mA (f1 : Nat → Nat) (A : RA) (m : Nat) : Nat := rt (aA A) (f1 m)
def metA (f1 f2 : Nat → Nat) (A : RA) (m : Nat) : Bool := decide (mA f1 A m = mA f2 A m) || tb (aN A (mA f1 A m)) (mA f2 A m)
def safeM (k : Nat) (f1 f2 : Nat → Nat) (A : RA) (m : Nat) : Bool := safeA k A (min (mA f1 A m) (mA f2 A m)) (max (mA f1 A m) (mA f2 A m))
def turnA (k : Nat) (f1 f2 : Nat → Nat) (A : RA) (m : Nat) : Bool := aO A m && (metA f1 f2 A m || safeM k f1 f2 A m)
def hopeA (w : Nat) (A : RA) : Nat := bst (fun n => decide (4 ≤ n) && tb (aL A) n) (fun n => wgt w (aC A n) (cnt (aN A n))) 64 - 1
/-- one STEP -/
def stepA (k w mv : Nat) (f1 f2 : Nat → Nat) (A : RA) : RA :=
  if lf (fun n => lowA k A n && !movA mv f1 f2 A n) 64 < 64 then noteA (takeA A (lf (fun n => lowA k A n && !movA mv f1 f2 A n) 64)) (100 + lf (fun n => lowA k A n && !movA mv f1 f2 A n) 64)
  else if lf (turnA k f1 f2 A) mv < mv then
    (if metA f1 f2 A (lf (turnA k f1 f2 A) mv) = true then noteA (shutM A (lf (turnA k f1 f2 A) mv)) (200 + lf (turnA k f1 f2 A) mv)
     else noteA (mergeA (shutM A (lf (turnA k f1 f2 A) mv)) (min (mA f1 A (lf (turnA k f1 f2 A) mv)) (mA f2 A (lf (turnA k f1 f2 A) mv))) (max (mA f1 A (lf (turnA k f1 f2 A) mv)) (mA f2 A (lf (turnA k f1 f2 A) mv)))) (300 + lf (turnA k f1 f2 A) mv))
  else if lf (lowA k A) 64 < 64 then noteA (shutA f1 f2 A (lf (lowA k A) 64)) (400 + lf (lowA k A) 64)
  else noteA (takeA (shutA f1 f2 A (hopeA w A)) (hopeA w A)) (500 + hopeA w A)
def leftV (A : RA) : Bool := anyB (fun n => decide (4 ≤ n) && tb (aL A) n) 64
/-- what the class holds of a round -/
def RX (I : IM) (L : LM) (k w mv t : Nat) (f1 f2 : Nat → Nat) (A : RA) : Prop :=
  (∀ n, n < 64 → L 22 n = aN A n) ∧ L 21 14 = aL A ∧ (∀ n, n < 64 → I 25 n = nI (aA A n)) ∧ (∀ n, n < 64 → 4 ≤ n → tb (aL A) n = true → I 24 n = nI (aC A n)) ∧ (∀ m, m < mv → I 29 m = bI (aO A m)) ∧ (∀ i, i < aK A → I 30 i = nI (aT A i)) ∧ I 21 12 = nI (aK A) ∧ (∀ i, i < aQ A → I 31 i = nI (aS A i)) ∧ I 21 13 = nI (aQ A) ∧ I 21 10 = nI t ∧ I 21 11 = nI mv ∧ (∀ m, m < mv → I 27 m = nI (f1 m) ∧ I 28 m = nI (f2 m)) ∧ I 21 18 = nI k ∧ I 21 19 = nI w
/-- a round that is in order -/
def GA (mv t : Nat) (f1 f2 : Nat → Nat) (A : RA) : Prop :=
  (∀ n, n < 64 → aA A n ≤ n) ∧ 4 ≤ t ∧ t ≤ 64 ∧ (∀ n, n < 64 → tb (aL A) n = true → n < t) ∧ (∀ n, n < 4 → tb (aL A) n = true) ∧ (∀ x, x < 64 → tb (aL A) x = true → ∀ y, y < 64 → tb (aN A x) y = true → tb (aL A) y = true ∧ y ≠ x ∧ tb (aN A y) x = true) ∧ (∀ x, x < 4 → ∀ y, y < 4 → x ≠ y → tb (aN A x) y = true) ∧ mv ≤ 90 ∧ (∀ m, m < mv → f1 m < 64 ∧ f2 m < 64) ∧ (∀ m, m < mv → aO A m = true → tb (aL A) (rt (aA A) (f1 m)) = true ∧ tb (aL A) (rt (aA A) (f2 m)) = true) ∧ (∀ i, i < aK A → 4 ≤ aT A i ∧ aT A i < 64 ∧ tb (aL A) (aT A i) = false)
set_option maxRecDepth 20000 in
set_option maxHeartbeats 2000000 in
theorem lp_X5_nodeOf {g : Gl} {D : Nat} {b : Bool} {I : IM} {L : LM} {al : Nat → Nat} {k1 : Int32} {z : Nat} (hI : ∀ n, n < 64 → I 25 n = nI (al n)) (ha : ∀ n, n < 64 → al n ≤ n) {post : Option Value → Bool → IM → LM → Prop} (hp : post (some (.int (nI z))) b I L) : ∀ r k x, k + r = 64 → x < 64 → itr al r x = z → Wp (Kn g D MX5_nodeOf post) (Tb b) 13 [some (rf g 21), some (.int k1), some (.int (nI x)), some (.int (nI k))] [] I L := by
  intro r
  induction r with
  | zero =>
    intro k x hk hx hz
    have ek : k = 64 := by omega
    subst ek
    rw [itr] at hz
    rw [← hz] at hp
    refine wq_iload_n 14 3 dX5_nodeOf_13 rfl rfl rfl ?_
    refine wq_bipush 16 64 dX5_nodeOf_14 rfl (by decide) ?_
    refine wq_ic_ge 19 42 dX5_nodeOf_16 rfl (by decide) (fun c16 => ?_) (fun c16 => absurd (by decide) c16)
    refine wq_iload_n 43 2 dX5_nodeOf_42 rfl rfl rfl ?_
    refine ri .int dX5_nodeOf_43 rfl rfl ?_
    exact hp
  | succ r ih =>
    intro k x hk hx hz
    have hax := ha x hx
    refine wq_iload_n 14 3 dX5_nodeOf_13 rfl rfl rfl ?_
    refine wq_bipush 16 64 dX5_nodeOf_14 rfl (by decide) ?_
    refine wq_ic_ge 19 42 dX5_nodeOf_16 rfl (by decide) (fun c16 => absurd c16 (nI_ge (b := 64) (by omega) (by decide))) (fun c16 => ?_)
    refine wq_bload_n 20 0 dX5_nodeOf_19 rfl rfl rfl ?_
    refine wq_getR 23 fl_X5_22 dX5_nodeOf_20 rfl rfl o_21 (rfl : (Tb _).2.2.2 21 3 = some 25) ?_
    refine wq_iload_n 24 2 dX5_nodeOf_23 rfl rfl rfl ?_
    refine wq_iald 25 dX5_nodeOf_24 rfl a_25 (Ix.nI (by omega) (by decide)) ?_
    rw [hI x hx]
    refine wq_iload_n 26 2 dX5_nodeOf_25 rfl rfl rfl ?_
    refine wq_ic_eq 29 42 dX5_nodeOf_26 rfl (by decide) (fun c26 => ?_) (fun c26 => ?_)
    · skip
      refine wq_iload_n 43 2 dX5_nodeOf_42 rfl rfl rfl ?_
      refine ri .int dX5_nodeOf_43 rfl rfl ?_
      have e := (nI_eq (by omega) (by omega)).mp c26
      rw [itr_fix e] at hz
      rw [← hz] at hp
      exact hp
    · skip
      refine wq_bload_n 30 0 dX5_nodeOf_29 rfl rfl rfl ?_
      refine wq_getR 33 fl_X5_22 dX5_nodeOf_30 rfl rfl o_21 (rfl : (Tb _).2.2.2 21 3 = some 25) ?_
      refine wq_iload_n 34 2 dX5_nodeOf_33 rfl rfl rfl ?_
      refine wq_iald 35 dX5_nodeOf_34 rfl a_25 (Ix.nI (by omega) (by decide)) ?_
      rw [hI x hx]
      refine wq_istore_n 36 2 [_, _, _, _] dX5_nodeOf_35 rfl rfl rfl (Nat.le_of_ble_eq_true rfl) rfl ?_
      refine wq_iinc 39 (_ + 1) [_, _, _, _] dX5_nodeOf_36 rfl rfl (inc1 _) rfl (Nat.le_of_ble_eq_true rfl) rfl ?_
      refine wq_goto 13 dX5_nodeOf_39 (by decide) ?_
      rw [← nI_succ]
      exact ih (k + 1) (al x) (by omega) (by omega) hz
theorem clampN : ∀ n, n < 64 → maxI 0 (minI (nI n) 63) = nI n := by decide
set_option maxRecDepth 20000 in
theorem sp_X5_nodeOf {g : Gl} {D : Nat} {b : Bool} {I : IM} {L : LM} {al : Nat → Nat} (hD : 1 ≤ D) (hI : ∀ n, n < 64 → I 25 n = nI (al n)) (ha : ∀ n, n < 64 → al n ≤ n) {i : Int32} (x : Nat) (hi : i = nI x) (hx : x < 64) : Md g D MX5_nodeOf [rf g 21, .int i] b I L (some (.int (nI (rt al x)))) b I L := by
  subst hi
  refine Me.of [some (rf g 21), some (.int (nI x)), none, none] 2 rfl pf_X5_nodeOf (Nat.le_of_ble_eq_true rfl) ?_
  refine wq_iconst 1 0 dX5_nodeOf_0 rfl (by decide) ?_
  refine wq_iload_n 2 1 dX5_nodeOf_1 rfl rfl rfl ?_
  refine wq_bipush 4 63 dX5_nodeOf_2 rfl (by decide) ?_
  refine cSi2 7 (sp_J9_min_7cf53 _ _) ml_X5_107 mf_J9_min_7cf53 dX5_nodeOf_4 rfl (Nat.le_of_ble_eq_true rfl) (by omega) ?_
  refine cSi2 10 (sp_J9_max_7cf53 _ _) ml_X5_155 mf_J9_max_7cf53 dX5_nodeOf_7 rfl (Nat.le_of_ble_eq_true rfl) (by omega) ?_
  rw [clampN x hx]
  refine wq_istore_n 11 2 [_, _, _, _] dX5_nodeOf_10 rfl rfl rfl (Nat.le_of_ble_eq_true rfl) rfl ?_
  refine wq_iconst 12 0 dX5_nodeOf_11 rfl (by decide) ?_
  refine wq_istore_n 13 3 [_, _, _, _] dX5_nodeOf_12 rfl rfl rfl (Nat.le_of_ble_eq_true rfl) rfl ?_
  exact lp_X5_nodeOf hI ha ⟨rfl, rfl, rfl, rfl⟩ 64 0 x (by omega) hx rfl
set_option maxRecDepth 20000 in
theorem sp_X5_note {g : Gl} {D : Nat} {b : Bool} {I : IM} {L : LM} {q : Nat} (h : I 21 13 = nI q) (hq : q < 154) (kd nu : Nat) {i j : Int32} (hi : i = nI kd) (hj : j = nI nu) : Md g D MX5_note [rf g 21, .int i, .int j] b I L none b (va_up (va_up I 31 (va_up (I 31) q (nI (100 * kd + nu)))) 21 (va_up (I 21) 13 (nI (q + 1)))) L := by
  subst hi hj
  refine Me.of [some (rf g 21), some (.int (nI kd)), some (.int (nI nu))] 0 rfl pf_X5_note (Nat.le_of_ble_eq_true rfl) ?_
  refine wq_bload_n 1 0 dX5_note_0 rfl rfl rfl ?_
  refine wq_getI 4 fl_X5_54 dX5_note_1 rfl rfl o_21 ?_
  refine wq_if_lt 7 42 dX5_note_4 rfl (by decide) (fun c4 => absurd c4 (by rw [h]; exact nI_pos (by omega))) (fun c4 => ?_)
  refine wq_bload_n 8 0 dX5_note_7 rfl rfl rfl ?_
  refine wq_getI 11 fl_X5_54 dX5_note_8 rfl rfl o_21 ?_
  refine wq_sipush 14 154 dX5_note_11 rfl (by decide) ?_
  refine wq_ic_ge 17 42 dX5_note_14 rfl (by decide) (fun c14 => absurd c14 (by rw [h]; exact nI_ge (b := 154) (by omega) (by decide))) (fun c14 => ?_)
  refine wq_bload_n 18 0 dX5_note_17 rfl rfl rfl ?_
  refine wq_getR 21 fl_X5_41 dX5_note_18 rfl rfl o_21 (rfl : (Tb _).2.2.2 21 9 = some 31) ?_
  refine wq_bload_n 22 0 dX5_note_21 rfl rfl rfl ?_
  refine wq_getI 25 fl_X5_54 dX5_note_22 rfl rfl o_21 ?_
  refine wq_bipush 27 100 dX5_note_25 rfl (by decide) ?_
  refine wq_iload_n 28 1 dX5_note_27 rfl rfl rfl ?_
  refine wq_imul 29 dX5_note_28 rfl ?_
  refine wq_iload_n 30 2 dX5_note_29 rfl rfl rfl ?_
  refine wq_iadd 31 dX5_note_30 rfl ?_
  rw [show (100 : Int32) = nI 100 from rfl, pk_mul, nI_add]
  refine wq_iast 32 dX5_note_31 rfl a_31 (by rw [h]; exact Ix.nI (by omega) (by decide)) ?_
  refine wq_bload_n 33 0 dX5_note_32 rfl rfl rfl ?_
  refine wq_dup 34 dX5_note_33 rfl rfl ?_
  refine wq_getI 37 fl_X5_54 dX5_note_34 rfl rfl o_21 ?_
  refine wq_iconst 38 1 dX5_note_37 rfl (by decide) ?_
  refine wq_iadd 39 dX5_note_38 rfl ?_
  refine wq_putI 42 fl_X5_54 dX5_note_39 rfl rfl rfl rfl rfl o_21 ?_
  refine rr dX5_note_42 rfl ?_
  exact ⟨rfl, rfl, by rw [va_up_ne _ _ (show 21 ≠ 31 by decide), h, nI_succ], rfl⟩
set_option maxRecDepth 20000 in
set_option maxHeartbeats 2000000 in
theorem lp_X5_leastOf {g : Gl} {D : Nat} {b : Bool} {I : IM} {L : LM} {s : Int64} {t : Nat} (hD : 1 ≤ D) (h : I 21 10 = nI t) (ht : t ≤ 64) {post : Option Value → Bool → IM → LM → Prop} (hp : post (some (.int (if lf (tb s) t < t then nI (lf (tb s) t) else -6))) b I L) : ∀ r k, k + r = t → (∀ j, j < k → tb s j = false) → Wp (Kn g D MX5_leastOf post) (Tb b) 2 [some (rf g 21), some (.long s), none, some (.int (nI k))] [] I L := by
  intro r
  induction r with
  | zero =>
    intro k hk hs
    have ek : k = t := by omega
    subst ek
    rw [lf_none hs, if_neg (Nat.lt_irrefl _)] at hp
    refine wq_iload_n 3 3 dX5_leastOf_2 rfl rfl rfl ?_
    refine wq_bload_n 4 0 dX5_leastOf_3 rfl rfl rfl ?_
    refine wq_getI 7 fl_X5_44 dX5_leastOf_4 rfl rfl o_21 ?_
    refine wq_ic_ge 10 26 dX5_leastOf_7 rfl (by decide) (fun c7 => ?_) (fun c7 => absurd (by rw [h]; exact nI_le (Nat.le_refl _) (by omega)) c7)
    refine wq_bipush 28 (-6) dX5_leastOf_26 rfl (by decide) ?_
    refine ri .int dX5_leastOf_28 rfl rfl ?_
    exact hp
  | succ r ih =>
    intro k hk hs
    refine wq_iload_n 3 3 dX5_leastOf_2 rfl rfl rfl ?_
    refine wq_bload_n 4 0 dX5_leastOf_3 rfl rfl rfl ?_
    refine wq_getI 7 fl_X5_44 dX5_leastOf_4 rfl rfl o_21 ?_
    refine wq_ic_ge 10 26 dX5_leastOf_7 rfl (by decide) (fun c7 => absurd c7 (by rw [h]; exact nI_ge (by omega) (by omega))) (fun c7 => ?_)
    refine wq_lload_n 11 1 dX5_leastOf_10 rfl rfl rfl ?_
    refine wq_iload_n 12 3 dX5_leastOf_11 rfl rfl rfl ?_
    refine cSi2 15 (sp_X7_has _ _) ml_X5_132 mf_X7_has dX5_leastOf_12 rfl (Nat.le_of_ble_eq_true rfl) (by omega) ?_
    refine wq_if_eq 18 20 dX5_leastOf_15 rfl (by decide) (fun c15 => ?_) (fun c15 => ?_)
    · skip
      refine wq_iinc 23 (_ + 1) [_, _, _, _] dX5_leastOf_20 rfl rfl (inc1 _) rfl (Nat.le_of_ble_eq_true rfl) rfl ?_
      refine wq_goto 2 dX5_leastOf_23 (by decide) ?_
      have hb := (hasX_eq0 s (k := k) (by omega)).mp c15
      rw [← nI_succ]
      refine ih (k + 1) (by omega) (fun j hj => ?_)
      by_cases e : j = k
      · rw [e]; exact hb
      · exact hs j (by omega)
    · skip
      refine wq_iload_n 19 3 dX5_leastOf_18 rfl rfl rfl ?_
      refine ri .int dX5_leastOf_19 rfl rfl ?_
      have hb := (hasX_ne0 s (k := k) (by omega)).mp c15
      rw [lf_found hs hb (by omega), if_pos (by omega)] at hp
      exact hp
set_option maxRecDepth 20000 in
theorem sp_X5_leastOf {g : Gl} {D : Nat} {b : Bool} {I : IM} {L : LM} {t : Nat} (hD : 1 ≤ D) (h : I 21 10 = nI t) (ht : t ≤ 64) (s : Int64) : Md g D MX5_leastOf [rf g 21, .long s] b I L (some (.int (if lf (tb s) t < t then nI (lf (tb s) t) else -6))) b I L := by
  refine Me.of [some (rf g 21), some (.long s), none, none] 1 rfl pf_X5_leastOf (Nat.le_of_ble_eq_true rfl) ?_
  refine wq_iconst 1 0 dX5_leastOf_0 rfl (by decide) ?_
  refine wq_istore_n 2 3 [_, _, _, _] dX5_leastOf_1 rfl rfl rfl (Nat.le_of_ble_eq_true rfl) rfl ?_
  exact lp_X5_leastOf hD h ht ⟨rfl, rfl, rfl, rfl⟩ t 0 (by omega) (fun j hj => by omega)
