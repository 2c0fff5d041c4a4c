/-! each step makes a round less -/
def lvA (A : RA) : Nat := cntF (valA A) 64
def omA (mv : Nat) (A : RA) : Nat := cntF (aO A) mv
def cgA (A : RA) : Nat → Nat := fun n => if valA A n = true then aC A n else 0
def csA (A : RA) : Nat := sumF (cgA A) 64
def GS (mv t : Nat) (f1 f2 : Nat → Nat) (A : RA) : Prop := GA mv t f1 f2 A ∧ aQ A + lvA A + omA mv A ≤ 150 ∧ aK A + lvA A ≤ 60 ∧ csA A ≤ 640000
theorem val_iff (A : RA) (n : Nat) : valA A n = true ↔ 4 ≤ n ∧ tb (aL A) n = true := by
  show (decide (4 ≤ n) && tb (aL A) n) = true ↔ _
  rw [Bool.and_eq_true, decide_eq_true_eq]
theorem val_take {A : RA} {x : Nat} (hx : x < 64) (n : Nat) : valA (takeA A x) n = true ↔ valA A n = true ∧ n ≠ x := by
  rw [val_iff, val_iff, show aL (takeA A x) = aL A &&& noB x from rfl, tb_noB _ hx, Bool.and_eq_true, decide_eq_true_eq, and_assoc]
theorem val_merge {A : RA} {x y : Nat} (hy : y < 64) (n : Nat) : valA (mergeA A x y) n = true ↔ valA A n = true ∧ n ≠ y := by
  rw [val_iff, val_iff, show aL (mergeA A x y) = aL A &&& noB y from rfl, tb_noB _ hy, Bool.and_eq_true, decide_eq_true_eq, and_assoc]
theorem low_val {k : Nat} {A : RA} {n : Nat} (h : lowA k A n = true) : valA A n = true := by
  rw [lowA, Bool.and_eq_true] at h
  exact h.1
theorem val_low {A : RA} {n : Nat} (h : valA A n = true) : 4 ≤ n ∧ tb (aL A) n = true := (val_iff A n).mp h
theorem mov_no {mv : Nat} {f1 f2 : Nat → Nat} {A : RA} {n : Nat} (h : movA mv f1 f2 A n = false) : ∀ m, m < mv → aO A m = true → inA f1 f2 A m n = false := by
  intro m hm ho
  refine Bool.eq_false_iff.mpr (fun z => ?_)
  have := (anyB_iff (fun m => aO A m && inA f1 f2 A m n) mv).mpr ⟨m, hm, by rw [ho, z]; rfl⟩
  rw [show anyB (fun m => aO A m && inA f1 f2 A m n) mv = movA mv f1 f2 A n from rfl, h] at this
  cases this
theorem take_less {A : RA} {x : Nat} (hx : x < 64) (hv : valA A x = true) : lvA (takeA A x) + 1 ≤ lvA A ∧ csA (takeA A x) ≤ csA A := by
  refine ⟨cntF_less (x := x) hv (Bool.eq_false_iff.mpr (fun z => ((val_take hx x).mp z).2 rfl)) hx (fun j _ z => ((val_take hx j).mp z).1), sumF_mono (fun j _ => ?_)⟩
  unfold cgA
  by_cases c : valA (takeA A x) j = true
  · rw [if_pos c, if_pos ((val_take hx j).mp c).1]; exact Nat.le_refl _
  · rw [if_neg c]; omega
theorem merge_less {A : RA} {x y : Nat} (hx : x < 64) (hy : y < 64) (hxy : x < y) (hxl : tb (aL A) x = true) (hv : valA A y = true) : lvA (mergeA A x y) ≤ lvA A ∧ csA (mergeA A x y) ≤ csA A := by
  refine ⟨cntF_mono (fun j _ z => ((val_merge hy j).mp z).1), ?_⟩
  have ev : ∀ n, cgA (mergeA A x y) n = if valA (mergeA A x y) n = true then va_up (aC A) x (aC A x + aC A y) n else 0 := fun n => rfl
  have vy : ¬ valA (mergeA A x y) y = true := fun z => ((val_merge hy y).mp z).2 rfl
  by_cases c4 : 4 ≤ x
  · have vx : valA A x = true := (val_iff A x).mpr ⟨c4, hxl⟩
    have gx : cgA A x = aC A x := if_pos vx
    have gy : cgA A y = aC A y := if_pos hv
    have e : csA (mergeA A x y) = sumF (va_up (va_up (cgA A) y 0) x (cgA A x + cgA A y)) 64 := by
      refine sumF_congr (fun j hj => ?_)
      rw [ev]
      by_cases c : j = x
      · rw [c, if_pos ((val_merge hy x).mpr ⟨vx, by omega⟩), va_up_self, va_up_self, gx, gy]
      · rw [va_up_ne _ _ c, va_up_ne _ _ c]
        by_cases d : j = y
        · rw [d, va_up_self, if_neg vy]
        · rw [va_up_ne _ _ d]
          by_cases q : valA A j = true
          · rw [if_pos ((val_merge hy j).mpr ⟨q, d⟩)]; exact (if_pos q).symm
          · rw [if_neg (fun z => q ((val_merge hy j).mp z).1)]; exact (if_neg q).symm
    have s1 := sumF_up (f := va_up (cgA A) y 0) (j := x) (v := cgA A x + cgA A y) (n := 64) hx
    have s2 := sumF_up (f := cgA A) (j := y) (v := 0) (n := 64) hy
    rw [va_up_ne _ _ (show x ≠ y by omega)] at s1
    rw [e]
    unfold csA
    omega
  · refine sumF_mono (fun j hj => ?_)
    rw [ev]
    by_cases q : valA (mergeA A x y) j = true
    · have q2 := ((val_merge hy j).mp q).1
      have j4 := (val_low q2).1
      rw [if_pos q, va_up_ne _ _ (by omega)]
      exact Nat.le_of_eq (if_pos q2).symm
    · rw [if_neg q]; omega
theorem step_less {k w mv t : Nat} {f1 f2 : Nat → Nat} {A : RA} (h : GS mv t f1 f2 A) (hl : leftV A = true) : GS mv t f1 f2 (stepA k w mv f1 f2 A) ∧ lvA (stepA k w mv f1 f2 A) + omA mv (stepA k w mv f1 f2 A) + 1 ≤ lvA A + omA mv A := by
  obtain ⟨hg, h1, h2, h3⟩ := h
  unfold stepA
  rcases lf_is (fun n => lowA k A n && !movA mv f1 f2 A n) 64 with ⟨c1, c2⟩ | ⟨c1, c2, c3⟩
  · rw [if_neg (by omega)]
    rcases lf_is (turnA k f1 f2 A) mv with ⟨d1, d2⟩ | ⟨d1, d2, -⟩
    · rw [if_neg (by omega)]
      rcases lf_is (lowA k A) 64 with ⟨e1, e2⟩ | ⟨e1, e2, -⟩
      · rw [if_neg (by omega)]
        have hpos : 1 ≤ bst (valA A) (wtA w A) 64 ∧ bst (valA A) (wtA w A) 64 ≤ 64 ∧ valA A (bst (valA A) (wtA w A) 64 - 1) = true := by
          rcases bst_is (valA A) (wtA w A) 64 with ⟨z1, z2⟩ | z
          · obtain ⟨j, j1, j2⟩ := (anyB_iff _ 64).mp hl
            have z3 : (decide (4 ≤ j) && tb (aL A) j) = false := z2 j j1
            rw [z3] at j2
            cases j2
          · exact z
        have hx64 : hopeA w A < 64 := by
          show bst (valA A) (wtA w A) 64 - 1 < 64
          omega
        have hv : valA A (hopeA w A) = true := hpos.2.2
        generalize hopeA w A = x at *
        have hv4 := val_low hv
        have t1 := take_less (A := shutA f1 f2 A x) hx64 hv
        have t2 : omA mv (shutA f1 f2 A x) ≤ omA mv A := cntF_mono (fun j _ z => by
          have z' : (aO A j && !inA f1 f2 A j x) = true := z
          rw [Bool.and_eq_true] at z'
          exact z'.1)
        have hG : GA mv t f1 f2 (takeA (shutA f1 f2 A x) x) := GA_take (GA_shut hg) hx64 hv4.1 hv4.2 (fun m hm ho => by
          have z' : (aO A m && !inA f1 f2 A m x) = true := ho
          rw [Bool.and_eq_true, Bool.not_eq_true'] at z'
          exact z'.2)
        have l1 : lvA (shutA f1 f2 A x) = lvA A := rfl
        have l2 : csA (shutA f1 f2 A x) = csA A := rfl
        have l3 : omA mv (takeA (shutA f1 f2 A x) x) = omA mv (shutA f1 f2 A x) := rfl
        refine ⟨⟨hG, ?_, ?_, ?_⟩, ?_⟩
        · show aQ A + 1 + lvA (takeA (shutA f1 f2 A x) x) + omA mv (takeA (shutA f1 f2 A x) x) ≤ 150
          omega
        · show aK A + 1 + lvA (takeA (shutA f1 f2 A x) x) ≤ 60
          omega
        · show csA (takeA (shutA f1 f2 A x) x) ≤ 640000
          omega
        · show lvA (takeA (shutA f1 f2 A x) x) + omA mv (takeA (shutA f1 f2 A x) x) + 1 ≤ _
          omega
      · rw [if_pos e1]
        have hm : movA mv f1 f2 A (lf (lowA k A) 64) = true := by
          have := c2 (lf (lowA k A) 64) e1
          rw [e2, Bool.true_and, Bool.not_eq_false'] at this
          exact this
        generalize lf (lowA k A) 64 = x at *
        obtain ⟨m, m1, m2⟩ := (anyB_iff (fun m => aO A m && inA f1 f2 A m x) mv).mp hm
        rw [Bool.and_eq_true] at m2
        have t2 : omA mv (shutA f1 f2 A x) + 1 ≤ omA mv A := cntF_less (x := m) m2.1 (by
          show (aO A m && !inA f1 f2 A m x) = false
          rw [m2.2, Bool.not_true, Bool.and_false]) m1 (fun j _ z => by
          have z' : (aO A j && !inA f1 f2 A j x) = true := z
          rw [Bool.and_eq_true] at z'
          exact z'.1)
        refine ⟨⟨GA_shut hg, ?_, h2, h3⟩, ?_⟩
        · show aQ A + 1 + lvA A + omA mv (shutA f1 f2 A x) ≤ 150
          omega
        · show lvA A + omA mv (shutA f1 f2 A x) + 1 ≤ _
          omega
    · rw [if_pos d1]
      generalize lf (turnA k f1 f2 A) mv = m at *
      have ho : aO A m = true := by
        rw [turnA, Bool.and_eq_true] at d2
        exact d2.1
      have t2 : omA mv (shutM A m) + 1 ≤ omA mv A := cntF_less (x := m) ho (by
        show va_up (aO A) m false m = false
        rw [va_up_self]) d1 (fun j _ z => by
        have z' : va_up (aO A) m false j = true := z
        by_cases e : j = m
        · rw [e, va_up_self] at z'; cases z'
        · rw [va_up_ne _ _ e] at z'; exact z')
      by_cases c : metA f1 f2 A m = true
      · rw [if_pos c]
        refine ⟨⟨GA_shutM hg, ?_, h2, h3⟩, ?_⟩
        · show aQ A + 1 + lvA A + omA mv (shutM A m) ≤ 150
          omega
        · show lvA A + omA mv (shutM A m) + 1 ≤ _
          omega
      · rw [if_neg c]
        obtain ⟨k1, k2, k3, k4, k5, k6, k7⟩ := met_no hg d1 ho (Bool.eq_false_iff.mpr c)
        have ga := hg.1
        have gf := hg.2.2.2.2.2.2.2.2.1 m d1
        have r1 : aA A (mA f1 A m) = mA f1 A m := rt_fix ga gf.1
        have r2 : aA A (mA f2 A m) = mA f2 A m := rt_fix ga gf.2
        have rx : aA A (min (mA f1 A m) (mA f2 A m)) = min (mA f1 A m) (mA f2 A m) := by
          rcases Nat.le_total (mA f1 A m) (mA f2 A m) with z | z
          · rw [Nat.min_eq_left z]; exact r1
          · rw [Nat.min_eq_right z]; exact r2
        have ry : aA A (max (mA f1 A m) (mA f2 A m)) = max (mA f1 A m) (mA f2 A m) := by
          rcases Nat.le_total (mA f1 A m) (mA f2 A m) with z | z
          · rw [Nat.max_eq_right z]; exact r2
          · rw [Nat.max_eq_left z]; exact r1
        generalize min (mA f1 A m) (mA f2 A m) = x at *
        generalize max (mA f1 A m) (mA f2 A m) = y at *
        have hG := GA_merge (GA_shutM (x := m) hg) k1 k2 k3 k4 k5 k6 k7 rx ry
        have ml := merge_less (A := shutM A m) k1 k2 k3 k5 ((val_iff A y).mpr ⟨k4, k6⟩)
        have l1 : lvA (shutM A m) = lvA A := rfl
        have l2 : csA (shutM A m) = csA A := rfl
        have l3 : omA mv (mergeA (shutM A m) x y) = omA mv (shutM A m) := rfl
        refine ⟨⟨hG, ?_, ?_, ?_⟩, ?_⟩
        · show aQ A + 1 + lvA (mergeA (shutM A m) x y) + omA mv (mergeA (shutM A m) x y) ≤ 150
          omega
        · show aK A + lvA (mergeA (shutM A m) x y) ≤ 60
          omega
        · show csA (mergeA (shutM A m) x y) ≤ 640000
          omega
        · show lvA (mergeA (shutM A m) x y) + omA mv (mergeA (shutM A m) x y) + 1 ≤ _
          omega
  · rw [if_pos c1]
    have hc : lowA k A (lf (fun n => lowA k A n && !movA mv f1 f2 A n) 64) = true ∧ movA mv f1 f2 A (lf (fun n => lowA k A n && !movA mv f1 f2 A n) 64) = false := by
      rw [Bool.and_eq_true, Bool.not_eq_true'] at c2
      exact c2
    clear c2 c3
    generalize lf (fun n => lowA k A n && !movA mv f1 f2 A n) 64 = x at *
    have hv := low_val hc.1
    have hv4 := val_low hv
    have t1 := take_less (A := A) c1 hv
    have l3 : omA mv (takeA A x) = omA mv A := rfl
    have hG : GA mv t f1 f2 (takeA A x) := GA_take hg c1 hv4.1 hv4.2 (mov_no hc.2)
    refine ⟨⟨hG, ?_, ?_, ?_⟩, ?_⟩
    · show aQ A + 1 + lvA (takeA A x) + omA mv (takeA A x) ≤ 150
      omega
    · show aK A + 1 + lvA (takeA A x) ≤ 60
      omega
    · show csA (takeA A x) ≤ 640000
      omega
    · show lvA (takeA A x) + omA mv (takeA A x) + 1 ≤ _
      omega
theorem GS_cost {mv t : Nat} {f1 f2 : Nat → Nat} {A : RA} (h : GS mv t f1 f2 A) : ∀ n, n < 64 → 4 ≤ n → tb (aL A) n = true → aC A n < 2 ^ 24 := by
  intro n hn n4 hl
  have e : cgA A n = aC A n := if_pos ((val_iff A n).mpr ⟨n4, hl⟩)
  have := sumF_ge (f := cgA A) hn
  have h3 := h.2.2.2
  unfold csA at h3
  omega
/-- the STEPS, till no value is left -/
def runA (k w mv : Nat) (f1 f2 : Nat → Nat) : Nat → RA → RA
  | 0, A => A
  | f + 1, A => if leftV A = true then runA k w mv f1 f2 f (stepA k w mv f1 f2 A) else A
theorem runA_stop {k w mv : Nat} {f1 f2 : Nat → Nat} {A : RA} (h : leftV A = false) : ∀ f, runA k w mv f1 f2 f A = A
  | 0 => rfl
  | f + 1 => by rw [runA, if_neg (by rw [h]; decide)]
