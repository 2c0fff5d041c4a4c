/-! the rows of those that were taken stay -/
theorem row_no {mv t : Nat} {f1 f2 : Nat → Nat} {A : RA} (hg : GA mv t f1 f2 A) {x z : Nat} (hx : x < 64) (hxl : tb (aL A) x = true) (hz : z < 64) (hzl : tb (aL A) z = false) : tb (aN A x) z = false := Bool.eq_false_iff.mpr (fun q => by
  rw [(hg.2.2.2.2.2.1 x hx hxl z hz q).1] at hzl
  cases hzl)
theorem take_row {mv t : Nat} {f1 f2 : Nat → Nat} {A : RA} (hg : GA mv t f1 f2 A) {x z : Nat} (hx : x < 64) (hxl : tb (aL A) x = true) (hz : z < 64) (hzl : z = x ∨ tb (aL A) z = false) : aN (takeA A x) z = aN A z := by
  show (if tb (aN A x) z = true then aN A z &&& noB x else aN A z) = aN A z
  refine if_neg (fun q => ?_)
  rcases hzl with e | e
  · rw [e] at q
    exact (hg.2.2.2.2.2.1 x hx hxl x hx q).2.1 rfl
  · rw [row_no hg hx hxl hz e] at q; cases q
theorem merge_row {mv t : Nat} {f1 f2 : Nat → Nat} {A : RA} (hg : GA mv t f1 f2 A) {x y z : Nat} (hxl : tb (aL A) x = true) (hy : y < 64) (hyl : tb (aL A) y = true) (hz : z < 64) (hzl : tb (aL A) z = false) : aN (mergeA A x y) z = aN A z := by
  show va_up (mrgN (aN A) x y) x (mrgN (aN A) x y x ||| mrgN (aN A) x y y) z = aN A z
  rw [va_up_ne _ _ (fun e => by rw [e, hxl] at hzl; cases hzl)]
  unfold mrgN
  exact if_neg (fun q => by rw [row_no hg hy hyl hz hzl] at q; cases q)
/-- what a step does to those taken: none is lost, their rows stay; who is new was left -/
def TkS (A A' : RA) : Prop := aK A ≤ aK A' ∧ (∀ i, i < aK A → aT A' i = aT A i ∧ aN A' (aT A i) = aN A (aT A i)) ∧ ∀ i, aK A ≤ i → i < aK A' → aT A' i < 64 ∧ tb (aL A) (aT A' i) = true ∧ aN A' (aT A' i) = aN A (aT A' i)
theorem TkS_take {mv t : Nat} {f1 f2 : Nat → Nat} {A A' : RA} (hg : GA mv t f1 f2 A) (eT : aT A' = aT A) (eK : aK A' = aK A) (eN : aN A' = aN A) (eL : aL A' = aL A) {x c : Nat} (hx : x < 64) (hxl : tb (aL A) x = true) (hg' : GA mv t f1 f2 A') : TkS A (noteA (takeA A' x) c) := by
  have e1 : aK (noteA (takeA A' x) c) = aK A + 1 := by show aK A' + 1 = _; rw [eK]
  have e2 : aT (noteA (takeA A' x) c) = va_up (aT A) (aK A) x := by show va_up (aT A') (aK A') x = _; rw [eT, eK]
  have e3 : ∀ z, z < 64 → (z = x ∨ tb (aL A) z = false) → aN (noteA (takeA A' x) c) z = aN A z := fun z hz h => by
    show aN (takeA A' x) z = _
    rw [take_row hg' hx (by rw [eL]; exact hxl) hz (by rw [eL]; exact h), eN]
  refine ⟨by omega, fun i hi => ?_, fun i h1 h2 => ?_⟩
  · obtain ⟨-, b2, b3⟩ := hg.2.2.2.2.2.2.2.2.2.2 i hi
    refine ⟨?_, e3 _ b2 (Or.inr b3)⟩
    rw [e2, va_up_ne _ _ (by omega)]
  · have ei : i = aK A := by omega
    rw [e2, ei, va_up_self]
    exact ⟨hx, hxl, e3 x hx (Or.inl rfl)⟩
theorem step_taken {k w mv t : Nat} {f1 f2 : Nat → Nat} {A : RA} (hg : GA mv t f1 f2 A) (hl : leftV A = true) : TkS A (stepA k w mv f1 f2 A) := by
  unfold stepA
  rcases lf_is (fun n => lowA k A n && !movA mv f1 f2 A n) 64 with ⟨c1, c2⟩ | ⟨c1, c2, c3⟩
  · rw [if_neg (by omega)]
    rcases lf_is (turnA k f1 f2 A) mv with ⟨d1, d2⟩ | ⟨d1, d2, -⟩
    · rw [if_neg (by omega)]
      rcases lf_is (lowA k A) 64 with ⟨e1, e2⟩ | ⟨e1, e2, -⟩
      · rw [if_neg (by omega)]
        have hpos : 1 ≤ bst (valA A) (wtA w A) 64 ∧ bst (valA A) (wtA w A) 64 ≤ 64 ∧ valA A (bst (valA A) (wtA w A) 64 - 1) = true := by
          rcases bst_is (valA A) (wtA w A) 64 with ⟨z1, z2⟩ | z
          · obtain ⟨j, j1, j2⟩ := (anyB_iff _ 64).mp hl
            have z3 : (decide (4 ≤ j) && tb (aL A) j) = false := z2 j j1
            rw [z3] at j2
            cases j2
          · exact z
        have hx64 : hopeA w A < 64 := by
          show bst (valA A) (wtA w A) 64 - 1 < 64
          omega
        have hv : valA A (hopeA w A) = true := hpos.2.2
        exact TkS_take (A' := shutA f1 f2 A (hopeA w A)) hg rfl rfl rfl rfl hx64 (val_low hv).2 (GA_shut hg)
      · rw [if_pos e1]
        exact ⟨Nat.le_refl _, fun i _ => ⟨rfl, rfl⟩, fun i h1 h2 => absurd h2 (Nat.not_lt_of_le h1)⟩
    · rw [if_pos d1]
      generalize lf (turnA k f1 f2 A) mv = m at *
      have ho : aO A m = true := by
        rw [turnA, Bool.and_eq_true] at d2
        exact d2.1
      by_cases c : metA f1 f2 A m = true
      · rw [if_pos c]
        exact ⟨Nat.le_refl _, fun i _ => ⟨rfl, rfl⟩, fun i h1 h2 => absurd h2 (Nat.not_lt_of_le h1)⟩
      · rw [if_neg c]
        obtain ⟨k1, k2, k3, k4, k5, k6, k7⟩ := met_no hg d1 ho (Bool.eq_false_iff.mpr c)
        refine ⟨Nat.le_refl _, fun i hi => ⟨rfl, ?_⟩, fun i h1 h2 => absurd h2 (Nat.not_lt_of_le h1)⟩
        obtain ⟨-, b2, b3⟩ := hg.2.2.2.2.2.2.2.2.2.2 i hi
        exact merge_row (GA_shutM (x := m) hg) k5 k2 k6 b2 b3
  · rw [if_pos c1]
    have hc : lowA k A (lf (fun n => lowA k A n && !movA mv f1 f2 A n) 64) = true := by
      rw [Bool.and_eq_true] at c2
      exact c2.1
    exact TkS_take hg rfl rfl rfl rfl c1 (val_low (low_val hc)).2 hg
/-- rows of those taken lie below the top -/
def RB (t : Nat) (A : RA) : Prop := ∀ i, i < aK A → ∀ j, tb (aN A (aT A i)) j = true → j < t
theorem RB_step {mv t : Nat} {f1 f2 : Nat → Nat} {A A' : RA} (hg : GA mv t f1 f2 A) (h : RB t A) (hs : TkS A A') : RB t A' := by
  intro i hi j hj
  by_cases c : i < aK A
  · obtain ⟨e1, e2⟩ := hs.2.1 i c
    rw [e1, e2] at hj
    exact h i c j hj
  · obtain ⟨e1, e2, e3⟩ := hs.2.2 i (by omega) hi
    rw [e3] at hj
    exact Decidable.byContradiction (fun z => by rw [row_out hg e1 e2 (show t ≤ j by omega)] at hj; cases hj)
theorem run_ok {k w mv t : Nat} {f1 f2 : Nat → Nat} : ∀ f A, GS mv t f1 f2 A → RB t A → lvA A + omA mv A ≤ f → GS mv t f1 f2 (runA k w mv f1 f2 f A) ∧ RB t (runA k w mv f1 f2 f A) ∧ leftV (runA k w mv f1 f2 f A) = false
  | 0, A, h, hr, hf => ⟨h, hr, Bool.eq_false_iff.mpr (fun z => by have : 1 ≤ lvA A := left_pos (mv := mv) z; omega)⟩
  | f + 1, A, h, hr, hf => by
    rw [runA]
    by_cases c : leftV A = true
    · rw [if_pos c]
      have hst := step_less (k := k) (w := w) h c
      exact run_ok f _ hst.1 (RB_step h.1 hr (step_taken h.1 c)) (by omega)
    · rw [if_neg c]
      exact ⟨h, hr, Bool.eq_false_iff.mpr c⟩
