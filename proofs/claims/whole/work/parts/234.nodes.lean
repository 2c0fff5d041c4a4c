/-! what a round leaves: nodes, registers, who is spilled -/
theorem step_shape {k w mv t : Nat} {f1 f2 : Nat → Nat} {A : RA} (hg : GA mv t f1 f2 A) (hl : leftV A = true) :
    (∃ x, x < 64 ∧ 4 ≤ x ∧ tb (aL A) x = true ∧ aL (stepA k w mv f1 f2 A) = aL A &&& noB x ∧ aA (stepA k w mv f1 f2 A) = aA A ∧ aT (stepA k w mv f1 f2 A) = va_up (aT A) (aK A) x ∧ aK (stepA k w mv f1 f2 A) = aK A + 1) ∨
    (∃ x y, x < y ∧ y < 64 ∧ 4 ≤ y ∧ tb (aL A) x = true ∧ tb (aL A) y = true ∧ aL (stepA k w mv f1 f2 A) = aL A &&& noB y ∧ aA (stepA k w mv f1 f2 A) = va_up (aA A) y x ∧ aT (stepA k w mv f1 f2 A) = aT A ∧ aK (stepA k w mv f1 f2 A) = aK A) ∨
    (aL (stepA k w mv f1 f2 A) = aL A ∧ aA (stepA k w mv f1 f2 A) = aA A ∧ aT (stepA k w mv f1 f2 A) = aT A ∧ aK (stepA k w mv f1 f2 A) = aK A) := by
  unfold stepA
  rcases lf_is (fun n => lowA k A n && !movA mv f1 f2 A n) 64 with ⟨c1, c2⟩ | ⟨c1, c2, c3⟩
  · rw [if_neg (by omega)]
    rcases lf_is (turnA k f1 f2 A) mv with ⟨d1, d2⟩ | ⟨d1, d2, -⟩
    · rw [if_neg (by omega)]
      rcases lf_is (lowA k A) 64 with ⟨e1, e2⟩ | ⟨e1, e2, -⟩
      · rw [if_neg (by omega)]
        have hpos : 1 ≤ bst (valA A) (wtA w A) 64 ∧ bst (valA A) (wtA w A) 64 ≤ 64 ∧ valA A (bst (valA A) (wtA w A) 64 - 1) = true := by
          rcases bst_is (valA A) (wtA w A) 64 with ⟨z1, z2⟩ | z
          · obtain ⟨j, j1, j2⟩ := (anyB_iff _ 64).mp hl
            have z3 : (decide (4 ≤ j) && tb (aL A) j) = false := z2 j j1
            rw [z3] at j2
            cases j2
          · exact z
        have hx64 : hopeA w A < 64 := by
          show bst (valA A) (wtA w A) 64 - 1 < 64
          omega
        have hv : valA A (hopeA w A) = true := hpos.2.2
        exact Or.inl ⟨hopeA w A, hx64, (val_low hv).1, (val_low hv).2, rfl, rfl, rfl, rfl⟩
      · rw [if_pos e1]
        exact Or.inr (Or.inr ⟨rfl, rfl, rfl, rfl⟩)
    · rw [if_pos d1]
      generalize lf (turnA k f1 f2 A) mv = m at *
      have ho : aO A m = true := by
        rw [turnA, Bool.and_eq_true] at d2
        exact d2.1
      by_cases c : metA f1 f2 A m = true
      · rw [if_pos c]
        exact Or.inr (Or.inr ⟨rfl, rfl, rfl, rfl⟩)
      · rw [if_neg c]
        obtain ⟨k1, k2, k3, k4, k5, k6, k7⟩ := met_no hg d1 ho (Bool.eq_false_iff.mpr c)
        exact Or.inr (Or.inl ⟨_, _, k3, k2, k4, k5, k6, rfl, rfl, rfl, rfl⟩)
  · rw [if_pos c1]
    have hc : lowA k A (lf (fun n => lowA k A n && !movA mv f1 f2 A n) 64) = true := by
      rw [Bool.and_eq_true] at c2
      exact c2.1
    exact Or.inl ⟨_, c1, (val_low (low_val hc)).1, (val_low (low_val hc)).2, rfl, rfl, rfl, rfl⟩
/-- who is a node is left or taken -/
def KT (ns : Int64) (A : RA) : Prop :=
  (∀ x, x < 64 → 4 ≤ x → tb ns x = true → aA A x = x → tb (aL A) x = true ∨ ∃ i, i < aK A ∧ aT A i = x) ∧
  (∀ i, i < aK A → aA A (aT A i) = aT A i ∧ tb ns (aT A i) = true) ∧
  (∀ x, x < 64 → tb (aL A) x = true → aA A x = x ∧ (x < 4 ∨ tb ns x = true)) ∧
  (∀ x, x < 64 → tb ns x = true → aA A x < 4 ∨ tb ns (aA A x) = true) ∧
  (∀ i, i < aK A → tb (aL A) (aT A i) = false)
theorem KT_step {k w mv t : Nat} {f1 f2 : Nat → Nat} {A : RA} {ns : Int64} (hg : GA mv t f1 f2 A) (hl : leftV A = true) (h : KT ns A) : KT ns (stepA k w mv f1 f2 A) := by
  obtain ⟨h1, h2, h3, h4, h5⟩ := h
  rcases step_shape (k := k) (w := w) hg hl with ⟨x, x64, x4, xl, eL, eA, eT, eK⟩ | ⟨x, y, xy, y64, y4, xl, yl, eL, eA, eT, eK⟩ | ⟨eL, eA, eT, eK⟩
  · have x4' : x < 4 ∨ tb ns x = true := (h3 x x64 xl).2
    refine ⟨fun z z64 z4 hz hr => ?_, fun i hi => ?_, fun z z64 hz => ?_, fun z z64 hz => ?_, fun i hi => ?_⟩
    · rw [eA] at hr
      rw [eL, eT, eK, tb_noB _ x64]
      by_cases e : z = x
      · exact Or.inr ⟨aK A, by omega, by rw [va_up_self, e]⟩
      · rcases h1 z z64 z4 hz hr with q | ⟨i, i1, i2⟩
        · exact Or.inl (by rw [q, decide_eq_true e]; rfl)
        · exact Or.inr ⟨i, by omega, by rw [va_up_ne _ _ (by omega)]; exact i2⟩
    · rw [eK] at hi
      rw [eA, eT]
      by_cases e : i = aK A
      · rw [e, va_up_self]; exact ⟨(h3 x x64 xl).1, by rcases x4' with q | q; omega; exact q⟩
      · rw [va_up_ne _ _ e]; exact h2 i (by omega)
    · rw [eL, tb_noB _ x64, Bool.and_eq_true] at hz
      rw [eA]
      exact h3 z z64 hz.1
    · rw [eA]; exact h4 z z64 hz
    · rw [eK] at hi
      rw [eL, eT, tb_noB _ x64]
      by_cases e : i = aK A
      · rw [e, va_up_self]; simp
      · rw [va_up_ne _ _ e, h5 i (by omega)]; rfl
  · have ex := h3 x (by omega) xl
    have ey := h3 y y64 yl
    refine ⟨fun z z64 z4 hz hr => ?_, fun i hi => ?_, fun z z64 hz => ?_, fun z z64 hz => ?_, fun i hi => ?_⟩
    · rw [eA] at hr
      have ne : z ≠ y := fun e => by rw [e, va_up_self] at hr; omega
      rw [va_up_ne _ _ ne] at hr
      rw [eL, eT, eK, tb_noB _ y64]
      rcases h1 z z64 z4 hz hr with q | q
      · exact Or.inl (by rw [q, decide_eq_true ne]; rfl)
      · exact Or.inr q
    · rw [eK] at hi
      rw [eA, eT]
      have ne : aT A i ≠ y := fun e => by
        have := h5 i hi
        rw [e, yl] at this
        cases this
      rw [va_up_ne _ _ ne]
      exact h2 i hi
    · rw [eL, tb_noB _ y64, Bool.and_eq_true, decide_eq_true_eq] at hz
      rw [eA, va_up_ne _ _ hz.2]
      exact h3 z z64 hz.1
    · rw [eA]
      by_cases e : z = y
      · rw [e, va_up_self]; exact ex.2
      · rw [va_up_ne _ _ e]; exact h4 z z64 hz
    · rw [eK] at hi
      rw [eL, eT, tb_noB _ y64, h5 i hi]; rfl
  · unfold KT
    rw [eL, eA, eT, eK]
    exact ⟨h1, h2, h3, h4, h5⟩
theorem run_KT {k w mv t : Nat} {f1 f2 : Nat → Nat} {ns : Int64} : ∀ f A, GS mv t f1 f2 A → KT ns A → KT ns (runA k w mv f1 f2 f A)
  | 0, A, _, h => h
  | f + 1, A, hs, h => by
    rw [runA]
    by_cases c : leftV A = true
    · rw [if_pos c]
      exact run_KT f _ (step_less hs c).1 (KT_step hs.1 c h)
    · rw [if_neg c]; exact h
theorem KT_beg (p : Pg) (n : Nat) : KT (Nms p n) (begA p n) := by
  refine ⟨fun x x64 _ hx _ => Or.inl ((left_beg x64).mpr (Or.inl hx)), fun i hi => absurd hi (Nat.not_lt_zero i), fun x x64 hx => ⟨rfl, ?_⟩, fun x x64 hx => Or.inr hx, fun i hi => absurd hi (Nat.not_lt_zero i)⟩
  rcases (left_beg x64).mp hx with q | q
  · exact Or.inr q
  · exact Or.inl q
/-- what coming back does to one that is not among them, and to one that is -/
theorem bkA_off {k : Nat} {A : RA} {x : Nat} : ∀ q s, (∀ i, i < q → aT A i < 64) → x < 64 → (∀ i, i < q → aT A i ≠ x) → (bkA k A q s).1 x = s.1 x ∧ tb (bkA k A q s).2 x = tb s.2 x
  | 0, s, _, _, _ => ⟨rfl, rfl⟩
  | q + 1, s, h64, hx, h => by
    rw [bkA]
    obtain ⟨e1, e2⟩ := bkA_off q (bkS k A s (aT A q)) (fun i hi => h64 i (by omega)) hx (fun i hi => h i (by omega))
    rw [e1, e2]
    have ne := h q (by omega)
    unfold bkS
    split
    · exact ⟨va_up_ne _ _ (fun e => ne e.symm), rfl⟩
    · refine ⟨rfl, ?_⟩
      show tb (s.2 ||| one (nI (aT A q))) x = tb s.2 x
      rw [tb_or, tb_one (h64 q (by omega)), decide_eq_false (fun e => ne e.symm), Bool.or_false]
theorem bkA_on {k : Nat} {A : RA} : ∀ q s, q ≤ aK A → TkD A → (∀ i, i < q → aT A i < 64) → (∀ i, i < q → s.1 (aT A i) = -6 ∧ tb s.2 (aT A i) = false) → ∀ i, i < q → ((bkA k A q s).1 (aT A i) = -6 ∧ tb (bkA k A q s).2 (aT A i) = true) ∨ (∃ r, r < k ∧ (bkA k A q s).1 (aT A i) = nI r ∧ tb (bkA k A q s).2 (aT A i) = false)
  | 0, s, _, _, _, _, i, hi => by omega
  | q + 1, s, hq, hd, h64, h6, i, hi => by
    rw [bkA]
    by_cases e : i = q
    · subst e
      obtain ⟨e1, e2⟩ := bkA_off (k := k) i (bkS k A s (aT A i)) (fun j hj => h64 j (by omega)) (h64 i hi) (fun j hj => hd j (by omega) i (by omega) (by omega))
      rw [e1, e2]
      obtain ⟨g1, g2⟩ := h6 i hi
      unfold bkS
      by_cases c : frA k s.1 A (aT A i) < k
      · rw [if_pos c]
        exact Or.inr ⟨_, c, va_up_self _ _ _, g2⟩
      · rw [if_neg c]
        refine Or.inl ⟨g1, ?_⟩
        show tb (s.2 ||| one (nI (aT A i))) (aT A i) = true
        rw [tb_or, tb_one (h64 i hi), decide_eq_true rfl, Bool.or_true]
    · refine bkA_on q _ (by omega) hd (fun j hj => h64 j (by omega)) (fun j hj => ?_) i (by omega)
      have ne : aT A j ≠ aT A q := hd j (by omega) q (by omega) (by omega)
      obtain ⟨g1, g2⟩ := h6 j (by omega)
      unfold bkS
      split
      · exact ⟨(va_up_ne _ _ ne).trans g1, g2⟩
      · refine ⟨g1, ?_⟩
        show tb (s.2 ||| one (nI (aT A q))) (aT A j) = false
        rw [tb_or, tb_one (h64 q (by omega)), decide_eq_false ne, Bool.or_false]; exact g2
/-- a name's node, a node's register, who is spilled -/
def ndA (k w : Nat) (p : Pg) (n x : Nat) : Nat := rt (aA (endA k w p n)) x
def rgA (k w : Nat) (p : Pg) (n x : Nat) : Int32 := (bckA k w p n).1 x
def spS (k w : Nat) (p : Pg) (n : Nat) : Int64 := (bckA k w p n).2
theorem itr_named {al : Nat → Nat} {ns : Int64} (h : ∀ x, x < 64 → al x ≤ x) (h0 : ∀ x, x < 4 → al x = x) (h4 : ∀ x, x < 64 → tb ns x = true → al x < 4 ∨ tb ns (al x) = true) : ∀ f x, x < 64 → (x < 4 ∨ tb ns x = true) → itr al f x < 4 ∨ tb ns (itr al f x) = true
  | 0, x, _, hx => hx
  | f + 1, x, x64, hx => by
    rw [itr]
    refine itr_named h h0 h4 f _ (by have := h x x64; omega) ?_
    rcases hx with q | q
    · rw [h0 x q]; exact Or.inl q
    · exact h4 x x64 q
/-- all that is known of a round's end -/
theorem round_facts {B k w : Nat} {p : Pg} {n : Nat} (hk : k ≤ 4) (hn : n ≤ 90) (hw : WfB B p n) :
    (∀ x, x < 64 → aA (endA k w p n) x ≤ x) ∧ (∀ x, x < 64 → ndA k w p n x < 64) ∧ (∀ x, x < 4 → ndA k w p n x = x) ∧
    (∀ x, x < 64 → aA (endA k w p n) (ndA k w p n x) = ndA k w p n x) ∧ (∀ x, x < 64 → ndA k w p n (ndA k w p n x) = ndA k w p n x) ∧
    (∀ x, x < 64 → tb (Nms p n) x = true → ndA k w p n x < 4 ∨ tb (Nms p n) (ndA k w p n x) = true) ∧
    (∀ x, x < 4 → rgA k w p n x = nI x) ∧
    (∀ x, x < 64 → (tb (spS k w p n) x = true ↔ 4 ≤ x ∧ tb (Nms p n) x = true ∧ ndA k w p n x = x ∧ rgA k w p n x < 0)) ∧
    (∀ x, x < 64 → tb (Nms p n) x = true → tb (spS k w p n) (ndA k w p n x) = false → ∃ r, r < 4 ∧ rgA k w p n (ndA k w p n x) = nI r) ∧
    (∀ x, x < 64 → tb (spS k w p n) x = true → rgA k w p n x = -6) := by
  obtain ⟨t, ht⟩ := TN_all p n
  have gs := GS_beg hn hw ht
  have hrb : RB t (begA p n) := fun i hi => absurd hi (Nat.not_lt_zero i)
  have hlo : lvA (begA p n) + omA (mvs p n) (begA p n) ≤ 150 := by have := gs.2.1; omega
  obtain ⟨e1, e2, e3⟩ := run_ok (k := k) (w := w) 150 _ gs hrb hlo
  have hd : TkD (endA k w p n) := run_D 150 _ gs (fun i hi => absurd hi (Nat.not_lt_zero i))
  have kt : KT (Nms p n) (endA k w p n) := run_KT 150 _ gs (KT_beg p n)
  have hG : GA (mvs p n) t (mf1 p n) (mf2 p n) (endA k w p n) := e1.1
  have hL : leftV (endA k w p n) = false := e3
  have eB : bckA k w p n = bkA k (endA k w p n) (aK (endA k w p n)) (rg0, 0) := rfl
  clear e1 e2 e3
  have hnd : ∀ x, ndA k w p n x = rt (aA (endA k w p n)) x := fun _ => rfl
  generalize endA k w p n = A at *
  obtain ⟨k1, k2, k3, k4, k5⟩ := kt
  have ga := hG.1
  have g0 : ∀ x, x < 4 → aA A x = x := fun x hx => (k3 x (by omega) (hG.2.2.2.2.1 x hx)).1
  have f1 : ∀ x, x < 64 → ndA k w p n x < 64 := fun x hx => by rw [hnd]; exact rt_lt ga hx
  have f2 : ∀ x, x < 4 → ndA k w p n x = x := fun x hx => by rw [hnd]; exact itr_fix (g0 x hx) 64
  have f3 : ∀ x, x < 64 → aA A (ndA k w p n x) = ndA k w p n x := fun x hx => by rw [hnd]; exact rt_fix ga hx
  have f4 : ∀ x, x < 64 → ndA k w p n (ndA k w p n x) = ndA k w p n x := fun x hx => by
    rw [hnd (ndA k w p n x)]; exact itr_fix (f3 x hx) 64
  have f5 : ∀ x, x < 64 → tb (Nms p n) x = true → ndA k w p n x < 4 ∨ tb (Nms p n) (ndA k w p n x) = true := fun x hx h => by
    rw [hnd]; exact itr_named ga g0 k4 64 x hx (Or.inr h)
  have tk := hG.2.2.2.2.2.2.2.2.2.2
  have off : ∀ x, x < 64 → (∀ i, i < aK A → aT A i ≠ x) → rgA k w p n x = rg0 x ∧ tb (spS k w p n) x = false := fun x hx h => by
    unfold rgA spS
    rw [eB]
    have := bkA_off (k := k) (A := A) (aK A) (rg0, 0) (fun i hi => (tk i hi).2.1) hx h
    rw [this.1, this.2]
    exact ⟨rfl, tb_0 x⟩
  have on : ∀ i, i < aK A → (rgA k w p n (aT A i) = -6 ∧ tb (spS k w p n) (aT A i) = true) ∨ (∃ r, r < k ∧ rgA k w p n (aT A i) = nI r ∧ tb (spS k w p n) (aT A i) = false) := by
    unfold rgA spS
    rw [eB]
    exact bkA_on (k := k) (A := A) (aK A) (rg0, 0) (Nat.le_refl _) hd (fun i hi => (tk i hi).2.1) (fun i hi => ⟨by show rg0 _ = -6; rw [rg0, if_neg (Nat.not_lt.mpr (tk i hi).1)], tb_0 _⟩)
  have f6 : ∀ x, x < 4 → rgA k w p n x = nI x := fun x hx => by
    rw [(off x (by omega) (fun i hi e => by have := (tk i hi).1; omega)).1, rg0, if_pos hx]
  have cases_ : ∀ x, x < 64 → (∃ i, i < aK A ∧ aT A i = x) ∨ (∀ i, i < aK A → aT A i ≠ x) := fun x _ => by
    by_cases c : ∃ i, i < aK A ∧ aT A i = x
    · exact Or.inl c
    · exact Or.inr (fun i hi e => c ⟨i, hi, e⟩)
  have node : ∀ x, x < 64 → 4 ≤ x → tb (Nms p n) x = true → aA A x = x → ∃ i, i < aK A ∧ aT A i = x := fun x hx h4 hn' hr => by
    rcases k1 x hx h4 hn' hr with q | q
    · have : leftV A = true := (anyB_iff _ 64).mpr ⟨x, hx, by rw [q, decide_eq_true h4]; rfl⟩
      rw [hL] at this
      cases this
    · exact q
  refine ⟨ga, f1, f2, f3, f4, f5, f6, fun x hx => ?_, fun x hx hx2 hs => ?_, fun x hx hs => ?_⟩
  · constructor
    · intro hs
      rcases cases_ x hx with ⟨i, hi, rfl⟩ | q
      · rcases on i hi with ⟨q1, q2⟩ | ⟨r, q1, q2, q3⟩
        · exact ⟨(tk i hi).1, (k2 i hi).2, by rw [hnd]; exact itr_fix (k2 i hi).1 64, by rw [q1]; decide⟩
        · rw [q3] at hs; cases hs
      · rw [(off x hx q).2] at hs; cases hs
    · rintro ⟨h4, hn', hr, hneg⟩
      have hr' : aA A x = x := by have := f3 x hx; rwa [hr] at this
      obtain ⟨i, hi, rfl⟩ := node x hx h4 hn' hr'
      rcases on i hi with ⟨q1, q2⟩ | ⟨r, q1, q2, q3⟩
      · exact q2
      · rw [q2] at hneg
        exact absurd hneg (nI_pos (by omega))
  · rcases f5 x hx hx2 with q | q
    · exact ⟨_, q, f6 _ q⟩
    · by_cases c4 : ndA k w p n x < 4
      · exact ⟨_, c4, f6 _ c4⟩
      · obtain ⟨i, hi, e⟩ := node _ (f1 x hx) (by omega) q (f3 x hx)
        rw [← e] at hs ⊢
        rcases on i hi with ⟨q1, q2⟩ | ⟨r, q1, q2, q3⟩
        · rw [q2] at hs; cases hs
        · exact ⟨r, by omega, q2⟩
  · rcases cases_ x hx with ⟨i, hi, rfl⟩ | q
    · rcases on i hi with ⟨q1, q2⟩ | ⟨r, q1, q2, q3⟩
      · exact q1
      · rw [q3] at hs; cases hs
    · rw [(off x hx q).2] at hs; cases hs
