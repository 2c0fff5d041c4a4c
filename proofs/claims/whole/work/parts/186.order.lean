/-! a round stays in order, and ends -/
theorem tb_noB (s : Int64) {x : Nat} (hx : x < 64) (n : Nat) : tb (s &&& noB x) n = (tb s n && decide (n ≠ x)) := by
  by_cases c : n < 64
  · rw [show noB x = one (nI x) ^^^ (-1) from rfl, bit_not _ _ c, tb_one hx]
    by_cases e : n = x
    · simp [e]
    · simp [e]
  · rw [tb_big (by omega), tb_big (by omega), Bool.false_and]
theorem GA_note {mv t c : Nat} {f1 f2 : Nat → Nat} {A : RA} (h : GA mv t f1 f2 A) : GA mv t f1 f2 (noteA A c) := h
theorem GA_take {mv t x : Nat} {f1 f2 : Nat → Nat} {A : RA} (h : GA mv t f1 f2 A) (hx : x < 64) (hx4 : 4 ≤ x) (hxl : tb (aL A) x = true) (hm : ∀ m, m < mv → aO A m = true → inA f1 f2 A m x = false) : GA mv t f1 f2 (takeA A x) := by
  obtain ⟨h1, h2, h3, h4, h5, h6, h7, h8, h9, h10, h11⟩ := h
  have eL : ∀ n, tb (aL (takeA A x)) n = (tb (aL A) n && decide (n ≠ x)) := fun n => tb_noB _ hx n
  have eL1 : ∀ n, tb (aL (takeA A x)) n = true ↔ tb (aL A) n = true ∧ n ≠ x := fun n => by rw [eL, Bool.and_eq_true, decide_eq_true_eq]
  have eN : ∀ n, aN (takeA A x) n = if tb (aN A x) n = true then aN A n &&& noB x else aN A n := fun n => rfl
  have eN1 : ∀ u v, tb (aN (takeA A x) u) v = true → tb (aN A u) v = true := fun u v hv => by
    rw [eN] at hv
    by_cases c : tb (aN A x) u = true
    · rw [if_pos c, tb_noB _ hx, Bool.and_eq_true] at hv; exact hv.1
    · rw [if_neg c] at hv; exact hv
  have eN2 : ∀ u v, tb (aN A u) v = true → v ≠ x → tb (aN (takeA A x) u) v = true := fun u v hv hvx => by
    rw [eN]
    by_cases c : tb (aN A x) u = true
    · rw [if_pos c, tb_noB _ hx, hv, decide_eq_true hvx]; rfl
    · rw [if_neg c]; exact hv
  refine ⟨h1, h2, h3, fun n hn hl => h4 n hn ((eL1 n).mp hl).1, fun n hn => (eL1 n).mpr ⟨h5 n hn, by omega⟩, fun u hu hul v hv hvu => ?_, fun u hu v hv huv => eN2 u v (h7 u hu v hv huv) (by omega), h8, h9, fun m hm' ho => ?_, fun i hi => ?_⟩
  · obtain ⟨ul, ux⟩ := (eL1 u).mp hul
    obtain ⟨v1, v2, v3⟩ := h6 u hu ul v hv (eN1 u v hvu)
    have vx : v ≠ x := by
      intro e
      rw [e] at v3 hvu
      rw [eN, if_pos v3, tb_noB _ hx, decide_eq_false (fun z => z rfl), Bool.and_false] at hvu
      cases hvu
    exact ⟨(eL1 v).mpr ⟨v1, vx⟩, v2, eN2 v u v3 ux⟩
  · obtain ⟨a1, a2⟩ := h10 m hm' ho
    have hn := hm m hm' ho
    rw [inA, Bool.or_eq_false_iff] at hn
    exact ⟨(eL1 _).mpr ⟨a1, of_decide_eq_false hn.1⟩, (eL1 _).mpr ⟨a2, of_decide_eq_false hn.2⟩⟩
  · have hi' : i < aK A + 1 := hi
    show 4 ≤ va_up (aT A) (aK A) x i ∧ va_up (aT A) (aK A) x i < 64 ∧ tb (aL (takeA A x)) (va_up (aT A) (aK A) x i) = false
    by_cases e : i = aK A
    · rw [e, va_up_self, eL, decide_eq_false (fun z => z rfl), Bool.and_false]
      exact ⟨hx4, hx, rfl⟩
    · rw [va_up_ne _ _ e, eL]
      obtain ⟨b1, b2, b3⟩ := h11 i (by omega)
      exact ⟨b1, b2, by rw [b3, Bool.false_and]⟩
theorem itr_merge {al : Nat → Nat} (h : ∀ n, n < 64 → al n ≤ n) {x y : Nat} (hxy : x < y) (hx : al x = x) (hy : al y = y) (hy64 : y < 64) : ∀ f n, n < 64 → n ≤ f → itr (va_up al y x) f n = if itr al f n = y then x else itr al f n
  | 0, n, hn, hf => by
    show n = if n = y then x else n
    rw [if_neg (by omega)]
  | f + 1, n, hn, hf => by
    have hx' : va_up al y x x = x := by rw [va_up_ne _ _ (by omega)]; exact hx
    by_cases e : n = y
    · rw [e, itr_fix hy (f + 1), if_pos rfl, itr, va_up_self, itr_fix hx']
    · rw [itr, itr, va_up_ne _ _ e]
      have h1 := h n hn
      by_cases c : al n = n
      · have c' : va_up al y x n = n := by rw [va_up_ne _ _ e]; exact c
        rw [c, itr_fix c', itr_fix c, if_neg e]
      · exact itr_merge h hxy hx hy hy64 f _ (by omega) (by omega)
theorem rt_merge {al : Nat → Nat} (h : ∀ n, n < 64 → al n ≤ n) {x y : Nat} (hxy : x < y) (hx : al x = x) (hy : al y = y) (hy64 : y < 64) {n : Nat} (hn : n < 64) : rt (va_up al y x) n = if rt al n = y then x else rt al n := itr_merge h hxy hx hy hy64 64 n hn (by omega)
theorem GA_merge {mv t x y : Nat} {f1 f2 : Nat → Nat} {A : RA} (h : GA mv t f1 f2 A) (hx : x < 64) (hy : y < 64) (hxy : x < y) (hy4 : 4 ≤ y) (hxl : tb (aL A) x = true) (hyl : tb (aL A) y = true) (hn : tb (aN A x) y = false) (rx : aA A x = x) (ry : aA A y = y) : GA mv t f1 f2 (mergeA A x y) := by
  obtain ⟨h1, h2, h3, h4, h5, h6, h7, h8, h9, h10, h11⟩ := h
  have eL1 : ∀ n, tb (aL (mergeA A x y)) n = true ↔ tb (aL A) n = true ∧ n ≠ y := fun n => by
    rw [show aL (mergeA A x y) = aL A &&& noB y from rfl, tb_noB _ hy, Bool.and_eq_true, decide_eq_true_eq]
  have hyx : tb (aN A y) x = false := Bool.eq_false_iff.mpr (fun z => by rw [(h6 y hy hyl x hx z).2.2] at hn; cases hn)
  have hyy : tb (aN A y) y = false := Bool.eq_false_iff.mpr (fun z => (h6 y hy hyl y hy z).2.1 rfl)
  have hxx : tb (aN A x) x = false := Bool.eq_false_iff.mpr (fun z => (h6 x hx hxl x hx z).2.1 rfl)
  have mx : mrgN (aN A) x y x = aN A x := by unfold mrgN; rw [if_neg (by rw [hyx]; decide)]
  have my : mrgN (aN A) x y y = aN A y := mrg_self hyy
  have eN : ∀ n, aN (mergeA A x y) n = if n = x then aN A x ||| aN A y else if tb (aN A y) n = true then (aN A n &&& noB y) ||| one (nI x) else aN A n := fun n => by
    show va_up (mrgN (aN A) x y) x (mrgN (aN A) x y x ||| mrgN (aN A) x y y) n = _
    by_cases e : n = x
    · rw [e, va_up_self, if_pos rfl, mx, my]
    · rw [va_up_ne _ _ e, if_neg e]; rfl
  have e1 : ∀ u v, v < 64 → u ≠ x → tb (aN (mergeA A x y) u) v = true → (tb (aN A u) v = true ∧ (tb (aN A y) u = true → v ≠ y)) ∨ (v = x ∧ tb (aN A y) u = true) := fun u v hv hux z => by
    rw [eN, if_neg hux] at z
    by_cases c : tb (aN A y) u = true
    · rw [if_pos c, tb_or, tb_noB _ hy, tb_one hx, Bool.or_eq_true, Bool.and_eq_true, decide_eq_true_eq, decide_eq_true_eq] at z
      exact z.elim (fun z => Or.inl ⟨z.1, fun _ => z.2⟩) (fun z => Or.inr ⟨z, c⟩)
    · rw [if_neg c] at z; exact Or.inl ⟨z, fun q => absurd q c⟩
  have e2 : ∀ u v, v < 64 → v ≠ y → tb (aN A u) v = true → tb (aN (mergeA A x y) u) v = true := fun u v hv hvy z => by
    rw [eN]
    by_cases e : u = x
    · rw [if_pos e, tb_or, ← e, z, Bool.true_or]
    · rw [if_neg e]
      by_cases c : tb (aN A y) u = true
      · rw [if_pos c, tb_or, tb_noB _ hy, z, decide_eq_true hvy]; rfl
      · rw [if_neg c]; exact z
  have e3 : ∀ u, u ≠ x → tb (aN A y) u = true → tb (aN (mergeA A x y) u) x = true := fun u hux z => by
    rw [eN, if_neg hux, if_pos z, tb_or, tb_one hx, decide_eq_true rfl, Bool.or_true]
  have e4 : ∀ v, tb (aN A y) v = true → tb (aN (mergeA A x y) x) v = true := fun v z => by rw [eN, if_pos rfl, tb_or, z, Bool.or_true]
  refine ⟨fun n hn => ?_, h2, h3, fun n hn hl => h4 n hn ((eL1 n).mp hl).1, fun n hn => (eL1 n).mpr ⟨h5 n hn, by omega⟩, fun u hu hul v hv hvu => ?_, fun u hu v hv huv => e2 u v (by omega) (by omega) (h7 u hu v hv huv), h8, h9, fun m hm' ho => ?_, fun i hi => ?_⟩
  · show va_up (aA A) y x n ≤ n
    by_cases e : n = y
    · rw [e, va_up_self]; omega
    · rw [va_up_ne _ _ e]; exact h1 n hn
  · obtain ⟨ul, uy⟩ := (eL1 u).mp hul
    by_cases eux : u = x
    · rw [eux] at hvu ⊢
      rw [eN, if_pos rfl, tb_or, Bool.or_eq_true] at hvu
      rcases hvu with z | z
      · obtain ⟨v1, v2, v3⟩ := h6 x hx hxl v hv z
        have vy : v ≠ y := fun e => by rw [e, hn] at z; cases z
        exact ⟨(eL1 v).mpr ⟨v1, vy⟩, v2, e2 v x hx (by omega) v3⟩
      · obtain ⟨v1, v2, v3⟩ := h6 y hy hyl v hv z
        have vx : v ≠ x := fun e => by rw [e, hyx] at z; cases z
        exact ⟨(eL1 v).mpr ⟨v1, v2⟩, vx, e3 v vx z⟩
    · rcases e1 u v hv eux hvu with ⟨z, zz⟩ | ⟨z, c⟩
      · obtain ⟨v1, v2, v3⟩ := h6 u hu ul v hv z
        have vy : v ≠ y := fun e => by
          rw [e] at v3
          exact zz v3 e
        exact ⟨(eL1 v).mpr ⟨v1, vy⟩, v2, e2 v u hu uy v3⟩
      · rw [z]
        exact ⟨(eL1 x).mpr ⟨hxl, by omega⟩, fun e => eux e.symm, e4 u c⟩
  · obtain ⟨a1, a2⟩ := h10 m hm' ho
    obtain ⟨g1, g2⟩ := h9 m hm'
    have key : ∀ n, n < 64 → tb (aL A) (rt (aA A) n) = true → tb (aL (mergeA A x y)) (rt (aA (mergeA A x y)) n) = true := fun n hn' hl => by
      rw [show aA (mergeA A x y) = va_up (aA A) y x from rfl, rt_merge h1 hxy rx ry hy hn']
      by_cases c : rt (aA A) n = y
      · rw [if_pos c]; exact (eL1 x).mpr ⟨hxl, by omega⟩
      · rw [if_neg c]; exact (eL1 _).mpr ⟨hl, c⟩
    exact ⟨key _ g1 a1, key _ g2 a2⟩
  · obtain ⟨b1, b2, b3⟩ := h11 i hi
    refine ⟨b1, b2, Bool.eq_false_iff.mpr (fun z => ?_)⟩
    have := ((eL1 _).mp z).1
    rw [show aT (mergeA A x y) = aT A from rfl, b3] at this
    cases this
theorem cntF_mono {f g : Nat → Bool} : ∀ {n}, (∀ j, j < n → g j = true → f j = true) → cntF g n ≤ cntF f n
  | 0, _ => Nat.le_refl _
  | n + 1, h => by
    rw [cntF, cntF]
    have h1 := cntF_mono (f := f) (g := g) (n := n) (fun j hj => h j (by omega))
    by_cases c : g n = true
    · rw [if_pos c, if_pos (h n (by omega) c)]; omega
    · rw [if_neg c]; omega
theorem cntF_less {f g : Nat → Bool} {x : Nat} (hx : f x = true) (hg : g x = false) : ∀ {n}, x < n → (∀ j, j < n → g j = true → f j = true) → cntF g n + 1 ≤ cntF f n
  | 0, h, _ => by omega
  | n + 1, hn, h => by
    rw [cntF, cntF]
    by_cases e : x = n
    · have h1 := cntF_mono (f := f) (g := g) (n := n) (fun j hj => h j (by omega))
      rw [← e, if_neg (by rw [hg]; decide), if_pos hx]
      rw [e]
      omega
    · have h1 := cntF_less hx hg (n := n) (by omega) (fun j hj => h j (by omega))
      by_cases c : g n = true
      · rw [if_pos c, if_pos (h n (by omega) c)]; omega
      · rw [if_neg c]; omega
def sumF (f : Nat → Nat) : Nat → Nat
  | 0 => 0
  | n + 1 => sumF f n + f n
theorem sumF_up {f : Nat → Nat} {j v : Nat} : ∀ {n}, j < n → sumF (va_up f j v) n + f j = sumF f n + v
  | 0, h => by omega
  | n + 1, h => by
    rw [sumF, sumF]
    by_cases e : j = n
    · have : sumF (va_up f j v) n = sumF f n := by
        have key : ∀ m, m ≤ n → sumF (va_up f j v) m = sumF f m := by
          intro m
          induction m with
          | zero => intro _; rfl
          | succ m ih => intro hm; rw [sumF, sumF, ih (by omega), va_up_ne _ _ (by omega)]
        exact key n (Nat.le_refl n)
      rw [this, ← e, va_up_self]; omega
    · have := sumF_up (f := f) (v := v) (show j < n by omega)
      rw [va_up_ne _ _ (fun z => e z.symm)]; omega
theorem sumF_ge {f : Nat → Nat} {j : Nat} : ∀ {n}, j < n → f j ≤ sumF f n
  | 0, h => by omega
  | n + 1, h => by
    rw [sumF]
    by_cases e : j = n
    · rw [e]; omega
    · have := sumF_ge (f := f) (show j < n by omega); omega
theorem sumF_congr {f g : Nat → Nat} : ∀ {n}, (∀ j, j < n → f j = g j) → sumF f n = sumF g n
  | 0, _ => rfl
  | n + 1, h => by rw [sumF, sumF, sumF_congr (fun j hj => h j (by omega)), h n (by omega)]
theorem sumF_mono {f g : Nat → Nat} : ∀ {n}, (∀ j, j < n → f j ≤ g j) → sumF f n ≤ sumF g n
  | 0, _ => Nat.le_refl _
  | n + 1, h => by
    rw [sumF, sumF]
    have h1 := sumF_mono (f := f) (g := g) (n := n) (fun j hj => h j (by omega))
    have h2 := h n (by omega)
    omega
