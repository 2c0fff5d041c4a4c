/-! WHO IS NEEDED: passes from behind, till nothing changes -/
def wm (p : Pg) (i : Nat) : Int64 := if Wr p i < 0 then 0 else one (Wr p i)
def Tg (p : Pg) (n i : Nat) : Int32 := if p i 0 = 6 then Lb p (p i 2).toNatClampNeg n else -6
abbrev LS2 : Type := (Nat → Int64) × (Nat → Int64)
def lvO (p : Pg) (n : Nat) (A : Nat → Int64) (i : Nat) : Int64 := (if i + 1 < n then A (i + 1) else 0) ||| (if Tg p n i < 0 then 0 else A (Tg p n i).toNatClampNeg)
def lvN (p : Pg) (n : Nat) (A : Nat → Int64) (i : Nat) : Int64 := (lvO p n A i &&& (wm p i ^^^ (-1))) ||| Rd p i
def lvS (p : Pg) (n : Nat) (S : LS2) (i : Nat) : LS2 := (va_up S.1 i (lvN p n S.1 i), va_up S.2 i (lvO p n S.1 i))
def lvP (p : Pg) (n : Nat) : Nat → LS2 → LS2
  | 0, S => S
  | i + 1, S => lvP p n i (lvS p n S i)
def lvC (p : Pg) (n : Nat) : Nat → LS2 → Bool
  | 0, _ => false
  | i + 1, S => (decide (lvN p n S.1 i ≠ S.1 i) || decide (lvO p n S.1 i ≠ S.2 i)) || lvC p n i (lvS p n S i)
/-- they agree below n -/
def Ag (n : Nat) (S T : LS2) : Prop := ∀ i, i < n → S.1 i = T.1 i ∧ S.2 i = T.2 i
theorem Lb_lt (p : Pg) (f : Nat) : ∀ n, Lb p f n < 0 ∨ ∃ j, j < n ∧ Lb p f n = nI j ∧ p j 0 = 5
  | 0 => Or.inl (by rw [Lb]; decide)
  | n + 1 => by
    rw [Lb]
    by_cases h : p n 0 = 5 ∧ p n 1 = nI f ∧ Lb p f n < 0
    · rw [if_pos h]; exact Or.inr ⟨n, by omega, rfl, h.1⟩
    · rw [if_neg h]
      rcases Lb_lt p f n with h1 | ⟨j, h1, h2, h3⟩
      · exact Or.inl h1
      · exact Or.inr ⟨j, by omega, h2, h3⟩
theorem Tg_lt (p : Pg) (n i : Nat) : Tg p n i < 0 ∨ ∃ j, j < n ∧ Tg p n i = nI j ∧ p j 0 = 5 := by
  unfold Tg
  by_cases h : p i 0 = 6
  · rw [if_pos h]; exact Lb_lt p _ n
  · rw [if_neg h]; exact Or.inl (by decide)
theorem lvO_ag {p : Pg} {n : Nat} (hn : n < 2 ^ 31) {S T : LS2} (h : Ag n S T) (i : Nat) : lvO p n S.1 i = lvO p n T.1 i := by
  unfold lvO
  have e1 : (if i + 1 < n then S.1 (i + 1) else 0) = (if i + 1 < n then T.1 (i + 1) else 0) := by
    by_cases hi : i + 1 < n
    · rw [if_pos hi, if_pos hi, (h _ hi).1]
    · rw [if_neg hi, if_neg hi]
  rw [e1]
  rcases Tg_lt p n i with h1 | ⟨j, h1, h2, -⟩
  · rw [if_pos h1, if_pos h1]
  · rw [h2, if_neg (nI_pos (by omega)), if_neg (nI_pos (by omega)), nI_clamp (by omega), (h j h1).1]
theorem lvN_ag {p : Pg} {n : Nat} (hn : n < 2 ^ 31) {S T : LS2} (h : Ag n S T) (i : Nat) : lvN p n S.1 i = lvN p n T.1 i := by
  unfold lvN
  rw [lvO_ag hn h i]
theorem lvS_ag {p : Pg} {n : Nat} (hn : n < 2 ^ 31) {S T : LS2} (h : Ag n S T) (i : Nat) : Ag n (lvS p n S i) (lvS p n T i) := by
  intro j hj
  unfold lvS
  by_cases e : j = i
  · subst e
    simp only [va_up_self]
    exact ⟨lvN_ag hn h j, lvO_ag hn h j⟩
  · simp only [va_up_ne _ _ e]
    exact h j hj
theorem lvP_ag {p : Pg} {n : Nat} (hn : n < 2 ^ 31) : ∀ (m : Nat) {S T : LS2}, m ≤ n → Ag n S T → Ag n (lvP p n m S) (lvP p n m T) ∧ lvC p n m S = lvC p n m T
  | 0, _, _, _, h => ⟨h, rfl⟩
  | m + 1, S, T, hm, h => by
    rw [lvP, lvP, lvC, lvC]
    obtain ⟨h1, h2⟩ := lvP_ag hn m (by omega) (lvS_ag hn h m)
    refine ⟨h1, ?_⟩
    rw [h2, lvN_ag hn h m, lvO_ag hn h m, (h m (by omega)).1, (h m (by omega)).2]
def lvIt (p : Pg) (n : Nat) : Nat → LS2
  | 0 => (fun _ => 0, fun _ => 0)
  | k + 1 => lvP p n n (lvIt p n k)
/-! it ends: sets only grow -/
def sub (x y : Int64) : Prop := ∀ i, tb x i = true → tb y i = true
theorem sub.refl (x : Int64) : sub x x := fun _ h => h
theorem sub.or {a b c d : Int64} (h : sub a b) (h' : sub c d) : sub (a ||| c) (b ||| d) := by
  intro i hi
  rw [tb_or] at hi ⊢
  rcases Bool.or_eq_true_iff.mp hi with h1 | h1
  · rw [h i h1]; rfl
  · rw [h' i h1]; exact Bool.or_true _
theorem sub.and {a b c : Int64} (h : sub a b) : sub (a &&& c) (b &&& c) := by
  intro i hi
  rw [tb_and] at hi ⊢
  obtain ⟨h1, h2⟩ := Bool.and_eq_true_iff.mp hi
  rw [h i h1, h2]; rfl
theorem sub0 (x : Int64) : sub 0 x := fun i h => by rw [tb_0] at h; cases h
theorem sub.antisymm {x y : Int64} (h1 : sub x y) (h2 : sub y x) : x = y := by
  apply tb_ext
  intro i _
  cases hx : tb x i with
  | true => exact (h1 i hx).symm
  | false =>
    cases hy : tb y i with
    | true => rw [h2 i hy] at hx; cases hx
    | false => rfl
def subA (A B : Nat → Int64) : Prop := ∀ i, sub (A i) (B i)
theorem lvO_mono {p : Pg} {n : Nat} {A B : Nat → Int64} (h : subA A B) (i : Nat) : sub (lvO p n A i) (lvO p n B i) := by
  unfold lvO
  refine sub.or ?_ ?_
  · by_cases hi : i + 1 < n
    · rw [if_pos hi, if_pos hi]; exact h _
    · rw [if_neg hi, if_neg hi]; exact sub.refl _
  · by_cases ht : Tg p n i < 0
    · rw [if_pos ht, if_pos ht]; exact sub.refl _
    · rw [if_neg ht, if_neg ht]; exact h _
theorem lvN_mono {p : Pg} {n : Nat} {A B : Nat → Int64} (h : subA A B) (i : Nat) : sub (lvN p n A i) (lvN p n B i) := sub.or (sub.and (lvO_mono h i)) (sub.refl _)
theorem lvP_mono {p : Pg} {n : Nat} : ∀ (m : Nat) {S T : LS2}, subA S.1 T.1 → subA (lvP p n m S).1 (lvP p n m T).1
  | 0, _, _, h => h
  | m + 1, S, T, h => by
    rw [lvP, lvP]
    apply lvP_mono m
    intro j
    unfold lvS
    by_cases e : j = m
    · subst e; simp only [va_up_self]; exact lvN_mono h j
    · simp only [va_up_ne _ _ e]; exact h j
theorem lvIt_mono (p : Pg) (n : Nat) : ∀ k, subA (lvIt p n k).1 (lvIt p n (k + 1)).1
  | 0 => fun i => sub0 _
  | k + 1 => by
    rw [lvIt]
    show subA (lvIt p n (k + 1)).1 (lvP p n n (lvIt p n (k + 1))).1
    rw [lvIt]
    exact lvP_mono n (lvIt_mono p n k)
/-- a pass leaves what lies behind it alone -/
theorem lvP_high {p : Pg} {n : Nat} : ∀ (m : Nat) (S : LS2) (j : Nat), m ≤ j → (lvP p n m S).1 j = S.1 j ∧ (lvP p n m S).2 j = S.2 j
  | 0, _, _, _ => ⟨rfl, rfl⟩
  | m + 1, S, j, h => by
    rw [lvP]
    obtain ⟨h1, h2⟩ := lvP_high m (lvS p n S m) j (by omega)
    rw [h1, h2]
    unfold lvS
    exact ⟨va_up_ne _ _ (by omega), va_up_ne _ _ (by omega)⟩
/-- nothing changed: the pass is its own end -/
theorem lvC_false {p : Pg} {n : Nat} : ∀ (m : Nat) (S : LS2), lvC p n m S = false ↔ lvP p n m S = S
  | 0, S => by simp [lvC, lvP]
  | m + 1, S => by
    rw [lvC, lvP]
    constructor
    · intro h
      simp only [Bool.or_eq_false_iff, decide_eq_false_iff_not, ne_eq, Classical.not_not] at h
      obtain ⟨⟨h1, h2⟩, h3⟩ := h
      have e : lvS p n S m = S := by
        unfold lvS
        rw [h1, h2, va_up_id, va_up_id]
      rw [e] at h3 ⊢
      exact (lvC_false m S).mp h3
    · intro h
      obtain ⟨g1, g2⟩ := lvP_high m (lvS p n S m) m (Nat.le_refl _)
      rw [h] at g1 g2
      have e1 : lvN p n S.1 m = S.1 m := by rw [g1]; unfold lvS; simp only [va_up_self]
      have e2 : lvO p n S.1 m = S.2 m := by rw [g2]; unfold lvS; simp only [va_up_self]
      have e : lvS p n S m = S := by
        unfold lvS
        rw [e1, e2, va_up_id, va_up_id]
      rw [e] at h ⊢
      rw [(lvC_false m S).mpr h, e1, e2]
      simp
/-- what is found for who is needed behind, out of who is needed ahead -/
theorem lvP_snd {p : Pg} {n : Nat} : ∀ (m : Nat) (S T : LS2), S.1 = T.1 → (∀ j, m ≤ j → S.2 j = T.2 j) → (lvP p n m S).1 = (lvP p n m T).1 ∧ (lvP p n m S).2 = (lvP p n m T).2
  | 0, S, T, h1, h2 => ⟨h1, funext fun j => h2 j (Nat.zero_le _)⟩
  | m + 1, S, T, h1, h2 => by
    rw [lvP, lvP]
    apply lvP_snd m
    · unfold lvS; rw [h1]
    · intro j hj
      unfold lvS
      rw [h1]
      by_cases e : j = m
      · subst e; simp only [va_up_self]
      · simp only [va_up_ne _ _ e]; exact h2 j (by omega)
theorem lvIt_zero (p : Pg) (n : Nat) : ∀ k j, n ≤ j → (lvIt p n k).1 j = 0 ∧ (lvIt p n k).2 j = 0
  | 0, _, _ => ⟨rfl, rfl⟩
  | k + 1, j, h => by
    rw [lvIt]
    obtain ⟨h1, h2⟩ := lvP_high (p := p) (n := n) n (lvIt p n k) j h
    rw [h1, h2]
    exact lvIt_zero p n k j h
/-- who is needed ahead stays: then all stays, one pass later -/
theorem lvIt_stop {p : Pg} {n k : Nat} (h : (lvIt p n (k + 1)).1 = (lvIt p n k).1) : lvIt p n (k + 2) = lvIt p n (k + 1) := by
  have e : lvIt p n (k + 2) = lvP p n n (lvIt p n (k + 1)) := rfl
  have e2 : lvIt p n (k + 1) = lvP p n n (lvIt p n k) := rfl
  obtain ⟨h1, h2⟩ := lvP_snd (p := p) (n := n) n (lvIt p n (k + 1)) (lvIt p n k) h (fun j hj => by rw [(lvIt_zero p n (k + 1) j hj).2, (lvIt_zero p n k j hj).2])
  rw [e, e2]
  rw [e2] at h1 h2
  exact Prod.ext h1 h2
/-- how many are needed ahead, in all -/
def lvM (A : Nat → Int64) : Nat → Nat
  | 0 => 0
  | n + 1 => lvM A n + cnt (A n)
theorem lvM_le (A : Nat → Int64) : ∀ n, lvM A n ≤ 64 * n
  | 0 => Nat.le_refl 0
  | n + 1 => by
    have := lvM_le A n
    have := cnt_le (A n)
    rw [lvM]; omega
theorem cntN_sub {x y : Int64} (h : sub x y) : ∀ n, cntN x n ≤ cntN y n ∧ (cntN x n = cntN y n → ∀ i, i < n → tb x i = tb y i)
  | 0 => ⟨Nat.le_refl 0, fun _ i hi => absurd hi (by omega)⟩
  | n + 1 => by
    obtain ⟨h1, h2⟩ := cntN_sub h n
    rw [cntN, cntN]
    have h3 := h n
    cases hx : tb x n with
    | true =>
      have hy := h3 hx
      simp only [hy, if_true]
      refine ⟨by omega, fun e i hi => ?_⟩
      by_cases e2 : i = n
      · subst e2; rw [hx, hy]
      · exact h2 (by omega) i (by omega)
    | false =>
      cases hy : tb y n with
      | true => simp only [if_true]; exact ⟨by simp; omega, fun e => by simp at e; omega⟩
      | false =>
        refine ⟨by simp; omega, fun e i hi => ?_⟩
        by_cases e2 : i = n
        · subst e2; rw [hx, hy]
        · exact h2 (by simp at e; omega) i (by omega)
theorem cnt_sub {x y : Int64} (h : sub x y) : cnt x ≤ cnt y ∧ (cnt x = cnt y → x = y) := by
  obtain ⟨h1, h2⟩ := cntN_sub h 64
  exact ⟨h1, fun e => tb_ext (h2 e)⟩
theorem lvM_sub {A B : Nat → Int64} (h : subA A B) : ∀ n, lvM A n ≤ lvM B n ∧ (lvM A n = lvM B n → ∀ i, i < n → A i = B i)
  | 0 => ⟨Nat.le_refl 0, fun _ i hi => absurd hi (by omega)⟩
  | n + 1 => by
    obtain ⟨h1, h2⟩ := lvM_sub h n
    obtain ⟨h3, h4⟩ := cnt_sub (h n)
    rw [lvM, lvM]
    refine ⟨by omega, fun e i hi => ?_⟩
    by_cases e2 : i = n
    · subst e2; exact h4 (by omega)
    · exact h2 (by omega) i (by omega)
theorem lv_grow (p : Pg) (n : Nat) : ∀ k, (∀ j, j < k → lvC p n n (lvIt p n (j + 1)) = true) → k ≤ lvM (lvIt p n k).1 n
  | 0, _ => Nat.zero_le _
  | k + 1, h => by
    have h1 := lv_grow p n k (fun j hj => h j (by omega))
    have h2 := h k (by omega)
    obtain ⟨h3, h4⟩ := lvM_sub (lvIt_mono p n k) n
    apply Classical.byContradiction
    intro hx
    have e : (lvIt p n (k + 1)).1 = (lvIt p n k).1 := by
      funext j
      by_cases hj : j < n
      · exact (h4 (by omega) j hj).symm
      · rw [(lvIt_zero p n (k + 1) j (by omega)).1, (lvIt_zero p n k j (by omega)).1]
    have h5 := lvIt_stop e
    have h6 : lvC p n n (lvIt p n (k + 1)) = false := (lvC_false n _).mpr h5
    rw [h6] at h2
    cases h2
/-- it ends within some thousand passes -/
theorem lv_ends {p : Pg} {n : Nat} (hn : n ≤ 90) : ∃ k, k ≤ 5761 ∧ lvC p n n (lvIt p n k) = false ∧ ∀ j, j < k → lvC p n n (lvIt p n j) = true := by
  have hex : ∃ k, k ≤ 5761 ∧ lvC p n n (lvIt p n k) = false := by
    apply Classical.byContradiction
    intro hx
    have h1 : ∀ j, j < 5761 → lvC p n n (lvIt p n (j + 1)) = true := fun j hj => by
      cases hc : lvC p n n (lvIt p n (j + 1)) with
      | true => rfl
      | false => exact absurd ⟨j + 1, by omega, hc⟩ hx
    have h2 := lv_grow p n 5761 h1
    have h3 := lvM_le (lvIt p n 5761).1 n
    omega
  obtain ⟨k, ⟨h1, h2⟩, h3⟩ := pk_least (fun k => k ≤ 5761 ∧ lvC p n n (lvIt p n k) = false) hex
  refine ⟨k, h1, h2, fun j hj => ?_⟩
  cases hc : lvC p n n (lvIt p n j) with
  | true => rfl
  | false => exact absurd ⟨by omega, hc⟩ (h3 j hj)
/-- H is who is needed behind each instruction -/
def LvE (p : Pg) (n : Nat) (H : Nat → Int64) : Prop := ∃ k, lvC p n n (lvIt p n k) = false ∧ (∀ j, j < k → lvC p n n (lvIt p n j) = true) ∧ ∀ i, i < n → H i = (lvIt p n k).2 i
theorem LvE.uniq {p : Pg} {n : Nat} {H H' : Nat → Int64} (h : LvE p n H) (h' : LvE p n H') : ∀ i, i < n → H i = H' i := by
  obtain ⟨k, a1, a2, a3⟩ := h
  obtain ⟨k', b1, b2, b3⟩ := h'
  have e : k = k' := by
    rcases Nat.lt_trichotomy k k' with h | h | h
    · rw [b2 k h] at a1; cases a1
    · exact h
    · rw [a2 k' h] at b1; cases b1
  subst e
  intro i hi
  rw [a3 i hi, b3 i hi]
