/-! THE STATE between calls, and what both sides keep of it -/
abbrev TI : Type := Bool × Nat × Nat × Nat × Pg
abbrev TS : Type := Nat × Nat × Nat × (Nat → Nat) × Nat × Pg × TI × TI
def tK (t : TS) : Nat := t.1
def tW (t : TS) : Nat := t.2.1
def tC (t : TS) : Nat := t.2.2.1
def tG (t : TS) : Nat → Nat := t.2.2.2.1
def tN (t : TS) : Nat := t.2.2.2.2.1
def tP (t : TS) : Pg := t.2.2.2.2.2.1
def tA (t : TS) : TI := t.2.2.2.2.2.2.1
def tZ (t : TS) : TI := t.2.2.2.2.2.2.2
def iK (a : TI) : Bool := a.1
def VQ (k w n : Nat) (p : Pg) : Prop := 2 ≤ k ∧ k ≤ 4 ∧ w < 3 ∧ n ≤ 30 ∧ WfB 16 p n
def VI (a : TI) : Prop := a.1 = true → VQ a.2.1 a.2.2.1 a.2.2.2.1 a.2.2.2.2
def VT (t : TS) : Prop := VQ (tK t) (tW t) (tN t) (tP t) ∧ VI (tA t) ∧ VI (tZ t)
/-- a flag of the class: what it vouches for -/
def fl (I : IM) (z : Nat) (P : Prop) : Prop := I 0 z = 0 ∨ (I 0 z = 1 ∧ P)
def XI (I : IM) (L : LM) (g : Nat) (a : TI) : Prop := I g 3 = bI a.1 ∧ (a.1 = true → I g 1 = nI a.2.1 ∧ I g 2 = nI a.2.2.1 ∧ LR I L (g + 1) a.2.2.2.1 a.2.2.2.2)
def XE (I : IM) (L : LM) (k w n : Nat) (p : Pg) : Prop := fl I 10 (AlR I L k w p n)
def XG (I : IM) (k w n : Nat) (p : Pg) : Prop := fl I 12 (∀ r s, goA k w 6 0 (bgA p n) = some (r, s) → UX I 54 (cdA k w (sP s) (sN s) (sN s)).1 (cdA k w (sP s) (sN s) (sN s)).2.1 2000)
def InvX (I : IM) (L : LM) (t : TS) : Prop :=
  (I 0 7 = nI (tK t) ∧ I 0 8 = nI (tW t)) ∧ PdX I (tC t) (tG t) ∧ LR I L 3 (tN t) (tP t) ∧ fl I 9 (NdR I L 8 (tP t) (tN t)) ∧ XE I L (tK t) (tW t) (tN t) (tP t) ∧ fl I 11 (UX I 50 (tP t) (tN t) 500) ∧ XG I (tK t) (tW t) (tN t) (tP t) ∧ XI I L 59 (tA t) ∧ XI I L 65 (tZ t)
/-- cells from u to v are as they were -/
def Sm (u v : Nat) (I : IM) (L : LM) (I' : IM) (L' : LM) : Prop := ∀ x, u ≤ x → x < v → I' x = I x ∧ L' x = L x
theorem PdX_keep {I I' : IM} {L L' : LM} {c : Nat} {sg : Nat → Nat} (h : PdX I c sg) (e : Sm 1 3 I L I' L') : PdX I' c sg := by
  unfold PdX
  rw [(e 1 (by omega) (by omega)).1, (e 2 (by omega) (by omega)).1]
  exact h
theorem LR_sm {I I' : IM} {L L' : LM} {a n : Nat} {p : Pg} (h : LR I L a n p) (e : Sm a (a + 5) I L I' L') : LR I' L' a n p := LR_keep h (fun j hj => (e _ (by omega) (by omega)).1) (fun j hj => (e _ (by omega) (by omega)).2)
theorem NdR_keep {I I' : IM} {L L' : LM} {n : Nat} {p : Pg} (h : NdR I L 8 p n) (e : Sm 8 14 I L I' L') : NdR I' L' 8 p n := by
  unfold NdR
  rw [(e (8 + 2) (by omega) (by omega)).2, (e (8 + 4) (by omega) (by omega)).2, (e (8 + 5) (by omega) (by omega)).1]
  exact h
theorem AlR_keep {I I' : IM} {L L' : LM} {k w n : Nat} {p : Pg} (h : AlR I L k w p n) (e : Sm 14 50 I L I' L') : AlR I' L' k w p n := by
  obtain ⟨⟨h1, h2, h3⟩, h4⟩ := h
  refine ⟨⟨by rw [(e 14 (by omega) (by omega)).1]; exact h1, fun i hi => by rw [(e 38 (by omega) (by omega)).1]; exact h2 i hi, by rw [(e 14 (by omega) (by omega)).2]; exact h3⟩, ?_⟩
  rcases h4 with ⟨q1, q2⟩ | ⟨r, s, q1, q2, q3, q4, q5, q6, q7, q8, q9, q10⟩
  · exact Or.inl ⟨q1, by rw [(e 14 (by omega) (by omega)).1]; exact q2⟩
  · refine Or.inr ⟨r, s, q1, ?_⟩
    rw [(e 14 (by omega) (by omega)).1, (e 37 (by omega) (by omega)).1, (e 25 (by omega) (by omega)).1, (e 26 (by omega) (by omega)).1]
    exact ⟨q2, q3, q4, q5, q6, q7, q8, LR_sm q9 (fun x x1 x2 => e x (by omega) (by omega)), q10⟩
theorem UX_keep {I I' : IM} {L L' : LM} {a n m : Nat} {p : Pg} (h : UX I a p n m) (e : Sm a (a + 4) I L I' L') : UX I' a p n m := by
  unfold UX UR
  rw [(e a (by omega) (by omega)).1, (e (a + 1) (by omega) (by omega)).1, (e (a + 2) (by omega) (by omega)).1, (e (a + 3) (by omega) (by omega)).1]
  exact h
theorem fl_keep {I I' : IM} {z : Nat} {P P' : Prop} (h : fl I z P) (e : I' 0 z = I 0 z) (hp : P → P') : fl I' z P' := by
  unfold fl
  rw [e]
  exact h.imp id (fun q => ⟨q.1, hp q.2⟩)
theorem XI_keep {I I' : IM} {L L' : LM} {g : Nat} {a : TI} (h : XI I L g a) (e : Sm g (g + 6) I L I' L') : XI I' L' g a := by
  unfold XI
  rw [(e g (by omega) (by omega)).1]
  exact ⟨h.1, fun z => ⟨(h.2 z).1, (h.2 z).2.1, LR_sm (h.2 z).2.2 (fun x x1 x2 => e x (by omega) (by omega))⟩⟩
theorem Sm.sub {u v u' v' : Nat} {I : IM} {L : LM} {I' : IM} {L' : LM} (h : Sm u v I L I' L') (h1 : u ≤ u') (h2 : v' ≤ v) : Sm u' v' I L I' L' := fun x x1 x2 => h x (by omega) (by omega)
theorem Sm.trans {u v : Nat} {I I' I'' : IM} {L L' L'' : LM} (h : Sm u v I L I' L') (h' : Sm u v I' L' I'' L'') : Sm u v I L I'' L'' := fun x x1 x2 => ⟨(h' x x1 x2).1.trans (h x x1 x2).1, (h' x x1 x2).2.trans (h x x1 x2).2⟩
/-- nothing but the class's cells is touched -/
theorem InvX_keep {I I' : IM} {L L' : LM} {t : TS} (h : InvX I L t) (e : Sm 0 71 I L I' L') : InvX I' L' t := by
  obtain ⟨h1, h2, h3, h4, h5, h6, h7, h8, h9⟩ := h
  have e0 := (e 0 (by omega) (by omega)).1
  refine ⟨by rw [e0]; exact h1, PdX_keep h2 (e.sub (by omega) (by omega)), LR_sm h3 (e.sub (by omega) (by omega)), fl_keep h4 (by rw [e0]) (fun q => NdR_keep q (e.sub (by omega) (by omega))), fl_keep h5 (by rw [e0]) (fun q => AlR_keep q (e.sub (by omega) (by omega))), fl_keep h6 (by rw [e0]) (fun q => UX_keep q (e.sub (by omega) (by omega))), fl_keep h7 (by rw [e0]) (fun q r s z => UX_keep (q r s z) (e.sub (by omega) (by omega))), XI_keep h8 (e.sub (by omega) (by omega)), XI_keep h9 (e.sub (by omega) (by omega))⟩
/-- the reference's -/
def YI (I : IM) (j : Nat) (a : TI) : Prop := I 102 j = bI a.1 ∧ (a.1 = true → (∀ i, i < a.2.2.2.1 → I 101 (130 * j + i) = a.2.2.2.2 i 0 ∧ I 101 (130 * j + 30 + i) = a.2.2.2.2 i 1 ∧ I 101 (130 * j + 60 + i) = a.2.2.2.2 i 2 ∧ I 101 (130 * j + 90 + i) = a.2.2.2.2 i 3) ∧ I 101 (130 * j + 120) = nI a.2.2.2.1 ∧ I 101 (130 * j + 121) = nI a.2.1 ∧ I 101 (130 * j + 122) = nI a.2.2.1)
def InvM (I : IM) (t : TS) : Prop := I 71 0 = nI (tK t) ∧ I 71 1 = nI (tW t) ∧ I 71 34 = 0 ∧ PdM I (tC t) (tG t) ∧ MR I (tN t) (tP t) ∧ YI I 0 (tA t) ∧ YI I 1 (tZ t)
theorem InvM_keep {I I' : IM} {t : TS} (h : InvM I t) (e : ∀ x, 72 ≤ x → x ≤ 76 → I' x = I x) (e0 : I' 71 0 = I 71 0) (e1 : I' 71 1 = I 71 1) (e6 : I' 71 6 = I 71 6) (e7 : I' 71 7 = I 71 7) (e34 : I' 71 34 = I 71 34) (e101 : I' 101 = I 101) (e102 : I' 102 = I 102) : InvM I' t := by
  unfold InvM PdM MR YI
  rw [e 76 (by omega) (by omega), e 72 (by omega) (by omega), e 73 (by omega) (by omega), e 74 (by omega) (by omega), e 75 (by omega) (by omega), e0, e1, e6, e7, e34, e101, e102]
  exact h
theorem FH_M {I I' : IM} {L L' : LM} {t : TS} (h : InvM I t) (f : FH I L I' L') : InvM I' t := InvM_keep h (fun x x1 x2 => (f.1 x (by omega)).1) (f.2 _ (by decide)) (f.2 _ (by decide)) (f.2 _ (by decide)) (f.2 _ (by decide)) (f.2 _ (by decide)) (f.1 101 (by omega)).1 (f.1 102 (by omega)).1
theorem FJ_M {I I' : IM} {L L' : LM} {t : TS} (h : InvM I t) (f : FJ I L I' L') : InvM I' t := InvM_keep h (fun x x1 x2 => (f.1 x (by omega)).1) (f.2 _ (by decide)) (f.2 _ (by decide)) (f.2 _ (by decide)) (f.2 _ (by decide)) (f.2 _ (by decide)) (f.1 101 (by omega)).1 (f.1 102 (by omega)).1
theorem FN_M {I I' : IM} {t : TS} (h : InvM I t) (f : FN I I') : InvM I' t := InvM_keep h (fun x x1 x2 => f.1 x (by simp; omega)) (f.2 _ (by decide)) (f.2 _ (by decide)) (f.2 _ (by decide)) (f.2 _ (by decide)) (f.2 _ (by decide)) (f.1 101 (by decide)) (f.1 102 (by decide))
/-! bounds -/
theorem inM_lt {v lo hi : Int32} (h : v < lo) : inM v lo hi = 0 := by rw [inM, if_pos h]
theorem inM_gt {v lo hi : Int32} (h : hi < v) : inM v lo hi = 0 := by
  unfold inM
  rw [if_pos h]
  split <;> rfl
theorem inM_in {v lo hi : Int32} (h : ¬ v < lo) (h2 : ¬ hi < v) : inM v lo hi = 1 := by rw [inM, if_neg h, if_neg h2]
theorem in_ex {v : Int32} {hi : Nat} (hh : hi < 2 ^ 30) (h0 : ¬ v < 0) (h1 : ¬ nI hi < v) : ∃ x, x ≤ hi ∧ v = nI x := by
  rcases pk_ix v (n := hi + 1) (by omega) with q | q | ⟨x, hx, e⟩
  · exact absurd q h0
  · exact absurd (Int32.lt_of_lt_of_le (nI_lt (a := hi) (b := hi + 1) (by omega) (by omega)) q) h1
  · exact ⟨x, by omega, e⟩
theorem in_ix {v : Int32} {n : Nat} (hn : n < 2 ^ 30) (h0 : ¬ v < 0) (h1 : v < nI n) : ∃ x, x < n ∧ v = nI x := by
  rcases pk_ix v (n := n) (by omega) with q | q | ⟨x, hx, e⟩
  · exact absurd q h0
  · exact absurd h1 (Int32.not_lt.mpr q)
  · exact ⟨x, hx, e⟩
