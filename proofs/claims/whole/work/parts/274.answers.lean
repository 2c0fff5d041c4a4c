/-! what the calls answer -/
theorem RWf_cd {B : Nat} {u v : Nat → Int32} (h : RWf B u) (h0 : v 0 = u 0) (hw : ∀ w, 1 ≤ w → w < 4 → ((shp (u 0) (nI w) = 114 ∨ shp (u 0) (nI w) = 119) → ∃ r, r < 4 ∧ v w = nI r) ∧ (¬ (shp (u 0) (nI w) = 114 ∨ shp (u 0) (nI w) = 119) → v w = u w)) : RWf 4 v := by
  obtain ⟨k, h1, h2, h3⟩ := h
  refine ⟨k, h1, h0.trans h2, fun w w1 w2 => ?_⟩
  rw [h2] at hw
  obtain ⟨q1, q2⟩ := hw w w1 w2
  by_cases c : shp (nI k) (nI w) = 114 ∨ shp (nI k) (nI w) = 119
  · obtain ⟨r, r4, er⟩ := q1 c
    exact Or.inr ⟨fun z => by rw [z] at c; exact absurd c (by decide), r, by omega, er, fun z => by rw [z] at c; exact absurd c (by decide), fun _ => r4⟩
  · rw [q2 c]
    rcases h3 w w1 w2 with q | ⟨g1, x, g2, g3, g4, g5⟩
    · exact Or.inl q
    · refine Or.inr ⟨g1, x, g2, g3, g4, fun z => ?_⟩
      rcases shp_9 k h1 w w2 with q | q | q | q
      · exact absurd q g1
      · exact absurd q z
      · exact absurd (Or.inl q) c
      · exact absurd (Or.inr q.1) c
/-- the CODE is in order -/
theorem cd_wf {B k w : Nat} {p : Pg} {n : Nat} (hk : k ≤ 4) (hn : n ≤ 90) (hw : WfB B p n) (hS : spS k w p n = 0) : ∀ i, i ≤ n → WfB 4 (cdA k w p n i).1 (cdA k w p n i).2.1
  | 0, _ => fun j hj => absurd hj (Nat.not_lt_zero j)
  | i + 1, hi => by
    have ih := cd_wf hk hn hw hS i (by omega)
    rw [cdA, cdR]
    by_cases c : p i 0 = 1 ∧ cvA k w p n i 1 = cvA k w p n i 2
    · rw [if_pos c]; exact ih
    · rw [if_neg c]
      obtain ⟨f0, f1, f2, f3, f4, f5, f6, f7, f8, f9⟩ := round_facts (w := w) hk hn hw
      refine WfB_put (s := ((cdA k w p n i).1, (cdA k w p n i).2.1, (cdA k w p n i).2.2)) ih (Nat.le_refl _) (fun v v0 v1 v2 v3 => ?_)
      refine RWf_cd (hw i (by omega)) v0 (fun u u1 u2 => ?_)
      have ev : v u = cvA k w p n i u := by
        have : u = 1 ∨ u = 2 ∨ u = 3 := by omega
        rcases this with rfl | rfl | rfl <;> assumption
      rw [ev]
      refine ⟨fun s => ?_, fun s => by rw [cvA, if_neg s]⟩
      obtain ⟨x, x1, -, x2⟩ := RWf_name (hw i (by omega)) u1 u2 s
      rw [cvA, if_pos s, x2, nI_clamp (by omega)]
      exact f8 x x1 (nm_Nms (show i < n by omega) u1 u2 x1 (nmP_of x1 s x2)) (by rw [hS, tb_0])
theorem rn_cnt {p : Pg} {n : Nat} : ∀ f c i s, uC s ≤ c → uC (rnF p n f c i s).2.2 ≤ (rnF p n f c i s).1 ∧ (rnF p n f c i s).1 ≤ c + f
  | 0, c, i, s, h => ⟨h, Nat.le_refl _⟩
  | f + 1, c, i, s, h => by
    rw [rnF]
    split
    · have a := uC_le (p := p) (i := i) (s := s)
      have b := rn_cnt (p := p) (n := n) f (c + 1) (rnN p n i s) (rnS p i s) (by omega)
      exact ⟨b.1, by omega⟩
    · exact ⟨h, by show c ≤ _; omega⟩
theorem rn_500 (p : Pg) (n : Nat) : uC (rnF p n 500 0 0 rs0).2.2 ≤ 500 := by
  have := rn_cnt (p := p) (n := n) 500 0 0 rs0 (Nat.le_refl _)
  omega
def tE (t : TS) : RA := endA (tK t) (tW t) (tP t) (tN t)
def tS (t : TS) : Int64 := spS (tK t) (tW t) (tP t) (tN t)
def tGo (t : TS) : Option (Nat × AS) := goA (tK t) (tW t) 6 0 (bgA (tP t) (tN t))
def tCd (t : TS) (s : AS) : CS := cdA (tK t) (tW t) (sP s) (sN s) (sN s)
def edI (t : TS) (x : Nat) : Int64 := setF (edB (tP t) (Lvb (tP t) (tN t)) (tN t) x) 64
def anLive (t : TS) (i : Int32) : Int32 := if i < 0 ∨ nI (tN t) ≤ i then -1 else (Lvb (tP t) (tN t) (cN i)).toInt32
def anEdges (t : TS) (i : Int32) : Int32 := if inM i 0 15 = 0 then -1 else (edI t (cN i)).toInt32
def anWeight (t : TS) (i v : Int32) : Int32 := if inM i 4 15 = 0 then -1 else if inM v 0 1 = 0 then -2 else if v = 0 then nI (Ct (tP t) (tN t) (cN i)) else nI (wgt (tW t) (Ct (tP t) (tN t) (cN i)) (cnt (edI t (cN i))))
def anStep (t : TS) (i : Int32) : Int32 := if i = -1 then nI (aQ (tE t)) else if i < 0 ∨ nI (aQ (tE t)) ≤ i then -6 else nI (aS (tE t) (cN i))
def nthS (S : Int64) (i : Int32) : Nat := lf (fun x => tb S x && decide (nI (cntF (tb S) x) = i)) 64
def anSpilled (t : TS) (i : Int32) : Int32 := if i = -1 then nI (cnt (tS t)) else if nthS (tS t) i < 64 then nI (nthS (tS t) i) else -6
def anRounds (t : TS) (v : Int32) : Int32 := if inM v 0 4 = 0 then -2 else match tGo t with
  | none => -3
  | some (r, s) => if v = 0 then nI r else if v = 1 then nI (sL s) else if v = 2 then nI (sW s) else if v = 3 then nI (tCd t s).2.1 else nI (tCd t s).2.2
def anColour (t : TS) (v : Int32) : Int32 := if inM v 4 15 = 0 then -1 else match tGo t with
  | none => -3
  | some (_, s) => if tb (Nms (sP s) (sN s)) (cN v) = true then rgA (tK t) (tW t) (sP s) (sN s) (ndA (tK t) (tW t) (sP s) (sN s) (cN v)) else sC s (cN v)
def anCode (t : TS) (i v : Int32) : Int32 := match tGo t with
  | none => -3
  | some (_, s) => if i < 0 ∨ nI (tCd t s).2.1 ≤ i then -1 else if inM v 0 3 = 0 then -2 else (tCd t s).1 (cN i) (cN v)
def rnAns (q : Nat × Nat × RS) (n : Nat) (v : Int32) : Int32 := if v = 0 then nI (uC q.2.2) else if v = 1 then nI (uD q.2.2) else if v = 2 then nI q.1 else if v = 3 then bI (decide (n ≤ q.2.1)) else if v = 4 then nI (uL q.2.2) else nI (uZ q.2.2)
def tRun (t : TS) : Nat × Nat × RS := rnF (tP t) (tN t) 500 0 0 rs0
def anRun (t : TS) (v : Int32) : Int32 := if inM v 0 3 = 0 then -2 else rnAns (tRun t) (tN t) v
def anOut (t : TS) (i : Int32) : Int32 := if i < 0 ∨ nI (uC (tRun t).2.2) ≤ i then -6 else nI (uT (tRun t).2.2 (cN i))
def anSpent (t : TS) (v : Int32) : Int32 := if inM v 0 5 = 0 then -2 else match tGo t with
  | none => -3
  | some (_, s) => rnAns (rnF (tCd t s).1 (tCd t s).2.1 2000 0 0 rs0) (tCd t s).2.1 v
theorem cnt_cntF (s : Int64) : cnt s = cntF (tb s) 64 := by
  have : ∀ n, cntN s n = cntF (tb s) n := fun n => by
    induction n with
    | zero => rfl
    | succ n ih => rw [cntN, cntF, ih]
  exact this 64
theorem inM_pred {i : Int32} {n : Nat} (hn : n < 2 ^ 30) : inM i 0 (nI n - 1) = 0 ↔ (i < 0 ∨ nI n ≤ i) := by
  have key : nI n ≤ i → nI n - 1 < i := fun q => by
    by_cases e : n = 0
    · subst e
      exact Int32.lt_of_lt_of_le (by decide) q
    · obtain ⟨m, rfl⟩ : ∃ m, n = m + 1 := ⟨n - 1, by omega⟩
      rw [nI_pred]
      exact Int32.lt_of_lt_of_le (nI_lt (by omega) (by omega)) q
  constructor
  · intro h
    rcases pk_ix i (n := n) (by omega) with q | q | ⟨x, hx, rfl⟩
    · exact Or.inl q
    · exact Or.inr q
    · exfalso
      obtain ⟨m, rfl⟩ : ∃ m, n = m + 1 := ⟨n - 1, by omega⟩
      rw [nI_pred, inM_in (nI_pos (by omega)) (nI_nlt (by omega) (by omega))] at h
      exact absurd h (by decide)
  · rintro (q | q)
    · exact inM_lt q
    · exact inM_gt (key q)
