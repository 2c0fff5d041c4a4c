/-! THE ROUNDS as mathematics: rewriting -/
abbrev WS : Type := Pg × Nat × Nat
def okS (s : WS) : Prop := s.2.1 ≤ 90 ∧ s.2.2 ≤ 48
def putS (s : WS) (a b c d : Int32) : WS := (pX s.1 s.2.1 a b c d, s.2.1 + 1, s.2.2)
def newS (s : WS) : WS := (s.1, s.2.1, s.2.2 + 1)
def frS (s : WS) : Int32 := nI (16 + s.2.2)
def slV (sf : Nat → Int32) (v : Int32) : Int32 := sf v.toNatClampNeg
/-- a part that is read and lives in a slot -/
def rdC (sf : Nat → Int32) (p : Pg) (i w : Nat) : Bool := decide (shp (p i 0) (nI w) = 114) && !decide (slV sf (p i w) < 0)
def rdS (sf : Nat → Int32) (p : Pg) (i w : Nat) (s : WS) : WS := if rdC sf p i w = true then putS (newS s) 7 (frS s) (slV sf (p i w)) (-6) else s
def rdV (sf : Nat → Int32) (p : Pg) (i w : Nat) (s : WS) : Int32 := if rdC sf p i w = true then frS s else p i w
/-- the instruction's parts are loaded ahead, as far as part w -/
def rdN (sf : Nat → Int32) (p : Pg) (i : Nat) (s : WS) : Nat → WS
  | 0 => s
  | w + 1 => rdS sf p i (w + 1) (rdN sf p i s w)
def stC (sf : Nat → Int32) (p : Pg) (i : Nat) : Bool := decide (shp (p i 0) 1 = 119) && !decide (slV sf (p i 1) < 0)
def rowS (sf : Nat → Int32) (p : Pg) (i : Nat) (s : WS) : WS :=
  if stC sf p i = true then putS (putS (newS (rdN sf p i s 3)) (p i 0) (frS (rdN sf p i s 3)) (rdV sf p i 2 (rdN sf p i s 1)) (rdV sf p i 3 (rdN sf p i s 2))) 8 (frS (rdN sf p i s 3)) (slV sf (p i 1)) (-6)
  else putS (rdN sf p i s 3) (p i 0) (rdV sf p i 1 s) (rdV sf p i 2 (rdN sf p i s 1)) (rdV sf p i 3 (rdN sf p i s 2))
def rwA (sf : Nat → Int32) (p : Pg) : Nat → WS → WS
  | 0, s => s
  | i + 1, s => rowS sf p i (rwA sf p i s)
def leS (s t : WS) : Prop := s.2.1 ≤ t.2.1 ∧ s.2.2 ≤ t.2.2
theorem leS.refl (s : WS) : leS s s := ⟨Nat.le_refl _, Nat.le_refl _⟩
theorem leS.trans {a b c : WS} (h : leS a b) (h' : leS b c) : leS a c := ⟨Nat.le_trans h.1 h'.1, Nat.le_trans h.2 h'.2⟩
theorem okS_le {s t : WS} (h : leS s t) (ht : okS t) : okS s := ⟨Nat.le_trans h.1 ht.1, Nat.le_trans h.2 ht.2⟩
theorem le_put (s : WS) (a b c d : Int32) : leS s (putS s a b c d) := ⟨Nat.le_succ _, Nat.le_refl _⟩
theorem le_new (s : WS) : leS s (newS s) := ⟨Nat.le_refl _, Nat.le_succ _⟩
theorem le_rd (sf : Nat → Int32) (p : Pg) (i w : Nat) (s : WS) : leS s (rdS sf p i w s) := by
  unfold rdS
  split
  · exact (le_new s).trans (le_put _ _ _ _ _)
  · exact leS.refl s
theorem le_row (sf : Nat → Int32) (p : Pg) (i : Nat) (s : WS) : leS (rdN sf p i s 3) (rowS sf p i s) := by
  unfold rowS
  split
  · exact ((le_new _).trans (le_put _ _ _ _ _)).trans (le_put _ _ _ _ _)
  · exact le_put _ _ _ _ _
theorem le_rdN (sf : Nat → Int32) (p : Pg) (i : Nat) (s : WS) : ∀ w, leS s (rdN sf p i s w)
  | 0 => leS.refl s
  | w + 1 => (le_rdN sf p i s w).trans (le_rd sf p i (w + 1) _)
theorem le_rows (sf : Nat → Int32) (p : Pg) (i : Nat) (s : WS) : leS s (rowS sf p i s) := (le_rdN sf p i s 3).trans (le_row sf p i s)
theorem le_rw (sf : Nat → Int32) (p : Pg) (s : WS) (i : Nat) : ∀ r, leS (rwA sf p i s) (rwA sf p (i + r) s)
  | 0 => leS.refl _
  | r + 1 => (le_rw sf p s i r).trans (le_rows sf p (i + r) _)
/-! the form of a row -/
def RWf (B : Nat) (v : Nat → Int32) : Prop := ∃ k, k < 9 ∧ v 0 = nI k ∧ ∀ w, 1 ≤ w → w < 4 → (shp (nI k) (nI w) = 45 ∧ v w = -6) ∨ (¬ shp (nI k) (nI w) = 45 ∧ ∃ x, x < 64 ∧ v w = nI x ∧ (shp (nI k) (nI w) = 48 → k < 7 → x < 10) ∧ (¬ shp (nI k) (nI w) = 48 → x < B))
theorem RWf_mono {B B' : Nat} {v : Nat → Int32} (h : RWf B v) (hB : B ≤ B') : RWf B' v := by
  obtain ⟨k, h1, h2, h3⟩ := h
  refine ⟨k, h1, h2, fun w w1 w2 => ?_⟩
  rcases h3 w w1 w2 with q | ⟨q1, x, q2, q3, q4, q5⟩
  · exact Or.inl q
  · exact Or.inr ⟨q1, x, q2, q3, q4, fun z => by have := q5 z; omega⟩
theorem WfB_put {B B' : Nat} {s : WS} {a b c d : Int32} (h : WfB B s.1 s.2.1) (hB : B ≤ B') (hv : ∀ v : Nat → Int32, v 0 = a → v 1 = b → v 2 = c → v 3 = d → RWf B' v) : WfB B' (putS s a b c d).1 (putS s a b c d).2.1 := by
  intro i hi
  have hi' : i < s.2.1 + 1 := hi
  show RWf B' (pX s.1 s.2.1 a b c d i)
  by_cases e : i = s.2.1
  · rw [e]
    refine hv _ ?_ ?_ ?_ ?_ <;> (unfold pX; rw [if_pos rfl]; try rfl)
  · rw [pX_lt (by omega)]
    exact RWf_mono (h i (by omega)) hB
theorem shp_9 : ∀ k, k < 9 → ∀ w, w < 4 → shp (nI k) (nI w) = 45 ∨ shp (nI k) (nI w) = 48 ∨ shp (nI k) (nI w) = 114 ∨ (shp (nI k) (nI w) = 119 ∧ w = 1) := by decide +kernel
/-- a slot's row -/
theorem RWf_slot {B x y : Nat} {k : Int32} (hk : k = 7 ∨ k = 8) (hx : x < B) (hx64 : x < 64) (hy : y < 64) (v : Nat → Int32) (h0 : v 0 = k) (h1 : v 1 = nI x) (h2 : v 2 = nI y) (h3 : v 3 = -6) : RWf B v := by
  rcases hk with rfl | rfl
  · refine ⟨7, by omega, h0, fun w w1 w2 => ?_⟩
    have hw : w = 1 ∨ w = 2 ∨ w = 3 := by omega
    rcases hw with rfl | rfl | rfl
    · exact Or.inr ⟨by decide, x, hx64, h1, fun _ z => by omega, fun _ => hx⟩
    · exact Or.inr ⟨by decide, y, hy, h2, fun _ z => by omega, fun z => absurd (by decide) z⟩
    · exact Or.inl ⟨by decide, h3⟩
  · refine ⟨8, by omega, h0, fun w w1 w2 => ?_⟩
    have hw : w = 1 ∨ w = 2 ∨ w = 3 := by omega
    rcases hw with rfl | rfl | rfl
    · exact Or.inr ⟨by decide, x, hx64, h1, fun _ z => by omega, fun _ => hx⟩
    · exact Or.inr ⟨by decide, y, hy, h2, fun _ z => by omega, fun z => absurd (by decide) z⟩
    · exact Or.inl ⟨by decide, h3⟩
def rv4 (a b c d : Int32) : Nat → Int32 := fun w => match w with | 0 => a | 1 => b | 2 => c | _ => d
/-- names in a row -/
def ocR (v : Nat → Int32) (x : Nat) : Prop := ∃ w, 1 ≤ w ∧ w < 4 ∧ (shp (v 0) (nI w) = 114 ∨ shp (v 0) (nI w) = 119) ∧ v w = nI x
theorem rNm_iff {N : Int64} {v : Nat → Int32} {x : Nat} (hx : x < 64) : tb (rNm N (v 0) (v 1) (v 2) (v 3)) x = true ↔ tb N x = true ∨ ocR v x := by
  unfold rNm
  constructor
  · intro h
    rcases nNm_inv hx h with z | ⟨z1, z2⟩
    · rcases nNm_inv hx z with z | ⟨z1, z2⟩
      · rcases nNm_inv hx z with z | ⟨z1, z2⟩
        · exact Or.inl z
        · exact Or.inr ⟨1, by omega, by omega, z2, z1⟩
      · exact Or.inr ⟨2, by omega, by omega, z2, z1⟩
    · exact Or.inr ⟨3, by omega, by omega, z2, z1⟩
  · rintro (h | ⟨w, w1, w2, h1, h2⟩)
    · exact nNm_sup _ _ _ x (nNm_sup _ _ _ x (nNm_sup _ _ _ x h))
    · have hw : w = 1 ∨ w = 2 ∨ w = 3 := by omega
      rcases hw with rfl | rfl | rfl
      · exact nNm_sup _ _ _ x (nNm_sup _ _ _ x (by rw [h2]; exact nNm_has hx h1))
      · exact nNm_sup _ _ _ x (by rw [h2]; exact nNm_has hx h1)
      · rw [h2]; exact nNm_has hx h1
theorem Nms_s {p : Pg} {i x : Nat} (hx : x < 64) : tb (Nms p (i + 1)) x = true ↔ tb (Nms p i) x = true ∨ ocR (p i) x := by
  show tb (rNm (Nms p i) (p i 0) (p i 1) (p i 2) (p i 3)) x = true ↔ _
  exact rNm_iff hx
theorem Nms_put {s : WS} {a b c d : Int32} {x : Nat} (hx : x < 64) : tb (Nms (putS s a b c d).1 (putS s a b c d).2.1) x = true ↔ tb (Nms s.1 s.2.1) x = true ∨ ocR (rv4 a b c d) x := by
  have e : Nms (pX s.1 s.2.1 a b c d) s.2.1 = Nms s.1 s.2.1 := (derived_congr s.2.1 (fun i hi => pX_lt hi)).2.1
  show tb (Nms (pX s.1 s.2.1 a b c d) (s.2.1 + 1)) x = true ↔ _
  rw [Nms_s hx, e]
  have e2 : pX s.1 s.2.1 a b c d s.2.1 = (rv4 a b c d) := by
    funext w
    unfold pX rv4
    refine (if_pos rfl).trans ?_
    rcases w with _ | _ | _ | w <;> rfl
  rw [e2]
theorem oc_slot {k f s : Int32} {x y : Nat} (hk : k = 7 ∨ k = 8) (hf : f = nI y) (hy : y < 64) (hx : x < 64) : ocR (rv4 k f s (-6)) x ↔ x = y := by
  constructor
  · rintro ⟨w, w1, w2, h1, h2⟩
    have hw : w = 1 ∨ w = 2 ∨ w = 3 := by omega
    rcases hw with rfl | rfl | rfl
    · have h3 : f = nI x := h2
      rw [hf] at h3
      exact ((nI_eq (by omega) (by omega)).mp h3).symm
    · exfalso
      rcases hk with rfl | rfl
      · exact absurd h1 (show ¬ (shp 7 (nI 2) = 114 ∨ shp 7 (nI 2) = 119) by decide)
      · exact absurd h1 (show ¬ (shp 8 (nI 2) = 114 ∨ shp 8 (nI 2) = 119) by decide)
    · exfalso
      rcases hk with rfl | rfl
      · exact absurd h1 (show ¬ (shp 7 (nI 3) = 114 ∨ shp 7 (nI 3) = 119) by decide)
      · exact absurd h1 (show ¬ (shp 8 (nI 3) = 114 ∨ shp 8 (nI 3) = 119) by decide)
  · rintro rfl
    refine ⟨1, by omega, by omega, ?_, hf⟩
    rcases hk with rfl | rfl
    · exact Or.inr (show shp 7 (nI 1) = 119 by decide)
    · exact Or.inl (show shp 8 (nI 1) = 114 by decide)
