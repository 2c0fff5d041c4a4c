/-! rewriting: forms, names, and how many are new -/
theorem RWf_ch {B B' : Nat} {u v : Nat → Int32} (h : RWf B u) (hB : B ≤ B') (h0 : v 0 = u 0) (hw : ∀ w, 1 ≤ w → w < 4 → v w = u w ∨ ((shp (u 0) (nI w) = 114 ∨ shp (u 0) (nI w) = 119) ∧ ∃ f, v w = nI f ∧ f < B' ∧ f < 64)) : RWf B' v := by
  obtain ⟨k, h1, h2, h3⟩ := h
  refine ⟨k, h1, h0.trans h2, fun w w1 w2 => ?_⟩
  rw [h2] at hw
  rcases hw w w1 w2 with e | ⟨s, f, e, f1, f2⟩
  · rw [e]
    rcases h3 w w1 w2 with q | ⟨q1, x, q2, q3, q4, q5⟩
    · exact Or.inl q
    · exact Or.inr ⟨q1, x, q2, q3, q4, fun z => by have := q5 z; omega⟩
  · refine Or.inr ⟨fun z => ?_, f, f2, e, fun z => ?_, fun _ => f1⟩
    · rw [z] at s; exact absurd s (by decide)
    · rw [z] at s; exact absurd s (by decide)
theorem RWf_name {B : Nat} {u : Nat → Int32} (h : RWf B u) {w : Nat} (w1 : 1 ≤ w) (w2 : w < 4) (s : shp (u 0) (nI w) = 114 ∨ shp (u 0) (nI w) = 119) : ∃ x, x < 64 ∧ x < B ∧ u w = nI x := by
  obtain ⟨k, h1, h2, h3⟩ := h
  rw [h2] at s
  rcases h3 w w1 w2 with ⟨q, -⟩ | ⟨q1, x, q2, q3, q4, q5⟩
  · rw [q] at s; exact absurd s (by decide)
  · exact ⟨x, q2, q5 (fun z => by rw [z] at s; exact absurd s (by decide)), q3⟩
theorem RWf_119 {B : Nat} {u : Nat → Int32} (h : RWf B u) {w : Nat} (w2 : w < 4) (s : shp (u 0) (nI w) = 119) : w = 1 := by
  obtain ⟨k, h1, h2, -⟩ := h
  rw [h2] at s
  rcases shp_9 k h1 w w2 with q | q | q | q
  · rw [q] at s; exact absurd s (by decide)
  · rw [q] at s; exact absurd s (by decide)
  · rw [q] at s; exact absurd s (by decide)
  · exact q.2
/-- the last row's parts -/
def rowV (sf : Nat → Int32) (p : Pg) (i : Nat) (s : WS) (w : Nat) : Int32 :=
  match w with
  | 0 => p i 0
  | 1 => if stC sf p i = true then frS (rdN sf p i s 3) else rdV sf p i 1 s
  | 2 => rdV sf p i 2 (rdN sf p i s 1)
  | _ => rdV sf p i 3 (rdN sf p i s 2)
theorem rowS_is (sf : Nat → Int32) (p : Pg) (i : Nat) (s : WS) : rowS sf p i s = if stC sf p i = true then putS (putS (newS (rdN sf p i s 3)) (p i 0) (rowV sf p i s 1) (rowV sf p i s 2) (rowV sf p i s 3)) 8 (frS (rdN sf p i s 3)) (slV sf (p i 1)) (-6) else putS (rdN sf p i s 3) (p i 0) (rowV sf p i s 1) (rowV sf p i s 2) (rowV sf p i s 3) := by
  unfold rowS
  by_cases c : stC sf p i = true
  · rw [if_pos c, if_pos c]
    show _ = putS (putS _ _ (if stC sf p i = true then frS (rdN sf p i s 3) else rdV sf p i 1 s) _ _) _ _ _ _
    rw [if_pos c]; rfl
  · rw [if_neg c, if_neg c]
    show _ = putS _ _ (if stC sf p i = true then frS (rdN sf p i s 3) else rdV sf p i 1 s) _ _
    rw [if_neg c]; rfl
theorem rd_nw (sf : Nat → Int32) (p : Pg) (i w : Nat) (s : WS) : (rdS sf p i w s).2.2 = s.2.2 + (if rdC sf p i w = true then 1 else 0) := by
  unfold rdS
  split <;> rfl
theorem row_nw (sf : Nat → Int32) (p : Pg) (i : Nat) (s : WS) : (rowS sf p i s).2.2 = s.2.2 + (if rdC sf p i 1 = true then 1 else 0) + (if rdC sf p i 2 = true then 1 else 0) + (if rdC sf p i 3 = true then 1 else 0) + (if stC sf p i = true then 1 else 0) := by
  have e : (rdN sf p i s 3).2.2 = s.2.2 + (if rdC sf p i 1 = true then 1 else 0) + (if rdC sf p i 2 = true then 1 else 0) + (if rdC sf p i 3 = true then 1 else 0) := by
    show (rdS sf p i 3 (rdS sf p i 2 (rdS sf p i 1 s))).2.2 = _
    rw [rd_nw, rd_nw, rd_nw]
  rw [← e]
  unfold rowS
  split <;> rfl
theorem rdC_iff {sf : Nat → Int32} {p : Pg} {i w : Nat} : rdC sf p i w = true ↔ shp (p i 0) (nI w) = 114 ∧ ¬ slV sf (p i w) < 0 := by
  unfold rdC
  rw [Bool.and_eq_true, decide_eq_true_eq, Bool.not_eq_true', decide_eq_false_iff_not]
theorem stC_iff {sf : Nat → Int32} {p : Pg} {i : Nat} : stC sf p i = true ↔ shp (p i 0) (nI 1) = 119 ∧ ¬ slV sf (p i 1) < 0 := by
  unfold stC
  rw [Bool.and_eq_true, decide_eq_true_eq, Bool.not_eq_true', decide_eq_false_iff_not]
  exact Iff.rfl
theorem rowV_is {B : Nat} {sf : Nat → Int32} {p : Pg} {i : Nat} {s : WS} (h : RWf B (p i)) {w : Nat} (w1 : 1 ≤ w) (w2 : w < 4) :
    (rowV sf p i s w = p i w ∧ ((shp (p i 0) (nI w) = 114 ∨ shp (p i 0) (nI w) = 119) → slV sf (p i w) < 0)) ∨
    ((shp (p i 0) (nI w) = 114 ∨ shp (p i 0) (nI w) = 119) ∧ ¬ slV sf (p i w) < 0 ∧ ∃ f, rowV sf p i s w = nI (16 + f) ∧ s.2.2 ≤ f ∧ f < (rowS sf p i s).2.2) := by
  have l1 := le_rdN sf p i s 1
  have l2 := le_rdN sf p i s 2
  have l3 := le_rdN sf p i s 3
  have e1 : (rdN sf p i s 1).2.2 = s.2.2 + (if rdC sf p i 1 = true then 1 else 0) := rd_nw _ _ _ _ _
  have e2 : (rdN sf p i s 2).2.2 = s.2.2 + (if rdC sf p i 1 = true then 1 else 0) + (if rdC sf p i 2 = true then 1 else 0) := by
    show (rdS sf p i 2 (rdS sf p i 1 s)).2.2 = _
    rw [rd_nw, rd_nw]
  have e3 : (rdN sf p i s 3).2.2 = s.2.2 + (if rdC sf p i 1 = true then 1 else 0) + (if rdC sf p i 2 = true then 1 else 0) + (if rdC sf p i 3 = true then 1 else 0) := by
    show (rdS sf p i 3 (rdS sf p i 2 (rdS sf p i 1 s))).2.2 = _
    rw [rd_nw, rd_nw, rd_nw]
  have en := row_nw sf p i s
  have hw : w = 1 ∨ w = 2 ∨ w = 3 := by omega
  rcases hw with rfl | rfl | rfl
  · by_cases c : stC sf p i = true
    · obtain ⟨c1, c2⟩ := stC_iff.mp c
      refine Or.inr ⟨Or.inr c1, c2, (rdN sf p i s 3).2.2, ?_, l3.2, ?_⟩
      · show (if stC sf p i = true then frS (rdN sf p i s 3) else rdV sf p i 1 s) = _
        rw [if_pos c]; rfl
      · rw [en, if_pos c, e3]; omega
    · have ev : rowV sf p i s 1 = rdV sf p i 1 s := by
        show (if stC sf p i = true then frS (rdN sf p i s 3) else rdV sf p i 1 s) = _
        rw [if_neg c]
      rw [ev]
      by_cases d : rdC sf p i 1 = true
      · obtain ⟨d1, d2⟩ := rdC_iff.mp d
        refine Or.inr ⟨Or.inl d1, d2, s.2.2, ?_, Nat.le_refl _, ?_⟩
        · rw [rdV, if_pos d]; rfl
        · rw [en, if_pos d]; omega
      · refine Or.inl ⟨by rw [rdV, if_neg d], fun z => Decidable.byContradiction (fun q => ?_)⟩
        rcases z with z | z
        · exact d (rdC_iff.mpr ⟨z, q⟩)
        · exact c (stC_iff.mpr ⟨z, q⟩)
  · by_cases d : rdC sf p i 2 = true
    · obtain ⟨d1, d2⟩ := rdC_iff.mp d
      refine Or.inr ⟨Or.inl d1, d2, (rdN sf p i s 1).2.2, ?_, l1.2, ?_⟩
      · show rdV sf p i 2 (rdN sf p i s 1) = _
        rw [rdV, if_pos d]; rfl
      · rw [en, e1, if_pos d]; omega
    · refine Or.inl ⟨by show rdV sf p i 2 (rdN sf p i s 1) = _; rw [rdV, if_neg d], fun z => Decidable.byContradiction (fun q => ?_)⟩
      rcases z with z | z
      · exact d (rdC_iff.mpr ⟨z, q⟩)
      · have := RWf_119 h (by omega) z; omega
  · by_cases d : rdC sf p i 3 = true
    · obtain ⟨d1, d2⟩ := rdC_iff.mp d
      refine Or.inr ⟨Or.inl d1, d2, (rdN sf p i s 2).2.2, ?_, l2.2, ?_⟩
      · show rdV sf p i 3 (rdN sf p i s 2) = _
        rw [rdV, if_pos d]; rfl
      · rw [en, e2, if_pos d]; omega
    · refine Or.inl ⟨by show rdV sf p i 3 (rdN sf p i s 2) = _; rw [rdV, if_neg d], fun z => Decidable.byContradiction (fun q => ?_)⟩
      rcases z with z | z
      · exact d (rdC_iff.mpr ⟨z, q⟩)
      · have := RWf_119 h (by omega) z; omega
theorem slV_n (sf : Nat → Int32) {x : Nat} (hx : x < 64) : slV sf (nI x) = sf x := by
  unfold slV
  rw [nI_clamp (by omega)]
/-- what has been written -/
def IW (nw0 : Nat) (T : Nat → Prop) (s : WS) : Prop := WfB (16 + s.2.2) s.1 s.2.1 ∧ (∀ x, x < 64 → tb (Nms s.1 s.2.1) x = true → 16 + nw0 ≤ x ∨ T x) ∧ nw0 ≤ s.2.2
theorem IW_new {nw0 : Nat} {T : Nat → Prop} {s : WS} (h : IW nw0 T s) : IW nw0 T (newS s) :=
  ⟨fun i hi => RWf_mono (h.1 i hi) (by show 16 + s.2.2 ≤ 16 + (s.2.2 + 1); omega), h.2.1, Nat.le_succ_of_le h.2.2⟩
theorem IW_put {nw0 : Nat} {T : Nat → Prop} {s : WS} {a b c d : Int32} (h : IW nw0 T s) (hv : ∀ v : Nat → Int32, v 0 = a → v 1 = b → v 2 = c → v 3 = d → RWf (16 + s.2.2) v) (ho : ∀ x, x < 64 → ocR (rv4 a b c d) x → 16 + nw0 ≤ x ∨ T x) : IW nw0 T (putS s a b c d) :=
  ⟨WfB_put h.1 (Nat.le_refl _) hv, fun x hx hn => ((Nms_put hx).mp hn).elim (h.2.1 x hx) (ho x hx), h.2.2⟩
theorem IW_slot {nw0 : Nat} {T : Nat → Prop} {s : WS} (h : IW nw0 T s) {k : Int32} {f y : Nat} (hk : k = 7 ∨ k = 8) (hf : nw0 ≤ f) (hf2 : f < s.2.2) (hf3 : f < 48) (hy : y < 64) : IW nw0 T (putS s k (nI (16 + f)) (nI y) (-6)) :=
  IW_put h (fun v v0 v1 v2 v3 => RWf_slot hk (by omega) (by omega) hy v v0 v1 v2 v3) (fun x hx ho => by
    have := (oc_slot hk rfl (show 16 + f < 64 by omega) hx).mp ho
    omega)
theorem IW_rd {nw0 B : Nat} {T : Nat → Prop} {sf : Nat → Int32} {p : Pg} {i w : Nat} {s : WS} (h : IW nw0 T s) (hr : RWf B (p i)) (hsf : ∀ x, x < 64 → ¬ sf x < 0 → ∃ y, y < 64 ∧ sf x = nI y) (w1 : 1 ≤ w) (w2 : w < 4) (hok : (rdS sf p i w s).2.2 ≤ 48) : IW nw0 T (rdS sf p i w s) := by
  unfold rdS at hok ⊢
  by_cases c : rdC sf p i w = true
  · rw [if_pos c] at hok ⊢
    obtain ⟨c1, c2⟩ := rdC_iff.mp c
    obtain ⟨x, x1, -, x2⟩ := RWf_name hr w1 w2 (Or.inl c1)
    rw [x2, slV_n sf x1] at c2
    obtain ⟨y, y1, y2⟩ := hsf x x1 c2
    rw [x2, slV_n sf x1, y2]
    have hok' : s.2.2 + 1 ≤ 48 := hok
    exact IW_slot (IW_new h) (Or.inl rfl) h.2.2 (show s.2.2 < s.2.2 + 1 by omega) (by omega) y1
  · rw [if_neg c]; exact h
theorem IW_row {nw0 B : Nat} {T : Nat → Prop} {sf : Nat → Int32} {p : Pg} {i : Nat} {s : WS} (h : IW nw0 T s) (hr : RWf B (p i)) (hB : B ≤ 16 + nw0) (hsf : ∀ x, x < 64 → ¬ sf x < 0 → ∃ y, y < 64 ∧ sf x = nI y) (hT : ∀ x, x < 64 → ocR (p i) x → sf x < 0 → T x) (hok : (rowS sf p i s).2.2 ≤ 48) : IW nw0 T (rowS sf p i s) := by
  have en := row_nw sf p i s
  have h0 := h.2.2
  have l3 := (le_row sf p i s).2
  have e1 : (rdN sf p i s 1).2.2 = s.2.2 + (if rdC sf p i 1 = true then 1 else 0) := rd_nw _ _ _ _ _
  have e2 : (rdN sf p i s 2).2.2 = s.2.2 + (if rdC sf p i 1 = true then 1 else 0) + (if rdC sf p i 2 = true then 1 else 0) := by
    show (rdS sf p i 2 (rdS sf p i 1 s)).2.2 = _
    rw [rd_nw, rd_nw]
  have e3 : (rdN sf p i s 3).2.2 = s.2.2 + (if rdC sf p i 1 = true then 1 else 0) + (if rdC sf p i 2 = true then 1 else 0) + (if rdC sf p i 3 = true then 1 else 0) := by
    show (rdS sf p i 3 (rdS sf p i 2 (rdS sf p i 1 s))).2.2 = _
    rw [rd_nw, rd_nw, rd_nw]
  have i1 : IW nw0 T (rdN sf p i s 1) := IW_rd (w := 1) h hr hsf (by omega) (by omega) (show (rdN sf p i s 1).2.2 ≤ 48 by omega)
  have i2 : IW nw0 T (rdN sf p i s 2) := IW_rd (w := 2) i1 hr hsf (by omega) (by omega) (show (rdN sf p i s 2).2.2 ≤ 48 by omega)
  have i3 : IW nw0 T (rdN sf p i s 3) := IW_rd (w := 3) i2 hr hsf (by omega) (by omega) (show (rdN sf p i s 3).2.2 ≤ 48 by omega)
  have rv := fun w (w1 : 1 ≤ w) (w2 : w < 4) => rowV_is (sf := sf) (s := s) hr w1 w2
  have wf : ∀ v : Nat → Int32, v 0 = p i 0 → v 1 = rowV sf p i s 1 → v 2 = rowV sf p i s 2 → v 3 = rowV sf p i s 3 → RWf (16 + (rowS sf p i s).2.2) v := by
    intro v v0 v1 v2 v3
    have hv : ∀ w, 1 ≤ w → w < 4 → v w = rowV sf p i s w := fun w w1 w2 => by
      have hw : w = 1 ∨ w = 2 ∨ w = 3 := by omega
      rcases hw with rfl | rfl | rfl <;> assumption
    refine RWf_ch hr (by omega) v0 (fun w w1 w2 => ?_)
    rw [hv w w1 w2]
    rcases rv w w1 w2 with q | ⟨q1, -, f, q2, q3, q4⟩
    · exact Or.inl q.1
    · exact Or.inr ⟨q1, 16 + f, q2, by omega, by omega⟩
  have oc : ∀ x, x < 64 → ocR (rv4 (p i 0) (rowV sf p i s 1) (rowV sf p i s 2) (rowV sf p i s 3)) x → 16 + nw0 ≤ x ∨ T x := by
    rintro x hx ⟨w, w1, w2, s1, s2⟩
    have s1' : shp (p i 0) (nI w) = 114 ∨ shp (p i 0) (nI w) = 119 := s1
    have s2' : rowV sf p i s w = nI x := by
      have hw : w = 1 ∨ w = 2 ∨ w = 3 := by omega
      rcases hw with rfl | rfl | rfl <;> exact s2
    rcases rv w w1 w2 with ⟨q1, q2⟩ | ⟨q1, -, f, q2, q3, q4⟩
    · have q3 := q2 s1'
      rw [s2'] at q1
      rw [← q1, slV_n sf hx] at q3
      exact Or.inr (hT x hx ⟨w, w1, w2, s1', q1.symm⟩ q3)
    · rw [s2'] at q2
      have := (nI_eq (by omega) (by omega)).mp q2
      exact Or.inl (by omega)
  rw [rowS_is]
  by_cases c : stC sf p i = true
  · rw [if_pos c] at en ⊢
    obtain ⟨c1, c2⟩ := stC_iff.mp c
    obtain ⟨x, x1, -, x2⟩ := RWf_name hr (show 1 ≤ 1 by omega) (by omega) (Or.inr c1)
    rw [x2, slV_n sf x1] at c2 ⊢
    obtain ⟨y, y1, y2⟩ := hsf x x1 c2
    rw [y2]
    have e4 : (rowS sf p i s).2.2 = (rdN sf p i s 3).2.2 + 1 := by omega
    refine IW_slot (IW_put (IW_new i3) (fun v v0 v1 v2 v3 => ?_) oc) (Or.inr rfl) i3.2.2 (show (rdN sf p i s 3).2.2 < (rdN sf p i s 3).2.2 + 1 by omega) (by omega) y1
    show RWf (16 + ((rdN sf p i s 3).2.2 + 1)) v
    rw [← e4]
    exact wf v v0 v1 v2 v3
  · rw [if_neg c] at en ⊢
    have e4 : (rowS sf p i s).2.2 = (rdN sf p i s 3).2.2 := by omega
    refine IW_put i3 (fun v v0 v1 v2 v3 => ?_) oc
    rw [← e4]
    exact wf v v0 v1 v2 v3
/-- who is not changed stays -/
theorem Nm_up {s : WS} {a b c d : Int32} {x : Nat} (hx : x < 64) (h : tb (Nms s.1 s.2.1) x = true) : tb (Nms (putS s a b c d).1 (putS s a b c d).2.1) x = true := (Nms_put hx).mpr (Or.inl h)
theorem Nm_rd {sf : Nat → Int32} {p : Pg} {i w : Nat} {s : WS} {x : Nat} (hx : x < 64) (h : tb (Nms s.1 s.2.1) x = true) : tb (Nms (rdS sf p i w s).1 (rdS sf p i w s).2.1) x = true := by
  unfold rdS
  split
  · exact Nm_up (s := newS s) hx h
  · exact h
theorem Nm_row {B : Nat} {sf : Nat → Int32} {p : Pg} {i : Nat} {s : WS} {x : Nat} (hr : RWf B (p i)) (hx : x < 64) (h : tb (Nms s.1 s.2.1) x = true ∨ (ocR (p i) x ∧ sf x < 0)) : tb (Nms (rowS sf p i s).1 (rowS sf p i s).2.1) x = true := by
  have key : tb (Nms (rdN sf p i s 3).1 (rdN sf p i s 3).2.1) x = true ∨ ocR (rv4 (p i 0) (rowV sf p i s 1) (rowV sf p i s 2) (rowV sf p i s 3)) x := by
    rcases h with h | ⟨⟨w, w1, w2, s1, s2⟩, h⟩
    · exact Or.inl (Nm_rd (i := i) (w := 3) (s := rdN sf p i s 2) hx (Nm_rd (i := i) (w := 2) (s := rdN sf p i s 1) hx (Nm_rd (i := i) (w := 1) (s := s) hx h)))
    · refine Or.inr ⟨w, w1, w2, s1, ?_⟩
      have e : rowV sf p i s w = nI x := by
        rcases rowV_is (sf := sf) (s := s) hr w1 w2 with ⟨q1, -⟩ | ⟨-, q2, -⟩
        · rw [q1, s2]
        · rw [s2, slV_n sf hx] at q2; exact absurd h q2
      have hw : w = 1 ∨ w = 2 ∨ w = 3 := by omega
      rcases hw with rfl | rfl | rfl <;> exact e
  rw [rowS_is]
  by_cases c : stC sf p i = true
  · rw [if_pos c]
    exact Nm_up hx ((Nms_put (s := newS (rdN sf p i s 3)) hx).mpr key)
  · rw [if_neg c]
    exact (Nms_put hx).mpr key
/-- how many are new -/
theorem cntF_add {f g : Nat → Bool} {y : Nat} : ∀ n, (∀ j, j < n → j ≠ y → g j = true → f j = true) → cntF g n ≤ cntF f n + 1
  | 0, _ => Nat.zero_le _
  | n + 1, h => by
    rw [cntF, cntF]
    by_cases e : n = y
    · have := cntF_mono (f := f) (g := g) (n := n) (fun j hj => h j (by omega) (by omega))
      split <;> split <;> omega
    · have := cntF_add (f := f) (g := g) (y := y) n (fun j hj => h j (by omega))
      by_cases c : g n = true
      · rw [if_pos c, if_pos (h n (by omega) e c)]; omega
      · rw [if_neg c]; split <;> omega
theorem cnt_nNm {N : Int64} {nm sh : Int32} {sp : Nat → Bool} {c : Nat} (hc : ∀ y, y < 64 → nm = nI y → (sh = 114 ∨ sh = 119) → sp y = true → 1 ≤ c) : cntF (fun x => tb (nNm N nm sh) x && sp x) 64 ≤ cntF (fun x => tb N x && sp x) 64 + c := by
  by_cases z : 1 ≤ c
  · rcases pk_ix nm (n := 64) (by decide) with q | q | ⟨u, hu, rfl⟩
    · have := cntF_mono (f := fun x => tb N x && sp x) (g := fun x => tb (nNm N nm sh) x && sp x) (n := 64) (fun j hj h => by
        rw [Bool.and_eq_true] at h ⊢
        refine ⟨?_, h.2⟩
        rcases nNm_inv hj h.1 with r | ⟨r, -⟩
        · exact r
        · rw [r] at q; exact absurd q (nI_pos (by omega)))
      omega
    · have := cntF_mono (f := fun x => tb N x && sp x) (g := fun x => tb (nNm N nm sh) x && sp x) (n := 64) (fun j hj h => by
        rw [Bool.and_eq_true] at h ⊢
        refine ⟨?_, h.2⟩
        rcases nNm_inv hj h.1 with r | ⟨r, -⟩
        · exact r
        · rw [r] at q; exact absurd q (show ¬ (64 : Int32) ≤ nI j from nI_ge (b := 64) hj (by decide)))
      omega
    · have := cntF_add (f := fun x => tb N x && sp x) (g := fun x => tb (nNm N (nI u) sh) x && sp x) (y := u) 64 (fun j hj hne h => by
        rw [Bool.and_eq_true] at h ⊢
        refine ⟨?_, h.2⟩
        rcases nNm_inv hj h.1 with r | ⟨r, -⟩
        · exact r
        · exact absurd ((nI_eq (by omega) (by omega)).mp r).symm hne)
      omega
  · have := cntF_mono (f := fun x => tb N x && sp x) (g := fun x => tb (nNm N nm sh) x && sp x) (n := 64) (fun j hj h => by
      rw [Bool.and_eq_true] at h ⊢
      refine ⟨?_, h.2⟩
      rcases nNm_inv hj h.1 with r | ⟨r, r2⟩
      · exact r
      · exact absurd (hc j hj r r2 h.2) z)
    omega
theorem cnt_row {B : Nat} {sf : Nat → Int32} {p : Pg} {i : Nat} {s : WS} {sp : Nat → Bool} (hr : RWf B (p i)) (hs : ∀ x, x < 64 → sp x = true → ¬ sf x < 0) : cntF (fun x => tb (Nms p (i + 1)) x && sp x) 64 + s.2.2 ≤ cntF (fun x => tb (Nms p i) x && sp x) 64 + (rowS sf p i s).2.2 := by
  rw [row_nw]
  have a1 := cnt_nNm (N := Nms p i) (nm := p i 1) (sh := shp (p i 0) (nI 1)) (sp := sp) (c := (if rdC sf p i 1 = true then 1 else 0) + (if stC sf p i = true then 1 else 0)) (fun y hy e z h => by
    rcases z with z | z
    · rw [if_pos (rdC_iff.mpr ⟨z, by rw [e, slV_n sf hy]; exact hs y hy h⟩)]; omega
    · rw [if_pos (stC_iff.mpr ⟨z, by rw [e, slV_n sf hy]; exact hs y hy h⟩)]; omega)
  have a2 := cnt_nNm (N := nNm (Nms p i) (p i 1) (shp (p i 0) (nI 1))) (nm := p i 2) (sh := shp (p i 0) (nI 2)) (sp := sp) (c := (if rdC sf p i 2 = true then 1 else 0)) (fun y hy e z h => by
    rcases z with z | z
    · rw [if_pos (rdC_iff.mpr ⟨z, by rw [e, slV_n sf hy]; exact hs y hy h⟩)]; omega
    · have := RWf_119 hr (by omega) z; omega)
  have a3 := cnt_nNm (N := nNm (nNm (Nms p i) (p i 1) (shp (p i 0) (nI 1))) (p i 2) (shp (p i 0) (nI 2))) (nm := p i 3) (sh := shp (p i 0) (nI 3)) (sp := sp) (c := (if rdC sf p i 3 = true then 1 else 0)) (fun y hy e z h => by
    rcases z with z | z
    · rw [if_pos (rdC_iff.mpr ⟨z, by rw [e, slV_n sf hy]; exact hs y hy h⟩)]; omega
    · have := RWf_119 hr (by omega) z; omega)
  have e : Nms p (i + 1) = nNm (nNm (nNm (Nms p i) (p i 1) (shp (p i 0) (nI 1))) (p i 2) (shp (p i 0) (nI 2))) (p i 3) (shp (p i 0) (nI 3)) := rfl
  rw [e]
  omega
