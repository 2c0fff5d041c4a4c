/-! THE ROUNDS as mathematics: one after another -/
def isS (k w : Nat) (p : Pg) (n x : Nat) : Bool := tb (Nms p n) x && tb (spS k w p n) (ndA k w p n x)
def slA (k w : Nat) (p : Pg) (n sl x : Nat) : Int32 := if isS k w p n x = true then nI (sl + cntF (tb (spS k w p n)) (ndA k w p n x)) else -6
def wrA (k w : Nat) (p : Pg) (n sl nw : Nat) : WS := rwA (slA k w p n sl) p n (fun _ _ => 0, 0, nw)
def okB (s : WS) : Bool := decide (s.2.1 ≤ 90) && decide (s.2.2 ≤ 48)
theorem okB_iff {s : WS} : okB s = true ↔ okS s := by
  unfold okB okS
  rw [Bool.and_eq_true, decide_eq_true_eq, decide_eq_true_eq]
abbrev AS : Type := Pg × Nat × Nat × Nat × (Nat → Int32) × (Nat → Int32)
def sP (s : AS) : Pg := s.1
def sN (s : AS) : Nat := s.2.1
def sL (s : AS) : Nat := s.2.2.1
def sW (s : AS) : Nat := s.2.2.2.1
def sO (s : AS) : Nat → Int32 := s.2.2.2.2.1
def sC (s : AS) : Nat → Int32 := s.2.2.2.2.2
def wrS (k w : Nat) (s : AS) : WS := wrA k w (sP s) (sN s) (sL s) (sW s)
def sdS (k w : Nat) (s : AS) (x : Nat) : Bool := isS k w (sP s) (sN s) x
def nextA (k w : Nat) (s : AS) : AS := ((wrS k w s).1, (wrS k w s).2.1, sL s + cntF (tb (spS k w (sP s) (sN s))) 64, (wrS k w s).2.2, (fun x => if sdS k w s x = true then slA k w (sP s) (sN s) (sL s) x else sO s x), fun x => if (decide (4 ≤ x) && sdS k w s x) = true then 10 + slA k w (sP s) (sN s) (sL s) x else sC s x)
def goA (k w : Nat) : Nat → Nat → AS → Option (Nat × AS)
  | 0, _, _ => none
  | f + 1, r, s => if spS k w (sP s) (sN s) = 0 then some (r + 1, s) else if okB (wrS k w s) = true then goA k w f (r + 1) (nextA k w s) else none
def bgA (p : Pg) (n : Nat) : AS := (p, n, 0, 0, fun _ => -6, fun _ => -6)
/-- what holds at the beginning of each round -/
def IA (p0 : Pg) (n0 : Nat) (s : AS) : Prop :=
  WfB (16 + sW s) (sP s) (sN s) ∧ sN s ≤ 90 ∧ sW s ≤ 48 ∧ sL s ≤ sW s ∧
  (∀ x, x < 64 → (tb (Nms (sP s) (sN s)) x = true ∨ 16 + sW s ≤ x) → sO s x = -6) ∧
  (∀ x, 4 ≤ x → x < 16 → (tb (Nms p0 n0) x = false ∧ tb (Nms (sP s) (sN s)) x = false ∧ sC s x = -6) ∨ (tb (Nms p0 n0) x = true ∧ tb (Nms (sP s) (sN s)) x = true) ∨ (tb (Nms p0 n0) x = true ∧ tb (Nms (sP s) (sN s)) x = false ∧ ∃ y, y < 64 ∧ sO s x = nI y ∧ sC s x = nI (10 + y)))
theorem WfB_named {B : Nat} {p : Pg} {n x : Nat} (h : WfB B p n) (hx : x < 64) (hn : tb (Nms p n) x = true) : x < B := by
  obtain ⟨i, w, i1, w1, w2, e⟩ := Nms_inv hx n hn
  obtain ⟨s1, s2⟩ := nmP_inv hx e
  obtain ⟨y, y1, y2, y3⟩ := RWf_name (h i i1) w1 w2 s1
  rw [s2] at y3
  have := (nI_eq (by omega) (by omega)).mp y3
  omega
theorem cntF_grow {f : Nat → Bool} {m : Nat} : ∀ r, cntF f m ≤ cntF f (m + r)
  | 0 => Nat.le_refl _
  | r + 1 => by
    rw [← Nat.add_assoc, cntF]
    have := cntF_grow (f := f) (m := m) r
    omega
theorem cntF_lt {f : Nat → Bool} {y n : Nat} (hy : f y = true) (h : y < n) : cntF f y + 1 ≤ cntF f n := by
  have := cntF_grow (f := f) (m := y + 1) (n - (y + 1))
  rw [show y + 1 + (n - (y + 1)) = n by omega, cntF, if_pos hy] at this
  exact this
theorem rw_IW {nw0 n B : Nat} {T : Nat → Prop} {sf : Nat → Int32} {p : Pg} {s : WS} (h : IW nw0 T s) (hr : WfB B p n) (hB : B ≤ 16 + nw0) (hsf : ∀ x, x < 64 → ¬ sf x < 0 → ∃ y, y < 64 ∧ sf x = nI y) (hT : ∀ x, x < 64 → tb (Nms p n) x = true → sf x < 0 → T x) (hok : (rwA sf p n s).2.2 ≤ 48) : ∀ i, i ≤ n → IW nw0 T (rwA sf p i s)
  | 0, _ => h
  | i + 1, hi => by
    refine IW_row (rw_IW h hr hB hsf hT hok i (by omega)) (hr i (by omega)) hB hsf (fun x hx ho => hT x hx ?_) ?_
    · have := Nms_mono p (i + 1) (n - (i + 1))
      rw [show i + 1 + (n - (i + 1)) = n by omega] at this
      exact this x ((Nms_s hx).mpr (Or.inr ho))
    · have := (le_rw sf p s (i + 1) (n - (i + 1))).2
      rw [show i + 1 + (n - (i + 1)) = n by omega] at this
      exact Nat.le_trans this hok
theorem rw_keep {B n : Nat} {sf : Nat → Int32} {p : Pg} {s : WS} {x : Nat} (hr : WfB B p n) (hx : x < 64) (hs : sf x < 0) : ∀ i, i ≤ n → tb (Nms p i) x = true → tb (Nms (rwA sf p i s).1 (rwA sf p i s).2.1) x = true
  | 0, _, h => by rw [Nms, tb_0] at h; cases h
  | i + 1, hi, h => by
    refine Nm_row (hr i (by omega)) hx ?_
    rcases (Nms_s hx).mp h with z | z
    · exact Or.inl (rw_keep hr hx hs i (by omega) z)
    · exact Or.inr ⟨z, hs⟩
theorem rw_cnt {B n : Nat} {sf : Nat → Int32} {p : Pg} {s : WS} {sp : Nat → Bool} (hr : WfB B p n) (hs : ∀ x, x < 64 → sp x = true → ¬ sf x < 0) : ∀ i, i ≤ n → cntF (fun x => tb (Nms p i) x && sp x) 64 + s.2.2 ≤ (rwA sf p i s).2.2
  | 0, _ => by
    have := cntF_mono (f := fun _ => false) (g := fun x => tb (Nms p 0) x && sp x) (n := 64) (fun j hj h => by rw [Nms, tb_0] at h; cases h)
    have e : ∀ m, cntF (fun _ => false) m = 0 := fun m => by
      induction m with
      | zero => rfl
      | succ m ih => rw [cntF, ih]; rfl
    rw [e] at this
    show _ ≤ s.2.2
    omega
  | i + 1, hi => by
    have a := rw_cnt hr hs i (by omega) (s := s)
    have b := cnt_row (sf := sf) (s := rwA sf p i s) (hr i (by omega)) hs
    show _ ≤ (rowS sf p i (rwA sf p i s)).2.2
    omega
/-- a slot is one of the sixty-four -/
theorem sl_facts {k w : Nat} {p : Pg} {n sl nw : Nat} (hk : k ≤ 4) (hw : WfB (16 + nw) p n) (hn : n ≤ 90) (hsl : sl ≤ nw) (hnw : nw ≤ 48) (hok : (wrA k w p n sl nw).2.2 ≤ 48) : sl + cntF (tb (spS k w p n)) 64 ≤ (wrA k w p n sl nw).2.2 ∧ ∀ x, x < 64 → isS k w p n x = true → ∃ y, y < 48 ∧ slA k w p n sl x = nI y := by
  obtain ⟨f0, f1, f2, f3, f4, f5, f6, f7, f8, f9⟩ := round_facts (w := w) hk hn hw
  have pos : ∀ x, isS k w p n x = true → ¬ slA k w p n sl x < 0 := fun x hx => by
    rw [slA, if_pos hx]
    have := cntF_le (tb (spS k w p n)) (ndA k w p n x)
    have h2 : ndA k w p n x < 64 := Decidable.byContradiction (fun z => by
      rw [isS, Bool.and_eq_true] at hx
      have q := hx.2
      rw [tb_big (show 64 ≤ ndA k w p n x by omega)] at q
      cases q)
    exact nI_pos (by omega)
  have hS : ∀ x, x < 64 → tb (spS k w p n) x = true → isS k w p n x = true := fun x hx h => by
    obtain ⟨-, g2, g3, -⟩ := (f7 x hx).mp h
    rw [isS, g2, g3, h]; rfl
  have c1 := rw_cnt (sf := slA k w p n sl) (s := (fun _ _ => 0, 0, nw)) (sp := tb (spS k w p n)) hw (fun x hx h => pos x (hS x hx h)) n (Nat.le_refl _)
  have c2 : cntF (fun x => tb (Nms p n) x && tb (spS k w p n) x) 64 = cntF (tb (spS k w p n)) 64 := cntF_congr (fun j hj => by
    by_cases c : tb (spS k w p n) j = true
    · rw [c, ((f7 j hj).mp c).2.1]; rfl
    · rw [Bool.eq_false_iff.mpr c, Bool.and_false])
  rw [c2] at c1
  have c3 : cntF (tb (spS k w p n)) 64 + nw ≤ (wrA k w p n sl nw).2.2 := c1
  refine ⟨by omega, fun x hx h => ?_⟩
  rw [slA, if_pos h]
  rw [isS, Bool.and_eq_true] at h
  have := cntF_lt h.2 (f1 x hx)
  exact ⟨_, by omega, rfl⟩
theorem IA_next {k w : Nat} {p0 : Pg} {n0 : Nat} {s : AS} (hk : k ≤ 4) (h : IA p0 n0 s) (hok : okS (wrS k w s)) : IA p0 n0 (nextA k w s) := by
  obtain ⟨h1, h2, h3, h4, h5, h6⟩ := h
  have hok2 : (wrA k w (sP s) (sN s) (sL s) (sW s)).2.2 ≤ 48 := hok.2
  obtain ⟨g1, g2⟩ := sl_facts (w := w) hk h1 h2 h4 h3 hok2
  have eO : ∀ x, sO (nextA k w s) x = if sdS k w s x = true then slA k w (sP s) (sN s) (sL s) x else sO s x := fun _ => rfl
  have eC : ∀ x, sC (nextA k w s) x = if (decide (4 ≤ x) && sdS k w s x) = true then 10 + slA k w (sP s) (sN s) (sL s) x else sC s x := fun _ => rfl
  have eP : sP (nextA k w s) = (wrA k w (sP s) (sN s) (sL s) (sW s)).1 := rfl
  have eN : sN (nextA k w s) = (wrA k w (sP s) (sN s) (sL s) (sW s)).2.1 := rfl
  have eW : sW (nextA k w s) = (wrA k w (sP s) (sN s) (sL s) (sW s)).2.2 := rfl
  have eL : sL (nextA k w s) = sL s + cntF (tb (spS k w (sP s) (sN s))) 64 := rfl
  have ed : ∀ x, sdS k w s x = isS k w (sP s) (sN s) x := fun _ => rfl
  have sneg : ∀ x, ¬ isS k w (sP s) (sN s) x = true → slA k w (sP s) (sN s) (sL s) x = -6 := fun x hx => by rw [slA, if_neg hx]
  have hsf : ∀ x, x < 64 → ¬ slA k w (sP s) (sN s) (sL s) x < 0 → ∃ y, y < 64 ∧ slA k w (sP s) (sN s) (sL s) x = nI y := fun x hx hn => by
    by_cases c : isS k w (sP s) (sN s) x = true
    · obtain ⟨y, y1, y2⟩ := g2 x hx c
      exact ⟨y, by omega, y2⟩
    · rw [sneg x c] at hn; exact absurd (by decide) hn
  have iw := rw_IW (nw0 := sW s) (T := fun x => tb (Nms (sP s) (sN s)) x = true ∧ ¬ isS k w (sP s) (sN s) x = true) (sf := slA k w (sP s) (sN s) (sL s)) (s := (fun _ _ => 0, 0, sW s)) ⟨fun i hi => absurd hi (Nat.not_lt_zero i), fun x _ hx => (by have hx' : tb (0 : Int64) x = true := hx; rw [tb_0] at hx'; cases hx'), Nat.le_refl _⟩ h1 (Nat.le_refl _) hsf (fun x hx hn hs => ⟨hn, fun c => by
    obtain ⟨y, y1, y2⟩ := g2 x hx c
    rw [y2] at hs
    exact nI_pos (n := y) (by omega) hs⟩) hok2 (sN s) (Nat.le_refl _)
  have kp := fun x hx hs => rw_keep (sf := slA k w (sP s) (sN s) (sL s)) (s := (fun _ _ => 0, 0, sW s)) (x := x) h1 hx hs (sN s) (Nat.le_refl _)
  obtain ⟨w1, w2, w3⟩ := iw
  have w2' : ∀ x, x < 64 → tb (Nms (sP (nextA k w s)) (sN (nextA k w s))) x = true → 16 + sW s ≤ x ∨ (tb (Nms (sP s) (sN s)) x = true ∧ ¬ isS k w (sP s) (sN s) x = true) := w2
  have w3' : sW s ≤ sW (nextA k w s) := w3
  have unn : ∀ x, x < 64 → 16 + sW s ≤ x → ¬ isS k w (sP s) (sN s) x = true := fun x hx hb hc => by
    rw [isS, Bool.and_eq_true] at hc
    have := WfB_named h1 hx hc.1
    omega
  refine ⟨w1, hok.1, hok2, by rw [eL, eW]; exact g1, fun x hx hc => ?_, fun x x4 x16 => ?_⟩
  · rw [eO, ed]
    rcases hc with hc | hc
    · rcases w2' x hx hc with q | ⟨q1, q2⟩
      · rw [if_neg (unn x hx q)]; exact h5 x hx (Or.inr q)
      · rw [if_neg q2]; exact h5 x hx (Or.inl q1)
    · rw [if_neg (unn x hx (by omega))]; exact h5 x hx (Or.inr (by omega))
  · have hx : x < 64 := by omega
    have dd : decide (4 ≤ x) = true := decide_eq_true x4
    rw [eO, eC, ed, dd, Bool.true_and]
    have nn : tb (Nms (sP s) (sN s)) x = false → tb (Nms (sP (nextA k w s)) (sN (nextA k w s))) x = false ∧ ¬ isS k w (sP s) (sN s) x = true := fun z => by
      refine ⟨Bool.eq_false_iff.mpr (fun q => ?_), fun q => ?_⟩
      · rcases w2' x hx q with q | ⟨q, -⟩
        · omega
        · rw [z] at q; cases q
      · rw [isS, z] at q; cases q
    rcases h6 x x4 x16 with ⟨q1, q2, q3⟩ | ⟨q1, q2⟩ | ⟨q1, q2, q3⟩
    · obtain ⟨r1, r2⟩ := nn q2
      rw [if_neg r2, if_neg r2]
      exact Or.inl ⟨q1, r1, q3⟩
    · by_cases c : isS k w (sP s) (sN s) x = true
      · rw [if_pos c, if_pos c]
        obtain ⟨y, y1, y2⟩ := g2 x hx c
        refine Or.inr (Or.inr ⟨q1, Bool.eq_false_iff.mpr (fun q => ?_), y, by omega, y2, ?_⟩)
        · rcases w2' x hx q with q | ⟨-, q⟩
          · omega
          · exact q c
        · rw [y2]; exact nI_add 10 y
      · rw [if_neg c, if_neg c]
        have hneg : slA k w (sP s) (sN s) (sL s) x < 0 := by rw [sneg x c]; decide
        exact Or.inr (Or.inl ⟨q1, kp x hx hneg q2⟩)
    · obtain ⟨r1, r2⟩ := nn q2
      rw [if_neg r2, if_neg r2]
      exact Or.inr (Or.inr ⟨q1, r1, q3⟩)
theorem IA_go {k w : Nat} {p0 : Pg} {n0 : Nat} (hk : k ≤ 4) : ∀ f r s r' s', IA p0 n0 s → goA k w f r s = some (r', s') → IA p0 n0 s' ∧ spS k w (sP s') (sN s') = 0
  | 0, r, s, r', s', _, e => by cases e
  | f + 1, r, s, r', s', h, e => by
    rw [goA] at e
    by_cases c : spS k w (sP s) (sN s) = 0
    · rw [if_pos c] at e
      cases e
      exact ⟨h, c⟩
    · rw [if_neg c] at e
      by_cases d : okB (wrS k w s) = true
      · rw [if_pos d] at e
        exact IA_go hk f _ _ _ _ (IA_next hk h (okB_iff.mp d)) e
      · rw [if_neg d] at e; cases e
theorem IA_beg {p : Pg} {n : Nat} (h : WfB 16 p n) (hn : n ≤ 90) : IA p n (bgA p n) := by
  refine ⟨h, hn, by show 0 ≤ 48; omega, Nat.le_refl _, fun _ _ _ => rfl, fun x _ _ => ?_⟩
  by_cases c : tb (Nms p n) x = true
  · exact Or.inr (Or.inl ⟨c, c⟩)
  · exact Or.inl ⟨Bool.eq_false_iff.mpr c, Bool.eq_false_iff.mpr c, rfl⟩
