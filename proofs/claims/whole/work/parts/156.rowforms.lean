/-! the forms of rows; names and the top; who is needed is named -/
def RF (B : Nat) (p : Pg) (i k x y z : Nat) : Prop := k < 9 ∧ p i 0 = nI k ∧ p i 1 = nI x ∧ x < 64 ∧ (k ≠ 5 → x < B) ∧ (k = 5 → x < 10) ∧ (k = 4 ∨ k = 5 → p i 2 = -6) ∧ (¬ (k = 4 ∨ k = 5) → p i 2 = nI y ∧ y < 64) ∧ (k = 1 ∨ k = 2 ∨ k = 3 → y < B) ∧ (k = 0 ∨ k = 6 → y < 10) ∧ (k = 2 → p i 3 = nI z ∧ z < B ∧ z < 64) ∧ (k ≠ 2 → p i 3 = -6) ∧ Rd p i = (if k = 1 ∨ k = 3 then one (nI y) else if k = 2 then one (nI y) ||| one (nI z) else if k = 4 ∨ k = 6 ∨ k = 8 then one (nI x) else 0) ∧ Wr p i = (if k < 4 ∨ k = 7 then nI x else -6)
theorem nRd_r {x : Nat} (h : x < 64) (rd : Int64) : nRd rd (nI x) 114 = rd ||| one (nI x) := by
  unfold nRd
  rw [if_neg (nI_pos (by omega)), if_neg (show ¬ (64 : Int32) ≤ nI x from nI_ge (b := 64) h (by decide)), if_pos rfl]
theorem nRd_o {nm sh : Int32} (h : sh ≠ 114) (rd : Int64) : nRd rd nm sh = rd := by
  unfold nRd
  rw [if_neg h]
  simp
theorem nWr_w {x : Nat} (h : x < 64) (wr : Int32) : nWr wr (nI x) 119 = nI x := by
  unfold nWr
  rw [if_neg (nI_pos (by omega)), if_neg (show ¬ (64 : Int32) ≤ nI x from nI_ge (b := 64) h (by decide)), if_neg (by decide), if_pos rfl]
theorem nWr_o {nm sh : Int32} (h : sh ≠ 119) (wr : Int32) : nWr wr nm sh = wr := by
  unfold nWr
  rw [if_neg h]
  simp
theorem or0 (x : Int64) : (0 : Int64) ||| x = x := by
  apply tb_ext; intro i _; rw [tb_or, tb_0, Bool.false_or]
theorem n1I : (1 : Int32) = nI 1 := rfl
theorem n2I : (2 : Int32) = nI 2 := rfl
theorem n3I : (3 : Int32) = nI 3 := rfl
theorem sh01 : shp (nI 0) 1 = 119 := by decide
theorem sh02 : shp (nI 0) 2 = 48 := by decide
theorem sh03 : shp (nI 0) 3 = 45 := by decide
theorem sh11 : shp (nI 1) 1 = 119 := by decide
theorem sh12 : shp (nI 1) 2 = 114 := by decide
theorem sh13 : shp (nI 1) 3 = 45 := by decide
theorem sh21 : shp (nI 2) 1 = 119 := by decide
theorem sh22 : shp (nI 2) 2 = 114 := by decide
theorem sh23 : shp (nI 2) 3 = 114 := by decide
theorem sh31 : shp (nI 3) 1 = 119 := by decide
theorem sh32 : shp (nI 3) 2 = 114 := by decide
theorem sh33 : shp (nI 3) 3 = 45 := by decide
theorem sh41 : shp (nI 4) 1 = 114 := by decide
theorem sh42 : shp (nI 4) 2 = 45 := by decide
theorem sh43 : shp (nI 4) 3 = 45 := by decide
theorem sh51 : shp (nI 5) 1 = 48 := by decide
theorem sh52 : shp (nI 5) 2 = 45 := by decide
theorem sh53 : shp (nI 5) 3 = 45 := by decide
theorem sh61 : shp (nI 6) 1 = 114 := by decide
theorem sh62 : shp (nI 6) 2 = 48 := by decide
theorem sh63 : shp (nI 6) 3 = 45 := by decide
theorem sh71 : shp (nI 7) 1 = 119 := by decide
theorem sh72 : shp (nI 7) 2 = 48 := by decide
theorem sh73 : shp (nI 7) 3 = 45 := by decide
theorem sh81 : shp (nI 8) 1 = 114 := by decide
theorem sh82 : shp (nI 8) 2 = 48 := by decide
theorem sh83 : shp (nI 8) 3 = 45 := by decide
/-- what WfB says of one part, by its shape -/
theorem wf_part {B : Nat} {q sh : Int32} {k : Nat} (h : (sh = 45 ∧ q = -6) ∨ (¬ sh = 45 ∧ ∃ x, x < 64 ∧ q = nI x ∧ (sh = 48 → k < 7 → x < 10) ∧ (¬ sh = 48 → x < B))) : (sh = 45 → q = -6) ∧ (sh ≠ 45 → ∃ x, x < 64 ∧ q = nI x ∧ (sh = 48 → k < 7 → x < 10) ∧ (sh ≠ 48 → x < B)) := by
  rcases h with ⟨h1, h2⟩ | ⟨h1, h2⟩
  · exact ⟨fun _ => h2, fun z => absurd h1 z⟩
  · exact ⟨fun z => absurd z h1, fun _ => h2⟩
theorem row_form {B : Nat} {p : Pg} {n i : Nat} (h : WfB B p n) (hi : i < n) : ∃ k x y z, RF B p i k x y z := by
  obtain ⟨k, hk, e0, h3⟩ := h i hi
  obtain ⟨a1, a2⟩ := wf_part (h3 1 (by omega) (by omega))
  obtain ⟨b1, b2⟩ := wf_part (h3 2 (by omega) (by omega))
  obtain ⟨c1, c2⟩ := wf_part (h3 3 (by omega) (by omega))
  have hR : Rd p i = nRd (nRd (nRd 0 (p i 1) (shp (nI k) 1)) (p i 2) (shp (nI k) 2)) (p i 3) (shp (nI k) 3) := by unfold Rd rRd; rw [e0]
  have hW : Wr p i = nWr (nWr (nWr (-6) (p i 1) (shp (nI k) 1)) (p i 2) (shp (nI k) 2)) (p i 3) (shp (nI k) 3) := by unfold Wr rWr; rw [e0]
  simp only [← n1I, ← n2I, ← n3I] at a1 a2 b1 b2 c1 c2
  have hk9 : k = 0 ∨ k = 1 ∨ k = 2 ∨ k = 3 ∨ k = 4 ∨ k = 5 ∨ k = 6 ∨ k = 7 ∨ k = 8 := by omega
  rcases hk9 with rfl | rfl | rfl | rfl | rfl | rfl | rfl | rfl | rfl
  · rw [sh01] at a1 a2; rw [sh02] at b1 b2; rw [sh03] at c1 c2; rw [sh01, sh02, sh03] at hR hW
    obtain ⟨x, x1, x2, -, x4⟩ := a2 (by decide)
    obtain ⟨y, y1, y2, y3, -⟩ := b2 (by decide)
    rw [x2] at hR hW
    rw [nRd_o (by decide), nRd_o (by decide), nRd_o (by decide)] at hR
    rw [nWr_o (by decide), nWr_o (by decide), nWr_w x1] at hW
    exact ⟨0, x, y, 0, by omega, e0, x2, x1, fun _ => x4 (by decide), by omega, by omega, fun _ => ⟨y2, y1⟩, by omega, fun _ => y3 rfl (by omega), by omega, fun _ => c1 rfl, hR, hW⟩
  · rw [sh11] at a1 a2; rw [sh12] at b1 b2; rw [sh13] at c1 c2; rw [sh11, sh12, sh13] at hR hW
    obtain ⟨x, x1, x2, -, x4⟩ := a2 (by decide)
    obtain ⟨y, y1, y2, -, y3⟩ := b2 (by decide)
    rw [x2, y2] at hR hW
    rw [nRd_o (by decide), nRd_r y1, nRd_o (by decide), or0] at hR
    rw [nWr_o (by decide), nWr_o (by decide), nWr_w x1] at hW
    exact ⟨1, x, y, 0, by omega, e0, x2, x1, fun _ => x4 (by decide), by omega, by omega, fun _ => ⟨y2, y1⟩, fun _ => y3 (by decide), by omega, by omega, fun _ => c1 rfl, hR, hW⟩
  · rw [sh21] at a1 a2; rw [sh22] at b1 b2; rw [sh23] at c1 c2; rw [sh21, sh22, sh23] at hR hW
    obtain ⟨x, x1, x2, -, x4⟩ := a2 (by decide)
    obtain ⟨y, y1, y2, -, y3⟩ := b2 (by decide)
    obtain ⟨z, z1, z2, -, z3⟩ := c2 (by decide)
    rw [x2, y2, z2] at hR hW
    rw [nRd_r z1, nRd_r y1, nRd_o (by decide), or0] at hR
    rw [nWr_o (by decide), nWr_o (by decide), nWr_w x1] at hW
    exact ⟨2, x, y, z, by omega, e0, x2, x1, fun _ => x4 (by decide), by omega, by omega, fun _ => ⟨y2, y1⟩, fun _ => y3 (by decide), by omega, fun _ => ⟨z2, z3 (by decide), z1⟩, by omega, hR, hW⟩
  · rw [sh31] at a1 a2; rw [sh32] at b1 b2; rw [sh33] at c1 c2; rw [sh31, sh32, sh33] at hR hW
    obtain ⟨x, x1, x2, -, x4⟩ := a2 (by decide)
    obtain ⟨y, y1, y2, -, y3⟩ := b2 (by decide)
    rw [x2, y2] at hR hW
    rw [nRd_o (by decide), nRd_r y1, nRd_o (by decide), or0] at hR
    rw [nWr_o (by decide), nWr_o (by decide), nWr_w x1] at hW
    exact ⟨3, x, y, 0, by omega, e0, x2, x1, fun _ => x4 (by decide), by omega, by omega, fun _ => ⟨y2, y1⟩, fun _ => y3 (by decide), by omega, by omega, fun _ => c1 rfl, hR, hW⟩
  · rw [sh41] at a1 a2; rw [sh42] at b1 b2; rw [sh43] at c1 c2; rw [sh41, sh42, sh43] at hR hW
    obtain ⟨x, x1, x2, -, x4⟩ := a2 (by decide)
    rw [x2] at hR hW
    rw [nRd_o (by decide), nRd_o (by decide), nRd_r x1, or0] at hR
    rw [nWr_o (by decide), nWr_o (by decide), nWr_o (by decide)] at hW
    exact ⟨4, x, 0, 0, by omega, e0, x2, x1, fun _ => x4 (by decide), by omega, fun _ => b1 rfl, by omega, by omega, by omega, by omega, fun _ => c1 rfl, hR, hW⟩
  · rw [sh51] at a1 a2; rw [sh52] at b1 b2; rw [sh53] at c1 c2; rw [sh51, sh52, sh53] at hR hW
    obtain ⟨x, x1, x2, x3, -⟩ := a2 (by decide)
    rw [nRd_o (by decide), nRd_o (by decide), nRd_o (by decide)] at hR
    rw [nWr_o (by decide), nWr_o (by decide), nWr_o (by decide)] at hW
    exact ⟨5, x, 0, 0, by omega, e0, x2, x1, by omega, fun _ => x3 rfl (by omega), fun _ => b1 rfl, by omega, by omega, by omega, by omega, fun _ => c1 rfl, hR, hW⟩
  · rw [sh61] at a1 a2; rw [sh62] at b1 b2; rw [sh63] at c1 c2; rw [sh61, sh62, sh63] at hR hW
    obtain ⟨x, x1, x2, -, x4⟩ := a2 (by decide)
    obtain ⟨y, y1, y2, y3, -⟩ := b2 (by decide)
    rw [x2] at hR hW
    rw [nRd_o (by decide), nRd_o (by decide), nRd_r x1, or0] at hR
    rw [nWr_o (by decide), nWr_o (by decide), nWr_o (by decide)] at hW
    exact ⟨6, x, y, 0, by omega, e0, x2, x1, fun _ => x4 (by decide), by omega, by omega, fun _ => ⟨y2, y1⟩, by omega, fun _ => y3 rfl (by omega), by omega, fun _ => c1 rfl, hR, hW⟩
  · rw [sh71] at a1 a2; rw [sh72] at b1 b2; rw [sh73] at c1 c2; rw [sh71, sh72, sh73] at hR hW
    obtain ⟨x, x1, x2, -, x4⟩ := a2 (by decide)
    obtain ⟨y, y1, y2, -, -⟩ := b2 (by decide)
    rw [x2] at hR hW
    rw [nRd_o (by decide), nRd_o (by decide), nRd_o (by decide)] at hR
    rw [nWr_o (by decide), nWr_o (by decide), nWr_w x1] at hW
    exact ⟨7, x, y, 0, by omega, e0, x2, x1, fun _ => x4 (by decide), by omega, by omega, fun _ => ⟨y2, y1⟩, by omega, by omega, by omega, fun _ => c1 rfl, hR, hW⟩
  · rw [sh81] at a1 a2; rw [sh82] at b1 b2; rw [sh83] at c1 c2; rw [sh81, sh82, sh83] at hR hW
    obtain ⟨x, x1, x2, -, x4⟩ := a2 (by decide)
    obtain ⟨y, y1, y2, -, -⟩ := b2 (by decide)
    rw [x2] at hR hW
    rw [nRd_o (by decide), nRd_o (by decide), nRd_r x1, or0] at hR
    rw [nWr_o (by decide), nWr_o (by decide), nWr_o (by decide)] at hW
    exact ⟨8, x, y, 0, by omega, e0, x2, x1, fun _ => x4 (by decide), by omega, by omega, fun _ => ⟨y2, y1⟩, by omega, by omega, by omega, fun _ => c1 rfl, hR, hW⟩
/-- the top is above every name -/
def TN (t : Nat) (ns : Int64) (tp : Int32) : Prop := tp = nI t ∧ 4 ≤ t ∧ t ≤ 64 ∧ ∀ y, y < 64 → tb ns y = true → y < t
theorem TN_step {t : Nat} {ns : Int64} {tp : Int32} (h : TN t ns tp) (nm sh : Int32) : ∃ t', TN t' (nNm ns nm sh) (nTp tp nm sh) := by
  obtain ⟨rfl, h2, h3, h4⟩ := h
  unfold nNm nTp
  rcases pk_ix nm (n := 64) (by decide) with c | c | ⟨x, hx, rfl⟩
  · rw [if_pos c, if_pos c]; exact ⟨t, rfl, h2, h3, h4⟩
  · rw [if_pos (show (64 : Int32) ≤ nm from c), if_pos (show (64 : Int32) ≤ nm from c)]
    simp only [ite_self]
    exact ⟨t, rfl, h2, h3, h4⟩
  · rw [if_neg (nI_pos (by omega)), if_neg (nI_pos (by omega)), if_neg (show ¬ (64 : Int32) ≤ nI x from nI_ge (b := 64) hx (by decide)), if_neg (show ¬ (64 : Int32) ≤ nI x from nI_ge (b := 64) hx (by decide))]
    have key : ∃ t', TN t' (ns ||| one (nI x)) (maxI (nI t) (nI x + 1)) := by
      rw [← nI_succ, maxI]
      have hb : ∀ y, y < 64 → tb (ns ||| one (nI x)) y = true → y < t ∨ y = x := by
        intro y hy hy2
        rw [tb_or, tb_one hx, Bool.or_eq_true, decide_eq_true_eq] at hy2
        exact hy2.imp (h4 y hy) id
      by_cases q : t < x + 1
      · rw [if_pos (nI_lt q (by omega))]
        exact ⟨x + 1, rfl, by omega, by omega, fun y hy hy2 => by have := hb y hy hy2; omega⟩
      · rw [if_neg (nI_nlt (by omega) (by omega))]
        exact ⟨t, rfl, h2, h3, fun y hy hy2 => by have := hb y hy hy2; omega⟩
    by_cases c1 : sh = 114
    · rw [if_pos c1, if_pos c1]; exact key
    · rw [if_neg c1, if_neg c1]
      by_cases c2 : sh = 119
      · rw [if_pos c2, if_pos c2]; exact key
      · rw [if_neg c2, if_neg c2]; exact ⟨t, rfl, h2, h3, h4⟩
theorem TN_all (p : Pg) : ∀ n, ∃ t, TN t (Nms p n) (Tp p n)
  | 0 => ⟨4, rfl, by omega, by omega, fun y _ h => by rw [Nms, tb_0] at h; cases h⟩
  | n + 1 => by
    obtain ⟨t, h⟩ := TN_all p n
    obtain ⟨t1, h1⟩ := TN_step h (p n 1) (shp (p n 0) 1)
    obtain ⟨t2, h2⟩ := TN_step h1 (p n 2) (shp (p n 0) 2)
    obtain ⟨t3, h3⟩ := TN_step h2 (p n 3) (shp (p n 0) 3)
    exact ⟨t3, h3⟩
theorem nNm_sup (ns : Int64) (nm sh : Int32) : sub ns (nNm ns nm sh) := by
  unfold nNm
  have h : sub ns (ns ||| one nm) := fun i hi => by rw [tb_or, hi, Bool.true_or]
  split
  · exact sub.refl _
  · split
    · exact sub.refl _
    · split
      · exact h
      · split
        · exact h
        · exact sub.refl _
theorem sub.trans {x y z : Int64} (h : sub x y) (h' : sub y z) : sub x z := fun i hi => h' i (h i hi)
theorem nRd_sup {rd ns : Int64} (h : sub rd ns) (nm sh : Int32) : sub (nRd rd nm sh) (nNm ns nm sh) := by
  unfold nRd nNm
  have h2 : sub (rd ||| one nm) (ns ||| one nm) := sub.or h (sub.refl _)
  have h3 : sub rd (ns ||| one nm) := fun i hi => by rw [tb_or, h i hi, Bool.true_or]
  by_cases c1 : nm < 0
  · rw [if_pos c1, if_pos c1]; exact h
  · rw [if_neg c1, if_neg c1]
    by_cases c2 : 64 ≤ nm
    · rw [if_pos c2, if_pos c2]; exact h
    · rw [if_neg c2, if_neg c2]
      by_cases c3 : sh = 114
      · rw [if_pos c3, if_pos c3]; exact h2
      · rw [if_neg c3, if_neg c3]
        by_cases c4 : sh = 119
        · rw [if_pos c4]; exact h3
        · rw [if_neg c4]; exact h
theorem Rd_Nms (p : Pg) : ∀ n i, i < n → sub (Rd p i) (Nms p n)
  | 0, _, h => by omega
  | n + 1, i, h => by
    have hs : sub (Nms p n) (Nms p (n + 1)) := (nNm_sup _ _ _).trans ((nNm_sup _ _ _).trans (nNm_sup _ _ _))
    by_cases e : i = n
    · subst e
      exact nRd_sup (nRd_sup (nRd_sup (sub0 _) _ _) _ _) _ _
    · exact (Rd_Nms p n i (by omega)).trans hs
theorem sub_or_l {x y z : Int64} (h : sub x z) (h' : sub y z) : sub (x ||| y) z := fun i hi => by
  rw [tb_or, Bool.or_eq_true] at hi
  exact hi.elim (h i) (h' i)
theorem sub_and_l {x y z : Int64} (h : sub x z) : sub (x &&& y) z := fun i hi => by
  rw [tb_and, Bool.and_eq_true] at hi
  exact h i hi.1
theorem lvO_sub {p : Pg} {n : Nat} {N : Int64} {A : Nat → Int64} (hn : n < 2 ^ 31) (h : ∀ i, i < n → sub (A i) N) (i : Nat) : sub (lvO p n A i) N := by
  unfold lvO
  refine sub_or_l ?_ ?_
  · by_cases c : i + 1 < n
    · rw [if_pos c]; exact h _ c
    · rw [if_neg c]; exact sub0 _
  · by_cases c : Tg p n i < 0
    · rw [if_pos c]; exact sub0 _
    · rw [if_neg c]
      obtain ⟨j, j1, j2, -⟩ := (Tg_lt p n i).resolve_left c
      rw [j2, nI_clamp (by omega)]
      exact h j j1
theorem lvP_sub {p : Pg} {n : Nat} (hn : n < 2 ^ 31) : ∀ m (S : LS2), m ≤ n → (∀ i, i < n → sub (S.1 i) (Nms p n) ∧ sub (S.2 i) (Nms p n)) → ∀ i, i < n → sub ((lvP p n m S).1 i) (Nms p n) ∧ sub ((lvP p n m S).2 i) (Nms p n)
  | 0, S, _, h => h
  | m + 1, S, hm, h => by
    rw [lvP]
    refine lvP_sub hn m _ (by omega) (fun i hi => ?_)
    have h1 := lvO_sub (p := p) hn (fun i hi => (h i hi).1) m
    unfold lvS
    by_cases e : i = m
    · subst e
      show sub (va_up _ i _ i) _ ∧ sub (va_up _ i _ i) _
      rw [va_up_self, va_up_self]
      exact ⟨sub_or_l (sub_and_l h1) (Rd_Nms p n i hi), h1⟩
    · show sub (va_up _ m _ i) _ ∧ sub (va_up _ m _ i) _
      rw [va_up_ne _ _ e, va_up_ne _ _ e]
      exact h i hi
theorem lvIt_sub {p : Pg} {n : Nat} (hn : n < 2 ^ 31) : ∀ k i, i < n → sub ((lvIt p n k).1 i) (Nms p n) ∧ sub ((lvIt p n k).2 i) (Nms p n)
  | 0, i, hi => ⟨sub0 _, sub0 _⟩
  | k + 1, i, hi => by
    rw [lvIt]
    exact lvP_sub hn n _ (Nat.le_refl n) (fun i hi => lvIt_sub hn k i hi) i hi
theorem Lvb_sub {p : Pg} {n i : Nat} (hn : n < 2 ^ 31) (hi : i < n) : sub (Lvb p n i) (Nms p n) := (lvIt_sub hn 5761 i hi).2
