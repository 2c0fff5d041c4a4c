/-! THE PAD of the reference -/
def kopM (n : Nat) : Int32 := if kopn n < 0 then -6 else kopn n
theorem lk_tab : ∀ n, n < 128 → n ∈ [35, 43, 45, 46, 61, 64, 94] ∨ (Op.lookupswitch.offset [(35, 67), (43, 71), (45, 73), (46, 75), (61, 69), (64, 77), (94, 79)] 82 (nI n).toInt = 82 ∧ kopM n = -6) := by decide +kernel
set_option maxRecDepth 20000 in
theorem sp_X8_kindOf {g : Gl} {D : Nat} {b : Bool} {I : IM} {L : LM} {n : Nat} (hn : n < 128) : Md g D MX8_kindOf [.int (nI n)] b I L (some (.int (kopM n))) b I L := by
  refine Me.of [some (.int (nI n))] 0 rfl pf_X8_kindOf (Nat.le_of_ble_eq_true rfl) ?_
  refine wq_iload_n 1 0 dX8_kindOf_0 rfl rfl rfl ?_
  by_cases h35 : n = 35
  · subst h35
    refine wq_look 68 dX8_kindOf_1 (by decide) (off := 67) (by decide) (by decide) ?_
    refine wq_iconst 69 0 dX8_kindOf_68 rfl (by decide) ?_
    refine ri .int dX8_kindOf_69 rfl rfl ?_
    exact ⟨by decide, rfl, rfl, rfl⟩
  by_cases h43 : n = 43
  · subst h43
    refine wq_look 72 dX8_kindOf_1 (by decide) (off := 71) (by decide) (by decide) ?_
    refine wq_iconst 73 2 dX8_kindOf_72 rfl (by decide) ?_
    refine ri .int dX8_kindOf_73 rfl rfl ?_
    exact ⟨by decide, rfl, rfl, rfl⟩
  by_cases h45 : n = 45
  · subst h45
    refine wq_look 74 dX8_kindOf_1 (by decide) (off := 73) (by decide) (by decide) ?_
    refine wq_iconst 75 3 dX8_kindOf_74 rfl (by decide) ?_
    refine ri .int dX8_kindOf_75 rfl rfl ?_
    exact ⟨by decide, rfl, rfl, rfl⟩
  by_cases h46 : n = 46
  · subst h46
    refine wq_look 76 dX8_kindOf_1 (by decide) (off := 75) (by decide) (by decide) ?_
    refine wq_iconst 77 4 dX8_kindOf_76 rfl (by decide) ?_
    refine ri .int dX8_kindOf_77 rfl rfl ?_
    exact ⟨by decide, rfl, rfl, rfl⟩
  by_cases h61 : n = 61
  · subst h61
    refine wq_look 70 dX8_kindOf_1 (by decide) (off := 69) (by decide) (by decide) ?_
    refine wq_iconst 71 1 dX8_kindOf_70 rfl (by decide) ?_
    refine ri .int dX8_kindOf_71 rfl rfl ?_
    exact ⟨by decide, rfl, rfl, rfl⟩
  by_cases h64 : n = 64
  · subst h64
    refine wq_look 78 dX8_kindOf_1 (by decide) (off := 77) (by decide) (by decide) ?_
    refine wq_iconst 79 5 dX8_kindOf_78 rfl (by decide) ?_
    refine ri .int dX8_kindOf_79 rfl rfl ?_
    exact ⟨by decide, rfl, rfl, rfl⟩
  by_cases h94 : n = 94
  · subst h94
    refine wq_look 80 dX8_kindOf_1 (by decide) (off := 79) (by decide) (by decide) ?_
    refine wq_bipush 82 6 dX8_kindOf_80 rfl (by decide) ?_
    refine ri .int dX8_kindOf_82 rfl rfl ?_
    exact ⟨by decide, rfl, rfl, rfl⟩
  have ht := (lk_tab n hn).resolve_left (by simp [h35, h43, h45, h46, h61, h64, h94])
  refine wq_look 83 dX8_kindOf_1 (by decide) (off := 82) ht.1 (by decide) ?_
  refine wq_bipush 85 (-6) dX8_kindOf_83 rfl (by decide) ?_
  refine ri .int dX8_kindOf_85 rfl rfl ?_
  exact ⟨by rw [ht.2], rfl, rfl, rfl⟩
def PdM (I : IM) (c : Nat) (sg : Nat → Nat) : Prop := c ≤ 60 ∧ I 71 7 = nI c ∧ (∀ j, j < c → I 76 j = nI (sg j)) ∧ ∀ j, j < c → 33 ≤ sg j ∧ sg j ≤ 126
/-- kinds by number -/
theorem kop_cases : ∀ n, n < 128 → kopn n < 0 ∨ ∃ m, m < 7 ∧ kopn n = nI m := by
  have h : ∀ n, n < 128 → (decide (kopn n < 0) || (List.range 7).any (fun m => decide (kopn n = nI m))) = true := by decide +kernel
  intro n hn
  have h1 := h n hn
  simp only [Bool.or_eq_true, decide_eq_true_eq, List.any_eq_true, List.mem_range] at h1
  rcases h1 with h1 | ⟨m, h1, h2⟩
  · exact Or.inl h1
  · exact Or.inr ⟨m, h1, by simpa using h2⟩
theorem kopM_of {n : Nat} (h : ¬ kopn n < 0) : kopM n = kopn n := by rw [kopM, if_neg h]
theorem kopM_neg {n : Nat} : kopM n < 0 ↔ kopn n < 0 := by
  unfold kopM
  by_cases h : kopn n < 0
  · rw [if_pos h]; exact ⟨fun _ => h, fun _ => by decide⟩
  · rw [if_neg h]
theorem kd_a : ∀ m, m < 7 → lnK (nI m) = nI (lnN (nI m)) ∧ 1 ≤ lnN (nI m) := by decide +kernel
theorem kd_b : ∀ m, m < 7 → ∀ w, w < 5 → w = 0 ∨ decide (w ≤ lnN (nI m)) = !decide (shp (nI m) (nI w) = 45) := by decide +kernel
theorem kd_c : ∀ m, m < 7 → ∀ w, w < 5 → w = 0 ∨ lnN (nI m) < w ∨ decide (wfK (nI m) (nI w) = 0) = !decide (shp (nI m) (nI w) = 48) := by decide +kernel
theorem kd_b' {m w : Nat} (hm : m < 7) (hw : w < 5) (h1 : 1 ≤ w) : w ≤ lnN (nI m) ↔ ¬ shp (nI m) (nI w) = 45 := by
  have h := (kd_b m hm w hw).resolve_left (by omega)
  by_cases h2 : shp (nI m) (nI w) = 45 <;> simp [h2] at h ⊢ <;> omega
theorem kd_c' {m w : Nat} (hm : m < 7) (hw : w ≤ lnN (nI m)) (h1 : 1 ≤ w) : wfK (nI m) (nI w) = 0 ↔ ¬ shp (nI m) (nI w) = 48 := by
  have hl := lnN_le (nI m)
  have h := ((kd_c m hm w (by omega)).resolve_left (by omega)).resolve_left (by omega)
  by_cases h2 : shp (nI m) (nI w) = 48 <;> simp [h2] at h ⊢ <;> exact h
/-- whether a sign is well, as the reference asks -/
theorem well_eq {m w : Nat} (hm : m < 7) (hw : w ≤ lnN (nI m)) (h1 : 1 ≤ w) (s : Int32) : (wfK (nI m) (nI w) = 0 → mng s (shp (nI m) (nI w)) = nmS s) ∧ (¬ wfK (nI m) (nI w) = 0 → (mng s (shp (nI m) (nI w)) < 0 ↔ inM s 48 57 = 0)) := by
  have hl := lnN_le (nI m)
  have h45 : ¬ shp (nI m) (nI w) = 45 := (kd_b' hm (by omega) h1).mp hw
  have h48 := kd_c' hm hw h1
  constructor
  · intro h0
    have : ¬ shp (nI m) (nI w) = 48 := h48.mp h0
    rw [mng, if_pos this, if_pos h45]
  · intro h0
    have e : shp (nI m) (nI w) = 48 := Classical.byContradiction (fun z => h0 (h48.mpr z))
    rw [mng, if_neg (fun h => h e)]
    unfold inM
    by_cases c1 : s < 48
    · rw [if_pos c1, if_pos c1]; exact ⟨fun _ => rfl, fun _ => by decide⟩
    · rw [if_neg c1, if_neg c1]
      by_cases c2 : 57 < s
      · rw [if_pos c2, if_pos c2]; exact ⟨fun _ => rfl, fun _ => by decide⟩
      · rw [if_neg c2, if_neg c2]
        constructor
        · intro h
          exfalso
          simp only [Int32.lt_iff_toInt_lt] at c1 c2 h
          have e1 : (48 : Int32).toInt = 48 := by decide
          have e2 : (57 : Int32).toInt = 57 := by decide
          have e3 : (0 : Int32).toInt = 0 := by decide
          have e4 : (s - 48).toInt = s.toInt - 48 := by
            rw [Int32.toInt_sub, e1]
            apply Int.bmod_eq_of_le <;> omega
          omega
        · intro h; exact absurd h (by decide)
