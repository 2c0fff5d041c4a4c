/-! Needs.findCosts, find -/
def nmP (p : Pg) (i w : Nat) : Int32 := if shp (p i 0) (nI w) = 114 ∨ shp (p i 0) (nI w) = 119 then (if p i w < 0 then -6 else if 64 ≤ p i w then -6 else p i w) else -6
theorem nm_eq {I : IM} {L : LM} {l n : Nat} {p : Pg} (h : LR I L l n p) {j w : Nat} (hj : j < n) (hw : w < 4) : nmT (I (l + 1)) j w = nmP p j w := by
  unfold nmT nmP
  rw [h.2.2.2.2.2.1 j hj 0 (by omega), h.2.2.2.2.2.1 j hj w hw]
theorem nmP_val (p : Pg) (i w : Nat) : nmP p i w = -6 ∨ ∃ x, x < 64 ∧ nmP p i w = nI x := by
  unfold nmP
  split
  · rcases pk_ix (p i w) (n := 64) (by decide) with c | c | ⟨x, hx, e⟩
    · rw [if_pos c]; exact Or.inl rfl
    · rw [if_pos (show (64 : Int32) ≤ p i w from c)]; simp
    · rw [e, if_neg (nI_pos (by omega)), if_neg (show ¬ (64 : Int32) ≤ nI x from nI_ge (b := 64) hx (by decide))]
      exact Or.inr ⟨x, hx, rfl⟩
  · exact Or.inl rfl
def lpB (p : Pg) (n : Nat) : Nat → Nat → Bool
  | 0, _ => false
  | m + 1, i => lpB p n m i || (decide (¬ Tg p n m < 0) && decide ((Tg p n m).toNatClampNeg ≤ i) && decide (i ≤ m))
theorem lpB_iff {p : Pg} {n : Nat} (hn : n ≤ 90) : ∀ m i, lpB p n m i = true ↔ LpP p n m i
  | 0, i => ⟨fun h => (by cases h), fun ⟨j, t, z, _⟩ => (by omega)⟩
  | m + 1, i => by
    rw [lpB, Bool.or_eq_true, lpB_iff hn m i]
    rcases Tg_lt p n m with c | ⟨t, t1, t2, -⟩
    · rw [LpP_no hn (Or.inl c)]
      simp [c]
    · rw [LpP_yes hn t1 t2, t2, nI_clamp (by omega)]
      have := nI_pos (n := t) (by omega)
      simp [this]
def rtN (p : Pg) (n i : Nat) : Nat := if lpB p n n i = true then 10 else 1
theorem RtR.eq {R : Nat → Int32} {p : Pg} {n : Nat} (hn : n ≤ 90) (h : RtR R p n n) {i : Nat} (hi : i < n) : R i = nI (rtN p n i) := by
  unfold rtN
  by_cases c : lpB p n n i = true
  · rw [if_pos c, (h i hi).1 ((lpB_iff hn n i).mp c)]; rfl
  · rw [if_neg c, (h i hi).2 (fun z => c ((lpB_iff hn n i).mpr z))]; rfl
def tmW (p : Pg) (i x : Nat) : Nat → Nat
  | 0 => 0
  | w + 1 => tmW p i x w + (if 1 ≤ w ∧ nmP p i w = nI x then 1 else 0)
/-- what a name costs, as far as instruction m -/
def CsN (p : Pg) (n x : Nat) : Nat → Nat
  | 0 => 0
  | i + 1 => CsN p n x i + tmW p i x 4 * rtN p n i
theorem tmW_le (p : Pg) (i x : Nat) : tmW p i x 4 ≤ 3 := by
  simp only [tmW]
  simp
  split <;> split <;> split <;> omega
theorem CsN_le (p : Pg) (n x : Nat) : ∀ m, CsN p n x m ≤ 30 * m
  | 0 => Nat.le_refl _
  | m + 1 => by
    rw [CsN]
    have h1 := CsN_le p n x m
    have h2 := tmW_le p m x
    have h3 : rtN p n m ≤ 10 := by unfold rtN; split <;> omega
    have h4 := Nat.mul_le_mul h2 h3
    omega
def CtR (C : Nat → Int32) (p : Pg) (n m w : Nat) : Prop := ∀ x, x < 64 → (x < 16 → C x = nI (CsN p n x m + tmW p m x w * rtN p n m)) ∧ (16 ≤ x → (∃ i v, (i < m ∨ (i = m ∧ v < w)) ∧ 1 ≤ v ∧ v < 4 ∧ nmP p i v = nI x) → C x = 10000)
theorem CtR_up {C : Nat → Int32} {p : Pg} {n m : Nat} (h : CtR C p n m 4) : CtR C p n (m + 1) 1 := by
  intro x hx
  obtain ⟨h1, h2⟩ := h x hx
  refine ⟨fun c => ?_, fun c ⟨i, v, e1, e2, e3, e4⟩ => h2 c ⟨i, v, by omega, e2, e3, e4⟩⟩
  rw [h1 c, CsN, show tmW p (m + 1) x 1 = 0 by simp [tmW], Nat.zero_mul, Nat.add_zero]
theorem CtR_no {C : Nat → Int32} {p : Pg} {n m w : Nat} (h : CtR C p n m w) (hn : nmP p m w = -6) : CtR C p n m (w + 1) := by
  have hne : ∀ x, x < 64 → ¬ nmP p m w = nI x := fun x hx e => nI_pos (n := x) (by omega) (by rw [← e, hn]; decide)
  intro x hx
  obtain ⟨h1, h2⟩ := h x hx
  refine ⟨fun c => ?_, fun c ⟨i, v, e1, e2, e3, e4⟩ => h2 c ⟨i, v, ?_, e2, e3, e4⟩⟩
  · rw [h1 c, tmW, if_neg (fun z => hne x hx z.2), Nat.add_zero]
  · by_cases e : i = m ∧ v = w
    · rw [e.1, e.2] at e4; exact absurd e4 (hne x hx)
    · omega
theorem CtR_big {C : Nat → Int32} {p : Pg} {n m w y : Nat} (h : CtR C p n m w) (hy : 16 ≤ y) (hy2 : y < 64) (hn : nmP p m w = nI y) : CtR (va_up C y 10000) p n m (w + 1) := by
  intro x hx
  by_cases e : x = y
  · rw [e, va_up_self]
    exact ⟨fun c => by omega, fun _ _ => rfl⟩
  · rw [va_up_ne _ _ e]
    have hne : ¬ nmP p m w = nI x := fun z => e ((nI_eq (by omega) (by omega)).mp (by rw [← z, hn]))
    obtain ⟨h1, h2⟩ := h x hx
    refine ⟨fun c => ?_, fun c ⟨i, v, e1, e2, e3, e4⟩ => h2 c ⟨i, v, ?_, e2, e3, e4⟩⟩
    · rw [h1 c, tmW, if_neg (fun z => hne z.2), Nat.add_zero]
    · by_cases e : i = m ∧ v = w
      · rw [e.1, e.2] at e4; exact absurd e4 hne
      · omega
theorem CtR_small {C : Nat → Int32} {p : Pg} {n m w y : Nat} (h : CtR C p n m w) (hw : 1 ≤ w) (hy : y < 16) (hn : nmP p m w = nI y) : CtR (va_up C y (C y + nI (rtN p n m))) p n m (w + 1) := by
  intro x hx
  by_cases e : x = y
  · rw [e, va_up_self]
    refine ⟨fun c => ?_, fun c => by omega⟩
    rw [(h y (by omega)).1 hy, nI_add, tmW, if_pos ⟨hw, hn⟩, Nat.add_mul, Nat.one_mul, Nat.add_assoc]
  · rw [va_up_ne _ _ e]
    have hne : ¬ nmP p m w = nI x := fun z => e ((nI_eq (by omega) (by omega)).mp (by rw [← z, hn]))
    obtain ⟨h1, h2⟩ := h x hx
    refine ⟨fun c => ?_, fun c ⟨i, v, e1, e2, e3, e4⟩ => h2 c ⟨i, v, ?_, e2, e3, e4⟩⟩
    · rw [h1 c, tmW, if_neg (fun z => hne z.2), Nat.add_zero]
    · by_cases e : i = m ∧ v = w
      · rw [e.1, e.2] at e4; exact absurd e4 hne
      · omega
set_option maxRecDepth 20000 in
set_option maxHeartbeats 2000000 in
theorem lp_X3_costs {g : Gl} {D : Nat} {b : Bool} {I : IM} {L : LM} {a l n : Nat} {p : Pg} (hD : 6 ≤ D) (ha : IsN a) (hl : IsL l) (h : LR I L l n p) (hR : RtR (I (a + 3)) p n n) {post : Option Value → Bool → IM → LM → Prop} (hp : ∀ C, CtR C p n n 1 → post none b (va_up I (a + 5) C) L) : ∀ r m C k3 k4, m + r = n → CtR C p n m 1 → Wp (Kn g D MX3_findCosts post) (Tb b) 10 [some (rf g a), some (rf g l), some (.int (nI m)), k3, k4] [] (va_up I (a + 5) C) L := by
  have hn := h.1
  have ap := fun i j hi hj => N_apart (i := i) (j := j) ha hl hi hj
  have hLR : ∀ C, LR (va_up I (a + 5) C) L l n p := fun C => LR_keep h (fun j hj => va_up_ne _ _ (fun e => ap 5 j (by omega) hj e.symm)) (fun _ _ => rfl)
  have hcR := fun C => (hLR C).2.1
  intro r
  induction r with
  | zero =>
    intro m C k3 k4 hm hC
    have em : m = n := by omega
    subst em
    refine wq_iload_n 11 2 dX3_findCosts_10 rfl rfl rfl ?_
    refine wq_bload_n 12 1 dX3_findCosts_11 rfl rfl rfl ?_
    refine wq_getI 15 fl_X3_51 dX3_findCosts_12 rfl rfl (L_ob hl) ?_
    refine wq_ic_ge 18 106 dX3_findCosts_15 rfl (by decide) (fun c15 => ?_) (fun c15 => absurd (by rw [hcR]; exact nI_le (Nat.le_refl _) (by omega)) c15)
    refine rr dX3_findCosts_106 rfl ?_
    exact hp C hC
  | succ r ih =>
    intro m C k3 k4 hm hC
    have inner : ∀ r w C k4, w + r = 4 → 1 ≤ w → CtR C p n m w → Wp (Kn g D MX3_findCosts post) (Tb b) 26 [some (rf g a), some (rf g l), some (.int (nI m)), some (.int (nI w)), k4] [] (va_up I (a + 5) C) L := by
      intro r
      induction r with
      | zero =>
        intro w C k4 hw hw1 hC
        have ew : w = 4 := by omega
        subst ew
        refine wq_iload_n 27 3 dX3_findCosts_26 rfl rfl rfl ?_
        refine wq_iconst 28 3 dX3_findCosts_27 rfl (by decide) ?_
        refine wq_ic_gt 31 100 dX3_findCosts_28 rfl (by decide) (fun c28 => ?_) (fun c28 => absurd (by decide) c28)
        refine wq_iinc 103 (_ + 1) [_, _, _, _, _] dX3_findCosts_100 rfl rfl (inc1 _) rfl (Nat.le_of_ble_eq_true rfl) rfl ?_
        refine wq_goto 10 dX3_findCosts_103 (by decide) ?_
        rw [← nI_succ]
        exact ih (m + 1) C _ _ (by omega) (CtR_up hC)
      | succ r ih2 =>
        intro w C k4 hw hw1 hC
        rcases nmP_val p m w with e | ⟨y, hy, e⟩
        · skip
          refine wq_iload_n 27 3 dX3_findCosts_26 rfl rfl rfl ?_
          refine wq_iconst 28 3 dX3_findCosts_27 rfl (by decide) ?_
          refine wq_ic_gt 31 100 dX3_findCosts_28 rfl (by decide) (fun c28 => absurd c28 (nI_nlt (a := 3) (by omega) (by decide))) (fun c28 => ?_)
          refine wq_bload_n 32 1 dX3_findCosts_31 rfl rfl rfl ?_
          refine wq_iload_n 33 2 dX3_findCosts_32 rfl rfl rfl ?_
          refine wq_iload_n 34 3 dX3_findCosts_33 rfl rfl rfl ?_
          refine cVi2 37 (sp_X2_nameAt (by omega) hl (hcR C) hn m w rfl rfl (by omega) (by omega)) ml_X3_94 mf_X2_nameAt dX3_findCosts_34 rfl (L_ob hl) (by decide) rfl (Nat.le_of_ble_eq_true rfl) (by omega) ?_
          rw [nm_eq (hLR C) (by omega) (by omega), e]
          refine wq_istore 39 [_, _, _, _, _] dX3_findCosts_37 rfl rfl (Nat.le_of_ble_eq_true rfl) rfl ?_
          refine wq_iload 41 dX3_findCosts_39 rfl rfl ?_
          refine wq_bipush 43 16 dX3_findCosts_41 rfl (by decide) ?_
          refine wq_ic_lt 46 66 dX3_findCosts_43 rfl (by decide) (fun c43 => ?_) (fun c43 => absurd (by decide) c43)
          refine wq_iload 68 dX3_findCosts_66 rfl rfl ?_
          refine wq_if_lt 71 94 dX3_findCosts_68 rfl (by decide) (fun c68 => ?_) (fun c68 => absurd (by decide) c68)
          refine wq_iinc 97 (_ + 1) [_, _, _, _, _] dX3_findCosts_94 rfl rfl (inc1 _) rfl (Nat.le_of_ble_eq_true rfl) rfl ?_
          refine wq_goto 26 dX3_findCosts_97 (by decide) ?_
          rw [← nI_succ]
          exact ih2 (w + 1) C _ (by omega) (by omega) (CtR_no hC e)
        · by_cases c : 16 ≤ y
          · skip
            refine wq_iload_n 27 3 dX3_findCosts_26 rfl rfl rfl ?_
            refine wq_iconst 28 3 dX3_findCosts_27 rfl (by decide) ?_
            refine wq_ic_gt 31 100 dX3_findCosts_28 rfl (by decide) (fun c28 => absurd c28 (nI_nlt (a := 3) (by omega) (by decide))) (fun c28 => ?_)
            refine wq_bload_n 32 1 dX3_findCosts_31 rfl rfl rfl ?_
            refine wq_iload_n 33 2 dX3_findCosts_32 rfl rfl rfl ?_
            refine wq_iload_n 34 3 dX3_findCosts_33 rfl rfl rfl ?_
            refine cVi2 37 (sp_X2_nameAt (by omega) hl (hcR C) hn m w rfl rfl (by omega) (by omega)) ml_X3_94 mf_X2_nameAt dX3_findCosts_34 rfl (L_ob hl) (by decide) rfl (Nat.le_of_ble_eq_true rfl) (by omega) ?_
            rw [nm_eq (hLR C) (by omega) (by omega), e]
            refine wq_istore 39 [_, _, _, _, _] dX3_findCosts_37 rfl rfl (Nat.le_of_ble_eq_true rfl) rfl ?_
            refine wq_iload 41 dX3_findCosts_39 rfl rfl ?_
            refine wq_bipush 43 16 dX3_findCosts_41 rfl (by decide) ?_
            refine wq_ic_lt 46 66 dX3_findCosts_43 rfl (by decide) (fun c43 => absurd c43 (nI_nlt (b := 16) c (by omega))) (fun c43 => ?_)
            refine wq_iload 48 dX3_findCosts_46 rfl rfl ?_
            refine wq_bipush 50 64 dX3_findCosts_48 rfl (by decide) ?_
            refine wq_ic_ge 53 66 dX3_findCosts_50 rfl (by decide) (fun c50 => absurd c50 (nI_ge (b := 64) hy (by omega))) (fun c50 => ?_)
            refine wq_bload_n 54 0 dX3_findCosts_53 rfl rfl rfl ?_
            refine wq_getR 57 fl_X3_25 dX3_findCosts_54 rfl rfl (N_ob ha) (N_rf4 ha) ?_
            refine wq_iload 59 dX3_findCosts_57 rfl rfl ?_
            refine wq_sipush 62 10000 dX3_findCosts_59 rfl (by decide) ?_
            refine wq_iast 63 dX3_findCosts_62 rfl (N_ar4 ha) (Ix.nI (by omega) (by decide)) ?_
            refine wq_goto 94 dX3_findCosts_63 (by decide) ?_
            refine wq_iinc 97 (_ + 1) [_, _, _, _, _] dX3_findCosts_94 rfl rfl (inc1 _) rfl (Nat.le_of_ble_eq_true rfl) rfl ?_
            refine wq_goto 26 dX3_findCosts_97 (by decide) ?_
            rw [← nI_succ, va_up_self, va_up_up]
            exact ih2 (w + 1) _ _ (by omega) (by omega) (CtR_big hC c hy e)
          · skip
            refine wq_iload_n 27 3 dX3_findCosts_26 rfl rfl rfl ?_
            refine wq_iconst 28 3 dX3_findCosts_27 rfl (by decide) ?_
            refine wq_ic_gt 31 100 dX3_findCosts_28 rfl (by decide) (fun c28 => absurd c28 (nI_nlt (a := 3) (by omega) (by decide))) (fun c28 => ?_)
            refine wq_bload_n 32 1 dX3_findCosts_31 rfl rfl rfl ?_
            refine wq_iload_n 33 2 dX3_findCosts_32 rfl rfl rfl ?_
            refine wq_iload_n 34 3 dX3_findCosts_33 rfl rfl rfl ?_
            refine cVi2 37 (sp_X2_nameAt (by omega) hl (hcR C) hn m w rfl rfl (by omega) (by omega)) ml_X3_94 mf_X2_nameAt dX3_findCosts_34 rfl (L_ob hl) (by decide) rfl (Nat.le_of_ble_eq_true rfl) (by omega) ?_
            rw [nm_eq (hLR C) (by omega) (by omega), e]
            refine wq_istore 39 [_, _, _, _, _] dX3_findCosts_37 rfl rfl (Nat.le_of_ble_eq_true rfl) rfl ?_
            refine wq_iload 41 dX3_findCosts_39 rfl rfl ?_
            refine wq_bipush 43 16 dX3_findCosts_41 rfl (by decide) ?_
            refine wq_ic_lt 46 66 dX3_findCosts_43 rfl (by decide) (fun c43 => ?_) (fun c43 => absurd (nI_lt (b := 16) (by omega) (by decide)) c43)
            refine wq_iload 68 dX3_findCosts_66 rfl rfl ?_
            refine wq_if_lt 71 94 dX3_findCosts_68 rfl (by decide) (fun c68 => absurd c68 (nI_pos (by omega))) (fun c68 => ?_)
            refine wq_iload 73 dX3_findCosts_71 rfl rfl ?_
            refine wq_bipush 75 16 dX3_findCosts_73 rfl (by decide) ?_
            refine wq_ic_ge 78 94 dX3_findCosts_75 rfl (by decide) (fun c75 => absurd c75 (nI_ge (b := 16) (by omega) (by decide))) (fun c75 => ?_)
            refine wq_bload_n 79 0 dX3_findCosts_78 rfl rfl rfl ?_
            refine wq_getR 82 fl_X3_25 dX3_findCosts_79 rfl rfl (N_ob ha) (N_rf4 ha) ?_
            refine wq_iload 84 dX3_findCosts_82 rfl rfl ?_
            refine wq_dup2 85 dX3_findCosts_84 rfl rfl rfl ?_
            refine wq_iald 86 dX3_findCosts_85 rfl (N_ar4 ha) (Ix.nI (by omega) (by decide)) ?_
            refine wq_bload_n 87 0 dX3_findCosts_86 rfl rfl rfl ?_
            refine wq_getR 90 fl_X3_18 dX3_findCosts_87 rfl rfl (N_ob ha) (N_rf2 ha) ?_
            refine wq_iload_n 91 2 dX3_findCosts_90 rfl rfl rfl ?_
            refine wq_iald 92 dX3_findCosts_91 rfl (N_ar2 ha) (Ix.nI (by omega) (by decide)) ?_
            refine wq_iadd 93 dX3_findCosts_92 rfl ?_
            refine wq_iast 94 dX3_findCosts_93 rfl (N_ar4 ha) (Ix.nI (by omega) (by decide)) ?_
            refine wq_iinc 97 (_ + 1) [_, _, _, _, _] dX3_findCosts_94 rfl rfl (inc1 _) rfl (Nat.le_of_ble_eq_true rfl) rfl ?_
            refine wq_goto 26 dX3_findCosts_97 (by decide) ?_
            rw [← nI_succ, va_up_self, va_up_up, va_up_ne _ _ (show a + 3 ≠ a + 5 by omega), hR.eq hn (show m < n by omega)]
            exact ih2 (w + 1) _ _ (by omega) (by omega) (CtR_small hC hw1 (by omega) e)
    refine wq_iload_n 11 2 dX3_findCosts_10 rfl rfl rfl ?_
    refine wq_bload_n 12 1 dX3_findCosts_11 rfl rfl rfl ?_
    refine wq_getI 15 fl_X3_51 dX3_findCosts_12 rfl rfl (L_ob hl) ?_
    refine wq_ic_ge 18 106 dX3_findCosts_15 rfl (by decide) (fun c15 => absurd c15 (by rw [hcR]; exact nI_ge (by omega) (by omega))) (fun c15 => ?_)
    refine wq_iload_n 19 2 dX3_findCosts_18 rfl rfl rfl ?_
    refine wq_bipush 21 90 dX3_findCosts_19 rfl (by decide) ?_
    refine wq_ic_ge 24 106 dX3_findCosts_21 rfl (by decide) (fun c21 => absurd c21 (nI_ge (b := 90) (by omega) (by decide))) (fun c21 => ?_)
    refine wq_iconst 25 1 dX3_findCosts_24 rfl (by decide) ?_
    refine wq_istore_n 26 3 [_, _, _, _, _] dX3_findCosts_25 rfl rfl rfl (Nat.le_of_ble_eq_true rfl) rfl ?_
    exact inner 3 1 C _ (by omega) (by omega) hC
set_option maxRecDepth 20000 in
set_option maxHeartbeats 2000000 in
theorem sp_X3_findCosts {g : Gl} {D : Nat} {b : Bool} {I : IM} {L : LM} {a l n : Nat} {p : Pg} (hD : 6 ≤ D) (ha : IsN a) (hl : IsL l) (h : LR I L l n p) (hR : RtR (I (a + 3)) p n n) : Me g D MX3_findCosts [rf g a, rf g l] b I L (fun r b' I' L' => r = none ∧ b' = b ∧ L' = L ∧ ∃ C, I' = va_up I (a + 5) C ∧ CtR C p n n 1) := by
  refine Me.of [some (rf g a), some (rf g l), none, none, none] 3 rfl pf_X3_findCosts (Nat.le_of_ble_eq_true rfl) ?_
  refine wq_bload_n 1 0 dX3_findCosts_0 rfl rfl rfl ?_
  refine wq_getR 4 fl_X3_25 dX3_findCosts_1 rfl rfl (N_ob ha) (N_rf4 ha) ?_
  refine wq_iconst 5 0 dX3_findCosts_4 rfl (by decide) ?_
  refine cSv2 8 (sp_J7_fill_53178 (N_ar4 ha) (by decide) 0) ml_X3_91 mf_J7_fill_53178 dX3_findCosts_5 rfl (Nat.le_of_ble_eq_true rfl) (by omega) ?_
  refine wq_iconst 9 0 dX3_findCosts_8 rfl (by decide) ?_
  refine wq_istore_n 10 2 [_, _, _, _, _] dX3_findCosts_9 rfl rfl rfl (Nat.le_of_ble_eq_true rfl) rfl ?_
  refine lp_X3_costs hD ha hl h hR (fun C hC => ⟨rfl, rfl, rfl, C, rfl, hC⟩) n 0 _ _ _ (by omega) (fun x hx => ⟨fun _ => ?_, fun _ ⟨i, v, z1, z2, _⟩ => by omega⟩)
  rw [if_pos (by omega), CsN, show tmW p 0 x 1 = 0 by simp [tmW], Nat.zero_mul]
  rfl
/-- what Needs at a knows of the listing p -/
def NdR (I : IM) (L : LM) (a : Nat) (p : Pg) (n : Nat) : Prop := (∀ i, i < n → L (a + 2) i = Lvb p n i) ∧ EdR (L (a + 4)) p (Lvb p n) n ∧ CtR (I (a + 5)) p n n 1
set_option maxRecDepth 20000 in
set_option maxHeartbeats 2000000 in
theorem sp_X3_find {g : Gl} {D : Nat} {b : Bool} {I : IM} {L : LM} {a l n B : Nat} {p : Pg} (hD : 7 ≤ D) (ha : IsN a) (hl : IsL l) (h : LR I L l n p) (hw : WfB B p n) : Me g D MX3_find [rf g a, rf g l] b I L (fun r b' I' L' => r = none ∧ b' = b ∧ NdR I' L' a p n ∧ Off [a + 1, a + 2, a + 3, a + 4, a + 5] I L I' L') := by
  have ap := fun i j hi hj => N_apart (i := i) (j := j) ha hl hi hj
  refine Me.of [some (rf g a), some (rf g l)] 0 rfl pf_X3_find (Nat.le_of_ble_eq_true rfl) ?_
  refine wq_bload_n 1 0 dX3_find_0 rfl rfl rfl ?_
  refine wq_bload_n 2 1 dX3_find_1 rfl rfl rfl ?_
  refine cVp1 5 (sp_X3_findLive (by omega) ha hl h hw) ml_X3_28 mf_X3_findLive dX3_find_2 rfl (N_ob ha) (by decide) rfl (Nat.le_of_ble_eq_true rfl) (by omega) ?_
  rintro _ _ _ _ ⟨rfl, rfl, rfl, S, rfl, hS⟩
  have h1 : LR _ (lvMem L a S) l n p := LR_keep h (fun _ _ => rfl) (fun j hj => lvMem_o _ _ _ (fun e => ap 1 j (by omega) hj e.symm) (fun e => ap 2 j (by omega) hj e.symm))
  refine wq_bload_n 6 0 dX3_find_5 rfl rfl rfl ?_
  refine wq_bload_n 7 1 dX3_find_6 rfl rfl rfl ?_
  refine cVp1 10 (sp_X3_findEdges (by omega) ha hl h1 hw (fun i hi => by rw [lvMem_2]; exact hS i hi)) ml_X3_32 mf_X3_findEdges dX3_find_7 rfl (N_ob ha) (by decide) rfl (Nat.le_of_ble_eq_true rfl) (by omega) ?_
  rintro _ _ _ _ ⟨rfl, rfl, rfl, E, rfl, hE⟩
  have h2 := LR_keep h1 (fun _ _ => rfl) (L' := va_up (lvMem L a S) (a + 4) E) (fun j hj => va_up_ne _ _ (fun e => ap 4 j (by omega) hj e.symm))
  refine wq_bload_n 11 0 dX3_find_10 rfl rfl rfl ?_
  refine wq_bload_n 12 1 dX3_find_11 rfl rfl rfl ?_
  refine cVp1 15 (sp_X3_findRates (by omega) ha hl h2 hw) ml_X3_35 mf_X3_findRates dX3_find_12 rfl (N_ob ha) (by decide) rfl (Nat.le_of_ble_eq_true rfl) (by omega) ?_
  rintro _ _ _ _ ⟨rfl, rfl, rfl, R, rfl, hR⟩
  have h3 := LR_keep h2 (I' := va_up _ (a + 3) R) (fun j hj => va_up_ne _ _ (fun e => ap 3 j (by omega) hj e.symm)) (fun _ _ => rfl)
  refine wq_bload_n 16 0 dX3_find_15 rfl rfl rfl ?_
  refine wq_bload_n 17 1 dX3_find_16 rfl rfl rfl ?_
  refine cVp1 20 (sp_X3_findCosts (by omega) ha hl h3 (by rw [va_up_self]; exact hR)) ml_X3_38 mf_X3_findCosts dX3_find_17 rfl (N_ob ha) (by decide) rfl (Nat.le_of_ble_eq_true rfl) (by omega) ?_
  rintro _ _ _ _ ⟨rfl, rfl, rfl, C, rfl, hC⟩
  refine rr dX3_find_20 rfl ?_
  refine ⟨rfl, rfl, ⟨fun i hi => ?_, ?_, ?_⟩, fun x hx => ?_⟩
  · rw [va_up_ne _ _ (by omega), lvMem_2]; exact hS i hi
  · rw [va_up_self]; exact hE
  · rw [va_up_self]; exact hC
  · simp only [List.mem_cons, List.not_mem_nil, or_false, not_or] at hx
    rw [va_up_ne _ _ hx.2.2.2.2, va_up_ne _ _ hx.2.2.1, va_up_ne _ _ hx.2.2.2.1, lvMem_o _ _ _ hx.1 hx.2.1]
    exact ⟨rfl, rfl⟩
