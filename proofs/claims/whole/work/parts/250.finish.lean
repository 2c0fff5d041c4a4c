/-! Allotment: begin, keepFirstRound, finish -/
set_option maxRecDepth 20000 in
theorem sp_X0_begin {g : Gl} {D : Nat} {b : Bool} {I : IM} {L : LM} {n : Nat} {p : Pg} (hD : 2 ≤ D) (h : LR I L 3 n p) : Me g D MX0_begin [rf g 14, rf g 3] b I L (fun r b' I' L' => r = none ∧ b' = b ∧ LR I' L' (nwA b) n p ∧ (∀ x, x < 64 → I' 37 x = -6) ∧ I' 14 10 = 0 ∧ I' 14 11 = 0 ∧ I' 14 12 = 16 ∧ I' 14 13 = 0 ∧ I' 14 14 = 0 ∧ ∀ x, x < 14 ∨ 50 ≤ x → I' x = I x ∧ L' x = L x) := by
  have h3 : IsL 3 := Or.inl rfl
  refine Me.of [some (rf g 14), some (rf g 3)] 0 rfl pf_X0_begin (Nat.le_of_ble_eq_true rfl) ?_
  refine wq_bload_n 1 0 dX0_begin_0 rfl rfl rfl ?_
  refine wq_getR 4 fl_X0_42 dX0_begin_1 rfl rfl o_14 (rfl : (Tb b).2.2.2 14 6 = some (nwA b)) ?_
  refine wq_bload_n 5 1 dX0_begin_4 rfl rfl rfl ?_
  refine cVp1 8 (sp_X2_copyFrom (by omega) (nwA_l b) h3 (by cases b <;> decide) h) ml_X0_96 mf_X2_copyFrom dX0_begin_5 rfl (L_ob (nwA_l b)) (by decide) rfl (Nat.le_of_ble_eq_true rfl) (by omega) ?_
  rintro _ b I1 L1 ⟨rfl, rfl, hL, hoff⟩
  refine wq_bload_n 9 0 dX0_begin_8 rfl rfl rfl ?_
  refine wq_getR 12 fl_X0_32 dX0_begin_9 rfl rfl o_14 (rfl : (Tb _).2.2.2 14 3 = some 37) ?_
  refine wq_bipush 14 (-6) dX0_begin_12 rfl (by decide) ?_
  refine cSv2 17 (sp_J7_fill_53178 a_37 (by decide) _) ml_X0_99 mf_J7_fill_53178 dX0_begin_14 rfl (Nat.le_of_ble_eq_true rfl) (by omega) ?_
  refine wq_bload_n 18 0 dX0_begin_17 rfl rfl rfl ?_
  refine wq_iconst 19 0 dX0_begin_18 rfl (by decide) ?_
  refine wq_putI 22 fl_X0_56 dX0_begin_19 rfl rfl rfl rfl rfl o_14 ?_
  refine wq_bload_n 23 0 dX0_begin_22 rfl rfl rfl ?_
  refine wq_iconst 24 0 dX0_begin_23 rfl (by decide) ?_
  refine wq_putI 27 fl_X0_59 dX0_begin_24 rfl rfl rfl rfl rfl o_14 ?_
  refine wq_bload_n 28 0 dX0_begin_27 rfl rfl rfl ?_
  refine wq_bipush 30 16 dX0_begin_28 rfl (by decide) ?_
  refine wq_putI 33 fl_X0_62 dX0_begin_30 rfl rfl rfl rfl rfl o_14 ?_
  refine wq_bload_n 34 0 dX0_begin_33 rfl rfl rfl ?_
  refine wq_iconst 35 0 dX0_begin_34 rfl (by decide) ?_
  refine wq_putI 38 fl_X0_65 dX0_begin_35 rfl rfl rfl rfl rfl o_14 ?_
  refine wq_bload_n 39 0 dX0_begin_38 rfl rfl rfl ?_
  refine wq_iconst 40 0 dX0_begin_39 rfl (by decide) ?_
  refine wq_putI 43 fl_X0_68 dX0_begin_40 rfl rfl rfl rfl rfl o_14 ?_
  refine wq_gen (fun I2 L2 eI2 eL2 => ?_)
  refine rr dX0_begin_43 rfl ?_
  have ne : ∀ j, j < 5 → nwA b + j ≠ 14 ∧ nwA b + j ≠ 37 := fun j hj => ⟨(nx_ne b hj).2.2.2.1, (nx_ne b hj).2.2.2.2.2.1⟩
  have ix : ∀ x, x ≠ 14 → x ≠ 37 → I2 x = I1 x := fun x x1 x2 => by rw [eI2]; simp [va_up, x1, x2]
  have nf : ∀ x, x < 14 ∨ 50 ≤ x → x ∉ fL (nwA b) := fun x hx => by cases b <;> simp [nwA] <;> omega
  refine ⟨rfl, rfl, LR_keep hL (fun j hj => ix _ (ne j hj).1 (ne j hj).2) (fun j hj => by rw [eL2]), fun x hx => ?_, ?_, ?_, ?_, ?_, ?_, fun x hx => ⟨?_, ?_⟩⟩
  · rw [eI2]; simp [va_up, hx]
  · rw [eI2]; simp [va_up]
  · rw [eI2]; simp [va_up]
  · rw [eI2]; simp [va_up]
  · rw [eI2]; simp [va_up]
  · rw [eI2]; simp [va_up]
  · rw [ix x (by omega) (by omega), (hoff x (nf x hx)).1]
  · rw [eL2, (hoff x (nf x hx)).2]
set_option maxRecDepth 20000 in
theorem sp_X0_keep {g : Gl} {D : Nat} {b : Bool} {I : IM} {L : LM} (hD : 1 ≤ D) : Me g D MX0_keepFirstRound [rf g 14] b I L (fun r b' I' L' => r = none ∧ b' = b ∧ (∀ i, i < 154 → I' 38 i = I 31 i) ∧ I' 14 8 = I 21 13 ∧ (∀ z, z ≠ 8 → I' 14 z = I 14 z) ∧ L' 14 9 = L 21 17 ∧ (∀ x, x ≠ 14 → x ≠ 38 → I' x = I x) ∧ ∀ x, x ≠ 14 → L' x = L x) := by
  have hfr : 1 ≤ D := hD
  have hlo : 0 + 38 ≤ 38 * D := by omega
  refine Me.of [some (rf g 14)] 0 rfl pf_X0_keepFirstRound (Nat.le_of_ble_eq_true rfl) ?_
  refine wq_bload_n 1 0 dX0_keepFirstRound_0 rfl rfl rfl ?_
  refine wq_getR 4 fl_X0_21 dX0_keepFirstRound_1 rfl rfl o_14 (rfl : (Tb _).2.2.2 14 1 = some 21) ?_
  refine wq_getR 7 fl_X0_105 dX0_keepFirstRound_4 rfl rfl o_21 (rfl : (Tb _).2.2.2 21 9 = some 31) ?_
  refine wq_iconst 8 0 dX0_keepFirstRound_7 rfl (by decide) ?_
  refine wq_bload_n 9 0 dX0_keepFirstRound_8 rfl rfl rfl ?_
  refine wq_getR 12 fl_X0_36 dX0_keepFirstRound_9 rfl rfl o_14 (rfl : (Tb _).2.2.2 14 4 = some 38) ?_
  refine wq_iconst 13 0 dX0_keepFirstRound_12 rfl (by decide) ?_
  refine wq_bload_n 14 0 dX0_keepFirstRound_13 rfl rfl rfl ?_
  refine wq_getR 17 fl_X0_36 dX0_keepFirstRound_14 rfl rfl o_14 (rfl : (Tb _).2.2.2 14 4 = some 38) ?_
  refine wq_alen 18 (nI 154) dX0_keepFirstRound_17 rfl a_38 (by decide) rfl ?_
  refine wq_copyI 21 al_X0_108 w_native w_astat w_sysinit dX0_keepFirstRound_18 rfl a_31 a_38 (i := 0) (j := 0) (k := 154) rfl rfl rfl (by decide) (by decide) (by decide) (by decide) hfr hlo ?_
  refine wq_bload_n 22 0 dX0_keepFirstRound_21 rfl rfl rfl ?_
  refine wq_bload_n 23 0 dX0_keepFirstRound_22 rfl rfl rfl ?_
  refine wq_getR 26 fl_X0_21 dX0_keepFirstRound_23 rfl rfl o_14 (rfl : (Tb _).2.2.2 14 1 = some 21) ?_
  refine wq_getI 29 fl_X0_114 dX0_keepFirstRound_26 rfl rfl o_21 ?_
  refine wq_putI 32 fl_X0_48 dX0_keepFirstRound_29 rfl rfl rfl rfl rfl o_14 ?_
  refine wq_bload_n 33 0 dX0_keepFirstRound_32 rfl rfl rfl ?_
  refine wq_bload_n 34 0 dX0_keepFirstRound_33 rfl rfl rfl ?_
  refine wq_getR 37 fl_X0_21 dX0_keepFirstRound_34 rfl rfl o_14 (rfl : (Tb _).2.2.2 14 1 = some 21) ?_
  refine wq_getL 40 fl_X0_86 dX0_keepFirstRound_37 rfl rfl o_21 ?_
  refine wq_putL 43 fl_X0_52 dX0_keepFirstRound_40 rfl rfl rfl rfl rfl o_14 ?_
  refine wq_gen (fun I2 L2 eI2 eL2 => ?_)
  refine rr dX0_keepFirstRound_43 rfl ?_
  refine ⟨rfl, rfl, fun i hi => ?_, ?_, fun z hz => ?_, ?_, fun x x1 x2 => ?_, fun x hx => ?_⟩
  · rw [eI2, va_up_ne _ _ (by decide), va_up_self, pk_cpy_in (by omega) (by omega)]; simp
  · rw [eI2]; simp [va_up]
  · rw [eI2]; simp [va_up, hz]
  · rw [eL2]; simp [va_up]
  · rw [eI2]; simp [va_up, x1, x2]
  · rw [eL2]; simp [va_up, hx]
/-- the CODE -/
abbrev CS : Type := Pg × Nat × Nat
def cvA (k w : Nat) (p : Pg) (n i v : Nat) : Int32 := if shp (p i 0) (nI v) = 114 ∨ shp (p i 0) (nI v) = 119 then rgA k w p n (ndA k w p n (p i v).toNatClampNeg) else p i v
def cdR (k w : Nat) (p : Pg) (n i : Nat) (s : CS) : CS := if p i 0 = 1 ∧ cvA k w p n i 1 = cvA k w p n i 2 then (s.1, s.2.1, s.2.2 + 1) else (pX s.1 s.2.1 (p i 0) (cvA k w p n i 1) (cvA k w p n i 2) (cvA k w p n i 3), s.2.1 + 1, s.2.2)
def cdA (k w : Nat) (p : Pg) (n : Nat) : Nat → CS
  | 0 => (fun _ _ => 0, 0, 0)
  | i + 1 => cdR k w p n i (cdA k w p n i)
theorem cd_le (k w : Nat) (p : Pg) (n : Nat) : ∀ i, (cdA k w p n i).2.1 + (cdA k w p n i).2.2 = i
  | 0 => rfl
  | i + 1 => by
    have := cd_le k w p n i
    rw [cdA, cdR]
    split
    · show (cdA k w p n i).2.1 + ((cdA k w p n i).2.2 + 1) = i + 1; omega
    · show (cdA k w p n i).2.1 + 1 + (cdA k w p n i).2.2 = i + 1; omega
/-- what finish may change -/
def FF (I : IM) (L : LM) (I' : IM) (L' : LM) : Prop := (∀ x, x ≠ 14 → x ≠ 39 → x ∉ fL 32 → I' x = I x) ∧ (∀ z, z ≠ 13 → I' 14 z = I 14 z) ∧ ∀ x, x ∉ fL 32 → L' x = L x
theorem FF.trans {I I' I'' : IM} {L L' L'' : LM} (h : FF I L I' L') (h' : FF I' L' I'' L'') : FF I L I'' L'' := ⟨fun x x1 x2 x3 => (h'.1 x x1 x2 x3).trans (h.1 x x1 x2 x3), fun z hz => (h'.2.1 z hz).trans (h.2.1 z hz), fun x hx => (h'.2.2 x hx).trans (h.2.2 x hx)⟩
theorem FF_off {I : IM} {L : LM} {I' : IM} {L' : LM} (h : Off (fL 32) I L I' L') : FF I L I' L' := ⟨fun x _ _ hx => (h x hx).1, fun z _ => by rw [(h 14 (by decide)).1], fun x hx => (h x hx).2⟩
theorem FF_39 {I : IM} {L : LM} {I' : IM} (h : ∀ x, x ≠ 39 → I' x = I x) : FF I L I' L := ⟨fun x _ h2 _ => h x h2, fun z _ => by rw [h 14 (by decide)], fun _ _ => rfl⟩
theorem nw_32 (b : Bool) {j : Nat} (hj : j < 5) : nwA b + j ≠ 14 ∧ nwA b + j ≠ 39 ∧ nwA b + j ∉ fL 32 := by
  cases b <;> simp [nwA] <;> omega
theorem FF_nw {b : Bool} {I : IM} {L : LM} {I' : IM} {L' : LM} {n : Nat} {p : Pg} (h : FF I L I' L') (hl : LR I L (nwA b) n p) : LR I' L' (nwA b) n p := LR_keep hl (fun j hj => h.1 _ (nw_32 b hj).1 (nw_32 b hj).2.1 (nw_32 b hj).2.2) (fun j hj => h.2.2 _ (nw_32 b hj).2.2)
theorem cv_is {B : Nat} {k w : Nat} {p : Pg} {n i v : Nat} (hw : WfB B p n) (hi : i < n) (h1 : 1 ≤ v) (h4 : v < 4) : (nmP p i v = -6 ∧ cvA k w p n i v = p i v) ∨ (∃ x, x < 64 ∧ nmP p i v = nI x ∧ cvA k w p n i v = rgA k w p n (ndA k w p n x)) := by
  unfold cvA
  by_cases c : shp (p i 0) (nI v) = 114 ∨ shp (p i 0) (nI v) = 119
  · obtain ⟨x, x1, -, x2⟩ := RWf_name (hw i hi) h1 h4 c
    exact Or.inr ⟨x, x1, nmP_of x1 c x2, by rw [if_pos c, x2, nI_clamp (by omega)]⟩
  · exact Or.inl ⟨by rw [nmP, if_neg c], by rw [if_neg c]⟩
set_option maxRecDepth 20000 in
set_option maxHeartbeats 4000000 in
theorem lp_X0_fin1 {g : Gl} {D : Nat} {b : Bool} {I : IM} {L : LM} {n B i k w : Nat} {p : Pg} (hD : 6 ≤ D) (h : LR I L (nwA b) n p) (hw : WfB B p n) (hi : i < n) (hA : ∀ x, x < 64 → I 25 x = nI (aA (endA k w p n) x)) (ga : ∀ x, x < 64 → aA (endA k w p n) x ≤ x) (hG : Ag64 (I 26) (bckA k w p n).1) {post : Option Value → Bool → IM → LM → Prop} (kk : ∀ I1 l4, (∀ v, 1 ≤ v → v < 4 → I1 39 v = cvA k w p n i v) → (∀ x, x ≠ 39 → I1 x = I x) → Wp (Kn g D MX0_finish post) (Tb b) 83 [some (rf g 14), some (.int (nI i)), some (.int (p i 0)), some (.int (nI 4)), l4] [] I1 L) : ∀ r v I1 l4, v + r = 4 → 1 ≤ v → (∀ u, 1 ≤ u → u < v → I1 39 u = cvA k w p n i u) → (∀ x, x ≠ 39 → I1 x = I x) → Wp (Kn g D MX0_finish post) (Tb b) 32 [some (rf g 14), some (.int (nI i)), some (.int (p i 0)), some (.int (nI v)), l4] [] I1 L := by
  intro r
  induction r with
  | zero =>
    intro v I1 l4 hr h1 h2 h3
    have ev : v = 4 := by omega
    subst ev
    refine wq_iload_n 33 3 dX0_finish_32 rfl rfl rfl ?_
    refine wq_iconst 34 3 dX0_finish_33 rfl (by decide) ?_
    refine wq_ic_gt 37 83 dX0_finish_34 rfl (by decide) (fun c34 => ?_) (fun c34 => absurd (by decide) c34)
    exact kk I1 _ h2 h3
  | succ r ih =>
    intro v I1 l4 hr h1 h2 h3
    have hn := h.1
    have hl1 : LR I1 L (nwA b) n p := LR_keep h (fun j hj => h3 _ (nw_32 b hj).2.1) (fun _ _ => rfl)
    have pE : I1 (nwA b + 1) (4 * i + v) = p i v := hl1.2.2.2.2.2.1 i hi v (by omega)
    have nE := nm_eq hl1 hi (show v < 4 by omega)
    have hA1 : ∀ x, x < 64 → I1 25 x = nI (aA (endA k w p n) x) := fun x hx => by rw [h3 25 (by decide)]; exact hA x hx
    have goon : ∀ I2 l4, I2 39 = va_up (I1 39) v (cvA k w p n i v) → (∀ x, x ≠ 39 → I2 x = I1 x) → Wp (Kn g D MX0_finish post) (Tb b) 32 [some (rf g 14), some (.int (nI i)), some (.int (p i 0)), some (.int (nI v + 1)), l4] [] I2 L := by
      intro I2 l4 i39 ix
      rw [← nI_succ]
      refine ih (v + 1) I2 _ (by omega) (by omega) (fun u u1 u2 => ?_) (fun x hx => (ix x hx).trans (h3 x hx))
      rw [i39]
      by_cases e : u = v
      · rw [e, va_up_self]
      · rw [va_up_ne _ _ e]; exact h2 u u1 (by omega)
    rcases cv_is (k := k) (w := w) hw hi h1 (show v < 4 by omega) with ⟨q1, q2⟩ | ⟨x, x1, q1, q2⟩
    · skip
      refine wq_iload_n 33 3 dX0_finish_32 rfl rfl rfl ?_
      refine wq_iconst 34 3 dX0_finish_33 rfl (by decide) ?_
      refine wq_ic_gt 37 83 dX0_finish_34 rfl (by decide) (fun c34 => absurd c34 (nI_nlt (b := v) (a := 3) (by omega) (by decide))) (fun c34 => ?_)
      refine wq_bload_n 38 0 dX0_finish_37 rfl rfl rfl ?_
      refine wq_getR 41 fl_X0_42 dX0_finish_38 rfl rfl o_14 (rfl : (Tb b).2.2.2 14 6 = some (nwA b)) ?_
      refine wq_iload_n 42 1 dX0_finish_41 rfl rfl rfl ?_
      refine wq_iload_n 43 3 dX0_finish_42 rfl rfl rfl ?_
      refine cVi2 46 (sp_X2_nameAt (by omega) (nwA_l b) hl1.2.1 hn i v rfl rfl (by omega) (by omega)) ml_X0_145 mf_X2_nameAt dX0_finish_43 rfl (L_ob (nwA_l b)) (by decide) rfl (Nat.le_of_ble_eq_true rfl) (by omega) ?_
      rw [nE, q1]
      refine wq_istore 48 [_, _, _, _, _] dX0_finish_46 rfl rfl (Nat.le_of_ble_eq_true rfl) rfl ?_
      refine wq_bload_n 49 0 dX0_finish_48 rfl rfl rfl ?_
      refine wq_getR 52 fl_X0_39 dX0_finish_49 rfl rfl o_14 (rfl : (Tb _).2.2.2 14 5 = some 39) ?_
      refine wq_iload_n 53 3 dX0_finish_52 rfl rfl rfl ?_
      refine wq_iload 55 dX0_finish_53 rfl rfl ?_
      refine wq_if_lt 58 67 dX0_finish_55 rfl (by decide) (fun c55 => ?_) (fun c55 => absurd (by decide) c55)
      refine wq_bload_n 68 0 dX0_finish_67 rfl rfl rfl ?_
      refine wq_getR 71 fl_X0_42 dX0_finish_68 rfl rfl o_14 (rfl : (Tb b).2.2.2 14 6 = some (nwA b)) ?_
      refine wq_iload_n 72 1 dX0_finish_71 rfl rfl rfl ?_
      refine wq_iload_n 73 3 dX0_finish_72 rfl rfl rfl ?_
      refine cVi2 76 (sp_X2_partAt (nwA_l b) hl1.2.1 hn i v rfl rfl (by omega) (by omega)) ml_X0_141 mf_X2_partAt dX0_finish_73 rfl (L_ob (nwA_l b)) (by decide) rfl (Nat.le_of_ble_eq_true rfl) (by omega) ?_
      rw [pE, ← q2]
      refine wq_iast 77 dX0_finish_76 rfl a_39 (Ix.nI (by omega) (by decide)) ?_
      refine wq_iinc 80 (_ + 1) [_, _, _, _, _] dX0_finish_77 rfl rfl (inc1 _) rfl (Nat.le_of_ble_eq_true rfl) rfl ?_
      refine wq_goto 32 dX0_finish_80 (by decide) ?_
      exact goon _ _ (va_up_self _ _ _) (fun x hx => va_up_ne _ _ hx)
    · have lx := rt_lt ga x1
      have eG : I1 26 (rt (aA (endA k w p n)) x) = cvA k w p n i v := by rw [h3 26 (by decide), hG _ lx, q2]; rfl
      refine wq_iload_n 33 3 dX0_finish_32 rfl rfl rfl ?_
      refine wq_iconst 34 3 dX0_finish_33 rfl (by decide) ?_
      refine wq_ic_gt 37 83 dX0_finish_34 rfl (by decide) (fun c34 => absurd c34 (nI_nlt (b := v) (a := 3) (by omega) (by decide))) (fun c34 => ?_)
      refine wq_bload_n 38 0 dX0_finish_37 rfl rfl rfl ?_
      refine wq_getR 41 fl_X0_42 dX0_finish_38 rfl rfl o_14 (rfl : (Tb b).2.2.2 14 6 = some (nwA b)) ?_
      refine wq_iload_n 42 1 dX0_finish_41 rfl rfl rfl ?_
      refine wq_iload_n 43 3 dX0_finish_42 rfl rfl rfl ?_
      refine cVi2 46 (sp_X2_nameAt (by omega) (nwA_l b) hl1.2.1 hn i v rfl rfl (by omega) (by omega)) ml_X0_145 mf_X2_nameAt dX0_finish_43 rfl (L_ob (nwA_l b)) (by decide) rfl (Nat.le_of_ble_eq_true rfl) (by omega) ?_
      rw [nE, q1]
      refine wq_istore 48 [_, _, _, _, _] dX0_finish_46 rfl rfl (Nat.le_of_ble_eq_true rfl) rfl ?_
      refine wq_bload_n 49 0 dX0_finish_48 rfl rfl rfl ?_
      refine wq_getR 52 fl_X0_39 dX0_finish_49 rfl rfl o_14 (rfl : (Tb _).2.2.2 14 5 = some 39) ?_
      refine wq_iload_n 53 3 dX0_finish_52 rfl rfl rfl ?_
      refine wq_iload 55 dX0_finish_53 rfl rfl ?_
      refine wq_if_lt 58 67 dX0_finish_55 rfl (by decide) (fun c55 => absurd c55 (nI_pos (by omega))) (fun c55 => ?_)
      refine wq_bload_n 59 0 dX0_finish_58 rfl rfl rfl ?_
      refine wq_iload 61 dX0_finish_59 rfl rfl ?_
      refine cVi1 64 (sp_X0_registerOf (by omega) hA1 ga x rfl x1) ml_X0_163 mf_X0_registerOf dX0_finish_61 rfl o_14 (by decide) rfl (Nat.le_of_ble_eq_true rfl) (by omega) ?_
      rw [eG]
      refine wq_goto 76 dX0_finish_64 (by decide) ?_
      refine wq_iast 77 dX0_finish_76 rfl a_39 (Ix.nI (by omega) (by decide)) ?_
      refine wq_iinc 80 (_ + 1) [_, _, _, _, _] dX0_finish_77 rfl rfl (inc1 _) rfl (Nat.le_of_ble_eq_true rfl) rfl ?_
      refine wq_goto 32 dX0_finish_80 (by decide) ?_
      exact goon _ _ (va_up_self _ _ _) (fun x hx => va_up_ne _ _ hx)
set_option maxRecDepth 20000 in
set_option maxHeartbeats 4000000 in
theorem sp_X0_finish {g : Gl} {D : Nat} {b : Bool} {I : IM} {L : LM} {n B k w : Nat} {p : Pg} (hD : 7 ≤ D) (h : LR I L (nwA b) n p) (hw : WfB B p n) (hA : ∀ x, x < 64 → I 25 x = nI (aA (endA k w p n) x)) (ga : ∀ x, x < 64 → aA (endA k w p n) x ≤ x) (hG : Ag64 (I 26) (bckA k w p n).1) (h13 : I 14 13 = 0) : Me g D MX0_finish [rf g 14] b I L (fun r b' I' L' => r = none ∧ b' = b ∧ LR I' L' 32 (cdA k w p n n).2.1 (cdA k w p n n).1 ∧ I' 14 13 = nI (cdA k w p n n).2.2 ∧ FF I L I' L') := by
  have hn := h.1
  have h32 : IsL 32 := Or.inr (Or.inl rfl)
  refine Me.of [some (rf g 14), none, none, none, none] 4 rfl pf_X0_finish (Nat.le_of_ble_eq_true rfl) ?_
  have hoffc := Off_clear (I := I) (L := L) 32
  have lp : ∀ r i I1 L1 l2 l3 l4, i + r = n → LRc I1 L1 32 (cdA k w p n i).2.1 (cdA k w p n i).1 → I1 14 13 = nI (cdA k w p n i).2.2 → FF I L I1 L1 → Wp (Kn g D MX0_finish (fun r b' I' L' => r = none ∧ b' = b ∧ LR I' L' 32 (cdA k w p n n).2.1 (cdA k w p n n).1 ∧ I' 14 13 = nI (cdA k w p n n).2.2 ∧ FF I L I' L')) (Tb b) 9 [some (rf g 14), some (.int (nI i)), l2, l3, l4] [] I1 L1 := by
    intro r
    induction r with
    | zero =>
      intro i I1 L1 l2 l3 l4 hi hX h13' ff
      have ei : i = n := by omega
      subst ei
      have hc4 : I1 (bif b then 45 else 40) 4 = nI _ := (FF_nw (b := b) ff h).2.1
      refine wq_iload_n 10 1 dX0_finish_9 rfl rfl rfl ?_
      refine wq_bload_n 11 0 dX0_finish_10 rfl rfl rfl ?_
      refine wq_getR 14 fl_X0_42 dX0_finish_11 rfl rfl o_14 (rfl : (Tb b).2.2.2 14 6 = some (nwA b)) ?_
      refine wq_getI 17 fl_X0_123 dX0_finish_14 rfl rfl (L_ob (nwA_l b)) ?_
      refine wq_ic_ge 20 149 dX0_finish_17 rfl (by decide) (fun c17 => ?_) (fun c17 => absurd (by rw [hc4]; exact nI_le (Nat.le_refl _) (by omega)) c17)
      refine rr dX0_finish_149 rfl ?_
      exact ⟨rfl, rfl, hX.w, h13', ff⟩
    | succ r ih =>
      intro i I1 L1 l2 l3 l4 hi hX h13' ff
      have hl1 := FF_nw (b := b) ff h
      have hc4 : I1 (bif b then 45 else 40) 4 = nI _ := hl1.2.1
      have hin : i < n := by omega
      have hle := cd_le k w p n i
      have pE : I1 (nwA b + 1) (4 * i + 0) = p i 0 := hl1.2.2.2.2.2.1 i hin 0 (by omega)
      have hA1 : ∀ x, x < 64 → I1 25 x = nI (aA (endA k w p n) x) := fun x hx => by rw [ff.1 25 (by decide) (by decide) (by decide)]; exact hA x hx
      have hG1 : Ag64 (I1 26) (bckA k w p n).1 := by rw [ff.1 26 (by decide) (by decide) (by decide)]; exact hG
      refine wq_iload_n 10 1 dX0_finish_9 rfl rfl rfl ?_
      refine wq_bload_n 11 0 dX0_finish_10 rfl rfl rfl ?_
      refine wq_getR 14 fl_X0_42 dX0_finish_11 rfl rfl o_14 (rfl : (Tb b).2.2.2 14 6 = some (nwA b)) ?_
      refine wq_getI 17 fl_X0_123 dX0_finish_14 rfl rfl (L_ob (nwA_l b)) ?_
      refine wq_ic_ge 20 149 dX0_finish_17 rfl (by decide) (fun c17 => absurd c17 (by rw [hc4]; exact nI_ge (by omega) (by omega))) (fun c17 => ?_)
      refine wq_bload_n 21 0 dX0_finish_20 rfl rfl rfl ?_
      refine wq_getR 24 fl_X0_42 dX0_finish_21 rfl rfl o_14 (rfl : (Tb b).2.2.2 14 6 = some (nwA b)) ?_
      refine wq_iload_n 25 1 dX0_finish_24 rfl rfl rfl ?_
      refine wq_iconst 26 0 dX0_finish_25 rfl (by decide) ?_
      refine cVi2 29 (sp_X2_partAt (nwA_l b) hl1.2.1 hn i 0 rfl rfl (by omega) (by omega)) ml_X0_141 mf_X2_partAt dX0_finish_26 rfl (L_ob (nwA_l b)) (by decide) rfl (Nat.le_of_ble_eq_true rfl) (by omega) ?_
      rw [pE]
      refine wq_istore_n 30 2 [_, _, _, _, _] dX0_finish_29 rfl rfl rfl (Nat.le_of_ble_eq_true rfl) rfl ?_
      refine wq_iconst 31 1 dX0_finish_30 rfl (by decide) ?_
      refine wq_istore_n 32 3 [_, _, _, _, _] dX0_finish_31 rfl rfl rfl (Nat.le_of_ble_eq_true rfl) rfl ?_
      refine lp_X0_fin1 (k := k) (w := w) (by omega) hl1 hw hin hA1 ga hG1 (fun I2 l4 r39 ix => ?_) 3 1 I1 _ (by omega) (by omega) (fun u u1 u2 => by omega) (fun _ _ => rfl)
      have ff2 : FF I L I2 L1 := ff.trans (FF_39 ix)
      have hX2 : LRc I2 L1 32 (cdA k w p n i).2.1 (cdA k w p n i).1 := LRc_keep hX (fun j hj => ix _ (by omega)) (fun _ _ => rfl)
      have v1 := r39 1 (by omega) (by omega)
      have v2 := r39 2 (by omega) (by omega)
      have v3 := r39 3 (by omega) (by omega)
      have h13'' : I2 14 13 = nI (cdA k w p n i).2.2 := by rw [ix 14 (by decide)]; exact h13'
      have J116 : ¬ (p i 0 = 1 ∧ cvA k w p n i 1 = cvA k w p n i 2) → Wp (Kn g D MX0_finish (fun r b' I' L' => r = none ∧ b' = b ∧ LR I' L' 32 (cdA k w p n n).2.1 (cdA k w p n n).1 ∧ I' 14 13 = nI (cdA k w p n n).2.2 ∧ FF I L I' L')) (Tb b) 116 [some (rf g 14), some (.int (nI i)), some (.int (p i 0)), some (.int (nI 4)), l4] [] I2 L1 := by
        intro hc
        have ec : cdA k w p n (i + 1) = (pX (cdA k w p n i).1 (cdA k w p n i).2.1 (p i 0) (cvA k w p n i 1) (cvA k w p n i 2) (cvA k w p n i 3), (cdA k w p n i).2.1 + 1, (cdA k w p n i).2.2) := by rw [cdA, cdR, if_neg hc]
        refine wq_bload_n 117 0 dX0_finish_116 rfl rfl rfl ?_
        refine wq_getR 120 fl_X0_28 dX0_finish_117 rfl rfl o_14 (rfl : (Tb _).2.2.2 14 2 = some 32) ?_
        refine wq_iload_n 121 2 dX0_finish_120 rfl rfl rfl ?_
        refine wq_bload_n 122 0 dX0_finish_121 rfl rfl rfl ?_
        refine wq_getR 125 fl_X0_39 dX0_finish_122 rfl rfl o_14 (rfl : (Tb _).2.2.2 14 5 = some 39) ?_
        refine wq_iconst 126 1 dX0_finish_125 rfl (by decide) ?_
        refine wq_iald 127 dX0_finish_126 rfl a_39 (Ix.nI (j := 1) (by omega) (by decide)) ?_
        rw [v1]
        refine wq_bload_n 128 0 dX0_finish_127 rfl rfl rfl ?_
        refine wq_getR 131 fl_X0_39 dX0_finish_128 rfl rfl o_14 (rfl : (Tb _).2.2.2 14 5 = some 39) ?_
        refine wq_iconst 132 2 dX0_finish_131 rfl (by decide) ?_
        refine wq_iald 133 dX0_finish_132 rfl a_39 (Ix.nI (j := 2) (by omega) (by decide)) ?_
        rw [v2]
        refine wq_bload_n 134 0 dX0_finish_133 rfl rfl rfl ?_
        refine wq_getR 137 fl_X0_39 dX0_finish_134 rfl rfl o_14 (rfl : (Tb _).2.2.2 14 5 = some 39) ?_
        refine wq_iconst 138 3 dX0_finish_137 rfl (by decide) ?_
        refine wq_iald 139 dX0_finish_138 rfl a_39 (Ix.nI (j := 3) (by omega) (by decide)) ?_
        rw [v3]
        refine cVp4 142 (sp_X2_add (by omega) h32 hX2 (by omega) _ _ _ _) ml_X0_159 mf_X2_add dX0_finish_139 rfl o_32 (by decide) rfl (Nat.le_of_ble_eq_true rfl) (by omega) ?_
        rintro _ b I3 L3 ⟨rfl, rfl, hLR, hoff⟩
        refine wq_pop 143 dX0_finish_142 rfl rfl ?_
        refine wq_iinc 146 (_ + 1) [_, _, _, _, _] dX0_finish_143 rfl rfl (inc1 _) rfl (Nat.le_of_ble_eq_true rfl) rfl ?_
        refine wq_goto 9 dX0_finish_146 (by decide) ?_
        rw [← nI_succ]
        refine ih (i + 1) I3 L3 _ _ _ (by omega) ?_ ?_ (ff2.trans (FF_off hoff))
        · rw [ec]; exact hLR
        · rw [ec, (hoff 14 (by decide)).1]; exact h13''
      refine wq_iload_n 84 2 dX0_finish_83 rfl rfl rfl ?_
      refine wq_iconst 85 1 dX0_finish_84 rfl (by decide) ?_
      refine wq_ic_ne 88 116 dX0_finish_85 rfl (by decide) (fun c85 => ?_) (fun c85 => ?_)
      · skip
        exact J116 (fun z => c85 z.1)
      · skip
        refine wq_bload_n 89 0 dX0_finish_88 rfl rfl rfl ?_
        refine wq_getR 92 fl_X0_39 dX0_finish_89 rfl rfl o_14 (rfl : (Tb _).2.2.2 14 5 = some 39) ?_
        refine wq_iconst 93 1 dX0_finish_92 rfl (by decide) ?_
        refine wq_iald 94 dX0_finish_93 rfl a_39 (Ix.nI (j := 1) (by omega) (by decide)) ?_
        rw [v1]
        refine wq_bload_n 95 0 dX0_finish_94 rfl rfl rfl ?_
        refine wq_getR 98 fl_X0_39 dX0_finish_95 rfl rfl o_14 (rfl : (Tb _).2.2.2 14 5 = some 39) ?_
        refine wq_iconst 99 2 dX0_finish_98 rfl (by decide) ?_
        refine wq_iald 100 dX0_finish_99 rfl a_39 (Ix.nI (j := 2) (by omega) (by decide)) ?_
        rw [v2]
        refine wq_ic_ne 103 116 dX0_finish_100 rfl (by decide) (fun c100 => ?_) (fun c100 => ?_)
        · skip
          exact J116 (fun z => c100 z.2)
        · skip
          refine wq_bload_n 104 0 dX0_finish_103 rfl rfl rfl ?_
          refine wq_dup 105 dX0_finish_104 rfl rfl ?_
          refine wq_getI 108 fl_X0_65 dX0_finish_105 rfl rfl o_14 ?_
          refine wq_iconst 109 1 dX0_finish_108 rfl (by decide) ?_
          refine wq_iadd 110 dX0_finish_109 rfl ?_
          refine wq_putI 113 fl_X0_65 dX0_finish_110 rfl rfl rfl rfl rfl o_14 ?_
          refine wq_goto 143 dX0_finish_113 (by decide) ?_
          refine wq_iinc 146 (_ + 1) [_, _, _, _, _] dX0_finish_143 rfl rfl (inc1 _) rfl (Nat.le_of_ble_eq_true rfl) rfl ?_
          refine wq_goto 9 dX0_finish_146 (by decide) ?_
          have ec : cdA k w p n (i + 1) = ((cdA k w p n i).1, (cdA k w p n i).2.1, (cdA k w p n i).2.2 + 1) := by rw [cdA, cdR, if_pos ⟨c85, c100⟩]
          rw [← nI_succ, h13'', ← nI_succ]
          refine ih (i + 1) _ L1 _ _ _ (by omega) ?_ ?_ (ff2.trans ⟨fun x x1 _ _ => va_up_ne _ _ x1, fun z hz => by rw [va_up_self, va_up_ne _ _ hz], fun _ _ => rfl⟩)
          · rw [ec]; exact LRc_keep hX2 (fun j hj => va_up_ne _ _ (by omega)) (fun _ _ => rfl)
          · rw [ec, va_up_self, va_up_self]
  refine wq_bload_n 1 0 dX0_finish_0 rfl rfl rfl ?_
  refine wq_getR 4 fl_X0_28 dX0_finish_1 rfl rfl o_14 (rfl : (Tb _).2.2.2 14 2 = some 32) ?_
  refine cVv0 7 (sp_X2_clear h32) ml_X0_120 mf_X2_clear dX0_finish_4 rfl o_32 (by decide) rfl (Nat.le_of_ble_eq_true rfl) (by omega) ?_
  refine wq_iconst 8 0 dX0_finish_7 rfl (by decide) ?_
  refine wq_istore_n 9 1 [_, _, _, _, _] dX0_finish_8 rfl rfl rfl (Nat.le_of_ble_eq_true rfl) rfl ?_
  exact lp n 0 _ _ _ _ _ (by omega) (LR_clear 32 _) (by rw [(hoffc 14 (by decide)).1]; exact h13) (FF_off hoffc)
