/-! Round.begin -/
def rg0 (x : Nat) : Int32 := if x < 4 then nI x else -6
theorem mvI_old {p : Pg} {n m : Nat} (h : m < mvs p n) : mvI p (n + 1) m = mvI p n m := by
  rw [mvI, if_neg (fun z => by omega)]
/-- moves are laid as far as instruction i -/
def MvR (I : IM) (p : Pg) (i : Nat) : Prop := I 21 11 = nI (mvs p i) ∧ ∀ m, m < mvs p i → I 27 m = p (mvI p i m) 1 ∧ I 28 m = p (mvI p i m) 2 ∧ I 29 m = 1
set_option maxRecDepth 20000 in
set_option maxHeartbeats 2000000 in
theorem lp_X5_beg2 {g : Gl} {D : Nat} {b : Bool} {L : LM} {l n B a : Nat} {p : Pg} (hD : 6 ≤ D) (hl : IsL l) (hw : WfB B p n) {I0 : IM} {post : Option Value → Bool → IM → LM → Prop} (hp : ∀ I, MvR I p n → (∀ z, z ≠ 11 → I 21 z = I0 21 z) → (∀ x, x ∉ [21, 27, 28, 29] → I x = I0 x) → post none b I L) : ∀ r i I l4 l5, i + r = n → LR I L l n p → MvR I p i → (∀ z, z ≠ 11 → I 21 z = I0 21 z) → (∀ x, x ∉ [21, 27, 28, 29] → I x = I0 x) → Wp (Kn g D MX5_begin post) (Tb b) 109 [some (rf g 21), some (rf g l), some (rf g a), some (.int (nI i)), l4, l5] [] I L := by
  have hl21 : ∀ j, j < 5 → l + j ≠ 21 ∧ l + j ≠ 27 ∧ l + j ≠ 28 ∧ l + j ≠ 29 := fun j hj => by
    rcases hl with rfl | rfl | rfl | rfl | rfl | rfl <;> omega
  intro r
  induction r with
  | zero =>
    intro i I l4 l5 hi h hm f1 f2
    have ei : i = n := by omega
    subst ei
    refine wq_iload_n 110 3 dX5_begin_109 rfl rfl rfl ?_
    refine wq_bload_n 111 1 dX5_begin_110 rfl rfl rfl ?_
    refine wq_getI 114 fl_X5_117 dX5_begin_111 rfl rfl (L_ob hl) ?_
    refine wq_ic_ge 117 207 dX5_begin_114 rfl (by decide) (fun c114 => ?_) (fun c114 => absurd (by rw [h.2.1]; exact nI_le (Nat.le_refl _) (by have := h.1; omega)) c114)
    refine rr dX5_begin_207 rfl ?_
    exact hp I hm f1 f2
  | succ r ih =>
    intro i I l4 l5 hi h hm f1 f2
    have hn := h.1
    have hP := h.2.2.2.2.2.1 i (by omega) 0 (by omega)
    have hml := mvs_le p i
    refine wq_iload_n 110 3 dX5_begin_109 rfl rfl rfl ?_
    refine wq_bload_n 111 1 dX5_begin_110 rfl rfl rfl ?_
    refine wq_getI 114 fl_X5_117 dX5_begin_111 rfl rfl (L_ob hl) ?_
    refine wq_ic_ge 117 207 dX5_begin_114 rfl (by decide) (fun c114 => absurd c114 (by rw [h.2.1]; exact nI_ge (by omega) (by omega))) (fun c114 => ?_)
    refine wq_iload_n 118 3 dX5_begin_117 rfl rfl rfl ?_
    refine wq_bipush 120 90 dX5_begin_118 rfl (by decide) ?_
    refine wq_ic_ge 123 207 dX5_begin_120 rfl (by decide) (fun c120 => absurd c120 (nI_ge (b := 90) (by omega) (by decide))) (fun c120 => ?_)
    refine wq_bload_n 124 1 dX5_begin_123 rfl rfl rfl ?_
    refine wq_iload_n 125 3 dX5_begin_124 rfl rfl rfl ?_
    refine wq_iconst 126 1 dX5_begin_125 rfl (by decide) ?_
    refine cVi2 129 (sp_X2_nameAt (by omega) hl h.2.1 hn i 1 rfl rfl (by omega) (by omega)) ml_X5_120 mf_X2_nameAt dX5_begin_126 rfl (L_ob hl) (by decide) rfl (Nat.le_of_ble_eq_true rfl) (by omega) ?_
    rw [nm_eq h (by omega) (by omega)]
    refine wq_istore 131 [_, _, _, _, _, _] dX5_begin_129 rfl rfl (Nat.le_of_ble_eq_true rfl) rfl ?_
    refine wq_bload_n 132 1 dX5_begin_131 rfl rfl rfl ?_
    refine wq_iload_n 133 3 dX5_begin_132 rfl rfl rfl ?_
    refine wq_iconst 134 2 dX5_begin_133 rfl (by decide) ?_
    refine cVi2 137 (sp_X2_nameAt (by omega) hl h.2.1 hn i 2 rfl rfl (by omega) (by omega)) ml_X5_120 mf_X2_nameAt dX5_begin_134 rfl (L_ob hl) (by decide) rfl (Nat.le_of_ble_eq_true rfl) (by omega) ?_
    rw [nm_eq h (by omega) (by omega)]
    refine wq_istore 139 [_, _, _, _, _, _] dX5_begin_137 rfl rfl (Nat.le_of_ble_eq_true rfl) rfl ?_
    refine wq_bload_n 140 1 dX5_begin_139 rfl rfl rfl ?_
    refine wq_iload_n 141 3 dX5_begin_140 rfl rfl rfl ?_
    refine wq_iconst 142 0 dX5_begin_141 rfl (by decide) ?_
    refine cVi2 145 (sp_X2_partAt hl h.2.1 hn i 0 rfl rfl (by omega) (by omega)) ml_X5_123 mf_X2_partAt dX5_begin_142 rfl (L_ob hl) (by decide) rfl (Nat.le_of_ble_eq_true rfl) (by omega) ?_
    rw [hP]
    refine wq_iconst 146 1 dX5_begin_145 rfl (by decide) ?_
    refine wq_ic_ne 149 201 dX5_begin_146 rfl (by decide) (fun c146 => ?_) (fun c146 => ?_)
    · skip
      refine wq_iinc 204 (_ + 1) [_, _, _, _, _, _] dX5_begin_201 rfl rfl (inc1 _) rfl (Nat.le_of_ble_eq_true rfl) rfl ?_
      refine wq_goto 109 dX5_begin_204 (by decide) ?_
      have e : mvs p (i + 1) = mvs p i := by rw [mvs, if_neg c146]
      rw [← nI_succ]
      refine ih (i + 1) I _ _ (by omega) h ⟨by rw [e]; exact hm.1, fun m hm' => ?_⟩ f1 f2
      rw [e] at hm'
      rw [mvI_old hm']
      exact hm.2 m hm'
    · skip
      refine wq_iload 151 dX5_begin_149 rfl rfl ?_
      refine wq_if_lt 154 201 dX5_begin_151 rfl (by decide) (fun c151 => ?_) (fun c151 => ?_)
      · skip
        refine wq_iinc 204 (_ + 1) [_, _, _, _, _, _] dX5_begin_201 rfl rfl (inc1 _) rfl (Nat.le_of_ble_eq_true rfl) rfl ?_
        refine wq_goto 109 dX5_begin_204 (by decide) ?_
        exfalso
        obtain ⟨x, y, x1, y1, -, -, nx, -⟩ := mv_names hw (show i < n by omega) c146
        rw [nx] at c151
        exact nI_pos (n := x) (by omega) c151
      · skip
        refine wq_iload 156 dX5_begin_154 rfl rfl ?_
        refine wq_if_lt 159 201 dX5_begin_156 rfl (by decide) (fun c156 => ?_) (fun c156 => ?_)
        · skip
          refine wq_iinc 204 (_ + 1) [_, _, _, _, _, _] dX5_begin_201 rfl rfl (inc1 _) rfl (Nat.le_of_ble_eq_true rfl) rfl ?_
          refine wq_goto 109 dX5_begin_204 (by decide) ?_
          exfalso
          obtain ⟨x, y, x1, y1, -, -, -, ny⟩ := mv_names hw (show i < n by omega) c146
          rw [ny] at c156
          exact nI_pos (n := y) (by omega) c156
        · skip
          refine wq_bload_n 160 0 dX5_begin_159 rfl rfl rfl ?_
          refine wq_getR 163 fl_X5_28 dX5_begin_160 rfl rfl o_21 (rfl : (Tb _).2.2.2 21 5 = some 27) ?_
          refine wq_bload_n 164 0 dX5_begin_163 rfl rfl rfl ?_
          refine wq_getI 167 fl_X5_48 dX5_begin_164 rfl rfl o_21 ?_
          refine wq_iload 169 dX5_begin_167 rfl rfl ?_
          refine wq_iast 170 dX5_begin_169 rfl a_27 (by rw [hm.1]; exact Ix.nI (by omega) (by decide)) ?_
          refine wq_bload_n 171 0 dX5_begin_170 rfl rfl rfl ?_
          refine wq_getR 174 fl_X5_31 dX5_begin_171 rfl rfl o_21 (rfl : (Tb _).2.2.2 21 6 = some 28) ?_
          refine wq_bload_n 175 0 dX5_begin_174 rfl rfl rfl ?_
          refine wq_getI 178 fl_X5_48 dX5_begin_175 rfl rfl o_21 ?_
          refine wq_iload 180 dX5_begin_178 rfl rfl ?_
          refine wq_iast 181 dX5_begin_180 rfl a_28 (by rw [va_up_ne _ _ (by decide), hm.1]; exact Ix.nI (by omega) (by decide)) ?_
          refine wq_bload_n 182 0 dX5_begin_181 rfl rfl rfl ?_
          refine wq_getR 185 fl_X5_34 dX5_begin_182 rfl rfl o_21 (rfl : (Tb _).2.2.2 21 7 = some 29) ?_
          refine wq_bload_n 186 0 dX5_begin_185 rfl rfl rfl ?_
          refine wq_getI 189 fl_X5_48 dX5_begin_186 rfl rfl o_21 ?_
          refine wq_iconst 190 1 dX5_begin_189 rfl (by decide) ?_
          refine wq_zast 191 dX5_begin_190 rfl a_29 (by rw [va_up_ne _ _ (by decide), va_up_ne _ _ (by decide), hm.1]; exact Ix.nI (by omega) (by decide)) rfl ?_
          refine wq_bload_n 192 0 dX5_begin_191 rfl rfl rfl ?_
          refine wq_dup 193 dX5_begin_192 rfl rfl ?_
          refine wq_getI 196 fl_X5_48 dX5_begin_193 rfl rfl o_21 ?_
          refine wq_iconst 197 1 dX5_begin_196 rfl (by decide) ?_
          refine wq_iadd 198 dX5_begin_197 rfl ?_
          refine wq_putI 201 fl_X5_48 dX5_begin_198 rfl rfl rfl rfl rfl o_21 ?_
          refine wq_iinc 204 (_ + 1) [_, _, _, _, _, _] dX5_begin_201 rfl rfl (inc1 _) rfl (Nat.le_of_ble_eq_true rfl) rfl ?_
          refine wq_goto 109 dX5_begin_204 (by decide) ?_
          obtain ⟨x, y, x1, y1, ex, ey, nx, ny⟩ := mv_names hw (show i < n by omega) c146
          have e : mvs p (i + 1) = mvs p i + 1 := by rw [mvs, if_pos c146]
          rw [← nI_succ]
          refine wq_gen (fun I1 L1 eI1 eL1 => ?_)
          have i21 : I1 21 = va_up (I 21) 11 (nI (mvs p (i + 1))) := by rw [eI1, e, nI_succ]; simp [va_up, hm.1]
          have i27 : I1 27 = va_up (I 27) (mvs p i) (p i 1) := by rw [eI1, nx, ex]; simp [va_up]
          have i28 : I1 28 = va_up (I 28) (mvs p i) (p i 2) := by rw [eI1, ny, ey]; simp [va_up]
          have i29 : I1 29 = va_up (I 29) (mvs p i) 1 := by rw [eI1]; simp [va_up]
          have ix : ∀ x, x ∉ [21, 27, 28, 29] → I1 x = I x := by
            intro x hx
            simp at hx
            rw [eI1]
            simp [va_up, hx]
          rw [eL1]
          clear eI1 eL1
          have hLR : LR I1 L l n p := LR_keep h (fun j hj => ix _ (by have := hl21 j hj; simp; omega)) (fun _ _ => rfl)
          refine ih (i + 1) I1 _ _ (by omega) hLR ⟨by rw [i21, va_up_self], fun m hm' => ?_⟩ (fun z hz => by rw [i21, va_up_ne _ _ hz]; exact f1 z hz) (fun x hx => (ix x hx).trans (f2 x hx))
          rw [i27, i28, i29]
          by_cases em : m = mvs p i
          · rw [em, va_up_self, va_up_self, va_up_self, mvI, if_pos ⟨c146, rfl⟩]; exact ⟨rfl, rfl, rfl⟩
          · have hm2 : m < mvs p i := by omega
            rw [va_up_ne _ _ em, va_up_ne _ _ em, va_up_ne _ _ em, mvI_old hm2]
            exact hm.2 m hm2
def BgR (I : IM) (L : LM) (I1 : IM) (L1 : LM) (a q : Nat) : Prop := (∀ x, x < q → L1 22 x = L (a + 4) x ∧ I1 24 x = I (a + 5) x ∧ I1 25 x = nI x ∧ I1 26 x = rg0 x) ∧ I1 21 = I 21 ∧ L1 21 = L 21 ∧ (∀ x, x ∉ [24, 25, 26] → I1 x = I x) ∧ ∀ x, x ≠ 22 → L1 x = L x
set_option maxRecDepth 20000 in
set_option maxHeartbeats 2000000 in
theorem lp_X5_beg1 {g : Gl} {D : Nat} {b : Bool} {I : IM} {L : LM} {l a : Nat} (ha : IsN a) {post : Option Value → Bool → IM → LM → Prop} (kk : ∀ I1 L1, BgR I L I1 L1 a 64 → Wp (Kn g D MX5_begin post) (Tb b) 102 [some (rf g 21), some (rf g l), some (rf g a), some (.int (nI 64)), none, none] [] I1 L1) : ∀ r q I1 L1, q + r = 64 → BgR I L I1 L1 a q → Wp (Kn g D MX5_begin post) (Tb b) 42 [some (rf g 21), some (rf g l), some (rf g a), some (.int (nI q)), none, none] [] I1 L1 := by
  have haN : ∀ j, j < 6 → a + j < 21 := fun j hj => by rcases ha with rfl | rfl <;> omega
  intro r
  induction r with
  | zero =>
    intro q I1 L1 hq h
    have eq : q = 64 := by omega
    subst eq
    refine wq_iload_n 43 3 dX5_begin_42 rfl rfl rfl ?_
    refine wq_bipush 45 64 dX5_begin_43 rfl (by decide) ?_
    refine wq_ic_ge 48 102 dX5_begin_45 rfl (by decide) (fun c45 => ?_) (fun c45 => absurd (by decide) c45)
    exact kk I1 L1 h
  | succ r ih =>
    intro q I1 L1 hq h
    obtain ⟨h1, h2, h3, h4, h5⟩ := h
    have n5 := haN 5 (by omega)
    have n4 := haN 4 (by omega)
    refine wq_iload_n 43 3 dX5_begin_42 rfl rfl rfl ?_
    refine wq_bipush 45 64 dX5_begin_43 rfl (by decide) ?_
    refine wq_ic_ge 48 102 dX5_begin_45 rfl (by decide) (fun c45 => absurd c45 (nI_ge (b := 64) (by omega) (by decide))) (fun c45 => ?_)
    refine wq_bload_n 49 0 dX5_begin_48 rfl rfl rfl ?_
    refine wq_getR 52 fl_X5_9 dX5_begin_49 rfl rfl o_21 (rfl : (Tb _).2.2.2 21 0 = some 22) ?_
    refine wq_iload_n 53 3 dX5_begin_52 rfl rfl rfl ?_
    refine wq_bload_n 54 2 dX5_begin_53 rfl rfl rfl ?_
    refine wq_getR 57 fl_X5_113 dX5_begin_54 rfl rfl (N_ob ha) (N_rf3 ha) ?_
    refine wq_iload_n 58 3 dX5_begin_57 rfl rfl rfl ?_
    refine wq_lald 59 dX5_begin_58 rfl (N_ar3 ha) (Ix.nI (by omega) (by decide)) ?_
    refine wq_last 60 dX5_begin_59 rfl a_22 (Ix.nI (by omega) (by decide)) ?_
    refine wq_bload_n 61 0 dX5_begin_60 rfl rfl rfl ?_
    refine wq_getR 64 fl_X5_19 dX5_begin_61 rfl rfl o_21 (rfl : (Tb _).2.2.2 21 2 = some 24) ?_
    refine wq_iload_n 65 3 dX5_begin_64 rfl rfl rfl ?_
    refine wq_bload_n 66 2 dX5_begin_65 rfl rfl rfl ?_
    refine wq_getR 69 fl_X5_116 dX5_begin_66 rfl rfl (N_ob ha) (N_rf4 ha) ?_
    refine wq_iload_n 70 3 dX5_begin_69 rfl rfl rfl ?_
    refine wq_iald 71 dX5_begin_70 rfl (N_ar4 ha) (Ix.nI (by omega) (by decide)) ?_
    refine wq_iast 72 dX5_begin_71 rfl a_24 (Ix.nI (by omega) (by decide)) ?_
    refine wq_bload_n 73 0 dX5_begin_72 rfl rfl rfl ?_
    refine wq_getR 76 fl_X5_22 dX5_begin_73 rfl rfl o_21 (rfl : (Tb _).2.2.2 21 3 = some 25) ?_
    refine wq_iload_n 77 3 dX5_begin_76 rfl rfl rfl ?_
    refine wq_iload_n 78 3 dX5_begin_77 rfl rfl rfl ?_
    refine wq_iast 79 dX5_begin_78 rfl a_25 (Ix.nI (by omega) (by decide)) ?_
    refine wq_bload_n 80 0 dX5_begin_79 rfl rfl rfl ?_
    refine wq_getR 83 fl_X5_25 dX5_begin_80 rfl rfl o_21 (rfl : (Tb _).2.2.2 21 4 = some 26) ?_
    refine wq_iload_n 84 3 dX5_begin_83 rfl rfl rfl ?_
    refine wq_iload_n 85 3 dX5_begin_84 rfl rfl rfl ?_
    refine wq_iconst 86 4 dX5_begin_85 rfl (by decide) ?_
    refine wq_ic_ge 89 93 dX5_begin_86 rfl (by decide) (fun c86 => ?_) (fun c86 => ?_)
    · skip
      refine wq_bipush 95 (-6) dX5_begin_93 rfl (by decide) ?_
      refine wq_iast 96 dX5_begin_95 rfl a_26 (Ix.nI (by omega) (by decide)) ?_
      refine wq_iinc 99 (_ + 1) [_, _, _, _, _, _] dX5_begin_96 rfl rfl (inc1 _) rfl (Nat.le_of_ble_eq_true rfl) rfl ?_
      refine wq_goto 42 dX5_begin_99 (by decide) ?_
      rw [← nI_succ]
      refine wq_gen (fun I2 L2 eI2 eL2 => ?_)
      have er : rg0 q = -6 := by unfold rg0; rw [if_neg (fun z => nI_ge (a := q) (b := 4) z (by decide) c86)]
      have i24 : I2 24 = va_up (I1 24) q (I (a + 5) q) := by rw [eI2, va_up_ne _ _ (by decide), va_up_ne _ _ (by decide), va_up_self, h4 (a + 5) (by simp; omega)]
      have i25 : I2 25 = va_up (I1 25) q (nI q) := by rw [eI2, va_up_ne _ _ (by decide), va_up_self, va_up_ne _ _ (by decide)]
      have i26 : I2 26 = va_up (I1 26) q (rg0 q) := by rw [eI2, va_up_self, va_up_ne _ _ (by decide), va_up_ne _ _ (by decide), er]
      have ix : ∀ x, x ∉ [24, 25, 26] → I2 x = I1 x := by
        intro x hx
        simp at hx
        rw [eI2, va_up_ne _ _ hx.2.2, va_up_ne _ _ hx.2.1, va_up_ne _ _ hx.1]
      have l22 : L2 22 = va_up (L1 22) q (L (a + 4) q) := by rw [eL2, va_up_self, h5 (a + 4) (by omega)]
      have lx : ∀ x, x ≠ 22 → L2 x = L1 x := fun x hx => by rw [eL2, va_up_ne _ _ hx]
      clear eI2 eL2
      refine ih (q + 1) I2 L2 (by omega) ⟨fun x hx => ?_, (ix 21 (by decide)).trans h2, (lx 21 (by decide)).trans h3, fun x hx => (ix x hx).trans (h4 x hx), fun x hx => (lx x hx).trans (h5 x hx)⟩
      rw [l22, i24, i25, i26]
      by_cases e : x = q
      · rw [e, va_up_self, va_up_self, va_up_self, va_up_self]; exact ⟨rfl, rfl, rfl, rfl⟩
      · rw [va_up_ne _ _ e, va_up_ne _ _ e, va_up_ne _ _ e, va_up_ne _ _ e]; exact h1 x (by omega)
    · skip
      refine wq_iload_n 90 3 dX5_begin_89 rfl rfl rfl ?_
      refine wq_goto 95 dX5_begin_90 (by decide) ?_
      refine wq_iast 96 dX5_begin_95 rfl a_26 (Ix.nI (by omega) (by decide)) ?_
      refine wq_iinc 99 (_ + 1) [_, _, _, _, _, _] dX5_begin_96 rfl rfl (inc1 _) rfl (Nat.le_of_ble_eq_true rfl) rfl ?_
      refine wq_goto 42 dX5_begin_99 (by decide) ?_
      rw [← nI_succ]
      refine wq_gen (fun I2 L2 eI2 eL2 => ?_)
      have er : rg0 q = nI q := by unfold rg0; rw [if_pos (Decidable.byContradiction (fun z => c86 (nI_le (a := 4) (by omega) (by omega))))]
      have i24 : I2 24 = va_up (I1 24) q (I (a + 5) q) := by rw [eI2, va_up_ne _ _ (by decide), va_up_ne _ _ (by decide), va_up_self, h4 (a + 5) (by simp; omega)]
      have i25 : I2 25 = va_up (I1 25) q (nI q) := by rw [eI2, va_up_ne _ _ (by decide), va_up_self, va_up_ne _ _ (by decide)]
      have i26 : I2 26 = va_up (I1 26) q (rg0 q) := by rw [eI2, va_up_self, va_up_ne _ _ (by decide), va_up_ne _ _ (by decide), er]
      have ix : ∀ x, x ∉ [24, 25, 26] → I2 x = I1 x := by
        intro x hx
        simp at hx
        rw [eI2, va_up_ne _ _ hx.2.2, va_up_ne _ _ hx.2.1, va_up_ne _ _ hx.1]
      have l22 : L2 22 = va_up (L1 22) q (L (a + 4) q) := by rw [eL2, va_up_self, h5 (a + 4) (by omega)]
      have lx : ∀ x, x ≠ 22 → L2 x = L1 x := fun x hx => by rw [eL2, va_up_ne _ _ hx]
      clear eI2 eL2
      refine ih (q + 1) I2 L2 (by omega) ⟨fun x hx => ?_, (ix 21 (by decide)).trans h2, (lx 21 (by decide)).trans h3, fun x hx => (ix x hx).trans (h4 x hx), fun x hx => (lx x hx).trans (h5 x hx)⟩
      rw [l22, i24, i25, i26]
      by_cases e : x = q
      · rw [e, va_up_self, va_up_self, va_up_self, va_up_self]; exact ⟨rfl, rfl, rfl, rfl⟩
      · rw [va_up_ne _ _ e, va_up_ne _ _ e, va_up_ne _ _ e, va_up_ne _ _ e]; exact h1 x (by omega)
