/-! the reference's calls: spent, images, told -/
section MCalls3
variable {g : Gl} {D : Nat} {b : Bool} {I : IM} {L : LM} {t : TS}
theorem asP_M' {I' : IM} {v : Int32} (h : InvM I t) (e : I' 71 = va_up (I 71) 13 v) (ix : ∀ x, x ∉ [71, 77, 78, 79, 80] → I' x = I x) : InvM I' t := InvM_keep h (fun x x1 x2 => ix x (by simp; omega)) (by rw [e, va_up_ne _ _ (by decide)]) (by rw [e, va_up_ne _ _ (by decide)]) (by rw [e, va_up_ne _ _ (by decide)]) (by rw [e, va_up_ne _ _ (by decide)]) (by rw [e, va_up_ne _ _ (by decide)]) (ix 101 (by decide)) (ix 102 (by decide))
set_option maxRecDepth 20000 in
set_option maxHeartbeats 2000000 in
theorem lp_X8_spent {I0 : IM} {q : Pg} {m : Nat} {l1 : Int32} {post : Option Value → Bool → IM → LM → Prop} (hm : m ≤ 90) (h : NXr I0 q m) (kk : ∀ I1 l2, (∀ j, j < m → I1 77 j = q j 0 ∧ I1 78 j = q j 1 ∧ I1 79 j = q j 2 ∧ I1 80 j = q j 3) → (∀ x, x ∉ [77, 78, 79, 80] → I1 x = I0 x) → Wp (Kn g D MX8_spent post) (Tb b) 94 [some (rf g 71), some (.int l1), l2] [] I1 L) : ∀ r i I1, i + r = m → (∀ j, j < i → I1 77 j = q j 0 ∧ I1 78 j = q j 1 ∧ I1 79 j = q j 2 ∧ I1 80 j = q j 3) → (∀ x, x ∉ [77, 78, 79, 80] → I1 x = I0 x) → Wp (Kn g D MX8_spent post) (Tb b) 32 [some (rf g 71), some (.int l1), some (.int (nI i))] [] I1 L := by
  obtain ⟨n1, n2⟩ := h
  intro r
  induction r with
  | zero =>
    intro i I1 hi h1 h2
    have ei : i = m := by omega
    subst ei
    have hc : I1 71 18 = nI i := by rw [h2 71 (by decide)]; exact n1
    refine wq_iload_n 33 2 dX8_spent_32 rfl rfl rfl ?_
    refine wq_bload_n 34 0 dX8_spent_33 rfl rfl rfl ?_
    refine wq_getI 37 fl_X8_276 dX8_spent_34 rfl rfl o_71 ?_
    refine wq_ic_ge 40 94 dX8_spent_37 rfl (by decide) (fun c37 => ?_) (fun c37 => absurd (by rw [hc]; exact nI_le (Nat.le_refl _) (by omega)) c37)
    exact kk I1 _ h1 h2
  | succ r ih =>
    intro i I1 hi h1 h2
    have hc : I1 71 18 = nI m := by rw [h2 71 (by decide)]; exact n1
    obtain ⟨r0, r1, r2, r3⟩ := n2 i (by omega) (by omega)
    refine wq_iload_n 33 2 dX8_spent_32 rfl rfl rfl ?_
    refine wq_bload_n 34 0 dX8_spent_33 rfl rfl rfl ?_
    refine wq_getI 37 fl_X8_276 dX8_spent_34 rfl rfl o_71 ?_
    refine wq_ic_ge 40 94 dX8_spent_37 rfl (by decide) (fun c37 => absurd c37 (by rw [hc]; exact nI_ge (by omega) (by omega))) (fun c37 => ?_)
    refine wq_bload_n 41 0 dX8_spent_40 rfl rfl rfl ?_
    refine wq_getR 44 fl_X8_29 dX8_spent_41 rfl rfl o_71 (rfl : (Tb _).2.2.2 71 9 = some 77) ?_
    refine wq_iload_n 45 2 dX8_spent_44 rfl rfl rfl ?_
    refine wq_bload_n 46 0 dX8_spent_45 rfl rfl rfl ?_
    refine wq_getR 49 fl_X8_41 dX8_spent_46 rfl rfl o_71 (rfl : (Tb _).2.2.2 71 14 = some 81) ?_
    refine wq_iload_n 50 2 dX8_spent_49 rfl rfl rfl ?_
    refine wq_iald 51 dX8_spent_50 rfl a_81 (Ix.nI (by omega) (by decide)) ?_
    refine wq_iast 52 dX8_spent_51 rfl a_77 (Ix.nI (by omega) (by decide)) ?_
    refine wq_bload_n 53 0 dX8_spent_52 rfl rfl rfl ?_
    refine wq_getR 56 fl_X8_32 dX8_spent_53 rfl rfl o_71 (rfl : (Tb _).2.2.2 71 10 = some 78) ?_
    refine wq_iload_n 57 2 dX8_spent_56 rfl rfl rfl ?_
    refine wq_bload_n 58 0 dX8_spent_57 rfl rfl rfl ?_
    refine wq_getR 61 fl_X8_44 dX8_spent_58 rfl rfl o_71 (rfl : (Tb _).2.2.2 71 15 = some 82) ?_
    refine wq_iload_n 62 2 dX8_spent_61 rfl rfl rfl ?_
    refine wq_iald 63 dX8_spent_62 rfl a_82 (Ix.nI (by omega) (by decide)) ?_
    refine wq_iast 64 dX8_spent_63 rfl a_78 (Ix.nI (by omega) (by decide)) ?_
    refine wq_bload_n 65 0 dX8_spent_64 rfl rfl rfl ?_
    refine wq_getR 68 fl_X8_35 dX8_spent_65 rfl rfl o_71 (rfl : (Tb _).2.2.2 71 11 = some 79) ?_
    refine wq_iload_n 69 2 dX8_spent_68 rfl rfl rfl ?_
    refine wq_bload_n 70 0 dX8_spent_69 rfl rfl rfl ?_
    refine wq_getR 73 fl_X8_47 dX8_spent_70 rfl rfl o_71 (rfl : (Tb _).2.2.2 71 16 = some 83) ?_
    refine wq_iload_n 74 2 dX8_spent_73 rfl rfl rfl ?_
    refine wq_iald 75 dX8_spent_74 rfl a_83 (Ix.nI (by omega) (by decide)) ?_
    refine wq_iast 76 dX8_spent_75 rfl a_79 (Ix.nI (by omega) (by decide)) ?_
    refine wq_bload_n 77 0 dX8_spent_76 rfl rfl rfl ?_
    refine wq_getR 80 fl_X8_38 dX8_spent_77 rfl rfl o_71 (rfl : (Tb _).2.2.2 71 12 = some 80) ?_
    refine wq_iload_n 81 2 dX8_spent_80 rfl rfl rfl ?_
    refine wq_bload_n 82 0 dX8_spent_81 rfl rfl rfl ?_
    refine wq_getR 85 fl_X8_50 dX8_spent_82 rfl rfl o_71 (rfl : (Tb _).2.2.2 71 17 = some 84) ?_
    refine wq_iload_n 86 2 dX8_spent_85 rfl rfl rfl ?_
    refine wq_iald 87 dX8_spent_86 rfl a_84 (Ix.nI (by omega) (by decide)) ?_
    refine wq_iast 88 dX8_spent_87 rfl a_80 (Ix.nI (by omega) (by decide)) ?_
    refine wq_iinc 91 (_ + 1) [_, _, _] dX8_spent_88 rfl rfl (inc1 _) rfl (Nat.le_of_ble_eq_true rfl) rfl ?_
    refine wq_goto 32 dX8_spent_91 (by decide) ?_
    rw [← nI_succ]
    refine wq_gen (fun I2 L2 eI2 eL2 => ?_)
    rw [eL2]
    clear eL2
    have e77 : I2 77 = va_up (I1 77) i (q i 0) := by rw [eI2, ← r0, ← h2 81 (by decide)]; simp [va_up]
    have e78 : I2 78 = va_up (I1 78) i (q i 1) := by rw [eI2, ← r1, ← h2 82 (by decide)]; simp [va_up]
    have e79 : I2 79 = va_up (I1 79) i (q i 2) := by rw [eI2, ← r2, ← h2 83 (by decide)]; simp [va_up]
    have e80 : I2 80 = va_up (I1 80) i (q i 3) := by rw [eI2, ← r3, ← h2 84 (by decide)]; simp [va_up]
    have ix : ∀ x, x ∉ [77, 78, 79, 80] → I2 x = I1 x := fun x hx => by
      simp at hx
      rw [eI2]
      simp [va_up, hx]
    clear eI2
    refine ih (i + 1) I2 (by omega) (fun j hj => ?_) (fun x hx => (ix x hx).trans (h2 x hx))
    rw [e77, e78, e79, e80]
    by_cases e : j = i
    · rw [e, va_up_self, va_up_self, va_up_self, va_up_self]; exact ⟨rfl, rfl, rfl, rfl⟩
    · rw [va_up_ne _ _ e, va_up_ne _ _ e, va_up_ne _ _ e, va_up_ne _ _ e]; exact h1 j (by omega)
theorem anSpent_no {v : Int32} (c : ¬ inM v 0 5 = 0) (h : tGo t = none) : anSpent t v = -3 := by
  unfold anSpent
  rw [if_neg c, h]
theorem anSpent_so {v : Int32} {r : Nat} {s : AS} (c : ¬ inM v 0 5 = 0) (h : tGo t = some (r, s)) : anSpent t v = rnAns (rnF (tCd t s).1 (tCd t s).2.1 2000 0 0 rs0) (tCd t s).2.1 v := by
  unfold anSpent
  rw [if_neg c, h]
set_option maxRecDepth 20000 in
set_option maxHeartbeats 2000000 in
theorem cm_spent (hD : 9 ≤ D) (h : InvM I t) (hv : VT t) (v : Int32) : CM g D MX8_spent [rf g 71, .int v] b I L (anSpent t v) t := by
  obtain ⟨v1, v2, v3, v4, v5⟩ := hv.1
  refine Me.of [some (rf g 71), some (.int v), none] 1 rfl pf_X8_spent (Nat.le_of_ble_eq_true rfl) ?_
  refine wq_iload_n 1 1 dX8_spent_0 rfl rfl rfl ?_
  refine wq_iconst 2 0 dX8_spent_1 rfl (by decide) ?_
  refine wq_iconst 3 5 dX8_spent_2 rfl (by decide) ?_
  refine cSi3 6 (sp_X8_in _ _ _) ml_X8_113 mf_X8_in dX8_spent_3 rfl (Nat.le_of_ble_eq_true rfl) (by omega) ?_
  refine wq_if_ne 9 12 dX8_spent_6 rfl (by decide) (fun c6 => ?_) (fun c6 => ?_)
  · skip
    refine wq_bload_n 13 0 dX8_spent_12 rfl rfl rfl ?_
    refine cVp0 16 (sp_X8_layCode (by omega) v2 v3 h.2.2.2.2.1 v5 h.1 h.2.1 h.2.2.1) ml_X8_316 mf_X8_layCode dX8_spent_13 rfl o_71 (by decide) rfl (Nat.le_of_ble_eq_true rfl) (by omega) ?_
    rintro _ b I1 L1 ⟨rfl, fj, ⟨q1, rfl⟩ | ⟨r, s, q1, rfl, lc⟩⟩
    · have q1' : tGo t = none := q1
      refine wq_if_ne 19 22 dX8_spent_16 rfl (by decide) (fun c => absurd rfl c) (fun c => ?_)
      refine wq_bipush 21 (-3) dX8_spent_19 rfl (by decide) ?_
      refine ri .int dX8_spent_21 rfl rfl ?_
      exact ⟨by rw [anSpent_no c6 q1'], rfl, FJ_M h fj, FJ_S fj⟩
    have q1' : tGo t = some (r, s) := q1
    obtain ⟨ia, sz⟩ := IA_go v2 6 0 _ _ _ (IA_beg v5 (by omega)) q1
    obtain ⟨wf, sn90, sw48, slw, so6, cc⟩ := ia
    have cw := cd_wf v2 sn90 wf sz (sN s) (Nat.le_refl _)
    have cl := cd_le (tK t) (tW t) (sP s) (sN s) (sN s)
    have m90 : (tCd t s).2.1 ≤ 90 := by have : (tCd t s).2.1 + (tCd t s).2.2 = sN s := cl; omega
    have m18 : I1 71 18 = nI (tCd t s).2.1 := lc.2.1.1
    have hI1 := FJ_M h fj
    have hS1 := FJ_S fj
    refine wq_if_ne 19 22 dX8_spent_16 rfl (by decide) (fun c16 => ?_) (fun c16 => absurd c16 (by decide))
    refine wq_bload_n 23 0 dX8_spent_22 rfl rfl rfl ?_
    refine wq_bload_n 24 0 dX8_spent_23 rfl rfl rfl ?_
    refine wq_getI 27 fl_X8_276 dX8_spent_24 rfl rfl o_71 ?_
    rw [m18]
    refine wq_putI 30 fl_X8_148 dX8_spent_27 rfl rfl rfl rfl rfl o_71 ?_
    refine wq_gen (fun I2 L2 eI2 eL2 => ?_)
    rw [eL2]
    clear eL2
    have j71 : I2 71 = va_up (I1 71) 13 (nI (tCd t s).2.1) := by rw [eI2, va_up_self]
    have jx : ∀ x, x ≠ 71 → I2 x = I1 x := fun x hx => by rw [eI2, va_up_ne _ _ hx]
    clear eI2
    have nx2 : NXr I2 (tCd t s).1 (tCd t s).2.1 := ⟨by rw [j71, va_up_ne _ _ (by decide)]; exact m18, fun j hj hj2 => by rw [jx 81 (by decide), jx 82 (by decide), jx 83 (by decide), jx 84 (by decide)]; exact lc.2.1.2 j hj hj2⟩
    refine wq_iconst 31 0 dX8_spent_30 rfl (by decide) ?_
    refine wq_istore_n 32 2 [_, _, _] dX8_spent_31 rfl rfl rfl (Nat.le_of_ble_eq_true rfl) rfl ?_
    refine lp_X8_spent (I0 := I2) m90 nx2 (fun I3 l2 rows x3 => ?_) _ 0 I2 (Nat.zero_add _) (fun j hj => absurd hj (Nat.not_lt_zero j)) (fun _ _ => rfl)
    have hN3 : NR I3 (tCd t s).2.1 (tCd t s).1 := ⟨m90, by rw [x3 71 (by decide), j71, va_up_self], rows⟩
    have hI3 : InvM I3 t := asP_M' hI1 (by rw [x3 71 (by decide), j71]) (fun x hx => by simp at hx; rw [x3 x (by simp; omega), jx x (by omega)])
    have hS3 : Sm 0 71 I1 L1 I3 L1 := Sm_M (fun z hz => by rw [x3 z (by simp; omega), jx z (by omega)])
    refine wq_bload_n 95 0 dX8_spent_94 rfl rfl rfl ?_
    refine wq_sipush 98 2000 dX8_spent_95 rfl (by decide) ?_
    refine cVp1 101 (sp_X8_runNow (by omega) hN3 cw (by omega) 2000 rfl (by omega)) ml_X8_338 mf_X8_runNow dX8_spent_98 rfl o_71 (by decide) rfl (Nat.le_of_ble_eq_true rfl) (by omega) ?_
    rintro _ b I4 L1 ⟨rfl, rfl, rfl, vx, fn⟩
    have hI4 := FN_M hI3 fn
    have hS : Sm 0 71 I L I4 L1 := hS1.trans (hS3.trans (Sm_M (fun z hz => fn.1 z (by simp; omega))))
    obtain ⟨⟨w1, w2, w3, w4, w5, w6, w7, w8⟩, w9⟩ := vx
    obtain ⟨y, y5, ey⟩ := in_ex (v := v) (hi := 5) (by decide) (fun z => c6 (inM_lt z)) (fun z => c6 (inM_gt z))
    subst ey
    refine wq_iload_n 102 1 dX8_spent_101 rfl rfl rfl ?_
    have hy6 : y = 0 ∨ y = 1 ∨ y = 2 ∨ y = 3 ∨ y = 4 ∨ y = 5 := by omega
    rcases hy6 with rfl | rfl | rfl | rfl | rfl | rfl
    · skip
      refine wq_tabIn 132 dX8_spent_102 (by decide) (by decide) rfl (by decide) ?_
      refine wq_bload_n 133 0 dX8_spent_132 rfl rfl rfl ?_
      refine wq_getI 136 fl_X8_319 dX8_spent_133 rfl rfl o_71 ?_
      refine ri .int dX8_spent_136 rfl rfl ?_
      refine ⟨?_, rfl, hI4, hS⟩
      rw [anSpent_so c6 q1', rnAns, if_pos (by decide), w4]
    · skip
      refine wq_tabIn 137 dX8_spent_102 (by decide) (by decide) rfl (by decide) ?_
      refine wq_bload_n 138 0 dX8_spent_137 rfl rfl rfl ?_
      refine wq_getI 141 fl_X8_322 dX8_spent_138 rfl rfl o_71 ?_
      refine ri .int dX8_spent_141 rfl rfl ?_
      refine ⟨?_, rfl, hI4, hS⟩
      rw [anSpent_so c6 q1', rnAns, if_neg (by decide), if_pos (by decide), w5]
    · skip
      refine wq_tabIn 142 dX8_spent_102 (by decide) (by decide) rfl (by decide) ?_
      refine wq_bload_n 143 0 dX8_spent_142 rfl rfl rfl ?_
      refine wq_getI 146 fl_X8_325 dX8_spent_143 rfl rfl o_71 ?_
      refine ri .int dX8_spent_146 rfl rfl ?_
      refine ⟨?_, rfl, hI4, hS⟩
      rw [anSpent_so c6 q1', rnAns, if_neg (by decide), if_neg (by decide), if_pos (by decide), w6]
    · skip
      refine wq_tabIn 147 dX8_spent_102 (by decide) (by decide) rfl (by decide) ?_
      refine wq_bload_n 148 0 dX8_spent_147 rfl rfl rfl ?_
      refine wq_getI 151 fl_X8_335 dX8_spent_148 rfl rfl o_71 ?_
      refine wq_if_eq 154 158 dX8_spent_151 rfl (by decide) (fun c151 => ?_) (fun c151 => ?_)
      · skip
        refine wq_iconst 159 0 dX8_spent_158 rfl (by decide) ?_
        refine ri .int dX8_spent_159 rfl rfl ?_
        rw [w9] at c151
        refine ⟨?_, rfl, hI4, hS⟩
        rw [anSpent_so c6 q1', rnAns, if_neg (by decide), if_neg (by decide), if_neg (by decide), if_pos (by decide)]
        show some (Value.int 0) = some (Value.int (bI (decide ((tCd t s).2.1 ≤ (rnF (tCd t s).1 (tCd t s).2.1 2000 0 0 rs0).2.1))))
        exact congrArg (fun q => some (Value.int q)) c151.symm
      · skip
        refine wq_iconst 155 1 dX8_spent_154 rfl (by decide) ?_
        refine wq_goto 159 dX8_spent_155 (by decide) ?_
        refine ri .int dX8_spent_159 rfl rfl ?_
        rw [w9] at c151
        refine ⟨?_, rfl, hI4, hS⟩
        rw [anSpent_so c6 q1', rnAns, if_neg (by decide), if_neg (by decide), if_neg (by decide), if_pos (by decide)]
        show some (Value.int 1) = some (Value.int (bI (decide ((tCd t s).2.1 ≤ (rnF (tCd t s).1 (tCd t s).2.1 2000 0 0 rs0).2.1))))
        have e := bI_ne.mp c151
        exact congrArg (fun q => some (Value.int (bI q))) e.symm
    · skip
      refine wq_tabOut 160 dX8_spent_102 (by decide) (by decide) ?_
      refine wq_iload_n 161 1 dX8_spent_160 rfl rfl rfl ?_
      refine wq_iconst 162 4 dX8_spent_161 rfl (by decide) ?_
      refine wq_ic_ne 165 172 dX8_spent_162 rfl (by decide) (fun c162 => absurd c162 (fun z => z rfl)) (fun c162 => ?_)
      refine wq_bload_n 166 0 dX8_spent_165 rfl rfl rfl ?_
      refine wq_getI 169 fl_X8_328 dX8_spent_166 rfl rfl o_71 ?_
      refine wq_goto 176 dX8_spent_169 (by decide) ?_
      refine ri .int dX8_spent_176 rfl rfl ?_
      refine ⟨?_, rfl, hI4, hS⟩
      rw [anSpent_so c6 q1', rnAns, if_neg (by decide), if_neg (by decide), if_neg (by decide), if_neg (by decide), if_pos (by decide), w7]
    · skip
      refine wq_tabOut 160 dX8_spent_102 (by decide) (by decide) ?_
      refine wq_iload_n 161 1 dX8_spent_160 rfl rfl rfl ?_
      refine wq_iconst 162 4 dX8_spent_161 rfl (by decide) ?_
      refine wq_ic_ne 165 172 dX8_spent_162 rfl (by decide) (fun c162 => ?_) (fun c162 => absurd c162 (by decide))
      refine wq_bload_n 173 0 dX8_spent_172 rfl rfl rfl ?_
      refine wq_getI 176 fl_X8_331 dX8_spent_173 rfl rfl o_71 ?_
      refine ri .int dX8_spent_176 rfl rfl ?_
      refine ⟨?_, rfl, hI4, hS⟩
      rw [anSpent_so c6 q1', rnAns, if_neg (by decide), if_neg (by decide), if_neg (by decide), if_neg (by decide), if_neg (by decide), w8]
  · skip
    refine wq_bipush 11 (-2) dX8_spent_9 rfl (by decide) ?_
    refine ri .int dX8_spent_11 rfl rfl ?_
    exact ⟨by rw [anSpent, if_pos c6], rfl, h, fun _ _ _ => ⟨rfl, rfl⟩⟩
theorem Mv_mvs (p : Pg) : ∀ n, Mv p n = nI (mvs p n)
  | 0 => rfl
  | n + 1 => by
    rw [Mv, mvs, Mv_mvs p n]
    split
    · rw [nI_succ]
    · rfl
set_option maxRecDepth 20000 in
theorem cm_told (hD : 3 ≤ D) (h : InvM I t) (hv : VT t) (v : Int32) : CM g D MX8_told [rf g 71, .int v] b I L (anTold t v) t := by
  have hM := h.2.2.2.2.1
  have hn := hM.1
  refine Me.of [some (rf g 71), some (.int v), none, none] 2 rfl pf_X8_told (Nat.le_of_ble_eq_true rfl) ?_
  refine wq_iload_n 1 1 dX8_told_0 rfl rfl rfl ?_
  by_cases c0 : v = 0
  · subst c0
    refine wq_tabIn 36 dX8_told_1 (by decide) (by decide) rfl (by decide) ?_
    refine wq_bload_n 37 0 dX8_told_36 rfl rfl rfl ?_
    refine wq_getI 40 fl_X8_120 dX8_told_37 rfl rfl o_71 ?_
    refine ri .int dX8_told_40 rfl rfl ?_
    exact ⟨by rw [anTold, if_pos rfl, h.2.2.2.1.2.1], rfl, h, fun _ _ _ => ⟨rfl, rfl⟩⟩
  by_cases c1 : v = 1
  · subst c1
    refine wq_tabIn 41 dX8_told_1 (by decide) (by decide) rfl (by decide) ?_
    refine wq_bload_n 42 0 dX8_told_41 rfl rfl rfl ?_
    refine wq_getI 45 fl_X8_141 dX8_told_42 rfl rfl o_71 ?_
    refine ri .int dX8_told_45 rfl rfl ?_
    exact ⟨by rw [anTold, if_neg (by decide), if_pos rfl, hM.2.1], rfl, h, fun _ _ _ => ⟨rfl, rfl⟩⟩
  by_cases c2 : v = 2
  · subst c2
    refine wq_tabIn 46 dX8_told_1 (by decide) (by decide) rfl (by decide) ?_
    refine wq_bload_n 47 0 dX8_told_46 rfl rfl rfl ?_
    refine wq_getI 50 fl_X8_7 dX8_told_47 rfl rfl o_71 ?_
    refine ri .int dX8_told_50 rfl rfl ?_
    exact ⟨by rw [anTold, if_neg (by decide), if_neg (by decide), if_pos rfl, h.1], rfl, h, fun _ _ _ => ⟨rfl, rfl⟩⟩
  by_cases c3 : v = 3
  · subst c3
    refine wq_tabIn 51 dX8_told_1 (by decide) (by decide) rfl (by decide) ?_
    refine wq_bload_n 52 0 dX8_told_51 rfl rfl rfl ?_
    refine wq_getI 55 fl_X8_117 dX8_told_52 rfl rfl o_71 ?_
    refine ri .int dX8_told_55 rfl rfl ?_
    exact ⟨by rw [anTold, if_neg (by decide), if_neg (by decide), if_neg (by decide), if_pos rfl, h.2.1], rfl, h, fun _ _ _ => ⟨rfl, rfl⟩⟩
  by_cases c4 : v = 4
  · subst c4
    refine wq_tabIn 56 dX8_told_1 (by decide) (by decide) rfl (by decide) ?_
    refine wq_bload_n 57 0 dX8_told_56 rfl rfl rfl ?_
    refine cVp0 60 (sp_X8_asProgram hM) ml_X8_174 mf_X8_asProgram dX8_told_57 rfl o_71 (by decide) rfl (Nat.le_of_ble_eq_true rfl) (by omega) ?_
    rintro _ b I1 L ⟨rfl, rfl, rfl, hN, i71, ix⟩
    have hI1 := asP_M h i71 ix
    refine wq_bload_n 61 0 dX8_told_60 rfl rfl rfl ?_
    refine cVl0 64 (sp_X8_names (by omega) hN hv.1.2.2.2.2) ml_X8_255 mf_X8_names dX8_told_61 rfl o_71 (by decide) rfl (Nat.le_of_ble_eq_true rfl) (by omega) ?_
    refine wq_l2i 65 dX8_told_64 rfl ?_
    refine ri .int dX8_told_65 rfl rfl ?_
    exact ⟨by rw [anTold, if_neg (by decide), if_neg (by decide), if_neg (by decide), if_neg (by decide), if_pos rfl], rfl, hI1, Sm_M (fun z hz => ix z (by simp; omega))⟩
  have hout : v.toInt < 0 ∨ 4 < v.toInt := by
    rcases pk_ix v (n := 5) (by decide) with q | q | ⟨x, hx, rfl⟩
    · exact Or.inl (Int32.lt_iff_toInt_lt.mp q)
    · have := Int32.le_iff_toInt_le.mp q
      have e6 : (nI 5).toInt = 5 := rfl
      exact Or.inr (by omega)
    · exfalso
      have : x = 0 ∨ x = 1 ∨ x = 2 ∨ x = 3 ∨ x = 4 := by omega
      rcases this with rfl | rfl | rfl | rfl | rfl
      · exact c0 rfl
      · exact c1 rfl
      · exact c2 rfl
      · exact c3 rfl
      · exact c4 rfl
  refine wq_tabOut 66 dX8_told_1 hout (by decide) ?_
  have lp : ∀ r q, q + r = tN t → Wp (Kn g D MX8_told (fun r b' I' L' => r = some (.int (anTold t v)) ∧ b' = b ∧ InvM I' t ∧ Sm 0 71 I L I' L')) (Tb b) 70 [some (rf g 71), some (.int v), some (.int (nI (mvs (tP t) q))), some (.int (nI q))] [] I L := by
    intro r
    induction r with
    | zero =>
      intro q hq
      have eq : q = tN t := by omega
      subst eq
      refine wq_iload_n 71 3 dX8_told_70 rfl rfl rfl ?_
      refine wq_bload_n 72 0 dX8_told_71 rfl rfl rfl ?_
      refine wq_getI 75 fl_X8_141 dX8_told_72 rfl rfl o_71 ?_
      refine wq_ic_ge 78 102 dX8_told_75 rfl (by decide) (fun c75 => ?_) (fun c75 => absurd (by rw [hM.2.1]; exact nI_le (Nat.le_refl _) (by omega)) c75)
      refine wq_iload_n 103 1 dX8_told_102 rfl rfl rfl ?_
      refine wq_iconst 104 5 dX8_told_103 rfl (by decide) ?_
      refine wq_ic_ne 107 111 dX8_told_104 rfl (by decide) (fun c104 => ?_) (fun c104 => ?_)
      · skip
        refine wq_bipush 113 (-2) dX8_told_111 rfl (by decide) ?_
        refine ri .int dX8_told_113 rfl rfl ?_
        exact ⟨by rw [anTold, if_neg c0, if_neg c1, if_neg c2, if_neg c3, if_neg c4, if_neg c104], rfl, h, fun _ _ _ => ⟨rfl, rfl⟩⟩
      · skip
        refine wq_iload_n 108 2 dX8_told_107 rfl rfl rfl ?_
        refine wq_goto 113 dX8_told_108 (by decide) ?_
        refine ri .int dX8_told_113 rfl rfl ?_
        exact ⟨by rw [anTold, if_neg c0, if_neg c1, if_neg c2, if_neg c3, if_neg c4, if_pos c104, Mv_mvs], rfl, h, fun _ _ _ => ⟨rfl, rfl⟩⟩
    | succ r ih =>
      intro q hq
      obtain ⟨r0, -⟩ := hM.2.2 q (by omega)
      refine wq_iload_n 71 3 dX8_told_70 rfl rfl rfl ?_
      refine wq_bload_n 72 0 dX8_told_71 rfl rfl rfl ?_
      refine wq_getI 75 fl_X8_141 dX8_told_72 rfl rfl o_71 ?_
      refine wq_ic_ge 78 102 dX8_told_75 rfl (by decide) (fun c75 => absurd c75 (by rw [hM.2.1]; exact nI_ge (by omega) (by omega))) (fun c75 => ?_)
      refine wq_iload_n 79 2 dX8_told_78 rfl rfl rfl ?_
      refine wq_bload_n 80 0 dX8_told_79 rfl rfl rfl ?_
      refine wq_getR 83 fl_X8_13 dX8_told_80 rfl rfl o_71 (rfl : (Tb _).2.2.2 71 2 = some 72) ?_
      refine wq_iload_n 84 3 dX8_told_83 rfl rfl rfl ?_
      refine wq_iald 85 dX8_told_84 rfl a_72 (Ix.nI (by omega) (by decide)) ?_
      refine wq_iconst 86 1 dX8_told_85 rfl (by decide) ?_
      refine wq_ic_ne 89 93 dX8_told_86 rfl (by decide) (fun c86 => ?_) (fun c86 => ?_)
      · skip
        refine wq_iconst 94 0 dX8_told_93 rfl (by decide) ?_
        refine wq_iadd 95 dX8_told_94 rfl ?_
        refine wq_istore_n 96 2 [_, _, _, _] dX8_told_95 rfl rfl rfl (Nat.le_of_ble_eq_true rfl) rfl ?_
        refine wq_iinc 99 (_ + 1) [_, _, _, _] dX8_told_96 rfl rfl (inc1 _) rfl (Nat.le_of_ble_eq_true rfl) rfl ?_
        refine wq_goto 70 dX8_told_99 (by decide) ?_
        rw [← nI_succ, show nI (mvs (tP t) q) + (0 : Int32) = nI (mvs (tP t) q) from nI_add _ 0]
        have := ih (q + 1) (by omega)
        rw [mvs, if_neg (by rw [← r0]; exact c86)] at this
        exact this
      · skip
        refine wq_iconst 90 1 dX8_told_89 rfl (by decide) ?_
        refine wq_goto 94 dX8_told_90 (by decide) ?_
        refine wq_iadd 95 dX8_told_94 rfl ?_
        refine wq_istore_n 96 2 [_, _, _, _] dX8_told_95 rfl rfl rfl (Nat.le_of_ble_eq_true rfl) rfl ?_
        refine wq_iinc 99 (_ + 1) [_, _, _, _] dX8_told_96 rfl rfl (inc1 _) rfl (Nat.le_of_ble_eq_true rfl) rfl ?_
        refine wq_goto 70 dX8_told_99 (by decide) ?_
        rw [← nI_succ, ← nI_succ]
        have := ih (q + 1) (by omega)
        rw [mvs, if_pos (by rw [← r0]; exact c86)] at this
        exact this
  refine wq_iconst 67 0 dX8_told_66 rfl (by decide) ?_
  refine wq_istore_n 68 2 [_, _, _, _] dX8_told_67 rfl rfl rfl (Nat.le_of_ble_eq_true rfl) rfl ?_
  refine wq_iconst 69 0 dX8_told_68 rfl (by decide) ?_
  refine wq_istore_n 70 3 [_, _, _, _] dX8_told_69 rfl rfl rfl (Nat.le_of_ble_eq_true rfl) rfl ?_
  exact lp (tN t) 0 (by omega)
end MCalls3
