/-! the reference's calls: images -/
section MCalls4
variable {g : Gl} {D : Nat} {b : Bool} {I : IM} {L : LM} {t : TS}
def ImR (I I1 : IM) (j q : Nat) : Prop := (∀ i, i < q → I1 101 (130 * j + i) = I 72 i ∧ I1 101 (130 * j + 30 + i) = I 73 i ∧ I1 101 (130 * j + 60 + i) = I 74 i ∧ I1 101 (130 * j + 90 + i) = I 75 i) ∧ (∀ k, ¬ (130 * j ≤ k ∧ k < 130 * j + 130) → I1 101 k = I 101 k) ∧ ∀ x, x ≠ 101 → I1 x = I x
theorem YI_other {I' : IM} {j j' : Nat} {a : TI} (h : YI I j' a) (hn : a.1 = true → a.2.2.2.1 ≤ 30) (hj : j ≠ j') (e : ∀ k, ¬ (130 * j ≤ k ∧ k < 130 * j + 130) → I' 101 k = I 101 k) (e2 : I' 102 j' = I 102 j') : YI I' j' a := by
  refine ⟨by rw [e2]; exact h.1, fun z => ?_⟩
  obtain ⟨h1, h2, h3, h4⟩ := h.2 z
  have hn := hn z
  refine ⟨fun i hi => ?_, by rw [e _ (by omega)]; exact h2, by rw [e _ (by omega)]; exact h3, by rw [e _ (by omega)]; exact h4⟩
  rw [e _ (by omega), e _ (by omega), e _ (by omega), e _ (by omega)]
  exact h1 i hi
set_option maxRecDepth 20000 in
set_option maxHeartbeats 4000000 in
theorem yim_aux {j : Nat} (hD : 1 ≤ D) (h : InvM I t) (hj : j < 2) : Me g D MX8_image [rf g 71, .int (nI j)] b I L (fun r b' I' L' => r = some (.int 1) ∧ b' = b ∧ L' = L ∧ YI I' j (nowI t) ∧ (∀ k, ¬ (130 * j ≤ k ∧ k < 130 * j + 130) → I' 101 k = I 101 k) ∧ (∀ k, k ≠ j → I' 102 k = I 102 k) ∧ ∀ x, x ≠ 101 → x ≠ 102 → I' x = I x) := by
  have hM := h.2.2.2.2.1
  have hn := hM.1
  have nz : ¬ inM (nI j) 0 1 = 0 := by rw [inM_in (hi := 1) (nI_pos (by omega)) (show ¬ (1 : Int32) < nI j from nI_nlt (a := 1) (b := j) (by omega) (by decide))]; decide
  have lp : ∀ r q I1, q + r = 30 → ImR I I1 j q → Wp (Kn g D MX8_image (fun r b' I' L' => r = some (.int 1) ∧ b' = b ∧ L' = L ∧ YI I' j (nowI t) ∧ (∀ k, ¬ (130 * j ≤ k ∧ k < 130 * j + 130) → I' 101 k = I 101 k) ∧ (∀ k, k ≠ j → I' 102 k = I 102 k) ∧ ∀ x, x ≠ 101 → x ≠ 102 → I' x = I x)) (Tb b) 20 [some (rf g 71), some (.int (nI j)), some (.int (nI (130 * j))), some (.int (nI q))] [] I1 L := by
    intro r
    induction r with
    | zero =>
      intro q I1 hq hR
      have eq : q = 30 := by omega
      subst eq
      obtain ⟨a1, a2, a3⟩ := hR
      have k6 : I1 71 = I 71 := a3 71 (by decide)
      have e0 : I 71 0 = nI (tK t) := h.1
      have e1 : I 71 1 = nI (tW t) := h.2.1
      refine wq_iload_n 21 3 dX8_image_20 rfl rfl rfl ?_
      refine wq_bipush 23 30 dX8_image_21 rfl (by decide) ?_
      refine wq_ic_ge 26 97 dX8_image_23 rfl (by decide) (fun c23 => ?_) (fun c23 => absurd (by decide) c23)
      refine wq_bload_n 98 0 dX8_image_97 rfl rfl rfl ?_
      refine wq_getR 101 fl_X8_103 dX8_image_98 rfl rfl o_71 (rfl : (Tb _).2.2.2 71 50 = some 101) ?_
      refine wq_iload_n 102 2 dX8_image_101 rfl rfl rfl ?_
      refine wq_bipush 104 120 dX8_image_102 rfl (by decide) ?_
      refine wq_iadd 105 dX8_image_104 rfl ?_
      rw [show (120 : Int32) = nI 120 from rfl, nI_add]
      refine wq_bload_n 106 0 dX8_image_105 rfl rfl rfl ?_
      refine wq_getI 109 fl_X8_141 dX8_image_106 rfl rfl o_71 ?_
      refine wq_iast 110 dX8_image_109 rfl a_101 (Ix.nI (by omega) (by decide)) ?_
      refine wq_bload_n 111 0 dX8_image_110 rfl rfl rfl ?_
      refine wq_getR 114 fl_X8_103 dX8_image_111 rfl rfl o_71 (rfl : (Tb _).2.2.2 71 50 = some 101) ?_
      refine wq_iload_n 115 2 dX8_image_114 rfl rfl rfl ?_
      refine wq_bipush 117 121 dX8_image_115 rfl (by decide) ?_
      refine wq_iadd 118 dX8_image_117 rfl ?_
      rw [show (121 : Int32) = nI 121 from rfl, nI_add]
      refine wq_bload_n 119 0 dX8_image_118 rfl rfl rfl ?_
      refine wq_getI 122 fl_X8_7 dX8_image_119 rfl rfl o_71 ?_
      refine wq_iast 123 dX8_image_122 rfl a_101 (Ix.nI (by omega) (by decide)) ?_
      refine wq_bload_n 124 0 dX8_image_123 rfl rfl rfl ?_
      refine wq_getR 127 fl_X8_103 dX8_image_124 rfl rfl o_71 (rfl : (Tb _).2.2.2 71 50 = some 101) ?_
      refine wq_iload_n 128 2 dX8_image_127 rfl rfl rfl ?_
      refine wq_bipush 130 122 dX8_image_128 rfl (by decide) ?_
      refine wq_iadd 131 dX8_image_130 rfl ?_
      rw [show (122 : Int32) = nI 122 from rfl, nI_add]
      refine wq_bload_n 132 0 dX8_image_131 rfl rfl rfl ?_
      refine wq_getI 135 fl_X8_117 dX8_image_132 rfl rfl o_71 ?_
      refine wq_iast 136 dX8_image_135 rfl a_101 (Ix.nI (by omega) (by decide)) ?_
      refine wq_bload_n 137 0 dX8_image_136 rfl rfl rfl ?_
      refine wq_getR 140 fl_X8_106 dX8_image_137 rfl rfl o_71 (rfl : (Tb _).2.2.2 71 51 = some 102) ?_
      refine wq_iload_n 141 1 dX8_image_140 rfl rfl rfl ?_
      refine wq_iconst 142 1 dX8_image_141 rfl (by decide) ?_
      refine wq_zast 143 dX8_image_142 rfl a_102 (Ix.nI (by omega) (by decide)) rfl ?_
      refine wq_iconst 144 1 dX8_image_143 rfl (by decide) ?_
      refine wq_gen (fun I2 L2 eI2 eL2 => ?_)
      refine ri .int dX8_image_144 rfl rfl ?_
      have i102 : I2 102 = va_up (I 102) j 1 := by
        rw [eI2, va_up_self]
        simp only [va_up_ne _ _ (show 102 ≠ 101 by decide), a3 102 (by decide)]
      have i101 : I2 101 = va_up (va_up (va_up (I1 101) (130 * j + 120) (nI (tN t))) (130 * j + 121) (nI (tK t))) (130 * j + 122) (nI (tW t)) := by
        rw [eI2]
        simp only [va_up_self, va_up_ne _ _ (show 101 ≠ 102 by decide), va_up_ne _ _ (show 71 ≠ 101 by decide), k6, e0, e1, hM.2.1]
      have ix : ∀ z, z ≠ 101 → z ≠ 102 → I2 z = I z := fun z z1 z2 => by
        rw [eI2, va_up_ne _ _ z2, va_up_ne _ _ z1, va_up_ne _ _ z1, va_up_ne _ _ z1]; exact a3 z z1
      refine ⟨rfl, rfl, eL2, ⟨by rw [i102, va_up_self]; rfl, fun _ => ⟨fun i hi => ?_, ?_, ?_, ?_⟩⟩, fun k hk => ?_, fun k hk => by rw [i102, va_up_ne _ _ hk], ix⟩
      · have hi' : i < tN t := hi
        obtain ⟨b0, b1, b2, b3⟩ := a1 i (by omega)
        obtain ⟨c0, c1, c2, c3⟩ := hM.2.2 i hi'
        rw [i101]
        rw [va_up_ne _ _ (by omega), va_up_ne _ _ (by omega), va_up_ne _ _ (by omega), va_up_ne _ _ (by omega), va_up_ne _ _ (by omega), va_up_ne _ _ (by omega), va_up_ne _ _ (by omega), va_up_ne _ _ (by omega), va_up_ne _ _ (by omega), va_up_ne _ _ (by omega), va_up_ne _ _ (by omega), va_up_ne _ _ (by omega), b0, b1, b2, b3]
        exact ⟨c0, c1, c2, c3⟩
      · rw [i101, va_up_ne _ _ (by omega), va_up_ne _ _ (by omega), va_up_self]; rfl
      · rw [i101, va_up_ne _ _ (by omega), va_up_self]; rfl
      · rw [i101, va_up_self]; rfl
      · rw [i101, va_up_ne _ _ (by omega), va_up_ne _ _ (by omega), va_up_ne _ _ (by omega)]; exact a2 k hk
    | succ r ih =>
      intro q I1 hq hR
      obtain ⟨a1, a2, a3⟩ := hR
      refine wq_iload_n 21 3 dX8_image_20 rfl rfl rfl ?_
      refine wq_bipush 23 30 dX8_image_21 rfl (by decide) ?_
      refine wq_ic_ge 26 97 dX8_image_23 rfl (by decide) (fun c23 => absurd c23 (nI_ge (b := 30) (by omega) (by decide))) (fun c23 => ?_)
      refine wq_bload_n 27 0 dX8_image_26 rfl rfl rfl ?_
      refine wq_getR 30 fl_X8_103 dX8_image_27 rfl rfl o_71 (rfl : (Tb _).2.2.2 71 50 = some 101) ?_
      refine wq_iload_n 31 2 dX8_image_30 rfl rfl rfl ?_
      refine wq_iload_n 32 3 dX8_image_31 rfl rfl rfl ?_
      refine wq_iadd 33 dX8_image_32 rfl ?_
      rw [nI_add]
      refine wq_bload_n 34 0 dX8_image_33 rfl rfl rfl ?_
      refine wq_getR 37 fl_X8_13 dX8_image_34 rfl rfl o_71 (rfl : (Tb _).2.2.2 71 2 = some 72) ?_
      refine wq_iload_n 38 3 dX8_image_37 rfl rfl rfl ?_
      refine wq_iald 39 dX8_image_38 rfl a_72 (Ix.nI (by omega) (by decide)) ?_
      refine wq_iast 40 dX8_image_39 rfl a_101 (Ix.nI (by omega) (by decide)) ?_
      refine wq_bload_n 41 0 dX8_image_40 rfl rfl rfl ?_
      refine wq_getR 44 fl_X8_103 dX8_image_41 rfl rfl o_71 (rfl : (Tb _).2.2.2 71 50 = some 101) ?_
      refine wq_iload_n 45 2 dX8_image_44 rfl rfl rfl ?_
      refine wq_bipush 47 30 dX8_image_45 rfl (by decide) ?_
      refine wq_iadd 48 dX8_image_47 rfl ?_
      rw [show (30 : Int32) = nI 30 from rfl, nI_add]
      refine wq_iload_n 49 3 dX8_image_48 rfl rfl rfl ?_
      refine wq_iadd 50 dX8_image_49 rfl ?_
      rw [nI_add]
      refine wq_bload_n 51 0 dX8_image_50 rfl rfl rfl ?_
      refine wq_getR 54 fl_X8_17 dX8_image_51 rfl rfl o_71 (rfl : (Tb _).2.2.2 71 3 = some 73) ?_
      refine wq_iload_n 55 3 dX8_image_54 rfl rfl rfl ?_
      refine wq_iald 56 dX8_image_55 rfl a_73 (Ix.nI (by omega) (by decide)) ?_
      refine wq_iast 57 dX8_image_56 rfl a_101 (Ix.nI (by omega) (by decide)) ?_
      refine wq_bload_n 58 0 dX8_image_57 rfl rfl rfl ?_
      refine wq_getR 61 fl_X8_103 dX8_image_58 rfl rfl o_71 (rfl : (Tb _).2.2.2 71 50 = some 101) ?_
      refine wq_iload_n 62 2 dX8_image_61 rfl rfl rfl ?_
      refine wq_bipush 64 60 dX8_image_62 rfl (by decide) ?_
      refine wq_iadd 65 dX8_image_64 rfl ?_
      rw [show (60 : Int32) = nI 60 from rfl, nI_add]
      refine wq_iload_n 66 3 dX8_image_65 rfl rfl rfl ?_
      refine wq_iadd 67 dX8_image_66 rfl ?_
      rw [nI_add]
      refine wq_bload_n 68 0 dX8_image_67 rfl rfl rfl ?_
      refine wq_getR 71 fl_X8_20 dX8_image_68 rfl rfl o_71 (rfl : (Tb _).2.2.2 71 4 = some 74) ?_
      refine wq_iload_n 72 3 dX8_image_71 rfl rfl rfl ?_
      refine wq_iald 73 dX8_image_72 rfl a_74 (Ix.nI (by omega) (by decide)) ?_
      refine wq_iast 74 dX8_image_73 rfl a_101 (Ix.nI (by omega) (by decide)) ?_
      refine wq_bload_n 75 0 dX8_image_74 rfl rfl rfl ?_
      refine wq_getR 78 fl_X8_103 dX8_image_75 rfl rfl o_71 (rfl : (Tb _).2.2.2 71 50 = some 101) ?_
      refine wq_iload_n 79 2 dX8_image_78 rfl rfl rfl ?_
      refine wq_bipush 81 90 dX8_image_79 rfl (by decide) ?_
      refine wq_iadd 82 dX8_image_81 rfl ?_
      rw [show (90 : Int32) = nI 90 from rfl, nI_add]
      refine wq_iload_n 83 3 dX8_image_82 rfl rfl rfl ?_
      refine wq_iadd 84 dX8_image_83 rfl ?_
      rw [nI_add]
      refine wq_bload_n 85 0 dX8_image_84 rfl rfl rfl ?_
      refine wq_getR 88 fl_X8_23 dX8_image_85 rfl rfl o_71 (rfl : (Tb _).2.2.2 71 5 = some 75) ?_
      refine wq_iload_n 89 3 dX8_image_88 rfl rfl rfl ?_
      refine wq_iald 90 dX8_image_89 rfl a_75 (Ix.nI (by omega) (by decide)) ?_
      refine wq_iast 91 dX8_image_90 rfl a_101 (Ix.nI (by omega) (by decide)) ?_
      refine wq_iinc 94 (_ + 1) [_, _, _, _] dX8_image_91 rfl rfl (inc1 _) rfl (Nat.le_of_ble_eq_true rfl) rfl ?_
      refine wq_goto 20 dX8_image_94 (by decide) ?_
      rw [← nI_succ]
      refine wq_gen (fun I2 L2 eI2 eL2 => ?_)
      rw [eL2]
      clear eL2
      have i101 : I2 101 = va_up (va_up (va_up (va_up (I1 101) (130 * j + q) (I 72 q)) (130 * j + 30 + q) (I 73 q)) (130 * j + 60 + q) (I 74 q)) (130 * j + 90 + q) (I 75 q) := by
        rw [eI2]
        simp only [va_up_self, va_up_ne _ _ (show 72 ≠ 101 by decide), va_up_ne _ _ (show 73 ≠ 101 by decide), va_up_ne _ _ (show 74 ≠ 101 by decide), va_up_ne _ _ (show 75 ≠ 101 by decide), a3 72 (by decide), a3 73 (by decide), a3 74 (by decide), a3 75 (by decide)]
      have ix : ∀ z, z ≠ 101 → I2 z = I1 z := fun z hz => by rw [eI2, va_up_ne _ _ hz, va_up_ne _ _ hz, va_up_ne _ _ hz, va_up_ne _ _ hz]
      clear eI2
      refine ih (q + 1) I2 (by omega) ⟨fun i hi => ?_, fun k hk => ?_, fun x hx => by rw [ix x hx]; exact a3 x hx⟩
      · rw [i101]
        by_cases e : i = q
        · subst e
          refine ⟨?_, ?_, ?_, ?_⟩
          · rw [va_up_ne _ _ (by omega), va_up_ne _ _ (by omega), va_up_ne _ _ (by omega), va_up_self]
          · rw [va_up_ne _ _ (by omega), va_up_ne _ _ (by omega), va_up_self]
          · rw [va_up_ne _ _ (by omega), va_up_self]
          · rw [va_up_self]
        · obtain ⟨b0, b1, b2, b3⟩ := a1 i (by omega)
          refine ⟨?_, ?_, ?_, ?_⟩
          · rw [va_up_ne _ _ (by omega), va_up_ne _ _ (by omega), va_up_ne _ _ (by omega), va_up_ne _ _ (by omega)]; exact b0
          · rw [va_up_ne _ _ (by omega), va_up_ne _ _ (by omega), va_up_ne _ _ (by omega), va_up_ne _ _ (by omega)]; exact b1
          · rw [va_up_ne _ _ (by omega), va_up_ne _ _ (by omega), va_up_ne _ _ (by omega), va_up_ne _ _ (by omega)]; exact b2
          · rw [va_up_ne _ _ (by omega), va_up_ne _ _ (by omega), va_up_ne _ _ (by omega), va_up_ne _ _ (by omega)]; exact b3
      · rw [i101, va_up_ne _ _ (by omega), va_up_ne _ _ (by omega), va_up_ne _ _ (by omega), va_up_ne _ _ (by omega)]; exact a2 k hk
  refine Me.of [some (rf g 71), some (.int (nI j)), none, none] 2 rfl pf_X8_image (Nat.le_of_ble_eq_true rfl) ?_
  refine wq_iload_n 1 1 dX8_image_0 rfl rfl rfl ?_
  refine wq_iconst 2 0 dX8_image_1 rfl (by decide) ?_
  refine wq_iconst 3 1 dX8_image_2 rfl (by decide) ?_
  refine cSi3 6 (sp_X8_in _ _ _) ml_X8_113 mf_X8_in dX8_image_3 rfl (Nat.le_of_ble_eq_true rfl) (by omega) ?_
  refine wq_if_ne 9 12 dX8_image_6 rfl (by decide) (fun c6 => ?_) (fun c6 => absurd c6 nz)
  refine wq_sipush 15 130 dX8_image_12 rfl (by decide) ?_
  refine wq_iload_n 16 1 dX8_image_15 rfl rfl rfl ?_
  refine wq_imul 17 dX8_image_16 rfl ?_
  rw [show (130 : Int32) = nI 130 from rfl, pk_mul]
  refine wq_istore_n 18 2 [_, _, _, _] dX8_image_17 rfl rfl rfl (Nat.le_of_ble_eq_true rfl) rfl ?_
  refine wq_iconst 19 0 dX8_image_18 rfl (by decide) ?_
  refine wq_istore_n 20 3 [_, _, _, _] dX8_image_19 rfl rfl rfl (Nat.le_of_ble_eq_true rfl) rfl ?_
  exact lp 30 0 I (by omega) ⟨fun i hi => by omega, fun _ _ => rfl, fun _ _ => rfl⟩
theorem InvM_im {I' : IM} {A Z : TI} (h : InvM I t) (e : ∀ x, x ≠ 101 → x ≠ 102 → I' x = I x) (hA : YI I' 0 A) (hZ : YI I' 1 Z) : InvM I' (tK t, tW t, tC t, tG t, tN t, tP t, A, Z) := by
  obtain ⟨h1, h2, h3, h4, h5, h6, h7⟩ := h
  have e71 := e 71 (by decide) (by decide)
  refine ⟨by rw [e71]; exact h1, by rw [e71]; exact h2, by rw [e71]; exact h3, ?_, ?_, hA, hZ⟩
  · unfold PdM; rw [e71, e 76 (by decide) (by decide)]; exact h4
  · unfold MR; rw [e71, e 72 (by decide) (by decide), e 73 (by decide) (by decide), e 74 (by decide) (by decide), e 75 (by decide) (by decide)]; exact h5
set_option maxRecDepth 20000 in
theorem cm_image (hD : 1 ≤ D) (h : InvM I t) (hv : VT t) (v : Int32) : CM g D MX8_image [rf g 71, .int v] b I L (anImage v) (nxImage t v) := by
  by_cases c : inM v 0 1 = 0
  · refine Me.of [some (rf g 71), some (.int v), none, none] 2 rfl pf_X8_image (Nat.le_of_ble_eq_true rfl) ?_
    refine wq_iload_n 1 1 dX8_image_0 rfl rfl rfl ?_
    refine wq_iconst 2 0 dX8_image_1 rfl (by decide) ?_
    refine wq_iconst 3 1 dX8_image_2 rfl (by decide) ?_
    refine cSi3 6 (sp_X8_in _ _ _) ml_X8_113 mf_X8_in dX8_image_3 rfl (Nat.le_of_ble_eq_true rfl) (by omega) ?_
    refine wq_if_ne 9 12 dX8_image_6 rfl (by decide) (fun c6 => absurd c6 (by rw [c]; exact fun z => z rfl)) (fun c6 => ?_)
    refine wq_bipush 11 (-2) dX8_image_9 rfl (by decide) ?_
    refine ri .int dX8_image_11 rfl rfl ?_
    exact ⟨by rw [anImage, if_pos c], rfl, by rw [nxImage, if_pos c]; exact h, fun _ _ _ => ⟨rfl, rfl⟩⟩
  · obtain ⟨x, x1, ex⟩ := in_ex (v := v) (hi := 1) (by decide) (fun z => c (inM_lt z)) (fun z => c (inM_gt z))
    subst ex
    have hx : x = 0 ∨ x = 1 := by omega
    rcases hx with rfl | rfl
    · refine Me.mono (yim_aux (j := 0) hD h (by omega)) (fun r b' I' L' hr => ?_)
      obtain ⟨r1, r2, rfl, r3, r4, r5, r6⟩ := hr
      refine ⟨by rw [r1, anImage, if_neg c], r2, ?_, Sm_M (fun z hz => r6 z (by omega) (by omega))⟩
      rw [nxImage, if_neg c, if_pos (show nI 0 = 0 from rfl)]
      exact InvM_im h r6 r3 (YI_other h.2.2.2.2.2.2 (fun z => (hv.2.2 z).2.2.2.1) (by decide : 0 ≠ 1) r4 (r5 1 (by decide)))
    · refine Me.mono (yim_aux (j := 1) hD h (by omega)) (fun r b' I' L' hr => ?_)
      obtain ⟨r1, r2, rfl, r3, r4, r5, r6⟩ := hr
      refine ⟨by rw [r1, anImage, if_neg c], r2, ?_, Sm_M (fun z hz => r6 z (by omega) (by omega))⟩
      rw [nxImage, if_neg c, if_neg (show ¬ nI 1 = 0 by decide)]
      exact InvM_im h r6 (YI_other h.2.2.2.2.2.1 (fun z => (hv.2.1 z).2.2.2.1) (by decide : 1 ≠ 0) r4 (r5 0 (by decide))) r3
def ReR (I I1 : IM) (j q : Nat) : Prop := (∀ i, i < q → I1 72 i = I 101 (130 * j + i) ∧ I1 73 i = I 101 (130 * j + 30 + i) ∧ I1 74 i = I 101 (130 * j + 60 + i) ∧ I1 75 i = I 101 (130 * j + 90 + i)) ∧ ∀ x, x ∉ [72, 73, 74, 75] → I1 x = I x
set_option maxRecDepth 20000 in
set_option maxHeartbeats 4000000 in
theorem yre_aux {j : Nat} {A : TI} (hD : 1 ≤ D) (h : InvM I t) (hj : j < 2) (hA : YI I j A) (hk : A.1 = true) (hVA : VI A) : Me g D MX8_restore [rf g 71, .int (nI j)] b I L (fun r b' I' L' => r = some (.int 1) ∧ b' = b ∧ L' = L ∧ InvM I' (A.2.1, A.2.2.1, tC t, tG t, A.2.2.2.1, A.2.2.2.2, tA t, tZ t) ∧ ∀ x, x ∉ [71, 72, 73, 74, 75] → I' x = I x) := by
  obtain ⟨w1, w2, w3, w4⟩ := hA.2 hk
  have hn := (hVA hk).2.2.2.1
  have hk1 : I 102 j = 1 := by rw [hA.1, hk]; rfl
  have nz : ¬ inM (nI j) 0 1 = 0 := by rw [inM_in (hi := 1) (nI_pos (by omega)) (show ¬ (1 : Int32) < nI j from nI_nlt (a := 1) (b := j) (by omega) (by decide))]; decide
  obtain ⟨h1, h2, h3, h4, h5, h6, h7⟩ := h
  have lp : ∀ r q I1, q + r = 30 → ReR I I1 j q → Wp (Kn g D MX8_restore (fun r b' I' L' => r = some (.int 1) ∧ b' = b ∧ L' = L ∧ InvM I' (A.2.1, A.2.2.1, tC t, tG t, A.2.2.2.1, A.2.2.2.2, tA t, tZ t) ∧ ∀ x, x ∉ [71, 72, 73, 74, 75] → I' x = I x)) (Tb b) 32 [some (rf g 71), some (.int (nI j)), some (.int (nI (130 * j))), some (.int (nI q))] [] I1 L := by
    intro r
    induction r with
    | zero =>
      intro q I1 hq hR
      have eq : q = 30 := by omega
      subst eq
      obtain ⟨a1, a2⟩ := hR
      have k101 : I1 101 = I 101 := a2 101 (by decide)
      have k71 : I1 71 = I 71 := a2 71 (by decide)
      refine wq_iload_n 33 3 dX8_restore_32 rfl rfl rfl ?_
      refine wq_bipush 35 30 dX8_restore_33 rfl (by decide) ?_
      refine wq_ic_ge 38 109 dX8_restore_35 rfl (by decide) (fun c35 => ?_) (fun c35 => absurd (by decide) c35)
      refine wq_bload_n 110 0 dX8_restore_109 rfl rfl rfl ?_
      refine wq_bload_n 111 0 dX8_restore_110 rfl rfl rfl ?_
      refine wq_getR 114 fl_X8_103 dX8_restore_111 rfl rfl o_71 (rfl : (Tb _).2.2.2 71 50 = some 101) ?_
      refine wq_iload_n 115 2 dX8_restore_114 rfl rfl rfl ?_
      refine wq_bipush 117 120 dX8_restore_115 rfl (by decide) ?_
      refine wq_iadd 118 dX8_restore_117 rfl ?_
      rw [show (120 : Int32) = nI 120 from rfl, nI_add]
      refine wq_iald 119 dX8_restore_118 rfl a_101 (Ix.nI (by omega) (by decide)) ?_
      refine wq_putI 122 fl_X8_141 dX8_restore_119 rfl rfl rfl rfl rfl o_71 ?_
      refine wq_bload_n 123 0 dX8_restore_122 rfl rfl rfl ?_
      refine wq_bload_n 124 0 dX8_restore_123 rfl rfl rfl ?_
      refine wq_getR 127 fl_X8_103 dX8_restore_124 rfl rfl o_71 (rfl : (Tb _).2.2.2 71 50 = some 101) ?_
      refine wq_iload_n 128 2 dX8_restore_127 rfl rfl rfl ?_
      refine wq_bipush 130 121 dX8_restore_128 rfl (by decide) ?_
      refine wq_iadd 131 dX8_restore_130 rfl ?_
      rw [show (121 : Int32) = nI 121 from rfl, nI_add]
      refine wq_iald 132 dX8_restore_131 rfl a_101 (Ix.nI (by omega) (by decide)) ?_
      refine wq_putI 135 fl_X8_7 dX8_restore_132 rfl rfl rfl rfl rfl o_71 ?_
      refine wq_bload_n 136 0 dX8_restore_135 rfl rfl rfl ?_
      refine wq_bload_n 137 0 dX8_restore_136 rfl rfl rfl ?_
      refine wq_getR 140 fl_X8_103 dX8_restore_137 rfl rfl o_71 (rfl : (Tb _).2.2.2 71 50 = some 101) ?_
      refine wq_iload_n 141 2 dX8_restore_140 rfl rfl rfl ?_
      refine wq_bipush 143 122 dX8_restore_141 rfl (by decide) ?_
      refine wq_iadd 144 dX8_restore_143 rfl ?_
      rw [show (122 : Int32) = nI 122 from rfl, nI_add]
      refine wq_iald 145 dX8_restore_144 rfl a_101 (Ix.nI (by omega) (by decide)) ?_
      refine wq_putI 148 fl_X8_117 dX8_restore_145 rfl rfl rfl rfl rfl o_71 ?_
      refine wq_iconst 149 1 dX8_restore_148 rfl (by decide) ?_
      refine wq_gen (fun I2 L2 eI2 eL2 => ?_)
      refine ri .int dX8_restore_149 rfl rfl ?_
      have i71 : I2 71 = va_up (va_up (va_up (I 71) 6 (nI A.2.2.2.1)) 0 (nI A.2.1)) 1 (nI A.2.2.1) := by
        rw [eI2]
        simp only [va_up_self, va_up_ne _ _ (show 101 ≠ 71 by decide), k101, k71, w2, w3, w4]
      have ix : ∀ z, z ≠ 71 → I2 z = I1 z := fun z hz => by rw [eI2, va_up_ne _ _ hz, va_up_ne _ _ hz, va_up_ne _ _ hz]
      have iy : ∀ x, x ∉ [71, 72, 73, 74, 75] → I2 x = I x := fun x hx => by simp at hx; rw [ix x hx.1, a2 x (by simp; omega)]
      refine ⟨rfl, rfl, eL2, ⟨by rw [i71]; simp [va_up]; rfl, by rw [i71]; simp [va_up]; rfl, by rw [i71]; simp [va_up]; exact h3, ?_, ⟨hn, by rw [i71]; simp [va_up]; rfl, fun i hi => ?_⟩, ?_, ?_⟩, iy⟩
      · unfold PdM; rw [i71, iy 76 (by decide), va_up_ne _ _ (by decide), va_up_ne _ _ (by decide), va_up_ne _ _ (by decide)]; exact h4
      · have hi' : i < A.2.2.2.1 := hi
        obtain ⟨b0, b1, b2, b3⟩ := a1 i (by omega)
        obtain ⟨c0, c1, c2, c3⟩ := w1 i hi'
        rw [ix 72 (by decide), ix 73 (by decide), ix 74 (by decide), ix 75 (by decide), b0, b1, b2, b3]
        exact ⟨c0, c1, c2, c3⟩
      · unfold YI; rw [iy 101 (by decide), iy 102 (by decide)]; exact h6
      · unfold YI; rw [iy 101 (by decide), iy 102 (by decide)]; exact h7
    | succ r ih =>
      intro q I1 hq hR
      obtain ⟨a1, a2⟩ := hR
      refine wq_iload_n 33 3 dX8_restore_32 rfl rfl rfl ?_
      refine wq_bipush 35 30 dX8_restore_33 rfl (by decide) ?_
      refine wq_ic_ge 38 109 dX8_restore_35 rfl (by decide) (fun c35 => absurd c35 (nI_ge (b := 30) (by omega) (by decide))) (fun c35 => ?_)
      refine wq_bload_n 39 0 dX8_restore_38 rfl rfl rfl ?_
      refine wq_getR 42 fl_X8_13 dX8_restore_39 rfl rfl o_71 (rfl : (Tb _).2.2.2 71 2 = some 72) ?_
      refine wq_iload_n 43 3 dX8_restore_42 rfl rfl rfl ?_
      refine wq_bload_n 44 0 dX8_restore_43 rfl rfl rfl ?_
      refine wq_getR 47 fl_X8_103 dX8_restore_44 rfl rfl o_71 (rfl : (Tb _).2.2.2 71 50 = some 101) ?_
      refine wq_iload_n 48 2 dX8_restore_47 rfl rfl rfl ?_
      refine wq_iload_n 49 3 dX8_restore_48 rfl rfl rfl ?_
      refine wq_iadd 50 dX8_restore_49 rfl ?_
      rw [nI_add]
      refine wq_iald 51 dX8_restore_50 rfl a_101 (Ix.nI (by omega) (by decide)) ?_
      refine wq_iast 52 dX8_restore_51 rfl a_72 (Ix.nI (by omega) (by decide)) ?_
      refine wq_bload_n 53 0 dX8_restore_52 rfl rfl rfl ?_
      refine wq_getR 56 fl_X8_17 dX8_restore_53 rfl rfl o_71 (rfl : (Tb _).2.2.2 71 3 = some 73) ?_
      refine wq_iload_n 57 3 dX8_restore_56 rfl rfl rfl ?_
      refine wq_bload_n 58 0 dX8_restore_57 rfl rfl rfl ?_
      refine wq_getR 61 fl_X8_103 dX8_restore_58 rfl rfl o_71 (rfl : (Tb _).2.2.2 71 50 = some 101) ?_
      refine wq_iload_n 62 2 dX8_restore_61 rfl rfl rfl ?_
      refine wq_bipush 64 30 dX8_restore_62 rfl (by decide) ?_
      refine wq_iadd 65 dX8_restore_64 rfl ?_
      rw [show (30 : Int32) = nI 30 from rfl, nI_add]
      refine wq_iload_n 66 3 dX8_restore_65 rfl rfl rfl ?_
      refine wq_iadd 67 dX8_restore_66 rfl ?_
      rw [nI_add]
      refine wq_iald 68 dX8_restore_67 rfl a_101 (Ix.nI (by omega) (by decide)) ?_
      refine wq_iast 69 dX8_restore_68 rfl a_73 (Ix.nI (by omega) (by decide)) ?_
      refine wq_bload_n 70 0 dX8_restore_69 rfl rfl rfl ?_
      refine wq_getR 73 fl_X8_20 dX8_restore_70 rfl rfl o_71 (rfl : (Tb _).2.2.2 71 4 = some 74) ?_
      refine wq_iload_n 74 3 dX8_restore_73 rfl rfl rfl ?_
      refine wq_bload_n 75 0 dX8_restore_74 rfl rfl rfl ?_
      refine wq_getR 78 fl_X8_103 dX8_restore_75 rfl rfl o_71 (rfl : (Tb _).2.2.2 71 50 = some 101) ?_
      refine wq_iload_n 79 2 dX8_restore_78 rfl rfl rfl ?_
      refine wq_bipush 81 60 dX8_restore_79 rfl (by decide) ?_
      refine wq_iadd 82 dX8_restore_81 rfl ?_
      rw [show (60 : Int32) = nI 60 from rfl, nI_add]
      refine wq_iload_n 83 3 dX8_restore_82 rfl rfl rfl ?_
      refine wq_iadd 84 dX8_restore_83 rfl ?_
      rw [nI_add]
      refine wq_iald 85 dX8_restore_84 rfl a_101 (Ix.nI (by omega) (by decide)) ?_
      refine wq_iast 86 dX8_restore_85 rfl a_74 (Ix.nI (by omega) (by decide)) ?_
      refine wq_bload_n 87 0 dX8_restore_86 rfl rfl rfl ?_
      refine wq_getR 90 fl_X8_23 dX8_restore_87 rfl rfl o_71 (rfl : (Tb _).2.2.2 71 5 = some 75) ?_
      refine wq_iload_n 91 3 dX8_restore_90 rfl rfl rfl ?_
      refine wq_bload_n 92 0 dX8_restore_91 rfl rfl rfl ?_
      refine wq_getR 95 fl_X8_103 dX8_restore_92 rfl rfl o_71 (rfl : (Tb _).2.2.2 71 50 = some 101) ?_
      refine wq_iload_n 96 2 dX8_restore_95 rfl rfl rfl ?_
      refine wq_bipush 98 90 dX8_restore_96 rfl (by decide) ?_
      refine wq_iadd 99 dX8_restore_98 rfl ?_
      rw [show (90 : Int32) = nI 90 from rfl, nI_add]
      refine wq_iload_n 100 3 dX8_restore_99 rfl rfl rfl ?_
      refine wq_iadd 101 dX8_restore_100 rfl ?_
      rw [nI_add]
      refine wq_iald 102 dX8_restore_101 rfl a_101 (Ix.nI (by omega) (by decide)) ?_
      refine wq_iast 103 dX8_restore_102 rfl a_75 (Ix.nI (by omega) (by decide)) ?_
      refine wq_iinc 106 (_ + 1) [_, _, _, _] dX8_restore_103 rfl rfl (inc1 _) rfl (Nat.le_of_ble_eq_true rfl) rfl ?_
      refine wq_goto 32 dX8_restore_106 (by decide) ?_
      rw [← nI_succ]
      refine wq_gen (fun I2 L2 eI2 eL2 => ?_)
      rw [eL2]
      clear eL2
      have k101 : I1 101 = I 101 := a2 101 (by decide)
      have e72 : I2 72 = va_up (I1 72) q (I 101 (130 * j + q)) := by rw [eI2, ← k101]; simp [va_up]
      have e73 : I2 73 = va_up (I1 73) q (I 101 (130 * j + 30 + q)) := by rw [eI2, ← k101]; simp [va_up]
      have e74 : I2 74 = va_up (I1 74) q (I 101 (130 * j + 60 + q)) := by rw [eI2, ← k101]; simp [va_up]
      have e75 : I2 75 = va_up (I1 75) q (I 101 (130 * j + 90 + q)) := by rw [eI2, ← k101]; simp [va_up]
      have ix : ∀ x, x ∉ [72, 73, 74, 75] → I2 x = I1 x := fun x hx => by
        simp at hx
        rw [eI2]
        simp [va_up, hx]
      clear eI2
      refine ih (q + 1) I2 (by omega) ⟨fun i hi => ?_, fun x hx => (ix x hx).trans (a2 x hx)⟩
      rw [e72, e73, e74, e75]
      by_cases e : i = q
      · rw [e, va_up_self, va_up_self, va_up_self, va_up_self]; exact ⟨rfl, rfl, rfl, rfl⟩
      · rw [va_up_ne _ _ e, va_up_ne _ _ e, va_up_ne _ _ e, va_up_ne _ _ e]; exact a1 i (by omega)
  refine Me.of [some (rf g 71), some (.int (nI j)), none, none] 2 rfl pf_X8_restore (Nat.le_of_ble_eq_true rfl) ?_
  refine wq_iload_n 1 1 dX8_restore_0 rfl rfl rfl ?_
  refine wq_iconst 2 0 dX8_restore_1 rfl (by decide) ?_
  refine wq_iconst 3 1 dX8_restore_2 rfl (by decide) ?_
  refine cSi3 6 (sp_X8_in _ _ _) ml_X8_113 mf_X8_in dX8_restore_3 rfl (Nat.le_of_ble_eq_true rfl) (by omega) ?_
  refine wq_if_ne 9 12 dX8_restore_6 rfl (by decide) (fun c6 => ?_) (fun c6 => absurd c6 nz)
  refine wq_bload_n 13 0 dX8_restore_12 rfl rfl rfl ?_
  refine wq_getR 16 fl_X8_106 dX8_restore_13 rfl rfl o_71 (rfl : (Tb _).2.2.2 71 51 = some 102) ?_
  refine wq_iload_n 17 1 dX8_restore_16 rfl rfl rfl ?_
  refine wq_zald 18 dX8_restore_17 rfl a_102 (Ix.nI (by omega) (by decide)) ?_
  refine wq_if_ne 21 24 dX8_restore_18 rfl (by decide) (fun c18 => ?_) (fun c18 => absurd c18 (by rw [hk1]; decide))
  refine wq_sipush 27 130 dX8_restore_24 rfl (by decide) ?_
  refine wq_iload_n 28 1 dX8_restore_27 rfl rfl rfl ?_
  refine wq_imul 29 dX8_restore_28 rfl ?_
  rw [show (130 : Int32) = nI 130 from rfl, pk_mul]
  refine wq_istore_n 30 2 [_, _, _, _] dX8_restore_29 rfl rfl rfl (Nat.le_of_ble_eq_true rfl) rfl ?_
  refine wq_iconst 31 0 dX8_restore_30 rfl (by decide) ?_
  refine wq_istore_n 32 3 [_, _, _, _] dX8_restore_31 rfl rfl rfl (Nat.le_of_ble_eq_true rfl) rfl ?_
  exact lp 30 0 I (by omega) ⟨fun i hi => by omega, fun _ _ => rfl⟩
set_option maxRecDepth 20000 in
theorem yre_no {j : Nat} {A : TI} (hD : 1 ≤ D) (hj : j < 2) (hA : YI I j A) (hk : ¬ A.1 = true) : Md g D MX8_restore [rf g 71, .int (nI j)] b I L (some (.int (-3))) b I L := by
  have hk1 : I 102 j = 0 := by rw [hA.1, Bool.eq_false_iff.mpr hk]; rfl
  have nz : ¬ inM (nI j) 0 1 = 0 := by rw [inM_in (hi := 1) (nI_pos (by omega)) (show ¬ (1 : Int32) < nI j from nI_nlt (a := 1) (b := j) (by omega) (by decide))]; decide
  refine Me.of [some (rf g 71), some (.int (nI j)), none, none] 2 rfl pf_X8_restore (Nat.le_of_ble_eq_true rfl) ?_
  refine wq_iload_n 1 1 dX8_restore_0 rfl rfl rfl ?_
  refine wq_iconst 2 0 dX8_restore_1 rfl (by decide) ?_
  refine wq_iconst 3 1 dX8_restore_2 rfl (by decide) ?_
  refine cSi3 6 (sp_X8_in _ _ _) ml_X8_113 mf_X8_in dX8_restore_3 rfl (Nat.le_of_ble_eq_true rfl) (by omega) ?_
  refine wq_if_ne 9 12 dX8_restore_6 rfl (by decide) (fun c6 => ?_) (fun c6 => absurd c6 nz)
  refine wq_bload_n 13 0 dX8_restore_12 rfl rfl rfl ?_
  refine wq_getR 16 fl_X8_106 dX8_restore_13 rfl rfl o_71 (rfl : (Tb _).2.2.2 71 51 = some 102) ?_
  refine wq_iload_n 17 1 dX8_restore_16 rfl rfl rfl ?_
  refine wq_zald 18 dX8_restore_17 rfl a_102 (Ix.nI (by omega) (by decide)) ?_
  refine wq_if_ne 21 24 dX8_restore_18 rfl (by decide) (fun c18 => absurd c18 (by rw [hk1]; exact fun z => z rfl)) (fun c18 => ?_)
  refine wq_bipush 23 (-3) dX8_restore_21 rfl (by decide) ?_
  refine ri .int dX8_restore_23 rfl rfl ?_
  exact ⟨rfl, rfl, rfl, rfl⟩
set_option maxRecDepth 20000 in
theorem cm_restore (hD : 1 ≤ D) (h : InvM I t) (hv : VT t) (v : Int32) : CM g D MX8_restore [rf g 71, .int v] b I L (anRestore t v) (nxRestore t v) := by
  by_cases c : inM v 0 1 = 0
  · refine Me.of [some (rf g 71), some (.int v), none, none] 2 rfl pf_X8_restore (Nat.le_of_ble_eq_true rfl) ?_
    refine wq_iload_n 1 1 dX8_restore_0 rfl rfl rfl ?_
    refine wq_iconst 2 0 dX8_restore_1 rfl (by decide) ?_
    refine wq_iconst 3 1 dX8_restore_2 rfl (by decide) ?_
    refine cSi3 6 (sp_X8_in _ _ _) ml_X8_113 mf_X8_in dX8_restore_3 rfl (Nat.le_of_ble_eq_true rfl) (by omega) ?_
    refine wq_if_ne 9 12 dX8_restore_6 rfl (by decide) (fun c6 => absurd c6 (by rw [c]; exact fun z => z rfl)) (fun c6 => ?_)
    refine wq_bipush 11 (-2) dX8_restore_9 rfl (by decide) ?_
    refine ri .int dX8_restore_11 rfl rfl ?_
    exact ⟨by rw [anRestore, if_pos c], rfl, by rw [nxRestore, if_pos c]; exact h, fun _ _ _ => ⟨rfl, rfl⟩⟩
  · obtain ⟨x, x1, ex⟩ := in_ex (v := v) (hi := 1) (by decide) (fun z => c (inM_lt z)) (fun z => c (inM_gt z))
    subst ex
    have hx : x = 0 ∨ x = 1 := by omega
    have key : ∀ j, j < 2 → ¬ inM (nI j) 0 1 = 0 → YI I j (tIm t (nI j)) → VI (tIm t (nI j)) → CM g D MX8_restore [rf g 71, .int (nI j)] b I L (anRestore t (nI j)) (nxRestore t (nI j)) := by
      intro j hj c hA hVA
      by_cases hk : (tIm t (nI j)).1 = true
      · refine Me.mono (yre_aux hD h hj hA hk hVA) (fun r b' I' L' hr => ?_)
        obtain ⟨r1, r2, rfl, r3, r4⟩ := hr
        exact ⟨by rw [r1, anRestore, if_neg c, if_pos hk], r2, by rw [nxRestore, if_neg c, if_pos hk]; exact r3, Sm_M (fun z hz => r4 z (by simp; omega))⟩
      · refine Me.mono (yre_no hD hj hA hk) (fun r b' I' L' hr => ?_)
        obtain ⟨r1, r2, rfl, rfl⟩ := hr
        exact ⟨by rw [r1, anRestore, if_neg c, if_neg hk], r2, by rw [nxRestore, if_neg c, if_neg hk]; exact h, fun _ _ _ => ⟨rfl, rfl⟩⟩
    rcases hx with rfl | rfl
    · exact key 0 (by omega) c h.2.2.2.2.2.1 hv.2.1
    · exact key 1 (by omega) c h.2.2.2.2.2.2 hv.2.2
end MCalls4
