/-! the class's calls: images -/
section Calls4
variable {g : Gl} {D : Nat} {b : Bool} {I : IM} {L : LM} {t : TS}
theorem InvX_im {I' : IM} {L' : LM} {A Z : TI} (h : InvX I L t) (e : Sm 0 59 I L I' L') (hA : XI I' L' 59 A) (hZ : XI I' L' 65 Z) : InvX I' L' (tK t, tW t, tC t, tG t, tN t, tP t, A, Z) := by
  obtain ⟨h1, h2, h3, h4, h5, h6, h7, h8, h9⟩ := h
  have e0 := (e 0 (by omega) (by omega)).1
  exact ⟨by rw [e0]; exact h1, PdX_keep h2 (e.sub (by omega) (by omega)), LR_sm h3 (e.sub (by omega) (by omega)), fl_keep h4 (by rw [e0]) (fun q => NdR_keep q (e.sub (by omega) (by omega))), fl_keep h5 (by rw [e0]) (fun q => AlR_keep q (e.sub (by omega) (by omega))), fl_keep h6 (by rw [e0]) (fun q => UX_keep q (e.sub (by omega) (by omega))), fl_keep h7 (by rw [e0]) (fun q r s z => UX_keep (q r s z) (e.sub (by omega) (by omega))), hA, hZ⟩
set_option maxRecDepth 20000 in
set_option maxHeartbeats 2000000 in
theorem im_aux {q j : Nat} (hD : 2 ≤ D) (h : InvX I L t) (hq : IsG q) (hr : (Tb b).2.2.2 58 j = some q) (hj : j < 2) : Me g D MX7_image [rf g 0, .int (nI j)] b I L (fun r b' I' L' => r = some (.int 1) ∧ b' = b ∧ XI I' L' q (nowI t) ∧ ∀ x, ¬ (q ≤ x ∧ x < q + 6) → I' x = I x ∧ L' x = L x) := by
  have h3 : IsL 3 := Or.inl rfl
  have q59 : q = 59 ∨ q = 65 := hq
  have hne : q + 1 ≠ 3 := by omega
  refine Me.of [some (rf g 0), some (.int (nI j)), none] 1 rfl pf_X7_image (Nat.le_of_ble_eq_true rfl) ?_
  have hL0 : LR (va_up I q (va_up (I q) 3 1)) L 3 (tN t) (tP t) := LR_keep h.2.2.1 (fun i hi => va_up_ne _ _ (by omega)) (fun _ _ => rfl)
  refine wq_iload_n 1 1 dX7_image_0 rfl rfl rfl ?_
  refine wq_if_lt 4 9 dX7_image_1 rfl (by decide) (fun c1 => absurd c1 (nI_pos (by omega))) (fun c1 => ?_)
  refine wq_iload_n 5 1 dX7_image_4 rfl rfl rfl ?_
  refine wq_iconst 6 2 dX7_image_5 rfl (by decide) ?_
  refine wq_ic_lt 9 12 dX7_image_6 rfl (by decide) (fun c6 => ?_) (fun c6 => absurd (nI_lt (b := 2) hj (by decide)) c6)
  refine wq_bload_n 13 0 dX7_image_12 rfl rfl rfl ?_
  refine wq_getR 16 fl_X7_49 dX7_image_13 rfl rfl o_0 (rfl : (Tb _).2.2.2 0 6 = some 58) ?_
  refine wq_iload_n 17 1 dX7_image_16 rfl rfl rfl ?_
  refine wq_aald 18 dX7_image_17 rfl a_58 (Ix.nI hj (by decide)) hr ?_
  refine wq_bstore_n 19 2 [_, _, _] dX7_image_18 rfl rfl rfl (Nat.le_of_ble_eq_true rfl) rfl ?_
  refine wq_bload_n 20 2 dX7_image_19 rfl rfl rfl ?_
  refine wq_iconst 21 1 dX7_image_20 rfl (by decide) ?_
  refine wq_putI 24 fl_X7_185 dX7_image_21 rfl rfl rfl rfl rfl (G_ob hq) ?_
  refine wq_bload_n 25 2 dX7_image_24 rfl rfl rfl ?_
  refine wq_getR 28 fl_X7_188 dX7_image_25 rfl rfl (G_ob hq) (G_rf0 hq) ?_
  refine wq_bload_n 29 0 dX7_image_28 rfl rfl rfl ?_
  refine wq_getR 32 fl_X7_19 dX7_image_29 rfl rfl o_0 (rfl : (Tb _).2.2.2 0 1 = some 3) ?_
  refine cVp1 35 (sp_X2_copyFrom (by omega) (G_l hq) h3 hne hL0) ml_X7_189 mf_X2_copyFrom dX7_image_32 rfl (L_ob (G_l hq)) (by decide) rfl (Nat.le_of_ble_eq_true rfl) (by omega) ?_
  rintro _ b I1 L1 ⟨rfl, rfl, hL, off⟩
  refine wq_bload_n 36 2 dX7_image_35 rfl rfl rfl ?_
  refine wq_bload_n 37 0 dX7_image_36 rfl rfl rfl ?_
  refine wq_getI 40 fl_X7_53 dX7_image_37 rfl rfl o_0 ?_
  refine wq_putI 43 fl_X7_192 dX7_image_40 rfl rfl rfl rfl rfl (G_ob hq) ?_
  refine wq_bload_n 44 2 dX7_image_43 rfl rfl rfl ?_
  refine wq_bload_n 45 0 dX7_image_44 rfl rfl rfl ?_
  refine wq_getI 48 fl_X7_57 dX7_image_45 rfl rfl o_0 ?_
  refine wq_putI 51 fl_X7_193 dX7_image_48 rfl rfl rfl rfl rfl (G_ob hq) ?_
  refine wq_iconst 52 1 dX7_image_51 rfl (by decide) ?_
  refine wq_gen (fun I2 L2 eI2 eL2 => ?_)
  refine ri .int dX7_image_52 rfl rfl ?_
  have e1q : I1 q = va_up (I q) 3 1 := by rw [(off q (by simp; omega)).1, va_up_self]
  have e10 : I1 0 = I 0 := by rw [(off 0 (by simp)).1, va_up_ne _ _ (by omega)]
  have iq : I2 q = va_up (va_up (va_up (I q) 3 1) 1 (nI (tK t))) 2 (nI (tW t)) := by
    rw [eI2, va_up_self, va_up_self, va_up_ne _ _ (show 0 ≠ q by omega), e1q, e10, h.1.1, h.1.2]
  have ix : ∀ z, z ≠ q → I2 z = I1 z := fun z hz => by rw [eI2, va_up_ne _ _ hz, va_up_ne _ _ hz]
  refine ⟨rfl, rfl, ⟨by rw [iq]; simp [va_up, nowI, bI], fun _ => ⟨by rw [iq]; simp [va_up, nowI], by rw [iq]; simp [va_up, nowI], ?_⟩⟩, fun x hx => ?_⟩
  · rw [eL2]; exact LR_keep hL (fun i hi => ix _ (by omega)) (fun _ _ => rfl)
  · rw [eL2, ix x (by omega), (off x (by simp; omega)).1, va_up_ne _ _ (by omega)]
    exact ⟨rfl, (off x (by simp; omega)).2⟩
set_option maxRecDepth 20000 in
theorem cx_image (hD : 2 ≤ D) (h : InvX I L t) (v : Int32) : CX g D MX7_image [rf g 0, .int v] b I L (anImage v) (nxImage t v) := by
  by_cases c : inM v 0 1 = 0
  · refine Me.of [some (rf g 0), some (.int v), none] 1 rfl pf_X7_image (Nat.le_of_ble_eq_true rfl) ?_
    refine wq_iload_n 1 1 dX7_image_0 rfl rfl rfl ?_
    refine wq_if_lt 4 9 dX7_image_1 rfl (by decide) (fun c1 => ?_) (fun c1 => ?_)
    · skip
      refine wq_bipush 11 (-2) dX7_image_9 rfl (by decide) ?_
      refine ri .int dX7_image_11 rfl rfl ?_
      exact ⟨by rw [anImage, if_pos c], by rw [nxImage, if_pos c]; exact h, fun _ _ _ => ⟨rfl, rfl⟩⟩
    · skip
      refine wq_iload_n 5 1 dX7_image_4 rfl rfl rfl ?_
      refine wq_iconst 6 2 dX7_image_5 rfl (by decide) ?_
      refine wq_ic_lt 9 12 dX7_image_6 rfl (by decide) (fun c6 => ?_) (fun c6 => ?_)
      · skip
        exfalso
        have c7 : ¬ (1 : Int32) < v := by
          obtain ⟨x, xn, rfl⟩ := in_ix (n := 2) (by decide) c1 c6
          exact nI_nlt (a := 1) (b := x) (by omega) (by decide)
        rw [inM_in c1 c7] at c
        exact absurd c (by decide)
      · skip
        refine wq_bipush 11 (-2) dX7_image_9 rfl (by decide) ?_
        refine ri .int dX7_image_11 rfl rfl ?_
        exact ⟨by rw [anImage, if_pos c], by rw [nxImage, if_pos c]; exact h, fun _ _ _ => ⟨rfl, rfl⟩⟩
  · obtain ⟨x, x1, ex⟩ := in_ex (v := v) (hi := 1) (by decide) (fun z => c (inM_lt z)) (fun z => c (inM_gt z))
    subst ex
    have hx : x = 0 ∨ x = 1 := by omega
    rcases hx with rfl | rfl
    · refine Me.mono (im_aux (q := 59) (j := 0) hD h (Or.inl rfl) rfl (by omega)) (fun r b' I' L' hr => ?_)
      obtain ⟨r1, -, r2, r3⟩ := hr
      refine ⟨by rw [r1, anImage, if_neg c], ?_, fun x x1 _ => r3 x (by omega)⟩
      rw [nxImage, if_neg c, if_pos (show nI 0 = 0 from rfl)]
      exact InvX_im h (fun x _ x2 => r3 x (by omega)) r2 (XI_keep h.2.2.2.2.2.2.2.2 (fun x x1 x2 => r3 x (by omega)))
    · refine Me.mono (im_aux (q := 65) (j := 1) hD h (Or.inr rfl) rfl (by omega)) (fun r b' I' L' hr => ?_)
      obtain ⟨r1, -, r2, r3⟩ := hr
      refine ⟨by rw [r1, anImage, if_neg c], ?_, fun x x1 _ => r3 x (by omega)⟩
      rw [nxImage, if_neg c, if_neg (show ¬ nI 1 = 0 by decide)]
      exact InvX_im h (fun x _ x2 => r3 x (by omega)) (XI_keep h.2.2.2.2.2.2.2.1 (fun x x1 x2 => r3 x (by omega))) r2
set_option maxRecDepth 20000 in
set_option maxHeartbeats 2000000 in
theorem re_aux {q j : Nat} {A : TI} (hD : 2 ≤ D) (h : InvX I L t) (hq : IsG q) (hr : (Tb b).2.2.2 58 j = some q) (hj : j < 2) (hA : XI I L q A) (hk : A.1 = true) : Me g D MX7_restore [rf g 0, .int (nI j)] b I L (fun r b' I' L' => r = some (.int 1) ∧ b' = b ∧ InvX I' L' (A.2.1, A.2.2.1, tC t, tG t, A.2.2.2.1, A.2.2.2.2, tA t, tZ t) ∧ Sm 71 103 I L I' L') := by
  have h3 : IsL 3 := Or.inl rfl
  have q59 : q = 59 ∨ q = 65 := hq
  have hne : 3 ≠ q + 1 := by omega
  obtain ⟨a1, a2, a3⟩ := hA.2 hk
  have hk3 : I q 3 = 1 := by rw [hA.1, hk]; rfl
  refine Me.of [some (rf g 0), some (.int (nI j)), none] 1 rfl pf_X7_restore (Nat.le_of_ble_eq_true rfl) ?_
  refine wq_iload_n 1 1 dX7_restore_0 rfl rfl rfl ?_
  refine wq_if_lt 4 9 dX7_restore_1 rfl (by decide) (fun c1 => absurd c1 (nI_pos (by omega))) (fun c1 => ?_)
  refine wq_iload_n 5 1 dX7_restore_4 rfl rfl rfl ?_
  refine wq_iconst 6 2 dX7_restore_5 rfl (by decide) ?_
  refine wq_ic_lt 9 12 dX7_restore_6 rfl (by decide) (fun c6 => ?_) (fun c6 => absurd (nI_lt (b := 2) hj (by decide)) c6)
  refine wq_bload_n 13 0 dX7_restore_12 rfl rfl rfl ?_
  refine wq_getR 16 fl_X7_49 dX7_restore_13 rfl rfl o_0 (rfl : (Tb _).2.2.2 0 6 = some 58) ?_
  refine wq_iload_n 17 1 dX7_restore_16 rfl rfl rfl ?_
  refine wq_aald 18 dX7_restore_17 rfl a_58 (Ix.nI hj (by decide)) hr ?_
  refine wq_bstore_n 19 2 [_, _, _] dX7_restore_18 rfl rfl rfl (Nat.le_of_ble_eq_true rfl) rfl ?_
  refine wq_bload_n 20 2 dX7_restore_19 rfl rfl rfl ?_
  refine wq_getI 23 fl_X7_185 dX7_restore_20 rfl rfl (G_ob hq) ?_
  refine wq_if_ne 26 29 dX7_restore_23 rfl (by decide) (fun c23 => ?_) (fun c23 => absurd c23 (by rw [hk3]; decide))
  refine wq_bload_n 30 0 dX7_restore_29 rfl rfl rfl ?_
  refine wq_getR 33 fl_X7_19 dX7_restore_30 rfl rfl o_0 (rfl : (Tb _).2.2.2 0 1 = some 3) ?_
  refine wq_bload_n 34 2 dX7_restore_33 rfl rfl rfl ?_
  refine wq_getR 37 fl_X7_188 dX7_restore_34 rfl rfl (G_ob hq) (G_rf0 hq) ?_
  refine cVp1 40 (sp_X2_copyFrom (by omega) h3 (G_l hq) hne a3) ml_X7_189 mf_X2_copyFrom dX7_restore_37 rfl o_3 (by decide) rfl (Nat.le_of_ble_eq_true rfl) (by omega) ?_
  rintro _ b I1 L1 ⟨rfl, rfl, hL, off⟩
  refine wq_bload_n 41 0 dX7_restore_40 rfl rfl rfl ?_
  refine wq_bload_n 42 2 dX7_restore_41 rfl rfl rfl ?_
  refine wq_getI 45 fl_X7_192 dX7_restore_42 rfl rfl (G_ob hq) ?_
  refine wq_putI 48 fl_X7_53 dX7_restore_45 rfl rfl rfl rfl rfl o_0 ?_
  refine wq_bload_n 49 0 dX7_restore_48 rfl rfl rfl ?_
  refine wq_bload_n 50 2 dX7_restore_49 rfl rfl rfl ?_
  refine wq_getI 53 fl_X7_193 dX7_restore_50 rfl rfl (G_ob hq) ?_
  refine wq_putI 56 fl_X7_57 dX7_restore_53 rfl rfl rfl rfl rfl o_0 ?_
  refine wq_bload_n 57 0 dX7_restore_56 rfl rfl rfl ?_
  refine cVv0 60 (sp_X7_forgetP (by omega)) ml_X7_92 mf_X7_forgetProgram dX7_restore_57 rfl o_0 (by decide) rfl (Nat.le_of_ble_eq_true rfl) (by omega) ?_
  refine wq_iconst 61 1 dX7_restore_60 rfl (by decide) ?_
  refine wq_gen (fun I2 L2 eI2 eL2 => ?_)
  refine ri .int dX7_restore_61 rfl rfl ?_
  have e1q : I1 q = I q := (off q (by simp; omega)).1
  have e10 : I1 0 = I 0 := (off 0 (by decide)).1
  have nq : ∀ f : Nat → Int32, va_up I1 0 f q = I q := fun f => by rw [va_up_ne _ _ (by omega), e1q]
  have i0 : I2 0 = va_up (va_up (va_up (va_up (va_up (va_up (I 0) 7 (nI A.2.1)) 8 (nI A.2.2.1)) 9 0) 11 0) 10 0) 12 0 := by
    rw [eI2]
    simp only [va_up_self, nq, e1q, e10, a1, a2]
  have ix : ∀ z, z ≠ 0 → I2 z = I1 z := fun z hz => by rw [eI2]; simp only [va_up_ne _ _ hz]
  have sm : ∀ u v, (8 ≤ u ∨ (0 < u ∧ v ≤ 3)) → Sm u v I L I2 L1 := fun u v hu x x1 x2 => ⟨by rw [ix x (by omega)]; exact (off x (by simp; omega)).1, (off x (by simp; omega)).2⟩
  obtain ⟨h1, h2, h3', h4, h5, h6, h7, h8, h9⟩ := h
  refine ⟨rfl, rfl, ?_, by rw [eL2]; exact sm _ _ (by omega)⟩
  rw [eL2]
  exact ⟨⟨by rw [i0]; simp [va_up]; rfl, by rw [i0]; simp [va_up]; rfl⟩, PdX_keep h2 (sm _ _ (by omega)), LR_keep hL (fun i hi => ix _ (by omega)) (fun _ _ => rfl), Or.inl (by rw [i0]; simp [va_up]), Or.inl (by rw [i0]; simp [va_up]), Or.inl (by rw [i0]; simp [va_up]), Or.inl (by rw [i0]; simp [va_up]), XI_keep h8 (sm _ _ (by omega)), XI_keep h9 (sm _ _ (by omega))⟩
set_option maxRecDepth 20000 in
theorem re_no {q j : Nat} {A : TI} (hq : IsG q) (hr : (Tb b).2.2.2 58 j = some q) (hj : j < 2) (hA : XI I L q A) (hk : ¬ A.1 = true) : Md g D MX7_restore [rf g 0, .int (nI j)] b I L (some (.int (-3))) b I L := by
  have hk3 : I q 3 = 0 := by rw [hA.1, Bool.eq_false_iff.mpr hk]; rfl
  refine Me.of [some (rf g 0), some (.int (nI j)), none] 1 rfl pf_X7_restore (Nat.le_of_ble_eq_true rfl) ?_
  refine wq_iload_n 1 1 dX7_restore_0 rfl rfl rfl ?_
  refine wq_if_lt 4 9 dX7_restore_1 rfl (by decide) (fun c1 => absurd c1 (nI_pos (by omega))) (fun c1 => ?_)
  refine wq_iload_n 5 1 dX7_restore_4 rfl rfl rfl ?_
  refine wq_iconst 6 2 dX7_restore_5 rfl (by decide) ?_
  refine wq_ic_lt 9 12 dX7_restore_6 rfl (by decide) (fun c6 => ?_) (fun c6 => absurd (nI_lt (b := 2) hj (by decide)) c6)
  refine wq_bload_n 13 0 dX7_restore_12 rfl rfl rfl ?_
  refine wq_getR 16 fl_X7_49 dX7_restore_13 rfl rfl o_0 (rfl : (Tb _).2.2.2 0 6 = some 58) ?_
  refine wq_iload_n 17 1 dX7_restore_16 rfl rfl rfl ?_
  refine wq_aald 18 dX7_restore_17 rfl a_58 (Ix.nI hj (by decide)) hr ?_
  refine wq_bstore_n 19 2 [_, _, _] dX7_restore_18 rfl rfl rfl (Nat.le_of_ble_eq_true rfl) rfl ?_
  refine wq_bload_n 20 2 dX7_restore_19 rfl rfl rfl ?_
  refine wq_getI 23 fl_X7_185 dX7_restore_20 rfl rfl (G_ob hq) ?_
  refine wq_if_ne 26 29 dX7_restore_23 rfl (by decide) (fun c23 => absurd c23 (by rw [hk3]; exact fun z => z rfl)) (fun c23 => ?_)
  refine wq_bipush 28 (-3) dX7_restore_26 rfl (by decide) ?_
  refine ri .int dX7_restore_28 rfl rfl ?_
  exact ⟨rfl, rfl, rfl, rfl⟩
set_option maxRecDepth 20000 in
theorem cx_restore (hD : 2 ≤ D) (h : InvX I L t) (v : Int32) : CX g D MX7_restore [rf g 0, .int v] b I L (anRestore t v) (nxRestore t v) := by
  by_cases c : inM v 0 1 = 0
  · refine Me.of [some (rf g 0), some (.int v), none] 1 rfl pf_X7_restore (Nat.le_of_ble_eq_true rfl) ?_
    refine wq_iload_n 1 1 dX7_restore_0 rfl rfl rfl ?_
    refine wq_if_lt 4 9 dX7_restore_1 rfl (by decide) (fun c1 => ?_) (fun c1 => ?_)
    · skip
      refine wq_bipush 11 (-2) dX7_restore_9 rfl (by decide) ?_
      refine ri .int dX7_restore_11 rfl rfl ?_
      exact ⟨by rw [anRestore, if_pos c], by rw [nxRestore, if_pos c]; exact h, fun _ _ _ => ⟨rfl, rfl⟩⟩
    · skip
      refine wq_iload_n 5 1 dX7_restore_4 rfl rfl rfl ?_
      refine wq_iconst 6 2 dX7_restore_5 rfl (by decide) ?_
      refine wq_ic_lt 9 12 dX7_restore_6 rfl (by decide) (fun c6 => ?_) (fun c6 => ?_)
      · skip
        exfalso
        have c7 : ¬ (1 : Int32) < v := by
          obtain ⟨x, xn, rfl⟩ := in_ix (n := 2) (by decide) c1 c6
          exact nI_nlt (a := 1) (b := x) (by omega) (by decide)
        rw [inM_in c1 c7] at c
        exact absurd c (by decide)
      · skip
        refine wq_bipush 11 (-2) dX7_restore_9 rfl (by decide) ?_
        refine ri .int dX7_restore_11 rfl rfl ?_
        exact ⟨by rw [anRestore, if_pos c], by rw [nxRestore, if_pos c]; exact h, fun _ _ _ => ⟨rfl, rfl⟩⟩
  · obtain ⟨x, x1, ex⟩ := in_ex (v := v) (hi := 1) (by decide) (fun z => c (inM_lt z)) (fun z => c (inM_gt z))
    subst ex
    have hx : x = 0 ∨ x = 1 := by omega
    have key : ∀ q j, IsG q → (Tb b).2.2.2 58 j = some q → j < 2 → ¬ inM (nI j) 0 1 = 0 → XI I L q (tIm t (nI j)) → CX g D MX7_restore [rf g 0, .int (nI j)] b I L (anRestore t (nI j)) (nxRestore t (nI j)) := by
      intro q j hq hr hj c hA
      by_cases hk : (tIm t (nI j)).1 = true
      · refine Me.mono (re_aux hD h hq hr hj hA hk) (fun r b' I' L' hr => ?_)
        obtain ⟨r1, -, r2, r3⟩ := hr
        exact ⟨by rw [r1, anRestore, if_neg c, if_pos hk], by rw [nxRestore, if_neg c, if_pos hk]; exact r2, r3⟩
      · refine Me.mono (re_no hq hr hj hA hk) (fun r b' I' L' hr => ?_)
        obtain ⟨r1, -, r2, r3⟩ := hr
        subst r2 r3
        exact ⟨by rw [r1, anRestore, if_neg c, if_neg hk], by rw [nxRestore, if_neg c, if_neg hk]; exact h, fun _ _ _ => ⟨rfl, rfl⟩⟩
    rcases hx with rfl | rfl
    · exact key 59 0 (Or.inl rfl) rfl (by omega) c h.2.2.2.2.2.2.2.1
    · exact key 65 1 (Or.inr rfl) rfl (by omega) c h.2.2.2.2.2.2.2.2
end Calls4
