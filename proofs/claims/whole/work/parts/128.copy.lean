/-! Listing.copyFrom -/
theorem L_apart {a c : Nat} (ha : IsL a) (hc : IsL c) (h : a ≠ c) {i j : Nat} (hi : i < 5) (hj : j < 5) : a + i ≠ c + j := by
  rcases ha with rfl | rfl | rfl | rfl | rfl | rfl <;> rcases hc with rfl | rfl | rfl | rfl | rfl | rfl <;> omega
set_option maxRecDepth 20000 in
set_option maxHeartbeats 2000000 in
theorem sp_X2_copyFrom {g : Gl} {D : Nat} {b : Bool} {I : IM} {L : LM} {a c n : Nat} {p : Pg} (hD : 1 ≤ D) (ha : IsL a) (hc : IsL c) (hac : a ≠ c) (h : LR I L c n p) : Me g D MX2_copyFrom [rf g a, rf g c] b I L (fun r b' I' L' => r = none ∧ b' = b ∧ LR I' L' a n p ∧ Off (fL a) I L I' L') := by
  have hfr : 1 ≤ D := hD
  have hlo : 0 + 38 ≤ 38 * D := by omega
  have ap : ∀ i j, i < 5 → j < 5 → c + i ≠ a + j := fun i j hi hj e => L_apart ha hc hac hj hi e.symm
  refine Me.of [some (rf g a), some (rf g c)] 0 rfl pf_X2_copyFrom (Nat.le_of_ble_eq_true rfl) ?_
  refine wq_bload_n 1 1 dX2_copyFrom_0 rfl rfl rfl ?_
  refine wq_getR 4 fl_X2_9 dX2_copyFrom_1 rfl rfl (L_ob hc) (L_rf0 hc) ?_
  refine wq_iconst 5 0 dX2_copyFrom_4 rfl (by decide) ?_
  refine wq_bload_n 6 0 dX2_copyFrom_5 rfl rfl rfl ?_
  refine wq_getR 9 fl_X2_9 dX2_copyFrom_6 rfl rfl (L_ob ha) (L_rf0 ha) ?_
  refine wq_iconst 10 0 dX2_copyFrom_9 rfl (by decide) ?_
  refine wq_bload_n 11 0 dX2_copyFrom_10 rfl rfl rfl ?_
  refine wq_getR 14 fl_X2_9 dX2_copyFrom_11 rfl rfl (L_ob ha) (L_rf0 ha) ?_
  refine wq_alen 15 (nI 360) dX2_copyFrom_14 rfl (L_ar0 ha) (by decide) rfl ?_
  refine wq_copyI 18 al_X2_56 w_native w_astat w_sysinit dX2_copyFrom_15 rfl (L_ar0 hc) (L_ar0 ha) (i := 0) (j := 0) (k := 360) rfl rfl rfl (by decide) (by decide) (by decide) (by decide) hfr hlo ?_
  refine wq_bload_n 19 1 dX2_copyFrom_18 rfl rfl rfl ?_
  refine wq_getR 22 fl_X2_15 dX2_copyFrom_19 rfl rfl (L_ob hc) (L_rf1 hc) ?_
  refine wq_iconst 23 0 dX2_copyFrom_22 rfl (by decide) ?_
  refine wq_bload_n 24 0 dX2_copyFrom_23 rfl rfl rfl ?_
  refine wq_getR 27 fl_X2_15 dX2_copyFrom_24 rfl rfl (L_ob ha) (L_rf1 ha) ?_
  refine wq_iconst 28 0 dX2_copyFrom_27 rfl (by decide) ?_
  refine wq_bload_n 29 0 dX2_copyFrom_28 rfl rfl rfl ?_
  refine wq_getR 32 fl_X2_15 dX2_copyFrom_29 rfl rfl (L_ob ha) (L_rf1 ha) ?_
  refine wq_alen 33 (nI 90) dX2_copyFrom_32 rfl (L_ar1 ha) (by decide) rfl ?_
  refine wq_copyL 36 al_X2_56 w_native w_astat w_sysinit dX2_copyFrom_33 rfl (L_ar1 hc) (L_ar1 ha) (i := 0) (j := 0) (k := 90) rfl rfl rfl (by decide) (by decide) (by decide) (by decide) hfr hlo ?_
  refine wq_bload_n 37 1 dX2_copyFrom_36 rfl rfl rfl ?_
  refine wq_getR 40 fl_X2_19 dX2_copyFrom_37 rfl rfl (L_ob hc) (L_rf2 hc) ?_
  refine wq_iconst 41 0 dX2_copyFrom_40 rfl (by decide) ?_
  refine wq_bload_n 42 0 dX2_copyFrom_41 rfl rfl rfl ?_
  refine wq_getR 45 fl_X2_19 dX2_copyFrom_42 rfl rfl (L_ob ha) (L_rf2 ha) ?_
  refine wq_iconst 46 0 dX2_copyFrom_45 rfl (by decide) ?_
  refine wq_bload_n 47 0 dX2_copyFrom_46 rfl rfl rfl ?_
  refine wq_getR 50 fl_X2_19 dX2_copyFrom_47 rfl rfl (L_ob ha) (L_rf2 ha) ?_
  refine wq_alen 51 (nI 90) dX2_copyFrom_50 rfl (L_ar2 ha) (by decide) rfl ?_
  refine wq_copyI 54 al_X2_56 w_native w_astat w_sysinit dX2_copyFrom_51 rfl (L_ar2 hc) (L_ar2 ha) (i := 0) (j := 0) (k := 90) rfl rfl rfl (by decide) (by decide) (by decide) (by decide) hfr hlo ?_
  refine wq_bload_n 55 1 dX2_copyFrom_54 rfl rfl rfl ?_
  refine wq_getR 58 fl_X2_22 dX2_copyFrom_55 rfl rfl (L_ob hc) (L_rf3 hc) ?_
  refine wq_iconst 59 0 dX2_copyFrom_58 rfl (by decide) ?_
  refine wq_bload_n 60 0 dX2_copyFrom_59 rfl rfl rfl ?_
  refine wq_getR 63 fl_X2_22 dX2_copyFrom_60 rfl rfl (L_ob ha) (L_rf3 ha) ?_
  refine wq_iconst 64 0 dX2_copyFrom_63 rfl (by decide) ?_
  refine wq_bload_n 65 0 dX2_copyFrom_64 rfl rfl rfl ?_
  refine wq_getR 68 fl_X2_22 dX2_copyFrom_65 rfl rfl (L_ob ha) (L_rf3 ha) ?_
  refine wq_alen 69 (nI 10) dX2_copyFrom_68 rfl (L_ar3 ha) (by decide) rfl ?_
  refine wq_copyI 72 al_X2_56 w_native w_astat w_sysinit dX2_copyFrom_69 rfl (L_ar3 hc) (L_ar3 ha) (i := 0) (j := 0) (k := 10) rfl rfl rfl (by decide) (by decide) (by decide) (by decide) hfr hlo ?_
  refine wq_gen (fun I1 L1 eI1 eL1 => ?_)
  refine wq_bload_n 73 0 dX2_copyFrom_72 rfl rfl rfl ?_
  refine wq_bload_n 74 1 dX2_copyFrom_73 rfl rfl rfl ?_
  refine wq_getI 77 fl_X2_25 dX2_copyFrom_74 rfl rfl (L_ob hc) ?_
  refine wq_putI 80 fl_X2_25 dX2_copyFrom_77 rfl rfl rfl rfl rfl (L_ob ha) ?_
  refine wq_bload_n 81 0 dX2_copyFrom_80 rfl rfl rfl ?_
  refine wq_bload_n 82 1 dX2_copyFrom_81 rfl rfl rfl ?_
  refine wq_getI 85 fl_X2_29 dX2_copyFrom_82 rfl rfl (L_ob hc) ?_
  refine wq_putI 88 fl_X2_29 dX2_copyFrom_85 rfl rfl rfl rfl rfl (L_ob ha) ?_
  refine wq_bload_n 89 0 dX2_copyFrom_88 rfl rfl rfl ?_
  refine wq_bload_n 90 1 dX2_copyFrom_89 rfl rfl rfl ?_
  refine wq_getL 93 fl_X2_32 dX2_copyFrom_90 rfl rfl (L_ob hc) ?_
  refine wq_putL 96 fl_X2_32 dX2_copyFrom_93 rfl rfl rfl rfl rfl (L_ob ha) ?_
  refine wq_bload_n 97 0 dX2_copyFrom_96 rfl rfl rfl ?_
  refine wq_bload_n 98 1 dX2_copyFrom_97 rfl rfl rfl ?_
  refine wq_getI 101 fl_X2_36 dX2_copyFrom_98 rfl rfl (L_ob hc) ?_
  refine wq_putI 104 fl_X2_36 dX2_copyFrom_101 rfl rfl rfl rfl rfl (L_ob ha) ?_
  refine rr dX2_copyFrom_104 rfl ?_
  obtain ⟨h1, h2, h3, h4, h5, h6, h7, h8, h9⟩ := h
  have n01 := ap 0 1 (by omega) (by omega)
  have n03 := ap 0 3 (by omega) (by omega)
  have n04 := ap 0 4 (by omega) (by omega)
  have n00 := ap 0 0 (by omega) (by omega)
  have n02 := ap 0 2 (by omega) (by omega)
  have n31 := ap 3 1 (by omega) (by omega)
  have n41 := ap 4 1 (by omega) (by omega)
  have n43 := ap 4 3 (by omega) (by omega)
  simp only [Nat.add_zero] at n01 n03 n04 n00 n02
  have k0 : I1 c = I c := by rw [eI1, va_up_ne _ _ n04, va_up_ne _ _ n03, va_up_ne _ _ n01]
  have l0 : L1 c = L c := by rw [eL1, va_up_ne _ _ n02]
  have k1 : I1 (a + 1) = va_cpy (I (c + 1)) (I (a + 1)) 0 0 360 := by rw [eI1, va_up_ne _ _ (by omega), va_up_ne _ _ (by omega), va_up_self]
  have k3 : I1 (a + 3) = va_cpy (I (c + 3)) (I (a + 3)) 0 0 90 := by rw [eI1, va_up_ne _ _ (by omega), va_up_self, va_up_ne _ _ n31, va_up_ne _ _ (by omega)]
  have k4 : I1 (a + 4) = va_cpy (I (c + 4)) (I (a + 4)) 0 0 10 := by rw [eI1, va_up_self, va_up_ne _ _ n43, va_up_ne _ _ n41, va_up_ne _ _ (by omega), va_up_ne _ _ (by omega)]
  have l2 : L1 (a + 2) = va_cpy (L (c + 2)) (L (a + 2)) 0 0 90 := by rw [eL1, va_up_self]
  refine ⟨rfl, rfl, ⟨h1, ?_, ?_, ?_, ?_, fun i hi w hw => ?_, fun i hi => ?_, fun i hi => ?_, fun f hf h00 => ?_⟩, fun x hx => ?_⟩
  · simp [va_up, k0, h2, n00]
  · simp [va_up, k0, h3, n00]
  · simp [va_up, l0, h4, n00]
  · simp [va_up, k0, h5, n00]
  · simp only [va_up_ne _ _ (show a + 1 ≠ a by omega), k1]
    rw [pk_cpy_in (by omega) (by omega)]
    simpa using h6 i hi w hw
  · simp only [va_up_ne _ _ (show a + 2 ≠ a by omega), l2]
    rw [pk_cpy_in (by omega) (by omega)]
    simpa using h7 i hi
  · simp only [va_up_ne _ _ (show a + 3 ≠ a by omega), k3]
    rw [pk_cpy_in (by omega) (by omega)]
    simpa using h8 i hi
  · simp only [va_up_ne _ _ (show a + 4 ≠ a by omega), k4]
    rw [pk_cpy_in (by omega) (by omega)]
    simpa using h9 f hf h00
  · simp [fL] at hx
    simp [va_up, hx, eI1, eL1]
