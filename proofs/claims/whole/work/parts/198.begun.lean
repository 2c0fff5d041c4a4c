/-! Round.begin, whole -/
theorem nNm_inv {ns : Int64} {nm sh : Int32} {x : Nat} (hx : x < 64) (h : tb (nNm ns nm sh) x = true) : tb ns x = true ∨ (nm = nI x ∧ (sh = 114 ∨ sh = 119)) := by
  unfold nNm at h
  rcases pk_ix nm (n := 64) (by decide) with c | c | ⟨u, hu, rfl⟩
  · rw [if_pos c] at h; exact Or.inl h
  · rw [if_pos (show (64 : Int32) ≤ nm from c)] at h
    simp only [ite_self] at h
    exact Or.inl h
  · rw [if_neg (nI_pos (by omega)), if_neg (show ¬ (64 : Int32) ≤ nI u from nI_ge (b := 64) hu (by decide))] at h
    have key : tb (ns ||| one (nI u)) x = true → tb ns x = true ∨ nI u = nI x := fun z => by
      rw [tb_or, tb_one hu, Bool.or_eq_true, decide_eq_true_eq] at z
      exact z.imp id (fun z => by rw [z])
    by_cases c1 : sh = 114
    · rw [if_pos c1] at h; exact (key h).imp id (fun z => ⟨z, Or.inl c1⟩)
    · rw [if_neg c1] at h
      by_cases c2 : sh = 119
      · rw [if_pos c2] at h; exact (key h).imp id (fun z => ⟨z, Or.inr c2⟩)
      · rw [if_neg c2] at h; exact Or.inl h
theorem nmP_of {p : Pg} {i w x : Nat} (hx : x < 64) (h : shp (p i 0) (nI w) = 114 ∨ shp (p i 0) (nI w) = 119) (e : p i w = nI x) : nmP p i w = nI x := by
  unfold nmP
  rw [if_pos h, e, if_neg (nI_pos (by omega)), if_neg (show ¬ (64 : Int32) ≤ nI x from nI_ge (b := 64) hx (by decide))]
theorem Nms_inv {p : Pg} {x : Nat} (hx : x < 64) : ∀ n, tb (Nms p n) x = true → ∃ i w, i < n ∧ 1 ≤ w ∧ w < 4 ∧ nmP p i w = nI x
  | 0, h => by rw [Nms, tb_0] at h; cases h
  | n + 1, h => by
    have h' : tb (nNm (nNm (nNm (Nms p n) (p n 1) (shp (p n 0) 1)) (p n 2) (shp (p n 0) 2)) (p n 3) (shp (p n 0) 3)) x = true := h
    rcases nNm_inv hx h' with z | ⟨z1, z2⟩
    · rcases nNm_inv hx z with z | ⟨z1, z2⟩
      · rcases nNm_inv hx z with z | ⟨z1, z2⟩
        · obtain ⟨i, w, a1, a2, a3, a4⟩ := Nms_inv hx n z
          exact ⟨i, w, by omega, a2, a3, a4⟩
        · exact ⟨n, 1, by omega, by omega, by omega, nmP_of hx z2 z1⟩
      · exact ⟨n, 2, by omega, by omega, by omega, nmP_of hx z2 z1⟩
    · exact ⟨n, 3, by omega, by omega, by omega, nmP_of hx z2 z1⟩
theorem CtR_Ct {C : Nat → Int32} {p : Pg} {n x : Nat} (h : CtR C p n n 1) (hx : x < 64) (hl : tb (Nms p n) x = true) : C x = nI (Ct p n x) := by
  obtain ⟨h1, h2⟩ := h x hx
  unfold Ct
  by_cases c : 16 ≤ x
  · rw [if_pos c]
    obtain ⟨i, w, a1, a2, a3, a4⟩ := Nms_inv hx n hl
    exact h2 c ⟨i, w, Or.inl a1, a2, a3, a4⟩
  · rw [if_neg c, h1 (by omega), show tmW p n x 1 = 0 by simp [tmW], Nat.zero_mul, Nat.add_zero]
theorem EdR_set {E : Nat → Int64} {p : Pg} {n x : Nat} (h : EdR E p (Lvb p n) n) (hx : x < 64) : E x = setF (edB p (Lvb p n) n x) 64 := by
  apply tb_ext
  intro y hy
  rw [h x hx y hy, tb_setF _ 64 (Nat.le_refl _), decide_eq_true hy, Bool.true_and]
def RR : List Nat := [21, 22, 23, 24, 25, 26, 27, 28, 29, 30, 31]
set_option maxRecDepth 20000 in
set_option maxHeartbeats 2000000 in
theorem sp_X5_begin {g : Gl} {D : Nat} {b : Bool} {I : IM} {L : LM} {l n B a k w t : Nat} {p : Pg} (hD : 6 ≤ D) (hl : IsL l) (ha : IsN a) (h : LR I L l n p) (hw : WfB B p n) (hN : NdR I L a p n) (ht : TN t (Nms p n) (Tp p n)) (hk : I 21 18 = nI k) (hwy : I 21 19 = nI w) : Me g D MX5_begin [rf g 21, rf g l, rf g a] b I L (fun r b' I' L' => r = none ∧ b' = b ∧ RX I' L' k w (mvs p n) t (mf1 p n) (mf2 p n) (begA p n) ∧ (∀ x, x < 64 → I' 26 x = rg0 x) ∧ L' 21 17 = 0 ∧ (∀ x, x ∉ RR → I' x = I x) ∧ ∀ x, x ≠ 21 → x ≠ 22 → L' x = L x) := by
  have hl21 : ∀ j, j < 5 → l + j ≠ 21 ∧ l + j ≠ 22 ∧ l + j ≠ 24 ∧ l + j ≠ 25 ∧ l + j ≠ 26 ∧ l + j ≠ 27 ∧ l + j ≠ 28 ∧ l + j ≠ 29 := fun j hj => by
    rcases hl with rfl | rfl | rfl | rfl | rfl | rfl <;> omega
  have haN : ∀ j, j < 6 → a + j < 21 := fun j hj => by rcases ha with rfl | rfl <;> omega
  refine Me.of [some (rf g 21), some (rf g l), some (rf g a), none, none, none] 3 rfl pf_X5_begin (Nat.le_of_ble_eq_true rfl) ?_
  refine wq_bload_n 1 0 dX5_begin_0 rfl rfl rfl ?_
  refine wq_iconst 2 0 dX5_begin_1 rfl (by decide) ?_
  refine wq_putI 5 fl_X5_51 dX5_begin_2 rfl rfl rfl rfl rfl o_21 ?_
  refine wq_bload_n 6 0 dX5_begin_5 rfl rfl rfl ?_
  refine wq_iconst 7 0 dX5_begin_6 rfl (by decide) ?_
  refine wq_putI 10 fl_X5_54 dX5_begin_7 rfl rfl rfl rfl rfl o_21 ?_
  refine wq_bload_n 11 0 dX5_begin_10 rfl rfl rfl ?_
  refine wq_lconst 12 0 dX5_begin_11 rfl (by decide) ?_
  refine wq_putL 15 fl_X5_67 dX5_begin_12 rfl rfl rfl rfl rfl o_21 ?_
  refine wq_bload_n 16 0 dX5_begin_15 rfl rfl rfl ?_
  refine wq_bload_n 17 1 dX5_begin_16 rfl rfl rfl ?_
  refine wq_getL 20 fl_X5_99 dX5_begin_17 rfl rfl (L_ob hl) ?_
  refine wq_ldc2 23 (15) dX5_begin_20 rfl kc_X5_104 ?_
  refine wq_lor 24 dX5_begin_23 rfl ?_
  refine wq_putL 27 fl_X5_57 dX5_begin_24 rfl rfl rfl rfl rfl o_21 ?_
  refine wq_bload_n 28 0 dX5_begin_27 rfl rfl rfl ?_
  refine wq_bload_n 29 1 dX5_begin_28 rfl rfl rfl ?_
  refine wq_getI 32 fl_X5_106 dX5_begin_29 rfl rfl (L_ob hl) ?_
  refine wq_bipush 34 64 dX5_begin_32 rfl (by decide) ?_
  refine cSi2 37 (sp_J9_min_7cf53 _ _) ml_X5_107 mf_J9_min_7cf53 dX5_begin_34 rfl (Nat.le_of_ble_eq_true rfl) (by omega) ?_
  refine wq_putI 40 fl_X5_44 dX5_begin_37 rfl rfl rfl rfl rfl o_21 ?_
  refine wq_iconst 41 0 dX5_begin_40 rfl (by decide) ?_
  refine wq_istore_n 42 3 [_, _, _, _, _, _] dX5_begin_41 rfl rfl rfl (Nat.le_of_ble_eq_true rfl) rfl ?_
  refine wq_gen (fun I1 L1 eI1 eL1 => ?_)
  have l0 := (hl21 0 (by omega)).1
  have ix : ∀ x, x ≠ 21 → I1 x = I x := fun x hx => by rw [eI1, va_up_ne _ _ hx, va_up_ne _ _ hx, va_up_ne _ _ hx]
  have lx : ∀ x, x ≠ 21 → L1 x = L x := fun x hx => by rw [eL1, va_up_ne _ _ hx, va_up_ne _ _ hx]
  have hT : I l 7 = nI t := h.2.2.2.2.1.trans ht.1
  have hM : L l 6 = Nms p n := h.2.2.2.1
  have i10 : I1 21 10 = nI t := by
    rw [eI1]
    simp [va_up, show ¬ l = 21 from l0, hT]
    exact minI_n ht.2.2.1 (by decide)
  have i12 : I1 21 12 = 0 := by rw [eI1]; simp [va_up]
  have i13 : I1 21 13 = 0 := by rw [eI1]; simp [va_up]
  have i18 : I1 21 18 = nI k := by rw [eI1]; simp [va_up, hk]
  have i19 : I1 21 19 = nI w := by rw [eI1]; simp [va_up, hwy]
  have l14 : L1 21 14 = Nms p n ||| 15 := by rw [eL1]; simp [va_up, show ¬ l = 21 from l0, hM]
  have l17 : L1 21 17 = 0 := by rw [eL1]; simp [va_up]
  clear eI1 eL1
  refine lp_X5_beg1 ha (fun I2 L2 hB => ?_) 64 0 I1 L1 (by omega) ⟨fun x hx => by omega, rfl, rfl, fun _ _ => rfl, fun _ _ => rfl⟩
  obtain ⟨b1, b2, b3, b4, b5⟩ := hB
  refine wq_bload_n 103 0 dX5_begin_102 rfl rfl rfl ?_
  refine wq_iconst 104 0 dX5_begin_103 rfl (by decide) ?_
  refine wq_putI 107 fl_X5_48 dX5_begin_104 rfl rfl rfl rfl rfl o_21 ?_
  refine wq_iconst 108 0 dX5_begin_107 rfl (by decide) ?_
  refine wq_istore_n 109 3 [_, _, _, _, _, _] dX5_begin_108 rfl rfl rfl (Nat.le_of_ble_eq_true rfl) rfl ?_
  refine wq_gen (fun I3 L3 eI3 eL3 => ?_)
  have j21 : I3 21 = va_up (I2 21) 11 0 := by rw [eI3, va_up_self]
  have jx : ∀ x, x ≠ 21 → I3 x = I2 x := fun x hx => by rw [eI3, va_up_ne _ _ hx]
  rw [eL3]
  clear eI3 eL3
  have hLR : LR I3 L2 l n p := LR_keep h (fun j hj => by
    have q := hl21 j hj
    rw [jx _ q.1, b4 _ (by simp; omega), ix _ q.1]) (fun j hj => by
    have q := hl21 j hj
    rw [b5 _ q.2.1, lx _ q.1])
  refine lp_X5_beg2 hD hl hw (I0 := I3) (fun I4 hm f1 f2 => ?_) n 0 I3 _ _ (by omega) hLR ⟨by rw [j21, va_up_self]; rfl, fun m hm => absurd hm (Nat.not_lt_zero m)⟩ (fun _ _ => rfl) (fun _ _ => rfl)
  have k21 : ∀ z, z ≠ 11 → I4 21 z = I1 21 z := fun z hz => by rw [f1 z hz, j21, va_up_ne _ _ hz, b2]
  have kx : ∀ x, x ∉ [21, 27, 28, 29] → I4 x = I2 x := fun x hx => by
    rw [f2 x hx]
    simp at hx
    exact jx x hx.1
  refine ⟨rfl, rfl, ⟨fun x hx => ?_, by rw [b3]; exact l14, fun x hx => ?_, fun x hx x4 hxl => ?_, fun m hm' => ?_, fun i hi => absurd hi (Nat.not_lt_zero i), by rw [k21 12 (by decide)]; exact i12, fun i hi => absurd hi (Nat.not_lt_zero i), by rw [k21 13 (by decide)]; exact i13, by rw [k21 10 (by decide)]; exact i10, hm.1, fun m hm' => ?_, by rw [k21 18 (by decide)]; exact i18, by rw [k21 19 (by decide)]; exact i19⟩, fun x hx => ?_, by rw [b3]; exact l17, fun x hx => ?_, fun x x1 x2 => by rw [b5 x x2, lx x x1]⟩
  · rw [(b1 x hx).1, lx _ (by have := haN 4 (by omega); omega)]
    exact EdR_set hN.2.1 hx
  · rw [kx 25 (by decide)]; exact (b1 x hx).2.2.1
  · rw [kx 24 (by decide), (b1 x hx).2.1, ix _ (by have := haN 5 (by omega); omega)]
    refine CtR_Ct hN.2.2 hx ?_
    rcases (left_beg hx).mp hxl with z | z
    · exact z
    · omega
  · rw [(hm.2 m hm').2.2]; rfl
  · have q := hm.2 m hm'
    have z := mf_is hw hm'
    rw [q.1, q.2.1]
    exact ⟨z.2.2.1, z.2.2.2.1⟩
  · rw [kx 26 (by decide)]; exact (b1 x hx).2.2.2
  · simp [RR] at hx
    rw [kx x (by simp; omega), b4 x (by simp; omega), ix x (by omega)]
