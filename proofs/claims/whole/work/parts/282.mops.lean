/-! THE CALLS: the reference -/
def CM (g : Gl) (D : Nat) (Y : Mt) (av : List Value) (b : Bool) (I : IM) (L : LM) (a : Int32) (t' : TS) : Prop := Me g D Y av b I L (fun r b' I' L' => r = some (.int a) ∧ b' = b ∧ InvM I' t' ∧ Sm 0 71 I L I' L')
section MCalls
variable {g : Gl} {D : Nat} {b : Bool} {I : IM} {L : LM} {t : TS}
theorem Sm_M {I' : IM} (h : ∀ x, x < 71 → I' x = I x) : Sm 0 71 I L I' L := fun x _ x2 => ⟨h x x2, rfl⟩
theorem cm_colours (hD : 1 ≤ D) (h : InvM I t) (v : Int32) : CM g D MX8_colours [rf g 71, .int v] b I L (anColours t v) (nxColours t v) := by
  refine Me.mono (sp_X8_colours hD v) (fun r b' I' L' hr => ?_)
  obtain ⟨rfl, rfl, rfl, rfl⟩ := hr
  obtain ⟨h1, h2, h3, h4, h5, h6, h7⟩ := h
  by_cases c : inM v 2 4 = 0
  · rw [if_pos c, if_pos c, anColours, nxColours, if_pos c, if_pos c]
    exact ⟨rfl, rfl, ⟨h1, h2, h3, h4, h5, h6, h7⟩, fun _ _ _ => ⟨rfl, rfl⟩⟩
  · obtain ⟨x, x1, ex⟩ := in_ex (v := v) (hi := 4) (by decide) (fun z => c (inM_lt (Int32.lt_trans z (by decide)))) (fun z => c (inM_gt z))
    subst ex
    rw [if_neg c, if_neg c, anColours, nxColours, if_neg c, if_neg c, h1, show cN (nI x) = x from nI_clamp (by omega)]
    have nx : ∀ z, z ≠ 71 → va_up I 71 (va_up (I 71) 0 (nI x)) z = I z := fun z hz => va_up_ne _ _ hz
    have n0 : ∀ z, z ≠ 0 → va_up I 71 (va_up (I 71) 0 (nI x)) 71 z = I 71 z := fun z hz => by rw [va_up_self, va_up_ne _ _ hz]
    refine ⟨rfl, rfl, ⟨by rw [va_up_self, va_up_self]; rfl, by rw [n0 1 (by decide)]; exact h2, by rw [n0 34 (by decide)]; exact h3, ?_, ?_, ?_, ?_⟩, Sm_M (fun z hz => nx z (by omega))⟩
    · unfold PdM; rw [n0 7 (by decide), nx 76 (by decide)]; exact h4
    · unfold MR; rw [n0 6 (by decide), nx 72 (by decide), nx 73 (by decide), nx 74 (by decide), nx 75 (by decide)]; exact h5
    · unfold YI; rw [nx 101 (by decide), nx 102 (by decide)]; exact h6
    · unfold YI; rw [nx 101 (by decide), nx 102 (by decide)]; exact h7
theorem cm_way (hD : 1 ≤ D) (h : InvM I t) (v : Int32) : CM g D MX8_way [rf g 71, .int v] b I L (anWay t v) (nxWay t v) := by
  refine Me.mono (sp_X8_way hD v) (fun r b' I' L' hr => ?_)
  obtain ⟨rfl, rfl, rfl, rfl⟩ := hr
  obtain ⟨h1, h2, h3, h4, h5, h6, h7⟩ := h
  by_cases c : inM v 0 2 = 0
  · rw [if_pos c, if_pos c, anWay, nxWay, if_pos c, if_pos c]
    exact ⟨rfl, rfl, ⟨h1, h2, h3, h4, h5, h6, h7⟩, fun _ _ _ => ⟨rfl, rfl⟩⟩
  · obtain ⟨x, x1, ex⟩ := in_ex (v := v) (hi := 2) (by decide) (fun z => c (inM_lt z)) (fun z => c (inM_gt z))
    subst ex
    rw [if_neg c, if_neg c, anWay, nxWay, if_neg c, if_neg c, h2, show cN (nI x) = x from nI_clamp (by omega)]
    have nx : ∀ z, z ≠ 71 → va_up I 71 (va_up (I 71) 1 (nI x)) z = I z := fun z hz => va_up_ne _ _ hz
    have n0 : ∀ z, z ≠ 1 → va_up I 71 (va_up (I 71) 1 (nI x)) 71 z = I 71 z := fun z hz => by rw [va_up_self, va_up_ne _ _ hz]
    refine ⟨rfl, rfl, ⟨by rw [n0 0 (by decide)]; exact h1, by rw [va_up_self, va_up_self]; rfl, by rw [n0 34 (by decide)]; exact h3, ?_, ?_, ?_, ?_⟩, Sm_M (fun z hz => nx z (by omega))⟩
    · unfold PdM; rw [n0 7 (by decide), nx 76 (by decide)]; exact h4
    · unfold MR; rw [n0 6 (by decide), nx 72 (by decide), nx 73 (by decide), nx 74 (by decide), nx 75 (by decide)]; exact h5
    · unfold YI; rw [nx 101 (by decide), nx 102 (by decide)]; exact h6
    · unfold YI; rw [nx 101 (by decide), nx 102 (by decide)]; exact h7
theorem InvM_pad {I' : IM} {c : Nat} {sg : Nat → Nat} (h : InvM I t) (e : ∀ x, x ≠ 71 → x ≠ 76 → I' x = I x) (e0 : ∀ z, z ≠ 7 → I' 71 z = I 71 z) (hp : PdM I' c sg) : InvM I' (tK t, tW t, c, sg, t.2.2.2.2) := by
  obtain ⟨h1, h2, h3, h4, h5, h6, h7⟩ := h
  refine ⟨by rw [e0 0 (by decide)]; exact h1, by rw [e0 1 (by decide)]; exact h2, by rw [e0 34 (by decide)]; exact h3, hp, ?_, ?_, ?_⟩
  · unfold MR; rw [e0 6 (by decide), e 72 (by decide) (by decide), e 73 (by decide) (by decide), e 74 (by decide) (by decide), e 75 (by decide) (by decide)]; exact h5
  · unfold YI; rw [e 101 (by decide) (by decide), e 102 (by decide) (by decide)]; exact h6
  · unfold YI; rw [e 101 (by decide) (by decide), e 102 (by decide) (by decide)]; exact h7
theorem cm_say (hD : 1 ≤ D) (h : InvM I t) (v : Int32) : CM g D MX8_say [rf g 71, .int v] b I L (anSay t v) (nxSay t v) := by
  have hp := h.2.2.2.1
  refine Me.mono (sp_X8_say hD hp.2.1 hp.1 v) (fun r b' I' L' hr => ?_)
  obtain ⟨rfl, rfl, rfl, rfl⟩ := hr
  by_cases c : inM v 33 126 = 0
  · rw [if_pos c, if_pos c, anSay, nxSay, if_pos c, if_pos c]
    exact ⟨rfl, rfl, h, fun _ _ _ => ⟨rfl, rfl⟩⟩
  · rw [if_neg c, if_neg c, anSay, nxSay, if_neg c, if_neg c]
    by_cases c60 : tC t = 60
    · rw [if_pos c60, if_pos c60, if_pos c60]
      exact ⟨rfl, rfl, h, fun _ _ _ => ⟨rfl, rfl⟩⟩
    · have c1 : ¬ v < 33 := fun z => c (inM_lt z)
      obtain ⟨x, x1, ex⟩ := in_ex (v := v) (hi := 126) (by decide) (fun z => c (inM_lt (Int32.lt_trans z (by decide)))) (fun z => c (inM_gt z))
      subst ex
      have x33 : 33 ≤ x := Decidable.byContradiction (fun q => c1 (nI_lt (b := 33) (by omega) (by decide)))
      rw [if_neg c60, if_neg c60, if_neg c60, show cN (nI x) = x from nI_clamp (by omega)]
      have hc : tC t < 60 := by have := hp.1; omega
      refine ⟨rfl, rfl, InvM_pad h (fun z z1 z2 => by rw [va_up_ne _ _ z1, va_up_ne _ _ z2]) (fun z hz => by rw [va_up_self, va_up_ne _ _ hz]) ⟨by omega, by rw [va_up_self, va_up_self], fun j hj => ?_, fun j hj => ?_⟩, Sm_M (fun z hz => by rw [va_up_ne _ _ (by omega), va_up_ne _ _ (by omega)])⟩
      · rw [va_up_ne _ _ (by decide), va_up_self]
        by_cases e : j = tC t
        · rw [e, va_up_self, va_up_self]
        · rw [va_up_ne _ _ e, va_up_ne _ _ e]; exact hp.2.2.1 j (by omega)
      · by_cases e : j = tC t
        · rw [e, va_up_self]; exact ⟨x33, x1⟩
        · rw [va_up_ne _ _ e]; exact hp.2.2.2 j (by omega)
theorem cm_wipe (h : InvM I t) : CM g D MX8_wipe [rf g 71] b I L (nI (tC t)) (nxWipe t) := by
  refine Me.mono sp_X8_wipe (fun r b' I' L' hr => ?_)
  obtain ⟨rfl, rfl, rfl, rfl⟩ := hr
  refine ⟨by rw [h.2.2.2.1.2.1], rfl, InvM_pad h (fun z z1 _ => va_up_ne _ _ z1) (fun z hz => by rw [va_up_self, va_up_ne _ _ hz]) ⟨by omega, by rw [va_up_self, va_up_self]; rfl, fun j hj => absurd hj (Nat.not_lt_zero j), fun j hj => absurd hj (Nat.not_lt_zero j)⟩, Sm_M (fun z hz => va_up_ne _ _ (by omega))⟩
theorem cm_fault (hD : 3 ≤ D) (h : InvM I t) : CM g D MX8_fault [rf g 71] b I L (fltX (tG t) (tC t)) t := by
  refine Me.mono (sp_X8_fault hD h.2.2.2.1) (fun r b' I' L' hr => ?_)
  obtain ⟨rfl, rfl, rfl, rfl⟩ := hr
  exact ⟨rfl, rfl, h, fun _ _ _ => ⟨rfl, rfl⟩⟩
theorem cm_load (hD : 3 ≤ D) (h : InvM I t) : CM g D MX8_load [rf g 71] b I L (anLoad t) (nxLoad t) := by
  obtain ⟨h1, h2, h3, h4, h5, h6, h7⟩ := h
  by_cases hf : fltX (tG t) (tC t) = -6
  · refine Me.mono (sp_X8_load hD h4 hf) (fun r b' I' L' hr => ?_)
    obtain ⟨rfl, rfl, n, rfl, n1, n2, hM, i71, ix⟩ := hr
    rw [anLoad, nxLoad, if_pos hf, if_pos hf, ld_is n1 n2]
    refine ⟨rfl, rfl, ⟨?_, ?_, ?_, ⟨by show 0 ≤ 60; omega, by rw [i71, va_up_self]; rfl, fun j hj => absurd hj (Nat.not_lt_zero j), fun j hj => absurd hj (Nat.not_lt_zero j)⟩, hM, ?_, ?_⟩, Sm_M (fun z hz => ix z (by simp; omega))⟩
    · rw [i71, va_up_ne _ _ (by decide), va_up_ne _ _ (by decide)]; exact h1
    · rw [i71, va_up_ne _ _ (by decide), va_up_ne _ _ (by decide)]; exact h2
    · rw [i71, va_up_ne _ _ (by decide), va_up_ne _ _ (by decide)]; exact h3
    · unfold YI; rw [ix 101 (by decide), ix 102 (by decide)]; exact h6
    · unfold YI; rw [ix 101 (by decide), ix 102 (by decide)]; exact h7
  · refine Me.mono (sp_X8_loadF hD h4 hf) (fun r b' I' L' hr => ?_)
    obtain ⟨rfl, rfl, rfl, rfl⟩ := hr
    rw [anLoad, nxLoad, if_neg hf, if_neg hf]
    exact ⟨rfl, rfl, ⟨h1, h2, h3, h4, h5, h6, h7⟩, fun _ _ _ => ⟨rfl, rfl⟩⟩
set_option maxRecDepth 20000 in
theorem cm_instruction (hD : 1 ≤ D) (h : InvM I t) (i v : Int32) : CM g D MX8_instruction [rf g 71, .int i, .int v] b I L (anInstr t i v) t := by
  have hM := h.2.2.2.2.1
  have hn := hM.1
  refine Me.of [some (rf g 71), some (.int i), some (.int v)] 0 rfl pf_X8_instruction (Nat.le_of_ble_eq_true rfl) ?_
  refine wq_iload_n 1 1 dX8_instruction_0 rfl rfl rfl ?_
  refine wq_iconst 2 0 dX8_instruction_1 rfl (by decide) ?_
  refine wq_bload_n 3 0 dX8_instruction_2 rfl rfl rfl ?_
  refine wq_getI 6 fl_X8_141 dX8_instruction_3 rfl rfl o_71 ?_
  refine wq_iconst 7 1 dX8_instruction_6 rfl (by decide) ?_
  refine wq_isub 8 dX8_instruction_7 rfl ?_
  refine cSi3 11 (sp_X8_in _ _ _) ml_X8_113 mf_X8_in dX8_instruction_8 rfl (Nat.le_of_ble_eq_true rfl) (by omega) ?_
  refine wq_if_ne 14 16 dX8_instruction_11 rfl (by decide) (fun c11 => ?_) (fun c11 => ?_)
  · skip
    refine wq_iload_n 17 2 dX8_instruction_16 rfl rfl rfl ?_
    refine wq_iconst 18 0 dX8_instruction_17 rfl (by decide) ?_
    refine wq_iconst 19 3 dX8_instruction_18 rfl (by decide) ?_
    refine cSi3 22 (sp_X8_in _ _ _) ml_X8_113 mf_X8_in dX8_instruction_19 rfl (Nat.le_of_ble_eq_true rfl) (by omega) ?_
    refine wq_if_ne 25 28 dX8_instruction_22 rfl (by decide) (fun c22 => ?_) (fun c22 => ?_)
    · skip
      rw [hM.2.1] at c11
      have ni : ¬ (i < 0 ∨ nI (tN t) ≤ i) := fun z => c11 ((inM_pred (by omega)).mpr z)
      obtain ⟨x, xn, ex⟩ := in_ix (v := i) (n := tN t) (by omega) (fun z => ni (Or.inl z)) (Int32.not_le.mp (fun z => ni (Or.inr z)))
      obtain ⟨y, y3, ey⟩ := in_ex (v := v) (hi := 3) (by decide) (fun z => c22 (inM_lt z)) (fun z => c22 (inM_gt z))
      subst ex ey
      obtain ⟨r0, r1, r2, r3⟩ := hM.2.2 x xn
      refine wq_iload_n 29 2 dX8_instruction_28 rfl rfl rfl ?_
      refine wq_if_ne 32 41 dX8_instruction_29 rfl (by decide) (fun c29 => ?_) (fun c29 => ?_)
      · skip
        refine wq_iload_n 42 2 dX8_instruction_41 rfl rfl rfl ?_
        refine wq_iconst 43 1 dX8_instruction_42 rfl (by decide) ?_
        refine wq_ic_ne 46 55 dX8_instruction_43 rfl (by decide) (fun c43 => ?_) (fun c43 => ?_)
        · skip
          refine wq_iload_n 56 2 dX8_instruction_55 rfl rfl rfl ?_
          refine wq_iconst 57 2 dX8_instruction_56 rfl (by decide) ?_
          refine wq_ic_ne 60 69 dX8_instruction_57 rfl (by decide) (fun c57 => ?_) (fun c57 => ?_)
          · skip
            refine wq_bload_n 70 0 dX8_instruction_69 rfl rfl rfl ?_
            refine wq_getR 73 fl_X8_23 dX8_instruction_70 rfl rfl o_71 (rfl : (Tb _).2.2.2 71 5 = some 75) ?_
            refine wq_iload_n 74 1 dX8_instruction_73 rfl rfl rfl ?_
            refine wq_iald 75 dX8_instruction_74 rfl a_75 (Ix.nI (by omega) (by decide)) ?_
            refine ri .int dX8_instruction_75 rfl rfl ?_
            have y0 : y = 3 := by
              have d0 : y ≠ 0 := fun z => c29 (by rw [z]; rfl)
              have d1 : y ≠ 1 := fun z => c43 (by rw [z]; rfl)
              have d2 : y ≠ 2 := fun z => c57 (by rw [z]; rfl)
              omega
            exact ⟨by rw [anInstr, if_neg ni, if_neg c22, show cN (nI x) = x from nI_clamp (by omega), show cN (nI y) = y from nI_clamp (by omega), y0]; rw [r3], rfl, h, fun _ _ _ => ⟨rfl, rfl⟩⟩
          · skip
            refine wq_bload_n 61 0 dX8_instruction_60 rfl rfl rfl ?_
            refine wq_getR 64 fl_X8_20 dX8_instruction_61 rfl rfl o_71 (rfl : (Tb _).2.2.2 71 4 = some 74) ?_
            refine wq_iload_n 65 1 dX8_instruction_64 rfl rfl rfl ?_
            refine wq_iald 66 dX8_instruction_65 rfl a_74 (Ix.nI (by omega) (by decide)) ?_
            refine wq_goto 75 dX8_instruction_66 (by decide) ?_
            refine ri .int dX8_instruction_75 rfl rfl ?_
            have y0 : y = 2 := (nI_eq (a := y) (b := 2) (by omega) (by decide)).mp c57
            exact ⟨by rw [anInstr, if_neg ni, if_neg c22, show cN (nI x) = x from nI_clamp (by omega), show cN (nI y) = y from nI_clamp (by omega), y0]; rw [r2], rfl, h, fun _ _ _ => ⟨rfl, rfl⟩⟩
        · skip
          refine wq_bload_n 47 0 dX8_instruction_46 rfl rfl rfl ?_
          refine wq_getR 50 fl_X8_17 dX8_instruction_47 rfl rfl o_71 (rfl : (Tb _).2.2.2 71 3 = some 73) ?_
          refine wq_iload_n 51 1 dX8_instruction_50 rfl rfl rfl ?_
          refine wq_iald 52 dX8_instruction_51 rfl a_73 (Ix.nI (by omega) (by decide)) ?_
          refine wq_goto 75 dX8_instruction_52 (by decide) ?_
          refine ri .int dX8_instruction_75 rfl rfl ?_
          have y0 : y = 1 := (nI_eq (a := y) (b := 1) (by omega) (by decide)).mp c43
          exact ⟨by rw [anInstr, if_neg ni, if_neg c22, show cN (nI x) = x from nI_clamp (by omega), show cN (nI y) = y from nI_clamp (by omega), y0]; rw [r1], rfl, h, fun _ _ _ => ⟨rfl, rfl⟩⟩
      · skip
        refine wq_bload_n 33 0 dX8_instruction_32 rfl rfl rfl ?_
        refine wq_getR 36 fl_X8_13 dX8_instruction_33 rfl rfl o_71 (rfl : (Tb _).2.2.2 71 2 = some 72) ?_
        refine wq_iload_n 37 1 dX8_instruction_36 rfl rfl rfl ?_
        refine wq_iald 38 dX8_instruction_37 rfl a_72 (Ix.nI (by omega) (by decide)) ?_
        refine wq_goto 75 dX8_instruction_38 (by decide) ?_
        refine ri .int dX8_instruction_75 rfl rfl ?_
        have y0 : y = 0 := (nI_eq (a := y) (b := 0) (by omega) (by decide)).mp c29
        exact ⟨by rw [anInstr, if_neg ni, if_neg c22, show cN (nI x) = x from nI_clamp (by omega), show cN (nI y) = y from nI_clamp (by omega), y0]; rw [r0], rfl, h, fun _ _ _ => ⟨rfl, rfl⟩⟩
    · skip
      refine wq_bipush 27 (-2) dX8_instruction_25 rfl (by decide) ?_
      refine ri .int dX8_instruction_27 rfl rfl ?_
      rw [hM.2.1] at c11
      exact ⟨by rw [anInstr, if_neg (fun z => c11 ((inM_pred (by omega)).mpr z)), if_pos c22], rfl, h, fun _ _ _ => ⟨rfl, rfl⟩⟩
  · skip
    refine wq_iconst 15 (-1) dX8_instruction_14 rfl (by decide) ?_
    refine ri .int dX8_instruction_15 rfl rfl ?_
    rw [hM.2.1] at c11
    exact ⟨by rw [anInstr, if_pos ((inM_pred (by omega)).mp c11)], rfl, h, fun _ _ _ => ⟨rfl, rfl⟩⟩
theorem asP_M {I' : IM} (h : InvM I t) (e : I' 71 = va_up (I 71) 13 (nI (tN t))) (ix : ∀ x, x ∉ [71, 77, 78, 79, 80] → I' x = I x) : InvM I' t := InvM_keep h (fun x x1 x2 => ix x (by simp; omega)) (by rw [e, va_up_ne _ _ (by decide)]) (by rw [e, va_up_ne _ _ (by decide)]) (by rw [e, va_up_ne _ _ (by decide)]) (by rw [e, va_up_ne _ _ (by decide)]) (by rw [e, va_up_ne _ _ (by decide)]) (ix 101 (by decide)) (ix 102 (by decide))
set_option maxRecDepth 20000 in
theorem cm_live (hD : 4 ≤ D) (h : InvM I t) (hv : VT t) (i : Int32) : CM g D MX8_live [rf g 71, .int i] b I L (anLive t i) t := by
  have hM := h.2.2.2.2.1
  have hn := hM.1
  refine Me.of [some (rf g 71), some (.int i)] 0 rfl pf_X8_live (Nat.le_of_ble_eq_true rfl) ?_
  refine wq_iload_n 1 1 dX8_live_0 rfl rfl rfl ?_
  refine wq_iconst 2 0 dX8_live_1 rfl (by decide) ?_
  refine wq_bload_n 3 0 dX8_live_2 rfl rfl rfl ?_
  refine wq_getI 6 fl_X8_141 dX8_live_3 rfl rfl o_71 ?_
  refine wq_iconst 7 1 dX8_live_6 rfl (by decide) ?_
  refine wq_isub 8 dX8_live_7 rfl ?_
  refine cSi3 11 (sp_X8_in _ _ _) ml_X8_113 mf_X8_in dX8_live_8 rfl (Nat.le_of_ble_eq_true rfl) (by omega) ?_
  refine wq_if_ne 14 16 dX8_live_11 rfl (by decide) (fun c11 => ?_) (fun c11 => ?_)
  · skip
    rw [hM.2.1] at c11
    have ni : ¬ (i < 0 ∨ nI (tN t) ≤ i) := fun z => c11 ((inM_pred (by omega)).mpr z)
    obtain ⟨x, xn, ex⟩ := in_ix (v := i) (n := tN t) (by omega) (fun z => ni (Or.inl z)) (Int32.not_le.mp (fun z => ni (Or.inr z)))
    subst ex
    refine wq_bload_n 17 0 dX8_live_16 rfl rfl rfl ?_
    refine cVp0 20 (sp_X8_asProgram hM) ml_X8_174 mf_X8_asProgram dX8_live_17 rfl o_71 (by decide) rfl (Nat.le_of_ble_eq_true rfl) (by omega) ?_
    rintro _ b I1 L ⟨rfl, rfl, rfl, hN, i71, ix⟩
    have hI1 := asP_M h i71 ix
    refine wq_bload_n 21 0 dX8_live_20 rfl rfl rfl ?_
    refine cVp0 24 (sp_X8_layLives (by omega) hN hv.1.2.2.2.2) ml_X8_167 mf_X8_layLives dX8_live_21 rfl o_71 (by decide) rfl (Nat.le_of_ble_eq_true rfl) (by omega) ?_
    rintro _ b I1 _ ⟨rfl, rfl, rfl, S, rfl, hS⟩
    refine wq_bload_n 25 0 dX8_live_24 rfl rfl rfl ?_
    refine wq_getR 28 fl_X8_57 dX8_live_25 rfl rfl o_71 (rfl : (Tb _).2.2.2 71 20 = some 86) ?_
    refine wq_iload_n 29 1 dX8_live_28 rfl rfl rfl ?_
    refine wq_lald 30 dX8_live_29 rfl a_86 (Ix.nI (by omega) (by decide)) ?_
    rw [show lvMem L 84 S 86 x = Lvb (tP t) (tN t) x from by rw [show (86 : Nat) = 84 + 2 from rfl, lvMem_2]; exact hS x xn]
    refine wq_l2i 31 dX8_live_30 rfl ?_
    refine ri .int dX8_live_31 rfl rfl ?_
    refine ⟨by rw [anLive, if_neg ni, show cN (nI x) = x from nI_clamp (by omega)], rfl, hI1, fun z _ z2 => ⟨ix z (by simp; omega), lvMem_o _ _ _ (by omega) (by omega)⟩⟩
  · skip
    refine wq_iconst 15 (-1) dX8_live_14 rfl (by decide) ?_
    refine ri .int dX8_live_15 rfl rfl ?_
    rw [hM.2.1] at c11
    exact ⟨by rw [anLive, if_pos ((inM_pred (by omega)).mp c11)], rfl, h, fun _ _ _ => ⟨rfl, rfl⟩⟩
set_option maxRecDepth 20000 in
theorem cm_edges (hD : 4 ≤ D) (h : InvM I t) (hv : VT t) (i : Int32) : CM g D MX8_edges [rf g 71, .int i] b I L (anEdges t i) t := by
  have hM := h.2.2.2.2.1
  refine Me.of [some (rf g 71), some (.int i)] 0 rfl pf_X8_edges (Nat.le_of_ble_eq_true rfl) ?_
  refine wq_iload_n 1 1 dX8_edges_0 rfl rfl rfl ?_
  refine wq_iconst 2 0 dX8_edges_1 rfl (by decide) ?_
  refine wq_bipush 4 15 dX8_edges_2 rfl (by decide) ?_
  refine cSi3 7 (sp_X8_in _ _ _) ml_X8_113 mf_X8_in dX8_edges_4 rfl (Nat.le_of_ble_eq_true rfl) (by omega) ?_
  refine wq_if_ne 10 12 dX8_edges_7 rfl (by decide) (fun c7 => ?_) (fun c7 => ?_)
  · skip
    obtain ⟨x, x15, ex⟩ := in_ex (v := i) (hi := 15) (by decide) (fun z => c7 (inM_lt z)) (fun z => c7 (inM_gt z))
    subst ex
    refine wq_bload_n 13 0 dX8_edges_12 rfl rfl rfl ?_
    refine cVp0 16 (sp_X8_asProgram hM) ml_X8_174 mf_X8_asProgram dX8_edges_13 rfl o_71 (by decide) rfl (Nat.le_of_ble_eq_true rfl) (by omega) ?_
    rintro _ b I1 L ⟨rfl, rfl, rfl, hN, i71, ix⟩
    have hI1 := asP_M h i71 ix
    refine wq_bload_n 17 0 dX8_edges_16 rfl rfl rfl ?_
    refine cVp0 20 (sp_X8_layEdges (by omega) hN hv.1.2.2.2.2) ml_X8_177 mf_X8_layEdges dX8_edges_17 rfl o_71 (by decide) rfl (Nat.le_of_ble_eq_true rfl) (by omega) ?_
    rintro _ b I1 L1 ⟨rfl, rfl, rfl, hE, l1⟩
    refine wq_bload_n 21 0 dX8_edges_20 rfl rfl rfl ?_
    refine wq_getR 24 fl_X8_60 dX8_edges_21 rfl rfl o_71 (rfl : (Tb _).2.2.2 71 21 = some 87) ?_
    refine wq_iload_n 25 1 dX8_edges_24 rfl rfl rfl ?_
    refine wq_lald 26 dX8_edges_25 rfl a_87 (Ix.nI (by omega) (by decide)) ?_
    rw [EdR_set hE (by omega)]
    refine wq_l2i 27 dX8_edges_26 rfl ?_
    refine ri .int dX8_edges_27 rfl rfl ?_
    refine ⟨by rw [anEdges, if_neg c7, show cN (nI x) = x from nI_clamp (by omega)]; rfl, rfl, hI1, fun z _ z2 => ⟨ix z (by simp; omega), l1 z (by simp; omega)⟩⟩
  · skip
    refine wq_iconst 11 (-1) dX8_edges_10 rfl (by decide) ?_
    refine ri .int dX8_edges_11 rfl rfl ?_
    exact ⟨by rw [anEdges, if_pos c7], rfl, h, fun _ _ _ => ⟨rfl, rfl⟩⟩
set_option maxRecDepth 20000 in
theorem cm_weight (hD : 4 ≤ D) (h : InvM I t) (hv : VT t) (i v : Int32) : CM g D MX8_weight [rf g 71, .int i, .int v] b I L (anWeight t i v) t := by
  have hM := h.2.2.2.2.1
  have hn := hM.1
  refine Me.of [some (rf g 71), some (.int i), some (.int v)] 0 rfl pf_X8_weight (Nat.le_of_ble_eq_true rfl) ?_
  refine wq_iload_n 1 1 dX8_weight_0 rfl rfl rfl ?_
  refine wq_iconst 2 4 dX8_weight_1 rfl (by decide) ?_
  refine wq_bipush 4 15 dX8_weight_2 rfl (by decide) ?_
  refine cSi3 7 (sp_X8_in _ _ _) ml_X8_113 mf_X8_in dX8_weight_4 rfl (Nat.le_of_ble_eq_true rfl) (by omega) ?_
  refine wq_if_ne 10 12 dX8_weight_7 rfl (by decide) (fun c7 => ?_) (fun c7 => ?_)
  · skip
    refine wq_iload_n 13 2 dX8_weight_12 rfl rfl rfl ?_
    refine wq_iconst 14 0 dX8_weight_13 rfl (by decide) ?_
    refine wq_iconst 15 1 dX8_weight_14 rfl (by decide) ?_
    refine cSi3 18 (sp_X8_in _ _ _) ml_X8_113 mf_X8_in dX8_weight_15 rfl (Nat.le_of_ble_eq_true rfl) (by omega) ?_
    refine wq_if_ne 21 24 dX8_weight_18 rfl (by decide) (fun c18 => ?_) (fun c18 => ?_)
    · skip
      obtain ⟨x, x4, x16, ex⟩ := told_ex c7
      subst ex
      have hct := Ct_le (tP t) (tN t) x (by omega)
      refine wq_bload_n 25 0 dX8_weight_24 rfl rfl rfl ?_
      refine cVp0 28 (sp_X8_asProgram hM) ml_X8_174 mf_X8_asProgram dX8_weight_25 rfl o_71 (by decide) rfl (Nat.le_of_ble_eq_true rfl) (by omega) ?_
      rintro _ b I1 L ⟨rfl, rfl, rfl, hN, i71, ix⟩
      have hI1 := asP_M h i71 ix
      refine wq_bload_n 29 0 dX8_weight_28 rfl rfl rfl ?_
      refine cVp0 32 (sp_X8_layEdges (by omega) hN hv.1.2.2.2.2) ml_X8_177 mf_X8_layEdges dX8_weight_29 rfl o_71 (by decide) rfl (Nat.le_of_ble_eq_true rfl) (by omega) ?_
      rintro _ b I1 L1 ⟨rfl, rfl, rfl, hE, l1⟩
      refine wq_iload_n 33 2 dX8_weight_32 rfl rfl rfl ?_
      refine wq_if_ne 36 44 dX8_weight_33 rfl (by decide) (fun c33 => ?_) (fun c33 => ?_)
      · skip
        refine wq_bload_n 45 0 dX8_weight_44 rfl rfl rfl ?_
        refine wq_bload_n 46 0 dX8_weight_45 rfl rfl rfl ?_
        refine wq_iload_n 47 1 dX8_weight_46 rfl rfl rfl ?_
        refine cVi1 50 (sp_X8_costOf (by omega) hN hv.1.2.2.2.2 x rfl (by omega)) ml_X8_194 mf_X8_costOf dX8_weight_47 rfl o_71 (by decide) rfl (Nat.le_of_ble_eq_true rfl) (by omega) ?_
        refine wq_bload_n 51 0 dX8_weight_50 rfl rfl rfl ?_
        refine wq_getR 54 fl_X8_60 dX8_weight_51 rfl rfl o_71 (rfl : (Tb _).2.2.2 71 21 = some 87) ?_
        refine wq_iload_n 55 1 dX8_weight_54 rfl rfl rfl ?_
        refine wq_lald 56 dX8_weight_55 rfl a_87 (Ix.nI (by omega) (by decide)) ?_
        rw [EdR_set hE (show x < 64 by omega)]
        refine cSi1 59 (sp_X8_bits (by omega) _) ml_X8_197 mf_X8_bits dX8_weight_56 rfl (Nat.le_of_ble_eq_true rfl) (by omega) ?_
        refine cVi2 62 (sp_X8_weigh (by omega) hv.1.2.2.1 hI1.2.1 (by omega) (cnt_le (edI t x)) rfl rfl) ml_X8_201 mf_X8_weigh dX8_weight_59 rfl o_71 (by decide) rfl (Nat.le_of_ble_eq_true rfl) (by omega) ?_
        refine ri .int dX8_weight_62 rfl rfl ?_
        refine ⟨by rw [anWeight, if_neg c7, if_neg c18, if_neg c33, show cN (nI x) = x from nI_clamp (by omega)], rfl, hI1, fun z _ z2 => ⟨ix z (by simp; omega), l1 z (by simp; omega)⟩⟩
      · skip
        refine wq_bload_n 37 0 dX8_weight_36 rfl rfl rfl ?_
        refine wq_iload_n 38 1 dX8_weight_37 rfl rfl rfl ?_
        refine cVi1 41 (sp_X8_costOf (by omega) hN hv.1.2.2.2.2 x rfl (by omega)) ml_X8_194 mf_X8_costOf dX8_weight_38 rfl o_71 (by decide) rfl (Nat.le_of_ble_eq_true rfl) (by omega) ?_
        refine wq_goto 62 dX8_weight_41 (by decide) ?_
        refine ri .int dX8_weight_62 rfl rfl ?_
        refine ⟨by rw [anWeight, if_neg c7, if_neg c18, if_pos c33, show cN (nI x) = x from nI_clamp (by omega)], rfl, hI1, fun z _ z2 => ⟨ix z (by simp; omega), l1 z (by simp; omega)⟩⟩
    · skip
      refine wq_bipush 23 (-2) dX8_weight_21 rfl (by decide) ?_
      refine ri .int dX8_weight_23 rfl rfl ?_
      exact ⟨by rw [anWeight, if_neg c7, if_pos c18], rfl, h, fun _ _ _ => ⟨rfl, rfl⟩⟩
  · skip
    refine wq_iconst 11 (-1) dX8_weight_10 rfl (by decide) ?_
    refine ri .int dX8_weight_11 rfl rfl ?_
    exact ⟨by rw [anWeight, if_pos c7], rfl, h, fun _ _ _ => ⟨rfl, rfl⟩⟩
end MCalls
