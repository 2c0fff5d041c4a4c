/-! the reference: put, read, rewrite -/
def NXr (I : IM) (q : Pg) (m : Nat) : Prop := I 71 18 = nI m ∧ ∀ j, j < m → j < 91 → I 81 j = q j 0 ∧ I 82 j = q j 1 ∧ I 83 j = q j 2 ∧ I 84 j = q j 3
def FQ (I I' : IM) : Prop := (∀ x, x ∉ [71, 81, 82, 83, 84] → I' x = I x) ∧ ∀ z, z ≠ 18 → z ≠ 37 → I' 71 z = I 71 z
theorem FQ.refl (I : IM) : FQ I I := ⟨fun _ _ => rfl, fun _ _ _ => rfl⟩
theorem FQ.trans {I I' I'' : IM} (h : FQ I I') (h' : FQ I' I'') : FQ I I'' := ⟨fun x hx => (h'.1 x hx).trans (h.1 x hx), fun z z1 z2 => (h'.2 z z1 z2).trans (h.2 z z1 z2)⟩
set_option maxRecDepth 20000 in
set_option maxHeartbeats 2000000 in
theorem sp_X8_put {g : Gl} {D : Nat} {b : Bool} {I : IM} {L : LM} {q : Pg} {m : Nat} (h : NXr I q m) (hm : m < 2 ^ 30) (k f s t : Int32) : Me g D MX8_put [rf g 71, .int k, .int f, .int s, .int t] b I L (fun r b' I' L' => r = none ∧ b' = b ∧ L' = L ∧ NXr I' (pX q m k f s t) (m + 1) ∧ (∀ z, z ≠ 18 → I' 71 z = I 71 z) ∧ FQ I I') := by
  obtain ⟨h1, h2⟩ := h
  refine Me.of [some (rf g 71), some (.int k), some (.int f), some (.int s), some (.int t)] 0 rfl pf_X8_put (Nat.le_of_ble_eq_true rfl) ?_
  by_cases c : m < 91
  · skip
    refine wq_bload_n 1 0 dX8_put_0 rfl rfl rfl ?_
    refine wq_getI 4 fl_X8_276 dX8_put_1 rfl rfl o_71 ?_
    refine wq_bipush 6 91 dX8_put_4 rfl (by decide) ?_
    refine wq_ic_ge 9 50 dX8_put_6 rfl (by decide) (fun c6 => absurd c6 (by rw [h1]; exact nI_ge (b := 91) c (by decide))) (fun c6 => ?_)
    refine wq_bload_n 10 0 dX8_put_9 rfl rfl rfl ?_
    refine wq_getR 13 fl_X8_41 dX8_put_10 rfl rfl o_71 (rfl : (Tb _).2.2.2 71 14 = some 81) ?_
    refine wq_bload_n 14 0 dX8_put_13 rfl rfl rfl ?_
    refine wq_getI 17 fl_X8_276 dX8_put_14 rfl rfl o_71 ?_
    refine wq_iload_n 18 1 dX8_put_17 rfl rfl rfl ?_
    refine wq_iast 19 dX8_put_18 rfl a_81 (by rw [h1]; exact Ix.nI (by omega) (by decide)) ?_
    refine wq_bload_n 20 0 dX8_put_19 rfl rfl rfl ?_
    refine wq_getR 23 fl_X8_44 dX8_put_20 rfl rfl o_71 (rfl : (Tb _).2.2.2 71 15 = some 82) ?_
    refine wq_bload_n 24 0 dX8_put_23 rfl rfl rfl ?_
    refine wq_getI 27 fl_X8_276 dX8_put_24 rfl rfl o_71 ?_
    refine wq_iload_n 28 2 dX8_put_27 rfl rfl rfl ?_
    refine wq_iast 29 dX8_put_28 rfl a_82 (by rw [va_up_ne _ _ (by decide), h1]; exact Ix.nI (by omega) (by decide)) ?_
    refine wq_bload_n 30 0 dX8_put_29 rfl rfl rfl ?_
    refine wq_getR 33 fl_X8_47 dX8_put_30 rfl rfl o_71 (rfl : (Tb _).2.2.2 71 16 = some 83) ?_
    refine wq_bload_n 34 0 dX8_put_33 rfl rfl rfl ?_
    refine wq_getI 37 fl_X8_276 dX8_put_34 rfl rfl o_71 ?_
    refine wq_iload_n 38 3 dX8_put_37 rfl rfl rfl ?_
    refine wq_iast 39 dX8_put_38 rfl a_83 (by rw [va_up_ne _ _ (by decide), va_up_ne _ _ (by decide), h1]; exact Ix.nI (by omega) (by decide)) ?_
    refine wq_bload_n 40 0 dX8_put_39 rfl rfl rfl ?_
    refine wq_getR 43 fl_X8_50 dX8_put_40 rfl rfl o_71 (rfl : (Tb _).2.2.2 71 17 = some 84) ?_
    refine wq_bload_n 44 0 dX8_put_43 rfl rfl rfl ?_
    refine wq_getI 47 fl_X8_276 dX8_put_44 rfl rfl o_71 ?_
    refine wq_iload 49 dX8_put_47 rfl rfl ?_
    refine wq_iast 50 dX8_put_49 rfl a_84 (by rw [va_up_ne _ _ (by decide), va_up_ne _ _ (by decide), va_up_ne _ _ (by decide), h1]; exact Ix.nI (by omega) (by decide)) ?_
    refine wq_bload_n 51 0 dX8_put_50 rfl rfl rfl ?_
    refine wq_dup 52 dX8_put_51 rfl rfl ?_
    refine wq_getI 55 fl_X8_276 dX8_put_52 rfl rfl o_71 ?_
    refine wq_iconst 56 1 dX8_put_55 rfl (by decide) ?_
    refine wq_iadd 57 dX8_put_56 rfl ?_
    refine wq_putI 60 fl_X8_276 dX8_put_57 rfl rfl rfl rfl rfl o_71 ?_
    refine wq_gen (fun I1 L1 eI1 eL1 => ?_)
    refine rr dX8_put_60 rfl ?_
    have i71 : I1 71 = va_up (I 71) 18 (nI (m + 1)) := by rw [eI1, va_up_self]; rw [va_up_ne _ _ (by decide), va_up_ne _ _ (by decide), va_up_ne _ _ (by decide), va_up_ne _ _ (by decide), h1, nI_succ]
    have hz : ∀ z, z ≠ 18 → I1 71 z = I 71 z := fun z hz => by rw [i71, va_up_ne _ _ hz]
    have hx : ∀ x, x ∉ [71, 81, 82, 83, 84] → I1 x = I x := fun x hx => by
      simp at hx
      rw [eI1]
      simp [va_up, hx]
    refine ⟨rfl, rfl, eL1, ⟨by rw [i71, va_up_self], fun j hj hj2 => ?_⟩, hz, hx, fun z z1 _ => hz z z1⟩
    have e81 : I1 81 = va_up (I 81) m k := by rw [eI1]; simp [va_up]
    have e82 : I1 82 = va_up (I 82) m f := by rw [eI1]; simp [va_up]
    have e83 : I1 83 = va_up (I 83) m s := by rw [eI1]; simp [va_up]
    have e84 : I1 84 = va_up (I 84) m t := by rw [eI1]; simp [va_up]
    rw [e81, e82, e83, e84]
    by_cases e : j = m
    · rw [e, va_up_self, va_up_self, va_up_self, va_up_self]
      unfold pX
      simp
    · rw [va_up_ne _ _ e, va_up_ne _ _ e, va_up_ne _ _ e, va_up_ne _ _ e, pX_lt (show j < m by omega)]
      exact h2 j (by omega) hj2
  · skip
    refine wq_bload_n 1 0 dX8_put_0 rfl rfl rfl ?_
    refine wq_getI 4 fl_X8_276 dX8_put_1 rfl rfl o_71 ?_
    refine wq_bipush 6 91 dX8_put_4 rfl (by decide) ?_
    refine wq_ic_ge 9 50 dX8_put_6 rfl (by decide) (fun c6 => ?_) (fun c6 => absurd (by rw [h1]; exact nI_le (a := 91) (by omega) (by omega)) c6)
    refine wq_bload_n 51 0 dX8_put_50 rfl rfl rfl ?_
    refine wq_dup 52 dX8_put_51 rfl rfl ?_
    refine wq_getI 55 fl_X8_276 dX8_put_52 rfl rfl o_71 ?_
    refine wq_iconst 56 1 dX8_put_55 rfl (by decide) ?_
    refine wq_iadd 57 dX8_put_56 rfl ?_
    refine wq_putI 60 fl_X8_276 dX8_put_57 rfl rfl rfl rfl rfl o_71 ?_
    refine wq_gen (fun I1 L1 eI1 eL1 => ?_)
    refine rr dX8_put_60 rfl ?_
    have i71 : I1 71 = va_up (I 71) 18 (nI (m + 1)) := by rw [eI1, va_up_self]; rw [h1, nI_succ]
    have hz : ∀ z, z ≠ 18 → I1 71 z = I 71 z := fun z hz => by rw [i71, va_up_ne _ _ hz]
    have hx : ∀ x, x ∉ [71, 81, 82, 83, 84] → I1 x = I x := fun x hx => by
      simp at hx
      rw [eI1]
      simp [va_up, hx]
    refine ⟨rfl, rfl, eL1, ⟨by rw [i71, va_up_self], fun j hj hj2 => ?_⟩, hz, hx, fun z z1 _ => hz z z1⟩
    rw [pX_lt (show j < m by omega)]
    have eX : ∀ x, x ≠ 71 → I1 x = I x := fun x hx => by rw [eI1, va_up_ne _ _ hx]
    rw [eX 81 (by decide), eX 82 (by decide), eX 83 (by decide), eX 84 (by decide)]
    exact h2 j (by omega) hj2
set_option maxRecDepth 20000 in
theorem sp_X8_isSpilled {g : Gl} {D : Nat} {b : Bool} {I : IM} {L : LM} {sf : Nat → Int32} (hs : ∀ x, x < 64 → I 96 x = sf x) (h4 : ∀ x, x < 4 → sf x < 0) {i : Int32} (x : Nat) (hi : i = nI x) (hx : x < 64) : Md g D MX8_isSpilled [rf g 71, .int i] b I L (some (.int (bI (!decide (sf x < 0))))) b I L := by
  subst hi
  have e := hs x hx
  refine Me.of [some (rf g 71), some (.int (nI x))] 0 rfl pf_X8_isSpilled (Nat.le_of_ble_eq_true rfl) ?_
  refine wq_iload_n 1 1 dX8_isSpilled_0 rfl rfl rfl ?_
  refine wq_iconst 2 4 dX8_isSpilled_1 rfl (by decide) ?_
  refine wq_ic_lt 5 18 dX8_isSpilled_2 rfl (by decide) (fun c2 => ?_) (fun c2 => ?_)
  · skip
    refine wq_iconst 19 0 dX8_isSpilled_18 rfl (by decide) ?_
    refine ri .boolean dX8_isSpilled_19 rfl rfl ?_
    exact ⟨by rw [decide_eq_true (h4 x ((nI_ltI (b := 4) (by omega) (by decide)).mp c2))]; rfl, rfl, rfl, rfl⟩
  · skip
    refine wq_bload_n 6 0 dX8_isSpilled_5 rfl rfl rfl ?_
    refine wq_getR 9 fl_X8_88 dX8_isSpilled_6 rfl rfl o_71 (rfl : (Tb _).2.2.2 71 38 = some 96) ?_
    refine wq_iload_n 10 1 dX8_isSpilled_9 rfl rfl rfl ?_
    refine wq_iald 11 dX8_isSpilled_10 rfl a_96 (Ix.nI (by omega) (by decide)) ?_
    refine wq_if_lt 14 18 dX8_isSpilled_11 rfl (by decide) (fun c11 => ?_) (fun c11 => ?_)
    · skip
      refine wq_iconst 19 0 dX8_isSpilled_18 rfl (by decide) ?_
      refine ri .boolean dX8_isSpilled_19 rfl rfl ?_
      rw [e] at c11
      exact ⟨by rw [decide_eq_true c11]; rfl, rfl, rfl, rfl⟩
    · skip
      refine wq_iconst 15 1 dX8_isSpilled_14 rfl (by decide) ?_
      refine wq_goto 19 dX8_isSpilled_15 (by decide) ?_
      refine ri .boolean dX8_isSpilled_19 rfl rfl ?_
      rw [e] at c11
      exact ⟨by rw [decide_eq_false c11]; rfl, rfl, rfl, rfl⟩
/-- the reference's new rows and names -/
def WSR (I : IM) (s : WS) : Prop := NXr I s.1 s.2.1 ∧ I 71 37 = nI s.2.2
def rd1 (sf : Nat → Int32) (s : WS) (x : Nat) : WS := if sf x < 0 then s else putS (newS s) 7 (frS s) (sf x) (-6)
def rv1 (sf : Nat → Int32) (s : WS) (x : Nat) : Int32 := if sf x < 0 then nI x else frS s
theorem bI_dn {p : Prop} [Decidable p] : bI (!decide p) = 0 ↔ p := by
  by_cases c : p
  · rw [decide_eq_true c]; exact ⟨fun _ => c, fun _ => rfl⟩
  · rw [decide_eq_false c]; exact ⟨fun z => absurd z (by decide), fun z => absurd z c⟩
set_option maxRecDepth 20000 in
theorem sp_X8_read {g : Gl} {D : Nat} {b : Bool} {I : IM} {L : LM} {sf : Nat → Int32} {s : WS} (hD : 1 ≤ D) (hs : ∀ x, x < 64 → I 96 x = sf x) (h4 : ∀ x, x < 4 → sf x < 0) (hW : WSR I s) (hm : s.2.1 < 2 ^ 30) {i : Int32} (x : Nat) (hi : i = nI x) (hx : x < 64) : Me g D MX8_read [rf g 71, .int i] b I L (fun r b' I' L' => r = some (.int (rv1 sf s x)) ∧ b' = b ∧ L' = L ∧ WSR I' (rd1 sf s x) ∧ FQ I I') := by
  subst hi
  obtain ⟨w1, w2⟩ := hW
  have hI0 : NXr (va_up I 71 (va_up (I 71) 37 (nI (s.2.2 + 1)))) s.1 s.2.1 := ⟨by rw [va_up_self, va_up_ne _ _ (by decide)]; exact w1.1, fun j hj hj2 => by rw [va_up_ne _ _ (by decide), va_up_ne _ _ (by decide), va_up_ne _ _ (by decide), va_up_ne _ _ (by decide)]; exact w1.2 j hj hj2⟩
  refine Me.of [some (rf g 71), some (.int (nI x)), none] 1 rfl pf_X8_read (Nat.le_of_ble_eq_true rfl) ?_
  refine wq_bload_n 1 0 dX8_read_0 rfl rfl rfl ?_
  refine wq_iload_n 2 1 dX8_read_1 rfl rfl rfl ?_
  refine cVi1 5 (sp_X8_isSpilled hs h4 x rfl hx) ml_X8_279 mf_X8_isSpilled dX8_read_2 rfl o_71 (by decide) rfl (Nat.le_of_ble_eq_true rfl) (by omega) ?_
  refine wq_if_ne 8 10 dX8_read_5 rfl (by decide) (fun c5 => ?_) (fun c5 => ?_)
  · skip
    refine wq_bipush 12 16 dX8_read_10 rfl (by decide) ?_
    refine wq_bload_n 13 0 dX8_read_12 rfl rfl rfl ?_
    refine wq_getI 16 fl_X8_282 dX8_read_13 rfl rfl o_71 ?_
    rw [w2]
    refine wq_iadd 17 dX8_read_16 rfl ?_
    rw [show (16 : Int32) + nI s.2.2 = frS s from nI_add 16 s.2.2]
    refine wq_istore_n 18 2 [_, _, _] dX8_read_17 rfl rfl rfl (Nat.le_of_ble_eq_true rfl) rfl ?_
    refine wq_bload_n 19 0 dX8_read_18 rfl rfl rfl ?_
    refine wq_dup 20 dX8_read_19 rfl rfl ?_
    refine wq_getI 23 fl_X8_282 dX8_read_20 rfl rfl o_71 ?_
    refine wq_iconst 24 1 dX8_read_23 rfl (by decide) ?_
    refine wq_iadd 25 dX8_read_24 rfl ?_
    rw [w2, ← nI_succ]
    refine wq_putI 28 fl_X8_282 dX8_read_25 rfl rfl rfl rfl rfl o_71 ?_
    refine wq_bload_n 29 0 dX8_read_28 rfl rfl rfl ?_
    refine wq_bipush 31 7 dX8_read_29 rfl (by decide) ?_
    refine wq_iload_n 32 2 dX8_read_31 rfl rfl rfl ?_
    refine wq_bload_n 33 0 dX8_read_32 rfl rfl rfl ?_
    refine wq_getR 36 fl_X8_88 dX8_read_33 rfl rfl o_71 (rfl : (Tb _).2.2.2 71 38 = some 96) ?_
    refine wq_iload_n 37 1 dX8_read_36 rfl rfl rfl ?_
    refine wq_iald 38 dX8_read_37 rfl a_96 (Ix.nI (by omega) (by decide)) ?_
    rw [va_up_ne _ _ (by decide), hs x hx]
    refine wq_bipush 40 (-6) dX8_read_38 rfl (by decide) ?_
    refine cVp4 43 (sp_X8_put hI0 hm _ _ _ _) ml_X8_285 mf_X8_put dX8_read_40 rfl o_71 (by decide) rfl (Nat.le_of_ble_eq_true rfl) (by omega) ?_
    rintro _ b I1 L1 ⟨rfl, rfl, rfl, n1, n2, n3⟩
    refine wq_iload_n 44 2 dX8_read_43 rfl rfl rfl ?_
    refine ri .int dX8_read_44 rfl rfl ?_
    have c : ¬ sf x < 0 := fun z => c5 (bI_dn.mpr z)
    refine ⟨by rw [rv1, if_neg c], rfl, rfl, by rw [rd1, if_neg c]; exact ⟨n1, by rw [n2 37 (by decide), va_up_self, va_up_self]; rfl⟩, FQ.trans ⟨fun z hz => va_up_ne _ _ (by simp at hz; exact hz.1), fun z _ z2 => by rw [va_up_self, va_up_ne _ _ z2]⟩ n3⟩
  · skip
    refine wq_iload_n 9 1 dX8_read_8 rfl rfl rfl ?_
    refine ri .int dX8_read_9 rfl rfl ?_
    have c := bI_dn.mp c5
    exact ⟨by rw [rv1, if_pos c], rfl, rfl, by rw [rd1, if_pos c]; exact ⟨w1, w2⟩, FQ.refl I⟩
set_option maxRecDepth 20000 in
theorem sp_X8_register {g : Gl} {D : Nat} {b : Bool} {I : IM} {L : LM} {al : Nat → Nat} (hD : 1 ≤ D) (hI : ∀ n, n < 64 → I 88 n = nI (al n)) (ha : ∀ n, n < 64 → al n ≤ n) {i : Int32} (x : Nat) (hi : i = nI x) (hx : x < 64) : Md g D MX8_register [rf g 71, .int i] b I L (some (.int (I 94 (rt al x)))) b I L := by
  subst hi
  have hl := rt_lt ha hx
  refine Me.of [some (rf g 71), some (.int (nI x))] 0 rfl pf_X8_register (Nat.le_of_ble_eq_true rfl) ?_
  refine wq_bload_n 1 0 dX8_register_0 rfl rfl rfl ?_
  refine wq_getR 4 fl_X8_82 dX8_register_1 rfl rfl o_71 (rfl : (Tb _).2.2.2 71 31 = some 94) ?_
  refine wq_bload_n 5 0 dX8_register_4 rfl rfl rfl ?_
  refine wq_iload_n 6 1 dX8_register_5 rfl rfl rfl ?_
  refine cVi1 9 (sp_X8_stands hI ha x rfl hx) ml_X8_221 mf_X8_standsFor dX8_register_6 rfl o_71 (by decide) rfl (Nat.le_of_ble_eq_true rfl) (by omega) ?_
  refine wq_iald 10 dX8_register_9 rfl a_94 (Ix.nI (by omega) (by decide)) ?_
  refine ri .int dX8_register_10 rfl rfl ?_
  exact ⟨rfl, rfl, rfl, rfl⟩
