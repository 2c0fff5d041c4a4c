/-! THE CALLS: what they answer, what they leave; the class -/
def anColours (t : TS) (v : Int32) : Int32 := if inM v 2 4 = 0 then -2 else nI (tK t)
def nxColours (t : TS) (v : Int32) : TS := if inM v 2 4 = 0 then t else (cN v, t.2)
def anWay (t : TS) (v : Int32) : Int32 := if inM v 0 2 = 0 then -2 else nI (tW t)
def nxWay (t : TS) (v : Int32) : TS := if inM v 0 2 = 0 then t else (tK t, cN v, t.2.2)
def anSay (t : TS) (v : Int32) : Int32 := if inM v 33 126 = 0 then -2 else if tC t = 60 then -4 else nI (tC t + 1)
def nxSay (t : TS) (v : Int32) : TS := if inM v 33 126 = 0 then t else if tC t = 60 then t else (tK t, tW t, tC t + 1, va_up (tG t) (tC t) (cN v), t.2.2.2.2)
def nxWipe (t : TS) : TS := (tK t, tW t, 0, t.2.2.2)
def ldN (sg : Nat → Nat) (c : Nat) : Nat := lf (fun j => decide (c ≤ pos sg j)) (c + 1)
def anLoad (t : TS) : Int32 := if fltX (tG t) (tC t) = -6 then nI (ldN (tG t) (tC t)) else -5
def nxLoad (t : TS) : TS := if fltX (tG t) (tC t) = -6 then (tK t, tW t, 0, tG t, ldN (tG t) (tC t), pP (tG t) (tC t), tA t, tZ t) else t
def anInstr (t : TS) (i v : Int32) : Int32 := if i < 0 ∨ nI (tN t) ≤ i then -1 else if inM v 0 3 = 0 then -2 else tP t (cN i) (cN v)
def anTold (t : TS) (v : Int32) : Int32 := if v = 0 then nI (tC t) else if v = 1 then nI (tN t) else if v = 2 then nI (tK t) else if v = 3 then nI (tW t) else if v = 4 then (Nms (tP t) (tN t)).toInt32 else if v = 5 then Mv (tP t) (tN t) else -2
def anImage (v : Int32) : Int32 := if inM v 0 1 = 0 then -2 else 1
def nowI (t : TS) : TI := (true, tK t, tW t, tN t, tP t)
def nxImage (t : TS) (v : Int32) : TS := if inM v 0 1 = 0 then t else if v = 0 then (tK t, tW t, tC t, tG t, tN t, tP t, nowI t, tZ t) else (tK t, tW t, tC t, tG t, tN t, tP t, tA t, nowI t)
def tIm (t : TS) (v : Int32) : TI := if v = 0 then tA t else tZ t
def anRestore (t : TS) (v : Int32) : Int32 := if inM v 0 1 = 0 then -2 else if (tIm t v).1 = true then 1 else -3
def nxRestore (t : TS) (v : Int32) : TS := if inM v 0 1 = 0 then t else if (tIm t v).1 = true then ((tIm t v).2.1, (tIm t v).2.2.1, tC t, tG t, (tIm t v).2.2.2.1, (tIm t v).2.2.2.2, tA t, tZ t) else t
/-- what a call of the class does -/
def CX (g : Gl) (D : Nat) (Y : Mt) (av : List Value) (b : Bool) (I : IM) (L : LM) (a : Int32) (t' : TS) : Prop := Me g D Y av b I L (fun r _ I' L' => r = some (.int a) ∧ InvX I' L' t' ∧ Sm 71 103 I L I' L')
theorem Sm_0 {u v : Nat} {I I' : IM} {L : LM} (h : ∀ x, x ≠ 0 → I' x = I x) (hu : 0 < u) : Sm u v I L I' L := fun x x1 _ => ⟨h x (by omega), rfl⟩
theorem InvX_0 {I I' : IM} {L : LM} {t : TS} {k w : Nat} (h : InvX I L t) (e : ∀ x, x ≠ 0 → I' x = I x) (e7 : I' 0 7 = nI k) (e8 : I' 0 8 = nI w) (e9 : I' 0 9 = I 0 9) (e11 : I' 0 11 = I 0 11) (e10 : I' 0 10 = 0) (e12 : I' 0 12 = 0) : InvX I' L (k, w, t.2.2) := by
  obtain ⟨h1, h2, h3, h4, h5, h6, h7, h8, h9⟩ := h
  exact ⟨⟨e7, e8⟩, PdX_keep (L := L) (L' := L) h2 (Sm_0 e (by omega)), LR_sm h3 (Sm_0 e (by omega)), fl_keep h4 e9 (fun q => NdR_keep q (Sm_0 e (by omega))), Or.inl e10, fl_keep h6 e11 (fun q => UX_keep (L := L) (L' := L) q (Sm_0 e (by omega))), Or.inl e12, XI_keep h8 (Sm_0 e (by omega)), XI_keep h9 (Sm_0 e (by omega))⟩
section Calls
variable {g : Gl} {D : Nat} {b : Bool} {I : IM} {L : LM} {t : TS}
set_option maxRecDepth 20000 in
theorem sp_X7_forgetA : Md g D MX7_forgetAllotment [rf g 0] b I L none b (va_up I 0 (va_up (va_up (I 0) 10 0) 12 0)) L := by
  refine Me.of [some (rf g 0)] 0 rfl pf_X7_forgetAllotment (Nat.le_of_ble_eq_true rfl) ?_
  refine wq_bload_n 1 0 dX7_forgetAllotment_0 rfl rfl rfl ?_
  refine wq_iconst 2 0 dX7_forgetAllotment_1 rfl (by decide) ?_
  refine wq_putI 5 fl_X7_64 dX7_forgetAllotment_2 rfl rfl rfl rfl rfl o_0 ?_
  refine wq_bload_n 6 0 dX7_forgetAllotment_5 rfl rfl rfl ?_
  refine wq_iconst 7 0 dX7_forgetAllotment_6 rfl (by decide) ?_
  refine wq_putI 10 fl_X7_70 dX7_forgetAllotment_7 rfl rfl rfl rfl rfl o_0 ?_
  refine rr dX7_forgetAllotment_10 rfl ?_
  exact ⟨rfl, rfl, by rw [va_up_self, va_up_up], rfl⟩
set_option maxRecDepth 20000 in
theorem sp_X7_forgetP (hD : 1 ≤ D) : Md g D MX7_forgetProgram [rf g 0] b I L none b (va_up I 0 (va_up (va_up (va_up (va_up (I 0) 9 0) 11 0) 10 0) 12 0)) L := by
  refine Me.of [some (rf g 0)] 0 rfl pf_X7_forgetProgram (Nat.le_of_ble_eq_true rfl) ?_
  refine wq_bload_n 1 0 dX7_forgetProgram_0 rfl rfl rfl ?_
  refine wq_iconst 2 0 dX7_forgetProgram_1 rfl (by decide) ?_
  refine wq_putI 5 fl_X7_60 dX7_forgetProgram_2 rfl rfl rfl rfl rfl o_0 ?_
  refine wq_bload_n 6 0 dX7_forgetProgram_5 rfl rfl rfl ?_
  refine wq_iconst 7 0 dX7_forgetProgram_6 rfl (by decide) ?_
  refine wq_putI 10 fl_X7_67 dX7_forgetProgram_7 rfl rfl rfl rfl rfl o_0 ?_
  refine wq_bload_n 11 0 dX7_forgetProgram_10 rfl rfl rfl ?_
  refine cVv0 14 (sp_X7_forgetA) ml_X7_74 mf_X7_forgetAllotment dX7_forgetProgram_11 rfl o_0 (by decide) rfl (Nat.le_of_ble_eq_true rfl) (by omega) ?_
  refine rr dX7_forgetProgram_14 rfl ?_
  exact ⟨rfl, rfl, by simp only [va_up_self, va_up_up], rfl⟩
set_option maxRecDepth 20000 in
theorem cx_colours (hD : 2 ≤ D) (h : InvX I L t) (v : Int32) : CX g D MX7_colours [rf g 0, .int v] b I L (anColours t v) (nxColours t v) := by
  refine Me.of [some (rf g 0), some (.int v), none] 1 rfl pf_X7_colours (Nat.le_of_ble_eq_true rfl) ?_
  refine wq_iload_n 1 1 dX7_colours_0 rfl rfl rfl ?_
  refine wq_iconst 2 2 dX7_colours_1 rfl (by decide) ?_
  refine wq_ic_lt 5 10 dX7_colours_2 rfl (by decide) (fun c2 => ?_) (fun c2 => ?_)
  · skip
    refine wq_bipush 12 (-2) dX7_colours_10 rfl (by decide) ?_
    refine ri .int dX7_colours_12 rfl rfl ?_
    have hz : inM v 2 4 = 0 := inM_lt c2
    exact ⟨by rw [anColours, if_pos hz], by rw [nxColours, if_pos hz]; exact h, fun _ _ _ => ⟨rfl, rfl⟩⟩
  · skip
    refine wq_iload_n 6 1 dX7_colours_5 rfl rfl rfl ?_
    refine wq_iconst 7 4 dX7_colours_6 rfl (by decide) ?_
    refine wq_ic_le 10 13 dX7_colours_7 rfl (by decide) (fun c7 => ?_) (fun c7 => ?_)
    · skip
      refine wq_bload_n 14 0 dX7_colours_13 rfl rfl rfl ?_
      refine wq_getI 17 fl_X7_53 dX7_colours_14 rfl rfl o_0 ?_
      refine wq_istore_n 18 2 [_, _, _] dX7_colours_17 rfl rfl rfl (Nat.le_of_ble_eq_true rfl) rfl ?_
      refine wq_bload_n 19 0 dX7_colours_18 rfl rfl rfl ?_
      refine wq_iload_n 20 1 dX7_colours_19 rfl rfl rfl ?_
      refine wq_putI 23 fl_X7_53 dX7_colours_20 rfl rfl rfl rfl rfl o_0 ?_
      refine wq_bload_n 24 0 dX7_colours_23 rfl rfl rfl ?_
      refine cVv0 27 (sp_X7_forgetA) ml_X7_74 mf_X7_forgetAllotment dX7_colours_24 rfl o_0 (by decide) rfl (Nat.le_of_ble_eq_true rfl) (by omega) ?_
      refine wq_iload_n 28 2 dX7_colours_27 rfl rfl rfl ?_
      refine wq_gen (fun I1 L1 eI1 eL1 => ?_)
      refine ri .int dX7_colours_28 rfl rfl ?_
      have hz : ¬ inM v 2 4 = 0 := by rw [inM_in c2 (Int32.not_lt.mpr c7)]; decide
      have v0 : ¬ v < 0 := fun q => c2 (Int32.lt_trans q (by decide))
      obtain ⟨x, x1, rfl⟩ := in_ex (hi := 4) (by decide) v0 (Int32.not_lt.mpr c7)
      have i0 : I1 0 = va_up (va_up (va_up (I 0) 7 (nI x)) 10 0) 12 0 := by rw [eI1]; simp only [va_up_self]
      have ix : ∀ x, x ≠ 0 → I1 x = I x := fun x hx => by rw [eI1, va_up_ne _ _ hx, va_up_ne _ _ hx]
      have hI := InvX_0 (k := x) (w := tW t) h ix (by rw [i0]; simp [va_up]) (by rw [i0]; simp [va_up]; exact h.1.2) (by rw [i0]; simp [va_up]) (by rw [i0]; simp [va_up]) (by rw [i0]; simp [va_up]) (by rw [i0]; simp [va_up])
      refine ⟨by rw [anColours, if_neg hz, ← h.1.1], ?_, by rw [eL1]; exact Sm_0 ix (by omega)⟩
      rw [nxColours, if_neg hz, eL1, show cN (nI x) = x from nI_clamp (by omega)]
      exact hI
    · skip
      refine wq_bipush 12 (-2) dX7_colours_10 rfl (by decide) ?_
      refine ri .int dX7_colours_12 rfl rfl ?_
      have hz : inM v 2 4 = 0 := inM_gt (Int32.not_le.mp c7)
      exact ⟨by rw [anColours, if_pos hz], by rw [nxColours, if_pos hz]; exact h, fun _ _ _ => ⟨rfl, rfl⟩⟩
set_option maxRecDepth 20000 in
theorem cx_way (hD : 2 ≤ D) (h : InvX I L t) (v : Int32) : CX g D MX7_way [rf g 0, .int v] b I L (anWay t v) (nxWay t v) := by
  refine Me.of [some (rf g 0), some (.int v), none] 1 rfl pf_X7_way (Nat.le_of_ble_eq_true rfl) ?_
  refine wq_iload_n 1 1 dX7_way_0 rfl rfl rfl ?_
  refine wq_if_lt 4 9 dX7_way_1 rfl (by decide) (fun c1 => ?_) (fun c1 => ?_)
  · skip
    refine wq_bipush 11 (-2) dX7_way_9 rfl (by decide) ?_
    refine ri .int dX7_way_11 rfl rfl ?_
    have hz : inM v 0 2 = 0 := inM_lt c1
    exact ⟨by rw [anWay, if_pos hz], by rw [nxWay, if_pos hz]; exact h, fun _ _ _ => ⟨rfl, rfl⟩⟩
  · skip
    refine wq_iload_n 5 1 dX7_way_4 rfl rfl rfl ?_
    refine wq_iconst 6 2 dX7_way_5 rfl (by decide) ?_
    refine wq_ic_le 9 12 dX7_way_6 rfl (by decide) (fun c6 => ?_) (fun c6 => ?_)
    · skip
      refine wq_bload_n 13 0 dX7_way_12 rfl rfl rfl ?_
      refine wq_getI 16 fl_X7_57 dX7_way_13 rfl rfl o_0 ?_
      refine wq_istore_n 17 2 [_, _, _] dX7_way_16 rfl rfl rfl (Nat.le_of_ble_eq_true rfl) rfl ?_
      refine wq_bload_n 18 0 dX7_way_17 rfl rfl rfl ?_
      refine wq_iload_n 19 1 dX7_way_18 rfl rfl rfl ?_
      refine wq_putI 22 fl_X7_57 dX7_way_19 rfl rfl rfl rfl rfl o_0 ?_
      refine wq_bload_n 23 0 dX7_way_22 rfl rfl rfl ?_
      refine cVv0 26 (sp_X7_forgetA) ml_X7_74 mf_X7_forgetAllotment dX7_way_23 rfl o_0 (by decide) rfl (Nat.le_of_ble_eq_true rfl) (by omega) ?_
      refine wq_iload_n 27 2 dX7_way_26 rfl rfl rfl ?_
      refine wq_gen (fun I1 L1 eI1 eL1 => ?_)
      refine ri .int dX7_way_27 rfl rfl ?_
      have hz : ¬ inM v 0 2 = 0 := by rw [inM_in c1 (Int32.not_lt.mpr c6)]; decide
      have v0 : ¬ v < 0 := c1
      obtain ⟨x, x1, rfl⟩ := in_ex (hi := 2) (by decide) v0 (Int32.not_lt.mpr c6)
      have i0 : I1 0 = va_up (va_up (va_up (I 0) 8 (nI x)) 10 0) 12 0 := by rw [eI1]; simp only [va_up_self]
      have ix : ∀ x, x ≠ 0 → I1 x = I x := fun x hx => by rw [eI1, va_up_ne _ _ hx, va_up_ne _ _ hx]
      have hI := InvX_0 (k := tK t) (w := x) h ix (by rw [i0]; simp [va_up]; exact h.1.1) (by rw [i0]; simp [va_up]) (by rw [i0]; simp [va_up]) (by rw [i0]; simp [va_up]) (by rw [i0]; simp [va_up]) (by rw [i0]; simp [va_up])
      refine ⟨by rw [anWay, if_neg hz, ← h.1.2], ?_, by rw [eL1]; exact Sm_0 ix (by omega)⟩
      rw [nxWay, if_neg hz, eL1, show cN (nI x) = x from nI_clamp (by omega)]
      exact hI
    · skip
      refine wq_bipush 11 (-2) dX7_way_9 rfl (by decide) ?_
      refine ri .int dX7_way_11 rfl rfl ?_
      have hz : inM v 0 2 = 0 := inM_gt (Int32.not_le.mp c6)
      exact ⟨by rw [anWay, if_pos hz], by rw [nxWay, if_pos hz]; exact h, fun _ _ _ => ⟨rfl, rfl⟩⟩
theorem InvX_pad {I' : IM} {c : Nat} {sg : Nat → Nat} (h : InvX I L t) (e : ∀ x, x ≠ 1 → x ≠ 2 → I' x = I x) (hp : PdX I' c sg) : InvX I' L (tK t, tW t, c, sg, t.2.2.2.2) := by
  obtain ⟨h1, h2, h3, h4, h5, h6, h7, h8, h9⟩ := h
  have e0 := e 0 (by decide) (by decide)
  have sm : ∀ u v, 3 ≤ u → Sm u v I L I' L := fun u v hu x x1 _ => ⟨e x (by omega) (by omega), rfl⟩
  exact ⟨by rw [e0]; exact h1, hp, LR_sm h3 (sm _ _ (by omega)), fl_keep h4 (by rw [e0]) (fun q => NdR_keep q (sm _ _ (by omega))), fl_keep h5 (by rw [e0]) (fun q => AlR_keep q (sm _ _ (by omega))), fl_keep h6 (by rw [e0]) (fun q => UX_keep q (sm _ _ (by omega))), fl_keep h7 (by rw [e0]) (fun q r s z => UX_keep (q r s z) (sm _ _ (by omega))), XI_keep h8 (sm _ _ (by omega)), XI_keep h9 (sm _ _ (by omega))⟩
set_option maxRecDepth 20000 in
theorem cx_say (hD : 2 ≤ D) (h : InvX I L t) (v : Int32) : CX g D MX7_say [rf g 0, .int v] b I L (anSay t v) (nxSay t v) := by
  have hp := h.2.1
  refine Me.of [some (rf g 0), some (.int v)] 0 rfl pf_X7_say (Nat.le_of_ble_eq_true rfl) ?_
  by_cases c60 : tC t = 60
  · skip
    refine wq_iload_n 1 1 dX7_say_0 rfl rfl rfl ?_
    refine wq_bipush 3 33 dX7_say_1 rfl (by decide) ?_
    refine wq_ic_lt 6 12 dX7_say_3 rfl (by decide) (fun c3 => ?_) (fun c3 => ?_)
    · skip
      refine wq_bipush 14 (-2) dX7_say_12 rfl (by decide) ?_
      refine ri .int dX7_say_14 rfl rfl ?_
      have hz : inM v 33 126 = 0 := inM_lt c3
      exact ⟨by rw [anSay, if_pos hz], by rw [nxSay, if_pos hz]; exact h, fun _ _ _ => ⟨rfl, rfl⟩⟩
    · skip
      refine wq_iload_n 7 1 dX7_say_6 rfl rfl rfl ?_
      refine wq_bipush 9 126 dX7_say_7 rfl (by decide) ?_
      refine wq_ic_le 12 15 dX7_say_9 rfl (by decide) (fun c9 => ?_) (fun c9 => ?_)
      · skip
        refine wq_bload_n 16 0 dX7_say_15 rfl rfl rfl ?_
        refine wq_getR 19 fl_X7_10 dX7_say_16 rfl rfl o_0 (rfl : (Tb _).2.2.2 0 0 = some 1) ?_
        refine wq_iload_n 20 1 dX7_say_19 rfl rfl rfl ?_
        refine cVi1 23 (sp_X4_addF (by rw [hp.2.1, c60]) _) ml_X7_77 mf_X4_add dX7_say_20 rfl o_1 (by decide) rfl (Nat.le_of_ble_eq_true rfl) (by omega) ?_
        refine wq_if_ne 26 29 dX7_say_23 rfl (by decide) (fun c23 => absurd c23 (fun z => z rfl)) (fun c23 => ?_)
        refine wq_bipush 28 (-4) dX7_say_26 rfl (by decide) ?_
        refine ri .int dX7_say_28 rfl rfl ?_
        have hz : ¬ inM v 33 126 = 0 := by rw [inM_in c3 (Int32.not_lt.mpr c9)]; decide
        exact ⟨by rw [anSay, if_neg hz, if_pos c60], by rw [nxSay, if_neg hz, if_pos c60]; exact h, fun _ _ _ => ⟨rfl, rfl⟩⟩
      · skip
        refine wq_bipush 14 (-2) dX7_say_12 rfl (by decide) ?_
        refine ri .int dX7_say_14 rfl rfl ?_
        have hz : inM v 33 126 = 0 := inM_gt (Int32.not_le.mp c9)
        exact ⟨by rw [anSay, if_pos hz], by rw [nxSay, if_pos hz]; exact h, fun _ _ _ => ⟨rfl, rfl⟩⟩
  · have hc : tC t < 60 := by have := hp.1; omega
    refine wq_iload_n 1 1 dX7_say_0 rfl rfl rfl ?_
    refine wq_bipush 3 33 dX7_say_1 rfl (by decide) ?_
    refine wq_ic_lt 6 12 dX7_say_3 rfl (by decide) (fun c3 => ?_) (fun c3 => ?_)
    · skip
      refine wq_bipush 14 (-2) dX7_say_12 rfl (by decide) ?_
      refine ri .int dX7_say_14 rfl rfl ?_
      have hz : inM v 33 126 = 0 := inM_lt c3
      exact ⟨by rw [anSay, if_pos hz], by rw [nxSay, if_pos hz]; exact h, fun _ _ _ => ⟨rfl, rfl⟩⟩
    · skip
      refine wq_iload_n 7 1 dX7_say_6 rfl rfl rfl ?_
      refine wq_bipush 9 126 dX7_say_7 rfl (by decide) ?_
      refine wq_ic_le 12 15 dX7_say_9 rfl (by decide) (fun c9 => ?_) (fun c9 => ?_)
      · skip
        refine wq_bload_n 16 0 dX7_say_15 rfl rfl rfl ?_
        refine wq_getR 19 fl_X7_10 dX7_say_16 rfl rfl o_0 (rfl : (Tb _).2.2.2 0 0 = some 1) ?_
        refine wq_iload_n 20 1 dX7_say_19 rfl rfl rfl ?_
        refine cVi1 23 (sp_X4_add hp.2.1 hc _) ml_X7_77 mf_X4_add dX7_say_20 rfl o_1 (by decide) rfl (Nat.le_of_ble_eq_true rfl) (by omega) ?_
        refine wq_if_ne 26 29 dX7_say_23 rfl (by decide) (fun c23 => ?_) (fun c23 => absurd c23 (by decide))
        refine wq_bload_n 30 0 dX7_say_29 rfl rfl rfl ?_
        refine wq_getR 33 fl_X7_10 dX7_say_30 rfl rfl o_0 (rfl : (Tb _).2.2.2 0 0 = some 1) ?_
        refine wq_getI 36 fl_X7_81 dX7_say_33 rfl rfl o_1 ?_
        refine wq_gen (fun I1 L1 eI1 eL1 => ?_)
        refine ri .int dX7_say_36 rfl rfl ?_
        have hz : ¬ inM v 33 126 = 0 := by rw [inM_in c3 (Int32.not_lt.mpr c9)]; decide
        have v0 : ¬ v < 0 := fun q => c3 (Int32.lt_trans q (by decide))
        obtain ⟨x, x1, rfl⟩ := in_ex (hi := 126) (by decide) v0 (Int32.not_lt.mpr c9)
        have x33 : 33 ≤ x := Decidable.byContradiction (fun q => c3 (nI_lt (b := 33) (by omega) (by decide)))
        have i1 : I1 1 = va_up (I 1) 1 (nI (tC t + 1)) := by rw [eI1, va_up_self]
        have i2 : I1 2 = va_up (I 2) (tC t) (nI x) := by rw [eI1, va_up_ne _ _ (by decide), va_up_self]
        have ix : ∀ z, z ≠ 1 → z ≠ 2 → I1 z = I z := fun z z1 z2 => by rw [eI1, va_up_ne _ _ z1, va_up_ne _ _ z2]
        have hP : PdX I1 (tC t + 1) (va_up (tG t) (tC t) x) := ⟨by omega, by rw [i1, va_up_self], fun j hj => by
          rw [i2]
          by_cases e : j = tC t
          · rw [e, va_up_self, va_up_self]
          · rw [va_up_ne _ _ e, va_up_ne _ _ e]; exact hp.2.2.1 j (by omega), fun j hj => by
          by_cases e : j = tC t
          · rw [e, va_up_self]; exact ⟨x33, x1⟩
          · rw [va_up_ne _ _ e]; exact hp.2.2.2 j (by omega)⟩
        have hI := InvX_pad h ix hP
        refine ⟨by rw [anSay, if_neg hz, if_neg c60, ← eI1, i1, va_up_self], ?_, by rw [eL1]; exact fun z z1 _ => ⟨ix z (by omega) (by omega), rfl⟩⟩
        rw [nxSay, if_neg hz, if_neg c60, eL1, show cN (nI x) = x from nI_clamp (by omega)]
        exact hI
      · skip
        refine wq_bipush 14 (-2) dX7_say_12 rfl (by decide) ?_
        refine ri .int dX7_say_14 rfl rfl ?_
        have hz : inM v 33 126 = 0 := inM_gt (Int32.not_le.mp c9)
        exact ⟨by rw [anSay, if_pos hz], by rw [nxSay, if_pos hz]; exact h, fun _ _ _ => ⟨rfl, rfl⟩⟩
set_option maxRecDepth 20000 in
theorem cx_wipe (h : InvX I L t) : CX g D MX7_wipe [rf g 0] b I L (nI (tC t)) (nxWipe t) := by
  have hp := h.2.1
  refine Me.of [some (rf g 0), none] 1 rfl pf_X7_wipe (Nat.le_of_ble_eq_true rfl) ?_
  refine wq_bload_n 1 0 dX7_wipe_0 rfl rfl rfl ?_
  refine wq_getR 4 fl_X7_10 dX7_wipe_1 rfl rfl o_0 (rfl : (Tb _).2.2.2 0 0 = some 1) ?_
  refine wq_getI 7 fl_X7_81 dX7_wipe_4 rfl rfl o_1 ?_
  refine wq_istore_n 8 1 [_, _] dX7_wipe_7 rfl rfl rfl (Nat.le_of_ble_eq_true rfl) rfl ?_
  refine wq_bload_n 9 0 dX7_wipe_8 rfl rfl rfl ?_
  refine wq_getR 12 fl_X7_10 dX7_wipe_9 rfl rfl o_0 (rfl : (Tb _).2.2.2 0 0 = some 1) ?_
  refine wq_iconst 13 0 dX7_wipe_12 rfl (by decide) ?_
  refine wq_putI 16 fl_X7_81 dX7_wipe_13 rfl rfl rfl rfl rfl o_1 ?_
  refine wq_iload_n 17 1 dX7_wipe_16 rfl rfl rfl ?_
  refine ri .int dX7_wipe_17 rfl rfl ?_
  refine ⟨by rw [hp.2.1], ?_, fun z z1 _ => ⟨va_up_ne _ _ (by omega), rfl⟩⟩
  exact InvX_pad h (fun z z1 _ => va_up_ne _ _ z1) ⟨by omega, by rw [va_up_self, va_up_self]; rfl, fun j hj => absurd hj (Nat.not_lt_zero j), fun j hj => absurd hj (Nat.not_lt_zero j)⟩
set_option maxRecDepth 20000 in
theorem cx_fault (hD : 6 ≤ D) (h : InvX I L t) : CX g D MX7_fault [rf g 0] b I L (fltX (tG t) (tC t)) t := by
  refine Me.of [some (rf g 0)] 0 rfl pf_X7_fault (Nat.le_of_ble_eq_true rfl) ?_
  refine wq_bload_n 1 0 dX7_fault_0 rfl rfl rfl ?_
  refine wq_getR 4 fl_X7_10 dX7_fault_1 rfl rfl o_0 (rfl : (Tb _).2.2.2 0 0 = some 1) ?_
  refine cVi0 7 (sp_X4_faultPlace (by omega) h.2.1) ml_X7_84 mf_X4_faultPlace dX7_fault_4 rfl o_1 (by decide) rfl (Nat.le_of_ble_eq_true rfl) (by omega) ?_
  refine ri .int dX7_fault_7 rfl rfl ?_
  exact ⟨rfl, h, fun _ _ _ => ⟨rfl, rfl⟩⟩
theorem pos_up (sg : Nat → Nat) (i : Nat) : ∀ r, pos sg i + r ≤ pos sg (i + r)
  | 0 => Nat.le_refl _
  | r + 1 => by
    have := pos_up sg i r
    rw [← Nat.add_assoc i r 1, pos]
    omega
theorem ld_is {sg : Nat → Nat} {c n : Nat} (h1 : c ≤ pos sg n) (h2 : ∀ j, j < n → pos sg j < c) : ldN sg c = n := by
  refine lf_found (fun j hj => decide_eq_false (by have := h2 j hj; omega)) (decide_eq_true h1) ?_
  by_cases e : n = 0
  · omega
  · have := h2 (n - 1) (by omega)
    have p := pos_up sg 0 (n - 1)
    rw [Nat.zero_add] at p
    have : pos sg 0 = 0 := rfl
    omega
theorem ld_rows {sg : Nat → Nat} {c : Nat} (hc : c ≤ 60) (hs : ∀ j, j < c → sg j < 128) (hf : fltX sg c = -6) : ∀ j, pos sg j < c → 1 ≤ lnN (kopn (sg (pos sg j))) := fun j hj => by
  obtain ⟨m, hm, em, -, -⟩ := nf_row hc hs hf (j := j) (fun i hi => by
    have := pos_up sg i (j - i)
    rw [show i + (j - i) = j by omega] at this
    omega)
  rw [em]
  have : ∀ m, m < 7 → 1 ≤ lnN (nI m) := by decide +kernel
  exact this m hm
theorem ld_30 {sg : Nat → Nat} {c n : Nat} (hc : c ≤ 60) (hl : ∀ j, pos sg j < c → 1 ≤ lnN (kopn (sg (pos sg j)))) (h2 : ∀ j, j < n → pos sg j < c) : n ≤ 30 := by
  by_cases e : n = 0
  · omega
  · have := pos_ge sg (n - 1) (fun j hj => hl j (h2 j (by omega)))
    have := h2 (n - 1) (by omega)
    omega
theorem VT_load (h : VT t) (hp : tC t ≤ 60 ∧ ∀ j, j < tC t → tG t j < 128) : VT (nxLoad t) := by
  unfold nxLoad
  by_cases hf : fltX (tG t) (tC t) = -6
  · rw [if_pos hf]
    have hl := ld_rows hp.1 hp.2 hf
    have ex : ∃ n, tC t ≤ pos (tG t) n ∧ ∀ j, j < n → pos (tG t) j < tC t := by
      rcases lf_is (fun j => decide (tC t ≤ pos (tG t) j)) (tC t + 1) with ⟨q1, q2⟩ | ⟨q1, q2, q3⟩
      · have := q2 (tC t) (by omega)
        rw [decide_eq_false_iff_not] at this
        have p := pos_up (tG t) 0 (tC t)
        rw [Nat.zero_add] at p
        omega
      · exact ⟨_, of_decide_eq_true q2, fun j hj => by have := of_decide_eq_false (q3 j hj); omega⟩
    obtain ⟨n, n1, n2⟩ := ex
    rw [ld_is n1 n2]
    exact ⟨⟨h.1.1, h.1.2.1, h.1.2.2.1, ld_30 hp.1 hl n2, wf_pP hp.1 hp.2 hf n2⟩, h.2⟩
  · rw [if_neg hf]; exact h
set_option maxRecDepth 20000 in
theorem cx_load (hD : 8 ≤ D) (h : InvX I L t) : CX g D MX7_load [rf g 0] b I L (anLoad t) (nxLoad t) := by
  have hp := h.2.1
  have hs : ∀ j, j < tC t → tG t j < 128 := fun j hj => by have := (hp.2.2.2 j hj).2; omega
  have h3 : IsL 3 := Or.inl rfl
  refine Me.of [some (rf g 0)] 0 rfl pf_X7_load (Nat.le_of_ble_eq_true rfl) ?_
  by_cases hf : fltX (tG t) (tC t) = -6
  · have hl := ld_rows hp.1 hs hf
    refine wq_bload_n 1 0 dX7_load_0 rfl rfl rfl ?_
    refine wq_getR 4 fl_X7_10 dX7_load_1 rfl rfl o_0 (rfl : (Tb _).2.2.2 0 0 = some 1) ?_
    refine cVi0 7 (sp_X4_faultPlace (by omega) hp) ml_X7_84 mf_X4_faultPlace dX7_load_4 rfl o_1 (by decide) rfl (Nat.le_of_ble_eq_true rfl) (by omega) ?_
    refine wq_bipush 9 (-6) dX7_load_7 rfl (by decide) ?_
    refine wq_ic_eq 12 15 dX7_load_9 rfl (by decide) (fun c9 => ?_) (fun c9 => absurd hf c9)
    refine wq_bload_n 16 0 dX7_load_15 rfl rfl rfl ?_
    refine wq_getR 19 fl_X7_10 dX7_load_16 rfl rfl o_0 (rfl : (Tb _).2.2.2 0 0 = some 1) ?_
    refine wq_bload_n 20 0 dX7_load_19 rfl rfl rfl ?_
    refine wq_getR 23 fl_X7_19 dX7_load_20 rfl rfl o_0 (rfl : (Tb _).2.2.2 0 1 = some 3) ?_
    refine cVp1 26 (sp_X4_tellTo (by omega) h3 hp hl) ml_X7_88 mf_X4_tellTo dX7_load_23 rfl o_1 (by decide) rfl (Nat.le_of_ble_eq_true rfl) (by omega) ?_
    rintro _ b I1 L1 ⟨rfl, rfl, ⟨n, n1, n2, hL⟩, off⟩
    refine wq_bload_n 27 0 dX7_load_26 rfl rfl rfl ?_
    refine wq_getR 30 fl_X7_10 dX7_load_27 rfl rfl o_0 (rfl : (Tb _).2.2.2 0 0 = some 1) ?_
    refine wq_iconst 31 0 dX7_load_30 rfl (by decide) ?_
    refine wq_putI 34 fl_X7_81 dX7_load_31 rfl rfl rfl rfl rfl o_1 ?_
    refine wq_bload_n 35 0 dX7_load_34 rfl rfl rfl ?_
    refine cVv0 38 (sp_X7_forgetP (by omega)) ml_X7_92 mf_X7_forgetProgram dX7_load_35 rfl o_0 (by decide) rfl (Nat.le_of_ble_eq_true rfl) (by omega) ?_
    refine wq_bload_n 39 0 dX7_load_38 rfl rfl rfl ?_
    refine wq_getR 42 fl_X7_19 dX7_load_39 rfl rfl o_0 (rfl : (Tb _).2.2.2 0 1 = some 3) ?_
    refine wq_getI 45 fl_X7_95 dX7_load_42 rfl rfl o_3 ?_
    refine wq_gen (fun I2 L2 eI2 eL2 => ?_)
    refine ri .int dX7_load_45 rfl rfl ?_
    have ix : ∀ z, z ≠ 0 → z ≠ 1 → I2 z = I1 z := fun z z1 z2 => by rw [eI2, va_up_ne _ _ z1, va_up_ne _ _ z2]
    have n0 : I1 0 = I 0 := (off 0 (by decide)).1
    have i0 : I2 0 = va_up (va_up (va_up (va_up (I 0) 9 0) 11 0) 10 0) 12 0 := by rw [eI2, va_up_self, va_up_ne _ _ (by decide), n0]
    have i1 : I2 1 1 = 0 := by rw [eI2, va_up_ne _ _ (by decide), va_up_self, va_up_self]
    have hL2 : LR I2 L1 3 n (pP (tG t) (tC t)) := LR_keep hL (fun j hj => ix _ (by omega) (by omega)) (fun _ _ => rfl)
    have en := ld_is n1 n2
    have sm : ∀ u v, 8 ≤ u → Sm u v I L I2 L1 := fun u v hu x x1 _ => ⟨by rw [ix x (by omega) (by omega)]; exact (off x (by simp; omega)).1, (off x (by simp; omega)).2⟩
    obtain ⟨h1, h2, h3', h4, h5, h6, h7, h8, h9⟩ := h
    refine ⟨by rw [anLoad, if_pos hf, en, ← eI2, hL2.2.1], ?_, by rw [eL2]; exact sm _ _ (by omega)⟩
    rw [nxLoad, if_pos hf, en, eL2]
    exact ⟨⟨by rw [i0]; simp [va_up]; exact h1.1, by rw [i0]; simp [va_up]; exact h1.2⟩, ⟨by show 0 ≤ 60; omega, i1, fun j hj => absurd hj (Nat.not_lt_zero j), fun j hj => absurd hj (Nat.not_lt_zero j)⟩, hL2, Or.inl (by rw [i0]; simp [va_up]), Or.inl (by rw [i0]; simp [va_up]), Or.inl (by rw [i0]; simp [va_up]), Or.inl (by rw [i0]; simp [va_up]), XI_keep h8 (sm _ _ (by omega)), XI_keep h9 (sm _ _ (by omega))⟩
  · skip
    refine wq_bload_n 1 0 dX7_load_0 rfl rfl rfl ?_
    refine wq_getR 4 fl_X7_10 dX7_load_1 rfl rfl o_0 (rfl : (Tb _).2.2.2 0 0 = some 1) ?_
    refine cVi0 7 (sp_X4_faultPlace (by omega) hp) ml_X7_84 mf_X4_faultPlace dX7_load_4 rfl o_1 (by decide) rfl (Nat.le_of_ble_eq_true rfl) (by omega) ?_
    refine wq_bipush 9 (-6) dX7_load_7 rfl (by decide) ?_
    refine wq_ic_eq 12 15 dX7_load_9 rfl (by decide) (fun c9 => absurd c9 hf) (fun c9 => ?_)
    refine wq_bipush 14 (-5) dX7_load_12 rfl (by decide) ?_
    refine ri .int dX7_load_14 rfl rfl ?_
    exact ⟨by rw [anLoad, if_neg hf], by rw [nxLoad, if_neg hf]; exact h, fun _ _ _ => ⟨rfl, rfl⟩⟩
set_option maxRecDepth 20000 in
theorem cx_instruction (hD : 1 ≤ D) (h : InvX I L t) (i v : Int32) : CX g D MX7_instruction [rf g 0, .int i, .int v] b I L (anInstr t i v) t := by
  have hL := h.2.2.1
  have hn := hL.1
  have h3 : IsL 3 := Or.inl rfl
  refine Me.of [some (rf g 0), some (.int i), some (.int v)] 0 rfl pf_X7_instruction (Nat.le_of_ble_eq_true rfl) ?_
  refine wq_iload_n 1 1 dX7_instruction_0 rfl rfl rfl ?_
  refine wq_if_lt 4 15 dX7_instruction_1 rfl (by decide) (fun c1 => ?_) (fun c1 => ?_)
  · skip
    refine wq_iconst 16 (-1) dX7_instruction_15 rfl (by decide) ?_
    refine ri .int dX7_instruction_16 rfl rfl ?_
    exact ⟨by rw [anInstr, if_pos (Or.inl c1)], h, fun _ _ _ => ⟨rfl, rfl⟩⟩
  · skip
    refine wq_iload_n 5 1 dX7_instruction_4 rfl rfl rfl ?_
    refine wq_bload_n 6 0 dX7_instruction_5 rfl rfl rfl ?_
    refine wq_getR 9 fl_X7_19 dX7_instruction_6 rfl rfl o_0 (rfl : (Tb _).2.2.2 0 1 = some 3) ?_
    refine wq_getI 12 fl_X7_95 dX7_instruction_9 rfl rfl o_3 ?_
    refine wq_ic_lt 15 17 dX7_instruction_12 rfl (by decide) (fun c12 => ?_) (fun c12 => ?_)
    · skip
      refine wq_iload_n 18 2 dX7_instruction_17 rfl rfl rfl ?_
      refine wq_if_lt 21 26 dX7_instruction_18 rfl (by decide) (fun c18 => ?_) (fun c18 => ?_)
      · skip
        refine wq_bipush 28 (-2) dX7_instruction_26 rfl (by decide) ?_
        refine ri .int dX7_instruction_28 rfl rfl ?_
        rw [hL.2.1] at c12
        have ni : ¬ (i < 0 ∨ nI (tN t) ≤ i) := fun z => z.elim c1 (fun z => absurd c12 (Int32.not_lt.mpr z))
        exact ⟨by rw [anInstr, if_neg ni, if_pos (inM_lt c18)], h, fun _ _ _ => ⟨rfl, rfl⟩⟩
      · skip
        refine wq_iload_n 22 2 dX7_instruction_21 rfl rfl rfl ?_
        refine wq_iconst 23 3 dX7_instruction_22 rfl (by decide) ?_
        refine wq_ic_le 26 29 dX7_instruction_23 rfl (by decide) (fun c23 => ?_) (fun c23 => ?_)
        · skip
          rw [hL.2.1] at c12
          have ni : ¬ (i < 0 ∨ nI (tN t) ≤ i) := fun z => z.elim c1 (fun z => absurd c12 (Int32.not_lt.mpr z))
          obtain ⟨x, xn, ex⟩ := in_ix (by omega) c1 c12
          obtain ⟨y, y3, ey⟩ := in_ex (hi := 3) (by decide) c18 (Int32.not_lt.mpr c23)
          subst ex ey
          refine wq_bload_n 30 0 dX7_instruction_29 rfl rfl rfl ?_
          refine wq_getR 33 fl_X7_19 dX7_instruction_30 rfl rfl o_0 (rfl : (Tb _).2.2.2 0 1 = some 3) ?_
          refine wq_iload_n 34 1 dX7_instruction_33 rfl rfl rfl ?_
          refine wq_iload_n 35 2 dX7_instruction_34 rfl rfl rfl ?_
          refine cVi2 38 (sp_X2_partAt h3 hL.2.1 hn x y rfl rfl xn (by omega)) ml_X7_96 mf_X2_partAt dX7_instruction_35 rfl o_3 (by decide) rfl (Nat.le_of_ble_eq_true rfl) (by omega) ?_
          refine ri .int dX7_instruction_38 rfl rfl ?_
          exact ⟨by rw [anInstr, if_neg ni, if_neg (by rw [inM_in c18 (Int32.not_lt.mpr c23)]; decide), show cN (nI x) = x from nI_clamp (by omega), show cN (nI y) = y from nI_clamp (by omega)]; rw [hL.2.2.2.2.2.1 x xn y (by omega)], h, fun _ _ _ => ⟨rfl, rfl⟩⟩
        · skip
          refine wq_bipush 28 (-2) dX7_instruction_26 rfl (by decide) ?_
          refine ri .int dX7_instruction_28 rfl rfl ?_
          rw [hL.2.1] at c12
          have ni : ¬ (i < 0 ∨ nI (tN t) ≤ i) := fun z => z.elim c1 (fun z => absurd c12 (Int32.not_lt.mpr z))
          exact ⟨by rw [anInstr, if_neg ni, if_pos (inM_gt (Int32.not_le.mp c23))], h, fun _ _ _ => ⟨rfl, rfl⟩⟩
    · skip
      refine wq_iconst 16 (-1) dX7_instruction_15 rfl (by decide) ?_
      refine ri .int dX7_instruction_16 rfl rfl ?_
      rw [hL.2.1] at c12
      exact ⟨by rw [anInstr, if_pos (Or.inr (Int32.not_lt.mp c12))], h, fun _ _ _ => ⟨rfl, rfl⟩⟩
set_option maxRecDepth 20000 in
theorem cx_told (h : InvX I L t) (v : Int32) : CX g D MX7_told [rf g 0, .int v] b I L (anTold t v) t := by
  have hL := h.2.2.1
  refine Me.of [some (rf g 0), some (.int v)] 0 rfl pf_X7_told (Nat.le_of_ble_eq_true rfl) ?_
  refine wq_iload_n 1 1 dX7_told_0 rfl rfl rfl ?_
  by_cases c0 : v = 0
  · subst c0
    refine wq_tabIn 40 dX7_told_1 (by decide) (by decide) rfl (by decide) ?_
    refine wq_bload_n 41 0 dX7_told_40 rfl rfl rfl ?_
    refine wq_getR 44 fl_X7_10 dX7_told_41 rfl rfl o_0 (rfl : (Tb _).2.2.2 0 0 = some 1) ?_
    refine wq_getI 47 fl_X7_81 dX7_told_44 rfl rfl o_1 ?_
    refine ri .int dX7_told_47 rfl rfl ?_
    exact ⟨by rw [anTold, if_pos rfl, h.2.1.2.1], h, fun _ _ _ => ⟨rfl, rfl⟩⟩
  by_cases c1 : v = 1
  · subst c1
    refine wq_tabIn 48 dX7_told_1 (by decide) (by decide) rfl (by decide) ?_
    refine wq_bload_n 49 0 dX7_told_48 rfl rfl rfl ?_
    refine wq_getR 52 fl_X7_19 dX7_told_49 rfl rfl o_0 (rfl : (Tb _).2.2.2 0 1 = some 3) ?_
    refine wq_getI 55 fl_X7_95 dX7_told_52 rfl rfl o_3 ?_
    refine ri .int dX7_told_55 rfl rfl ?_
    exact ⟨by rw [anTold, if_neg (by decide), if_pos rfl, hL.2.1], h, fun _ _ _ => ⟨rfl, rfl⟩⟩
  by_cases c2 : v = 2
  · subst c2
    refine wq_tabIn 56 dX7_told_1 (by decide) (by decide) rfl (by decide) ?_
    refine wq_bload_n 57 0 dX7_told_56 rfl rfl rfl ?_
    refine wq_getI 60 fl_X7_53 dX7_told_57 rfl rfl o_0 ?_
    refine ri .int dX7_told_60 rfl rfl ?_
    exact ⟨by rw [anTold, if_neg (by decide), if_neg (by decide), if_pos rfl, h.1.1], h, fun _ _ _ => ⟨rfl, rfl⟩⟩
  by_cases c3 : v = 3
  · subst c3
    refine wq_tabIn 61 dX7_told_1 (by decide) (by decide) rfl (by decide) ?_
    refine wq_bload_n 62 0 dX7_told_61 rfl rfl rfl ?_
    refine wq_getI 65 fl_X7_57 dX7_told_62 rfl rfl o_0 ?_
    refine ri .int dX7_told_65 rfl rfl ?_
    exact ⟨by rw [anTold, if_neg (by decide), if_neg (by decide), if_neg (by decide), if_pos rfl, h.1.2], h, fun _ _ _ => ⟨rfl, rfl⟩⟩
  by_cases c4 : v = 4
  · subst c4
    refine wq_tabIn 66 dX7_told_1 (by decide) (by decide) rfl (by decide) ?_
    refine wq_bload_n 67 0 dX7_told_66 rfl rfl rfl ?_
    refine wq_getR 70 fl_X7_19 dX7_told_67 rfl rfl o_0 (rfl : (Tb _).2.2.2 0 1 = some 3) ?_
    refine wq_getL 73 fl_X7_162 dX7_told_70 rfl rfl o_3 ?_
    refine wq_l2i 74 dX7_told_73 rfl ?_
    refine ri .int dX7_told_74 rfl rfl ?_
    exact ⟨by rw [anTold, if_neg (by decide), if_neg (by decide), if_neg (by decide), if_neg (by decide), if_pos rfl, hL.2.2.2.1], h, fun _ _ _ => ⟨rfl, rfl⟩⟩
  by_cases c5 : v = 5
  · subst c5
    refine wq_tabIn 75 dX7_told_1 (by decide) (by decide) rfl (by decide) ?_
    refine wq_bload_n 76 0 dX7_told_75 rfl rfl rfl ?_
    refine wq_getR 79 fl_X7_19 dX7_told_76 rfl rfl o_0 (rfl : (Tb _).2.2.2 0 1 = some 3) ?_
    refine wq_getI 82 fl_X7_194 dX7_told_79 rfl rfl o_3 ?_
    refine ri .int dX7_told_82 rfl rfl ?_
    exact ⟨by rw [anTold, if_neg (by decide), if_neg (by decide), if_neg (by decide), if_neg (by decide), if_neg (by decide), if_pos rfl, hL.2.2.1], h, fun _ _ _ => ⟨rfl, rfl⟩⟩
  have hout : v.toInt < 0 ∨ 5 < v.toInt := by
    rcases pk_ix v (n := 6) (by decide) with q | q | ⟨x, hx, rfl⟩
    · exact Or.inl (Int32.lt_iff_toInt_lt.mp q)
    · have := Int32.le_iff_toInt_le.mp q
      have e6 : (nI 6).toInt = 6 := rfl
      exact Or.inr (by omega)
    · exfalso
      have : x = 0 ∨ x = 1 ∨ x = 2 ∨ x = 3 ∨ x = 4 ∨ x = 5 := by omega
      rcases this with rfl | rfl | rfl | rfl | rfl | rfl
      · exact c0 rfl
      · exact c1 rfl
      · exact c2 rfl
      · exact c3 rfl
      · exact c4 rfl
      · exact c5 rfl
  refine wq_tabOut 83 dX7_told_1 hout (by decide) ?_
  refine wq_bipush 85 (-2) dX7_told_83 rfl (by decide) ?_
  refine ri .int dX7_told_85 rfl rfl ?_
  exact ⟨by rw [anTold, if_neg c0, if_neg c1, if_neg c2, if_neg c3, if_neg c4, if_neg c5], h, fun _ _ _ => ⟨rfl, rfl⟩⟩
end Calls
