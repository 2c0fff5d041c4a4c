/-! Allotment: spill -/
theorem swapR (b : Bool) : va_up (va_up (Rl b) 14 (va_up (Rl b 14) 6 (some (bif b then 40 else 45)))) 14 (va_up ((va_up (Rl b) 14 (va_up (Rl b 14) 6 (some (bif b then 40 else 45)))) 14) 7 (some (bif b then 45 else 40))) = Rl (!b) := by
  funext a k
  by_cases e : a = 14
  · subst e
    rw [va_up_self, va_up_self]
    by_cases e7 : k = 7
    · subst e7
      rw [va_up_self]
      cases b <;> rfl
    · rw [va_up_ne _ _ e7]
      by_cases e6 : k = 6
      · subst e6
        rw [va_up_self]
        cases b <;> rfl
      · rw [va_up_ne _ _ e6]
        rcases k with _ | _ | _ | _ | _ | _ | _ | _ | k
        · rfl
        · rfl
        · rfl
        · rfl
        · rfl
        · rfl
        · exact absurd rfl e6
        · exact absurd rfl e7
        · rfl
  · rw [va_up_ne _ _ e, va_up_ne _ _ e]
    by_cases c : a < 103
    · have hb : ∀ a, a < 103 → a ≠ 14 → (RlT b).getD a [] = (RlT (!b)).getD a [] := by cases b <;> decide +kernel
      show ((RlT b).getD a []).getD k none = ((RlT (!b)).getD a []).getD k none
      rw [hb a c e]
    · have hl : ∀ b, (RlT b).length = 103 := fun b => by cases b <;> rfl
      have hg : ∀ b, (RlT b).getD a [] = [] := fun b => by rw [List.getD_eq_getElem?_getD, List.getElem?_eq_none (by rw [hl b]; omega)]; rfl
      show ((RlT b).getD a []).getD k none = ((RlT (!b)).getD a []).getD k none
      rw [hg b, hg (!b)]
theorem nw_not (b : Bool) : nwA (!b) = nxA b := by cases b <;> rfl
theorem slA_gs {k w : Nat} {p : Pg} {n sl : Nat} {I : IM} (x : Nat) : gsF I (Nms p n) (spS k w p n) (aA (endA k w p n)) sl (fun _ => true) x = if isS k w p n x = true then slA k w p n sl x else I 37 x := by
  by_cases c : isS k w p n x = true
  · rw [if_pos c, slA, if_pos c]
    exact gsF_on (by rw [Bool.and_true]; exact c)
  · rw [if_neg c]
    exact gsF_off (by rw [Bool.and_true]; exact Bool.eq_false_iff.mpr c)
/-- what spill may change -/
def FP (b : Bool) (I : IM) (L : LM) (I' : IM) (L' : LM) : Prop := (∀ x, x ≠ 14 → x ≠ 37 → x ≠ 39 → x ∉ fL (nxA b) → I' x = I x) ∧ (∀ z, z ≠ 11 → z ≠ 12 → I' 14 z = I 14 z) ∧ ∀ x, x ∉ fL (nxA b) → L' x = L x
set_option maxRecDepth 20000 in
set_option maxHeartbeats 4000000 in
theorem sp_X0_spill {g : Gl} {D : Nat} {b : Bool} {I : IM} {L : LM} {n k w sl nw : Nat} {p : Pg} (hD : 8 ≤ D) (h : LR I L (nwA b) n p) (hw : WfB (16 + nw) p n) (hA : ∀ x, x < 64 → I 25 x = nI (aA (endA k w p n) x)) (ga : ∀ x, x < 64 → aA (endA k w p n) x ≤ x) (hS : L 21 17 = spS k w p n) (h11 : I 14 11 = nI sl) (h12 : I 14 12 = nI (16 + nw)) (hnw : nw ≤ 48) (hO : ∀ x, x < 64 → tb (Nms p n) x = true → I 37 x = -6) : Me g D MX0_spill [rf g 14] b I L (fun r b' I' L' => FP b I L I' L' ∧ I' 14 11 = nI (sl + cntF (tb (spS k w p n)) 64) ∧ (∀ x, x < 64 → I' 37 x = if isS k w p n x = true then slA k w p n sl x else I 37 x) ∧ ((okS (wrA k w p n sl nw) ∧ r = some (.int 1) ∧ b' = (!b) ∧ LR I' L' (nwA b') (wrA k w p n sl nw).2.1 (wrA k w p n sl nw).1 ∧ I' 14 12 = nI (16 + (wrA k w p n sl nw).2.2)) ∨ (¬ okS (wrA k w p n sl nw) ∧ r = some (.int 0) ∧ b' = b))) := by
  have hn := h.1
  have n14' := n14 b
  refine Me.of [some (rf g 14), none] 1 rfl pf_X0_spill (Nat.le_of_ble_eq_true rfl) ?_
  refine wq_bload_n 1 0 dX0_spill_0 rfl rfl rfl ?_
  refine cVp0 4 (sp_X0_giveSlots (N := Nms p n) (by omega) hS h.2.2.2.1 hA ga h11) ml_X0_117 mf_X0_giveSlots dX0_spill_1 rfl o_14 (by decide) rfl (Nat.le_of_ble_eq_true rfl) (by omega) ?_
  rintro _ b I1 L' ⟨rfl, rfl, rfl, G1, G2, G3, G4⟩
  refine wq_bload_n 5 0 dX0_spill_4 rfl rfl rfl ?_
  refine wq_getR 8 fl_X0_45 dX0_spill_5 rfl rfl o_14 (rfl : (Tb b).2.2.2 14 7 = some (nxA b)) ?_
  refine cVv0 11 (sp_X2_clear (nxA_l b)) ml_X0_120 mf_X2_clear dX0_spill_8 rfl (L_ob (nxA_l b)) (by decide) rfl (Nat.le_of_ble_eq_true rfl) (by omega) ?_
  refine wq_iconst 12 0 dX0_spill_11 rfl (by decide) ?_
  refine wq_istore_n 13 1 [_, _] dX0_spill_12 rfl rfl rfl (Nat.le_of_ble_eq_true rfl) rfl ?_
  show Wp _ (Tb b) 13 _ [] (clI I1 (nxA b)) (clL L' (nxA b))
  have F1 : ∀ x, x < 64 → I1 37 x = if isS k w p n x = true then slA k w p n sl x else I 37 x := fun x hx => by rw [G1 x hx, slA_gs]
  have hoffc := Off_clear (I := I1) (L := L') (nxA b)
  have hL2 : LR (clI I1 (nxA b)) (clL L' (nxA b)) (nwA b) n p := LR_keep (LR_keep h (fun j hj => G4 _ (nx_ne b hj).2.2.2.1 (nx_ne b hj).2.2.2.2.2.1) (fun _ _ => rfl)) (fun j hj => (hoffc _ (nx_ne b hj).2.2.2.2.2.2).1) (fun j hj => (hoffc _ (nx_ne b hj).2.2.2.2.2.2).2)
  have hX2 : LRc (clI I1 (nxA b)) (clL L' (nxA b)) (nxA b) 0 (fun _ _ => 0) := LR_clear (nxA b) _
  have F2 : ∀ x, x < 64 → tb (Nms p n) x = true → clI I1 (nxA b) 37 x = slA k w p n sl x := fun x hx hnm => by
    rw [(hoffc 37 n14'.2.2).1, F1 x hx]
    by_cases c : isS k w p n x = true
    · rw [if_pos c]
    · rw [if_neg c, slA, if_neg c]; exact hO x hx hnm
  have F3 : clI I1 (nxA b) 14 12 = nI (16 + nw) := by rw [(hoffc 14 n14'.1).1, G3 12 (by decide)]; exact h12
  have F4 : clI I1 (nxA b) 14 11 = nI (sl + cntF (tb (spS k w p n)) 64) := by rw [(hoffc 14 n14'.1).1]; exact G2
  have F5 : FP b I L' (clI I1 (nxA b)) (clL L' (nxA b)) := ⟨fun x x1 x2 x3 x4 => by rw [(hoffc x x4).1]; exact G4 x x1 x2, fun z z1 z2 => by rw [(hoffc 14 n14'.1).1]; exact G3 z z1, fun x hx => (hoffc x hx).2⟩
  have F6 : ∀ x, x < 64 → clI I1 (nxA b) 37 x = if isS k w p n x = true then slA k w p n sl x else I 37 x := fun x hx => by rw [(hoffc 37 n14'.2.2).1]; exact F1 x hx
  clear G1 G2 G3 G4 F1
  generalize clI I1 (nxA b) = I2 at *
  generalize clL L' (nxA b) = L2 at *
  have lp : ∀ r i I3 L3, i + r = n → okS (rwA (slA k w p n sl) p i (fun _ _ => 0, 0, nw)) → LRc I3 L3 (nxA b) (rwA (slA k w p n sl) p i (fun _ _ => 0, 0, nw)).2.1 (rwA (slA k w p n sl) p i (fun _ _ => 0, 0, nw)).1 → I3 14 12 = nI (16 + (rwA (slA k w p n sl) p i (fun _ _ => 0, 0, nw)).2.2) → FW b I2 L2 I3 L3 → Wp (Kn g D MX0_spill (fun r b' I' L'_1 => FP b I L' I' L'_1 ∧ I' 14 11 = nI (sl + cntF (tb (spS k w p n)) 64) ∧ (∀ x, x < 64 → I' 37 x = if isS k w p n x = true then slA k w p n sl x else I 37 x) ∧ ((okS (wrA k w p n sl nw) ∧ r = some (.int 1) ∧ b' = (!b) ∧ LR I' L'_1 (nwA b') (wrA k w p n sl nw).2.1 (wrA k w p n sl nw).1 ∧ I' 14 12 = nI (16 + (wrA k w p n sl nw).2.2)) ∨ (¬ okS (wrA k w p n sl nw) ∧ r = some (.int 0) ∧ b' = b)))) (Tb b) 13 [some (rf g 14), some (.int (nI i))] [] I3 L3 := by
    intro r
    have fin : ∀ I3 L3, FW b I2 L2 I3 L3 → FP b I L' I3 L3 ∧ I3 14 11 = nI (sl + cntF (tb (spS k w p n)) 64) ∧ (∀ x, x < 64 → I3 37 x = if isS k w p n x = true then slA k w p n sl x else I 37 x) := fun I3 L3 fw =>
      ⟨⟨fun x x1 x2 x3 x4 => (fw.1 x x1 x3 x4).trans (F5.1 x x1 x2 x3 x4), fun z z1 z2 => (fw.2.1 z z2).trans (F5.2.1 z z1 z2), fun x hx => (fw.2.2 x hx).trans (F5.2.2 x hx)⟩, by rw [fw.2.1 11 (by decide)]; exact F4, fun x hx => by rw [fw.1 37 (by decide) (by decide) n14'.2.2]; exact F6 x hx⟩
    induction r with
    | zero =>
      intro i I3 L3 hi hok hX h12' fw
      have ei : i = n := by omega
      subst ei
      have hl3 := FW_nw fw hL2
      have hc4 : I3 (bif b then 45 else 40) 4 = nI _ := hl3.2.1
      obtain ⟨q1, q2, q3⟩ := fin I3 L3 fw
      refine wq_iload_n 14 1 dX0_spill_13 rfl rfl rfl ?_
      refine wq_bload_n 15 0 dX0_spill_14 rfl rfl rfl ?_
      refine wq_getR 18 fl_X0_42 dX0_spill_15 rfl rfl o_14 (rfl : (Tb b).2.2.2 14 6 = some (nwA b)) ?_
      refine wq_getI 21 fl_X0_123 dX0_spill_18 rfl rfl (L_ob (nwA_l b)) ?_
      refine wq_ic_ge 24 40 dX0_spill_21 rfl (by decide) (fun c21 => ?_) (fun c21 => absurd (by rw [hc4]; exact nI_le (Nat.le_refl _) (by omega)) c21)
      refine wq_bload_n 41 0 dX0_spill_40 rfl rfl rfl ?_
      refine wq_getR 44 fl_X0_42 dX0_spill_41 rfl rfl o_14 (rfl : (Tb b).2.2.2 14 6 = some (nwA b)) ?_
      refine wq_bstore_n 45 1 [_, _] dX0_spill_44 rfl rfl rfl (Nat.le_of_ble_eq_true rfl) rfl ?_
      refine wq_bload_n 46 0 dX0_spill_45 rfl rfl rfl ?_
      refine wq_bload_n 47 0 dX0_spill_46 rfl rfl rfl ?_
      refine wq_getR 50 fl_X0_45 dX0_spill_47 rfl rfl o_14 (rfl : (Tb b).2.2.2 14 7 = some (nxA b)) ?_
      refine wq_putR 53 fl_X0_42 dX0_spill_50 rfl rfl (Or.inl rfl) (fun _ => ⟨rfl, rfl⟩) o_14 ?_
      refine wq_bload_n 54 0 dX0_spill_53 rfl rfl rfl ?_
      refine wq_bload_n 55 1 dX0_spill_54 rfl rfl rfl ?_
      refine wq_putR 58 fl_X0_45 dX0_spill_55 rfl rfl (Or.inl rfl) (fun _ => ⟨rfl, rfl⟩) ⟨Nat.le_of_ble_eq_true rfl, rfl⟩ ?_
      rw [swapR b]
      refine wq_iconst 59 1 dX0_spill_58 rfl (by decide) ?_
      refine ri .boolean dX0_spill_59 rfl rfl ?_
      exact ⟨q1, q2, q3, Or.inl ⟨hok, rfl, rfl, by rw [nw_not]; exact hX.w, h12'⟩⟩
    | succ r ih =>
      intro i I3 L3 hi hok hX h12' fw
      have hl3 := FW_nw fw hL2
      have hc4 : I3 (bif b then 45 else 40) 4 = nI _ := hl3.2.1
      have F2' : ∀ x, x < 64 → tb (Nms p n) x = true → I3 37 x = slA k w p n sl x := fun x hx hnm => by rw [fw.1 37 (by decide) (by decide) n14'.2.2]; exact F2 x hx hnm
      have mono := le_rw (slA k w p n sl) p (fun _ _ => 0, 0, nw) (i + 1) (n - (i + 1))
      rw [show i + 1 + (n - (i + 1)) = n by omega] at mono
      refine wq_iload_n 14 1 dX0_spill_13 rfl rfl rfl ?_
      refine wq_bload_n 15 0 dX0_spill_14 rfl rfl rfl ?_
      refine wq_getR 18 fl_X0_42 dX0_spill_15 rfl rfl o_14 (rfl : (Tb b).2.2.2 14 6 = some (nwA b)) ?_
      refine wq_getI 21 fl_X0_123 dX0_spill_18 rfl rfl (L_ob (nwA_l b)) ?_
      refine wq_ic_ge 24 40 dX0_spill_21 rfl (by decide) (fun c21 => absurd c21 (by rw [hc4]; exact nI_ge (by omega) (by omega))) (fun c21 => ?_)
      refine wq_bload_n 25 0 dX0_spill_24 rfl rfl rfl ?_
      refine wq_iload_n 26 1 dX0_spill_25 rfl rfl rfl ?_
      refine cVp1 29 (sp_X0_rewrite (by omega) hl3 hw F2' hX h12' hok i rfl (by omega)) ml_X0_126 mf_X0_rewrite dX0_spill_26 rfl o_14 (by decide) rfl (Nat.le_of_ble_eq_true rfl) (by omega) ?_
      rintro _ b I4 L4 ⟨rfl, fw4, ⟨o1, rfl, o2, o3⟩ | ⟨o1, rfl⟩⟩
      rotate_left
      · obtain ⟨q1, q2, q3⟩ := fin I4 L4 (fw.trans fw4)
        refine wq_if_ne 32 34 dX0_spill_29 rfl (by decide) (fun c => absurd rfl c) (fun c => ?_)
        refine wq_iconst 33 0 dX0_spill_32 rfl (by decide) ?_
        refine ri .boolean dX0_spill_33 rfl rfl ?_
        exact ⟨q1, q2, q3, Or.inr ⟨fun z => o1 (okS_le mono z), rfl, rfl⟩⟩
      refine wq_if_ne 32 34 dX0_spill_29 rfl (by decide) (fun c29 => ?_) (fun c29 => absurd c29 (by decide))
      refine wq_iinc 37 (_ + 1) [_, _] dX0_spill_34 rfl rfl (inc1 _) rfl (Nat.le_of_ble_eq_true rfl) rfl ?_
      refine wq_goto 13 dX0_spill_37 (by decide) ?_
      rw [← nI_succ]
      exact ih (i + 1) I4 L4 (by omega) o1 o2 o3 (fw.trans fw4)
  exact lp n 0 I2 L2 (by omega) ⟨Nat.zero_le _, hnw⟩ hX2 F3 (FW.refl b I2 L2)
