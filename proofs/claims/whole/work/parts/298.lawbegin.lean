/-! THE LAW's beginning: both sides are made -/
theorem Rl_out {x : Nat} (h : 103 ≤ x) : Rl false x = fun _ => none := Rl_none (by rw [List.getD_eq_getElem?_getD, List.getElem?_eq_none (show (RlT false).length ≤ x from h)]; rfl)
def t00 : TS := (3, 0, 0, fun _ => 0, 0, fun _ _ => 0, (false, 0, 0, 0, fun _ _ => 0), (false, 0, 0, 0, fun _ _ => 0))
theorem VT_00 : VT t00 := ⟨⟨by decide, by decide, by decide, by decide, fun i hi => absurd hi (Nat.not_lt_zero _)⟩, fun h => (by cases h), fun h => (by cases h)⟩
theorem VX_00 {I : IM} {L : LM} (f1 : I 0 7 = 3) (f2 : I 0 8 = 0 ∧ I 0 9 = 0 ∧ I 0 10 = 0 ∧ I 0 11 = 0 ∧ I 0 12 = 0) (f3 : I 1 1 = 0) (f4 : I 3 4 = 0 ∧ I 3 5 = 0 ∧ L 3 6 = 0 ∧ I 3 7 = 4) (f5 : I 59 3 = 0) (f6 : I 65 3 = 0) : InvX I L t00 := by
  refine ⟨⟨f1, f2.1⟩, ⟨by decide, f3, fun j hj => absurd hj (Nat.not_lt_zero _), fun j hj => absurd hj (Nat.not_lt_zero _)⟩, ⟨by decide, f4.1, ?_, ?_, ?_, fun j hj => absurd hj (Nat.not_lt_zero _), fun j hj => absurd hj (Nat.not_lt_zero _), fun j hj => absurd hj (Nat.not_lt_zero _), fun f _ hj => absurd hj (Nat.not_lt_zero _)⟩, Or.inl f2.2.1, Or.inl f2.2.2.1, Or.inl f2.2.2.2.1, Or.inl f2.2.2.2.2, ⟨f5, fun h => (by cases h)⟩, ⟨f6, fun h => (by cases h)⟩⟩
  · exact f4.2.1
  · exact f4.2.2.1
  · exact f4.2.2.2
theorem VM_00 {I : IM} (e0 : I 71 0 = 3) (ez : ∀ z, z ≠ 0 → I 71 z = 0) (e2 : Zr 72 I 0) : InvM I t00 := by
  refine ⟨e0, ez 1 (by decide), ez 34 (by decide), ⟨by decide, ez 7 (by decide), fun j hj => absurd hj (Nat.not_lt_zero _), fun j hj => absurd hj (Nat.not_lt_zero _)⟩, ⟨by decide, ez 6 (by decide), fun j hj => absurd hj (Nat.not_lt_zero _)⟩, ⟨?_, fun h => (by cases h)⟩, ⟨?_, fun h => (by cases h)⟩⟩
  · rw [e2 102 (by decide)]; rfl
  · rw [e2 102 (by decide)]; rfl
set_option maxRecDepth 20000 in
set_option maxHeartbeats 4000000 in
theorem law_begin {g : Gl} {b L : Nat} {xs : Nat → Int32} {nm : String} (hL : L ≤ 1536) : Wp (KL g b L xs nm) (0, 0, 0, fun _ _ => none) 0 [some (.ref b), none, none, none] [] (fun _ _ => 0) (fun _ _ => 0) := by
  refine wq_new 3 7 cl_L_7 in_X7 it_X7 dL_law_0 rfl (by decide) rfl (Nat.le_of_ble_eq_true rfl) (Nat.le_of_ble_eq_true rfl) rfl rfl rfl ?_
  refine wq_dup 4 dL_law_3 rfl rfl ?_
  refine wq_callI 7 (As := []) (in_7_0 (D := 13) (by decide) (fun _ _ => rfl) (fun _ _ => rfl) (fun _ _ => rfl)) ml_L_9 mf_X7_init dL_law_4 rfl rfl (Nat.le_of_ble_eq_true rfl) (Nat.le_of_ble_eq_true rfl) (Nat.le_of_ble_eq_true rfl) (Nat.le_of_ble_eq_true rfl) (Nat.le_of_ble_eq_true rfl) (fun r1 n1 R1 I1 L1 hr1 => ?_)
  obtain ⟨rfl, ⟨rfl, zr1, zi1, zl1, rg1, -⟩, f1, f2, f3, f4, f5, f6⟩ := hr1
  refine wq_bstore_n 8 1 [_, _, _, _] dL_law_7 rfl rfl rfl (Nat.le_of_ble_eq_true rfl) rfl ?_
  refine wq_new 11 8 cl_L_10 in_X8 it_X8 dL_law_8 rfl (by decide) rfl (Nat.le_of_ble_eq_true rfl) (Nat.le_of_ble_eq_true rfl) (zr1 71 (by decide)) (zi1 71 (by decide)) (zl1 71 (by decide)) ?_
  refine wq_dup 12 dL_law_11 rfl rfl ?_
  refine wq_callI 15 (As := []) (in_8_71 (D := 13) (by decide) zr1 zi1 zl1) ml_L_12 mf_X8_init dL_law_12 rfl rfl (Nat.le_of_ble_eq_true rfl) (Nat.le_of_ble_eq_true rfl) (Nat.le_of_ble_eq_true rfl) (Nat.le_of_ble_eq_true rfl) (Nat.le_of_ble_eq_true rfl) (fun r2 n2 R2 I2 L2 hr2 => ?_)
  obtain ⟨rfl, ⟨rfl, zr2, zi2, zl2, rg2, bl2⟩, e0, ez, e2⟩ := hr2
  refine wq_bstore_n 16 2 [_, _, _, _] dL_law_15 rfl rfl rfl (Nat.le_of_ble_eq_true rfl) rfl ?_
  refine wq_iconst 17 0 dL_law_16 rfl (by decide) ?_
  refine wq_istore_n 18 3 [_, _, _, _] dL_law_17 rfl rfl rfl (Nat.le_of_ble_eq_true rfl) rfl ?_
  have hR : R2 = Rl false := by
    funext x
    by_cases h1 : x < 71
    · rw [(bl2 x h1).1]; exact rg1 x (Nat.zero_le _) h1
    · by_cases h2 : x < 103
      · exact rg2 x (by omega) h2
      · rw [zr2 x (by omega), Rl_out (by omega)]
  subst hR
  have eI : ∀ x, x < 71 → I2 x = I1 x := fun x hx => (bl2 x hx).2.1
  have eL : ∀ x, x < 71 → L2 x = L1 x := fun x hx => (bl2 x hx).2.2
  refine law_loop hL (Nat.le_of_ble_eq_true rfl) (Nat.le_of_ble_eq_true rfl) L 0 false I2 L2 t00 (Nat.le_add_left _ _) (Nat.zero_le _) (VX_00 ?_ ?_ ?_ ?_ ?_ ?_) (VM_00 e0 ez e2) VT_00
  · rw [eI 0 (by decide)]; exact f1
  · rw [eI 0 (by decide)]; exact f2
  · rw [eI 1 (by decide)]; exact f3
  · rw [eI 3 (by decide), eL 3 (by decide)]; exact f4
  · rw [eI 59 (by decide)]; exact f5
  · rw [eI 65 (by decide)]; exact f6
