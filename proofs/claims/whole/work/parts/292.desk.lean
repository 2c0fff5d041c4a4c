/-! THE CONSTRUCTOR of the class -/
set_option maxRecDepth 20000 in
set_option maxHeartbeats 8000000 in
theorem in_7_0 {g : Gl} {D : Nat} {R0 : RM} {I0 : IM} {L0 : LM} (hD : 3 ≤ D) (zr0 : Zr 0 R0 none) (zi0 : Zr 0 I0 0) (zl0 : Zr 0 L0 0) : Mp g D 70 6565 MX7_init [rf g 0] 1 R0 I0 L0 (fun r n' R' I' L' => r = none ∧ Pc 0 71 R0 I0 L0 n' R' I' L' ∧ I' 0 7 = 3 ∧ (I' 0 8 = 0 ∧ I' 0 9 = 0 ∧ I' 0 10 = 0 ∧ I' 0 11 = 0 ∧ I' 0 12 = 0) ∧ I' 1 1 = 0 ∧ (I' 3 4 = 0 ∧ I' 3 5 = 0 ∧ L' 3 6 = 0 ∧ I' 3 7 = 4) ∧ I' 59 3 = 0 ∧ I' 65 3 = 0) := by
  refine Mp.of 1 pf_X7_init (Nat.le_of_ble_eq_true rfl) ?_
  show Wp _ (0, 0, 1, R0) 0 [some (rf g 0), none] [] I0 L0
  have ra0 : R0 0 = fun _ => none := zr0 0 (Nat.le_refl _)
  have ia0 : I0 0 = fun _ => 0 := zi0 0 (Nat.le_refl _)
  have la0 : L0 0 = fun _ => 0 := zl0 0 (Nat.le_refl _)
  replace zr0 := zr0.mono (Nat.le_succ _)
  replace zi0 := zi0.mono (Nat.le_succ _)
  replace zl0 := zl0.mono (Nat.le_succ _)
  refine wq_bload_n 1 0 dX7_init_0 rfl rfl rfl ?_
  refine wq_objInit 4 1 ol_X7_1 w_oinst w_ocode dX7_init_1 rfl (show 1 ≤ D by omega) (show 0 + 12 ≤ 38 * D by omega) ?_
  refine wq_bload_n 5 0 dX7_init_4 rfl rfl rfl ?_
  refine wq_genR (fun R1 I1 L1 eR1 eI1 eL1 => ?_)
  have ra1 : R1 0 = (fun _ => none) := by rw [eR1]; exact ra0
  have zr1 : Zr 1 R1 none := by rw [eR1]; exact zr0
  have bR1 : ∀ x, x ≠ 0 → R1 x = R0 x := fun x hx => by rw [eR1]
  have ia1 : I1 0 = (fun _ => 0) := by rw [eI1]; exact ia0
  have zi1 : Zr 1 I1 0 := by rw [eI1]; exact zi0
  have bI1 : ∀ x, x ≠ 0 → I1 x = I0 x := fun x hx => by rw [eI1]
  have la1 : L1 0 = (fun _ => 0) := by rw [eL1]; exact la0
  have zl1 : Zr 1 L1 0 := by rw [eL1]; exact zl0
  have bL1 : ∀ x, x ≠ 0 → L1 x = L0 x := fun x hx => by rw [eL1]
  clear eR1 eI1 eL1
  have er1 := zr1 1 (by decide)
  have ei1 := zi1 1 (by decide)
  have el1 := zl1 1 (by decide)
  refine wq_new 8 4 cl_X7_7 in_X4 it_X4 dX7_init_5 rfl (by decide) rfl (Nat.le_of_ble_eq_true rfl) (Nat.le_of_ble_eq_true rfl) er1 ei1 el1 ?_
  refine wq_dup 9 dX7_init_8 rfl rfl ?_
  have zrp1 : Zr 1 R1 none := fun x hx => by
    by_cases h : x = 1
    · rw [h]; exact er1
    · exact zr1 x (by omega)
  have zip1 : Zr 1 I1 0 := fun x hx => by
    by_cases h : x = 1
    · rw [h]; exact ei1
    · exact zi1 x (by omega)
  have zlp1 : Zr 1 L1 0 := fun x hx => by
    by_cases h : x = 1
    · rw [h]; exact el1
    · exact zl1 x (by omega)
  refine wq_callI 12 (As := []) (in_4_1 (D := D - 1) (by omega) zrp1 zip1 zlp1) ml_X7_9 mf_X4_init dX7_init_9 rfl rfl (Nat.le_of_ble_eq_true rfl) (show D - 1 + 1 ≤ D by omega) (show 38 * (D - 1) + 38 ≤ 38 * D by omega) (Nat.le_of_ble_eq_true rfl) (Nat.le_of_ble_eq_true rfl) (fun r2 n2 R2 I2 L2 hr2 => ?_)
  obtain ⟨rfl, ⟨rfl, zr2, zi2, zl2, rg2, bl2⟩, fc2⟩ := hr2
  have bl2 : ∀ x, x < 1 → R2 x = R1 x ∧ I2 x = I1 x ∧ L2 x = L1 x := bl2
  have ra2 : R2 0 = (fun _ => none) := ((bl2 0 (by decide)).1).trans ra1
  have ia2 : I2 0 = (fun _ => 0) := ((bl2 0 (by decide)).2.1).trans ia1
  have la2 : L2 0 = (fun _ => 0) := ((bl2 0 (by decide)).2.2).trans la1
  refine wq_putR 15 fl_X7_10 dX7_init_12 rfl rfl (by first | exact Or.inl rfl | exact Or.inr ⟨rfl, rfl, rfl⟩) (fun _ => ⟨rfl, rfl⟩) ⟨Nat.le_of_ble_eq_true rfl, rfl⟩ ?_
  refine wq_bload_n 16 0 dX7_init_15 rfl rfl rfl ?_
  refine wq_genR (fun R3 I3 L3 eR3 eI3 eL3 => ?_)
  have ra3 : R3 0 = (va_up (fun _ => none) 0 (some 1)) := by rw [eR3]; simp only [va_up_self, ra2]
  have zr3 : Zr 3 R3 none := by rw [eR3]; exact (zr2.up (by decide) _)
  have bR3 : ∀ x, x ≠ 0 → R3 x = R2 x := fun x hx => by rw [eR3]; simp only [va_up_ne _ _ hx]
  have ia3 : I3 0 = (fun _ => 0) := by rw [eI3]; exact ia2
  have zi3 : Zr 3 I3 0 := by rw [eI3]; exact zi2
  have bI3 : ∀ x, x ≠ 0 → I3 x = I2 x := fun x hx => by rw [eI3]
  have la3 : L3 0 = (fun _ => 0) := by rw [eL3]; exact la2
  have zl3 : Zr 3 L3 0 := by rw [eL3]; exact zl2
  have bL3 : ∀ x, x ≠ 0 → L3 x = L2 x := fun x hx => by rw [eL3]
  clear eR3 eI3 eL3
  have er3 := zr3 3 (by decide)
  have ei3 := zi3 3 (by decide)
  have el3 := zl3 3 (by decide)
  refine wq_new 19 2 cl_X7_16 in_X2 it_X2 dX7_init_16 rfl (by decide) rfl (Nat.le_of_ble_eq_true rfl) (Nat.le_of_ble_eq_true rfl) er3 ei3 el3 ?_
  refine wq_dup 20 dX7_init_19 rfl rfl ?_
  have zrp3 : Zr 3 R3 none := fun x hx => by
    by_cases h : x = 3
    · rw [h]; exact er3
    · exact zr3 x (by omega)
  have zip3 : Zr 3 I3 0 := fun x hx => by
    by_cases h : x = 3
    · rw [h]; exact ei3
    · exact zi3 x (by omega)
  have zlp3 : Zr 3 L3 0 := fun x hx => by
    by_cases h : x = 3
    · rw [h]; exact el3
    · exact zl3 x (by omega)
  refine wq_callI 23 (As := []) (in_2_3 (D := D - 1) (by omega) zrp3 zip3 zlp3) ml_X7_18 mf_X2_init dX7_init_20 rfl rfl (Nat.le_of_ble_eq_true rfl) (show D - 1 + 1 ≤ D by omega) (show 38 * (D - 1) + 38 ≤ 38 * D by omega) (Nat.le_of_ble_eq_true rfl) (Nat.le_of_ble_eq_true rfl) (fun r4 n4 R4 I4 L4 hr4 => ?_)
  obtain ⟨rfl, ⟨rfl, zr4, zi4, zl4, rg4, bl4⟩, fc4⟩ := hr4
  have bl4 : ∀ x, x < 3 → R4 x = R3 x ∧ I4 x = I3 x ∧ L4 x = L3 x := bl4
  have ra4 : R4 0 = (va_up (fun _ => none) 0 (some 1)) := ((bl4 0 (by decide)).1).trans ra3
  have ia4 : I4 0 = (fun _ => 0) := ((bl4 0 (by decide)).2.1).trans ia3
  have la4 : L4 0 = (fun _ => 0) := ((bl4 0 (by decide)).2.2).trans la3
  refine wq_putR 26 fl_X7_19 dX7_init_23 rfl rfl (by first | exact Or.inl rfl | exact Or.inr ⟨rfl, rfl, rfl⟩) (fun _ => ⟨rfl, rfl⟩) ⟨Nat.le_of_ble_eq_true rfl, rfl⟩ ?_
  refine wq_bload_n 27 0 dX7_init_26 rfl rfl rfl ?_
  refine wq_genR (fun R5 I5 L5 eR5 eI5 eL5 => ?_)
  have ra5 : R5 0 = (va_up (va_up (fun _ => none) 0 (some 1)) 1 (some 3)) := by rw [eR5]; simp only [va_up_self, ra4]
  have zr5 : Zr 8 R5 none := by rw [eR5]; exact (zr4.up (by decide) _)
  have bR5 : ∀ x, x ≠ 0 → R5 x = R4 x := fun x hx => by rw [eR5]; simp only [va_up_ne _ _ hx]
  have ia5 : I5 0 = (fun _ => 0) := by rw [eI5]; exact ia4
  have zi5 : Zr 8 I5 0 := by rw [eI5]; exact zi4
  have bI5 : ∀ x, x ≠ 0 → I5 x = I4 x := fun x hx => by rw [eI5]
  have la5 : L5 0 = (fun _ => 0) := by rw [eL5]; exact la4
  have zl5 : Zr 8 L5 0 := by rw [eL5]; exact zl4
  have bL5 : ∀ x, x ≠ 0 → L5 x = L4 x := fun x hx => by rw [eL5]
  clear eR5 eI5 eL5
  have er5 := zr5 8 (by decide)
  have ei5 := zi5 8 (by decide)
  have el5 := zl5 8 (by decide)
  refine wq_new 30 3 cl_X7_23 in_X3 it_X3 dX7_init_27 rfl (by decide) rfl (Nat.le_of_ble_eq_true rfl) (Nat.le_of_ble_eq_true rfl) er5 ei5 el5 ?_
  refine wq_dup 31 dX7_init_30 rfl rfl ?_
  have zrp5 : Zr 8 R5 none := fun x hx => by
    by_cases h : x = 8
    · rw [h]; exact er5
    · exact zr5 x (by omega)
  have zip5 : Zr 8 I5 0 := fun x hx => by
    by_cases h : x = 8
    · rw [h]; exact ei5
    · exact zi5 x (by omega)
  have zlp5 : Zr 8 L5 0 := fun x hx => by
    by_cases h : x = 8
    · rw [h]; exact el5
    · exact zl5 x (by omega)
  refine wq_callI 34 (As := []) (in_3_8 (D := D - 1) (by omega) zrp5 zip5 zlp5) ml_X7_25 mf_X3_init dX7_init_31 rfl rfl (Nat.le_of_ble_eq_true rfl) (show D - 1 + 1 ≤ D by omega) (show 38 * (D - 1) + 38 ≤ 38 * D by omega) (Nat.le_of_ble_eq_true rfl) (Nat.le_of_ble_eq_true rfl) (fun r6 n6 R6 I6 L6 hr6 => ?_)
  obtain ⟨rfl, ⟨rfl, zr6, zi6, zl6, rg6, bl6⟩, fc6⟩ := hr6
  have bl6 : ∀ x, x < 8 → R6 x = R5 x ∧ I6 x = I5 x ∧ L6 x = L5 x := bl6
  have ra6 : R6 0 = (va_up (va_up (fun _ => none) 0 (some 1)) 1 (some 3)) := ((bl6 0 (by decide)).1).trans ra5
  have ia6 : I6 0 = (fun _ => 0) := ((bl6 0 (by decide)).2.1).trans ia5
  have la6 : L6 0 = (fun _ => 0) := ((bl6 0 (by decide)).2.2).trans la5
  refine wq_putR 37 fl_X7_26 dX7_init_34 rfl rfl (by first | exact Or.inl rfl | exact Or.inr ⟨rfl, rfl, rfl⟩) (fun _ => ⟨rfl, rfl⟩) ⟨Nat.le_of_ble_eq_true rfl, rfl⟩ ?_
  refine wq_bload_n 38 0 dX7_init_37 rfl rfl rfl ?_
  refine wq_genR (fun R7 I7 L7 eR7 eI7 eL7 => ?_)
  have ra7 : R7 0 = (va_up (va_up (va_up (fun _ => none) 0 (some 1)) 1 (some 3)) 2 (some 8)) := by rw [eR7]; simp only [va_up_self, ra6]
  have zr7 : Zr 14 R7 none := by rw [eR7]; exact (zr6.up (by decide) _)
  have bR7 : ∀ x, x ≠ 0 → R7 x = R6 x := fun x hx => by rw [eR7]; simp only [va_up_ne _ _ hx]
  have ia7 : I7 0 = (fun _ => 0) := by rw [eI7]; exact ia6
  have zi7 : Zr 14 I7 0 := by rw [eI7]; exact zi6
  have bI7 : ∀ x, x ≠ 0 → I7 x = I6 x := fun x hx => by rw [eI7]
  have la7 : L7 0 = (fun _ => 0) := by rw [eL7]; exact la6
  have zl7 : Zr 14 L7 0 := by rw [eL7]; exact zl6
  have bL7 : ∀ x, x ≠ 0 → L7 x = L6 x := fun x hx => by rw [eL7]
  clear eR7 eI7 eL7
  have er7 := zr7 14 (by decide)
  have ei7 := zi7 14 (by decide)
  have el7 := zl7 14 (by decide)
  refine wq_new 41 0 cl_X7_30 in_X0 it_X0 dX7_init_38 rfl (by decide) rfl (Nat.le_of_ble_eq_true rfl) (Nat.le_of_ble_eq_true rfl) er7 ei7 el7 ?_
  refine wq_dup 42 dX7_init_41 rfl rfl ?_
  have zrp7 : Zr 14 R7 none := fun x hx => by
    by_cases h : x = 14
    · rw [h]; exact er7
    · exact zr7 x (by omega)
  have zip7 : Zr 14 I7 0 := fun x hx => by
    by_cases h : x = 14
    · rw [h]; exact ei7
    · exact zi7 x (by omega)
  have zlp7 : Zr 14 L7 0 := fun x hx => by
    by_cases h : x = 14
    · rw [h]; exact el7
    · exact zl7 x (by omega)
  refine wq_callI 45 (As := []) (in_0_14 (D := D - 1) (by omega) zrp7 zip7 zlp7) ml_X7_32 mf_X0_init dX7_init_42 rfl rfl (Nat.le_of_ble_eq_true rfl) (show D - 1 + 1 ≤ D by omega) (show 38 * (D - 1) + 38 ≤ 38 * D by omega) (Nat.le_of_ble_eq_true rfl) (Nat.le_of_ble_eq_true rfl) (fun r8 n8 R8 I8 L8 hr8 => ?_)
  obtain ⟨rfl, ⟨rfl, zr8, zi8, zl8, rg8, bl8⟩, fc8⟩ := hr8
  have bl8 : ∀ x, x < 14 → R8 x = R7 x ∧ I8 x = I7 x ∧ L8 x = L7 x := bl8
  have ra8 : R8 0 = (va_up (va_up (va_up (fun _ => none) 0 (some 1)) 1 (some 3)) 2 (some 8)) := ((bl8 0 (by decide)).1).trans ra7
  have ia8 : I8 0 = (fun _ => 0) := ((bl8 0 (by decide)).2.1).trans ia7
  have la8 : L8 0 = (fun _ => 0) := ((bl8 0 (by decide)).2.2).trans la7
  refine wq_putR 48 fl_X7_33 dX7_init_45 rfl rfl (by first | exact Or.inl rfl | exact Or.inr ⟨rfl, rfl, rfl⟩) (fun _ => ⟨rfl, rfl⟩) ⟨Nat.le_of_ble_eq_true rfl, rfl⟩ ?_
  refine wq_bload_n 49 0 dX7_init_48 rfl rfl rfl ?_
  refine wq_genR (fun R9 I9 L9 eR9 eI9 eL9 => ?_)
  have ra9 : R9 0 = (va_up (va_up (va_up (va_up (fun _ => none) 0 (some 1)) 1 (some 3)) 2 (some 8)) 3 (some 14)) := by rw [eR9]; simp only [va_up_self, ra8]
  have zr9 : Zr 50 R9 none := by rw [eR9]; exact (zr8.up (by decide) _)
  have bR9 : ∀ x, x ≠ 0 → R9 x = R8 x := fun x hx => by rw [eR9]; simp only [va_up_ne _ _ hx]
  have ia9 : I9 0 = (fun _ => 0) := by rw [eI9]; exact ia8
  have zi9 : Zr 50 I9 0 := by rw [eI9]; exact zi8
  have bI9 : ∀ x, x ≠ 0 → I9 x = I8 x := fun x hx => by rw [eI9]
  have la9 : L9 0 = (fun _ => 0) := by rw [eL9]; exact la8
  have zl9 : Zr 50 L9 0 := by rw [eL9]; exact zl8
  have bL9 : ∀ x, x ≠ 0 → L9 x = L8 x := fun x hx => by rw [eL9]
  clear eR9 eI9 eL9
  have er9 := zr9 50 (by decide)
  have ei9 := zi9 50 (by decide)
  have el9 := zl9 50 (by decide)
  refine wq_new 52 6 cl_X7_37 in_X6 it_X6 dX7_init_49 rfl (by decide) rfl (Nat.le_of_ble_eq_true rfl) (Nat.le_of_ble_eq_true rfl) er9 ei9 el9 ?_
  refine wq_dup 53 dX7_init_52 rfl rfl ?_
  have zrp9 : Zr 50 R9 none := fun x hx => by
    by_cases h : x = 50
    · rw [h]; exact er9
    · exact zr9 x (by omega)
  have zip9 : Zr 50 I9 0 := fun x hx => by
    by_cases h : x = 50
    · rw [h]; exact ei9
    · exact zi9 x (by omega)
  have zlp9 : Zr 50 L9 0 := fun x hx => by
    by_cases h : x = 50
    · rw [h]; exact el9
    · exact zl9 x (by omega)
  refine wq_callI 56 (As := []) (in_6_50 (D := D - 1) (by omega) zrp9 zip9 zlp9) ml_X7_39 mf_X6_init dX7_init_53 rfl rfl (Nat.le_of_ble_eq_true rfl) (show D - 1 + 1 ≤ D by omega) (show 38 * (D - 1) + 38 ≤ 38 * D by omega) (Nat.le_of_ble_eq_true rfl) (Nat.le_of_ble_eq_true rfl) (fun r10 n10 R10 I10 L10 hr10 => ?_)
  obtain ⟨rfl, ⟨rfl, zr10, zi10, zl10, rg10, bl10⟩, fc10⟩ := hr10
  have bl10 : ∀ x, x < 50 → R10 x = R9 x ∧ I10 x = I9 x ∧ L10 x = L9 x := bl10
  have ra10 : R10 0 = (va_up (va_up (va_up (va_up (fun _ => none) 0 (some 1)) 1 (some 3)) 2 (some 8)) 3 (some 14)) := ((bl10 0 (by decide)).1).trans ra9
  have ia10 : I10 0 = (fun _ => 0) := ((bl10 0 (by decide)).2.1).trans ia9
  have la10 : L10 0 = (fun _ => 0) := ((bl10 0 (by decide)).2.2).trans la9
  refine wq_putR 59 fl_X7_40 dX7_init_56 rfl rfl (by first | exact Or.inl rfl | exact Or.inr ⟨rfl, rfl, rfl⟩) (fun _ => ⟨rfl, rfl⟩) ⟨Nat.le_of_ble_eq_true rfl, rfl⟩ ?_
  refine wq_bload_n 60 0 dX7_init_59 rfl rfl rfl ?_
  refine wq_genR (fun R11 I11 L11 eR11 eI11 eL11 => ?_)
  have ra11 : R11 0 = (va_up (va_up (va_up (va_up (va_up (fun _ => none) 0 (some 1)) 1 (some 3)) 2 (some 8)) 3 (some 14)) 4 (some 50)) := by rw [eR11]; simp only [va_up_self, ra10]
  have zr11 : Zr 54 R11 none := by rw [eR11]; exact (zr10.up (by decide) _)
  have bR11 : ∀ x, x ≠ 0 → R11 x = R10 x := fun x hx => by rw [eR11]; simp only [va_up_ne _ _ hx]
  have ia11 : I11 0 = (fun _ => 0) := by rw [eI11]; exact ia10
  have zi11 : Zr 54 I11 0 := by rw [eI11]; exact zi10
  have bI11 : ∀ x, x ≠ 0 → I11 x = I10 x := fun x hx => by rw [eI11]
  have la11 : L11 0 = (fun _ => 0) := by rw [eL11]; exact la10
  have zl11 : Zr 54 L11 0 := by rw [eL11]; exact zl10
  have bL11 : ∀ x, x ≠ 0 → L11 x = L10 x := fun x hx => by rw [eL11]
  clear eR11 eI11 eL11
  have er11 := zr11 54 (by decide)
  have ei11 := zi11 54 (by decide)
  have el11 := zl11 54 (by decide)
  refine wq_new 63 6 cl_X7_37 in_X6 it_X6 dX7_init_60 rfl (by decide) rfl (Nat.le_of_ble_eq_true rfl) (Nat.le_of_ble_eq_true rfl) er11 ei11 el11 ?_
  refine wq_dup 64 dX7_init_63 rfl rfl ?_
  have zrp11 : Zr 54 R11 none := fun x hx => by
    by_cases h : x = 54
    · rw [h]; exact er11
    · exact zr11 x (by omega)
  have zip11 : Zr 54 I11 0 := fun x hx => by
    by_cases h : x = 54
    · rw [h]; exact ei11
    · exact zi11 x (by omega)
  have zlp11 : Zr 54 L11 0 := fun x hx => by
    by_cases h : x = 54
    · rw [h]; exact el11
    · exact zl11 x (by omega)
  refine wq_callI 67 (As := []) (in_6_54 (D := D - 1) (by omega) zrp11 zip11 zlp11) ml_X7_39 mf_X6_init dX7_init_64 rfl rfl (Nat.le_of_ble_eq_true rfl) (show D - 1 + 1 ≤ D by omega) (show 38 * (D - 1) + 38 ≤ 38 * D by omega) (Nat.le_of_ble_eq_true rfl) (Nat.le_of_ble_eq_true rfl) (fun r12 n12 R12 I12 L12 hr12 => ?_)
  obtain ⟨rfl, ⟨rfl, zr12, zi12, zl12, rg12, bl12⟩, fc12⟩ := hr12
  have bl12 : ∀ x, x < 54 → R12 x = R11 x ∧ I12 x = I11 x ∧ L12 x = L11 x := bl12
  have ra12 : R12 0 = (va_up (va_up (va_up (va_up (va_up (fun _ => none) 0 (some 1)) 1 (some 3)) 2 (some 8)) 3 (some 14)) 4 (some 50)) := ((bl12 0 (by decide)).1).trans ra11
  have ia12 : I12 0 = (fun _ => 0) := ((bl12 0 (by decide)).2.1).trans ia11
  have la12 : L12 0 = (fun _ => 0) := ((bl12 0 (by decide)).2.2).trans la11
  refine wq_putR 70 fl_X7_44 dX7_init_67 rfl rfl (by first | exact Or.inl rfl | exact Or.inr ⟨rfl, rfl, rfl⟩) (fun _ => ⟨rfl, rfl⟩) ⟨Nat.le_of_ble_eq_true rfl, rfl⟩ ?_
  refine wq_bload_n 71 0 dX7_init_70 rfl rfl rfl ?_
  refine wq_iconst 72 2 dX7_init_71 rfl (by decide) ?_
  refine wq_genR (fun R13 I13 L13 eR13 eI13 eL13 => ?_)
  have ra13 : R13 0 = (va_up (va_up (va_up (va_up (va_up (va_up (fun _ => none) 0 (some 1)) 1 (some 3)) 2 (some 8)) 3 (some 14)) 4 (some 50)) 5 (some 54)) := by rw [eR13]; simp only [va_up_self, ra12]
  have zr13 : Zr 58 R13 none := by rw [eR13]; exact (zr12.up (by decide) _)
  have bR13 : ∀ x, x ≠ 0 → R13 x = R12 x := fun x hx => by rw [eR13]; simp only [va_up_ne _ _ hx]
  have ia13 : I13 0 = (fun _ => 0) := by rw [eI13]; exact ia12
  have zi13 : Zr 58 I13 0 := by rw [eI13]; exact zi12
  have bI13 : ∀ x, x ≠ 0 → I13 x = I12 x := fun x hx => by rw [eI13]
  have la13 : L13 0 = (fun _ => 0) := by rw [eL13]; exact la12
  have zl13 : Zr 58 L13 0 := by rw [eL13]; exact zl12
  have bL13 : ∀ x, x ≠ 0 → L13 x = L12 x := fun x hx => by rw [eL13]
  clear eR13 eI13 eL13
  refine wq_newaQ 75 2 47 cl_X7_47 dX7_init_72 rfl rfl rfl (by decide) (Nat.le_of_ble_eq_true rfl) (Nat.le_of_ble_eq_true rfl) (zr13 58 (by decide)) ?_
  have q5813 : R13 58 = (fun _ => none) := zr13 58 (by decide)
  refine wq_putR 78 fl_X7_49 dX7_init_75 rfl rfl (by first | exact Or.inl rfl | exact Or.inr ⟨rfl, rfl, rfl⟩) (fun _ => ⟨rfl, rfl⟩) ⟨Nat.le_of_ble_eq_true rfl, rfl⟩ ?_
  refine wq_bload_n 79 0 dX7_init_78 rfl rfl rfl ?_
  refine wq_iconst 80 3 dX7_init_79 rfl (by decide) ?_
  refine wq_putI 83 fl_X7_53 dX7_init_80 rfl rfl rfl rfl rfl ⟨Nat.le_of_ble_eq_true rfl, rfl⟩ ?_
  refine wq_bload_n 84 0 dX7_init_83 rfl rfl rfl ?_
  refine wq_iconst 85 0 dX7_init_84 rfl (by decide) ?_
  refine wq_putI 88 fl_X7_57 dX7_init_85 rfl rfl rfl rfl rfl ⟨Nat.le_of_ble_eq_true rfl, rfl⟩ ?_
  refine wq_bload_n 89 0 dX7_init_88 rfl rfl rfl ?_
  refine wq_iconst 90 0 dX7_init_89 rfl (by decide) ?_
  refine wq_putI 93 fl_X7_60 dX7_init_90 rfl rfl rfl rfl rfl ⟨Nat.le_of_ble_eq_true rfl, rfl⟩ ?_
  refine wq_bload_n 94 0 dX7_init_93 rfl rfl rfl ?_
  refine wq_iconst 95 0 dX7_init_94 rfl (by decide) ?_
  refine wq_putI 98 fl_X7_64 dX7_init_95 rfl rfl rfl rfl rfl ⟨Nat.le_of_ble_eq_true rfl, rfl⟩ ?_
  refine wq_bload_n 99 0 dX7_init_98 rfl rfl rfl ?_
  refine wq_iconst 100 0 dX7_init_99 rfl (by decide) ?_
  refine wq_putI 103 fl_X7_67 dX7_init_100 rfl rfl rfl rfl rfl ⟨Nat.le_of_ble_eq_true rfl, rfl⟩ ?_
  refine wq_bload_n 104 0 dX7_init_103 rfl rfl rfl ?_
  refine wq_iconst 105 0 dX7_init_104 rfl (by decide) ?_
  refine wq_putI 108 fl_X7_70 dX7_init_105 rfl rfl rfl rfl rfl ⟨Nat.le_of_ble_eq_true rfl, rfl⟩ ?_
  refine wq_iconst 109 0 dX7_init_108 rfl (by decide) ?_
  refine wq_istore_n 110 1 [_, _] dX7_init_109 rfl rfl rfl (Nat.le_of_ble_eq_true rfl) rfl ?_
  refine wq_iload_n 111 1 dX7_init_110 rfl rfl rfl ?_
  refine wq_iconst 112 2 dX7_init_111 rfl (by decide) ?_
  refine wq_ic_ge 115 134 dX7_init_112 rfl (by decide) (fun c => absurd c (by decide)) (fun c => ?_)
  refine wq_bload_n 116 0 dX7_init_115 rfl rfl rfl ?_
  refine wq_genR (fun R14 I14 L14 eR14 eI14 eL14 => ?_)
  have ra14 : R14 0 = (va_up (va_up (va_up (va_up (va_up (va_up (va_up (fun _ => none) 0 (some 1)) 1 (some 3)) 2 (some 8)) 3 (some 14)) 4 (some 50)) 5 (some 54)) 6 (some 58)) := by rw [eR14]; simp only [va_up_self, ra13]
  have zr14 : Zr 58 R14 none := by rw [eR14]; exact (zr13.up (by decide) _)
  have bR14 : ∀ x, x ≠ 0 → R14 x = R13 x := fun x hx => by rw [eR14]; simp only [va_up_ne _ _ hx]
  have ia14 : I14 0 = (va_up (va_up (va_up (va_up (va_up (va_up (fun _ => 0) 7 3) 8 0) 9 0) 10 0) 11 0) 12 0) := by rw [eI14]; simp only [va_up_self, ia13]
  have zi14 : Zr 58 I14 0 := by rw [eI14]; exact ((((((zi13.up (by decide) _).up (by decide) _).up (by decide) _).up (by decide) _).up (by decide) _).up (by decide) _)
  have bI14 : ∀ x, x ≠ 0 → I14 x = I13 x := fun x hx => by rw [eI14]; simp only [va_up_ne _ _ hx]
  have la14 : L14 0 = (fun _ => 0) := by rw [eL14]; exact la13
  have zl14 : Zr 58 L14 0 := by rw [eL14]; exact zl13
  have bL14 : ∀ x, x ≠ 0 → L14 x = L13 x := fun x hx => by rw [eL14]
  have q5814 : R14 58 = (fun _ => none) := by rw [bR14 58 (by decide)]; exact q5813
  clear eR14 eI14 eL14
  refine wq_getR 119 fl_X7_49 dX7_init_116 rfl rfl ⟨Nat.le_of_ble_eq_true rfl, rfl⟩ (show R14 0 6 = some 58 by rw [ra14]; rfl) ?_
  refine wq_iload_n 120 1 dX7_init_119 rfl rfl rfl ?_
  refine wq_genR (fun R15 I15 L15 eR15 eI15 eL15 => ?_)
  have ra15 : R15 0 = (va_up (va_up (va_up (va_up (va_up (va_up (va_up (fun _ => none) 0 (some 1)) 1 (some 3)) 2 (some 8)) 3 (some 14)) 4 (some 50)) 5 (some 54)) 6 (some 58)) := by rw [eR15]; exact ra14
  have zr15 : Zr 58 R15 none := by rw [eR15]; exact zr14
  have bR15 : ∀ x, x ≠ 0 → R15 x = R14 x := fun x hx => by rw [eR15]
  have ia15 : I15 0 = (va_up (va_up (va_up (va_up (va_up (va_up (fun _ => 0) 7 3) 8 0) 9 0) 10 0) 11 0) 12 0) := by rw [eI15]; exact ia14
  have zi15 : Zr 58 I15 0 := by rw [eI15]; exact zi14
  have bI15 : ∀ x, x ≠ 0 → I15 x = I14 x := fun x hx => by rw [eI15]
  have la15 : L15 0 = (fun _ => 0) := by rw [eL15]; exact la14
  have zl15 : Zr 58 L15 0 := by rw [eL15]; exact zl14
  have bL15 : ∀ x, x ≠ 0 → L15 x = L14 x := fun x hx => by rw [eL15]
  have q5815 : R15 58 = (fun _ => none) := by rw [bR15 58 (by decide)]; exact q5814
  clear eR15 eI15 eL15
  have er15 := zr15 59 (by decide)
  have ei15 := zi15 59 (by decide)
  have el15 := zl15 59 (by decide)
  refine wq_new 123 1 cl_X7_47 in_X1 it_X1 dX7_init_120 rfl (by decide) rfl (Nat.le_of_ble_eq_true rfl) (Nat.le_of_ble_eq_true rfl) er15 ei15 el15 ?_
  refine wq_dup 124 dX7_init_123 rfl rfl ?_
  have zrp15 : Zr 59 R15 none := fun x hx => by
    by_cases h : x = 59
    · rw [h]; exact er15
    · exact zr15 x (by omega)
  have zip15 : Zr 59 I15 0 := fun x hx => by
    by_cases h : x = 59
    · rw [h]; exact ei15
    · exact zi15 x (by omega)
  have zlp15 : Zr 59 L15 0 := fun x hx => by
    by_cases h : x = 59
    · rw [h]; exact el15
    · exact zl15 x (by omega)
  refine wq_callI 127 (As := []) (in_1_59 (D := D - 1) (by omega) zrp15 zip15 zlp15) ml_X7_73 mf_X1_init dX7_init_124 rfl rfl (Nat.le_of_ble_eq_true rfl) (show D - 1 + 1 ≤ D by omega) (show 38 * (D - 1) + 38 ≤ 38 * D by omega) (Nat.le_of_ble_eq_true rfl) (Nat.le_of_ble_eq_true rfl) (fun r16 n16 R16 I16 L16 hr16 => ?_)
  obtain ⟨rfl, ⟨rfl, zr16, zi16, zl16, rg16, bl16⟩, fc16⟩ := hr16
  have bl16 : ∀ x, x < 59 → R16 x = R15 x ∧ I16 x = I15 x ∧ L16 x = L15 x := bl16
  have ra16 : R16 0 = (va_up (va_up (va_up (va_up (va_up (va_up (va_up (fun _ => none) 0 (some 1)) 1 (some 3)) 2 (some 8)) 3 (some 14)) 4 (some 50)) 5 (some 54)) 6 (some 58)) := ((bl16 0 (by decide)).1).trans ra15
  have ia16 : I16 0 = (va_up (va_up (va_up (va_up (va_up (va_up (fun _ => 0) 7 3) 8 0) 9 0) 10 0) 11 0) 12 0) := ((bl16 0 (by decide)).2.1).trans ia15
  have la16 : L16 0 = (fun _ => 0) := ((bl16 0 (by decide)).2.2).trans la15
  have q5816 : R16 58 = (fun _ => none) := ((bl16 58 (by decide)).1).trans q5815
  refine wq_aast 128 dX7_init_127 rfl ⟨Nat.le_of_ble_eq_true rfl, rfl⟩ ⟨Nat.le_of_ble_eq_true rfl, rfl⟩ (show Ix _ 0 2 from Ix.nI (j := 0) (by decide) (by decide)) ?_
  refine wq_genR (fun R17 I17 L17 eR17 eI17 eL17 => ?_)
  have ra17 : R17 0 = (va_up (va_up (va_up (va_up (va_up (va_up (va_up (fun _ => none) 0 (some 1)) 1 (some 3)) 2 (some 8)) 3 (some 14)) 4 (some 50)) 5 (some 54)) 6 (some 58)) := by rw [eR17, va_up_ne _ _ (by decide)]; exact ra16
  have zr17 : Zr 65 R17 none := by rw [eR17]; exact (zr16.up (by decide) _)
  have bR17 : ∀ x, x ≠ 58 → R17 x = R16 x := fun x hx => by rw [eR17]; simp only [va_up_ne _ _ hx]
  have ia17 : I17 0 = (va_up (va_up (va_up (va_up (va_up (va_up (fun _ => 0) 7 3) 8 0) 9 0) 10 0) 11 0) 12 0) := by rw [eI17]; exact ia16
  have zi17 : Zr 65 I17 0 := by rw [eI17]; exact zi16
  have bI17 : ∀ x, x ≠ 58 → I17 x = I16 x := fun x hx => by rw [eI17]
  have la17 : L17 0 = (fun _ => 0) := by rw [eL17]; exact la16
  have zl17 : Zr 65 L17 0 := by rw [eL17]; exact zl16
  have bL17 : ∀ x, x ≠ 58 → L17 x = L16 x := fun x hx => by rw [eL17]
  have q5817 : R17 58 = (va_up (fun _ => none) 0 (some 59)) := by rw [eR17, va_up_self, q5816]
  clear eR17 eI17 eL17
  refine wq_iinc 131 (_ + 1) [_, _] dX7_init_128 rfl rfl (inc1 _) rfl (Nat.le_of_ble_eq_true rfl) rfl ?_
  refine wq_goto 110 dX7_init_131 (by decide) ?_
  refine wq_iload_n 111 1 dX7_init_110 rfl rfl rfl ?_
  refine wq_iconst 112 2 dX7_init_111 rfl (by decide) ?_
  refine wq_ic_ge 115 134 dX7_init_112 rfl (by decide) (fun c => absurd c (by decide)) (fun c => ?_)
  refine wq_bload_n 116 0 dX7_init_115 rfl rfl rfl ?_
  refine wq_genR (fun R18 I18 L18 eR18 eI18 eL18 => ?_)
  have ra18 : R18 0 = (va_up (va_up (va_up (va_up (va_up (va_up (va_up (fun _ => none) 0 (some 1)) 1 (some 3)) 2 (some 8)) 3 (some 14)) 4 (some 50)) 5 (some 54)) 6 (some 58)) := by rw [eR18]; exact ra17
  have zr18 : Zr 65 R18 none := by rw [eR18]; exact zr17
  have bR18 : ∀ x, x ≠ 0 → R18 x = R17 x := fun x hx => by rw [eR18]
  have ia18 : I18 0 = (va_up (va_up (va_up (va_up (va_up (va_up (fun _ => 0) 7 3) 8 0) 9 0) 10 0) 11 0) 12 0) := by rw [eI18]; exact ia17
  have zi18 : Zr 65 I18 0 := by rw [eI18]; exact zi17
  have bI18 : ∀ x, x ≠ 0 → I18 x = I17 x := fun x hx => by rw [eI18]
  have la18 : L18 0 = (fun _ => 0) := by rw [eL18]; exact la17
  have zl18 : Zr 65 L18 0 := by rw [eL18]; exact zl17
  have bL18 : ∀ x, x ≠ 0 → L18 x = L17 x := fun x hx => by rw [eL18]
  have q5818 : R18 58 = (va_up (fun _ => none) 0 (some 59)) := by rw [bR18 58 (by decide)]; exact q5817
  clear eR18 eI18 eL18
  refine wq_getR 119 fl_X7_49 dX7_init_116 rfl rfl ⟨Nat.le_of_ble_eq_true rfl, rfl⟩ (show R18 0 6 = some 58 by rw [ra18]; rfl) ?_
  refine wq_iload_n 120 1 dX7_init_119 rfl rfl rfl ?_
  refine wq_genR (fun R19 I19 L19 eR19 eI19 eL19 => ?_)
  have ra19 : R19 0 = (va_up (va_up (va_up (va_up (va_up (va_up (va_up (fun _ => none) 0 (some 1)) 1 (some 3)) 2 (some 8)) 3 (some 14)) 4 (some 50)) 5 (some 54)) 6 (some 58)) := by rw [eR19]; exact ra18
  have zr19 : Zr 65 R19 none := by rw [eR19]; exact zr18
  have bR19 : ∀ x, x ≠ 0 → R19 x = R18 x := fun x hx => by rw [eR19]
  have ia19 : I19 0 = (va_up (va_up (va_up (va_up (va_up (va_up (fun _ => 0) 7 3) 8 0) 9 0) 10 0) 11 0) 12 0) := by rw [eI19]; exact ia18
  have zi19 : Zr 65 I19 0 := by rw [eI19]; exact zi18
  have bI19 : ∀ x, x ≠ 0 → I19 x = I18 x := fun x hx => by rw [eI19]
  have la19 : L19 0 = (fun _ => 0) := by rw [eL19]; exact la18
  have zl19 : Zr 65 L19 0 := by rw [eL19]; exact zl18
  have bL19 : ∀ x, x ≠ 0 → L19 x = L18 x := fun x hx => by rw [eL19]
  have q5819 : R19 58 = (va_up (fun _ => none) 0 (some 59)) := by rw [bR19 58 (by decide)]; exact q5818
  clear eR19 eI19 eL19
  have er19 := zr19 65 (by decide)
  have ei19 := zi19 65 (by decide)
  have el19 := zl19 65 (by decide)
  refine wq_new 123 1 cl_X7_47 in_X1 it_X1 dX7_init_120 rfl (by decide) rfl (Nat.le_of_ble_eq_true rfl) (Nat.le_of_ble_eq_true rfl) er19 ei19 el19 ?_
  refine wq_dup 124 dX7_init_123 rfl rfl ?_
  have zrp19 : Zr 65 R19 none := fun x hx => by
    by_cases h : x = 65
    · rw [h]; exact er19
    · exact zr19 x (by omega)
  have zip19 : Zr 65 I19 0 := fun x hx => by
    by_cases h : x = 65
    · rw [h]; exact ei19
    · exact zi19 x (by omega)
  have zlp19 : Zr 65 L19 0 := fun x hx => by
    by_cases h : x = 65
    · rw [h]; exact el19
    · exact zl19 x (by omega)
  refine wq_callI 127 (As := []) (in_1_65 (D := D - 1) (by omega) zrp19 zip19 zlp19) ml_X7_73 mf_X1_init dX7_init_124 rfl rfl (Nat.le_of_ble_eq_true rfl) (show D - 1 + 1 ≤ D by omega) (show 38 * (D - 1) + 38 ≤ 38 * D by omega) (Nat.le_of_ble_eq_true rfl) (Nat.le_of_ble_eq_true rfl) (fun r20 n20 R20 I20 L20 hr20 => ?_)
  obtain ⟨rfl, ⟨rfl, zr20, zi20, zl20, rg20, bl20⟩, fc20⟩ := hr20
  have bl20 : ∀ x, x < 65 → R20 x = R19 x ∧ I20 x = I19 x ∧ L20 x = L19 x := bl20
  have ra20 : R20 0 = (va_up (va_up (va_up (va_up (va_up (va_up (va_up (fun _ => none) 0 (some 1)) 1 (some 3)) 2 (some 8)) 3 (some 14)) 4 (some 50)) 5 (some 54)) 6 (some 58)) := ((bl20 0 (by decide)).1).trans ra19
  have ia20 : I20 0 = (va_up (va_up (va_up (va_up (va_up (va_up (fun _ => 0) 7 3) 8 0) 9 0) 10 0) 11 0) 12 0) := ((bl20 0 (by decide)).2.1).trans ia19
  have la20 : L20 0 = (fun _ => 0) := ((bl20 0 (by decide)).2.2).trans la19
  have q5820 : R20 58 = (va_up (fun _ => none) 0 (some 59)) := ((bl20 58 (by decide)).1).trans q5819
  refine wq_aast 128 dX7_init_127 rfl ⟨Nat.le_of_ble_eq_true rfl, rfl⟩ ⟨Nat.le_of_ble_eq_true rfl, rfl⟩ (show Ix _ 1 2 from Ix.nI (j := 1) (by decide) (by decide)) ?_
  refine wq_genR (fun R21 I21 L21 eR21 eI21 eL21 => ?_)
  have ra21 : R21 0 = (va_up (va_up (va_up (va_up (va_up (va_up (va_up (fun _ => none) 0 (some 1)) 1 (some 3)) 2 (some 8)) 3 (some 14)) 4 (some 50)) 5 (some 54)) 6 (some 58)) := by rw [eR21, va_up_ne _ _ (by decide)]; exact ra20
  have zr21 : Zr 71 R21 none := by rw [eR21]; exact (zr20.up (by decide) _)
  have bR21 : ∀ x, x ≠ 58 → R21 x = R20 x := fun x hx => by rw [eR21]; simp only [va_up_ne _ _ hx]
  have ia21 : I21 0 = (va_up (va_up (va_up (va_up (va_up (va_up (fun _ => 0) 7 3) 8 0) 9 0) 10 0) 11 0) 12 0) := by rw [eI21]; exact ia20
  have zi21 : Zr 71 I21 0 := by rw [eI21]; exact zi20
  have bI21 : ∀ x, x ≠ 58 → I21 x = I20 x := fun x hx => by rw [eI21]
  have la21 : L21 0 = (fun _ => 0) := by rw [eL21]; exact la20
  have zl21 : Zr 71 L21 0 := by rw [eL21]; exact zl20
  have bL21 : ∀ x, x ≠ 58 → L21 x = L20 x := fun x hx => by rw [eL21]
  have q5821 : R21 58 = (va_up (va_up (fun _ => none) 0 (some 59)) 1 (some 65)) := by rw [eR21, va_up_self, q5820]
  clear eR21 eI21 eL21
  refine wq_iinc 131 (_ + 1) [_, _] dX7_init_128 rfl rfl (inc1 _) rfl (Nat.le_of_ble_eq_true rfl) rfl ?_
  refine wq_goto 110 dX7_init_131 (by decide) ?_
  refine wq_iload_n 111 1 dX7_init_110 rfl rfl rfl ?_
  refine wq_iconst 112 2 dX7_init_111 rfl (by decide) ?_
  refine wq_ic_ge 115 134 dX7_init_112 rfl (by decide) (fun c => ?_) (fun c => absurd (by decide) c)
  refine wq_vret dX7_init_134 rfl (Nat.le_of_ble_eq_true rfl) (Nat.le_of_ble_eq_true rfl) ?_
  refine ⟨rfl, ⟨rfl, zr21.mono (by decide), zi21.mono (by decide), zl21.mono (by decide), fun x x1 x2 => ?_, fun x hx => absurd hx (Nat.not_lt_zero x)⟩, ⟨by rw [ia21]; rfl, ⟨by rw [ia21]; rfl, by rw [ia21]; rfl, by rw [ia21]; rfl, by rw [ia21]; rfl, by rw [ia21]; rfl⟩, by rw [bI21 1 (by decide), (bl20 1 (by decide)).2.1, bI19 1 (by decide), bI18 1 (by decide), bI17 1 (by decide), (bl16 1 (by decide)).2.1, bI15 1 (by decide), bI14 1 (by decide), bI13 1 (by decide), (bl12 1 (by decide)).2.1, bI11 1 (by decide), (bl10 1 (by decide)).2.1, bI9 1 (by decide), (bl8 1 (by decide)).2.1, bI7 1 (by decide), (bl6 1 (by decide)).2.1, bI5 1 (by decide), (bl4 1 (by decide)).2.1, bI3 1 (by decide)]; exact fc2, ⟨by rw [bI21 3 (by decide), (bl20 3 (by decide)).2.1, bI19 3 (by decide), bI18 3 (by decide), bI17 3 (by decide), (bl16 3 (by decide)).2.1, bI15 3 (by decide), bI14 3 (by decide), bI13 3 (by decide), (bl12 3 (by decide)).2.1, bI11 3 (by decide), (bl10 3 (by decide)).2.1, bI9 3 (by decide), (bl8 3 (by decide)).2.1, bI7 3 (by decide), (bl6 3 (by decide)).2.1, bI5 3 (by decide)]; exact fc4.1, by rw [bI21 3 (by decide), (bl20 3 (by decide)).2.1, bI19 3 (by decide), bI18 3 (by decide), bI17 3 (by decide), (bl16 3 (by decide)).2.1, bI15 3 (by decide), bI14 3 (by decide), bI13 3 (by decide), (bl12 3 (by decide)).2.1, bI11 3 (by decide), (bl10 3 (by decide)).2.1, bI9 3 (by decide), (bl8 3 (by decide)).2.1, bI7 3 (by decide), (bl6 3 (by decide)).2.1, bI5 3 (by decide)]; exact fc4.2.1, by rw [bL21 3 (by decide), (bl20 3 (by decide)).2.2, bL19 3 (by decide), bL18 3 (by decide), bL17 3 (by decide), (bl16 3 (by decide)).2.2, bL15 3 (by decide), bL14 3 (by decide), bL13 3 (by decide), (bl12 3 (by decide)).2.2, bL11 3 (by decide), (bl10 3 (by decide)).2.2, bL9 3 (by decide), (bl8 3 (by decide)).2.2, bL7 3 (by decide), (bl6 3 (by decide)).2.2, bL5 3 (by decide)]; exact fc4.2.2.1, by rw [bI21 3 (by decide), (bl20 3 (by decide)).2.1, bI19 3 (by decide), bI18 3 (by decide), bI17 3 (by decide), (bl16 3 (by decide)).2.1, bI15 3 (by decide), bI14 3 (by decide), bI13 3 (by decide), (bl12 3 (by decide)).2.1, bI11 3 (by decide), (bl10 3 (by decide)).2.1, bI9 3 (by decide), (bl8 3 (by decide)).2.1, bI7 3 (by decide), (bl6 3 (by decide)).2.1, bI5 3 (by decide)]; exact fc4.2.2.2⟩, by rw [bI21 59 (by decide), (bl20 59 (by decide)).2.1, bI19 59 (by decide), bI18 59 (by decide), bI17 59 (by decide)]; exact fc16, by rw [bI21 65 (by decide)]; exact fc20⟩⟩
  by_cases h0 : x = 0
  · subst h0
    rw [ra21]
    funext k
    rcases k with _ | _ | _ | _ | _ | _ | _ | k
    · rfl
    · rfl
    · rfl
    · rfl
    · rfl
    · rfl
    · rfl
    · rfl
  · by_cases h58 : x = 58
    · subst h58
      rw [q5821]
      funext k
      rcases k with _ | _ | k
      · rfl
      · rfl
      · rfl
    by_cases h2 : 1 ≤ x ∧ x < 3
    · rw [bR21 x (by omega), (bl20 x (by omega)).1, bR19 x (by omega), bR18 x (by omega), bR17 x (by omega), (bl16 x (by omega)).1, bR15 x (by omega), bR14 x (by omega), bR13 x (by omega), (bl12 x (by omega)).1, bR11 x (by omega), (bl10 x (by omega)).1, bR9 x (by omega), (bl8 x (by omega)).1, bR7 x (by omega), (bl6 x (by omega)).1, bR5 x (by omega), (bl4 x (by omega)).1, bR3 x (by omega), rg2 x h2.1 h2.2]
    by_cases h4 : 3 ≤ x ∧ x < 8
    · rw [bR21 x (by omega), (bl20 x (by omega)).1, bR19 x (by omega), bR18 x (by omega), bR17 x (by omega), (bl16 x (by omega)).1, bR15 x (by omega), bR14 x (by omega), bR13 x (by omega), (bl12 x (by omega)).1, bR11 x (by omega), (bl10 x (by omega)).1, bR9 x (by omega), (bl8 x (by omega)).1, bR7 x (by omega), (bl6 x (by omega)).1, bR5 x (by omega), rg4 x h4.1 h4.2]
    by_cases h6 : 8 ≤ x ∧ x < 14
    · rw [bR21 x (by omega), (bl20 x (by omega)).1, bR19 x (by omega), bR18 x (by omega), bR17 x (by omega), (bl16 x (by omega)).1, bR15 x (by omega), bR14 x (by omega), bR13 x (by omega), (bl12 x (by omega)).1, bR11 x (by omega), (bl10 x (by omega)).1, bR9 x (by omega), (bl8 x (by omega)).1, bR7 x (by omega), rg6 x h6.1 h6.2]
    by_cases h8 : 14 ≤ x ∧ x < 50
    · rw [bR21 x (by omega), (bl20 x (by omega)).1, bR19 x (by omega), bR18 x (by omega), bR17 x (by omega), (bl16 x (by omega)).1, bR15 x (by omega), bR14 x (by omega), bR13 x (by omega), (bl12 x (by omega)).1, bR11 x (by omega), (bl10 x (by omega)).1, bR9 x (by omega), rg8 x h8.1 h8.2]
    by_cases h10 : 50 ≤ x ∧ x < 54
    · rw [bR21 x (by omega), (bl20 x (by omega)).1, bR19 x (by omega), bR18 x (by omega), bR17 x (by omega), (bl16 x (by omega)).1, bR15 x (by omega), bR14 x (by omega), bR13 x (by omega), (bl12 x (by omega)).1, bR11 x (by omega), rg10 x h10.1 h10.2]
    by_cases h12 : 54 ≤ x ∧ x < 58
    · rw [bR21 x (by omega), (bl20 x (by omega)).1, bR19 x (by omega), bR18 x (by omega), bR17 x (by omega), (bl16 x (by omega)).1, bR15 x (by omega), bR14 x (by omega), bR13 x (by omega), rg12 x h12.1 h12.2]
    by_cases h16 : 59 ≤ x ∧ x < 65
    · rw [bR21 x (by omega), (bl20 x (by omega)).1, bR19 x (by omega), bR18 x (by omega), bR17 x (by omega), rg16 x h16.1 h16.2]
    by_cases h20 : 65 ≤ x ∧ x < 71
    · rw [bR21 x (by omega), rg20 x h20.1 h20.2]
    omega
