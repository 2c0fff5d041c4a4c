/-! THE CONSTRUCTORS -/
def Zr {α : Type} (n : Nat) (F : Nat → Nat → α) (d : α) : Prop := ∀ x, n ≤ x → F x = fun _ => d
theorem Zr.up {α : Type} {n a : Nat} {F : Nat → Nat → α} {d : α} (h : Zr n F d) (ha : a < n) (f : Nat → α) : Zr n (va_up F a f) d := fun x hx => by rw [va_up_ne _ _ (by omega)]; exact h x hx
theorem Zr.mono {α : Type} {n m : Nat} {F : Nat → Nat → α} {d : α} (h : Zr n F d) (hm : n ≤ m) : Zr m F d := fun x hx => h x (by omega)
theorem wq_genR {K : Kx} {u v n : Nat} {R : RM} {pc : Nat} {lv : List (Option Value)} {st : List Value} {I : IM} {L : LM} (h : ∀ R' I' L', R' = R → I' = I → L' = L → Wp K (u, v, n, R') pc lv st I' L') : Wp K (u, v, n, R) pc lv st I L := h R I L rfl rfl rfl
/-- what a constructor at a leaves, its cells ending at e -/
def Pc (a e : Nat) (R : RM) (I : IM) (L : LM) (n' : Nat) (R' : RM) (I' : IM) (L' : LM) : Prop := n' = e ∧ Zr e R' none ∧ Zr e I' 0 ∧ Zr e L' 0 ∧ (∀ x, a ≤ x → x < e → R' x = Rl false x) ∧ ∀ x, x < a → R' x = R x ∧ I' x = I x ∧ L' x = L x
theorem Rl_none {x : Nat} (h : (RlT false).getD x [] = []) : Rl false x = fun _ => none := by
  funext k
  show ((RlT false).getD x []).getD k none = none
  rw [h]; rfl
set_option maxRecDepth 20000 in
set_option maxHeartbeats 4000000 in
theorem in_4_1 {g : Gl} {D : Nat} {R0 : RM} {I0 : IM} {L0 : LM} (hD : 1 ≤ D) (zr0 : Zr 1 R0 none) (zi0 : Zr 1 I0 0) (zl0 : Zr 1 L0 0) : Mp g D 1 60 MX4_init [rf g 1] 2 R0 I0 L0 (fun r n' R' I' L' => r = none ∧ Pc 1 3 R0 I0 L0 n' R' I' L' ∧ I' 1 1 = 0) := by
  refine Mp.of 0 pf_X4_init (Nat.le_of_ble_eq_true rfl) ?_
  show Wp _ (0, 0, 2, R0) 0 [some (rf g 1)] [] I0 L0
  have ra0 : R0 1 = fun _ => none := zr0 1 (Nat.le_refl _)
  have ia0 : I0 1 = fun _ => 0 := zi0 1 (Nat.le_refl _)
  have la0 : L0 1 = fun _ => 0 := zl0 1 (Nat.le_refl _)
  replace zr0 := zr0.mono (Nat.le_succ _)
  replace zi0 := zi0.mono (Nat.le_succ _)
  replace zl0 := zl0.mono (Nat.le_succ _)
  refine wq_bload_n 1 0 dX4_init_0 rfl rfl rfl ?_
  refine wq_objInit 4 3 ol_X4_3 w_oinst w_ocode dX4_init_1 rfl (show 1 ≤ D by omega) (show 0 + 12 ≤ 38 * D by omega) ?_
  refine wq_bload_n 5 0 dX4_init_4 rfl rfl rfl ?_
  refine wq_bipush 7 60 dX4_init_5 rfl (by decide) ?_
  refine wq_newaI 9 60 ac_int dX4_init_7 rfl rfl rfl (by decide) (Nat.le_of_ble_eq_true rfl) (Nat.le_of_ble_eq_true rfl) (zi0 2 (by decide)) ?_
  refine wq_putR 12 fl_X4_9 dX4_init_9 rfl rfl (by first | exact Or.inl rfl | exact Or.inr ⟨rfl, rfl, rfl⟩) (fun _ => ⟨rfl, rfl⟩) ⟨Nat.le_of_ble_eq_true rfl, rfl⟩ ?_
  refine wq_bload_n 13 0 dX4_init_12 rfl rfl rfl ?_
  refine wq_iconst 14 0 dX4_init_13 rfl (by decide) ?_
  refine wq_putI 17 fl_X4_15 dX4_init_14 rfl rfl rfl rfl rfl ⟨Nat.le_of_ble_eq_true rfl, rfl⟩ ?_
  refine wq_genR (fun R1 I1 L1 eR1 eI1 eL1 => ?_)
  have ra1 : R1 1 = (va_up (fun _ => none) 0 (some 2)) := by rw [eR1]; simp only [va_up_self, ra0]
  have zr1 : Zr 2 R1 none := by rw [eR1]; exact (zr0.up (by decide) _)
  have bR1 : ∀ x, x ≠ 1 → R1 x = R0 x := fun x hx => by rw [eR1]; simp only [va_up_ne _ _ hx]
  have ia1 : I1 1 = (va_up (fun _ => 0) 1 0) := by rw [eI1]; simp only [va_up_self, ia0]
  have zi1 : Zr 2 I1 0 := by rw [eI1]; exact (zi0.up (by decide) _)
  have bI1 : ∀ x, x ≠ 1 → I1 x = I0 x := fun x hx => by rw [eI1]; simp only [va_up_ne _ _ hx]
  have la1 : L1 1 = (fun _ => 0) := by rw [eL1]; exact la0
  have zl1 : Zr 2 L1 0 := by rw [eL1]; exact zl0
  have bL1 : ∀ x, x ≠ 1 → L1 x = L0 x := fun x hx => by rw [eL1]
  clear eR1 eI1 eL1
  refine wq_vret dX4_init_17 rfl (Nat.le_of_ble_eq_true rfl) (Nat.le_of_ble_eq_true rfl) ?_
  refine ⟨rfl, ⟨rfl, zr1.mono (by decide), zi1.mono (by decide), zl1.mono (by decide), fun x x1 x2 => ?_, fun x hx => ⟨?_, ?_, ?_⟩⟩, by rw [ia1]; rfl⟩
  · by_cases h0 : x = 1
    · subst h0
      rw [ra1]
      funext k
      rcases k with _ | k
      · rfl
      · rfl
    · have hx0 : 1 < x := by omega
      have hr : x = 2 := by omega
      have ez : R1 x = fun _ => none := by
        rcases hr with rfl
        · rw [bR1 2 (by decide), zr0 2 (by decide)]
      rw [ez]
      rcases hr with rfl
      · exact (Rl_none rfl).symm
  · rw [bR1 x (by omega)]
  · rw [bI1 x (by omega)]
  · rw [bL1 x (by omega)]
set_option maxRecDepth 20000 in
set_option maxHeartbeats 4000000 in
theorem in_2_3 {g : Gl} {D : Nat} {R0 : RM} {I0 : IM} {L0 : LM} (hD : 1 ≤ D) (zr0 : Zr 3 R0 none) (zi0 : Zr 3 I0 0) (zl0 : Zr 3 L0 0) : Mp g D 4 550 MX2_init [rf g 3] 4 R0 I0 L0 (fun r n' R' I' L' => r = none ∧ Pc 3 8 R0 I0 L0 n' R' I' L' ∧ (I' 3 4 = 0 ∧ I' 3 5 = 0 ∧ L' 3 6 = 0 ∧ I' 3 7 = 4)) := by
  refine Mp.of 0 pf_X2_init (Nat.le_of_ble_eq_true rfl) ?_
  show Wp _ (0, 0, 4, R0) 0 [some (rf g 3)] [] I0 L0
  have ra0 : R0 3 = fun _ => none := zr0 3 (Nat.le_refl _)
  have ia0 : I0 3 = fun _ => 0 := zi0 3 (Nat.le_refl _)
  have la0 : L0 3 = fun _ => 0 := zl0 3 (Nat.le_refl _)
  replace zr0 := zr0.mono (Nat.le_succ _)
  replace zi0 := zi0.mono (Nat.le_succ _)
  replace zl0 := zl0.mono (Nat.le_succ _)
  refine wq_bload_n 1 0 dX2_init_0 rfl rfl rfl ?_
  refine wq_objInit 4 3 ol_X2_3 w_oinst w_ocode dX2_init_1 rfl (show 1 ≤ D by omega) (show 0 + 12 ≤ 38 * D by omega) ?_
  refine wq_bload_n 5 0 dX2_init_4 rfl rfl rfl ?_
  refine wq_sipush 8 360 dX2_init_5 rfl (by decide) ?_
  refine wq_newaI 10 360 ac_int dX2_init_8 rfl rfl rfl (by decide) (Nat.le_of_ble_eq_true rfl) (Nat.le_of_ble_eq_true rfl) (zi0 4 (by decide)) ?_
  refine wq_putR 13 fl_X2_9 dX2_init_10 rfl rfl (by first | exact Or.inl rfl | exact Or.inr ⟨rfl, rfl, rfl⟩) (fun _ => ⟨rfl, rfl⟩) ⟨Nat.le_of_ble_eq_true rfl, rfl⟩ ?_
  refine wq_bload_n 14 0 dX2_init_13 rfl rfl rfl ?_
  refine wq_bipush 16 90 dX2_init_14 rfl (by decide) ?_
  refine wq_newaL 18 90 ac_long dX2_init_16 rfl rfl rfl (by decide) (Nat.le_of_ble_eq_true rfl) (Nat.le_of_ble_eq_true rfl) (zl0 5 (by decide)) ?_
  refine wq_putR 21 fl_X2_15 dX2_init_18 rfl rfl (by first | exact Or.inl rfl | exact Or.inr ⟨rfl, rfl, rfl⟩) (fun _ => ⟨rfl, rfl⟩) ⟨Nat.le_of_ble_eq_true rfl, rfl⟩ ?_
  refine wq_bload_n 22 0 dX2_init_21 rfl rfl rfl ?_
  refine wq_bipush 24 90 dX2_init_22 rfl (by decide) ?_
  refine wq_newaI 26 90 ac_int dX2_init_24 rfl rfl rfl (by decide) (Nat.le_of_ble_eq_true rfl) (Nat.le_of_ble_eq_true rfl) (zi0 6 (by decide)) ?_
  refine wq_putR 29 fl_X2_19 dX2_init_26 rfl rfl (by first | exact Or.inl rfl | exact Or.inr ⟨rfl, rfl, rfl⟩) (fun _ => ⟨rfl, rfl⟩) ⟨Nat.le_of_ble_eq_true rfl, rfl⟩ ?_
  refine wq_bload_n 30 0 dX2_init_29 rfl rfl rfl ?_
  refine wq_bipush 32 10 dX2_init_30 rfl (by decide) ?_
  refine wq_newaI 34 10 ac_int dX2_init_32 rfl rfl rfl (by decide) (Nat.le_of_ble_eq_true rfl) (Nat.le_of_ble_eq_true rfl) (zi0 7 (by decide)) ?_
  refine wq_putR 37 fl_X2_22 dX2_init_34 rfl rfl (by first | exact Or.inl rfl | exact Or.inr ⟨rfl, rfl, rfl⟩) (fun _ => ⟨rfl, rfl⟩) ⟨Nat.le_of_ble_eq_true rfl, rfl⟩ ?_
  refine wq_bload_n 38 0 dX2_init_37 rfl rfl rfl ?_
  refine wq_iconst 39 0 dX2_init_38 rfl (by decide) ?_
  refine wq_putI 42 fl_X2_25 dX2_init_39 rfl rfl rfl rfl rfl ⟨Nat.le_of_ble_eq_true rfl, rfl⟩ ?_
  refine wq_bload_n 43 0 dX2_init_42 rfl rfl rfl ?_
  refine wq_iconst 44 0 dX2_init_43 rfl (by decide) ?_
  refine wq_putI 47 fl_X2_29 dX2_init_44 rfl rfl rfl rfl rfl ⟨Nat.le_of_ble_eq_true rfl, rfl⟩ ?_
  refine wq_bload_n 48 0 dX2_init_47 rfl rfl rfl ?_
  refine wq_lconst 49 0 dX2_init_48 rfl (by decide) ?_
  refine wq_putL 52 fl_X2_32 dX2_init_49 rfl rfl rfl rfl rfl ⟨Nat.le_of_ble_eq_true rfl, rfl⟩ ?_
  refine wq_bload_n 53 0 dX2_init_52 rfl rfl rfl ?_
  refine wq_iconst 54 4 dX2_init_53 rfl (by decide) ?_
  refine wq_putI 57 fl_X2_36 dX2_init_54 rfl rfl rfl rfl rfl ⟨Nat.le_of_ble_eq_true rfl, rfl⟩ ?_
  refine wq_genR (fun R1 I1 L1 eR1 eI1 eL1 => ?_)
  have ra1 : R1 3 = (va_up (va_up (va_up (va_up (fun _ => none) 0 (some 4)) 1 (some 5)) 2 (some 6)) 3 (some 7)) := by rw [eR1]; simp only [va_up_self, ra0]
  have zr1 : Zr 4 R1 none := by rw [eR1]; exact ((((zr0.up (by decide) _).up (by decide) _).up (by decide) _).up (by decide) _)
  have bR1 : ∀ x, x ≠ 3 → R1 x = R0 x := fun x hx => by rw [eR1]; simp only [va_up_ne _ _ hx]
  have ia1 : I1 3 = (va_up (va_up (va_up (fun _ => 0) 4 0) 5 0) 7 4) := by rw [eI1]; simp only [va_up_self, ia0]
  have zi1 : Zr 4 I1 0 := by rw [eI1]; exact (((zi0.up (by decide) _).up (by decide) _).up (by decide) _)
  have bI1 : ∀ x, x ≠ 3 → I1 x = I0 x := fun x hx => by rw [eI1]; simp only [va_up_ne _ _ hx]
  have la1 : L1 3 = (va_up (fun _ => 0) 6 0) := by rw [eL1]; simp only [va_up_self, la0]
  have zl1 : Zr 4 L1 0 := by rw [eL1]; exact (zl0.up (by decide) _)
  have bL1 : ∀ x, x ≠ 3 → L1 x = L0 x := fun x hx => by rw [eL1]; simp only [va_up_ne _ _ hx]
  clear eR1 eI1 eL1
  refine wq_vret dX2_init_57 rfl (Nat.le_of_ble_eq_true rfl) (Nat.le_of_ble_eq_true rfl) ?_
  refine ⟨rfl, ⟨rfl, zr1.mono (by decide), zi1.mono (by decide), zl1.mono (by decide), fun x x1 x2 => ?_, fun x hx => ⟨?_, ?_, ?_⟩⟩, ⟨by rw [ia1]; rfl, by rw [ia1]; rfl, by rw [la1]; rfl, by rw [ia1]; rfl⟩⟩
  · by_cases h0 : x = 3
    · subst h0
      rw [ra1]
      funext k
      rcases k with _ | _ | _ | _ | k
      · rfl
      · rfl
      · rfl
      · rfl
      · rfl
    · have hx0 : 3 < x := by omega
      have hr : x = 4 ∨ x = 5 ∨ x = 6 ∨ x = 7 := by omega
      have ez : R1 x = fun _ => none := by
        rcases hr with rfl | rfl | rfl | rfl
        · rw [bR1 4 (by decide), zr0 4 (by decide)]
        · rw [bR1 5 (by decide), zr0 5 (by decide)]
        · rw [bR1 6 (by decide), zr0 6 (by decide)]
        · rw [bR1 7 (by decide), zr0 7 (by decide)]
      rw [ez]
      rcases hr with rfl | rfl | rfl | rfl
      · exact (Rl_none rfl).symm
      · exact (Rl_none rfl).symm
      · exact (Rl_none rfl).symm
      · exact (Rl_none rfl).symm
  · rw [bR1 x (by omega)]
  · rw [bI1 x (by omega)]
  · rw [bL1 x (by omega)]
set_option maxRecDepth 20000 in
set_option maxHeartbeats 4000000 in
theorem in_2_32 {g : Gl} {D : Nat} {R0 : RM} {I0 : IM} {L0 : LM} (hD : 1 ≤ D) (zr0 : Zr 32 R0 none) (zi0 : Zr 32 I0 0) (zl0 : Zr 32 L0 0) : Mp g D 4 550 MX2_init [rf g 32] 33 R0 I0 L0 (fun r n' R' I' L' => r = none ∧ Pc 32 37 R0 I0 L0 n' R' I' L' ∧ (I' 32 4 = 0 ∧ I' 32 5 = 0 ∧ L' 32 6 = 0 ∧ I' 32 7 = 4)) := by
  refine Mp.of 0 pf_X2_init (Nat.le_of_ble_eq_true rfl) ?_
  show Wp _ (0, 0, 33, R0) 0 [some (rf g 32)] [] I0 L0
  have ra0 : R0 32 = fun _ => none := zr0 32 (Nat.le_refl _)
  have ia0 : I0 32 = fun _ => 0 := zi0 32 (Nat.le_refl _)
  have la0 : L0 32 = fun _ => 0 := zl0 32 (Nat.le_refl _)
  replace zr0 := zr0.mono (Nat.le_succ _)
  replace zi0 := zi0.mono (Nat.le_succ _)
  replace zl0 := zl0.mono (Nat.le_succ _)
  refine wq_bload_n 1 0 dX2_init_0 rfl rfl rfl ?_
  refine wq_objInit 4 3 ol_X2_3 w_oinst w_ocode dX2_init_1 rfl (show 1 ≤ D by omega) (show 0 + 12 ≤ 38 * D by omega) ?_
  refine wq_bload_n 5 0 dX2_init_4 rfl rfl rfl ?_
  refine wq_sipush 8 360 dX2_init_5 rfl (by decide) ?_
  refine wq_newaI 10 360 ac_int dX2_init_8 rfl rfl rfl (by decide) (Nat.le_of_ble_eq_true rfl) (Nat.le_of_ble_eq_true rfl) (zi0 33 (by decide)) ?_
  refine wq_putR 13 fl_X2_9 dX2_init_10 rfl rfl (by first | exact Or.inl rfl | exact Or.inr ⟨rfl, rfl, rfl⟩) (fun _ => ⟨rfl, rfl⟩) ⟨Nat.le_of_ble_eq_true rfl, rfl⟩ ?_
  refine wq_bload_n 14 0 dX2_init_13 rfl rfl rfl ?_
  refine wq_bipush 16 90 dX2_init_14 rfl (by decide) ?_
  refine wq_newaL 18 90 ac_long dX2_init_16 rfl rfl rfl (by decide) (Nat.le_of_ble_eq_true rfl) (Nat.le_of_ble_eq_true rfl) (zl0 34 (by decide)) ?_
  refine wq_putR 21 fl_X2_15 dX2_init_18 rfl rfl (by first | exact Or.inl rfl | exact Or.inr ⟨rfl, rfl, rfl⟩) (fun _ => ⟨rfl, rfl⟩) ⟨Nat.le_of_ble_eq_true rfl, rfl⟩ ?_
  refine wq_bload_n 22 0 dX2_init_21 rfl rfl rfl ?_
  refine wq_bipush 24 90 dX2_init_22 rfl (by decide) ?_
  refine wq_newaI 26 90 ac_int dX2_init_24 rfl rfl rfl (by decide) (Nat.le_of_ble_eq_true rfl) (Nat.le_of_ble_eq_true rfl) (zi0 35 (by decide)) ?_
  refine wq_putR 29 fl_X2_19 dX2_init_26 rfl rfl (by first | exact Or.inl rfl | exact Or.inr ⟨rfl, rfl, rfl⟩) (fun _ => ⟨rfl, rfl⟩) ⟨Nat.le_of_ble_eq_true rfl, rfl⟩ ?_
  refine wq_bload_n 30 0 dX2_init_29 rfl rfl rfl ?_
  refine wq_bipush 32 10 dX2_init_30 rfl (by decide) ?_
  refine wq_newaI 34 10 ac_int dX2_init_32 rfl rfl rfl (by decide) (Nat.le_of_ble_eq_true rfl) (Nat.le_of_ble_eq_true rfl) (zi0 36 (by decide)) ?_
  refine wq_putR 37 fl_X2_22 dX2_init_34 rfl rfl (by first | exact Or.inl rfl | exact Or.inr ⟨rfl, rfl, rfl⟩) (fun _ => ⟨rfl, rfl⟩) ⟨Nat.le_of_ble_eq_true rfl, rfl⟩ ?_
  refine wq_bload_n 38 0 dX2_init_37 rfl rfl rfl ?_
  refine wq_iconst 39 0 dX2_init_38 rfl (by decide) ?_
  refine wq_putI 42 fl_X2_25 dX2_init_39 rfl rfl rfl rfl rfl ⟨Nat.le_of_ble_eq_true rfl, rfl⟩ ?_
  refine wq_bload_n 43 0 dX2_init_42 rfl rfl rfl ?_
  refine wq_iconst 44 0 dX2_init_43 rfl (by decide) ?_
  refine wq_putI 47 fl_X2_29 dX2_init_44 rfl rfl rfl rfl rfl ⟨Nat.le_of_ble_eq_true rfl, rfl⟩ ?_
  refine wq_bload_n 48 0 dX2_init_47 rfl rfl rfl ?_
  refine wq_lconst 49 0 dX2_init_48 rfl (by decide) ?_
  refine wq_putL 52 fl_X2_32 dX2_init_49 rfl rfl rfl rfl rfl ⟨Nat.le_of_ble_eq_true rfl, rfl⟩ ?_
  refine wq_bload_n 53 0 dX2_init_52 rfl rfl rfl ?_
  refine wq_iconst 54 4 dX2_init_53 rfl (by decide) ?_
  refine wq_putI 57 fl_X2_36 dX2_init_54 rfl rfl rfl rfl rfl ⟨Nat.le_of_ble_eq_true rfl, rfl⟩ ?_
  refine wq_genR (fun R1 I1 L1 eR1 eI1 eL1 => ?_)
  have ra1 : R1 32 = (va_up (va_up (va_up (va_up (fun _ => none) 0 (some 33)) 1 (some 34)) 2 (some 35)) 3 (some 36)) := by rw [eR1]; simp only [va_up_self, ra0]
  have zr1 : Zr 33 R1 none := by rw [eR1]; exact ((((zr0.up (by decide) _).up (by decide) _).up (by decide) _).up (by decide) _)
  have bR1 : ∀ x, x ≠ 32 → R1 x = R0 x := fun x hx => by rw [eR1]; simp only [va_up_ne _ _ hx]
  have ia1 : I1 32 = (va_up (va_up (va_up (fun _ => 0) 4 0) 5 0) 7 4) := by rw [eI1]; simp only [va_up_self, ia0]
  have zi1 : Zr 33 I1 0 := by rw [eI1]; exact (((zi0.up (by decide) _).up (by decide) _).up (by decide) _)
  have bI1 : ∀ x, x ≠ 32 → I1 x = I0 x := fun x hx => by rw [eI1]; simp only [va_up_ne _ _ hx]
  have la1 : L1 32 = (va_up (fun _ => 0) 6 0) := by rw [eL1]; simp only [va_up_self, la0]
  have zl1 : Zr 33 L1 0 := by rw [eL1]; exact (zl0.up (by decide) _)
  have bL1 : ∀ x, x ≠ 32 → L1 x = L0 x := fun x hx => by rw [eL1]; simp only [va_up_ne _ _ hx]
  clear eR1 eI1 eL1
  refine wq_vret dX2_init_57 rfl (Nat.le_of_ble_eq_true rfl) (Nat.le_of_ble_eq_true rfl) ?_
  refine ⟨rfl, ⟨rfl, zr1.mono (by decide), zi1.mono (by decide), zl1.mono (by decide), fun x x1 x2 => ?_, fun x hx => ⟨?_, ?_, ?_⟩⟩, ⟨by rw [ia1]; rfl, by rw [ia1]; rfl, by rw [la1]; rfl, by rw [ia1]; rfl⟩⟩
  · by_cases h0 : x = 32
    · subst h0
      rw [ra1]
      funext k
      rcases k with _ | _ | _ | _ | k
      · rfl
      · rfl
      · rfl
      · rfl
      · rfl
    · have hx0 : 32 < x := by omega
      have hr : x = 33 ∨ x = 34 ∨ x = 35 ∨ x = 36 := by omega
      have ez : R1 x = fun _ => none := by
        rcases hr with rfl | rfl | rfl | rfl
        · rw [bR1 33 (by decide), zr0 33 (by decide)]
        · rw [bR1 34 (by decide), zr0 34 (by decide)]
        · rw [bR1 35 (by decide), zr0 35 (by decide)]
        · rw [bR1 36 (by decide), zr0 36 (by decide)]
      rw [ez]
      rcases hr with rfl | rfl | rfl | rfl
      · exact (Rl_none rfl).symm
      · exact (Rl_none rfl).symm
      · exact (Rl_none rfl).symm
      · exact (Rl_none rfl).symm
  · rw [bR1 x (by omega)]
  · rw [bI1 x (by omega)]
  · rw [bL1 x (by omega)]
set_option maxRecDepth 20000 in
set_option maxHeartbeats 4000000 in
theorem in_2_40 {g : Gl} {D : Nat} {R0 : RM} {I0 : IM} {L0 : LM} (hD : 1 ≤ D) (zr0 : Zr 40 R0 none) (zi0 : Zr 40 I0 0) (zl0 : Zr 40 L0 0) : Mp g D 4 550 MX2_init [rf g 40] 41 R0 I0 L0 (fun r n' R' I' L' => r = none ∧ Pc 40 45 R0 I0 L0 n' R' I' L' ∧ (I' 40 4 = 0 ∧ I' 40 5 = 0 ∧ L' 40 6 = 0 ∧ I' 40 7 = 4)) := by
  refine Mp.of 0 pf_X2_init (Nat.le_of_ble_eq_true rfl) ?_
  show Wp _ (0, 0, 41, R0) 0 [some (rf g 40)] [] I0 L0
  have ra0 : R0 40 = fun _ => none := zr0 40 (Nat.le_refl _)
  have ia0 : I0 40 = fun _ => 0 := zi0 40 (Nat.le_refl _)
  have la0 : L0 40 = fun _ => 0 := zl0 40 (Nat.le_refl _)
  replace zr0 := zr0.mono (Nat.le_succ _)
  replace zi0 := zi0.mono (Nat.le_succ _)
  replace zl0 := zl0.mono (Nat.le_succ _)
  refine wq_bload_n 1 0 dX2_init_0 rfl rfl rfl ?_
  refine wq_objInit 4 3 ol_X2_3 w_oinst w_ocode dX2_init_1 rfl (show 1 ≤ D by omega) (show 0 + 12 ≤ 38 * D by omega) ?_
  refine wq_bload_n 5 0 dX2_init_4 rfl rfl rfl ?_
  refine wq_sipush 8 360 dX2_init_5 rfl (by decide) ?_
  refine wq_newaI 10 360 ac_int dX2_init_8 rfl rfl rfl (by decide) (Nat.le_of_ble_eq_true rfl) (Nat.le_of_ble_eq_true rfl) (zi0 41 (by decide)) ?_
  refine wq_putR 13 fl_X2_9 dX2_init_10 rfl rfl (by first | exact Or.inl rfl | exact Or.inr ⟨rfl, rfl, rfl⟩) (fun _ => ⟨rfl, rfl⟩) ⟨Nat.le_of_ble_eq_true rfl, rfl⟩ ?_
  refine wq_bload_n 14 0 dX2_init_13 rfl rfl rfl ?_
  refine wq_bipush 16 90 dX2_init_14 rfl (by decide) ?_
  refine wq_newaL 18 90 ac_long dX2_init_16 rfl rfl rfl (by decide) (Nat.le_of_ble_eq_true rfl) (Nat.le_of_ble_eq_true rfl) (zl0 42 (by decide)) ?_
  refine wq_putR 21 fl_X2_15 dX2_init_18 rfl rfl (by first | exact Or.inl rfl | exact Or.inr ⟨rfl, rfl, rfl⟩) (fun _ => ⟨rfl, rfl⟩) ⟨Nat.le_of_ble_eq_true rfl, rfl⟩ ?_
  refine wq_bload_n 22 0 dX2_init_21 rfl rfl rfl ?_
  refine wq_bipush 24 90 dX2_init_22 rfl (by decide) ?_
  refine wq_newaI 26 90 ac_int dX2_init_24 rfl rfl rfl (by decide) (Nat.le_of_ble_eq_true rfl) (Nat.le_of_ble_eq_true rfl) (zi0 43 (by decide)) ?_
  refine wq_putR 29 fl_X2_19 dX2_init_26 rfl rfl (by first | exact Or.inl rfl | exact Or.inr ⟨rfl, rfl, rfl⟩) (fun _ => ⟨rfl, rfl⟩) ⟨Nat.le_of_ble_eq_true rfl, rfl⟩ ?_
  refine wq_bload_n 30 0 dX2_init_29 rfl rfl rfl ?_
  refine wq_bipush 32 10 dX2_init_30 rfl (by decide) ?_
  refine wq_newaI 34 10 ac_int dX2_init_32 rfl rfl rfl (by decide) (Nat.le_of_ble_eq_true rfl) (Nat.le_of_ble_eq_true rfl) (zi0 44 (by decide)) ?_
  refine wq_putR 37 fl_X2_22 dX2_init_34 rfl rfl (by first | exact Or.inl rfl | exact Or.inr ⟨rfl, rfl, rfl⟩) (fun _ => ⟨rfl, rfl⟩) ⟨Nat.le_of_ble_eq_true rfl, rfl⟩ ?_
  refine wq_bload_n 38 0 dX2_init_37 rfl rfl rfl ?_
  refine wq_iconst 39 0 dX2_init_38 rfl (by decide) ?_
  refine wq_putI 42 fl_X2_25 dX2_init_39 rfl rfl rfl rfl rfl ⟨Nat.le_of_ble_eq_true rfl, rfl⟩ ?_
  refine wq_bload_n 43 0 dX2_init_42 rfl rfl rfl ?_
  refine wq_iconst 44 0 dX2_init_43 rfl (by decide) ?_
  refine wq_putI 47 fl_X2_29 dX2_init_44 rfl rfl rfl rfl rfl ⟨Nat.le_of_ble_eq_true rfl, rfl⟩ ?_
  refine wq_bload_n 48 0 dX2_init_47 rfl rfl rfl ?_
  refine wq_lconst 49 0 dX2_init_48 rfl (by decide) ?_
  refine wq_putL 52 fl_X2_32 dX2_init_49 rfl rfl rfl rfl rfl ⟨Nat.le_of_ble_eq_true rfl, rfl⟩ ?_
  refine wq_bload_n 53 0 dX2_init_52 rfl rfl rfl ?_
  refine wq_iconst 54 4 dX2_init_53 rfl (by decide) ?_
  refine wq_putI 57 fl_X2_36 dX2_init_54 rfl rfl rfl rfl rfl ⟨Nat.le_of_ble_eq_true rfl, rfl⟩ ?_
  refine wq_genR (fun R1 I1 L1 eR1 eI1 eL1 => ?_)
  have ra1 : R1 40 = (va_up (va_up (va_up (va_up (fun _ => none) 0 (some 41)) 1 (some 42)) 2 (some 43)) 3 (some 44)) := by rw [eR1]; simp only [va_up_self, ra0]
  have zr1 : Zr 41 R1 none := by rw [eR1]; exact ((((zr0.up (by decide) _).up (by decide) _).up (by decide) _).up (by decide) _)
  have bR1 : ∀ x, x ≠ 40 → R1 x = R0 x := fun x hx => by rw [eR1]; simp only [va_up_ne _ _ hx]
  have ia1 : I1 40 = (va_up (va_up (va_up (fun _ => 0) 4 0) 5 0) 7 4) := by rw [eI1]; simp only [va_up_self, ia0]
  have zi1 : Zr 41 I1 0 := by rw [eI1]; exact (((zi0.up (by decide) _).up (by decide) _).up (by decide) _)
  have bI1 : ∀ x, x ≠ 40 → I1 x = I0 x := fun x hx => by rw [eI1]; simp only [va_up_ne _ _ hx]
  have la1 : L1 40 = (va_up (fun _ => 0) 6 0) := by rw [eL1]; simp only [va_up_self, la0]
  have zl1 : Zr 41 L1 0 := by rw [eL1]; exact (zl0.up (by decide) _)
  have bL1 : ∀ x, x ≠ 40 → L1 x = L0 x := fun x hx => by rw [eL1]; simp only [va_up_ne _ _ hx]
  clear eR1 eI1 eL1
  refine wq_vret dX2_init_57 rfl (Nat.le_of_ble_eq_true rfl) (Nat.le_of_ble_eq_true rfl) ?_
  refine ⟨rfl, ⟨rfl, zr1.mono (by decide), zi1.mono (by decide), zl1.mono (by decide), fun x x1 x2 => ?_, fun x hx => ⟨?_, ?_, ?_⟩⟩, ⟨by rw [ia1]; rfl, by rw [ia1]; rfl, by rw [la1]; rfl, by rw [ia1]; rfl⟩⟩
  · by_cases h0 : x = 40
    · subst h0
      rw [ra1]
      funext k
      rcases k with _ | _ | _ | _ | k
      · rfl
      · rfl
      · rfl
      · rfl
      · rfl
    · have hx0 : 40 < x := by omega
      have hr : x = 41 ∨ x = 42 ∨ x = 43 ∨ x = 44 := by omega
      have ez : R1 x = fun _ => none := by
        rcases hr with rfl | rfl | rfl | rfl
        · rw [bR1 41 (by decide), zr0 41 (by decide)]
        · rw [bR1 42 (by decide), zr0 42 (by decide)]
        · rw [bR1 43 (by decide), zr0 43 (by decide)]
        · rw [bR1 44 (by decide), zr0 44 (by decide)]
      rw [ez]
      rcases hr with rfl | rfl | rfl | rfl
      · exact (Rl_none rfl).symm
      · exact (Rl_none rfl).symm
      · exact (Rl_none rfl).symm
      · exact (Rl_none rfl).symm
  · rw [bR1 x (by omega)]
  · rw [bI1 x (by omega)]
  · rw [bL1 x (by omega)]
set_option maxRecDepth 20000 in
set_option maxHeartbeats 4000000 in
theorem in_2_45 {g : Gl} {D : Nat} {R0 : RM} {I0 : IM} {L0 : LM} (hD : 1 ≤ D) (zr0 : Zr 45 R0 none) (zi0 : Zr 45 I0 0) (zl0 : Zr 45 L0 0) : Mp g D 4 550 MX2_init [rf g 45] 46 R0 I0 L0 (fun r n' R' I' L' => r = none ∧ Pc 45 50 R0 I0 L0 n' R' I' L' ∧ (I' 45 4 = 0 ∧ I' 45 5 = 0 ∧ L' 45 6 = 0 ∧ I' 45 7 = 4)) := by
  refine Mp.of 0 pf_X2_init (Nat.le_of_ble_eq_true rfl) ?_
  show Wp _ (0, 0, 46, R0) 0 [some (rf g 45)] [] I0 L0
  have ra0 : R0 45 = fun _ => none := zr0 45 (Nat.le_refl _)
  have ia0 : I0 45 = fun _ => 0 := zi0 45 (Nat.le_refl _)
  have la0 : L0 45 = fun _ => 0 := zl0 45 (Nat.le_refl _)
  replace zr0 := zr0.mono (Nat.le_succ _)
  replace zi0 := zi0.mono (Nat.le_succ _)
  replace zl0 := zl0.mono (Nat.le_succ _)
  refine wq_bload_n 1 0 dX2_init_0 rfl rfl rfl ?_
  refine wq_objInit 4 3 ol_X2_3 w_oinst w_ocode dX2_init_1 rfl (show 1 ≤ D by omega) (show 0 + 12 ≤ 38 * D by omega) ?_
  refine wq_bload_n 5 0 dX2_init_4 rfl rfl rfl ?_
  refine wq_sipush 8 360 dX2_init_5 rfl (by decide) ?_
  refine wq_newaI 10 360 ac_int dX2_init_8 rfl rfl rfl (by decide) (Nat.le_of_ble_eq_true rfl) (Nat.le_of_ble_eq_true rfl) (zi0 46 (by decide)) ?_
  refine wq_putR 13 fl_X2_9 dX2_init_10 rfl rfl (by first | exact Or.inl rfl | exact Or.inr ⟨rfl, rfl, rfl⟩) (fun _ => ⟨rfl, rfl⟩) ⟨Nat.le_of_ble_eq_true rfl, rfl⟩ ?_
  refine wq_bload_n 14 0 dX2_init_13 rfl rfl rfl ?_
  refine wq_bipush 16 90 dX2_init_14 rfl (by decide) ?_
  refine wq_newaL 18 90 ac_long dX2_init_16 rfl rfl rfl (by decide) (Nat.le_of_ble_eq_true rfl) (Nat.le_of_ble_eq_true rfl) (zl0 47 (by decide)) ?_
  refine wq_putR 21 fl_X2_15 dX2_init_18 rfl rfl (by first | exact Or.inl rfl | exact Or.inr ⟨rfl, rfl, rfl⟩) (fun _ => ⟨rfl, rfl⟩) ⟨Nat.le_of_ble_eq_true rfl, rfl⟩ ?_
  refine wq_bload_n 22 0 dX2_init_21 rfl rfl rfl ?_
  refine wq_bipush 24 90 dX2_init_22 rfl (by decide) ?_
  refine wq_newaI 26 90 ac_int dX2_init_24 rfl rfl rfl (by decide) (Nat.le_of_ble_eq_true rfl) (Nat.le_of_ble_eq_true rfl) (zi0 48 (by decide)) ?_
  refine wq_putR 29 fl_X2_19 dX2_init_26 rfl rfl (by first | exact Or.inl rfl | exact Or.inr ⟨rfl, rfl, rfl⟩) (fun _ => ⟨rfl, rfl⟩) ⟨Nat.le_of_ble_eq_true rfl, rfl⟩ ?_
  refine wq_bload_n 30 0 dX2_init_29 rfl rfl rfl ?_
  refine wq_bipush 32 10 dX2_init_30 rfl (by decide) ?_
  refine wq_newaI 34 10 ac_int dX2_init_32 rfl rfl rfl (by decide) (Nat.le_of_ble_eq_true rfl) (Nat.le_of_ble_eq_true rfl) (zi0 49 (by decide)) ?_
  refine wq_putR 37 fl_X2_22 dX2_init_34 rfl rfl (by first | exact Or.inl rfl | exact Or.inr ⟨rfl, rfl, rfl⟩) (fun _ => ⟨rfl, rfl⟩) ⟨Nat.le_of_ble_eq_true rfl, rfl⟩ ?_
  refine wq_bload_n 38 0 dX2_init_37 rfl rfl rfl ?_
  refine wq_iconst 39 0 dX2_init_38 rfl (by decide) ?_
  refine wq_putI 42 fl_X2_25 dX2_init_39 rfl rfl rfl rfl rfl ⟨Nat.le_of_ble_eq_true rfl, rfl⟩ ?_
  refine wq_bload_n 43 0 dX2_init_42 rfl rfl rfl ?_
  refine wq_iconst 44 0 dX2_init_43 rfl (by decide) ?_
  refine wq_putI 47 fl_X2_29 dX2_init_44 rfl rfl rfl rfl rfl ⟨Nat.le_of_ble_eq_true rfl, rfl⟩ ?_
  refine wq_bload_n 48 0 dX2_init_47 rfl rfl rfl ?_
  refine wq_lconst 49 0 dX2_init_48 rfl (by decide) ?_
  refine wq_putL 52 fl_X2_32 dX2_init_49 rfl rfl rfl rfl rfl ⟨Nat.le_of_ble_eq_true rfl, rfl⟩ ?_
  refine wq_bload_n 53 0 dX2_init_52 rfl rfl rfl ?_
  refine wq_iconst 54 4 dX2_init_53 rfl (by decide) ?_
  refine wq_putI 57 fl_X2_36 dX2_init_54 rfl rfl rfl rfl rfl ⟨Nat.le_of_ble_eq_true rfl, rfl⟩ ?_
  refine wq_genR (fun R1 I1 L1 eR1 eI1 eL1 => ?_)
  have ra1 : R1 45 = (va_up (va_up (va_up (va_up (fun _ => none) 0 (some 46)) 1 (some 47)) 2 (some 48)) 3 (some 49)) := by rw [eR1]; simp only [va_up_self, ra0]
  have zr1 : Zr 46 R1 none := by rw [eR1]; exact ((((zr0.up (by decide) _).up (by decide) _).up (by decide) _).up (by decide) _)
  have bR1 : ∀ x, x ≠ 45 → R1 x = R0 x := fun x hx => by rw [eR1]; simp only [va_up_ne _ _ hx]
  have ia1 : I1 45 = (va_up (va_up (va_up (fun _ => 0) 4 0) 5 0) 7 4) := by rw [eI1]; simp only [va_up_self, ia0]
  have zi1 : Zr 46 I1 0 := by rw [eI1]; exact (((zi0.up (by decide) _).up (by decide) _).up (by decide) _)
  have bI1 : ∀ x, x ≠ 45 → I1 x = I0 x := fun x hx => by rw [eI1]; simp only [va_up_ne _ _ hx]
  have la1 : L1 45 = (va_up (fun _ => 0) 6 0) := by rw [eL1]; simp only [va_up_self, la0]
  have zl1 : Zr 46 L1 0 := by rw [eL1]; exact (zl0.up (by decide) _)
  have bL1 : ∀ x, x ≠ 45 → L1 x = L0 x := fun x hx => by rw [eL1]; simp only [va_up_ne _ _ hx]
  clear eR1 eI1 eL1
  refine wq_vret dX2_init_57 rfl (Nat.le_of_ble_eq_true rfl) (Nat.le_of_ble_eq_true rfl) ?_
  refine ⟨rfl, ⟨rfl, zr1.mono (by decide), zi1.mono (by decide), zl1.mono (by decide), fun x x1 x2 => ?_, fun x hx => ⟨?_, ?_, ?_⟩⟩, ⟨by rw [ia1]; rfl, by rw [ia1]; rfl, by rw [la1]; rfl, by rw [ia1]; rfl⟩⟩
  · by_cases h0 : x = 45
    · subst h0
      rw [ra1]
      funext k
      rcases k with _ | _ | _ | _ | k
      · rfl
      · rfl
      · rfl
      · rfl
      · rfl
    · have hx0 : 45 < x := by omega
      have hr : x = 46 ∨ x = 47 ∨ x = 48 ∨ x = 49 := by omega
      have ez : R1 x = fun _ => none := by
        rcases hr with rfl | rfl | rfl | rfl
        · rw [bR1 46 (by decide), zr0 46 (by decide)]
        · rw [bR1 47 (by decide), zr0 47 (by decide)]
        · rw [bR1 48 (by decide), zr0 48 (by decide)]
        · rw [bR1 49 (by decide), zr0 49 (by decide)]
      rw [ez]
      rcases hr with rfl | rfl | rfl | rfl
      · exact (Rl_none rfl).symm
      · exact (Rl_none rfl).symm
      · exact (Rl_none rfl).symm
      · exact (Rl_none rfl).symm
  · rw [bR1 x (by omega)]
  · rw [bI1 x (by omega)]
  · rw [bL1 x (by omega)]
set_option maxRecDepth 20000 in
set_option maxHeartbeats 4000000 in
theorem in_2_60 {g : Gl} {D : Nat} {R0 : RM} {I0 : IM} {L0 : LM} (hD : 1 ≤ D) (zr0 : Zr 60 R0 none) (zi0 : Zr 60 I0 0) (zl0 : Zr 60 L0 0) : Mp g D 4 550 MX2_init [rf g 60] 61 R0 I0 L0 (fun r n' R' I' L' => r = none ∧ Pc 60 65 R0 I0 L0 n' R' I' L' ∧ (I' 60 4 = 0 ∧ I' 60 5 = 0 ∧ L' 60 6 = 0 ∧ I' 60 7 = 4)) := by
  refine Mp.of 0 pf_X2_init (Nat.le_of_ble_eq_true rfl) ?_
  show Wp _ (0, 0, 61, R0) 0 [some (rf g 60)] [] I0 L0
  have ra0 : R0 60 = fun _ => none := zr0 60 (Nat.le_refl _)
  have ia0 : I0 60 = fun _ => 0 := zi0 60 (Nat.le_refl _)
  have la0 : L0 60 = fun _ => 0 := zl0 60 (Nat.le_refl _)
  replace zr0 := zr0.mono (Nat.le_succ _)
  replace zi0 := zi0.mono (Nat.le_succ _)
  replace zl0 := zl0.mono (Nat.le_succ _)
  refine wq_bload_n 1 0 dX2_init_0 rfl rfl rfl ?_
  refine wq_objInit 4 3 ol_X2_3 w_oinst w_ocode dX2_init_1 rfl (show 1 ≤ D by omega) (show 0 + 12 ≤ 38 * D by omega) ?_
  refine wq_bload_n 5 0 dX2_init_4 rfl rfl rfl ?_
  refine wq_sipush 8 360 dX2_init_5 rfl (by decide) ?_
  refine wq_newaI 10 360 ac_int dX2_init_8 rfl rfl rfl (by decide) (Nat.le_of_ble_eq_true rfl) (Nat.le_of_ble_eq_true rfl) (zi0 61 (by decide)) ?_
  refine wq_putR 13 fl_X2_9 dX2_init_10 rfl rfl (by first | exact Or.inl rfl | exact Or.inr ⟨rfl, rfl, rfl⟩) (fun _ => ⟨rfl, rfl⟩) ⟨Nat.le_of_ble_eq_true rfl, rfl⟩ ?_
  refine wq_bload_n 14 0 dX2_init_13 rfl rfl rfl ?_
  refine wq_bipush 16 90 dX2_init_14 rfl (by decide) ?_
  refine wq_newaL 18 90 ac_long dX2_init_16 rfl rfl rfl (by decide) (Nat.le_of_ble_eq_true rfl) (Nat.le_of_ble_eq_true rfl) (zl0 62 (by decide)) ?_
  refine wq_putR 21 fl_X2_15 dX2_init_18 rfl rfl (by first | exact Or.inl rfl | exact Or.inr ⟨rfl, rfl, rfl⟩) (fun _ => ⟨rfl, rfl⟩) ⟨Nat.le_of_ble_eq_true rfl, rfl⟩ ?_
  refine wq_bload_n 22 0 dX2_init_21 rfl rfl rfl ?_
  refine wq_bipush 24 90 dX2_init_22 rfl (by decide) ?_
  refine wq_newaI 26 90 ac_int dX2_init_24 rfl rfl rfl (by decide) (Nat.le_of_ble_eq_true rfl) (Nat.le_of_ble_eq_true rfl) (zi0 63 (by decide)) ?_
  refine wq_putR 29 fl_X2_19 dX2_init_26 rfl rfl (by first | exact Or.inl rfl | exact Or.inr ⟨rfl, rfl, rfl⟩) (fun _ => ⟨rfl, rfl⟩) ⟨Nat.le_of_ble_eq_true rfl, rfl⟩ ?_
  refine wq_bload_n 30 0 dX2_init_29 rfl rfl rfl ?_
  refine wq_bipush 32 10 dX2_init_30 rfl (by decide) ?_
  refine wq_newaI 34 10 ac_int dX2_init_32 rfl rfl rfl (by decide) (Nat.le_of_ble_eq_true rfl) (Nat.le_of_ble_eq_true rfl) (zi0 64 (by decide)) ?_
  refine wq_putR 37 fl_X2_22 dX2_init_34 rfl rfl (by first | exact Or.inl rfl | exact Or.inr ⟨rfl, rfl, rfl⟩) (fun _ => ⟨rfl, rfl⟩) ⟨Nat.le_of_ble_eq_true rfl, rfl⟩ ?_
  refine wq_bload_n 38 0 dX2_init_37 rfl rfl rfl ?_
  refine wq_iconst 39 0 dX2_init_38 rfl (by decide) ?_
  refine wq_putI 42 fl_X2_25 dX2_init_39 rfl rfl rfl rfl rfl ⟨Nat.le_of_ble_eq_true rfl, rfl⟩ ?_
  refine wq_bload_n 43 0 dX2_init_42 rfl rfl rfl ?_
  refine wq_iconst 44 0 dX2_init_43 rfl (by decide) ?_
  refine wq_putI 47 fl_X2_29 dX2_init_44 rfl rfl rfl rfl rfl ⟨Nat.le_of_ble_eq_true rfl, rfl⟩ ?_
  refine wq_bload_n 48 0 dX2_init_47 rfl rfl rfl ?_
  refine wq_lconst 49 0 dX2_init_48 rfl (by decide) ?_
  refine wq_putL 52 fl_X2_32 dX2_init_49 rfl rfl rfl rfl rfl ⟨Nat.le_of_ble_eq_true rfl, rfl⟩ ?_
  refine wq_bload_n 53 0 dX2_init_52 rfl rfl rfl ?_
  refine wq_iconst 54 4 dX2_init_53 rfl (by decide) ?_
  refine wq_putI 57 fl_X2_36 dX2_init_54 rfl rfl rfl rfl rfl ⟨Nat.le_of_ble_eq_true rfl, rfl⟩ ?_
  refine wq_genR (fun R1 I1 L1 eR1 eI1 eL1 => ?_)
  have ra1 : R1 60 = (va_up (va_up (va_up (va_up (fun _ => none) 0 (some 61)) 1 (some 62)) 2 (some 63)) 3 (some 64)) := by rw [eR1]; simp only [va_up_self, ra0]
  have zr1 : Zr 61 R1 none := by rw [eR1]; exact ((((zr0.up (by decide) _).up (by decide) _).up (by decide) _).up (by decide) _)
  have bR1 : ∀ x, x ≠ 60 → R1 x = R0 x := fun x hx => by rw [eR1]; simp only [va_up_ne _ _ hx]
  have ia1 : I1 60 = (va_up (va_up (va_up (fun _ => 0) 4 0) 5 0) 7 4) := by rw [eI1]; simp only [va_up_self, ia0]
  have zi1 : Zr 61 I1 0 := by rw [eI1]; exact (((zi0.up (by decide) _).up (by decide) _).up (by decide) _)
  have bI1 : ∀ x, x ≠ 60 → I1 x = I0 x := fun x hx => by rw [eI1]; simp only [va_up_ne _ _ hx]
  have la1 : L1 60 = (va_up (fun _ => 0) 6 0) := by rw [eL1]; simp only [va_up_self, la0]
  have zl1 : Zr 61 L1 0 := by rw [eL1]; exact (zl0.up (by decide) _)
  have bL1 : ∀ x, x ≠ 60 → L1 x = L0 x := fun x hx => by rw [eL1]; simp only [va_up_ne _ _ hx]
  clear eR1 eI1 eL1
  refine wq_vret dX2_init_57 rfl (Nat.le_of_ble_eq_true rfl) (Nat.le_of_ble_eq_true rfl) ?_
  refine ⟨rfl, ⟨rfl, zr1.mono (by decide), zi1.mono (by decide), zl1.mono (by decide), fun x x1 x2 => ?_, fun x hx => ⟨?_, ?_, ?_⟩⟩, ⟨by rw [ia1]; rfl, by rw [ia1]; rfl, by rw [la1]; rfl, by rw [ia1]; rfl⟩⟩
  · by_cases h0 : x = 60
    · subst h0
      rw [ra1]
      funext k
      rcases k with _ | _ | _ | _ | k
      · rfl
      · rfl
      · rfl
      · rfl
      · rfl
    · have hx0 : 60 < x := by omega
      have hr : x = 61 ∨ x = 62 ∨ x = 63 ∨ x = 64 := by omega
      have ez : R1 x = fun _ => none := by
        rcases hr with rfl | rfl | rfl | rfl
        · rw [bR1 61 (by decide), zr0 61 (by decide)]
        · rw [bR1 62 (by decide), zr0 62 (by decide)]
        · rw [bR1 63 (by decide), zr0 63 (by decide)]
        · rw [bR1 64 (by decide), zr0 64 (by decide)]
      rw [ez]
      rcases hr with rfl | rfl | rfl | rfl
      · exact (Rl_none rfl).symm
      · exact (Rl_none rfl).symm
      · exact (Rl_none rfl).symm
      · exact (Rl_none rfl).symm
  · rw [bR1 x (by omega)]
  · rw [bI1 x (by omega)]
  · rw [bL1 x (by omega)]
set_option maxRecDepth 20000 in
set_option maxHeartbeats 4000000 in
theorem in_2_66 {g : Gl} {D : Nat} {R0 : RM} {I0 : IM} {L0 : LM} (hD : 1 ≤ D) (zr0 : Zr 66 R0 none) (zi0 : Zr 66 I0 0) (zl0 : Zr 66 L0 0) : Mp g D 4 550 MX2_init [rf g 66] 67 R0 I0 L0 (fun r n' R' I' L' => r = none ∧ Pc 66 71 R0 I0 L0 n' R' I' L' ∧ (I' 66 4 = 0 ∧ I' 66 5 = 0 ∧ L' 66 6 = 0 ∧ I' 66 7 = 4)) := by
  refine Mp.of 0 pf_X2_init (Nat.le_of_ble_eq_true rfl) ?_
  show Wp _ (0, 0, 67, R0) 0 [some (rf g 66)] [] I0 L0
  have ra0 : R0 66 = fun _ => none := zr0 66 (Nat.le_refl _)
  have ia0 : I0 66 = fun _ => 0 := zi0 66 (Nat.le_refl _)
  have la0 : L0 66 = fun _ => 0 := zl0 66 (Nat.le_refl _)
  replace zr0 := zr0.mono (Nat.le_succ _)
  replace zi0 := zi0.mono (Nat.le_succ _)
  replace zl0 := zl0.mono (Nat.le_succ _)
  refine wq_bload_n 1 0 dX2_init_0 rfl rfl rfl ?_
  refine wq_objInit 4 3 ol_X2_3 w_oinst w_ocode dX2_init_1 rfl (show 1 ≤ D by omega) (show 0 + 12 ≤ 38 * D by omega) ?_
  refine wq_bload_n 5 0 dX2_init_4 rfl rfl rfl ?_
  refine wq_sipush 8 360 dX2_init_5 rfl (by decide) ?_
  refine wq_newaI 10 360 ac_int dX2_init_8 rfl rfl rfl (by decide) (Nat.le_of_ble_eq_true rfl) (Nat.le_of_ble_eq_true rfl) (zi0 67 (by decide)) ?_
  refine wq_putR 13 fl_X2_9 dX2_init_10 rfl rfl (by first | exact Or.inl rfl | exact Or.inr ⟨rfl, rfl, rfl⟩) (fun _ => ⟨rfl, rfl⟩) ⟨Nat.le_of_ble_eq_true rfl, rfl⟩ ?_
  refine wq_bload_n 14 0 dX2_init_13 rfl rfl rfl ?_
  refine wq_bipush 16 90 dX2_init_14 rfl (by decide) ?_
  refine wq_newaL 18 90 ac_long dX2_init_16 rfl rfl rfl (by decide) (Nat.le_of_ble_eq_true rfl) (Nat.le_of_ble_eq_true rfl) (zl0 68 (by decide)) ?_
  refine wq_putR 21 fl_X2_15 dX2_init_18 rfl rfl (by first | exact Or.inl rfl | exact Or.inr ⟨rfl, rfl, rfl⟩) (fun _ => ⟨rfl, rfl⟩) ⟨Nat.le_of_ble_eq_true rfl, rfl⟩ ?_
  refine wq_bload_n 22 0 dX2_init_21 rfl rfl rfl ?_
  refine wq_bipush 24 90 dX2_init_22 rfl (by decide) ?_
  refine wq_newaI 26 90 ac_int dX2_init_24 rfl rfl rfl (by decide) (Nat.le_of_ble_eq_true rfl) (Nat.le_of_ble_eq_true rfl) (zi0 69 (by decide)) ?_
  refine wq_putR 29 fl_X2_19 dX2_init_26 rfl rfl (by first | exact Or.inl rfl | exact Or.inr ⟨rfl, rfl, rfl⟩) (fun _ => ⟨rfl, rfl⟩) ⟨Nat.le_of_ble_eq_true rfl, rfl⟩ ?_
  refine wq_bload_n 30 0 dX2_init_29 rfl rfl rfl ?_
  refine wq_bipush 32 10 dX2_init_30 rfl (by decide) ?_
  refine wq_newaI 34 10 ac_int dX2_init_32 rfl rfl rfl (by decide) (Nat.le_of_ble_eq_true rfl) (Nat.le_of_ble_eq_true rfl) (zi0 70 (by decide)) ?_
  refine wq_putR 37 fl_X2_22 dX2_init_34 rfl rfl (by first | exact Or.inl rfl | exact Or.inr ⟨rfl, rfl, rfl⟩) (fun _ => ⟨rfl, rfl⟩) ⟨Nat.le_of_ble_eq_true rfl, rfl⟩ ?_
  refine wq_bload_n 38 0 dX2_init_37 rfl rfl rfl ?_
  refine wq_iconst 39 0 dX2_init_38 rfl (by decide) ?_
  refine wq_putI 42 fl_X2_25 dX2_init_39 rfl rfl rfl rfl rfl ⟨Nat.le_of_ble_eq_true rfl, rfl⟩ ?_
  refine wq_bload_n 43 0 dX2_init_42 rfl rfl rfl ?_
  refine wq_iconst 44 0 dX2_init_43 rfl (by decide) ?_
  refine wq_putI 47 fl_X2_29 dX2_init_44 rfl rfl rfl rfl rfl ⟨Nat.le_of_ble_eq_true rfl, rfl⟩ ?_
  refine wq_bload_n 48 0 dX2_init_47 rfl rfl rfl ?_
  refine wq_lconst 49 0 dX2_init_48 rfl (by decide) ?_
  refine wq_putL 52 fl_X2_32 dX2_init_49 rfl rfl rfl rfl rfl ⟨Nat.le_of_ble_eq_true rfl, rfl⟩ ?_
  refine wq_bload_n 53 0 dX2_init_52 rfl rfl rfl ?_
  refine wq_iconst 54 4 dX2_init_53 rfl (by decide) ?_
  refine wq_putI 57 fl_X2_36 dX2_init_54 rfl rfl rfl rfl rfl ⟨Nat.le_of_ble_eq_true rfl, rfl⟩ ?_
  refine wq_genR (fun R1 I1 L1 eR1 eI1 eL1 => ?_)
  have ra1 : R1 66 = (va_up (va_up (va_up (va_up (fun _ => none) 0 (some 67)) 1 (some 68)) 2 (some 69)) 3 (some 70)) := by rw [eR1]; simp only [va_up_self, ra0]
  have zr1 : Zr 67 R1 none := by rw [eR1]; exact ((((zr0.up (by decide) _).up (by decide) _).up (by decide) _).up (by decide) _)
  have bR1 : ∀ x, x ≠ 66 → R1 x = R0 x := fun x hx => by rw [eR1]; simp only [va_up_ne _ _ hx]
  have ia1 : I1 66 = (va_up (va_up (va_up (fun _ => 0) 4 0) 5 0) 7 4) := by rw [eI1]; simp only [va_up_self, ia0]
  have zi1 : Zr 67 I1 0 := by rw [eI1]; exact (((zi0.up (by decide) _).up (by decide) _).up (by decide) _)
  have bI1 : ∀ x, x ≠ 66 → I1 x = I0 x := fun x hx => by rw [eI1]; simp only [va_up_ne _ _ hx]
  have la1 : L1 66 = (va_up (fun _ => 0) 6 0) := by rw [eL1]; simp only [va_up_self, la0]
  have zl1 : Zr 67 L1 0 := by rw [eL1]; exact (zl0.up (by decide) _)
  have bL1 : ∀ x, x ≠ 66 → L1 x = L0 x := fun x hx => by rw [eL1]; simp only [va_up_ne _ _ hx]
  clear eR1 eI1 eL1
  refine wq_vret dX2_init_57 rfl (Nat.le_of_ble_eq_true rfl) (Nat.le_of_ble_eq_true rfl) ?_
  refine ⟨rfl, ⟨rfl, zr1.mono (by decide), zi1.mono (by decide), zl1.mono (by decide), fun x x1 x2 => ?_, fun x hx => ⟨?_, ?_, ?_⟩⟩, ⟨by rw [ia1]; rfl, by rw [ia1]; rfl, by rw [la1]; rfl, by rw [ia1]; rfl⟩⟩
  · by_cases h0 : x = 66
    · subst h0
      rw [ra1]
      funext k
      rcases k with _ | _ | _ | _ | k
      · rfl
      · rfl
      · rfl
      · rfl
      · rfl
    · have hx0 : 66 < x := by omega
      have hr : x = 67 ∨ x = 68 ∨ x = 69 ∨ x = 70 := by omega
      have ez : R1 x = fun _ => none := by
        rcases hr with rfl | rfl | rfl | rfl
        · rw [bR1 67 (by decide), zr0 67 (by decide)]
        · rw [bR1 68 (by decide), zr0 68 (by decide)]
        · rw [bR1 69 (by decide), zr0 69 (by decide)]
        · rw [bR1 70 (by decide), zr0 70 (by decide)]
      rw [ez]
      rcases hr with rfl | rfl | rfl | rfl
      · exact (Rl_none rfl).symm
      · exact (Rl_none rfl).symm
      · exact (Rl_none rfl).symm
      · exact (Rl_none rfl).symm
  · rw [bR1 x (by omega)]
  · rw [bI1 x (by omega)]
  · rw [bL1 x (by omega)]
set_option maxRecDepth 20000 in
set_option maxHeartbeats 4000000 in
theorem in_3_8 {g : Gl} {D : Nat} {R0 : RM} {I0 : IM} {L0 : LM} (hD : 1 ≤ D) (zr0 : Zr 8 R0 none) (zi0 : Zr 8 I0 0) (zl0 : Zr 8 L0 0) : Mp g D 5 398 MX3_init [rf g 8] 9 R0 I0 L0 (fun r n' R' I' L' => r = none ∧ Pc 8 14 R0 I0 L0 n' R' I' L' ∧ True) := by
  refine Mp.of 0 pf_X3_init (Nat.le_of_ble_eq_true rfl) ?_
  show Wp _ (0, 0, 9, R0) 0 [some (rf g 8)] [] I0 L0
  have ra0 : R0 8 = fun _ => none := zr0 8 (Nat.le_refl _)
  have ia0 : I0 8 = fun _ => 0 := zi0 8 (Nat.le_refl _)
  have la0 : L0 8 = fun _ => 0 := zl0 8 (Nat.le_refl _)
  replace zr0 := zr0.mono (Nat.le_succ _)
  replace zi0 := zi0.mono (Nat.le_succ _)
  replace zl0 := zl0.mono (Nat.le_succ _)
  refine wq_bload_n 1 0 dX3_init_0 rfl rfl rfl ?_
  refine wq_objInit 4 3 ol_X3_3 w_oinst w_ocode dX3_init_1 rfl (show 1 ≤ D by omega) (show 0 + 12 ≤ 38 * D by omega) ?_
  refine wq_bload_n 5 0 dX3_init_4 rfl rfl rfl ?_
  refine wq_bipush 7 90 dX3_init_5 rfl (by decide) ?_
  refine wq_newaL 9 90 ac_long dX3_init_7 rfl rfl rfl (by decide) (Nat.le_of_ble_eq_true rfl) (Nat.le_of_ble_eq_true rfl) (zl0 9 (by decide)) ?_
  refine wq_putR 12 fl_X3_9 dX3_init_9 rfl rfl (by first | exact Or.inl rfl | exact Or.inr ⟨rfl, rfl, rfl⟩) (fun _ => ⟨rfl, rfl⟩) ⟨Nat.le_of_ble_eq_true rfl, rfl⟩ ?_
  refine wq_bload_n 13 0 dX3_init_12 rfl rfl rfl ?_
  refine wq_bipush 15 90 dX3_init_13 rfl (by decide) ?_
  refine wq_newaL 17 90 ac_long dX3_init_15 rfl rfl rfl (by decide) (Nat.le_of_ble_eq_true rfl) (Nat.le_of_ble_eq_true rfl) (zl0 10 (by decide)) ?_
  refine wq_putR 20 fl_X3_15 dX3_init_17 rfl rfl (by first | exact Or.inl rfl | exact Or.inr ⟨rfl, rfl, rfl⟩) (fun _ => ⟨rfl, rfl⟩) ⟨Nat.le_of_ble_eq_true rfl, rfl⟩ ?_
  refine wq_bload_n 21 0 dX3_init_20 rfl rfl rfl ?_
  refine wq_bipush 23 90 dX3_init_21 rfl (by decide) ?_
  refine wq_newaI 25 90 ac_int dX3_init_23 rfl rfl rfl (by decide) (Nat.le_of_ble_eq_true rfl) (Nat.le_of_ble_eq_true rfl) (zi0 11 (by decide)) ?_
  refine wq_putR 28 fl_X3_18 dX3_init_25 rfl rfl (by first | exact Or.inl rfl | exact Or.inr ⟨rfl, rfl, rfl⟩) (fun _ => ⟨rfl, rfl⟩) ⟨Nat.le_of_ble_eq_true rfl, rfl⟩ ?_
  refine wq_bload_n 29 0 dX3_init_28 rfl rfl rfl ?_
  refine wq_bipush 31 64 dX3_init_29 rfl (by decide) ?_
  refine wq_newaL 33 64 ac_long dX3_init_31 rfl rfl rfl (by decide) (Nat.le_of_ble_eq_true rfl) (Nat.le_of_ble_eq_true rfl) (zl0 12 (by decide)) ?_
  refine wq_putR 36 fl_X3_22 dX3_init_33 rfl rfl (by first | exact Or.inl rfl | exact Or.inr ⟨rfl, rfl, rfl⟩) (fun _ => ⟨rfl, rfl⟩) ⟨Nat.le_of_ble_eq_true rfl, rfl⟩ ?_
  refine wq_bload_n 37 0 dX3_init_36 rfl rfl rfl ?_
  refine wq_bipush 39 64 dX3_init_37 rfl (by decide) ?_
  refine wq_newaI 41 64 ac_int dX3_init_39 rfl rfl rfl (by decide) (Nat.le_of_ble_eq_true rfl) (Nat.le_of_ble_eq_true rfl) (zi0 13 (by decide)) ?_
  refine wq_putR 44 fl_X3_25 dX3_init_41 rfl rfl (by first | exact Or.inl rfl | exact Or.inr ⟨rfl, rfl, rfl⟩) (fun _ => ⟨rfl, rfl⟩) ⟨Nat.le_of_ble_eq_true rfl, rfl⟩ ?_
  refine wq_genR (fun R1 I1 L1 eR1 eI1 eL1 => ?_)
  have ra1 : R1 8 = (va_up (va_up (va_up (va_up (va_up (fun _ => none) 0 (some 9)) 1 (some 10)) 2 (some 11)) 3 (some 12)) 4 (some 13)) := by rw [eR1]; simp only [va_up_self, ra0]
  have zr1 : Zr 9 R1 none := by rw [eR1]; exact (((((zr0.up (by decide) _).up (by decide) _).up (by decide) _).up (by decide) _).up (by decide) _)
  have bR1 : ∀ x, x ≠ 8 → R1 x = R0 x := fun x hx => by rw [eR1]; simp only [va_up_ne _ _ hx]
  have ia1 : I1 8 = (fun _ => 0) := by rw [eI1]; exact ia0
  have zi1 : Zr 9 I1 0 := by rw [eI1]; exact zi0
  have bI1 : ∀ x, x ≠ 8 → I1 x = I0 x := fun x hx => by rw [eI1]
  have la1 : L1 8 = (fun _ => 0) := by rw [eL1]; exact la0
  have zl1 : Zr 9 L1 0 := by rw [eL1]; exact zl0
  have bL1 : ∀ x, x ≠ 8 → L1 x = L0 x := fun x hx => by rw [eL1]
  clear eR1 eI1 eL1
  refine wq_vret dX3_init_44 rfl (Nat.le_of_ble_eq_true rfl) (Nat.le_of_ble_eq_true rfl) ?_
  refine ⟨rfl, ⟨rfl, zr1.mono (by decide), zi1.mono (by decide), zl1.mono (by decide), fun x x1 x2 => ?_, fun x hx => ⟨?_, ?_, ?_⟩⟩, trivial⟩
  · by_cases h0 : x = 8
    · subst h0
      rw [ra1]
      funext k
      rcases k with _ | _ | _ | _ | _ | k
      · rfl
      · rfl
      · rfl
      · rfl
      · rfl
      · rfl
    · have hx0 : 8 < x := by omega
      have hr : x = 9 ∨ x = 10 ∨ x = 11 ∨ x = 12 ∨ x = 13 := by omega
      have ez : R1 x = fun _ => none := by
        rcases hr with rfl | rfl | rfl | rfl | rfl
        · rw [bR1 9 (by decide), zr0 9 (by decide)]
        · rw [bR1 10 (by decide), zr0 10 (by decide)]
        · rw [bR1 11 (by decide), zr0 11 (by decide)]
        · rw [bR1 12 (by decide), zr0 12 (by decide)]
        · rw [bR1 13 (by decide), zr0 13 (by decide)]
      rw [ez]
      rcases hr with rfl | rfl | rfl | rfl | rfl
      · exact (Rl_none rfl).symm
      · exact (Rl_none rfl).symm
      · exact (Rl_none rfl).symm
      · exact (Rl_none rfl).symm
      · exact (Rl_none rfl).symm
  · rw [bR1 x (by omega)]
  · rw [bI1 x (by omega)]
  · rw [bL1 x (by omega)]
set_option maxRecDepth 20000 in
set_option maxHeartbeats 4000000 in
theorem in_3_15 {g : Gl} {D : Nat} {R0 : RM} {I0 : IM} {L0 : LM} (hD : 1 ≤ D) (zr0 : Zr 15 R0 none) (zi0 : Zr 15 I0 0) (zl0 : Zr 15 L0 0) : Mp g D 5 398 MX3_init [rf g 15] 16 R0 I0 L0 (fun r n' R' I' L' => r = none ∧ Pc 15 21 R0 I0 L0 n' R' I' L' ∧ True) := by
  refine Mp.of 0 pf_X3_init (Nat.le_of_ble_eq_true rfl) ?_
  show Wp _ (0, 0, 16, R0) 0 [some (rf g 15)] [] I0 L0
  have ra0 : R0 15 = fun _ => none := zr0 15 (Nat.le_refl _)
  have ia0 : I0 15 = fun _ => 0 := zi0 15 (Nat.le_refl _)
  have la0 : L0 15 = fun _ => 0 := zl0 15 (Nat.le_refl _)
  replace zr0 := zr0.mono (Nat.le_succ _)
  replace zi0 := zi0.mono (Nat.le_succ _)
  replace zl0 := zl0.mono (Nat.le_succ _)
  refine wq_bload_n 1 0 dX3_init_0 rfl rfl rfl ?_
  refine wq_objInit 4 3 ol_X3_3 w_oinst w_ocode dX3_init_1 rfl (show 1 ≤ D by omega) (show 0 + 12 ≤ 38 * D by omega) ?_
  refine wq_bload_n 5 0 dX3_init_4 rfl rfl rfl ?_
  refine wq_bipush 7 90 dX3_init_5 rfl (by decide) ?_
  refine wq_newaL 9 90 ac_long dX3_init_7 rfl rfl rfl (by decide) (Nat.le_of_ble_eq_true rfl) (Nat.le_of_ble_eq_true rfl) (zl0 16 (by decide)) ?_
  refine wq_putR 12 fl_X3_9 dX3_init_9 rfl rfl (by first | exact Or.inl rfl | exact Or.inr ⟨rfl, rfl, rfl⟩) (fun _ => ⟨rfl, rfl⟩) ⟨Nat.le_of_ble_eq_true rfl, rfl⟩ ?_
  refine wq_bload_n 13 0 dX3_init_12 rfl rfl rfl ?_
  refine wq_bipush 15 90 dX3_init_13 rfl (by decide) ?_
  refine wq_newaL 17 90 ac_long dX3_init_15 rfl rfl rfl (by decide) (Nat.le_of_ble_eq_true rfl) (Nat.le_of_ble_eq_true rfl) (zl0 17 (by decide)) ?_
  refine wq_putR 20 fl_X3_15 dX3_init_17 rfl rfl (by first | exact Or.inl rfl | exact Or.inr ⟨rfl, rfl, rfl⟩) (fun _ => ⟨rfl, rfl⟩) ⟨Nat.le_of_ble_eq_true rfl, rfl⟩ ?_
  refine wq_bload_n 21 0 dX3_init_20 rfl rfl rfl ?_
  refine wq_bipush 23 90 dX3_init_21 rfl (by decide) ?_
  refine wq_newaI 25 90 ac_int dX3_init_23 rfl rfl rfl (by decide) (Nat.le_of_ble_eq_true rfl) (Nat.le_of_ble_eq_true rfl) (zi0 18 (by decide)) ?_
  refine wq_putR 28 fl_X3_18 dX3_init_25 rfl rfl (by first | exact Or.inl rfl | exact Or.inr ⟨rfl, rfl, rfl⟩) (fun _ => ⟨rfl, rfl⟩) ⟨Nat.le_of_ble_eq_true rfl, rfl⟩ ?_
  refine wq_bload_n 29 0 dX3_init_28 rfl rfl rfl ?_
  refine wq_bipush 31 64 dX3_init_29 rfl (by decide) ?_
  refine wq_newaL 33 64 ac_long dX3_init_31 rfl rfl rfl (by decide) (Nat.le_of_ble_eq_true rfl) (Nat.le_of_ble_eq_true rfl) (zl0 19 (by decide)) ?_
  refine wq_putR 36 fl_X3_22 dX3_init_33 rfl rfl (by first | exact Or.inl rfl | exact Or.inr ⟨rfl, rfl, rfl⟩) (fun _ => ⟨rfl, rfl⟩) ⟨Nat.le_of_ble_eq_true rfl, rfl⟩ ?_
  refine wq_bload_n 37 0 dX3_init_36 rfl rfl rfl ?_
  refine wq_bipush 39 64 dX3_init_37 rfl (by decide) ?_
  refine wq_newaI 41 64 ac_int dX3_init_39 rfl rfl rfl (by decide) (Nat.le_of_ble_eq_true rfl) (Nat.le_of_ble_eq_true rfl) (zi0 20 (by decide)) ?_
  refine wq_putR 44 fl_X3_25 dX3_init_41 rfl rfl (by first | exact Or.inl rfl | exact Or.inr ⟨rfl, rfl, rfl⟩) (fun _ => ⟨rfl, rfl⟩) ⟨Nat.le_of_ble_eq_true rfl, rfl⟩ ?_
  refine wq_genR (fun R1 I1 L1 eR1 eI1 eL1 => ?_)
  have ra1 : R1 15 = (va_up (va_up (va_up (va_up (va_up (fun _ => none) 0 (some 16)) 1 (some 17)) 2 (some 18)) 3 (some 19)) 4 (some 20)) := by rw [eR1]; simp only [va_up_self, ra0]
  have zr1 : Zr 16 R1 none := by rw [eR1]; exact (((((zr0.up (by decide) _).up (by decide) _).up (by decide) _).up (by decide) _).up (by decide) _)
  have bR1 : ∀ x, x ≠ 15 → R1 x = R0 x := fun x hx => by rw [eR1]; simp only [va_up_ne _ _ hx]
  have ia1 : I1 15 = (fun _ => 0) := by rw [eI1]; exact ia0
  have zi1 : Zr 16 I1 0 := by rw [eI1]; exact zi0
  have bI1 : ∀ x, x ≠ 15 → I1 x = I0 x := fun x hx => by rw [eI1]
  have la1 : L1 15 = (fun _ => 0) := by rw [eL1]; exact la0
  have zl1 : Zr 16 L1 0 := by rw [eL1]; exact zl0
  have bL1 : ∀ x, x ≠ 15 → L1 x = L0 x := fun x hx => by rw [eL1]
  clear eR1 eI1 eL1
  refine wq_vret dX3_init_44 rfl (Nat.le_of_ble_eq_true rfl) (Nat.le_of_ble_eq_true rfl) ?_
  refine ⟨rfl, ⟨rfl, zr1.mono (by decide), zi1.mono (by decide), zl1.mono (by decide), fun x x1 x2 => ?_, fun x hx => ⟨?_, ?_, ?_⟩⟩, trivial⟩
  · by_cases h0 : x = 15
    · subst h0
      rw [ra1]
      funext k
      rcases k with _ | _ | _ | _ | _ | k
      · rfl
      · rfl
      · rfl
      · rfl
      · rfl
      · rfl
    · have hx0 : 15 < x := by omega
      have hr : x = 16 ∨ x = 17 ∨ x = 18 ∨ x = 19 ∨ x = 20 := by omega
      have ez : R1 x = fun _ => none := by
        rcases hr with rfl | rfl | rfl | rfl | rfl
        · rw [bR1 16 (by decide), zr0 16 (by decide)]
        · rw [bR1 17 (by decide), zr0 17 (by decide)]
        · rw [bR1 18 (by decide), zr0 18 (by decide)]
        · rw [bR1 19 (by decide), zr0 19 (by decide)]
        · rw [bR1 20 (by decide), zr0 20 (by decide)]
      rw [ez]
      rcases hr with rfl | rfl | rfl | rfl | rfl
      · exact (Rl_none rfl).symm
      · exact (Rl_none rfl).symm
      · exact (Rl_none rfl).symm
      · exact (Rl_none rfl).symm
      · exact (Rl_none rfl).symm
  · rw [bR1 x (by omega)]
  · rw [bI1 x (by omega)]
  · rw [bL1 x (by omega)]
set_option maxRecDepth 20000 in
set_option maxHeartbeats 4000000 in
theorem in_6_50 {g : Gl} {D : Nat} {R0 : RM} {I0 : IM} {L0 : LM} (hD : 1 ≤ D) (zr0 : Zr 50 R0 none) (zi0 : Zr 50 I0 0) (zl0 : Zr 50 L0 0) : Mp g D 3 628 MX6_init [rf g 50] 51 R0 I0 L0 (fun r n' R' I' L' => r = none ∧ Pc 50 54 R0 I0 L0 n' R' I' L' ∧ True) := by
  refine Mp.of 0 pf_X6_init (Nat.le_of_ble_eq_true rfl) ?_
  show Wp _ (0, 0, 51, R0) 0 [some (rf g 50)] [] I0 L0
  have ra0 : R0 50 = fun _ => none := zr0 50 (Nat.le_refl _)
  have ia0 : I0 50 = fun _ => 0 := zi0 50 (Nat.le_refl _)
  have la0 : L0 50 = fun _ => 0 := zl0 50 (Nat.le_refl _)
  replace zr0 := zr0.mono (Nat.le_succ _)
  replace zi0 := zi0.mono (Nat.le_succ _)
  replace zl0 := zl0.mono (Nat.le_succ _)
  refine wq_bload_n 1 0 dX6_init_0 rfl rfl rfl ?_
  refine wq_objInit 4 3 ol_X6_3 w_oinst w_ocode dX6_init_1 rfl (show 1 ≤ D by omega) (show 0 + 12 ≤ 38 * D by omega) ?_
  refine wq_bload_n 5 0 dX6_init_4 rfl rfl rfl ?_
  refine wq_bipush 7 64 dX6_init_5 rfl (by decide) ?_
  refine wq_newaI 9 64 ac_int dX6_init_7 rfl rfl rfl (by decide) (Nat.le_of_ble_eq_true rfl) (Nat.le_of_ble_eq_true rfl) (zi0 51 (by decide)) ?_
  refine wq_putR 12 fl_X6_9 dX6_init_9 rfl rfl (by first | exact Or.inl rfl | exact Or.inr ⟨rfl, rfl, rfl⟩) (fun _ => ⟨rfl, rfl⟩) ⟨Nat.le_of_ble_eq_true rfl, rfl⟩ ?_
  refine wq_bload_n 13 0 dX6_init_12 rfl rfl rfl ?_
  refine wq_bipush 15 64 dX6_init_13 rfl (by decide) ?_
  refine wq_newaI 17 64 ac_int dX6_init_15 rfl rfl rfl (by decide) (Nat.le_of_ble_eq_true rfl) (Nat.le_of_ble_eq_true rfl) (zi0 52 (by decide)) ?_
  refine wq_putR 20 fl_X6_15 dX6_init_17 rfl rfl (by first | exact Or.inl rfl | exact Or.inr ⟨rfl, rfl, rfl⟩) (fun _ => ⟨rfl, rfl⟩) ⟨Nat.le_of_ble_eq_true rfl, rfl⟩ ?_
  refine wq_bload_n 21 0 dX6_init_20 rfl rfl rfl ?_
  refine wq_sipush 24 500 dX6_init_21 rfl (by decide) ?_
  refine wq_newaI 26 500 ac_int dX6_init_24 rfl rfl rfl (by decide) (Nat.le_of_ble_eq_true rfl) (Nat.le_of_ble_eq_true rfl) (zi0 53 (by decide)) ?_
  refine wq_putR 29 fl_X6_18 dX6_init_26 rfl rfl (by first | exact Or.inl rfl | exact Or.inr ⟨rfl, rfl, rfl⟩) (fun _ => ⟨rfl, rfl⟩) ⟨Nat.le_of_ble_eq_true rfl, rfl⟩ ?_
  refine wq_bload_n 30 0 dX6_init_29 rfl rfl rfl ?_
  refine wq_iconst 31 0 dX6_init_30 rfl (by decide) ?_
  refine wq_putI 34 fl_X6_21 dX6_init_31 rfl rfl rfl rfl rfl ⟨Nat.le_of_ble_eq_true rfl, rfl⟩ ?_
  refine wq_bload_n 35 0 dX6_init_34 rfl rfl rfl ?_
  refine wq_iconst 36 0 dX6_init_35 rfl (by decide) ?_
  refine wq_putI 39 fl_X6_25 dX6_init_36 rfl rfl rfl rfl rfl ⟨Nat.le_of_ble_eq_true rfl, rfl⟩ ?_
  refine wq_bload_n 40 0 dX6_init_39 rfl rfl rfl ?_
  refine wq_iconst 41 0 dX6_init_40 rfl (by decide) ?_
  refine wq_putI 44 fl_X6_28 dX6_init_41 rfl rfl rfl rfl rfl ⟨Nat.le_of_ble_eq_true rfl, rfl⟩ ?_
  refine wq_bload_n 45 0 dX6_init_44 rfl rfl rfl ?_
  refine wq_iconst 46 0 dX6_init_45 rfl (by decide) ?_
  refine wq_putI 49 fl_X6_31 dX6_init_46 rfl rfl rfl rfl rfl ⟨Nat.le_of_ble_eq_true rfl, rfl⟩ ?_
  refine wq_bload_n 50 0 dX6_init_49 rfl rfl rfl ?_
  refine wq_iconst 51 0 dX6_init_50 rfl (by decide) ?_
  refine wq_putI 54 fl_X6_34 dX6_init_51 rfl rfl rfl rfl rfl ⟨Nat.le_of_ble_eq_true rfl, rfl⟩ ?_
  refine wq_bload_n 55 0 dX6_init_54 rfl rfl rfl ?_
  refine wq_iconst 56 0 dX6_init_55 rfl (by decide) ?_
  refine wq_putI 59 fl_X6_37 dX6_init_56 rfl rfl rfl rfl rfl ⟨Nat.le_of_ble_eq_true rfl, rfl⟩ ?_
  refine wq_genR (fun R1 I1 L1 eR1 eI1 eL1 => ?_)
  have ra1 : R1 50 = (va_up (va_up (va_up (fun _ => none) 0 (some 51)) 1 (some 52)) 2 (some 53)) := by rw [eR1]; simp only [va_up_self, ra0]
  have zr1 : Zr 51 R1 none := by rw [eR1]; exact (((zr0.up (by decide) _).up (by decide) _).up (by decide) _)
  have bR1 : ∀ x, x ≠ 50 → R1 x = R0 x := fun x hx => by rw [eR1]; simp only [va_up_ne _ _ hx]
  have ia1 : I1 50 = (va_up (va_up (va_up (va_up (va_up (va_up (fun _ => 0) 3 0) 4 0) 5 0) 6 0) 7 0) 8 0) := by rw [eI1]; simp only [va_up_self, ia0]
  have zi1 : Zr 51 I1 0 := by rw [eI1]; exact ((((((zi0.up (by decide) _).up (by decide) _).up (by decide) _).up (by decide) _).up (by decide) _).up (by decide) _)
  have bI1 : ∀ x, x ≠ 50 → I1 x = I0 x := fun x hx => by rw [eI1]; simp only [va_up_ne _ _ hx]
  have la1 : L1 50 = (fun _ => 0) := by rw [eL1]; exact la0
  have zl1 : Zr 51 L1 0 := by rw [eL1]; exact zl0
  have bL1 : ∀ x, x ≠ 50 → L1 x = L0 x := fun x hx => by rw [eL1]
  clear eR1 eI1 eL1
  refine wq_vret dX6_init_59 rfl (Nat.le_of_ble_eq_true rfl) (Nat.le_of_ble_eq_true rfl) ?_
  refine ⟨rfl, ⟨rfl, zr1.mono (by decide), zi1.mono (by decide), zl1.mono (by decide), fun x x1 x2 => ?_, fun x hx => ⟨?_, ?_, ?_⟩⟩, trivial⟩
  · by_cases h0 : x = 50
    · subst h0
      rw [ra1]
      funext k
      rcases k with _ | _ | _ | k
      · rfl
      · rfl
      · rfl
      · rfl
    · have hx0 : 50 < x := by omega
      have hr : x = 51 ∨ x = 52 ∨ x = 53 := by omega
      have ez : R1 x = fun _ => none := by
        rcases hr with rfl | rfl | rfl
        · rw [bR1 51 (by decide), zr0 51 (by decide)]
        · rw [bR1 52 (by decide), zr0 52 (by decide)]
        · rw [bR1 53 (by decide), zr0 53 (by decide)]
      rw [ez]
      rcases hr with rfl | rfl | rfl
      · exact (Rl_none rfl).symm
      · exact (Rl_none rfl).symm
      · exact (Rl_none rfl).symm
  · rw [bR1 x (by omega)]
  · rw [bI1 x (by omega)]
  · rw [bL1 x (by omega)]
set_option maxRecDepth 20000 in
set_option maxHeartbeats 4000000 in
theorem in_6_54 {g : Gl} {D : Nat} {R0 : RM} {I0 : IM} {L0 : LM} (hD : 1 ≤ D) (zr0 : Zr 54 R0 none) (zi0 : Zr 54 I0 0) (zl0 : Zr 54 L0 0) : Mp g D 3 628 MX6_init [rf g 54] 55 R0 I0 L0 (fun r n' R' I' L' => r = none ∧ Pc 54 58 R0 I0 L0 n' R' I' L' ∧ True) := by
  refine Mp.of 0 pf_X6_init (Nat.le_of_ble_eq_true rfl) ?_
  show Wp _ (0, 0, 55, R0) 0 [some (rf g 54)] [] I0 L0
  have ra0 : R0 54 = fun _ => none := zr0 54 (Nat.le_refl _)
  have ia0 : I0 54 = fun _ => 0 := zi0 54 (Nat.le_refl _)
  have la0 : L0 54 = fun _ => 0 := zl0 54 (Nat.le_refl _)
  replace zr0 := zr0.mono (Nat.le_succ _)
  replace zi0 := zi0.mono (Nat.le_succ _)
  replace zl0 := zl0.mono (Nat.le_succ _)
  refine wq_bload_n 1 0 dX6_init_0 rfl rfl rfl ?_
  refine wq_objInit 4 3 ol_X6_3 w_oinst w_ocode dX6_init_1 rfl (show 1 ≤ D by omega) (show 0 + 12 ≤ 38 * D by omega) ?_
  refine wq_bload_n 5 0 dX6_init_4 rfl rfl rfl ?_
  refine wq_bipush 7 64 dX6_init_5 rfl (by decide) ?_
  refine wq_newaI 9 64 ac_int dX6_init_7 rfl rfl rfl (by decide) (Nat.le_of_ble_eq_true rfl) (Nat.le_of_ble_eq_true rfl) (zi0 55 (by decide)) ?_
  refine wq_putR 12 fl_X6_9 dX6_init_9 rfl rfl (by first | exact Or.inl rfl | exact Or.inr ⟨rfl, rfl, rfl⟩) (fun _ => ⟨rfl, rfl⟩) ⟨Nat.le_of_ble_eq_true rfl, rfl⟩ ?_
  refine wq_bload_n 13 0 dX6_init_12 rfl rfl rfl ?_
  refine wq_bipush 15 64 dX6_init_13 rfl (by decide) ?_
  refine wq_newaI 17 64 ac_int dX6_init_15 rfl rfl rfl (by decide) (Nat.le_of_ble_eq_true rfl) (Nat.le_of_ble_eq_true rfl) (zi0 56 (by decide)) ?_
  refine wq_putR 20 fl_X6_15 dX6_init_17 rfl rfl (by first | exact Or.inl rfl | exact Or.inr ⟨rfl, rfl, rfl⟩) (fun _ => ⟨rfl, rfl⟩) ⟨Nat.le_of_ble_eq_true rfl, rfl⟩ ?_
  refine wq_bload_n 21 0 dX6_init_20 rfl rfl rfl ?_
  refine wq_sipush 24 500 dX6_init_21 rfl (by decide) ?_
  refine wq_newaI 26 500 ac_int dX6_init_24 rfl rfl rfl (by decide) (Nat.le_of_ble_eq_true rfl) (Nat.le_of_ble_eq_true rfl) (zi0 57 (by decide)) ?_
  refine wq_putR 29 fl_X6_18 dX6_init_26 rfl rfl (by first | exact Or.inl rfl | exact Or.inr ⟨rfl, rfl, rfl⟩) (fun _ => ⟨rfl, rfl⟩) ⟨Nat.le_of_ble_eq_true rfl, rfl⟩ ?_
  refine wq_bload_n 30 0 dX6_init_29 rfl rfl rfl ?_
  refine wq_iconst 31 0 dX6_init_30 rfl (by decide) ?_
  refine wq_putI 34 fl_X6_21 dX6_init_31 rfl rfl rfl rfl rfl ⟨Nat.le_of_ble_eq_true rfl, rfl⟩ ?_
  refine wq_bload_n 35 0 dX6_init_34 rfl rfl rfl ?_
  refine wq_iconst 36 0 dX6_init_35 rfl (by decide) ?_
  refine wq_putI 39 fl_X6_25 dX6_init_36 rfl rfl rfl rfl rfl ⟨Nat.le_of_ble_eq_true rfl, rfl⟩ ?_
  refine wq_bload_n 40 0 dX6_init_39 rfl rfl rfl ?_
  refine wq_iconst 41 0 dX6_init_40 rfl (by decide) ?_
  refine wq_putI 44 fl_X6_28 dX6_init_41 rfl rfl rfl rfl rfl ⟨Nat.le_of_ble_eq_true rfl, rfl⟩ ?_
  refine wq_bload_n 45 0 dX6_init_44 rfl rfl rfl ?_
  refine wq_iconst 46 0 dX6_init_45 rfl (by decide) ?_
  refine wq_putI 49 fl_X6_31 dX6_init_46 rfl rfl rfl rfl rfl ⟨Nat.le_of_ble_eq_true rfl, rfl⟩ ?_
  refine wq_bload_n 50 0 dX6_init_49 rfl rfl rfl ?_
  refine wq_iconst 51 0 dX6_init_50 rfl (by decide) ?_
  refine wq_putI 54 fl_X6_34 dX6_init_51 rfl rfl rfl rfl rfl ⟨Nat.le_of_ble_eq_true rfl, rfl⟩ ?_
  refine wq_bload_n 55 0 dX6_init_54 rfl rfl rfl ?_
  refine wq_iconst 56 0 dX6_init_55 rfl (by decide) ?_
  refine wq_putI 59 fl_X6_37 dX6_init_56 rfl rfl rfl rfl rfl ⟨Nat.le_of_ble_eq_true rfl, rfl⟩ ?_
  refine wq_genR (fun R1 I1 L1 eR1 eI1 eL1 => ?_)
  have ra1 : R1 54 = (va_up (va_up (va_up (fun _ => none) 0 (some 55)) 1 (some 56)) 2 (some 57)) := by rw [eR1]; simp only [va_up_self, ra0]
  have zr1 : Zr 55 R1 none := by rw [eR1]; exact (((zr0.up (by decide) _).up (by decide) _).up (by decide) _)
  have bR1 : ∀ x, x ≠ 54 → R1 x = R0 x := fun x hx => by rw [eR1]; simp only [va_up_ne _ _ hx]
  have ia1 : I1 54 = (va_up (va_up (va_up (va_up (va_up (va_up (fun _ => 0) 3 0) 4 0) 5 0) 6 0) 7 0) 8 0) := by rw [eI1]; simp only [va_up_self, ia0]
  have zi1 : Zr 55 I1 0 := by rw [eI1]; exact ((((((zi0.up (by decide) _).up (by decide) _).up (by decide) _).up (by decide) _).up (by decide) _).up (by decide) _)
  have bI1 : ∀ x, x ≠ 54 → I1 x = I0 x := fun x hx => by rw [eI1]; simp only [va_up_ne _ _ hx]
  have la1 : L1 54 = (fun _ => 0) := by rw [eL1]; exact la0
  have zl1 : Zr 55 L1 0 := by rw [eL1]; exact zl0
  have bL1 : ∀ x, x ≠ 54 → L1 x = L0 x := fun x hx => by rw [eL1]
  clear eR1 eI1 eL1
  refine wq_vret dX6_init_59 rfl (Nat.le_of_ble_eq_true rfl) (Nat.le_of_ble_eq_true rfl) ?_
  refine ⟨rfl, ⟨rfl, zr1.mono (by decide), zi1.mono (by decide), zl1.mono (by decide), fun x x1 x2 => ?_, fun x hx => ⟨?_, ?_, ?_⟩⟩, trivial⟩
  · by_cases h0 : x = 54
    · subst h0
      rw [ra1]
      funext k
      rcases k with _ | _ | _ | k
      · rfl
      · rfl
      · rfl
      · rfl
    · have hx0 : 54 < x := by omega
      have hr : x = 55 ∨ x = 56 ∨ x = 57 := by omega
      have ez : R1 x = fun _ => none := by
        rcases hr with rfl | rfl | rfl
        · rw [bR1 55 (by decide), zr0 55 (by decide)]
        · rw [bR1 56 (by decide), zr0 56 (by decide)]
        · rw [bR1 57 (by decide), zr0 57 (by decide)]
      rw [ez]
      rcases hr with rfl | rfl | rfl
      · exact (Rl_none rfl).symm
      · exact (Rl_none rfl).symm
      · exact (Rl_none rfl).symm
  · rw [bR1 x (by omega)]
  · rw [bI1 x (by omega)]
  · rw [bL1 x (by omega)]
set_option maxRecDepth 20000 in
set_option maxHeartbeats 4000000 in
theorem in_5_21 {g : Gl} {D : Nat} {R0 : RM} {I0 : IM} {L0 : LM} (hD : 1 ≤ D) (zr0 : Zr 21 R0 none) (zi0 : Zr 21 I0 0) (zl0 : Zr 21 L0 0) : Mp g D 10 808 MX5_init [rf g 21] 22 R0 I0 L0 (fun r n' R' I' L' => r = none ∧ Pc 21 32 R0 I0 L0 n' R' I' L' ∧ True) := by
  refine Mp.of 0 pf_X5_init (Nat.le_of_ble_eq_true rfl) ?_
  show Wp _ (0, 0, 22, R0) 0 [some (rf g 21)] [] I0 L0
  have ra0 : R0 21 = fun _ => none := zr0 21 (Nat.le_refl _)
  have ia0 : I0 21 = fun _ => 0 := zi0 21 (Nat.le_refl _)
  have la0 : L0 21 = fun _ => 0 := zl0 21 (Nat.le_refl _)
  replace zr0 := zr0.mono (Nat.le_succ _)
  replace zi0 := zi0.mono (Nat.le_succ _)
  replace zl0 := zl0.mono (Nat.le_succ _)
  refine wq_bload_n 1 0 dX5_init_0 rfl rfl rfl ?_
  refine wq_objInit 4 3 ol_X5_3 w_oinst w_ocode dX5_init_1 rfl (show 1 ≤ D by omega) (show 0 + 12 ≤ 38 * D by omega) ?_
  refine wq_bload_n 5 0 dX5_init_4 rfl rfl rfl ?_
  refine wq_bipush 7 64 dX5_init_5 rfl (by decide) ?_
  refine wq_newaL 9 64 ac_long dX5_init_7 rfl rfl rfl (by decide) (Nat.le_of_ble_eq_true rfl) (Nat.le_of_ble_eq_true rfl) (zl0 22 (by decide)) ?_
  refine wq_putR 12 fl_X5_9 dX5_init_9 rfl rfl (by first | exact Or.inl rfl | exact Or.inr ⟨rfl, rfl, rfl⟩) (fun _ => ⟨rfl, rfl⟩) ⟨Nat.le_of_ble_eq_true rfl, rfl⟩ ?_
  refine wq_bload_n 13 0 dX5_init_12 rfl rfl rfl ?_
  refine wq_bipush 15 64 dX5_init_13 rfl (by decide) ?_
  refine wq_newaI 17 64 ac_int dX5_init_15 rfl rfl rfl (by decide) (Nat.le_of_ble_eq_true rfl) (Nat.le_of_ble_eq_true rfl) (zi0 23 (by decide)) ?_
  refine wq_putR 20 fl_X5_15 dX5_init_17 rfl rfl (by first | exact Or.inl rfl | exact Or.inr ⟨rfl, rfl, rfl⟩) (fun _ => ⟨rfl, rfl⟩) ⟨Nat.le_of_ble_eq_true rfl, rfl⟩ ?_
  refine wq_bload_n 21 0 dX5_init_20 rfl rfl rfl ?_
  refine wq_bipush 23 64 dX5_init_21 rfl (by decide) ?_
  refine wq_newaI 25 64 ac_int dX5_init_23 rfl rfl rfl (by decide) (Nat.le_of_ble_eq_true rfl) (Nat.le_of_ble_eq_true rfl) (zi0 24 (by decide)) ?_
  refine wq_putR 28 fl_X5_19 dX5_init_25 rfl rfl (by first | exact Or.inl rfl | exact Or.inr ⟨rfl, rfl, rfl⟩) (fun _ => ⟨rfl, rfl⟩) ⟨Nat.le_of_ble_eq_true rfl, rfl⟩ ?_
  refine wq_bload_n 29 0 dX5_init_28 rfl rfl rfl ?_
  refine wq_bipush 31 64 dX5_init_29 rfl (by decide) ?_
  refine wq_newaI 33 64 ac_int dX5_init_31 rfl rfl rfl (by decide) (Nat.le_of_ble_eq_true rfl) (Nat.le_of_ble_eq_true rfl) (zi0 25 (by decide)) ?_
  refine wq_putR 36 fl_X5_22 dX5_init_33 rfl rfl (by first | exact Or.inl rfl | exact Or.inr ⟨rfl, rfl, rfl⟩) (fun _ => ⟨rfl, rfl⟩) ⟨Nat.le_of_ble_eq_true rfl, rfl⟩ ?_
  refine wq_bload_n 37 0 dX5_init_36 rfl rfl rfl ?_
  refine wq_bipush 39 64 dX5_init_37 rfl (by decide) ?_
  refine wq_newaI 41 64 ac_int dX5_init_39 rfl rfl rfl (by decide) (Nat.le_of_ble_eq_true rfl) (Nat.le_of_ble_eq_true rfl) (zi0 26 (by decide)) ?_
  refine wq_putR 44 fl_X5_25 dX5_init_41 rfl rfl (by first | exact Or.inl rfl | exact Or.inr ⟨rfl, rfl, rfl⟩) (fun _ => ⟨rfl, rfl⟩) ⟨Nat.le_of_ble_eq_true rfl, rfl⟩ ?_
  refine wq_bload_n 45 0 dX5_init_44 rfl rfl rfl ?_
  refine wq_bipush 47 90 dX5_init_45 rfl (by decide) ?_
  refine wq_newaI 49 90 ac_int dX5_init_47 rfl rfl rfl (by decide) (Nat.le_of_ble_eq_true rfl) (Nat.le_of_ble_eq_true rfl) (zi0 27 (by decide)) ?_
  refine wq_putR 52 fl_X5_28 dX5_init_49 rfl rfl (by first | exact Or.inl rfl | exact Or.inr ⟨rfl, rfl, rfl⟩) (fun _ => ⟨rfl, rfl⟩) ⟨Nat.le_of_ble_eq_true rfl, rfl⟩ ?_
  refine wq_bload_n 53 0 dX5_init_52 rfl rfl rfl ?_
  refine wq_bipush 55 90 dX5_init_53 rfl (by decide) ?_
  refine wq_newaI 57 90 ac_int dX5_init_55 rfl rfl rfl (by decide) (Nat.le_of_ble_eq_true rfl) (Nat.le_of_ble_eq_true rfl) (zi0 28 (by decide)) ?_
  refine wq_putR 60 fl_X5_31 dX5_init_57 rfl rfl (by first | exact Or.inl rfl | exact Or.inr ⟨rfl, rfl, rfl⟩) (fun _ => ⟨rfl, rfl⟩) ⟨Nat.le_of_ble_eq_true rfl, rfl⟩ ?_
  refine wq_bload_n 61 0 dX5_init_60 rfl rfl rfl ?_
  refine wq_bipush 63 90 dX5_init_61 rfl (by decide) ?_
  refine wq_newaZ 65 90 ac_boolean dX5_init_63 rfl rfl rfl (by decide) (Nat.le_of_ble_eq_true rfl) (Nat.le_of_ble_eq_true rfl) (zi0 29 (by decide)) ?_
  refine wq_putR 68 fl_X5_34 dX5_init_65 rfl rfl (by first | exact Or.inl rfl | exact Or.inr ⟨rfl, rfl, rfl⟩) (fun _ => ⟨rfl, rfl⟩) ⟨Nat.le_of_ble_eq_true rfl, rfl⟩ ?_
  refine wq_bload_n 69 0 dX5_init_68 rfl rfl rfl ?_
  refine wq_bipush 71 64 dX5_init_69 rfl (by decide) ?_
  refine wq_newaI 73 64 ac_int dX5_init_71 rfl rfl rfl (by decide) (Nat.le_of_ble_eq_true rfl) (Nat.le_of_ble_eq_true rfl) (zi0 30 (by decide)) ?_
  refine wq_putR 76 fl_X5_38 dX5_init_73 rfl rfl (by first | exact Or.inl rfl | exact Or.inr ⟨rfl, rfl, rfl⟩) (fun _ => ⟨rfl, rfl⟩) ⟨Nat.le_of_ble_eq_true rfl, rfl⟩ ?_
  refine wq_bload_n 77 0 dX5_init_76 rfl rfl rfl ?_
  refine wq_sipush 80 154 dX5_init_77 rfl (by decide) ?_
  refine wq_newaI 82 154 ac_int dX5_init_80 rfl rfl rfl (by decide) (Nat.le_of_ble_eq_true rfl) (Nat.le_of_ble_eq_true rfl) (zi0 31 (by decide)) ?_
  refine wq_putR 85 fl_X5_41 dX5_init_82 rfl rfl (by first | exact Or.inl rfl | exact Or.inr ⟨rfl, rfl, rfl⟩) (fun _ => ⟨rfl, rfl⟩) ⟨Nat.le_of_ble_eq_true rfl, rfl⟩ ?_
  refine wq_bload_n 86 0 dX5_init_85 rfl rfl rfl ?_
  refine wq_iconst 87 4 dX5_init_86 rfl (by decide) ?_
  refine wq_putI 90 fl_X5_44 dX5_init_87 rfl rfl rfl rfl rfl ⟨Nat.le_of_ble_eq_true rfl, rfl⟩ ?_
  refine wq_bload_n 91 0 dX5_init_90 rfl rfl rfl ?_
  refine wq_iconst 92 0 dX5_init_91 rfl (by decide) ?_
  refine wq_putI 95 fl_X5_48 dX5_init_92 rfl rfl rfl rfl rfl ⟨Nat.le_of_ble_eq_true rfl, rfl⟩ ?_
  refine wq_bload_n 96 0 dX5_init_95 rfl rfl rfl ?_
  refine wq_iconst 97 0 dX5_init_96 rfl (by decide) ?_
  refine wq_putI 100 fl_X5_51 dX5_init_97 rfl rfl rfl rfl rfl ⟨Nat.le_of_ble_eq_true rfl, rfl⟩ ?_
  refine wq_bload_n 101 0 dX5_init_100 rfl rfl rfl ?_
  refine wq_iconst 102 0 dX5_init_101 rfl (by decide) ?_
  refine wq_putI 105 fl_X5_54 dX5_init_102 rfl rfl rfl rfl rfl ⟨Nat.le_of_ble_eq_true rfl, rfl⟩ ?_
  refine wq_bload_n 106 0 dX5_init_105 rfl rfl rfl ?_
  refine wq_lconst 107 0 dX5_init_106 rfl (by decide) ?_
  refine wq_putL 110 fl_X5_57 dX5_init_107 rfl rfl rfl rfl rfl ⟨Nat.le_of_ble_eq_true rfl, rfl⟩ ?_
  refine wq_bload_n 111 0 dX5_init_110 rfl rfl rfl ?_
  refine wq_lconst 112 0 dX5_init_111 rfl (by decide) ?_
  refine wq_putL 115 fl_X5_61 dX5_init_112 rfl rfl rfl rfl rfl ⟨Nat.le_of_ble_eq_true rfl, rfl⟩ ?_
  refine wq_bload_n 116 0 dX5_init_115 rfl rfl rfl ?_
  refine wq_lconst 117 0 dX5_init_116 rfl (by decide) ?_
  refine wq_putL 120 fl_X5_64 dX5_init_117 rfl rfl rfl rfl rfl ⟨Nat.le_of_ble_eq_true rfl, rfl⟩ ?_
  refine wq_bload_n 121 0 dX5_init_120 rfl rfl rfl ?_
  refine wq_lconst 122 0 dX5_init_121 rfl (by decide) ?_
  refine wq_putL 125 fl_X5_67 dX5_init_122 rfl rfl rfl rfl rfl ⟨Nat.le_of_ble_eq_true rfl, rfl⟩ ?_
  refine wq_bload_n 126 0 dX5_init_125 rfl rfl rfl ?_
  refine wq_iconst 127 0 dX5_init_126 rfl (by decide) ?_
  refine wq_putI 130 fl_X5_70 dX5_init_127 rfl rfl rfl rfl rfl ⟨Nat.le_of_ble_eq_true rfl, rfl⟩ ?_
  refine wq_bload_n 131 0 dX5_init_130 rfl rfl rfl ?_
  refine wq_iconst 132 0 dX5_init_131 rfl (by decide) ?_
  refine wq_putI 135 fl_X5_73 dX5_init_132 rfl rfl rfl rfl rfl ⟨Nat.le_of_ble_eq_true rfl, rfl⟩ ?_
  refine wq_genR (fun R1 I1 L1 eR1 eI1 eL1 => ?_)
  have ra1 : R1 21 = (va_up (va_up (va_up (va_up (va_up (va_up (va_up (va_up (va_up (va_up (fun _ => none) 0 (some 22)) 1 (some 23)) 2 (some 24)) 3 (some 25)) 4 (some 26)) 5 (some 27)) 6 (some 28)) 7 (some 29)) 8 (some 30)) 9 (some 31)) := by rw [eR1]; simp only [va_up_self, ra0]
  have zr1 : Zr 22 R1 none := by rw [eR1]; exact ((((((((((zr0.up (by decide) _).up (by decide) _).up (by decide) _).up (by decide) _).up (by decide) _).up (by decide) _).up (by decide) _).up (by decide) _).up (by decide) _).up (by decide) _)
  have bR1 : ∀ x, x ≠ 21 → R1 x = R0 x := fun x hx => by rw [eR1]; simp only [va_up_ne _ _ hx]
  have ia1 : I1 21 = (va_up (va_up (va_up (va_up (va_up (va_up (fun _ => 0) 10 4) 11 0) 12 0) 13 0) 18 0) 19 0) := by rw [eI1]; simp only [va_up_self, ia0]
  have zi1 : Zr 22 I1 0 := by rw [eI1]; exact ((((((zi0.up (by decide) _).up (by decide) _).up (by decide) _).up (by decide) _).up (by decide) _).up (by decide) _)
  have bI1 : ∀ x, x ≠ 21 → I1 x = I0 x := fun x hx => by rw [eI1]; simp only [va_up_ne _ _ hx]
  have la1 : L1 21 = (va_up (va_up (va_up (va_up (fun _ => 0) 14 0) 15 0) 16 0) 17 0) := by rw [eL1]; simp only [va_up_self, la0]
  have zl1 : Zr 22 L1 0 := by rw [eL1]; exact ((((zl0.up (by decide) _).up (by decide) _).up (by decide) _).up (by decide) _)
  have bL1 : ∀ x, x ≠ 21 → L1 x = L0 x := fun x hx => by rw [eL1]; simp only [va_up_ne _ _ hx]
  clear eR1 eI1 eL1
  refine wq_vret dX5_init_135 rfl (Nat.le_of_ble_eq_true rfl) (Nat.le_of_ble_eq_true rfl) ?_
  refine ⟨rfl, ⟨rfl, zr1.mono (by decide), zi1.mono (by decide), zl1.mono (by decide), fun x x1 x2 => ?_, fun x hx => ⟨?_, ?_, ?_⟩⟩, trivial⟩
  · by_cases h0 : x = 21
    · subst h0
      rw [ra1]
      funext k
      rcases k with _ | _ | _ | _ | _ | _ | _ | _ | _ | _ | k
      · rfl
      · rfl
      · rfl
      · rfl
      · rfl
      · rfl
      · rfl
      · rfl
      · rfl
      · rfl
      · rfl
    · have hx0 : 21 < x := by omega
      have hr : x = 22 ∨ x = 23 ∨ x = 24 ∨ x = 25 ∨ x = 26 ∨ x = 27 ∨ x = 28 ∨ x = 29 ∨ x = 30 ∨ x = 31 := by omega
      have ez : R1 x = fun _ => none := by
        rcases hr with rfl | rfl | rfl | rfl | rfl | rfl | rfl | rfl | rfl | rfl
        · rw [bR1 22 (by decide), zr0 22 (by decide)]
        · rw [bR1 23 (by decide), zr0 23 (by decide)]
        · rw [bR1 24 (by decide), zr0 24 (by decide)]
        · rw [bR1 25 (by decide), zr0 25 (by decide)]
        · rw [bR1 26 (by decide), zr0 26 (by decide)]
        · rw [bR1 27 (by decide), zr0 27 (by decide)]
        · rw [bR1 28 (by decide), zr0 28 (by decide)]
        · rw [bR1 29 (by decide), zr0 29 (by decide)]
        · rw [bR1 30 (by decide), zr0 30 (by decide)]
        · rw [bR1 31 (by decide), zr0 31 (by decide)]
      rw [ez]
      rcases hr with rfl | rfl | rfl | rfl | rfl | rfl | rfl | rfl | rfl | rfl
      · exact (Rl_none rfl).symm
      · exact (Rl_none rfl).symm
      · exact (Rl_none rfl).symm
      · exact (Rl_none rfl).symm
      · exact (Rl_none rfl).symm
      · exact (Rl_none rfl).symm
      · exact (Rl_none rfl).symm
      · exact (Rl_none rfl).symm
      · exact (Rl_none rfl).symm
      · exact (Rl_none rfl).symm
  · rw [bR1 x (by omega)]
  · rw [bI1 x (by omega)]
  · rw [bL1 x (by omega)]
set_option maxRecDepth 20000 in
set_option maxHeartbeats 4000000 in
theorem in_1_59 {g : Gl} {D : Nat} {R0 : RM} {I0 : IM} {L0 : LM} (hD : 2 ≤ D) (zr0 : Zr 59 R0 none) (zi0 : Zr 59 I0 0) (zl0 : Zr 59 L0 0) : Mp g D 5 558 MX1_init [rf g 59] 60 R0 I0 L0 (fun r n' R' I' L' => r = none ∧ Pc 59 65 R0 I0 L0 n' R' I' L' ∧ I' 59 3 = 0) := by
  refine Mp.of 0 pf_X1_init (Nat.le_of_ble_eq_true rfl) ?_
  show Wp _ (0, 0, 60, R0) 0 [some (rf g 59)] [] I0 L0
  have ra0 : R0 59 = fun _ => none := zr0 59 (Nat.le_refl _)
  have ia0 : I0 59 = fun _ => 0 := zi0 59 (Nat.le_refl _)
  have la0 : L0 59 = fun _ => 0 := zl0 59 (Nat.le_refl _)
  replace zr0 := zr0.mono (Nat.le_succ _)
  replace zi0 := zi0.mono (Nat.le_succ _)
  replace zl0 := zl0.mono (Nat.le_succ _)
  refine wq_bload_n 1 0 dX1_init_0 rfl rfl rfl ?_
  refine wq_objInit 4 1 ol_X1_1 w_oinst w_ocode dX1_init_1 rfl (show 1 ≤ D by omega) (show 0 + 12 ≤ 38 * D by omega) ?_
  refine wq_bload_n 5 0 dX1_init_4 rfl rfl rfl ?_
  refine wq_genR (fun R1 I1 L1 eR1 eI1 eL1 => ?_)
  have ra1 : R1 59 = (fun _ => none) := by rw [eR1]; exact ra0
  have zr1 : Zr 60 R1 none := by rw [eR1]; exact zr0
  have bR1 : ∀ x, x ≠ 59 → R1 x = R0 x := fun x hx => by rw [eR1]
  have ia1 : I1 59 = (fun _ => 0) := by rw [eI1]; exact ia0
  have zi1 : Zr 60 I1 0 := by rw [eI1]; exact zi0
  have bI1 : ∀ x, x ≠ 59 → I1 x = I0 x := fun x hx => by rw [eI1]
  have la1 : L1 59 = (fun _ => 0) := by rw [eL1]; exact la0
  have zl1 : Zr 60 L1 0 := by rw [eL1]; exact zl0
  have bL1 : ∀ x, x ≠ 59 → L1 x = L0 x := fun x hx => by rw [eL1]
  clear eR1 eI1 eL1
  have er1 := zr1 60 (by decide)
  have ei1 := zi1 60 (by decide)
  have el1 := zl1 60 (by decide)
  refine wq_new 8 2 cl_X1_7 in_X2 it_X2 dX1_init_5 rfl (by decide) rfl (Nat.le_of_ble_eq_true rfl) (Nat.le_of_ble_eq_true rfl) er1 ei1 el1 ?_
  refine wq_dup 9 dX1_init_8 rfl rfl ?_
  have zrp1 : Zr 60 R1 none := fun x hx => by
    by_cases h : x = 60
    · rw [h]; exact er1
    · exact zr1 x (by omega)
  have zip1 : Zr 60 I1 0 := fun x hx => by
    by_cases h : x = 60
    · rw [h]; exact ei1
    · exact zi1 x (by omega)
  have zlp1 : Zr 60 L1 0 := fun x hx => by
    by_cases h : x = 60
    · rw [h]; exact el1
    · exact zl1 x (by omega)
  refine wq_callI 12 (As := []) (in_2_60 (D := D - 1) (by omega) zrp1 zip1 zlp1) ml_X1_9 mf_X2_init dX1_init_9 rfl rfl (Nat.le_of_ble_eq_true rfl) (show D - 1 + 1 ≤ D by omega) (show 38 * (D - 1) + 38 ≤ 38 * D by omega) (Nat.le_of_ble_eq_true rfl) (Nat.le_of_ble_eq_true rfl) (fun r2 n2 R2 I2 L2 hr2 => ?_)
  obtain ⟨rfl, ⟨rfl, zr2, zi2, zl2, rg2, bl2⟩, fc2⟩ := hr2
  have bl2 : ∀ x, x < 60 → R2 x = R1 x ∧ I2 x = I1 x ∧ L2 x = L1 x := bl2
  have ra2 : R2 59 = (fun _ => none) := ((bl2 59 (by decide)).1).trans ra1
  have ia2 : I2 59 = (fun _ => 0) := ((bl2 59 (by decide)).2.1).trans ia1
  have la2 : L2 59 = (fun _ => 0) := ((bl2 59 (by decide)).2.2).trans la1
  refine wq_putR 15 fl_X1_10 dX1_init_12 rfl rfl (by first | exact Or.inl rfl | exact Or.inr ⟨rfl, rfl, rfl⟩) (fun _ => ⟨rfl, rfl⟩) ⟨Nat.le_of_ble_eq_true rfl, rfl⟩ ?_
  refine wq_bload_n 16 0 dX1_init_15 rfl rfl rfl ?_
  refine wq_iconst 17 0 dX1_init_16 rfl (by decide) ?_
  refine wq_putI 20 fl_X1_16 dX1_init_17 rfl rfl rfl rfl rfl ⟨Nat.le_of_ble_eq_true rfl, rfl⟩ ?_
  refine wq_bload_n 21 0 dX1_init_20 rfl rfl rfl ?_
  refine wq_iconst 22 0 dX1_init_21 rfl (by decide) ?_
  refine wq_putI 25 fl_X1_20 dX1_init_22 rfl rfl rfl rfl rfl ⟨Nat.le_of_ble_eq_true rfl, rfl⟩ ?_
  refine wq_bload_n 26 0 dX1_init_25 rfl rfl rfl ?_
  refine wq_iconst 27 0 dX1_init_26 rfl (by decide) ?_
  refine wq_putI 30 fl_X1_23 dX1_init_27 rfl rfl rfl rfl rfl ⟨Nat.le_of_ble_eq_true rfl, rfl⟩ ?_
  refine wq_genR (fun R3 I3 L3 eR3 eI3 eL3 => ?_)
  have ra3 : R3 59 = (va_up (fun _ => none) 0 (some 60)) := by rw [eR3]; simp only [va_up_self, ra2]
  have zr3 : Zr 65 R3 none := by rw [eR3]; exact (zr2.up (by decide) _)
  have bR3 : ∀ x, x ≠ 59 → R3 x = R2 x := fun x hx => by rw [eR3]; simp only [va_up_ne _ _ hx]
  have ia3 : I3 59 = (va_up (va_up (va_up (fun _ => 0) 1 0) 2 0) 3 0) := by rw [eI3]; simp only [va_up_self, ia2]
  have zi3 : Zr 65 I3 0 := by rw [eI3]; exact (((zi2.up (by decide) _).up (by decide) _).up (by decide) _)
  have bI3 : ∀ x, x ≠ 59 → I3 x = I2 x := fun x hx => by rw [eI3]; simp only [va_up_ne _ _ hx]
  have la3 : L3 59 = (fun _ => 0) := by rw [eL3]; exact la2
  have zl3 : Zr 65 L3 0 := by rw [eL3]; exact zl2
  have bL3 : ∀ x, x ≠ 59 → L3 x = L2 x := fun x hx => by rw [eL3]
  clear eR3 eI3 eL3
  refine wq_vret dX1_init_30 rfl (Nat.le_of_ble_eq_true rfl) (Nat.le_of_ble_eq_true rfl) ?_
  refine ⟨rfl, ⟨rfl, zr3.mono (by decide), zi3.mono (by decide), zl3.mono (by decide), fun x x1 x2 => ?_, fun x hx => ⟨?_, ?_, ?_⟩⟩, by rw [ia3]; rfl⟩
  · by_cases h0 : x = 59
    · subst h0
      rw [ra3]
      funext k
      rcases k with _ | k
      · rfl
      · rfl
    · have hx0 : 59 < x := by omega
      by_cases h2 : 60 ≤ x ∧ x < 65
      · rw [bR3 x (by omega), rg2 x h2.1 h2.2]
      omega
  · rw [bR3 x (by omega), (bl2 x (by omega)).1, bR1 x (by omega)]
  · rw [bI3 x (by omega), (bl2 x (by omega)).2.1, bI1 x (by omega)]
  · rw [bL3 x (by omega), (bl2 x (by omega)).2.2, bL1 x (by omega)]
set_option maxRecDepth 20000 in
set_option maxHeartbeats 4000000 in
theorem in_1_65 {g : Gl} {D : Nat} {R0 : RM} {I0 : IM} {L0 : LM} (hD : 2 ≤ D) (zr0 : Zr 65 R0 none) (zi0 : Zr 65 I0 0) (zl0 : Zr 65 L0 0) : Mp g D 5 558 MX1_init [rf g 65] 66 R0 I0 L0 (fun r n' R' I' L' => r = none ∧ Pc 65 71 R0 I0 L0 n' R' I' L' ∧ I' 65 3 = 0) := by
  refine Mp.of 0 pf_X1_init (Nat.le_of_ble_eq_true rfl) ?_
  show Wp _ (0, 0, 66, R0) 0 [some (rf g 65)] [] I0 L0
  have ra0 : R0 65 = fun _ => none := zr0 65 (Nat.le_refl _)
  have ia0 : I0 65 = fun _ => 0 := zi0 65 (Nat.le_refl _)
  have la0 : L0 65 = fun _ => 0 := zl0 65 (Nat.le_refl _)
  replace zr0 := zr0.mono (Nat.le_succ _)
  replace zi0 := zi0.mono (Nat.le_succ _)
  replace zl0 := zl0.mono (Nat.le_succ _)
  refine wq_bload_n 1 0 dX1_init_0 rfl rfl rfl ?_
  refine wq_objInit 4 1 ol_X1_1 w_oinst w_ocode dX1_init_1 rfl (show 1 ≤ D by omega) (show 0 + 12 ≤ 38 * D by omega) ?_
  refine wq_bload_n 5 0 dX1_init_4 rfl rfl rfl ?_
  refine wq_genR (fun R1 I1 L1 eR1 eI1 eL1 => ?_)
  have ra1 : R1 65 = (fun _ => none) := by rw [eR1]; exact ra0
  have zr1 : Zr 66 R1 none := by rw [eR1]; exact zr0
  have bR1 : ∀ x, x ≠ 65 → R1 x = R0 x := fun x hx => by rw [eR1]
  have ia1 : I1 65 = (fun _ => 0) := by rw [eI1]; exact ia0
  have zi1 : Zr 66 I1 0 := by rw [eI1]; exact zi0
  have bI1 : ∀ x, x ≠ 65 → I1 x = I0 x := fun x hx => by rw [eI1]
  have la1 : L1 65 = (fun _ => 0) := by rw [eL1]; exact la0
  have zl1 : Zr 66 L1 0 := by rw [eL1]; exact zl0
  have bL1 : ∀ x, x ≠ 65 → L1 x = L0 x := fun x hx => by rw [eL1]
  clear eR1 eI1 eL1
  have er1 := zr1 66 (by decide)
  have ei1 := zi1 66 (by decide)
  have el1 := zl1 66 (by decide)
  refine wq_new 8 2 cl_X1_7 in_X2 it_X2 dX1_init_5 rfl (by decide) rfl (Nat.le_of_ble_eq_true rfl) (Nat.le_of_ble_eq_true rfl) er1 ei1 el1 ?_
  refine wq_dup 9 dX1_init_8 rfl rfl ?_
  have zrp1 : Zr 66 R1 none := fun x hx => by
    by_cases h : x = 66
    · rw [h]; exact er1
    · exact zr1 x (by omega)
  have zip1 : Zr 66 I1 0 := fun x hx => by
    by_cases h : x = 66
    · rw [h]; exact ei1
    · exact zi1 x (by omega)
  have zlp1 : Zr 66 L1 0 := fun x hx => by
    by_cases h : x = 66
    · rw [h]; exact el1
    · exact zl1 x (by omega)
  refine wq_callI 12 (As := []) (in_2_66 (D := D - 1) (by omega) zrp1 zip1 zlp1) ml_X1_9 mf_X2_init dX1_init_9 rfl rfl (Nat.le_of_ble_eq_true rfl) (show D - 1 + 1 ≤ D by omega) (show 38 * (D - 1) + 38 ≤ 38 * D by omega) (Nat.le_of_ble_eq_true rfl) (Nat.le_of_ble_eq_true rfl) (fun r2 n2 R2 I2 L2 hr2 => ?_)
  obtain ⟨rfl, ⟨rfl, zr2, zi2, zl2, rg2, bl2⟩, fc2⟩ := hr2
  have bl2 : ∀ x, x < 66 → R2 x = R1 x ∧ I2 x = I1 x ∧ L2 x = L1 x := bl2
  have ra2 : R2 65 = (fun _ => none) := ((bl2 65 (by decide)).1).trans ra1
  have ia2 : I2 65 = (fun _ => 0) := ((bl2 65 (by decide)).2.1).trans ia1
  have la2 : L2 65 = (fun _ => 0) := ((bl2 65 (by decide)).2.2).trans la1
  refine wq_putR 15 fl_X1_10 dX1_init_12 rfl rfl (by first | exact Or.inl rfl | exact Or.inr ⟨rfl, rfl, rfl⟩) (fun _ => ⟨rfl, rfl⟩) ⟨Nat.le_of_ble_eq_true rfl, rfl⟩ ?_
  refine wq_bload_n 16 0 dX1_init_15 rfl rfl rfl ?_
  refine wq_iconst 17 0 dX1_init_16 rfl (by decide) ?_
  refine wq_putI 20 fl_X1_16 dX1_init_17 rfl rfl rfl rfl rfl ⟨Nat.le_of_ble_eq_true rfl, rfl⟩ ?_
  refine wq_bload_n 21 0 dX1_init_20 rfl rfl rfl ?_
  refine wq_iconst 22 0 dX1_init_21 rfl (by decide) ?_
  refine wq_putI 25 fl_X1_20 dX1_init_22 rfl rfl rfl rfl rfl ⟨Nat.le_of_ble_eq_true rfl, rfl⟩ ?_
  refine wq_bload_n 26 0 dX1_init_25 rfl rfl rfl ?_
  refine wq_iconst 27 0 dX1_init_26 rfl (by decide) ?_
  refine wq_putI 30 fl_X1_23 dX1_init_27 rfl rfl rfl rfl rfl ⟨Nat.le_of_ble_eq_true rfl, rfl⟩ ?_
  refine wq_genR (fun R3 I3 L3 eR3 eI3 eL3 => ?_)
  have ra3 : R3 65 = (va_up (fun _ => none) 0 (some 66)) := by rw [eR3]; simp only [va_up_self, ra2]
  have zr3 : Zr 71 R3 none := by rw [eR3]; exact (zr2.up (by decide) _)
  have bR3 : ∀ x, x ≠ 65 → R3 x = R2 x := fun x hx => by rw [eR3]; simp only [va_up_ne _ _ hx]
  have ia3 : I3 65 = (va_up (va_up (va_up (fun _ => 0) 1 0) 2 0) 3 0) := by rw [eI3]; simp only [va_up_self, ia2]
  have zi3 : Zr 71 I3 0 := by rw [eI3]; exact (((zi2.up (by decide) _).up (by decide) _).up (by decide) _)
  have bI3 : ∀ x, x ≠ 65 → I3 x = I2 x := fun x hx => by rw [eI3]; simp only [va_up_ne _ _ hx]
  have la3 : L3 65 = (fun _ => 0) := by rw [eL3]; exact la2
  have zl3 : Zr 71 L3 0 := by rw [eL3]; exact zl2
  have bL3 : ∀ x, x ≠ 65 → L3 x = L2 x := fun x hx => by rw [eL3]
  clear eR3 eI3 eL3
  refine wq_vret dX1_init_30 rfl (Nat.le_of_ble_eq_true rfl) (Nat.le_of_ble_eq_true rfl) ?_
  refine ⟨rfl, ⟨rfl, zr3.mono (by decide), zi3.mono (by decide), zl3.mono (by decide), fun x x1 x2 => ?_, fun x hx => ⟨?_, ?_, ?_⟩⟩, by rw [ia3]; rfl⟩
  · by_cases h0 : x = 65
    · subst h0
      rw [ra3]
      funext k
      rcases k with _ | k
      · rfl
      · rfl
    · have hx0 : 65 < x := by omega
      by_cases h2 : 66 ≤ x ∧ x < 71
      · rw [bR3 x (by omega), rg2 x h2.1 h2.2]
      omega
  · rw [bR3 x (by omega), (bl2 x (by omega)).1, bR1 x (by omega)]
  · rw [bI3 x (by omega), (bl2 x (by omega)).2.1, bI1 x (by omega)]
  · rw [bL3 x (by omega), (bl2 x (by omega)).2.2, bL1 x (by omega)]
set_option maxRecDepth 20000 in
set_option maxHeartbeats 4000000 in
theorem in_0_14 {g : Gl} {D : Nat} {R0 : RM} {I0 : IM} {L0 : LM} (hD : 2 ≤ D) (zr0 : Zr 14 R0 none) (zi0 : Zr 14 I0 0) (zl0 : Zr 14 L0 0) : Mp g D 35 3127 MX0_init [rf g 14] 15 R0 I0 L0 (fun r n' R' I' L' => r = none ∧ Pc 14 50 R0 I0 L0 n' R' I' L' ∧ True) := by
  refine Mp.of 0 pf_X0_init (Nat.le_of_ble_eq_true rfl) ?_
  show Wp _ (0, 0, 15, R0) 0 [some (rf g 14)] [] I0 L0
  have ra0 : R0 14 = fun _ => none := zr0 14 (Nat.le_refl _)
  have ia0 : I0 14 = fun _ => 0 := zi0 14 (Nat.le_refl _)
  have la0 : L0 14 = fun _ => 0 := zl0 14 (Nat.le_refl _)
  replace zr0 := zr0.mono (Nat.le_succ _)
  replace zi0 := zi0.mono (Nat.le_succ _)
  replace zl0 := zl0.mono (Nat.le_succ _)
  refine wq_bload_n 1 0 dX0_init_0 rfl rfl rfl ?_
  refine wq_objInit 4 3 ol_X0_3 w_oinst w_ocode dX0_init_1 rfl (show 1 ≤ D by omega) (show 0 + 12 ≤ 38 * D by omega) ?_
  refine wq_bload_n 5 0 dX0_init_4 rfl rfl rfl ?_
  refine wq_genR (fun R1 I1 L1 eR1 eI1 eL1 => ?_)
  have ra1 : R1 14 = (fun _ => none) := by rw [eR1]; exact ra0
  have zr1 : Zr 15 R1 none := by rw [eR1]; exact zr0
  have bR1 : ∀ x, x ≠ 14 → R1 x = R0 x := fun x hx => by rw [eR1]
  have ia1 : I1 14 = (fun _ => 0) := by rw [eI1]; exact ia0
  have zi1 : Zr 15 I1 0 := by rw [eI1]; exact zi0
  have bI1 : ∀ x, x ≠ 14 → I1 x = I0 x := fun x hx => by rw [eI1]
  have la1 : L1 14 = (fun _ => 0) := by rw [eL1]; exact la0
  have zl1 : Zr 15 L1 0 := by rw [eL1]; exact zl0
  have bL1 : ∀ x, x ≠ 14 → L1 x = L0 x := fun x hx => by rw [eL1]
  clear eR1 eI1 eL1
  have er1 := zr1 15 (by decide)
  have ei1 := zi1 15 (by decide)
  have el1 := zl1 15 (by decide)
  refine wq_new 8 3 cl_X0_9 in_X3 it_X3 dX0_init_5 rfl (by decide) rfl (Nat.le_of_ble_eq_true rfl) (Nat.le_of_ble_eq_true rfl) er1 ei1 el1 ?_
  refine wq_dup 9 dX0_init_8 rfl rfl ?_
  have zrp1 : Zr 15 R1 none := fun x hx => by
    by_cases h : x = 15
    · rw [h]; exact er1
    · exact zr1 x (by omega)
  have zip1 : Zr 15 I1 0 := fun x hx => by
    by_cases h : x = 15
    · rw [h]; exact ei1
    · exact zi1 x (by omega)
  have zlp1 : Zr 15 L1 0 := fun x hx => by
    by_cases h : x = 15
    · rw [h]; exact el1
    · exact zl1 x (by omega)
  refine wq_callI 12 (As := []) (in_3_15 (D := D - 1) (by omega) zrp1 zip1 zlp1) ml_X0_11 mf_X3_init dX0_init_9 rfl rfl (Nat.le_of_ble_eq_true rfl) (show D - 1 + 1 ≤ D by omega) (show 38 * (D - 1) + 38 ≤ 38 * D by omega) (Nat.le_of_ble_eq_true rfl) (Nat.le_of_ble_eq_true rfl) (fun r2 n2 R2 I2 L2 hr2 => ?_)
  obtain ⟨rfl, ⟨rfl, zr2, zi2, zl2, rg2, bl2⟩, fc2⟩ := hr2
  have bl2 : ∀ x, x < 15 → R2 x = R1 x ∧ I2 x = I1 x ∧ L2 x = L1 x := bl2
  have ra2 : R2 14 = (fun _ => none) := ((bl2 14 (by decide)).1).trans ra1
  have ia2 : I2 14 = (fun _ => 0) := ((bl2 14 (by decide)).2.1).trans ia1
  have la2 : L2 14 = (fun _ => 0) := ((bl2 14 (by decide)).2.2).trans la1
  refine wq_putR 15 fl_X0_12 dX0_init_12 rfl rfl (by first | exact Or.inl rfl | exact Or.inr ⟨rfl, rfl, rfl⟩) (fun _ => ⟨rfl, rfl⟩) ⟨Nat.le_of_ble_eq_true rfl, rfl⟩ ?_
  refine wq_bload_n 16 0 dX0_init_15 rfl rfl rfl ?_
  refine wq_genR (fun R3 I3 L3 eR3 eI3 eL3 => ?_)
  have ra3 : R3 14 = (va_up (fun _ => none) 0 (some 15)) := by rw [eR3]; simp only [va_up_self, ra2]
  have zr3 : Zr 21 R3 none := by rw [eR3]; exact (zr2.up (by decide) _)
  have bR3 : ∀ x, x ≠ 14 → R3 x = R2 x := fun x hx => by rw [eR3]; simp only [va_up_ne _ _ hx]
  have ia3 : I3 14 = (fun _ => 0) := by rw [eI3]; exact ia2
  have zi3 : Zr 21 I3 0 := by rw [eI3]; exact zi2
  have bI3 : ∀ x, x ≠ 14 → I3 x = I2 x := fun x hx => by rw [eI3]
  have la3 : L3 14 = (fun _ => 0) := by rw [eL3]; exact la2
  have zl3 : Zr 21 L3 0 := by rw [eL3]; exact zl2
  have bL3 : ∀ x, x ≠ 14 → L3 x = L2 x := fun x hx => by rw [eL3]
  clear eR3 eI3 eL3
  have er3 := zr3 21 (by decide)
  have ei3 := zi3 21 (by decide)
  have el3 := zl3 21 (by decide)
  refine wq_new 19 5 cl_X0_18 in_X5 it_X5 dX0_init_16 rfl (by decide) rfl (Nat.le_of_ble_eq_true rfl) (Nat.le_of_ble_eq_true rfl) er3 ei3 el3 ?_
  refine wq_dup 20 dX0_init_19 rfl rfl ?_
  have zrp3 : Zr 21 R3 none := fun x hx => by
    by_cases h : x = 21
    · rw [h]; exact er3
    · exact zr3 x (by omega)
  have zip3 : Zr 21 I3 0 := fun x hx => by
    by_cases h : x = 21
    · rw [h]; exact ei3
    · exact zi3 x (by omega)
  have zlp3 : Zr 21 L3 0 := fun x hx => by
    by_cases h : x = 21
    · rw [h]; exact el3
    · exact zl3 x (by omega)
  refine wq_callI 23 (As := []) (in_5_21 (D := D - 1) (by omega) zrp3 zip3 zlp3) ml_X0_20 mf_X5_init dX0_init_20 rfl rfl (Nat.le_of_ble_eq_true rfl) (show D - 1 + 1 ≤ D by omega) (show 38 * (D - 1) + 38 ≤ 38 * D by omega) (Nat.le_of_ble_eq_true rfl) (Nat.le_of_ble_eq_true rfl) (fun r4 n4 R4 I4 L4 hr4 => ?_)
  obtain ⟨rfl, ⟨rfl, zr4, zi4, zl4, rg4, bl4⟩, fc4⟩ := hr4
  have bl4 : ∀ x, x < 21 → R4 x = R3 x ∧ I4 x = I3 x ∧ L4 x = L3 x := bl4
  have ra4 : R4 14 = (va_up (fun _ => none) 0 (some 15)) := ((bl4 14 (by decide)).1).trans ra3
  have ia4 : I4 14 = (fun _ => 0) := ((bl4 14 (by decide)).2.1).trans ia3
  have la4 : L4 14 = (fun _ => 0) := ((bl4 14 (by decide)).2.2).trans la3
  refine wq_putR 26 fl_X0_21 dX0_init_23 rfl rfl (by first | exact Or.inl rfl | exact Or.inr ⟨rfl, rfl, rfl⟩) (fun _ => ⟨rfl, rfl⟩) ⟨Nat.le_of_ble_eq_true rfl, rfl⟩ ?_
  refine wq_bload_n 27 0 dX0_init_26 rfl rfl rfl ?_
  refine wq_genR (fun R5 I5 L5 eR5 eI5 eL5 => ?_)
  have ra5 : R5 14 = (va_up (va_up (fun _ => none) 0 (some 15)) 1 (some 21)) := by rw [eR5]; simp only [va_up_self, ra4]
  have zr5 : Zr 32 R5 none := by rw [eR5]; exact (zr4.up (by decide) _)
  have bR5 : ∀ x, x ≠ 14 → R5 x = R4 x := fun x hx => by rw [eR5]; simp only [va_up_ne _ _ hx]
  have ia5 : I5 14 = (fun _ => 0) := by rw [eI5]; exact ia4
  have zi5 : Zr 32 I5 0 := by rw [eI5]; exact zi4
  have bI5 : ∀ x, x ≠ 14 → I5 x = I4 x := fun x hx => by rw [eI5]
  have la5 : L5 14 = (fun _ => 0) := by rw [eL5]; exact la4
  have zl5 : Zr 32 L5 0 := by rw [eL5]; exact zl4
  have bL5 : ∀ x, x ≠ 14 → L5 x = L4 x := fun x hx => by rw [eL5]
  clear eR5 eI5 eL5
  have er5 := zr5 32 (by decide)
  have ei5 := zi5 32 (by decide)
  have el5 := zl5 32 (by decide)
  refine wq_new 30 2 cl_X0_25 in_X2 it_X2 dX0_init_27 rfl (by decide) rfl (Nat.le_of_ble_eq_true rfl) (Nat.le_of_ble_eq_true rfl) er5 ei5 el5 ?_
  refine wq_dup 31 dX0_init_30 rfl rfl ?_
  have zrp5 : Zr 32 R5 none := fun x hx => by
    by_cases h : x = 32
    · rw [h]; exact er5
    · exact zr5 x (by omega)
  have zip5 : Zr 32 I5 0 := fun x hx => by
    by_cases h : x = 32
    · rw [h]; exact ei5
    · exact zi5 x (by omega)
  have zlp5 : Zr 32 L5 0 := fun x hx => by
    by_cases h : x = 32
    · rw [h]; exact el5
    · exact zl5 x (by omega)
  refine wq_callI 34 (As := []) (in_2_32 (D := D - 1) (by omega) zrp5 zip5 zlp5) ml_X0_27 mf_X2_init dX0_init_31 rfl rfl (Nat.le_of_ble_eq_true rfl) (show D - 1 + 1 ≤ D by omega) (show 38 * (D - 1) + 38 ≤ 38 * D by omega) (Nat.le_of_ble_eq_true rfl) (Nat.le_of_ble_eq_true rfl) (fun r6 n6 R6 I6 L6 hr6 => ?_)
  obtain ⟨rfl, ⟨rfl, zr6, zi6, zl6, rg6, bl6⟩, fc6⟩ := hr6
  have bl6 : ∀ x, x < 32 → R6 x = R5 x ∧ I6 x = I5 x ∧ L6 x = L5 x := bl6
  have ra6 : R6 14 = (va_up (va_up (fun _ => none) 0 (some 15)) 1 (some 21)) := ((bl6 14 (by decide)).1).trans ra5
  have ia6 : I6 14 = (fun _ => 0) := ((bl6 14 (by decide)).2.1).trans ia5
  have la6 : L6 14 = (fun _ => 0) := ((bl6 14 (by decide)).2.2).trans la5
  refine wq_putR 37 fl_X0_28 dX0_init_34 rfl rfl (by first | exact Or.inl rfl | exact Or.inr ⟨rfl, rfl, rfl⟩) (fun _ => ⟨rfl, rfl⟩) ⟨Nat.le_of_ble_eq_true rfl, rfl⟩ ?_
  refine wq_bload_n 38 0 dX0_init_37 rfl rfl rfl ?_
  refine wq_bipush 40 64 dX0_init_38 rfl (by decide) ?_
  refine wq_newaI 42 64 ac_int dX0_init_40 rfl rfl rfl (by decide) (Nat.le_of_ble_eq_true rfl) (Nat.le_of_ble_eq_true rfl) (zi6 37 (by decide)) ?_
  refine wq_putR 45 fl_X0_32 dX0_init_42 rfl rfl (by first | exact Or.inl rfl | exact Or.inr ⟨rfl, rfl, rfl⟩) (fun _ => ⟨rfl, rfl⟩) ⟨Nat.le_of_ble_eq_true rfl, rfl⟩ ?_
  refine wq_bload_n 46 0 dX0_init_45 rfl rfl rfl ?_
  refine wq_sipush 49 154 dX0_init_46 rfl (by decide) ?_
  refine wq_newaI 51 154 ac_int dX0_init_49 rfl rfl rfl (by decide) (Nat.le_of_ble_eq_true rfl) (Nat.le_of_ble_eq_true rfl) (zi6 38 (by decide)) ?_
  refine wq_putR 54 fl_X0_36 dX0_init_51 rfl rfl (by first | exact Or.inl rfl | exact Or.inr ⟨rfl, rfl, rfl⟩) (fun _ => ⟨rfl, rfl⟩) ⟨Nat.le_of_ble_eq_true rfl, rfl⟩ ?_
  refine wq_bload_n 55 0 dX0_init_54 rfl rfl rfl ?_
  refine wq_iconst 56 4 dX0_init_55 rfl (by decide) ?_
  refine wq_newaI 58 4 ac_int dX0_init_56 rfl rfl rfl (by decide) (Nat.le_of_ble_eq_true rfl) (Nat.le_of_ble_eq_true rfl) (zi6 39 (by decide)) ?_
  refine wq_putR 61 fl_X0_39 dX0_init_58 rfl rfl (by first | exact Or.inl rfl | exact Or.inr ⟨rfl, rfl, rfl⟩) (fun _ => ⟨rfl, rfl⟩) ⟨Nat.le_of_ble_eq_true rfl, rfl⟩ ?_
  refine wq_bload_n 62 0 dX0_init_61 rfl rfl rfl ?_
  refine wq_genR (fun R7 I7 L7 eR7 eI7 eL7 => ?_)
  have ra7 : R7 14 = (va_up (va_up (va_up (va_up (va_up (va_up (fun _ => none) 0 (some 15)) 1 (some 21)) 2 (some 32)) 3 (some 37)) 4 (some 38)) 5 (some 39)) := by rw [eR7]; simp only [va_up_self, ra6]
  have zr7 : Zr 37 R7 none := by rw [eR7]; exact ((((zr6.up (by decide) _).up (by decide) _).up (by decide) _).up (by decide) _)
  have bR7 : ∀ x, x ≠ 14 → R7 x = R6 x := fun x hx => by rw [eR7]; simp only [va_up_ne _ _ hx]
  have ia7 : I7 14 = (fun _ => 0) := by rw [eI7]; exact ia6
  have zi7 : Zr 37 I7 0 := by rw [eI7]; exact zi6
  have bI7 : ∀ x, x ≠ 14 → I7 x = I6 x := fun x hx => by rw [eI7]
  have la7 : L7 14 = (fun _ => 0) := by rw [eL7]; exact la6
  have zl7 : Zr 37 L7 0 := by rw [eL7]; exact zl6
  have bL7 : ∀ x, x ≠ 14 → L7 x = L6 x := fun x hx => by rw [eL7]
  clear eR7 eI7 eL7
  have er7 := zr7 40 (by decide)
  have ei7 := zi7 40 (by decide)
  have el7 := zl7 40 (by decide)
  refine wq_new 65 2 cl_X0_25 in_X2 it_X2 dX0_init_62 rfl (by decide) rfl (Nat.le_of_ble_eq_true rfl) (Nat.le_of_ble_eq_true rfl) er7 ei7 el7 ?_
  refine wq_dup 66 dX0_init_65 rfl rfl ?_
  have zrp7 : Zr 40 R7 none := fun x hx => by
    by_cases h : x = 40
    · rw [h]; exact er7
    · exact zr7 x (by omega)
  have zip7 : Zr 40 I7 0 := fun x hx => by
    by_cases h : x = 40
    · rw [h]; exact ei7
    · exact zi7 x (by omega)
  have zlp7 : Zr 40 L7 0 := fun x hx => by
    by_cases h : x = 40
    · rw [h]; exact el7
    · exact zl7 x (by omega)
  refine wq_callI 69 (As := []) (in_2_40 (D := D - 1) (by omega) zrp7 zip7 zlp7) ml_X0_27 mf_X2_init dX0_init_66 rfl rfl (Nat.le_of_ble_eq_true rfl) (show D - 1 + 1 ≤ D by omega) (show 38 * (D - 1) + 38 ≤ 38 * D by omega) (Nat.le_of_ble_eq_true rfl) (Nat.le_of_ble_eq_true rfl) (fun r8 n8 R8 I8 L8 hr8 => ?_)
  obtain ⟨rfl, ⟨rfl, zr8, zi8, zl8, rg8, bl8⟩, fc8⟩ := hr8
  have bl8 : ∀ x, x < 40 → R8 x = R7 x ∧ I8 x = I7 x ∧ L8 x = L7 x := bl8
  have ra8 : R8 14 = (va_up (va_up (va_up (va_up (va_up (va_up (fun _ => none) 0 (some 15)) 1 (some 21)) 2 (some 32)) 3 (some 37)) 4 (some 38)) 5 (some 39)) := ((bl8 14 (by decide)).1).trans ra7
  have ia8 : I8 14 = (fun _ => 0) := ((bl8 14 (by decide)).2.1).trans ia7
  have la8 : L8 14 = (fun _ => 0) := ((bl8 14 (by decide)).2.2).trans la7
  refine wq_putR 72 fl_X0_42 dX0_init_69 rfl rfl (by first | exact Or.inl rfl | exact Or.inr ⟨rfl, rfl, rfl⟩) (fun _ => ⟨rfl, rfl⟩) ⟨Nat.le_of_ble_eq_true rfl, rfl⟩ ?_
  refine wq_bload_n 73 0 dX0_init_72 rfl rfl rfl ?_
  refine wq_genR (fun R9 I9 L9 eR9 eI9 eL9 => ?_)
  have ra9 : R9 14 = (va_up (va_up (va_up (va_up (va_up (va_up (va_up (fun _ => none) 0 (some 15)) 1 (some 21)) 2 (some 32)) 3 (some 37)) 4 (some 38)) 5 (some 39)) 6 (some 40)) := by rw [eR9]; simp only [va_up_self, ra8]
  have zr9 : Zr 45 R9 none := by rw [eR9]; exact (zr8.up (by decide) _)
  have bR9 : ∀ x, x ≠ 14 → R9 x = R8 x := fun x hx => by rw [eR9]; simp only [va_up_ne _ _ hx]
  have ia9 : I9 14 = (fun _ => 0) := by rw [eI9]; exact ia8
  have zi9 : Zr 45 I9 0 := by rw [eI9]; exact zi8
  have bI9 : ∀ x, x ≠ 14 → I9 x = I8 x := fun x hx => by rw [eI9]
  have la9 : L9 14 = (fun _ => 0) := by rw [eL9]; exact la8
  have zl9 : Zr 45 L9 0 := by rw [eL9]; exact zl8
  have bL9 : ∀ x, x ≠ 14 → L9 x = L8 x := fun x hx => by rw [eL9]
  clear eR9 eI9 eL9
  have er9 := zr9 45 (by decide)
  have ei9 := zi9 45 (by decide)
  have el9 := zl9 45 (by decide)
  refine wq_new 76 2 cl_X0_25 in_X2 it_X2 dX0_init_73 rfl (by decide) rfl (Nat.le_of_ble_eq_true rfl) (Nat.le_of_ble_eq_true rfl) er9 ei9 el9 ?_
  refine wq_dup 77 dX0_init_76 rfl rfl ?_
  have zrp9 : Zr 45 R9 none := fun x hx => by
    by_cases h : x = 45
    · rw [h]; exact er9
    · exact zr9 x (by omega)
  have zip9 : Zr 45 I9 0 := fun x hx => by
    by_cases h : x = 45
    · rw [h]; exact ei9
    · exact zi9 x (by omega)
  have zlp9 : Zr 45 L9 0 := fun x hx => by
    by_cases h : x = 45
    · rw [h]; exact el9
    · exact zl9 x (by omega)
  refine wq_callI 80 (As := []) (in_2_45 (D := D - 1) (by omega) zrp9 zip9 zlp9) ml_X0_27 mf_X2_init dX0_init_77 rfl rfl (Nat.le_of_ble_eq_true rfl) (show D - 1 + 1 ≤ D by omega) (show 38 * (D - 1) + 38 ≤ 38 * D by omega) (Nat.le_of_ble_eq_true rfl) (Nat.le_of_ble_eq_true rfl) (fun r10 n10 R10 I10 L10 hr10 => ?_)
  obtain ⟨rfl, ⟨rfl, zr10, zi10, zl10, rg10, bl10⟩, fc10⟩ := hr10
  have bl10 : ∀ x, x < 45 → R10 x = R9 x ∧ I10 x = I9 x ∧ L10 x = L9 x := bl10
  have ra10 : R10 14 = (va_up (va_up (va_up (va_up (va_up (va_up (va_up (fun _ => none) 0 (some 15)) 1 (some 21)) 2 (some 32)) 3 (some 37)) 4 (some 38)) 5 (some 39)) 6 (some 40)) := ((bl10 14 (by decide)).1).trans ra9
  have ia10 : I10 14 = (fun _ => 0) := ((bl10 14 (by decide)).2.1).trans ia9
  have la10 : L10 14 = (fun _ => 0) := ((bl10 14 (by decide)).2.2).trans la9
  refine wq_putR 83 fl_X0_45 dX0_init_80 rfl rfl (by first | exact Or.inl rfl | exact Or.inr ⟨rfl, rfl, rfl⟩) (fun _ => ⟨rfl, rfl⟩) ⟨Nat.le_of_ble_eq_true rfl, rfl⟩ ?_
  refine wq_bload_n 84 0 dX0_init_83 rfl rfl rfl ?_
  refine wq_iconst 85 0 dX0_init_84 rfl (by decide) ?_
  refine wq_putI 88 fl_X0_48 dX0_init_85 rfl rfl rfl rfl rfl ⟨Nat.le_of_ble_eq_true rfl, rfl⟩ ?_
  refine wq_bload_n 89 0 dX0_init_88 rfl rfl rfl ?_
  refine wq_lconst 90 0 dX0_init_89 rfl (by decide) ?_
  refine wq_putL 93 fl_X0_52 dX0_init_90 rfl rfl rfl rfl rfl ⟨Nat.le_of_ble_eq_true rfl, rfl⟩ ?_
  refine wq_bload_n 94 0 dX0_init_93 rfl rfl rfl ?_
  refine wq_iconst 95 0 dX0_init_94 rfl (by decide) ?_
  refine wq_putI 98 fl_X0_56 dX0_init_95 rfl rfl rfl rfl rfl ⟨Nat.le_of_ble_eq_true rfl, rfl⟩ ?_
  refine wq_bload_n 99 0 dX0_init_98 rfl rfl rfl ?_
  refine wq_iconst 100 0 dX0_init_99 rfl (by decide) ?_
  refine wq_putI 103 fl_X0_59 dX0_init_100 rfl rfl rfl rfl rfl ⟨Nat.le_of_ble_eq_true rfl, rfl⟩ ?_
  refine wq_bload_n 104 0 dX0_init_103 rfl rfl rfl ?_
  refine wq_bipush 106 16 dX0_init_104 rfl (by decide) ?_
  refine wq_putI 109 fl_X0_62 dX0_init_106 rfl rfl rfl rfl rfl ⟨Nat.le_of_ble_eq_true rfl, rfl⟩ ?_
  refine wq_bload_n 110 0 dX0_init_109 rfl rfl rfl ?_
  refine wq_iconst 111 0 dX0_init_110 rfl (by decide) ?_
  refine wq_putI 114 fl_X0_65 dX0_init_111 rfl rfl rfl rfl rfl ⟨Nat.le_of_ble_eq_true rfl, rfl⟩ ?_
  refine wq_bload_n 115 0 dX0_init_114 rfl rfl rfl ?_
  refine wq_iconst 116 0 dX0_init_115 rfl (by decide) ?_
  refine wq_putI 119 fl_X0_68 dX0_init_116 rfl rfl rfl rfl rfl ⟨Nat.le_of_ble_eq_true rfl, rfl⟩ ?_
  refine wq_genR (fun R11 I11 L11 eR11 eI11 eL11 => ?_)
  have ra11 : R11 14 = (va_up (va_up (va_up (va_up (va_up (va_up (va_up (va_up (fun _ => none) 0 (some 15)) 1 (some 21)) 2 (some 32)) 3 (some 37)) 4 (some 38)) 5 (some 39)) 6 (some 40)) 7 (some 45)) := by rw [eR11]; simp only [va_up_self, ra10]
  have zr11 : Zr 50 R11 none := by rw [eR11]; exact (zr10.up (by decide) _)
  have bR11 : ∀ x, x ≠ 14 → R11 x = R10 x := fun x hx => by rw [eR11]; simp only [va_up_ne _ _ hx]
  have ia11 : I11 14 = (va_up (va_up (va_up (va_up (va_up (va_up (fun _ => 0) 8 0) 10 0) 11 0) 12 16) 13 0) 14 0) := by rw [eI11]; simp only [va_up_self, ia10]
  have zi11 : Zr 50 I11 0 := by rw [eI11]; exact ((((((zi10.up (by decide) _).up (by decide) _).up (by decide) _).up (by decide) _).up (by decide) _).up (by decide) _)
  have bI11 : ∀ x, x ≠ 14 → I11 x = I10 x := fun x hx => by rw [eI11]; simp only [va_up_ne _ _ hx]
  have la11 : L11 14 = (va_up (fun _ => 0) 9 0) := by rw [eL11]; simp only [va_up_self, la10]
  have zl11 : Zr 50 L11 0 := by rw [eL11]; exact (zl10.up (by decide) _)
  have bL11 : ∀ x, x ≠ 14 → L11 x = L10 x := fun x hx => by rw [eL11]; simp only [va_up_ne _ _ hx]
  clear eR11 eI11 eL11
  refine wq_vret dX0_init_119 rfl (Nat.le_of_ble_eq_true rfl) (Nat.le_of_ble_eq_true rfl) ?_
  refine ⟨rfl, ⟨rfl, zr11.mono (by decide), zi11.mono (by decide), zl11.mono (by decide), fun x x1 x2 => ?_, fun x hx => ⟨?_, ?_, ?_⟩⟩, trivial⟩
  · by_cases h0 : x = 14
    · subst h0
      rw [ra11]
      funext k
      rcases k with _ | _ | _ | _ | _ | _ | _ | _ | k
      · rfl
      · rfl
      · rfl
      · rfl
      · rfl
      · rfl
      · rfl
      · rfl
      · rfl
    · have hx0 : 14 < x := by omega
      by_cases h2 : 15 ≤ x ∧ x < 21
      · rw [bR11 x (by omega), (bl10 x (by omega)).1, bR9 x (by omega), (bl8 x (by omega)).1, bR7 x (by omega), (bl6 x (by omega)).1, bR5 x (by omega), (bl4 x (by omega)).1, bR3 x (by omega), rg2 x h2.1 h2.2]
      by_cases h4 : 21 ≤ x ∧ x < 32
      · rw [bR11 x (by omega), (bl10 x (by omega)).1, bR9 x (by omega), (bl8 x (by omega)).1, bR7 x (by omega), (bl6 x (by omega)).1, bR5 x (by omega), rg4 x h4.1 h4.2]
      by_cases h6 : 32 ≤ x ∧ x < 37
      · rw [bR11 x (by omega), (bl10 x (by omega)).1, bR9 x (by omega), (bl8 x (by omega)).1, bR7 x (by omega), rg6 x h6.1 h6.2]
      by_cases h8 : 40 ≤ x ∧ x < 45
      · rw [bR11 x (by omega), (bl10 x (by omega)).1, bR9 x (by omega), rg8 x h8.1 h8.2]
      by_cases h10 : 45 ≤ x ∧ x < 50
      · rw [bR11 x (by omega), rg10 x h10.1 h10.2]
      have hr : x = 37 ∨ x = 38 ∨ x = 39 := by omega
      have ez : R11 x = fun _ => none := by
        rcases hr with rfl | rfl | rfl
        · rw [bR11 37 (by decide), (bl10 37 (by decide)).1, bR9 37 (by decide), (bl8 37 (by decide)).1, bR7 37 (by decide), zr6 37 (by decide)]
        · rw [bR11 38 (by decide), (bl10 38 (by decide)).1, bR9 38 (by decide), (bl8 38 (by decide)).1, bR7 38 (by decide), zr6 38 (by decide)]
        · rw [bR11 39 (by decide), (bl10 39 (by decide)).1, bR9 39 (by decide), (bl8 39 (by decide)).1, bR7 39 (by decide), zr6 39 (by decide)]
      rw [ez]
      rcases hr with rfl | rfl | rfl
      · exact (Rl_none rfl).symm
      · exact (Rl_none rfl).symm
      · exact (Rl_none rfl).symm
  · rw [bR11 x (by omega), (bl10 x (by omega)).1, bR9 x (by omega), (bl8 x (by omega)).1, bR7 x (by omega), (bl6 x (by omega)).1, bR5 x (by omega), (bl4 x (by omega)).1, bR3 x (by omega), (bl2 x (by omega)).1, bR1 x (by omega)]
  · rw [bI11 x (by omega), (bl10 x (by omega)).2.1, bI9 x (by omega), (bl8 x (by omega)).2.1, bI7 x (by omega), (bl6 x (by omega)).2.1, bI5 x (by omega), (bl4 x (by omega)).2.1, bI3 x (by omega), (bl2 x (by omega)).2.1, bI1 x (by omega)]
  · rw [bL11 x (by omega), (bl10 x (by omega)).2.2, bL9 x (by omega), (bl8 x (by omega)).2.2, bL7 x (by omega), (bl6 x (by omega)).2.2, bL5 x (by omega), (bl4 x (by omega)).2.2, bL3 x (by omega), (bl2 x (by omega)).2.2, bL1 x (by omega)]
set_option maxRecDepth 20000 in
set_option maxHeartbeats 4000000 in
theorem in_8_71 {g : Gl} {D : Nat} {R0 : RM} {I0 : IM} {L0 : LM} (hD : 1 ≤ D) (zr0 : Zr 71 R0 none) (zi0 : Zr 71 I0 0) (zl0 : Zr 71 L0 0) : Mp g D 31 4278 MX8_init [rf g 71] 72 R0 I0 L0 (fun r n' R' I' L' => r = none ∧ Pc 71 103 R0 I0 L0 n' R' I' L' ∧ (I' 71 0 = 3 ∧ (∀ z, z ≠ 0 → I' 71 z = 0) ∧ Zr 72 I' 0)) := by
  refine Mp.of 0 pf_X8_init (Nat.le_of_ble_eq_true rfl) ?_
  show Wp _ (0, 0, 72, R0) 0 [some (rf g 71)] [] I0 L0
  have ra0 : R0 71 = fun _ => none := zr0 71 (Nat.le_refl _)
  have ia0 : I0 71 = fun _ => 0 := zi0 71 (Nat.le_refl _)
  have la0 : L0 71 = fun _ => 0 := zl0 71 (Nat.le_refl _)
  replace zr0 := zr0.mono (Nat.le_succ _)
  replace zi0 := zi0.mono (Nat.le_succ _)
  replace zl0 := zl0.mono (Nat.le_succ _)
  refine wq_bload_n 1 0 dX8_init_0 rfl rfl rfl ?_
  refine wq_objInit 4 1 ol_X8_1 w_oinst w_ocode dX8_init_1 rfl (show 1 ≤ D by omega) (show 0 + 12 ≤ 38 * D by omega) ?_
  refine wq_bload_n 5 0 dX8_init_4 rfl rfl rfl ?_
  refine wq_iconst 6 3 dX8_init_5 rfl (by decide) ?_
  refine wq_putI 9 fl_X8_7 dX8_init_6 rfl rfl rfl rfl rfl ⟨Nat.le_of_ble_eq_true rfl, rfl⟩ ?_
  refine wq_bload_n 10 0 dX8_init_9 rfl rfl rfl ?_
  refine wq_bipush 12 30 dX8_init_10 rfl (by decide) ?_
  refine wq_newaI 14 30 ac_int dX8_init_12 rfl rfl rfl (by decide) (Nat.le_of_ble_eq_true rfl) (Nat.le_of_ble_eq_true rfl) ((zi0.up (by decide) _) 72 (by decide)) ?_
  refine wq_putR 17 fl_X8_13 dX8_init_14 rfl rfl (by first | exact Or.inl rfl | exact Or.inr ⟨rfl, rfl, rfl⟩) (fun _ => ⟨rfl, rfl⟩) ⟨Nat.le_of_ble_eq_true rfl, rfl⟩ ?_
  refine wq_bload_n 18 0 dX8_init_17 rfl rfl rfl ?_
  refine wq_bipush 20 30 dX8_init_18 rfl (by decide) ?_
  refine wq_newaI 22 30 ac_int dX8_init_20 rfl rfl rfl (by decide) (Nat.le_of_ble_eq_true rfl) (Nat.le_of_ble_eq_true rfl) ((zi0.up (by decide) _) 73 (by decide)) ?_
  refine wq_putR 25 fl_X8_17 dX8_init_22 rfl rfl (by first | exact Or.inl rfl | exact Or.inr ⟨rfl, rfl, rfl⟩) (fun _ => ⟨rfl, rfl⟩) ⟨Nat.le_of_ble_eq_true rfl, rfl⟩ ?_
  refine wq_bload_n 26 0 dX8_init_25 rfl rfl rfl ?_
  refine wq_bipush 28 30 dX8_init_26 rfl (by decide) ?_
  refine wq_newaI 30 30 ac_int dX8_init_28 rfl rfl rfl (by decide) (Nat.le_of_ble_eq_true rfl) (Nat.le_of_ble_eq_true rfl) ((zi0.up (by decide) _) 74 (by decide)) ?_
  refine wq_putR 33 fl_X8_20 dX8_init_30 rfl rfl (by first | exact Or.inl rfl | exact Or.inr ⟨rfl, rfl, rfl⟩) (fun _ => ⟨rfl, rfl⟩) ⟨Nat.le_of_ble_eq_true rfl, rfl⟩ ?_
  refine wq_bload_n 34 0 dX8_init_33 rfl rfl rfl ?_
  refine wq_bipush 36 30 dX8_init_34 rfl (by decide) ?_
  refine wq_newaI 38 30 ac_int dX8_init_36 rfl rfl rfl (by decide) (Nat.le_of_ble_eq_true rfl) (Nat.le_of_ble_eq_true rfl) ((zi0.up (by decide) _) 75 (by decide)) ?_
  refine wq_putR 41 fl_X8_23 dX8_init_38 rfl rfl (by first | exact Or.inl rfl | exact Or.inr ⟨rfl, rfl, rfl⟩) (fun _ => ⟨rfl, rfl⟩) ⟨Nat.le_of_ble_eq_true rfl, rfl⟩ ?_
  refine wq_bload_n 42 0 dX8_init_41 rfl rfl rfl ?_
  refine wq_bipush 44 60 dX8_init_42 rfl (by decide) ?_
  refine wq_newaI 46 60 ac_int dX8_init_44 rfl rfl rfl (by decide) (Nat.le_of_ble_eq_true rfl) (Nat.le_of_ble_eq_true rfl) ((zi0.up (by decide) _) 76 (by decide)) ?_
  refine wq_putR 49 fl_X8_26 dX8_init_46 rfl rfl (by first | exact Or.inl rfl | exact Or.inr ⟨rfl, rfl, rfl⟩) (fun _ => ⟨rfl, rfl⟩) ⟨Nat.le_of_ble_eq_true rfl, rfl⟩ ?_
  refine wq_bload_n 50 0 dX8_init_49 rfl rfl rfl ?_
  refine wq_bipush 52 91 dX8_init_50 rfl (by decide) ?_
  refine wq_newaI 54 91 ac_int dX8_init_52 rfl rfl rfl (by decide) (Nat.le_of_ble_eq_true rfl) (Nat.le_of_ble_eq_true rfl) ((zi0.up (by decide) _) 77 (by decide)) ?_
  refine wq_putR 57 fl_X8_29 dX8_init_54 rfl rfl (by first | exact Or.inl rfl | exact Or.inr ⟨rfl, rfl, rfl⟩) (fun _ => ⟨rfl, rfl⟩) ⟨Nat.le_of_ble_eq_true rfl, rfl⟩ ?_
  refine wq_bload_n 58 0 dX8_init_57 rfl rfl rfl ?_
  refine wq_bipush 60 91 dX8_init_58 rfl (by decide) ?_
  refine wq_newaI 62 91 ac_int dX8_init_60 rfl rfl rfl (by decide) (Nat.le_of_ble_eq_true rfl) (Nat.le_of_ble_eq_true rfl) ((zi0.up (by decide) _) 78 (by decide)) ?_
  refine wq_putR 65 fl_X8_32 dX8_init_62 rfl rfl (by first | exact Or.inl rfl | exact Or.inr ⟨rfl, rfl, rfl⟩) (fun _ => ⟨rfl, rfl⟩) ⟨Nat.le_of_ble_eq_true rfl, rfl⟩ ?_
  refine wq_bload_n 66 0 dX8_init_65 rfl rfl rfl ?_
  refine wq_bipush 68 91 dX8_init_66 rfl (by decide) ?_
  refine wq_newaI 70 91 ac_int dX8_init_68 rfl rfl rfl (by decide) (Nat.le_of_ble_eq_true rfl) (Nat.le_of_ble_eq_true rfl) ((zi0.up (by decide) _) 79 (by decide)) ?_
  refine wq_putR 73 fl_X8_35 dX8_init_70 rfl rfl (by first | exact Or.inl rfl | exact Or.inr ⟨rfl, rfl, rfl⟩) (fun _ => ⟨rfl, rfl⟩) ⟨Nat.le_of_ble_eq_true rfl, rfl⟩ ?_
  refine wq_bload_n 74 0 dX8_init_73 rfl rfl rfl ?_
  refine wq_bipush 76 91 dX8_init_74 rfl (by decide) ?_
  refine wq_newaI 78 91 ac_int dX8_init_76 rfl rfl rfl (by decide) (Nat.le_of_ble_eq_true rfl) (Nat.le_of_ble_eq_true rfl) ((zi0.up (by decide) _) 80 (by decide)) ?_
  refine wq_putR 81 fl_X8_38 dX8_init_78 rfl rfl (by first | exact Or.inl rfl | exact Or.inr ⟨rfl, rfl, rfl⟩) (fun _ => ⟨rfl, rfl⟩) ⟨Nat.le_of_ble_eq_true rfl, rfl⟩ ?_
  refine wq_bload_n 82 0 dX8_init_81 rfl rfl rfl ?_
  refine wq_bipush 84 91 dX8_init_82 rfl (by decide) ?_
  refine wq_newaI 86 91 ac_int dX8_init_84 rfl rfl rfl (by decide) (Nat.le_of_ble_eq_true rfl) (Nat.le_of_ble_eq_true rfl) ((zi0.up (by decide) _) 81 (by decide)) ?_
  refine wq_putR 89 fl_X8_41 dX8_init_86 rfl rfl (by first | exact Or.inl rfl | exact Or.inr ⟨rfl, rfl, rfl⟩) (fun _ => ⟨rfl, rfl⟩) ⟨Nat.le_of_ble_eq_true rfl, rfl⟩ ?_
  refine wq_bload_n 90 0 dX8_init_89 rfl rfl rfl ?_
  refine wq_bipush 92 91 dX8_init_90 rfl (by decide) ?_
  refine wq_newaI 94 91 ac_int dX8_init_92 rfl rfl rfl (by decide) (Nat.le_of_ble_eq_true rfl) (Nat.le_of_ble_eq_true rfl) ((zi0.up (by decide) _) 82 (by decide)) ?_
  refine wq_putR 97 fl_X8_44 dX8_init_94 rfl rfl (by first | exact Or.inl rfl | exact Or.inr ⟨rfl, rfl, rfl⟩) (fun _ => ⟨rfl, rfl⟩) ⟨Nat.le_of_ble_eq_true rfl, rfl⟩ ?_
  refine wq_bload_n 98 0 dX8_init_97 rfl rfl rfl ?_
  refine wq_bipush 100 91 dX8_init_98 rfl (by decide) ?_
  refine wq_newaI 102 91 ac_int dX8_init_100 rfl rfl rfl (by decide) (Nat.le_of_ble_eq_true rfl) (Nat.le_of_ble_eq_true rfl) ((zi0.up (by decide) _) 83 (by decide)) ?_
  refine wq_putR 105 fl_X8_47 dX8_init_102 rfl rfl (by first | exact Or.inl rfl | exact Or.inr ⟨rfl, rfl, rfl⟩) (fun _ => ⟨rfl, rfl⟩) ⟨Nat.le_of_ble_eq_true rfl, rfl⟩ ?_
  refine wq_bload_n 106 0 dX8_init_105 rfl rfl rfl ?_
  refine wq_bipush 108 91 dX8_init_106 rfl (by decide) ?_
  refine wq_newaI 110 91 ac_int dX8_init_108 rfl rfl rfl (by decide) (Nat.le_of_ble_eq_true rfl) (Nat.le_of_ble_eq_true rfl) ((zi0.up (by decide) _) 84 (by decide)) ?_
  refine wq_putR 113 fl_X8_50 dX8_init_110 rfl rfl (by first | exact Or.inl rfl | exact Or.inr ⟨rfl, rfl, rfl⟩) (fun _ => ⟨rfl, rfl⟩) ⟨Nat.le_of_ble_eq_true rfl, rfl⟩ ?_
  refine wq_bload_n 114 0 dX8_init_113 rfl rfl rfl ?_
  refine wq_bipush 116 91 dX8_init_114 rfl (by decide) ?_
  refine wq_newaL 118 91 ac_long dX8_init_116 rfl rfl rfl (by decide) (Nat.le_of_ble_eq_true rfl) (Nat.le_of_ble_eq_true rfl) (zl0 85 (by decide)) ?_
  refine wq_putR 121 fl_X8_53 dX8_init_118 rfl rfl (by first | exact Or.inl rfl | exact Or.inr ⟨rfl, rfl, rfl⟩) (fun _ => ⟨rfl, rfl⟩) ⟨Nat.le_of_ble_eq_true rfl, rfl⟩ ?_
  refine wq_bload_n 122 0 dX8_init_121 rfl rfl rfl ?_
  refine wq_bipush 124 91 dX8_init_122 rfl (by decide) ?_
  refine wq_newaL 126 91 ac_long dX8_init_124 rfl rfl rfl (by decide) (Nat.le_of_ble_eq_true rfl) (Nat.le_of_ble_eq_true rfl) (zl0 86 (by decide)) ?_
  refine wq_putR 129 fl_X8_57 dX8_init_126 rfl rfl (by first | exact Or.inl rfl | exact Or.inr ⟨rfl, rfl, rfl⟩) (fun _ => ⟨rfl, rfl⟩) ⟨Nat.le_of_ble_eq_true rfl, rfl⟩ ?_
  refine wq_bload_n 130 0 dX8_init_129 rfl rfl rfl ?_
  refine wq_bipush 132 64 dX8_init_130 rfl (by decide) ?_
  refine wq_newaL 134 64 ac_long dX8_init_132 rfl rfl rfl (by decide) (Nat.le_of_ble_eq_true rfl) (Nat.le_of_ble_eq_true rfl) (zl0 87 (by decide)) ?_
  refine wq_putR 137 fl_X8_60 dX8_init_134 rfl rfl (by first | exact Or.inl rfl | exact Or.inr ⟨rfl, rfl, rfl⟩) (fun _ => ⟨rfl, rfl⟩) ⟨Nat.le_of_ble_eq_true rfl, rfl⟩ ?_
  refine wq_bload_n 138 0 dX8_init_137 rfl rfl rfl ?_
  refine wq_bipush 140 64 dX8_init_138 rfl (by decide) ?_
  refine wq_newaI 142 64 ac_int dX8_init_140 rfl rfl rfl (by decide) (Nat.le_of_ble_eq_true rfl) (Nat.le_of_ble_eq_true rfl) ((zi0.up (by decide) _) 88 (by decide)) ?_
  refine wq_putR 145 fl_X8_63 dX8_init_142 rfl rfl (by first | exact Or.inl rfl | exact Or.inr ⟨rfl, rfl, rfl⟩) (fun _ => ⟨rfl, rfl⟩) ⟨Nat.le_of_ble_eq_true rfl, rfl⟩ ?_
  refine wq_bload_n 146 0 dX8_init_145 rfl rfl rfl ?_
  refine wq_bipush 148 64 dX8_init_146 rfl (by decide) ?_
  refine wq_newaI 150 64 ac_int dX8_init_148 rfl rfl rfl (by decide) (Nat.le_of_ble_eq_true rfl) (Nat.le_of_ble_eq_true rfl) ((zi0.up (by decide) _) 89 (by decide)) ?_
  refine wq_putR 153 fl_X8_66 dX8_init_150 rfl rfl (by first | exact Or.inl rfl | exact Or.inr ⟨rfl, rfl, rfl⟩) (fun _ => ⟨rfl, rfl⟩) ⟨Nat.le_of_ble_eq_true rfl, rfl⟩ ?_
  refine wq_bload_n 154 0 dX8_init_153 rfl rfl rfl ?_
  refine wq_bipush 156 91 dX8_init_154 rfl (by decide) ?_
  refine wq_newaI 158 91 ac_int dX8_init_156 rfl rfl rfl (by decide) (Nat.le_of_ble_eq_true rfl) (Nat.le_of_ble_eq_true rfl) ((zi0.up (by decide) _) 90 (by decide)) ?_
  refine wq_putR 161 fl_X8_69 dX8_init_158 rfl rfl (by first | exact Or.inl rfl | exact Or.inr ⟨rfl, rfl, rfl⟩) (fun _ => ⟨rfl, rfl⟩) ⟨Nat.le_of_ble_eq_true rfl, rfl⟩ ?_
  refine wq_bload_n 162 0 dX8_init_161 rfl rfl rfl ?_
  refine wq_bipush 164 91 dX8_init_162 rfl (by decide) ?_
  refine wq_newaZ 166 91 ac_boolean dX8_init_164 rfl rfl rfl (by decide) (Nat.le_of_ble_eq_true rfl) (Nat.le_of_ble_eq_true rfl) ((zi0.up (by decide) _) 91 (by decide)) ?_
  refine wq_putR 169 fl_X8_72 dX8_init_166 rfl rfl (by first | exact Or.inl rfl | exact Or.inr ⟨rfl, rfl, rfl⟩) (fun _ => ⟨rfl, rfl⟩) ⟨Nat.le_of_ble_eq_true rfl, rfl⟩ ?_
  refine wq_bload_n 170 0 dX8_init_169 rfl rfl rfl ?_
  refine wq_bipush 172 64 dX8_init_170 rfl (by decide) ?_
  refine wq_newaI 174 64 ac_int dX8_init_172 rfl rfl rfl (by decide) (Nat.le_of_ble_eq_true rfl) (Nat.le_of_ble_eq_true rfl) ((zi0.up (by decide) _) 92 (by decide)) ?_
  refine wq_putR 177 fl_X8_76 dX8_init_174 rfl rfl (by first | exact Or.inl rfl | exact Or.inr ⟨rfl, rfl, rfl⟩) (fun _ => ⟨rfl, rfl⟩) ⟨Nat.le_of_ble_eq_true rfl, rfl⟩ ?_
  refine wq_bload_n 178 0 dX8_init_177 rfl rfl rfl ?_
  refine wq_bipush 180 64 dX8_init_178 rfl (by decide) ?_
  refine wq_newaL 182 64 ac_long dX8_init_180 rfl rfl rfl (by decide) (Nat.le_of_ble_eq_true rfl) (Nat.le_of_ble_eq_true rfl) (zl0 93 (by decide)) ?_
  refine wq_putR 185 fl_X8_79 dX8_init_182 rfl rfl (by first | exact Or.inl rfl | exact Or.inr ⟨rfl, rfl, rfl⟩) (fun _ => ⟨rfl, rfl⟩) ⟨Nat.le_of_ble_eq_true rfl, rfl⟩ ?_
  refine wq_bload_n 186 0 dX8_init_185 rfl rfl rfl ?_
  refine wq_bipush 188 64 dX8_init_186 rfl (by decide) ?_
  refine wq_newaI 190 64 ac_int dX8_init_188 rfl rfl rfl (by decide) (Nat.le_of_ble_eq_true rfl) (Nat.le_of_ble_eq_true rfl) ((zi0.up (by decide) _) 94 (by decide)) ?_
  refine wq_putR 193 fl_X8_82 dX8_init_190 rfl rfl (by first | exact Or.inl rfl | exact Or.inr ⟨rfl, rfl, rfl⟩) (fun _ => ⟨rfl, rfl⟩) ⟨Nat.le_of_ble_eq_true rfl, rfl⟩ ?_
  refine wq_bload_n 194 0 dX8_init_193 rfl rfl rfl ?_
  refine wq_sipush 197 200 dX8_init_194 rfl (by decide) ?_
  refine wq_newaI 199 200 ac_int dX8_init_197 rfl rfl rfl (by decide) (Nat.le_of_ble_eq_true rfl) (Nat.le_of_ble_eq_true rfl) ((zi0.up (by decide) _) 95 (by decide)) ?_
  refine wq_putR 202 fl_X8_85 dX8_init_199 rfl rfl (by first | exact Or.inl rfl | exact Or.inr ⟨rfl, rfl, rfl⟩) (fun _ => ⟨rfl, rfl⟩) ⟨Nat.le_of_ble_eq_true rfl, rfl⟩ ?_
  refine wq_bload_n 203 0 dX8_init_202 rfl rfl rfl ?_
  refine wq_bipush 205 64 dX8_init_203 rfl (by decide) ?_
  refine wq_newaI 207 64 ac_int dX8_init_205 rfl rfl rfl (by decide) (Nat.le_of_ble_eq_true rfl) (Nat.le_of_ble_eq_true rfl) ((zi0.up (by decide) _) 96 (by decide)) ?_
  refine wq_putR 210 fl_X8_88 dX8_init_207 rfl rfl (by first | exact Or.inl rfl | exact Or.inr ⟨rfl, rfl, rfl⟩) (fun _ => ⟨rfl, rfl⟩) ⟨Nat.le_of_ble_eq_true rfl, rfl⟩ ?_
  refine wq_bload_n 211 0 dX8_init_210 rfl rfl rfl ?_
  refine wq_bipush 213 16 dX8_init_211 rfl (by decide) ?_
  refine wq_newaI 215 16 ac_int dX8_init_213 rfl rfl rfl (by decide) (Nat.le_of_ble_eq_true rfl) (Nat.le_of_ble_eq_true rfl) ((zi0.up (by decide) _) 97 (by decide)) ?_
  refine wq_putR 218 fl_X8_91 dX8_init_215 rfl rfl (by first | exact Or.inl rfl | exact Or.inr ⟨rfl, rfl, rfl⟩) (fun _ => ⟨rfl, rfl⟩) ⟨Nat.le_of_ble_eq_true rfl, rfl⟩ ?_
  refine wq_bload_n 219 0 dX8_init_218 rfl rfl rfl ?_
  refine wq_bipush 221 16 dX8_init_219 rfl (by decide) ?_
  refine wq_newaI 223 16 ac_int dX8_init_221 rfl rfl rfl (by decide) (Nat.le_of_ble_eq_true rfl) (Nat.le_of_ble_eq_true rfl) ((zi0.up (by decide) _) 98 (by decide)) ?_
  refine wq_putR 226 fl_X8_94 dX8_init_223 rfl rfl (by first | exact Or.inl rfl | exact Or.inr ⟨rfl, rfl, rfl⟩) (fun _ => ⟨rfl, rfl⟩) ⟨Nat.le_of_ble_eq_true rfl, rfl⟩ ?_
  refine wq_bload_n 227 0 dX8_init_226 rfl rfl rfl ?_
  refine wq_bipush 229 64 dX8_init_227 rfl (by decide) ?_
  refine wq_newaI 231 64 ac_int dX8_init_229 rfl rfl rfl (by decide) (Nat.le_of_ble_eq_true rfl) (Nat.le_of_ble_eq_true rfl) ((zi0.up (by decide) _) 99 (by decide)) ?_
  refine wq_putR 234 fl_X8_97 dX8_init_231 rfl rfl (by first | exact Or.inl rfl | exact Or.inr ⟨rfl, rfl, rfl⟩) (fun _ => ⟨rfl, rfl⟩) ⟨Nat.le_of_ble_eq_true rfl, rfl⟩ ?_
  refine wq_bload_n 235 0 dX8_init_234 rfl rfl rfl ?_
  refine wq_sipush 238 2000 dX8_init_235 rfl (by decide) ?_
  refine wq_newaI 240 2000 ac_int dX8_init_238 rfl rfl rfl (by decide) (Nat.le_of_ble_eq_true rfl) (Nat.le_of_ble_eq_true rfl) ((zi0.up (by decide) _) 100 (by decide)) ?_
  refine wq_putR 243 fl_X8_100 dX8_init_240 rfl rfl (by first | exact Or.inl rfl | exact Or.inr ⟨rfl, rfl, rfl⟩) (fun _ => ⟨rfl, rfl⟩) ⟨Nat.le_of_ble_eq_true rfl, rfl⟩ ?_
  refine wq_bload_n 244 0 dX8_init_243 rfl rfl rfl ?_
  refine wq_sipush 247 260 dX8_init_244 rfl (by decide) ?_
  refine wq_newaI 249 260 ac_int dX8_init_247 rfl rfl rfl (by decide) (Nat.le_of_ble_eq_true rfl) (Nat.le_of_ble_eq_true rfl) ((zi0.up (by decide) _) 101 (by decide)) ?_
  refine wq_putR 252 fl_X8_103 dX8_init_249 rfl rfl (by first | exact Or.inl rfl | exact Or.inr ⟨rfl, rfl, rfl⟩) (fun _ => ⟨rfl, rfl⟩) ⟨Nat.le_of_ble_eq_true rfl, rfl⟩ ?_
  refine wq_bload_n 253 0 dX8_init_252 rfl rfl rfl ?_
  refine wq_iconst 254 2 dX8_init_253 rfl (by decide) ?_
  refine wq_newaZ 256 2 ac_boolean dX8_init_254 rfl rfl rfl (by decide) (Nat.le_of_ble_eq_true rfl) (Nat.le_of_ble_eq_true rfl) ((zi0.up (by decide) _) 102 (by decide)) ?_
  refine wq_putR 259 fl_X8_106 dX8_init_256 rfl rfl (by first | exact Or.inl rfl | exact Or.inr ⟨rfl, rfl, rfl⟩) (fun _ => ⟨rfl, rfl⟩) ⟨Nat.le_of_ble_eq_true rfl, rfl⟩ ?_
  refine wq_genR (fun R1 I1 L1 eR1 eI1 eL1 => ?_)
  have ra1 : R1 71 = (va_up (va_up (va_up (va_up (va_up (va_up (va_up (va_up (va_up (va_up (va_up (va_up (va_up (va_up (va_up (va_up (va_up (va_up (va_up (va_up (va_up (va_up (va_up (va_up (va_up (va_up (va_up (va_up (va_up (va_up (va_up (fun _ => none) 2 (some 72)) 3 (some 73)) 4 (some 74)) 5 (some 75)) 8 (some 76)) 9 (some 77)) 10 (some 78)) 11 (some 79)) 12 (some 80)) 14 (some 81)) 15 (some 82)) 16 (some 83)) 17 (some 84)) 19 (some 85)) 20 (some 86)) 21 (some 87)) 22 (some 88)) 23 (some 89)) 25 (some 90)) 26 (some 91)) 28 (some 92)) 29 (some 93)) 31 (some 94)) 32 (some 95)) 38 (some 96)) 39 (some 97)) 41 (some 98)) 42 (some 99)) 43 (some 100)) 50 (some 101)) 51 (some 102)) := by rw [eR1]; simp only [va_up_self, ra0]
  have zr1 : Zr 72 R1 none := by rw [eR1]; exact (((((((((((((((((((((((((((((((zr0.up (by decide) _).up (by decide) _).up (by decide) _).up (by decide) _).up (by decide) _).up (by decide) _).up (by decide) _).up (by decide) _).up (by decide) _).up (by decide) _).up (by decide) _).up (by decide) _).up (by decide) _).up (by decide) _).up (by decide) _).up (by decide) _).up (by decide) _).up (by decide) _).up (by decide) _).up (by decide) _).up (by decide) _).up (by decide) _).up (by decide) _).up (by decide) _).up (by decide) _).up (by decide) _).up (by decide) _).up (by decide) _).up (by decide) _).up (by decide) _).up (by decide) _)
  have bR1 : ∀ x, x ≠ 71 → R1 x = R0 x := fun x hx => by rw [eR1]; simp only [va_up_ne _ _ hx]
  have ia1 : I1 71 = (va_up (fun _ => 0) 0 3) := by rw [eI1]; simp only [va_up_self, ia0]
  have zi1 : Zr 72 I1 0 := by rw [eI1]; exact (zi0.up (by decide) _)
  have bI1 : ∀ x, x ≠ 71 → I1 x = I0 x := fun x hx => by rw [eI1]; simp only [va_up_ne _ _ hx]
  have la1 : L1 71 = (fun _ => 0) := by rw [eL1]; exact la0
  have zl1 : Zr 72 L1 0 := by rw [eL1]; exact zl0
  have bL1 : ∀ x, x ≠ 71 → L1 x = L0 x := fun x hx => by rw [eL1]
  clear eR1 eI1 eL1
  refine wq_vret dX8_init_259 rfl (Nat.le_of_ble_eq_true rfl) (Nat.le_of_ble_eq_true rfl) ?_
  refine ⟨rfl, ⟨rfl, zr1.mono (by decide), zi1.mono (by decide), zl1.mono (by decide), fun x x1 x2 => ?_, fun x hx => ⟨?_, ?_, ?_⟩⟩, ⟨by rw [ia1]; rfl, fun z hz => by rw [ia1, va_up_ne _ _ hz], zi1⟩⟩
  · by_cases h0 : x = 71
    · subst h0
      rw [ra1]
      funext k
      rcases k with _ | _ | _ | _ | _ | _ | _ | _ | _ | _ | _ | _ | _ | _ | _ | _ | _ | _ | _ | _ | _ | _ | _ | _ | _ | _ | _ | _ | _ | _ | _ | _ | _ | _ | _ | _ | _ | _ | _ | _ | _ | _ | _ | _ | _ | _ | _ | _ | _ | _ | _ | _ | k
      · rfl
      · rfl
      · rfl
      · rfl
      · rfl
      · rfl
      · rfl
      · rfl
      · rfl
      · rfl
      · rfl
      · rfl
      · rfl
      · rfl
      · rfl
      · rfl
      · rfl
      · rfl
      · rfl
      · rfl
      · rfl
      · rfl
      · rfl
      · rfl
      · rfl
      · rfl
      · rfl
      · rfl
      · rfl
      · rfl
      · rfl
      · rfl
      · rfl
      · rfl
      · rfl
      · rfl
      · rfl
      · rfl
      · rfl
      · rfl
      · rfl
      · rfl
      · rfl
      · rfl
      · rfl
      · rfl
      · rfl
      · rfl
      · rfl
      · rfl
      · rfl
      · rfl
      · rfl
    · have hx0 : 71 < x := by omega
      have hr : x = 72 ∨ x = 73 ∨ x = 74 ∨ x = 75 ∨ x = 76 ∨ x = 77 ∨ x = 78 ∨ x = 79 ∨ x = 80 ∨ x = 81 ∨ x = 82 ∨ x = 83 ∨ x = 84 ∨ x = 85 ∨ x = 86 ∨ x = 87 ∨ x = 88 ∨ x = 89 ∨ x = 90 ∨ x = 91 ∨ x = 92 ∨ x = 93 ∨ x = 94 ∨ x = 95 ∨ x = 96 ∨ x = 97 ∨ x = 98 ∨ x = 99 ∨ x = 100 ∨ x = 101 ∨ x = 102 := by omega
      have ez : R1 x = fun _ => none := by
        rcases hr with rfl | rfl | rfl | rfl | rfl | rfl | rfl | rfl | rfl | rfl | rfl | rfl | rfl | rfl | rfl | rfl | rfl | rfl | rfl | rfl | rfl | rfl | rfl | rfl | rfl | rfl | rfl | rfl | rfl | rfl | rfl
        · rw [bR1 72 (by decide), zr0 72 (by decide)]
        · rw [bR1 73 (by decide), zr0 73 (by decide)]
        · rw [bR1 74 (by decide), zr0 74 (by decide)]
        · rw [bR1 75 (by decide), zr0 75 (by decide)]
        · rw [bR1 76 (by decide), zr0 76 (by decide)]
        · rw [bR1 77 (by decide), zr0 77 (by decide)]
        · rw [bR1 78 (by decide), zr0 78 (by decide)]
        · rw [bR1 79 (by decide), zr0 79 (by decide)]
        · rw [bR1 80 (by decide), zr0 80 (by decide)]
        · rw [bR1 81 (by decide), zr0 81 (by decide)]
        · rw [bR1 82 (by decide), zr0 82 (by decide)]
        · rw [bR1 83 (by decide), zr0 83 (by decide)]
        · rw [bR1 84 (by decide), zr0 84 (by decide)]
        · rw [bR1 85 (by decide), zr0 85 (by decide)]
        · rw [bR1 86 (by decide), zr0 86 (by decide)]
        · rw [bR1 87 (by decide), zr0 87 (by decide)]
        · rw [bR1 88 (by decide), zr0 88 (by decide)]
        · rw [bR1 89 (by decide), zr0 89 (by decide)]
        · rw [bR1 90 (by decide), zr0 90 (by decide)]
        · rw [bR1 91 (by decide), zr0 91 (by decide)]
        · rw [bR1 92 (by decide), zr0 92 (by decide)]
        · rw [bR1 93 (by decide), zr0 93 (by decide)]
        · rw [bR1 94 (by decide), zr0 94 (by decide)]
        · rw [bR1 95 (by decide), zr0 95 (by decide)]
        · rw [bR1 96 (by decide), zr0 96 (by decide)]
        · rw [bR1 97 (by decide), zr0 97 (by decide)]
        · rw [bR1 98 (by decide), zr0 98 (by decide)]
        · rw [bR1 99 (by decide), zr0 99 (by decide)]
        · rw [bR1 100 (by decide), zr0 100 (by decide)]
        · rw [bR1 101 (by decide), zr0 101 (by decide)]
        · rw [bR1 102 (by decide), zr0 102 (by decide)]
      rw [ez]
      rcases hr with rfl | rfl | rfl | rfl | rfl | rfl | rfl | rfl | rfl | rfl | rfl | rfl | rfl | rfl | rfl | rfl | rfl | rfl | rfl | rfl | rfl | rfl | rfl | rfl | rfl | rfl | rfl | rfl | rfl | rfl | rfl
      · exact (Rl_none rfl).symm
      · exact (Rl_none rfl).symm
      · exact (Rl_none rfl).symm
      · exact (Rl_none rfl).symm
      · exact (Rl_none rfl).symm
      · exact (Rl_none rfl).symm
      · exact (Rl_none rfl).symm
      · exact (Rl_none rfl).symm
      · exact (Rl_none rfl).symm
      · exact (Rl_none rfl).symm
      · exact (Rl_none rfl).symm
      · exact (Rl_none rfl).symm
      · exact (Rl_none rfl).symm
      · exact (Rl_none rfl).symm
      · exact (Rl_none rfl).symm
      · exact (Rl_none rfl).symm
      · exact (Rl_none rfl).symm
      · exact (Rl_none rfl).symm
      · exact (Rl_none rfl).symm
      · exact (Rl_none rfl).symm
      · exact (Rl_none rfl).symm
      · exact (Rl_none rfl).symm
      · exact (Rl_none rfl).symm
      · exact (Rl_none rfl).symm
      · exact (Rl_none rfl).symm
      · exact (Rl_none rfl).symm
      · exact (Rl_none rfl).symm
      · exact (Rl_none rfl).symm
      · exact (Rl_none rfl).symm
      · exact (Rl_none rfl).symm
      · exact (Rl_none rfl).symm
  · rw [bR1 x (by omega)]
  · rw [bI1 x (by omega)]
  · rw [bL1 x (by omega)]
