def shrL (x : Int64) (k : Int32) : Int64 := (x.toUInt64 >>> (k.toInt64.toUInt64 &&& Int64.toUInt64 63)).toInt64
theorem shrL_lN {n k : Nat} {i : Int32} (hi : i = nI k) (hn : n < 2 ^ 64) (hk : k < 64) : shrL (lN n) i = lN (n / 2 ^ k) := by
  subst hi
  exact wb_shr hn hk
theorem f1_le (X : Nat) : f1 8 X ≤ X := Nat.sub_le _ _
theorem f2_le (x : Nat) : f2 8 x ≤ 7378697629483820646 := by
  unfold f2
  have h1 : x &&& msk 51 8 ≤ msk 51 8 := Nat.and_le_right
  have h2 : x / 4 &&& msk 51 8 ≤ msk 51 8 := Nat.and_le_right
  have h3 : msk 51 8 = 3689348814741910323 := by decide
  omega
theorem bc_1 {X : Nat} (hX : X < 2 ^ 64) : lN X - (shrL (lN X) 1 &&& 6148914691236517205) = lN (f1 8 X) := by
  rw [shrL_lN (k := 1) (by decide) hX (by omega), show (6148914691236517205 : Int64) = lN (msk 85 8) by decide, wb_and (by omega) (by decide)]
  exact lN_sub (Nat.le_trans Nat.and_le_left (Nat.div_le_self _ _))
theorem bc_2 {X : Nat} (hX : X < 2 ^ 64) : (lN X &&& 3689348814741910323) + (shrL (lN X) 2 &&& 3689348814741910323) = lN (f2 8 X) := by
  rw [shrL_lN (k := 2) (by decide) hX (by omega), show (3689348814741910323 : Int64) = lN (msk 51 8) by decide, wb_and hX (by decide), wb_and (by omega) (by decide), lN_add]
  rfl
theorem bc_3 {X : Nat} (hX : X ≤ 7378697629483820646) : (lN X + shrL (lN X) 4) &&& 1085102592571150095 = lN (f3 8 X) := by
  rw [shrL_lN (k := 4) (by decide) (by omega) (by omega), show (1085102592571150095 : Int64) = lN (msk 15 8) by decide, lN_add, wb_and (by omega) (by decide)]
  rfl
theorem bc_s {X k : Nat} {i : Int32} (hi : i = nI k) (hX : X < 2 ^ 64) (hk : k < 64) : lN X + shrL (lN X) i = lN (X + X / 2 ^ k) := by
  rw [shrL_lN hi hX hk, lN_add]
theorem bc_fin {X : Nat} (hX : X < 2 ^ 64) {x1 x2 x3 x4 x5 x6 : Int64} (e1 : x1 = lN X - (shrL (lN X) 1 &&& 6148914691236517205)) (e2 : x2 = (x1 &&& 3689348814741910323) + (shrL x1 2 &&& 3689348814741910323)) (e3 : x3 = (x2 + shrL x2 4) &&& 1085102592571150095) (e4 : x4 = x3 + shrL x3 8) (e5 : x5 = x4 + shrL x4 16) (e6 : x6 = x5 + shrL x5 32) : x6.toInt32 &&& 127 = nI (onesN 64 X) := by
  rw [bc_1 hX] at e1
  rw [e1, bc_2 (Nat.lt_of_le_of_lt (f1_le X) hX)] at e2
  rw [e2, bc_3 (f2_le _)] at e3
  have h3 : ff 8 X ≤ 578721382704613384 := ff_le 8 X
  rw [e3, show f3 8 (f2 8 (f1 8 X)) = ff 8 X from rfl, bc_s (k := 8) (by decide) (by omega) (by omega)] at e4
  have h4 : ff 8 X + ff 8 X / 2 ^ 8 ≤ 1157442765409226768 := by omega
  generalize hy3 : ff 8 X = y3 at *
  generalize hy4 : y3 + y3 / 2 ^ 8 = y4 at *
  rw [e4, bc_s (k := 16) (by decide) (by omega) (by omega)] at e5
  generalize hy5 : y4 + y4 / 2 ^ 16 = y5 at *
  have h5 : y5 ≤ 2314885530818453536 := by omega
  rw [e5, bc_s (k := 32) (by decide) (by omega) (by omega)] at e6
  rw [e6, lN_i, show (127 : Int32) = nI (2 ^ 7 - 1) by decide, fa_mask, fold_ok X y3 y4 y5 (y5 + y5 / 2 ^ 32) hy3.symm hy4.symm hy5.symm rfl]
theorem cnt_lN {X : Nat} (hX : X < 2 ^ 64) : cnt (lN X) = onesN 64 X := by
  unfold cnt
  rw [← onesN_cnt _ 64 (Nat.le_refl _), wb_tn hX]
set_option maxRecDepth 20000 in
theorem sp_J13_bitCount {g : Gl} {D : Nat} {b : Bool} {I : IM} {L : LM} (s : Int64) : Md g D MJ13_bitCount_95d88 [.long s] b I L (some (.int (nI (cnt s)))) b I L := by
  obtain ⟨X, hX, rfl⟩ := wb_of s
  refine Me.of [some (.long (lN X)), none] 0 rfl pf_J13_bitCount_95d88 (Nat.le_of_ble_eq_true rfl) ?_
  refine wq_lload_n 1 0 dJ13_bitCount_95d88_0 rfl rfl rfl ?_
  refine wq_lload_n 2 0 dJ13_bitCount_95d88_1 rfl rfl rfl ?_
  refine wq_iconst 3 1 dJ13_bitCount_95d88_2 rfl (by decide) ?_
  refine wq_lushr 4 dJ13_bitCount_95d88_3 rfl ?_
  refine wq_ldc2 7 (6148914691236517205) dJ13_bitCount_95d88_4 rfl kc_J13_314 ?_
  refine wq_land 8 dJ13_bitCount_95d88_7 rfl ?_
  refine wq_lsub 9 dJ13_bitCount_95d88_8 rfl ?_
  refine wq_nmL (fun x1 e_x1 => ?_)
  refine wq_lstore_n 10 0 [_, _] dJ13_bitCount_95d88_9 rfl rfl rfl (Nat.le_of_ble_eq_true rfl) rfl ?_
  refine wq_lload_n 11 0 dJ13_bitCount_95d88_10 rfl rfl rfl ?_
  refine wq_ldc2 14 (3689348814741910323) dJ13_bitCount_95d88_11 rfl kc_J13_316 ?_
  refine wq_land 15 dJ13_bitCount_95d88_14 rfl ?_
  refine wq_lload_n 16 0 dJ13_bitCount_95d88_15 rfl rfl rfl ?_
  refine wq_iconst 17 2 dJ13_bitCount_95d88_16 rfl (by decide) ?_
  refine wq_lushr 18 dJ13_bitCount_95d88_17 rfl ?_
  refine wq_ldc2 21 (3689348814741910323) dJ13_bitCount_95d88_18 rfl kc_J13_316 ?_
  refine wq_land 22 dJ13_bitCount_95d88_21 rfl ?_
  refine wq_ladd 23 dJ13_bitCount_95d88_22 rfl ?_
  refine wq_nmL (fun x2 e_x2 => ?_)
  refine wq_lstore_n 24 0 [_, _] dJ13_bitCount_95d88_23 rfl rfl rfl (Nat.le_of_ble_eq_true rfl) rfl ?_
  refine wq_lload_n 25 0 dJ13_bitCount_95d88_24 rfl rfl rfl ?_
  refine wq_lload_n 26 0 dJ13_bitCount_95d88_25 rfl rfl rfl ?_
  refine wq_iconst 27 4 dJ13_bitCount_95d88_26 rfl (by decide) ?_
  refine wq_lushr 28 dJ13_bitCount_95d88_27 rfl ?_
  refine wq_ladd 29 dJ13_bitCount_95d88_28 rfl ?_
  refine wq_ldc2 32 (1085102592571150095) dJ13_bitCount_95d88_29 rfl kc_J13_318 ?_
  refine wq_land 33 dJ13_bitCount_95d88_32 rfl ?_
  refine wq_nmL (fun x3 e_x3 => ?_)
  refine wq_lstore_n 34 0 [_, _] dJ13_bitCount_95d88_33 rfl rfl rfl (Nat.le_of_ble_eq_true rfl) rfl ?_
  refine wq_lload_n 35 0 dJ13_bitCount_95d88_34 rfl rfl rfl ?_
  refine wq_lload_n 36 0 dJ13_bitCount_95d88_35 rfl rfl rfl ?_
  refine wq_bipush 38 8 dJ13_bitCount_95d88_36 rfl (by decide) ?_
  refine wq_lushr 39 dJ13_bitCount_95d88_38 rfl ?_
  refine wq_ladd 40 dJ13_bitCount_95d88_39 rfl ?_
  refine wq_nmL (fun x4 e_x4 => ?_)
  refine wq_lstore_n 41 0 [_, _] dJ13_bitCount_95d88_40 rfl rfl rfl (Nat.le_of_ble_eq_true rfl) rfl ?_
  refine wq_lload_n 42 0 dJ13_bitCount_95d88_41 rfl rfl rfl ?_
  refine wq_lload_n 43 0 dJ13_bitCount_95d88_42 rfl rfl rfl ?_
  refine wq_bipush 45 16 dJ13_bitCount_95d88_43 rfl (by decide) ?_
  refine wq_lushr 46 dJ13_bitCount_95d88_45 rfl ?_
  refine wq_ladd 47 dJ13_bitCount_95d88_46 rfl ?_
  refine wq_nmL (fun x5 e_x5 => ?_)
  refine wq_lstore_n 48 0 [_, _] dJ13_bitCount_95d88_47 rfl rfl rfl (Nat.le_of_ble_eq_true rfl) rfl ?_
  refine wq_lload_n 49 0 dJ13_bitCount_95d88_48 rfl rfl rfl ?_
  refine wq_lload_n 50 0 dJ13_bitCount_95d88_49 rfl rfl rfl ?_
  refine wq_bipush 52 32 dJ13_bitCount_95d88_50 rfl (by decide) ?_
  refine wq_lushr 53 dJ13_bitCount_95d88_52 rfl ?_
  refine wq_ladd 54 dJ13_bitCount_95d88_53 rfl ?_
  refine wq_nmL (fun x6 e_x6 => ?_)
  refine wq_lstore_n 55 0 [_, _] dJ13_bitCount_95d88_54 rfl rfl rfl (Nat.le_of_ble_eq_true rfl) rfl ?_
  refine wq_lload_n 56 0 dJ13_bitCount_95d88_55 rfl rfl rfl ?_
  refine wq_l2i 57 dJ13_bitCount_95d88_56 rfl ?_
  refine wq_bipush 59 127 dJ13_bitCount_95d88_57 rfl (by decide) ?_
  refine wq_iand 60 dJ13_bitCount_95d88_59 rfl ?_
  refine ri .int dJ13_bitCount_95d88_60 rfl rfl ?_
  exact ⟨by rw [cnt_lN hX, bc_fin hX e_x1 e_x2 e_x3 e_x4 e_x5 e_x6], rfl, rfl, rfl⟩
