/-! WHAT THE TWO TEXTS TELL -/
set_option maxRecDepth 20000 in
theorem sp_J3_checkIndex {g : Gl} {D : Nat} {b : Bool} {I : IM} {L : LM} {i n : Int32} {w : Value} (hw : w.category = 1) (h0 : ¬ i < 0) (h1 : i < n) : Md g D MJ3_checkIndex_8e157 [.int i, .int n, w] b I L (some (.int i)) b I L := by
  refine Me.of [some (.int i), some (.int n), some w] 0 (by cases w <;> first | rfl | (simp [Value.category] at hw)) pf_J3_checkIndex_8e157 (by cases w <;> first | exact Nat.le_of_ble_eq_true rfl | (simp [Value.category] at hw)) ?_
  refine wq_iload_n 1 0 dJ3_checkIndex_8e157_0 rfl rfl rfl ?_
  refine wq_if_lt 4 9 dJ3_checkIndex_8e157_1 rfl (by decide) (fun c1 => absurd c1 h0) (fun c1 => ?_)
  refine wq_iload_n 5 0 dJ3_checkIndex_8e157_4 rfl rfl rfl ?_
  refine wq_iload_n 6 1 dJ3_checkIndex_8e157_5 rfl rfl rfl ?_
  refine wq_ic_lt 9 16 dJ3_checkIndex_8e157_6 rfl (by decide) (fun c6 => ?_) (fun c6 => absurd h1 c6)
  refine wq_iload_n 17 0 dJ3_checkIndex_8e157_16 rfl rfl rfl ?_
  refine ri .int dJ3_checkIndex_8e157_17 rfl rfl ?_
  exact ⟨rfl, rfl, rfl, rfl⟩
set_option maxRecDepth 20000 in
theorem sp_J0_checkIndex {g : Gl} {D : Nat} {b : Bool} {I : IM} {L : LM} {i n : Int32} (hD : 1 ≤ D) (h0 : ¬ i < 0) (h1 : i < n) : Md g D MJ0_checkIndex_df160 [.int i, .int n] b I L none b I L := by
  refine Me.of [some (.int i), some (.int n)] 0 rfl pf_J0_checkIndex_df160 (Nat.le_of_ble_eq_true rfl) ?_
  refine wq_iload_n 1 0 dJ0_checkIndex_df160_0 rfl rfl rfl ?_
  refine wq_iload_n 2 1 dJ0_checkIndex_df160_1 rfl rfl rfl ?_
  refine wq_sioobe 5 jf_J0_1053 dJ0_checkIndex_df160_2 rfl (fun w hw => ?_)
  refine cSi3 8 (sp_J3_checkIndex hw h0 h1) ml_J0_1059 mf_J3_checkIndex_8e157 dJ0_checkIndex_df160_5 rfl (Nat.le_of_ble_eq_true rfl) (by omega) ?_
  refine wq_pop 9 dJ0_checkIndex_df160_8 rfl rfl ?_
  refine rr dJ0_checkIndex_df160_9 rfl ?_
  exact ⟨rfl, rfl, rfl, rfl⟩
theorem chars_ok : ∀ i, i < 2 → ∀ j, j < sLen.getD i 0 → ((((sByt.getD i []).getD j 0) &&& 255).toUInt32 % 65536).toInt32 = (sByt.getD i []).getD j 0 ∧ narrow .char (.int ((sByt.getD i []).getD j 0)) = .int ((sByt.getD i []).getD j 0) := by decide +kernel
theorem len_ok : ∀ i, i < 2 → sLen.getD i 0 < 100 := by decide
set_option maxRecDepth 20000 in
theorem sp_J1_charAt {g : Gl} {D : Nat} {b : Bool} {I : IM} {L : LM} {i j : Nat} (hD : 2 ≤ D) (hi : i < 2) (hj : j < sLen.getD i 0) : Md g D MJ1_charAt_3b067 [.ref (gV g i), .int (nI j)] b I L (some (.int ((sByt.getD i []).getD j 0))) b I L := by
  have hl := len_ok i hi
  have hc := chars_ok i hi j hj
  refine Me.of [some (.ref (gV g i)), some (.int (nI j))] 0 rfl pf_J1_charAt_3b067 (Nat.le_of_ble_eq_true rfl) ?_
  refine wq_iload_n 1 1 dJ1_charAt_3b067_0 rfl rfl rfl ?_
  refine wq_aload_n 2 0 dJ1_charAt_3b067_1 rfl rfl rfl ?_
  refine wq_salen 3 i hi dJ1_charAt_3b067_2 rfl ?_
  refine cSv2 6 (sp_J0_checkIndex (by omega) (nI_pos (by omega)) (nI_lt hj (by omega))) ml_J1_9 mf_J0_checkIndex_df160 dJ1_charAt_3b067_3 rfl (Nat.le_of_ble_eq_true rfl) (by omega) ?_
  refine wq_aload_n 7 0 dJ1_charAt_3b067_6 rfl rfl rfl ?_
  refine wq_iload_n 8 1 dJ1_charAt_3b067_7 rfl rfl rfl ?_
  refine wq_sbald 9 i hi dJ1_charAt_3b067_8 rfl (Ix.nI hj (by omega)) ?_
  refine wq_sipush 12 255 dJ1_charAt_3b067_9 rfl (by decide) ?_
  refine wq_iand 13 dJ1_charAt_3b067_12 rfl ?_
  refine wq_i2c 14 dJ1_charAt_3b067_13 rfl ?_
  refine ri .char dJ1_charAt_3b067_14 rfl (by rw [hc.1]; exact hc.2) ?_
  exact ⟨by rw [hc.1], rfl, rfl, rfl⟩
set_option maxRecDepth 20000 in
theorem sp_J0_isLatin1 {g : Gl} {D : Nat} {b : Bool} {I : IM} {L : LM} {i : Nat} (hi : i < 2) : Md g D MJ0_isLatin1_aae02 [.ref (gK g i)] b I L (some (.int 1)) b I L := by
  refine Me.of [some (.ref (gK g i))] 0 rfl pf_J0_isLatin1_aae02 (Nat.le_of_ble_eq_true rfl) ?_
  refine wq_compact 3 jf_J0_38 dJ0_isLatin1_aae02_0 rfl ?_
  refine wq_if_eq 6 17 dJ0_isLatin1_aae02_3 rfl (by decide) (fun c3 => absurd c3 (by decide)) (fun c3 => ?_)
  refine wq_aload_n 7 0 dJ0_isLatin1_aae02_6 rfl rfl rfl ?_
  refine wq_scod 10 i hi jf_J0_15 dJ0_isLatin1_aae02_7 rfl ?_
  refine wq_if_ne 13 17 dJ0_isLatin1_aae02_10 rfl (by decide) (fun c => absurd rfl c) (fun c => ?_)
  refine wq_iconst 14 1 dJ0_isLatin1_aae02_13 rfl (by decide) ?_
  refine wq_goto 18 dJ0_isLatin1_aae02_14 (by decide) ?_
  refine ri .boolean dJ0_isLatin1_aae02_18 rfl rfl ?_
  exact ⟨rfl, rfl, rfl, rfl⟩
set_option maxRecDepth 20000 in
theorem sp_J0_charAt {g : Gl} {D : Nat} {b : Bool} {I : IM} {L : LM} {i j : Nat} (hD : 3 ≤ D) (hi : i < 2) (hj : j < sLen.getD i 0) : Md g D MJ0_charAt_5068e [.ref (gK g i), .int (nI j)] b I L (some (.int ((sByt.getD i []).getD j 0))) b I L := by
  have hc := chars_ok i hi j hj
  refine Me.of [some (.ref (gK g i)), some (.int (nI j))] 0 rfl pf_J0_charAt_5068e (Nat.le_of_ble_eq_true rfl) ?_
  refine wq_aload_n 1 0 dJ0_charAt_5068e_0 rfl rfl rfl ?_
  refine cTi0 4 i hi (sp_J0_isLatin1 hi) mj_J0_492 mf_J0_isLatin1_aae02 dJ0_charAt_5068e_1 rfl rfl (Nat.le_of_ble_eq_true rfl) (by omega) ?_
  refine wq_if_eq 7 16 dJ0_charAt_5068e_4 rfl (by decide) (fun c3 => absurd c3 (by decide)) (fun c3 => ?_)
  refine wq_aload_n 8 0 dJ0_charAt_5068e_7 rfl rfl rfl ?_
  refine wq_sval 11 i hi jf_J0_9 dJ0_charAt_5068e_8 rfl ?_
  refine wq_iload_n 12 1 dJ0_charAt_5068e_11 rfl rfl rfl ?_
  refine cSi2 15 (sp_J1_charAt (by omega) hi hj) ml_J0_495 mf_J1_charAt_3b067 dJ0_charAt_5068e_12 rfl (Nat.le_of_ble_eq_true rfl) (by omega) ?_
  refine ri .char dJ0_charAt_5068e_15 rfl hc.2 ?_
  exact ⟨rfl, rfl, rfl, rfl⟩
/-- what stands at place w of an instruction of kind k: 119 w, 114 r, 48 a number, 45 nothing -/
def shp (k w : Int32) : Int32 := if k < 0 ∨ 9 ≤ k ∨ w < 1 ∨ 3 < w then 45 else (sByt.getD 1 []).getD (3 * k.toNatClampNeg + w.toNatClampNeg - 1) 0
theorem shp_ix : ∀ k, k < 9 → ∀ w, w < 4 → 1 ≤ w → (3 : Int32) * nI k + nI w - 1 = nI (3 * k + w - 1) ∧ 3 * k + w - 1 < 27 := by decide +kernel
theorem shp_in {k w : Int32} (h1 : ¬ k < 0) (h2 : ¬ 9 ≤ k) (h3 : ¬ w < 1) (h4 : ¬ 3 < w) : ∃ m n : Nat, m < 9 ∧ n < 4 ∧ 1 ≤ n ∧ k = nI m ∧ w = nI n := by
  obtain ⟨m, hm, rfl⟩ := nI_of (x := k) h1
  have hw0 : ¬ w < 0 := by
    simp only [Int32.lt_iff_toInt_lt, Int32.not_lt] at *
    have e1 : (1 : Int32).toInt = 1 := by decide
    have e0 : (0 : Int32).toInt = 0 := by decide
    omega
  obtain ⟨n, hn, rfl⟩ := nI_of (x := w) hw0
  refine ⟨m, n, ?_, ?_, ?_, rfl, rfl⟩
  · have : ¬ nI 9 ≤ nI m := h2
    rw [nI_leI (by omega) hm] at this; omega
  · have : ¬ nI 3 < nI n := h4
    rw [nI_ltI (by omega) hn] at this; omega
  · have : ¬ nI n < nI 1 := h3
    rw [nI_ltI hn (by omega)] at this; omega
set_option maxRecDepth 20000 in
theorem sp_X7_shapeOf {g : Gl} {D : Nat} {b : Bool} {I : IM} {L : LM} (hD : 4 ≤ D) (k w : Int32) : Md g D MX7_shapeOf [.int k, .int w] b I L (some (.int (shp k w))) b I L := by
  refine Me.of [some (.int k), some (.int w)] 0 rfl pf_X7_shapeOf (Nat.le_of_ble_eq_true rfl) ?_
  refine wq_iload_n 1 0 dX7_shapeOf_0 rfl rfl rfl ?_
  refine wq_if_lt 4 20 dX7_shapeOf_1 rfl (by decide) (fun c1 => ?_) (fun c1 => ?_)
  · skip
    refine wq_bipush 22 45 dX7_shapeOf_20 rfl (by decide) ?_
    refine ri .char dX7_shapeOf_22 rfl rfl ?_
    exact ⟨by rw [shp, if_pos (by simp_all)], rfl, rfl, rfl⟩
  · skip
    refine wq_iload_n 5 0 dX7_shapeOf_4 rfl rfl rfl ?_
    refine wq_bipush 7 9 dX7_shapeOf_5 rfl (by decide) ?_
    refine wq_ic_ge 10 20 dX7_shapeOf_7 rfl (by decide) (fun c7 => ?_) (fun c7 => ?_)
    · skip
      refine wq_bipush 22 45 dX7_shapeOf_20 rfl (by decide) ?_
      refine ri .char dX7_shapeOf_22 rfl rfl ?_
      exact ⟨by rw [shp, if_pos (by simp_all)], rfl, rfl, rfl⟩
    · skip
      refine wq_iload_n 11 1 dX7_shapeOf_10 rfl rfl rfl ?_
      refine wq_iconst 12 1 dX7_shapeOf_11 rfl (by decide) ?_
      refine wq_ic_lt 15 20 dX7_shapeOf_12 rfl (by decide) (fun c12 => ?_) (fun c12 => ?_)
      · skip
        refine wq_bipush 22 45 dX7_shapeOf_20 rfl (by decide) ?_
        refine ri .char dX7_shapeOf_22 rfl rfl ?_
        exact ⟨by rw [shp, if_pos (by simp_all)], rfl, rfl, rfl⟩
      · skip
        refine wq_iload_n 16 1 dX7_shapeOf_15 rfl rfl rfl ?_
        refine wq_iconst 17 3 dX7_shapeOf_16 rfl (by decide) ?_
        refine wq_ic_le 20 23 dX7_shapeOf_17 rfl (by decide) (fun c17 => ?_) (fun c17 => ?_)
        · skip
          obtain ⟨m, n, hm, hn, h1, rfl, rfl⟩ := shp_in c1 c7 c12 (Int32.not_lt.mpr c17)
          have hx := shp_ix m hm n hn h1
          refine wq_ldcS 25 1 (by decide) rfl dX7_shapeOf_23 rfl ?_
          refine wq_iconst 26 3 dX7_shapeOf_25 rfl (by decide) ?_
          refine wq_iload_n 27 0 dX7_shapeOf_26 rfl rfl rfl ?_
          refine wq_imul 28 dX7_shapeOf_27 rfl ?_
          refine wq_iload_n 29 1 dX7_shapeOf_28 rfl rfl rfl ?_
          refine wq_iadd 30 dX7_shapeOf_29 rfl ?_
          refine wq_iconst 31 1 dX7_shapeOf_30 rfl (by decide) ?_
          refine wq_isub 32 dX7_shapeOf_31 rfl ?_
          rw [hx.1]
          refine cTi1 35 1 (by decide) (sp_J0_charAt (by omega) (by decide) hx.2) mj_X7_206 mf_J0_charAt_5068e dX7_shapeOf_32 rfl rfl (Nat.le_of_ble_eq_true rfl) (by omega) ?_
          refine ri .char dX7_shapeOf_35 rfl (chars_ok 1 (by decide) _ hx.2).2 ?_
          refine ⟨?_, rfl, rfl, rfl⟩
          rw [shp, if_neg (fun h => h.elim c1 (fun h => h.elim c7 (fun h => h.elim c12 (Int32.not_lt.mpr c17)))), nI_clamp (by omega), nI_clamp (by omega)]
        · skip
          refine wq_bipush 22 45 dX7_shapeOf_20 rfl (by decide) ?_
          refine ri .char dX7_shapeOf_22 rfl rfl ?_
          exact ⟨by rw [shp, if_pos (by simp_all)], rfl, rfl, rfl⟩
set_option maxRecDepth 20000 in
theorem sp_J1_canEncode {g : Gl} {D : Nat} {b : Bool} {I : IM} {L : LM} {c : Int32} (h0 : ¬ c < 0) (h1 : ¬ 255 < c) : Md g D MJ1_canEncode_9a6ad [.int c] b I L (some (.int 1)) b I L := by
  refine Me.of [some (.int c)] 0 rfl pf_J1_canEncode_9a6ad (Nat.le_of_ble_eq_true rfl) ?_
  refine wq_iload_n 1 0 dJ1_canEncode_9a6ad_0 rfl rfl rfl ?_
  refine wq_if_lt 4 15 dJ1_canEncode_9a6ad_1 rfl (by decide) (fun c1 => absurd c1 h0) (fun c1 => ?_)
  refine wq_iload_n 5 0 dJ1_canEncode_9a6ad_4 rfl rfl rfl ?_
  refine wq_sipush 8 255 dJ1_canEncode_9a6ad_5 rfl (by decide) ?_
  refine wq_ic_gt 11 15 dJ1_canEncode_9a6ad_8 rfl (by decide) (fun c8 => absurd c8 h1) (fun c8 => ?_)
  refine wq_iconst 12 1 dJ1_canEncode_9a6ad_11 rfl (by decide) ?_
  refine wq_goto 16 dJ1_canEncode_9a6ad_12 (by decide) ?_
  refine ri .boolean dJ1_canEncode_9a6ad_16 rfl rfl ?_
  exact ⟨rfl, rfl, rfl, rfl⟩
/-- the first place, from k on, at which the first text has the byte c; r places are left -/
def ixf (c : Int32) : Nat → Nat → Int32
  | _, 0 => -1
  | k, r + 1 => if (sByt.getD 0 []).getD k 0 = c then nI k else ixf c (k + 1) r
set_option maxRecDepth 20000 in
theorem lp_J1_indexOfChar {g : Gl} {D : Nat} {b : Bool} {I : IM} {L : LM} {x0 x2 : Int32} {post : Option Value → Bool → IM → LM → Prop} (c : Int32) : ∀ r k, k + r = 7 → post (some (.int (ixf c k r))) b I L → Wp (Kn g D MJ1_indexOfChar_4cfef post) (Tb b) 7 [some (.ref (gV g 0)), some (.int x0), some (.int x2), some (.int 7), some (.int c), some (.int (nI k))] [] I L := by
  intro r
  induction r with
  | zero =>
    intro k hk h
    have hk : k = 7 := by omega
    subst hk
    refine wq_iload 9 dJ1_indexOfChar_4cfef_7 rfl rfl ?_
    refine wq_iload_n 10 3 dJ1_indexOfChar_4cfef_9 rfl rfl rfl ?_
    refine wq_ic_ge 13 31 dJ1_indexOfChar_4cfef_10 rfl (by decide) (fun c10 => ?_) (fun c10 => absurd (by decide) c10)
    refine wq_iconst 32 (-1) dJ1_indexOfChar_4cfef_31 rfl (by decide) ?_
    refine ri .int dJ1_indexOfChar_4cfef_32 rfl rfl ?_
    exact h
  | succ r ih =>
    intro k hk h
    rw [ixf] at h
    refine wq_iload 9 dJ1_indexOfChar_4cfef_7 rfl rfl ?_
    refine wq_iload_n 10 3 dJ1_indexOfChar_4cfef_9 rfl rfl rfl ?_
    refine wq_ic_ge 13 31 dJ1_indexOfChar_4cfef_10 rfl (by decide) (fun c10 => absurd c10 (nI_ge (a := k) (b := 7) (by omega) (by decide))) (fun c10 => ?_)
    refine wq_aload_n 14 0 dJ1_indexOfChar_4cfef_13 rfl rfl rfl ?_
    refine wq_iload 16 dJ1_indexOfChar_4cfef_14 rfl rfl ?_
    refine wq_sbald 17 0 (by decide) dJ1_indexOfChar_4cfef_16 rfl (Ix.nI (by show k < 7; omega) (by decide)) ?_
    refine wq_iload 19 dJ1_indexOfChar_4cfef_17 rfl rfl ?_
    refine wq_ic_ne 22 25 dJ1_indexOfChar_4cfef_19 rfl (by decide) (fun c19 => ?_) (fun c19 => ?_)
    · skip
      refine wq_iinc 28 (nI (k + 1)) [_, _, _, _, _, _] dJ1_indexOfChar_4cfef_25 rfl rfl (nI_1 k) rfl (Nat.le_of_ble_eq_true rfl) rfl ?_
      refine wq_goto 7 dJ1_indexOfChar_4cfef_28 (by decide) ?_
      rw [if_neg c19] at h
      exact ih (k + 1) (by omega) h
    · skip
      refine wq_iload 24 dJ1_indexOfChar_4cfef_22 rfl rfl ?_
      refine ri .int dJ1_indexOfChar_4cfef_24 rfl rfl ?_
      rw [if_pos c19] at h
      exact h
theorem byte_same : ∀ n, n < 128 → (nI n).toInt8.toInt32 = nI n := by decide +kernel
set_option maxRecDepth 20000 in
theorem sp_J1_indexOfChar {g : Gl} {D : Nat} {b : Bool} {I : IM} {L : LM} {n : Nat} (hn : n < 128) : Md g D MJ1_indexOfChar_4cfef [.ref (gV g 0), .int (nI n), .int 0, .int 7] b I L (some (.int (ixf (nI n) 0 7))) b I L := by
  refine Me.of [some (.ref (gV g 0)), some (.int (nI n)), some (.int 0), some (.int 7), none, none] 2 rfl pf_J1_indexOfChar_4cfef (Nat.le_of_ble_eq_true rfl) ?_
  refine wq_iload_n 1 1 dJ1_indexOfChar_4cfef_0 rfl rfl rfl ?_
  refine wq_i2b 2 dJ1_indexOfChar_4cfef_1 rfl ?_
  rw [byte_same n hn]
  refine wq_istore 4 [_, _, _, _, _, _] dJ1_indexOfChar_4cfef_2 rfl rfl (Nat.le_of_ble_eq_true rfl) rfl ?_
  refine wq_iload_n 5 2 dJ1_indexOfChar_4cfef_4 rfl rfl rfl ?_
  refine wq_istore 7 [_, _, _, _, _, _] dJ1_indexOfChar_4cfef_5 rfl rfl (Nat.le_of_ble_eq_true rfl) rfl ?_
  exact lp_J1_indexOfChar (nI n) 7 0 rfl ⟨rfl, rfl, rfl, rfl⟩
set_option maxRecDepth 20000 in
theorem sp_J1_indexOf {g : Gl} {D : Nat} {b : Bool} {I : IM} {L : LM} {n : Nat} (hD : 1 ≤ D) (hn : n < 128) : Md g D MJ1_indexOf_4cfef [.ref (gV g 0), .int (nI n), .int 0, .int 7] b I L (some (.int (ixf (nI n) 0 7))) b I L := by
  refine Me.of [some (.ref (gV g 0)), some (.int (nI n)), some (.int 0), some (.int 7)] 0 rfl pf_J1_indexOf_4cfef (Nat.le_of_ble_eq_true rfl) ?_
  refine wq_iload_n 1 1 dJ1_indexOf_4cfef_0 rfl rfl rfl ?_
  refine cSi1 4 (sp_J1_canEncode (nI_pos (by omega)) (nI_nlt (a := 255) (by omega) (by decide))) ml_J1_88 mf_J1_canEncode_9a6ad dJ1_indexOf_4cfef_1 rfl (Nat.le_of_ble_eq_true rfl) (by omega) ?_
  refine wq_if_ne 7 9 dJ1_indexOf_4cfef_4 rfl (by decide) (fun c4 => ?_) (fun c4 => absurd c4 (by decide))
  refine wq_iload_n 10 2 dJ1_indexOf_4cfef_9 rfl rfl rfl ?_
  refine wq_iconst 11 0 dJ1_indexOf_4cfef_10 rfl (by decide) ?_
  refine cSi2 14 (sp_J9_max_7cf53 _ _) ml_J1_92 mf_J9_max_7cf53 dJ1_indexOf_4cfef_11 rfl (Nat.le_of_ble_eq_true rfl) (by omega) ?_
  refine wq_istore_n 15 2 [_, _, _, _] dJ1_indexOf_4cfef_14 rfl rfl rfl (Nat.le_of_ble_eq_true rfl) rfl ?_
  refine wq_iload_n 16 3 dJ1_indexOf_4cfef_15 rfl rfl rfl ?_
  refine wq_aload_n 17 0 dJ1_indexOf_4cfef_16 rfl rfl rfl ?_
  refine wq_salen 18 0 (by decide) dJ1_indexOf_4cfef_17 rfl ?_
  refine cSi2 21 (sp_J9_min_7cf53 _ _) ml_J1_38 mf_J9_min_7cf53 dJ1_indexOf_4cfef_18 rfl (Nat.le_of_ble_eq_true rfl) (by omega) ?_
  refine wq_istore_n 22 3 [_, _, _, _] dJ1_indexOf_4cfef_21 rfl rfl rfl (Nat.le_of_ble_eq_true rfl) rfl ?_
  refine wq_iload_n 23 2 dJ1_indexOf_4cfef_22 rfl rfl rfl ?_
  refine wq_iload_n 24 3 dJ1_indexOf_4cfef_23 rfl rfl rfl ?_
  refine wq_ic_lt 27 29 dJ1_indexOf_4cfef_24 rfl (by decide) (fun c24 => ?_) (fun c24 => absurd (by decide) c24)
  refine wq_aload_n 30 0 dJ1_indexOf_4cfef_29 rfl rfl rfl ?_
  refine wq_iload_n 31 1 dJ1_indexOf_4cfef_30 rfl rfl rfl ?_
  refine wq_iload_n 32 2 dJ1_indexOf_4cfef_31 rfl rfl rfl ?_
  refine wq_iload_n 33 3 dJ1_indexOf_4cfef_32 rfl rfl rfl ?_
  refine cSi4 36 (sp_J1_indexOfChar hn) ml_J1_95 mf_J1_indexOfChar_4cfef dJ1_indexOf_4cfef_33 rfl (Nat.le_of_ble_eq_true rfl) (by omega) ?_
  refine ri .int dJ1_indexOf_4cfef_36 rfl rfl ?_
  exact ⟨rfl, rfl, rfl, rfl⟩
set_option maxRecDepth 20000 in
theorem sp_J0_coder {g : Gl} {D : Nat} {b : Bool} {I : IM} {L : LM} {i : Nat} (hi : i < 2) : Md g D MJ0_coder_7d493 [.ref (gK g i)] b I L (some (.int 0)) b I L := by
  refine Me.of [some (.ref (gK g i))] 0 rfl pf_J0_coder_7d493 (Nat.le_of_ble_eq_true rfl) ?_
  refine wq_compact 3 jf_J0_38 dJ0_coder_7d493_0 rfl ?_
  refine wq_if_eq 6 13 dJ0_coder_7d493_3 rfl (by decide) (fun c3 => absurd c3 (by decide)) (fun c3 => ?_)
  refine wq_aload_n 7 0 dJ0_coder_7d493_6 rfl rfl rfl ?_
  refine wq_scod 10 i hi jf_J0_15 dJ0_coder_7d493_7 rfl ?_
  refine wq_goto 14 dJ0_coder_7d493_10 (by decide) ?_
  refine ri .byte dJ0_coder_7d493_14 rfl rfl ?_
  exact ⟨rfl, rfl, rfl, rfl⟩
set_option maxRecDepth 20000 in
theorem sp_J0_length {g : Gl} {D : Nat} {b : Bool} {I : IM} {L : LM} (hD : 1 ≤ D) : Md g D MJ0_length_8abf5 [.ref (gK g 0)] b I L (some (.int 7)) b I L := by
  refine Me.of [some (.ref (gK g 0))] 0 rfl pf_J0_length_8abf5 (Nat.le_of_ble_eq_true rfl) ?_
  refine wq_aload_n 1 0 dJ0_length_8abf5_0 rfl rfl rfl ?_
  refine wq_sval 4 0 (by decide) jf_J0_9 dJ0_length_8abf5_1 rfl ?_
  refine wq_salen 5 0 (by decide) dJ0_length_8abf5_4 rfl ?_
  refine wq_aload_n 6 0 dJ0_length_8abf5_5 rfl rfl rfl ?_
  refine cTi0 9 0 (by decide) (sp_J0_coder (by decide)) mj_J0_335 mf_J0_coder_7d493 dJ0_length_8abf5_6 rfl rfl (Nat.le_of_ble_eq_true rfl) (by omega) ?_
  refine wq_ishr 10 dJ0_length_8abf5_9 rfl ?_
  refine ri .int dJ0_length_8abf5_10 rfl rfl ?_
  exact ⟨rfl, rfl, rfl, rfl⟩
set_option maxRecDepth 20000 in
theorem sp_J0_indexOf2 {g : Gl} {D : Nat} {b : Bool} {I : IM} {L : LM} {n : Nat} (hD : 2 ≤ D) (hn : n < 128) : Md g D MJ0_indexOf_7cf53 [.ref (gK g 0), .int (nI n), .int 0] b I L (some (.int (ixf (nI n) 0 7))) b I L := by
  refine Me.of [some (.ref (gK g 0)), some (.int (nI n)), some (.int 0)] 0 rfl pf_J0_indexOf_7cf53 (Nat.le_of_ble_eq_true rfl) ?_
  refine wq_aload_n 1 0 dJ0_indexOf_7cf53_0 rfl rfl rfl ?_
  refine cTi0 4 0 (by decide) (sp_J0_isLatin1 (by decide)) mj_J0_492 mf_J0_isLatin1_aae02 dJ0_indexOf_7cf53_1 rfl rfl (Nat.le_of_ble_eq_true rfl) (by omega) ?_
  refine wq_if_eq 7 23 dJ0_indexOf_7cf53_4 rfl (by decide) (fun c4 => absurd c4 (by decide)) (fun c4 => ?_)
  refine wq_aload_n 8 0 dJ0_indexOf_7cf53_7 rfl rfl rfl ?_
  refine wq_sval 11 0 (by decide) jf_J0_9 dJ0_indexOf_7cf53_8 rfl ?_
  refine wq_iload_n 12 1 dJ0_indexOf_7cf53_11 rfl rfl rfl ?_
  refine wq_iload_n 13 2 dJ0_indexOf_7cf53_12 rfl rfl rfl ?_
  refine wq_aload_n 14 0 dJ0_indexOf_7cf53_13 rfl rfl rfl ?_
  refine cTi0 17 0 (by decide) (sp_J0_length (by omega)) mj_J0_505 mf_J0_length_8abf5 dJ0_indexOf_7cf53_14 rfl rfl (Nat.le_of_ble_eq_true rfl) (by omega) ?_
  refine cSi4 20 (sp_J1_indexOf (by omega) hn) ml_J0_637 mf_J1_indexOf_4cfef dJ0_indexOf_7cf53_17 rfl (Nat.le_of_ble_eq_true rfl) (by omega) ?_
  refine wq_goto 36 dJ0_indexOf_7cf53_20 (by decide) ?_
  refine ri .int dJ0_indexOf_7cf53_36 rfl rfl ?_
  exact ⟨rfl, rfl, rfl, rfl⟩
set_option maxRecDepth 20000 in
theorem sp_J0_indexOf1 {g : Gl} {D : Nat} {b : Bool} {I : IM} {L : LM} {n : Nat} (hD : 3 ≤ D) (hn : n < 128) : Md g D MJ0_indexOf_0f7a4 [.ref (gK g 0), .int (nI n)] b I L (some (.int (ixf (nI n) 0 7))) b I L := by
  refine Me.of [some (.ref (gK g 0)), some (.int (nI n))] 0 rfl pf_J0_indexOf_0f7a4 (Nat.le_of_ble_eq_true rfl) ?_
  refine wq_aload_n 1 0 dJ0_indexOf_0f7a4_0 rfl rfl rfl ?_
  refine wq_iload_n 2 1 dJ0_indexOf_0f7a4_1 rfl rfl rfl ?_
  refine wq_iconst 3 0 dJ0_indexOf_0f7a4_2 rfl (by decide) ?_
  refine cTi2 6 0 (by decide) (sp_J0_indexOf2 (by omega) hn) mj_J0_633 mf_J0_indexOf_7cf53 dJ0_indexOf_0f7a4_3 rfl rfl (Nat.le_of_ble_eq_true rfl) (by omega) ?_
  refine ri .int dJ0_indexOf_0f7a4_6 rfl rfl ?_
  exact ⟨rfl, rfl, rfl, rfl⟩
/-- the kind that a sign opens; -1: none -/
def kopn (n : Nat) : Int32 := ixf (nI n) 0 7
theorem char_same : ∀ n, n < 128 → ((nI n).toUInt32 % 65536).toInt32 = nI n := by decide +kernel
set_option maxRecDepth 20000 in
theorem sp_X4_kindOf {g : Gl} {D : Nat} {b : Bool} {I : IM} {L : LM} {n : Nat} (hD : 4 ≤ D) (hn : n < 128) : Md g D MX4_kindOf [.int (nI n)] b I L (some (.int (kopn n))) b I L := by
  refine Me.of [some (.int (nI n))] 0 rfl pf_X4_kindOf (Nat.le_of_ble_eq_true rfl) ?_
  refine wq_ldcS 2 0 (by decide) rfl dX4_kindOf_0 rfl ?_
  refine wq_iload_n 3 0 dX4_kindOf_2 rfl rfl rfl ?_
  refine wq_i2c 4 dX4_kindOf_3 rfl ?_
  rw [char_same n hn]
  refine cTi1 7 0 (by decide) (sp_J0_indexOf1 (by omega) hn) mj_X4_46 mf_J0_indexOf_0f7a4 dX4_kindOf_4 rfl rfl (Nat.le_of_ble_eq_true rfl) (by omega) ?_
  refine ri .int dX4_kindOf_7 rfl rfl ?_
  exact ⟨rfl, rfl, rfl, rfl⟩
