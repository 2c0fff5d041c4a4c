/-! Listing: reads -/
theorem va_up_id {α : Type} (f : Nat → α) (k : Nat) : va_up f k (f k) = f := by
  funext j
  by_cases h : j = k
  · subst h; rw [va_up_self]
  · rw [va_up_ne _ _ h]
theorem nI_lit (n : Nat) : (OfNat.ofNat n : Int32) = nI n := rfl
theorem ix4 {j k n : Nat} (hj : j < n) (hn : n ≤ 90) (hk : k < 4) : (4 : Int32) * nI j + nI k = nI (4 * j + k) := by
  rw [show (4 : Int32) = nI 4 from rfl, pk_mul, nI_add]
set_option maxRecDepth 20000 in
theorem sp_X2_partAt {g : Gl} {D : Nat} {b : Bool} {I : IM} {L : LM} {a n : Nat} (ha : IsL a) (hc : I a 4 = nI n) (hn : n ≤ 90) {i w : Int32} (j k : Nat) (hi : i = nI j) (hw : w = nI k) (hj : j < n) (hk : k < 4) : Md g D MX2_partAt [rf g a, .int i, .int w] b I L (some (.int (I (a + 1) (4 * j + k)))) b I L := by
  subst hi hw
  refine Me.of [some (rf g a), some (.int (nI j)), some (.int (nI k))] 0 rfl pf_X2_partAt (Nat.le_of_ble_eq_true rfl) ?_
  refine wq_iload_n 1 1 dX2_partAt_0 rfl rfl rfl ?_
  refine wq_if_lt 4 27 dX2_partAt_1 rfl (by decide) (fun c1 => absurd c1 (nI_pos (by omega))) (fun c1 => ?_)
  refine wq_iload_n 5 1 dX2_partAt_4 rfl rfl rfl ?_
  refine wq_bload_n 6 0 dX2_partAt_5 rfl rfl rfl ?_
  refine wq_getI 9 fl_X2_25 dX2_partAt_6 rfl rfl (L_ob ha) ?_
  refine wq_ic_ge 12 27 dX2_partAt_9 rfl (by decide) (fun c9 => absurd c9 (by rw [hc]; exact nI_ge (by omega) (by omega))) (fun c9 => ?_)
  refine wq_iload_n 13 1 dX2_partAt_12 rfl rfl rfl ?_
  refine wq_bipush 15 90 dX2_partAt_13 rfl (by decide) ?_
  refine wq_ic_ge 18 27 dX2_partAt_15 rfl (by decide) (fun c15 => absurd c15 (nI_ge (b := 90) (by omega) (by decide))) (fun c15 => ?_)
  refine wq_iload_n 19 2 dX2_partAt_18 rfl rfl rfl ?_
  refine wq_if_lt 22 27 dX2_partAt_19 rfl (by decide) (fun c19 => absurd c19 (nI_pos (by omega))) (fun c19 => ?_)
  refine wq_iload_n 23 2 dX2_partAt_22 rfl rfl rfl ?_
  refine wq_iconst 24 3 dX2_partAt_23 rfl (by decide) ?_
  refine wq_ic_le 27 30 dX2_partAt_24 rfl (by decide) (fun c24 => ?_) (fun c24 => absurd (nI_le (b := 3) (by omega) (by decide)) c24)
  refine wq_bload_n 31 0 dX2_partAt_30 rfl rfl rfl ?_
  refine wq_getR 34 fl_X2_9 dX2_partAt_31 rfl rfl (L_ob ha) (L_rf0 ha) ?_
  refine wq_iconst 35 4 dX2_partAt_34 rfl (by decide) ?_
  refine wq_iload_n 36 1 dX2_partAt_35 rfl rfl rfl ?_
  refine wq_imul 37 dX2_partAt_36 rfl ?_
  refine wq_iload_n 38 2 dX2_partAt_37 rfl rfl rfl ?_
  refine wq_iadd 39 dX2_partAt_38 rfl ?_
  rw [ix4 hj hn hk]
  refine wq_iald 40 dX2_partAt_39 rfl (L_ar0 ha) (Ix.nI (by omega) (by decide)) ?_
  refine ri .int dX2_partAt_40 rfl rfl ?_
  exact ⟨rfl, rfl, rfl, rfl⟩
/-- the name at place w of row j of a table; -6: none -/
def nmT (t : Nat → Int32) (j k : Nat) : Int32 := if shp (t (4 * j + 0)) (nI k) = 114 ∨ shp (t (4 * j + 0)) (nI k) = 119 then (if t (4 * j + k) < 0 then -6 else if 64 ≤ t (4 * j + k) then -6 else t (4 * j + k)) else -6
set_option maxRecDepth 20000 in
theorem sp_X2_nameAt {g : Gl} {D : Nat} {b : Bool} {I : IM} {L : LM} {a n : Nat} (hD : 5 ≤ D) (ha : IsL a) (hc : I a 4 = nI n) (hn : n ≤ 90) {i w : Int32} (j k : Nat) (hi : i = nI j) (hw : w = nI k) (hj : j < n) (hk : k < 4) : Md g D MX2_nameAt [rf g a, .int i, .int w] b I L (some (.int (nmT (I (a + 1)) j k))) b I L := by
  subst hi hw
  refine Me.of [some (rf g a), some (.int (nI j)), some (.int (nI k)), none, none] 2 rfl pf_X2_nameAt (Nat.le_of_ble_eq_true rfl) ?_
  refine wq_bload_n 1 0 dX2_nameAt_0 rfl rfl rfl ?_
  refine wq_iload_n 2 1 dX2_nameAt_1 rfl rfl rfl ?_
  refine wq_iconst 3 0 dX2_nameAt_2 rfl (by decide) ?_
  refine cVi2 6 (sp_X2_partAt ha hc hn j 0 rfl rfl hj (by decide)) ml_X2_53 mf_X2_partAt dX2_nameAt_3 rfl (L_ob ha) (by decide) rfl (Nat.le_of_ble_eq_true rfl) (by omega) ?_
  refine wq_iload_n 7 2 dX2_nameAt_6 rfl rfl rfl ?_
  refine cSi2 10 (sp_X7_shapeOf (by omega) _ _) ml_X2_39 mf_X7_shapeOf dX2_nameAt_7 rfl (Nat.le_of_ble_eq_true rfl) (by omega) ?_
  refine wq_istore_n 11 3 [_, _, _, _, _] dX2_nameAt_10 rfl rfl rfl (Nat.le_of_ble_eq_true rfl) rfl ?_
  refine wq_iload_n 12 3 dX2_nameAt_11 rfl rfl rfl ?_
  refine wq_bipush 14 114 dX2_nameAt_12 rfl (by decide) ?_
  refine wq_ic_eq 17 26 dX2_nameAt_14 rfl (by decide) (fun c14 => ?_) (fun c14 => ?_)
  · skip
    refine wq_bload_n 27 0 dX2_nameAt_26 rfl rfl rfl ?_
    refine wq_iload_n 28 1 dX2_nameAt_27 rfl rfl rfl ?_
    refine wq_iload_n 29 2 dX2_nameAt_28 rfl rfl rfl ?_
    refine cVi2 32 (sp_X2_partAt ha hc hn j k rfl rfl hj hk) ml_X2_53 mf_X2_partAt dX2_nameAt_29 rfl (L_ob ha) (by decide) rfl (Nat.le_of_ble_eq_true rfl) (by omega) ?_
    refine wq_istore 34 [_, _, _, _, _] dX2_nameAt_32 rfl rfl (Nat.le_of_ble_eq_true rfl) rfl ?_
    refine wq_iload 36 dX2_nameAt_34 rfl rfl ?_
    refine wq_if_lt 39 51 dX2_nameAt_36 rfl (by decide) (fun c36 => ?_) (fun c36 => ?_)
    · skip
      refine wq_bipush 53 (-6) dX2_nameAt_51 rfl (by decide) ?_
      refine ri .int dX2_nameAt_53 rfl rfl ?_
      exact ⟨by rw [nmT, if_pos (Or.inl c14), if_pos c36], rfl, rfl, rfl⟩
    · skip
      refine wq_iload 41 dX2_nameAt_39 rfl rfl ?_
      refine wq_bipush 43 64 dX2_nameAt_41 rfl (by decide) ?_
      refine wq_ic_ge 46 51 dX2_nameAt_43 rfl (by decide) (fun c43 => ?_) (fun c43 => ?_)
      · skip
        refine wq_bipush 53 (-6) dX2_nameAt_51 rfl (by decide) ?_
        refine ri .int dX2_nameAt_53 rfl rfl ?_
        exact ⟨by rw [nmT, if_pos (Or.inl c14), if_neg c36, if_pos c43], rfl, rfl, rfl⟩
      · skip
        refine wq_iload 48 dX2_nameAt_46 rfl rfl ?_
        refine wq_goto 53 dX2_nameAt_48 (by decide) ?_
        refine ri .int dX2_nameAt_53 rfl rfl ?_
        exact ⟨by rw [nmT, if_pos (Or.inl c14), if_neg c36, if_neg c43], rfl, rfl, rfl⟩
  · skip
    refine wq_iload_n 18 3 dX2_nameAt_17 rfl rfl rfl ?_
    refine wq_bipush 20 119 dX2_nameAt_18 rfl (by decide) ?_
    refine wq_ic_eq 23 26 dX2_nameAt_20 rfl (by decide) (fun c20 => ?_) (fun c20 => ?_)
    · skip
      refine wq_bload_n 27 0 dX2_nameAt_26 rfl rfl rfl ?_
      refine wq_iload_n 28 1 dX2_nameAt_27 rfl rfl rfl ?_
      refine wq_iload_n 29 2 dX2_nameAt_28 rfl rfl rfl ?_
      refine cVi2 32 (sp_X2_partAt ha hc hn j k rfl rfl hj hk) ml_X2_53 mf_X2_partAt dX2_nameAt_29 rfl (L_ob ha) (by decide) rfl (Nat.le_of_ble_eq_true rfl) (by omega) ?_
      refine wq_istore 34 [_, _, _, _, _] dX2_nameAt_32 rfl rfl (Nat.le_of_ble_eq_true rfl) rfl ?_
      refine wq_iload 36 dX2_nameAt_34 rfl rfl ?_
      refine wq_if_lt 39 51 dX2_nameAt_36 rfl (by decide) (fun c36 => ?_) (fun c36 => ?_)
      · skip
        refine wq_bipush 53 (-6) dX2_nameAt_51 rfl (by decide) ?_
        refine ri .int dX2_nameAt_53 rfl rfl ?_
        exact ⟨by rw [nmT, if_pos (Or.inr c20), if_pos c36], rfl, rfl, rfl⟩
      · skip
        refine wq_iload 41 dX2_nameAt_39 rfl rfl ?_
        refine wq_bipush 43 64 dX2_nameAt_41 rfl (by decide) ?_
        refine wq_ic_ge 46 51 dX2_nameAt_43 rfl (by decide) (fun c43 => ?_) (fun c43 => ?_)
        · skip
          refine wq_bipush 53 (-6) dX2_nameAt_51 rfl (by decide) ?_
          refine ri .int dX2_nameAt_53 rfl rfl ?_
          exact ⟨by rw [nmT, if_pos (Or.inr c20), if_neg c36, if_pos c43], rfl, rfl, rfl⟩
        · skip
          refine wq_iload 48 dX2_nameAt_46 rfl rfl ?_
          refine wq_goto 53 dX2_nameAt_48 (by decide) ?_
          refine ri .int dX2_nameAt_53 rfl rfl ?_
          exact ⟨by rw [nmT, if_pos (Or.inr c20), if_neg c36, if_neg c43], rfl, rfl, rfl⟩
    · skip
      refine wq_bipush 25 (-6) dX2_nameAt_23 rfl (by decide) ?_
      refine ri .int dX2_nameAt_25 rfl rfl ?_
      exact ⟨by rw [nmT, if_neg (fun h => h.elim c14 c20)], rfl, rfl, rfl⟩
/-- where the jump in row j goes; -6: nowhere, or it is none -/
def tgT (t lab : Nat → Int32) (j : Nat) : Int32 := if t (4 * j + 0) = 6 then (if t (4 * j + 2) < 0 then -6 else if 10 ≤ t (4 * j + 2) then -6 else lab (t (4 * j + 2)).toNatClampNeg) else -6
theorem vp_of {x : Int32} {n : Nat} {m : Int32} (hm : m = nI n) (hn : n < 2 ^ 31) (h0 : ¬ x < 0) (h1 : ¬ m ≤ x) : vp_in x n := by
  subst hm
  rcases pk_ix x hn with h | h | ⟨j, hj, rfl⟩
  · exact absurd h h0
  · exact absurd h h1
  · exact vp_in_nI hj hn
set_option maxRecDepth 20000 in
theorem sp_X2_targetOf {g : Gl} {D : Nat} {b : Bool} {I : IM} {L : LM} {a n : Nat} (hD : 1 ≤ D) (ha : IsL a) (hc : I a 4 = nI n) (hn : n ≤ 90) {i : Int32} (j : Nat) (hi : i = nI j) (hj : j < n) : Md g D MX2_targetOf [rf g a, .int i] b I L (some (.int (tgT (I (a + 1)) (I (a + 4)) j))) b I L := by
  subst hi
  refine Me.of [some (rf g a), some (.int (nI j)), none] 1 rfl pf_X2_targetOf (Nat.le_of_ble_eq_true rfl) ?_
  refine wq_bload_n 1 0 dX2_targetOf_0 rfl rfl rfl ?_
  refine wq_iload_n 2 1 dX2_targetOf_1 rfl rfl rfl ?_
  refine wq_iconst 3 0 dX2_targetOf_2 rfl (by decide) ?_
  refine cVi2 6 (sp_X2_partAt ha hc hn j 0 rfl rfl hj (by decide)) ml_X2_53 mf_X2_partAt dX2_targetOf_3 rfl (L_ob ha) (by decide) rfl (Nat.le_of_ble_eq_true rfl) (by omega) ?_
  refine wq_bipush 8 6 dX2_targetOf_6 rfl (by decide) ?_
  refine wq_ic_eq 11 14 dX2_targetOf_8 rfl (by decide) (fun c8 => ?_) (fun c8 => ?_)
  · skip
    refine wq_bload_n 15 0 dX2_targetOf_14 rfl rfl rfl ?_
    refine wq_iload_n 16 1 dX2_targetOf_15 rfl rfl rfl ?_
    refine wq_iconst 17 2 dX2_targetOf_16 rfl (by decide) ?_
    refine cVi2 20 (sp_X2_partAt ha hc hn j 2 rfl rfl hj (by decide)) ml_X2_53 mf_X2_partAt dX2_targetOf_17 rfl (L_ob ha) (by decide) rfl (Nat.le_of_ble_eq_true rfl) (by omega) ?_
    refine wq_istore_n 21 2 [_, _, _] dX2_targetOf_20 rfl rfl rfl (Nat.le_of_ble_eq_true rfl) rfl ?_
    refine wq_iload_n 22 2 dX2_targetOf_21 rfl rfl rfl ?_
    refine wq_if_lt 25 40 dX2_targetOf_22 rfl (by decide) (fun c22 => ?_) (fun c22 => ?_)
    · skip
      refine wq_bipush 42 (-6) dX2_targetOf_40 rfl (by decide) ?_
      refine ri .int dX2_targetOf_42 rfl rfl ?_
      exact ⟨by rw [tgT, if_pos c8, if_pos c22], rfl, rfl, rfl⟩
    · skip
      refine wq_iload_n 26 2 dX2_targetOf_25 rfl rfl rfl ?_
      refine wq_bipush 28 10 dX2_targetOf_26 rfl (by decide) ?_
      refine wq_ic_ge 31 40 dX2_targetOf_28 rfl (by decide) (fun c28 => ?_) (fun c28 => ?_)
      · skip
        refine wq_bipush 42 (-6) dX2_targetOf_40 rfl (by decide) ?_
        refine ri .int dX2_targetOf_42 rfl rfl ?_
        exact ⟨by rw [tgT, if_pos c8, if_neg c22, if_pos c28], rfl, rfl, rfl⟩
      · skip
        refine wq_bload_n 32 0 dX2_targetOf_31 rfl rfl rfl ?_
        refine wq_getR 35 fl_X2_22 dX2_targetOf_32 rfl rfl (L_ob ha) (L_rf3 ha) ?_
        refine wq_iload_n 36 2 dX2_targetOf_35 rfl rfl rfl ?_
        refine wq_iald 37 dX2_targetOf_36 rfl (L_ar3 ha) (Ix.self (vp_of (n := 10) rfl (by decide) c22 c28)) ?_
        refine wq_goto 42 dX2_targetOf_37 (by decide) ?_
        refine ri .int dX2_targetOf_42 rfl rfl ?_
        exact ⟨by rw [tgT, if_pos c8, if_neg c22, if_neg c28], rfl, rfl, rfl⟩
  · skip
    refine wq_bipush 13 (-6) dX2_targetOf_11 rfl (by decide) ?_
    refine ri .int dX2_targetOf_13 rfl rfl ?_
    exact ⟨by rw [tgT, if_neg c8], rfl, rfl, rfl⟩
