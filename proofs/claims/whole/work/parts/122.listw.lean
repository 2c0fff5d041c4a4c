/-! Listing: writes -/
def nOut (nm sh : Int32) : Prop := nm < 0 ∨ 64 ≤ nm ∨ (¬ sh = 114 ∧ ¬ sh = 119)

def nRd (rd : Int64) (nm sh : Int32) : Int64 := if nm < 0 then rd else if 64 ≤ nm then rd else if sh = 114 then rd ||| one nm else rd
def nWr (wr : Int32) (nm sh : Int32) : Int32 := if nm < 0 then wr else if 64 ≤ nm then wr else if sh = 114 then wr else if sh = 119 then nm else wr
def nNm (ns : Int64) (nm sh : Int32) : Int64 := if nm < 0 then ns else if 64 ≤ nm then ns else if sh = 114 then ns ||| one nm else if sh = 119 then ns ||| one nm else ns
def nTp (tp : Int32) (nm sh : Int32) : Int32 := if nm < 0 then tp else if 64 ≤ nm then tp else if sh = 114 then maxI tp (nm + 1) else if sh = 119 then maxI tp (nm + 1) else tp
def ntI (I : IM) (a n : Nat) (nm sh : Int32) : IM := va_up (va_up I (a + 3) (va_up (I (a + 3)) n (nWr (I (a + 3) n) nm sh))) a (va_up (I a) 7 (nTp (I a 7) nm sh))
def ntL (L : LM) (a n : Nat) (nm sh : Int32) : LM := va_up (va_up L (a + 2) (va_up (L (a + 2)) n (nRd (L (a + 2) n) nm sh))) a (va_up (L a) 6 (nNm (L a 6) nm sh))
set_option maxRecDepth 20000 in
set_option maxHeartbeats 1000000 in
theorem sp_X2_noteName {g : Gl} {D : Nat} {b : Bool} {I : IM} {L : LM} {a n : Nat} (hD : 1 ≤ D) (ha : IsL a) (hc : I a 4 = nI n) (hn : n < 90) (nm sh : Int32) : Md g D MX2_noteName [rf g a, .int nm, .int sh] b I L none b (ntI I a n nm sh) (ntL L a n nm sh) := by
  refine Me.of [some (rf g a), some (.int nm), some (.int sh)] 0 rfl pf_X2_noteName (Nat.le_of_ble_eq_true rfl) ?_
  refine wq_iload_n 1 1 dX2_noteName_0 rfl rfl rfl ?_
  refine wq_if_lt 4 26 dX2_noteName_1 rfl (by decide) (fun c1 => ?_) (fun c1 => ?_)
  · skip
    refine rr dX2_noteName_26 rfl ?_
    refine ⟨rfl, rfl, ?_, ?_⟩ <;> simp [ntI, ntL, nWr, nTp, nRd, nNm, one, va_up_id, va_up_ne, c1]
  · skip
    refine wq_iload_n 5 1 dX2_noteName_4 rfl rfl rfl ?_
    refine wq_bipush 7 64 dX2_noteName_5 rfl (by decide) ?_
    refine wq_ic_ge 10 26 dX2_noteName_7 rfl (by decide) (fun c7 => ?_) (fun c7 => ?_)
    · skip
      refine rr dX2_noteName_26 rfl ?_
      refine ⟨rfl, rfl, ?_, ?_⟩ <;> simp [ntI, ntL, nWr, nTp, nRd, nNm, one, va_up_id, va_up_ne, c1, c7]
    · skip
      refine wq_bload_n 11 0 dX2_noteName_10 rfl rfl rfl ?_
      refine wq_getI 14 fl_X2_25 dX2_noteName_11 rfl rfl (L_ob ha) ?_
      refine wq_if_lt 17 26 dX2_noteName_14 rfl (by decide) (fun c14 => absurd c14 (by rw [hc]; exact nI_pos (by omega))) (fun c14 => ?_)
      refine wq_bload_n 18 0 dX2_noteName_17 rfl rfl rfl ?_
      refine wq_getI 21 fl_X2_25 dX2_noteName_18 rfl rfl (L_ob ha) ?_
      refine wq_bipush 23 90 dX2_noteName_21 rfl (by decide) ?_
      refine wq_ic_lt 26 27 dX2_noteName_23 rfl (by decide) (fun c23 => ?_) (fun c23 => absurd (by rw [hc]; exact nI_lt (b := 90) (by omega) (by decide)) c23)
      refine wq_iload_n 28 2 dX2_noteName_27 rfl rfl rfl ?_
      refine wq_bipush 30 114 dX2_noteName_28 rfl (by decide) ?_
      refine wq_ic_eq 33 40 dX2_noteName_30 rfl (by decide) (fun c30 => ?_) (fun c30 => ?_)
      · skip
        refine wq_iload_n 41 2 dX2_noteName_40 rfl rfl rfl ?_
        refine wq_bipush 43 114 dX2_noteName_41 rfl (by decide) ?_
        refine wq_ic_ne 46 64 dX2_noteName_43 rfl (by decide) (fun c43 => ?_) (fun c43 => ?_)
        · skip
          refine wq_bload_n 65 0 dX2_noteName_64 rfl rfl rfl ?_
          refine wq_getR 68 fl_X2_19 dX2_noteName_65 rfl rfl (L_ob ha) (L_rf2 ha) ?_
          refine wq_bload_n 69 0 dX2_noteName_68 rfl rfl rfl ?_
          refine wq_getI 72 fl_X2_25 dX2_noteName_69 rfl rfl (L_ob ha) ?_
          rw [hc]
          refine wq_iload_n 73 1 dX2_noteName_72 rfl rfl rfl ?_
          refine wq_iast 74 dX2_noteName_73 rfl (L_ar2 ha) (Ix.nI (by omega) (by decide)) ?_
          refine wq_bload_n 75 0 dX2_noteName_74 rfl rfl rfl ?_
          refine wq_dup 76 dX2_noteName_75 rfl rfl ?_
          refine wq_getL 79 fl_X2_32 dX2_noteName_76 rfl rfl (L_ob ha) ?_
          refine wq_lconst 80 1 dX2_noteName_79 rfl (by decide) ?_
          refine wq_iload_n 81 1 dX2_noteName_80 rfl rfl rfl ?_
          refine wq_lshl 82 dX2_noteName_81 rfl ?_
          refine wq_lor 83 dX2_noteName_82 rfl ?_
          refine wq_putL 86 fl_X2_32 dX2_noteName_83 rfl rfl rfl rfl rfl (L_ob ha) ?_
          refine wq_bload_n 87 0 dX2_noteName_86 rfl rfl rfl ?_
          refine wq_bload_n 88 0 dX2_noteName_87 rfl rfl rfl ?_
          refine wq_getI 91 fl_X2_36 dX2_noteName_88 rfl rfl (L_ob ha) ?_
          refine wq_iload_n 92 1 dX2_noteName_91 rfl rfl rfl ?_
          refine wq_iconst 93 1 dX2_noteName_92 rfl (by decide) ?_
          refine wq_iadd 94 dX2_noteName_93 rfl ?_
          refine cSi2 97 (sp_J9_max_7cf53 _ _) ml_X2_47 mf_J9_max_7cf53 dX2_noteName_94 rfl (Nat.le_of_ble_eq_true rfl) (by omega) ?_
          refine wq_putI 100 fl_X2_36 dX2_noteName_97 rfl rfl rfl rfl rfl (L_ob ha) ?_
          refine rr dX2_noteName_100 rfl ?_
          exact absurd c30 c43
        · skip
          refine wq_bload_n 47 0 dX2_noteName_46 rfl rfl rfl ?_
          refine wq_getR 50 fl_X2_15 dX2_noteName_47 rfl rfl (L_ob ha) (L_rf1 ha) ?_
          refine wq_bload_n 51 0 dX2_noteName_50 rfl rfl rfl ?_
          refine wq_getI 54 fl_X2_25 dX2_noteName_51 rfl rfl (L_ob ha) ?_
          rw [hc]
          refine wq_dup2 55 dX2_noteName_54 rfl rfl rfl ?_
          refine wq_lald 56 dX2_noteName_55 rfl (L_ar1 ha) (Ix.nI (by omega) (by decide)) ?_
          refine wq_lconst 57 1 dX2_noteName_56 rfl (by decide) ?_
          refine wq_iload_n 58 1 dX2_noteName_57 rfl rfl rfl ?_
          refine wq_lshl 59 dX2_noteName_58 rfl ?_
          refine wq_lor 60 dX2_noteName_59 rfl ?_
          refine wq_last 61 dX2_noteName_60 rfl (L_ar1 ha) (Ix.nI (by omega) (by decide)) ?_
          refine wq_goto 74 dX2_noteName_61 (by decide) ?_
          refine wq_bload_n 75 0 dX2_noteName_74 rfl rfl rfl ?_
          refine wq_dup 76 dX2_noteName_75 rfl rfl ?_
          refine wq_getL 79 fl_X2_32 dX2_noteName_76 rfl rfl (L_ob ha) ?_
          refine wq_lconst 80 1 dX2_noteName_79 rfl (by decide) ?_
          refine wq_iload_n 81 1 dX2_noteName_80 rfl rfl rfl ?_
          refine wq_lshl 82 dX2_noteName_81 rfl ?_
          refine wq_lor 83 dX2_noteName_82 rfl ?_
          refine wq_putL 86 fl_X2_32 dX2_noteName_83 rfl rfl rfl rfl rfl (L_ob ha) ?_
          refine wq_bload_n 87 0 dX2_noteName_86 rfl rfl rfl ?_
          refine wq_bload_n 88 0 dX2_noteName_87 rfl rfl rfl ?_
          refine wq_getI 91 fl_X2_36 dX2_noteName_88 rfl rfl (L_ob ha) ?_
          refine wq_iload_n 92 1 dX2_noteName_91 rfl rfl rfl ?_
          refine wq_iconst 93 1 dX2_noteName_92 rfl (by decide) ?_
          refine wq_iadd 94 dX2_noteName_93 rfl ?_
          refine cSi2 97 (sp_J9_max_7cf53 _ _) ml_X2_47 mf_J9_max_7cf53 dX2_noteName_94 rfl (Nat.le_of_ble_eq_true rfl) (by omega) ?_
          refine wq_putI 100 fl_X2_36 dX2_noteName_97 rfl rfl rfl rfl rfl (L_ob ha) ?_
          refine rr dX2_noteName_100 rfl ?_
          refine ⟨rfl, rfl, ?_, ?_⟩ <;> simp [ntI, ntL, nWr, nTp, nRd, nNm, one, va_up_id, va_up_ne, c1, c7, c30]
      · skip
        refine wq_iload_n 34 2 dX2_noteName_33 rfl rfl rfl ?_
        refine wq_bipush 36 119 dX2_noteName_34 rfl (by decide) ?_
        refine wq_ic_eq 39 40 dX2_noteName_36 rfl (by decide) (fun c36 => ?_) (fun c36 => ?_)
        · skip
          refine wq_iload_n 41 2 dX2_noteName_40 rfl rfl rfl ?_
          refine wq_bipush 43 114 dX2_noteName_41 rfl (by decide) ?_
          refine wq_ic_ne 46 64 dX2_noteName_43 rfl (by decide) (fun c43 => ?_) (fun c43 => ?_)
          · skip
            refine wq_bload_n 65 0 dX2_noteName_64 rfl rfl rfl ?_
            refine wq_getR 68 fl_X2_19 dX2_noteName_65 rfl rfl (L_ob ha) (L_rf2 ha) ?_
            refine wq_bload_n 69 0 dX2_noteName_68 rfl rfl rfl ?_
            refine wq_getI 72 fl_X2_25 dX2_noteName_69 rfl rfl (L_ob ha) ?_
            rw [hc]
            refine wq_iload_n 73 1 dX2_noteName_72 rfl rfl rfl ?_
            refine wq_iast 74 dX2_noteName_73 rfl (L_ar2 ha) (Ix.nI (by omega) (by decide)) ?_
            refine wq_bload_n 75 0 dX2_noteName_74 rfl rfl rfl ?_
            refine wq_dup 76 dX2_noteName_75 rfl rfl ?_
            refine wq_getL 79 fl_X2_32 dX2_noteName_76 rfl rfl (L_ob ha) ?_
            refine wq_lconst 80 1 dX2_noteName_79 rfl (by decide) ?_
            refine wq_iload_n 81 1 dX2_noteName_80 rfl rfl rfl ?_
            refine wq_lshl 82 dX2_noteName_81 rfl ?_
            refine wq_lor 83 dX2_noteName_82 rfl ?_
            refine wq_putL 86 fl_X2_32 dX2_noteName_83 rfl rfl rfl rfl rfl (L_ob ha) ?_
            refine wq_bload_n 87 0 dX2_noteName_86 rfl rfl rfl ?_
            refine wq_bload_n 88 0 dX2_noteName_87 rfl rfl rfl ?_
            refine wq_getI 91 fl_X2_36 dX2_noteName_88 rfl rfl (L_ob ha) ?_
            refine wq_iload_n 92 1 dX2_noteName_91 rfl rfl rfl ?_
            refine wq_iconst 93 1 dX2_noteName_92 rfl (by decide) ?_
            refine wq_iadd 94 dX2_noteName_93 rfl ?_
            refine cSi2 97 (sp_J9_max_7cf53 _ _) ml_X2_47 mf_J9_max_7cf53 dX2_noteName_94 rfl (Nat.le_of_ble_eq_true rfl) (by omega) ?_
            refine wq_putI 100 fl_X2_36 dX2_noteName_97 rfl rfl rfl rfl rfl (L_ob ha) ?_
            refine rr dX2_noteName_100 rfl ?_
            refine ⟨rfl, rfl, ?_, ?_⟩ <;> simp [ntI, ntL, nWr, nTp, nRd, nNm, one, va_up_id, va_up_ne, c1, c7, c30, c36]
          · skip
            refine wq_bload_n 47 0 dX2_noteName_46 rfl rfl rfl ?_
            refine wq_getR 50 fl_X2_15 dX2_noteName_47 rfl rfl (L_ob ha) (L_rf1 ha) ?_
            refine wq_bload_n 51 0 dX2_noteName_50 rfl rfl rfl ?_
            refine wq_getI 54 fl_X2_25 dX2_noteName_51 rfl rfl (L_ob ha) ?_
            rw [hc]
            refine wq_dup2 55 dX2_noteName_54 rfl rfl rfl ?_
            refine wq_lald 56 dX2_noteName_55 rfl (L_ar1 ha) (Ix.nI (by omega) (by decide)) ?_
            refine wq_lconst 57 1 dX2_noteName_56 rfl (by decide) ?_
            refine wq_iload_n 58 1 dX2_noteName_57 rfl rfl rfl ?_
            refine wq_lshl 59 dX2_noteName_58 rfl ?_
            refine wq_lor 60 dX2_noteName_59 rfl ?_
            refine wq_last 61 dX2_noteName_60 rfl (L_ar1 ha) (Ix.nI (by omega) (by decide)) ?_
            refine wq_goto 74 dX2_noteName_61 (by decide) ?_
            refine wq_bload_n 75 0 dX2_noteName_74 rfl rfl rfl ?_
            refine wq_dup 76 dX2_noteName_75 rfl rfl ?_
            refine wq_getL 79 fl_X2_32 dX2_noteName_76 rfl rfl (L_ob ha) ?_
            refine wq_lconst 80 1 dX2_noteName_79 rfl (by decide) ?_
            refine wq_iload_n 81 1 dX2_noteName_80 rfl rfl rfl ?_
            refine wq_lshl 82 dX2_noteName_81 rfl ?_
            refine wq_lor 83 dX2_noteName_82 rfl ?_
            refine wq_putL 86 fl_X2_32 dX2_noteName_83 rfl rfl rfl rfl rfl (L_ob ha) ?_
            refine wq_bload_n 87 0 dX2_noteName_86 rfl rfl rfl ?_
            refine wq_bload_n 88 0 dX2_noteName_87 rfl rfl rfl ?_
            refine wq_getI 91 fl_X2_36 dX2_noteName_88 rfl rfl (L_ob ha) ?_
            refine wq_iload_n 92 1 dX2_noteName_91 rfl rfl rfl ?_
            refine wq_iconst 93 1 dX2_noteName_92 rfl (by decide) ?_
            refine wq_iadd 94 dX2_noteName_93 rfl ?_
            refine cSi2 97 (sp_J9_max_7cf53 _ _) ml_X2_47 mf_J9_max_7cf53 dX2_noteName_94 rfl (Nat.le_of_ble_eq_true rfl) (by omega) ?_
            refine wq_putI 100 fl_X2_36 dX2_noteName_97 rfl rfl rfl rfl rfl (L_ob ha) ?_
            refine rr dX2_noteName_100 rfl ?_
            exact absurd c43 c30
        · skip
          refine rr dX2_noteName_39 rfl ?_
          refine ⟨rfl, rfl, ?_, ?_⟩ <;> simp [ntI, ntL, nWr, nTp, nRd, nNm, one, va_up_id, va_up_ne, c1, c7, c30, c36]
set_option maxRecDepth 20000 in
theorem lp_X2_clear {g : Gl} {D : Nat} {b : Bool} {I : IM} {L : LM} {a : Nat} {post : Option Value → Bool → IM → LM → Prop} (ha : IsL a) (h : post none b (va_up I (a + 4) (fun j => if j < 10 then -6 else I (a + 4) j)) L) : ∀ r k, k + r = 10 → Wp (Kn g D MX2_clear post) (Tb b) 22 [some (rf g a), some (.int (nI k))] [] (va_up I (a + 4) (fun j => if j < k then -6 else I (a + 4) j)) L := by
  intro r
  induction r with
  | zero =>
    intro k hk
    have hk : k = 10 := by omega
    subst hk
    refine wq_iload_n 23 1 dX2_clear_22 rfl rfl rfl ?_
    refine wq_bipush 25 10 dX2_clear_23 rfl (by decide) ?_
    refine wq_ic_ge 28 42 dX2_clear_25 rfl (by decide) (fun c25 => ?_) (fun c25 => absurd (by decide) c25)
    refine rr dX2_clear_42 rfl ?_
    exact h
  | succ r ih =>
    intro k hk
    refine wq_iload_n 23 1 dX2_clear_22 rfl rfl rfl ?_
    refine wq_bipush 25 10 dX2_clear_23 rfl (by decide) ?_
    refine wq_ic_ge 28 42 dX2_clear_25 rfl (by decide) (fun c25 => absurd c25 (nI_ge (b := 10) (by omega) (by decide))) (fun c25 => ?_)
    refine wq_bload_n 29 0 dX2_clear_28 rfl rfl rfl ?_
    refine wq_getR 32 fl_X2_22 dX2_clear_29 rfl rfl (L_ob ha) (L_rf3 ha) ?_
    refine wq_iload_n 33 1 dX2_clear_32 rfl rfl rfl ?_
    refine wq_bipush 35 (-6) dX2_clear_33 rfl (by decide) ?_
    refine wq_iast 36 dX2_clear_35 rfl (L_ar3 ha) (Ix.nI (by omega) (by decide)) ?_
    refine wq_iinc 39 (nI (k + 1)) [_, _] dX2_clear_36 rfl rfl (nI_1 k) rfl (Nat.le_of_ble_eq_true rfl) rfl ?_
    refine wq_goto 22 dX2_clear_39 (by decide) ?_
    have e : va_up (va_up I (a + 4) (fun j => if j < k then -6 else I (a + 4) j)) (a + 4) (va_up (va_up I (a + 4) (fun j => if j < k then -6 else I (a + 4) j) (a + 4)) k (-6)) = va_up I (a + 4) (fun j => if j < k + 1 then -6 else I (a + 4) j) := by
      funext x
      by_cases hx : x = a + 4
      · subst hx
        funext j
        simp only [va_up_self]
        by_cases hj : j = k
        · subst hj; simp [va_up]
        · rw [va_up_ne _ _ hj]
          by_cases h1 : j < k
          · rw [if_pos h1, if_pos (by omega)]
          · rw [if_neg h1, if_neg (by omega)]
      · rw [va_up_ne _ _ hx, va_up_ne _ _ hx, va_up_ne _ _ hx]
    rw [e]
    exact ih (k + 1) (by omega)
def clI (I : IM) (a : Nat) : IM := va_up (va_up I a (va_up (va_up (va_up (I a) 4 0) 5 0) 7 4)) (a + 4) (fun j => if j < 10 then -6 else I (a + 4) j)
def clL (L : LM) (a : Nat) : LM := va_up L a (va_up (L a) 6 0)
theorem va_up_up {α : Type} (f : Nat → α) (k : Nat) (v w : α) : va_up (va_up f k v) k w = va_up f k w := bx_uu f k v w
set_option maxRecDepth 20000 in
theorem sp_X2_clear {g : Gl} {D : Nat} {b : Bool} {I : IM} {L : LM} {a : Nat} (ha : IsL a) : Md g D MX2_clear [rf g a] b I L none b (clI I a) (clL L a) := by
  refine Me.of [some (rf g a), none] 1 rfl pf_X2_clear (Nat.le_of_ble_eq_true rfl) ?_
  refine wq_bload_n 1 0 dX2_clear_0 rfl rfl rfl ?_
  refine wq_iconst 2 0 dX2_clear_1 rfl (by decide) ?_
  refine wq_putI 5 fl_X2_25 dX2_clear_2 rfl rfl rfl rfl rfl (L_ob ha) ?_
  refine wq_bload_n 6 0 dX2_clear_5 rfl rfl rfl ?_
  refine wq_iconst 7 0 dX2_clear_6 rfl (by decide) ?_
  refine wq_putI 10 fl_X2_29 dX2_clear_7 rfl rfl rfl rfl rfl (L_ob ha) ?_
  refine wq_bload_n 11 0 dX2_clear_10 rfl rfl rfl ?_
  refine wq_lconst 12 0 dX2_clear_11 rfl (by decide) ?_
  refine wq_putL 15 fl_X2_32 dX2_clear_12 rfl rfl rfl rfl rfl (L_ob ha) ?_
  refine wq_bload_n 16 0 dX2_clear_15 rfl rfl rfl ?_
  refine wq_iconst 17 4 dX2_clear_16 rfl (by decide) ?_
  refine wq_putI 20 fl_X2_36 dX2_clear_17 rfl rfl rfl rfl rfl (L_ob ha) ?_
  refine wq_iconst 21 0 dX2_clear_20 rfl (by decide) ?_
  refine wq_istore_n 22 1 [_, _] dX2_clear_21 rfl rfl rfl (Nat.le_of_ble_eq_true rfl) rfl ?_
  simp only [va_up_up, va_up_self]
  have h := lp_X2_clear (g := g) (D := D) (b := b) (I := va_up I a (va_up (va_up (va_up (I a) 4 0) 5 0) 7 4)) (L := clL L a) (post := fun r' b' I' L' => r' = none ∧ b' = b ∧ I' = clI I a ∧ L' = clL L a) ha ⟨rfl, rfl, by unfold clI; rw [va_up_ne _ _ (show a + 4 ≠ a by omega)], rfl⟩ 10 0 (by omega)
  have e : (fun j => if j < 0 then (-6 : Int32) else (va_up I a (va_up (va_up (va_up (I a) 4 0) 5 0) 7 4)) (a + 4) j) = (va_up I a (va_up (va_up (va_up (I a) 4 0) 5 0) 7 4)) (a + 4) := by
    funext j; simp
  rw [e, va_up_id] at h
  exact h
