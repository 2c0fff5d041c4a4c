/-! SIGNS: what they mean; small methods of the reference -/
def inM (v lo hi : Int32) : Int32 := if v < lo then 0 else if hi < v then 0 else 1
set_option maxRecDepth 20000 in
theorem sp_X8_in {g : Gl} {D : Nat} {b : Bool} {I : IM} {L : LM} (v lo hi : Int32) : Md g D MX8_in [.int v, .int lo, .int hi] b I L (some (.int (inM v lo hi))) b I L := by
  refine Me.of [some (.int v), some (.int lo), some (.int hi)] 0 rfl pf_X8_in (Nat.le_of_ble_eq_true rfl) ?_
  refine wq_iload_n 1 0 dX8_in_0 rfl rfl rfl ?_
  refine wq_iload_n 2 1 dX8_in_1 rfl rfl rfl ?_
  refine wq_ic_lt 5 14 dX8_in_2 rfl (by decide) (fun c2 => ?_) (fun c2 => ?_)
  · skip
    refine wq_iconst 15 0 dX8_in_14 rfl (by decide) ?_
    refine ri .boolean dX8_in_15 rfl rfl ?_
    exact ⟨by rw [inM, if_pos c2], rfl, rfl, rfl⟩
  · skip
    refine wq_iload_n 6 0 dX8_in_5 rfl rfl rfl ?_
    refine wq_iload_n 7 2 dX8_in_6 rfl rfl rfl ?_
    refine wq_ic_gt 10 14 dX8_in_7 rfl (by decide) (fun c7 => ?_) (fun c7 => ?_)
    · skip
      refine wq_iconst 15 0 dX8_in_14 rfl (by decide) ?_
      refine ri .boolean dX8_in_15 rfl rfl ?_
      exact ⟨by rw [inM, if_neg c2, if_pos c7], rfl, rfl, rfl⟩
    · skip
      refine wq_iconst 11 1 dX8_in_10 rfl (by decide) ?_
      refine wq_goto 15 dX8_in_11 (by decide) ?_
      refine ri .boolean dX8_in_15 rfl rfl ?_
      exact ⟨by rw [inM, if_neg c2, if_neg c7], rfl, rfl, rfl⟩
def hasM (s : Int64) (n : Int32) : Int32 := if (s >>> (n.toInt64 &&& 63)) &&& 1 = 1 then 1 else 0
set_option maxRecDepth 20000 in
theorem sp_X8_has {g : Gl} {D : Nat} {b : Bool} {I : IM} {L : LM} (s : Int64) (n : Int32) : Md g D MX8_has [.long s, .int n] b I L (some (.int (hasM s n))) b I L := by
  refine Me.of [some (.long s), none, some (.int n)] 0 rfl pf_X8_has (Nat.le_of_ble_eq_true rfl) ?_
  refine wq_lload_n 1 0 dX8_has_0 rfl rfl rfl ?_
  refine wq_iload_n 2 2 dX8_has_1 rfl rfl rfl ?_
  refine wq_lshr 3 dX8_has_2 rfl ?_
  refine wq_lconst 4 1 dX8_has_3 rfl (by decide) ?_
  refine wq_land 5 dX8_has_4 rfl ?_
  refine wq_lconst 6 1 dX8_has_5 rfl (by decide) ?_
  refine wq_lcmp 7 dX8_has_6 rfl ?_
  refine wq_if_ne 10 14 dX8_has_7 rfl (by decide) (fun c7 => ?_) (fun c7 => ?_)
  · skip
    refine wq_iconst 15 0 dX8_has_14 rfl (by decide) ?_
    refine ri .boolean dX8_has_15 rfl rfl ?_
    exact ⟨by rw [hasM, if_neg (fun e => c7 (lcmp0.mpr e))], rfl, rfl, rfl⟩
  · skip
    refine wq_iconst 11 1 dX8_has_10 rfl (by decide) ?_
    refine wq_goto 15 dX8_has_11 (by decide) ?_
    refine ri .boolean dX8_has_15 rfl rfl ?_
    exact ⟨by rw [hasM, if_pos (lcmp0.mp c7)], rfl, rfl, rfl⟩
theorem sar_cnt : ∀ k, k < 64 → (((nI k).toInt64 &&& 63).toBitVec.smod 64).toNat = k := by decide +kernel
theorem hasM_tb (s : Int64) {k : Nat} (hk : k < 64) : hasM s (nI k) = if tb s k = true then 1 else 0 := by
  unfold hasM
  have h1 : ∀ i, tb ((s >>> ((nI k).toInt64 &&& 63)) &&& 1) i = (decide (i = 0) && tb s k) := by
    intro i
    rw [tb_and]
    by_cases hi : i = 0
    · subst hi
      have e1 : tb 1 0 = true := by decide
      rw [e1, Bool.and_true]
      unfold tb
      rw [Int64.toBitVec_shiftRight]
      show (s.toBitVec.sshiftRight (((nI k).toInt64 &&& 63).toBitVec.smod 64).toNat).getLsbD 0 = _
      rw [sar_cnt k hk, BitVec.getLsbD_sshiftRight]
      simp [hk]
    · have e1 : tb 1 i = false := by
        by_cases hb : i < 64
        · exact (by decide +kernel : ∀ i, i < 64 → ¬ i = 0 → tb 1 i = false) i hb hi
        · exact tb_big (by omega)
      rw [e1, Bool.and_false]
      simp [hi]
  by_cases hb : tb s k = true
  · rw [if_pos hb, if_pos]
    apply tb_ext
    intro i hi
    rw [h1, hb, Bool.and_true]
    exact ((by decide +kernel : ∀ i, i < 64 → tb 1 i = decide (i = 0)) i hi).symm
  · rw [if_neg hb, if_neg]
    intro e
    have h2 := h1 0
    rw [e] at h2
    have e1 : tb 1 0 = true := by decide
    rw [e1] at h2
    simp at h2
    exact hb h2
theorem hasM_eq (s : Int64) {k : Nat} (hk : k < 64) : hasM s (nI k) = hasX s (nI k) := by rw [hasM_tb s hk, hasX_tb s hk]
theorem hasM_eq0 (s : Int64) {k : Nat} (hk : k < 64) : hasM s (nI k) = 0 ↔ tb s k = false := by rw [hasM_eq s hk]; exact hasX_eq0 s hk
theorem hasM_ne0 (s : Int64) {k : Nat} (hk : k < 64) : hasM s (nI k) ≠ 0 ↔ tb s k = true := by rw [hasM_eq s hk]; exact hasX_ne0 s hk
set_option maxRecDepth 20000 in
theorem lp_X8_bits {g : Gl} {D : Nat} {b : Bool} {I : IM} {L : LM} {post : Option Value → Bool → IM → LM → Prop} (hD : 1 ≤ D) (s : Int64) (h : post (some (.int (nI (cnt s)))) b I L) : ∀ r k, k + r = 64 → Wp (Kn g D MX8_bits post) (Tb b) 4 [some (.long s), none, some (.int (nI (cntN s k))), some (.int (nI k))] [] I L := by
  intro r
  induction r with
  | zero =>
    intro k hk
    have hk : k = 64 := by omega
    subst hk
    refine wq_iload_n 5 3 dX8_bits_4 rfl rfl rfl ?_
    refine wq_bipush 7 64 dX8_bits_5 rfl (by decide) ?_
    refine wq_ic_ge 10 32 dX8_bits_7 rfl (by decide) (fun c7 => ?_) (fun c7 => absurd (by decide) c7)
    refine wq_iload_n 33 2 dX8_bits_32 rfl rfl rfl ?_
    refine ri .int dX8_bits_33 rfl rfl ?_
    exact h
  | succ r ih =>
    intro k hk
    refine wq_iload_n 5 3 dX8_bits_4 rfl rfl rfl ?_
    refine wq_bipush 7 64 dX8_bits_5 rfl (by decide) ?_
    refine wq_ic_ge 10 32 dX8_bits_7 rfl (by decide) (fun c7 => absurd c7 (nI_ge (b := 64) (by omega) (by decide))) (fun c7 => ?_)
    refine wq_iload_n 11 2 dX8_bits_10 rfl rfl rfl ?_
    refine wq_lload_n 12 0 dX8_bits_11 rfl rfl rfl ?_
    refine wq_iload_n 13 3 dX8_bits_12 rfl rfl rfl ?_
    refine cSi2 16 (sp_X8_has _ _) ml_X8_109 mf_X8_has dX8_bits_13 rfl (Nat.le_of_ble_eq_true rfl) (by omega) ?_
    refine wq_if_eq 19 23 dX8_bits_16 rfl (by decide) (fun c16 => ?_) (fun c16 => ?_)
    · skip
      refine wq_iconst 24 0 dX8_bits_23 rfl (by decide) ?_
      refine wq_iadd 25 dX8_bits_24 rfl ?_
      refine wq_istore_n 26 2 [_, _, _, _] dX8_bits_25 rfl rfl rfl (Nat.le_of_ble_eq_true rfl) rfl ?_
      refine wq_iinc 29 (nI (k + 1)) [_, _, _, _] dX8_bits_26 rfl rfl (nI_1 k) rfl (Nat.le_of_ble_eq_true rfl) rfl ?_
      refine wq_goto 4 dX8_bits_29 (by decide) ?_
      have e : cntN s (k + 1) = cntN s k := by rw [cntN, if_neg (by rw [(hasM_eq0 s (by omega)).mp c16]; decide), Nat.add_zero]
      have h9 := ih (k + 1) (by omega)
      rw [e] at h9
      rw [show nI (cntN s k) + 0 = nI (cntN s k) from by simp]
      exact h9
    · skip
      refine wq_iconst 20 1 dX8_bits_19 rfl (by decide) ?_
      refine wq_goto 24 dX8_bits_20 (by decide) ?_
      refine wq_iadd 25 dX8_bits_24 rfl ?_
      refine wq_istore_n 26 2 [_, _, _, _] dX8_bits_25 rfl rfl rfl (Nat.le_of_ble_eq_true rfl) rfl ?_
      refine wq_iinc 29 (nI (k + 1)) [_, _, _, _] dX8_bits_26 rfl rfl (nI_1 k) rfl (Nat.le_of_ble_eq_true rfl) rfl ?_
      refine wq_goto 4 dX8_bits_29 (by decide) ?_
      have e : cntN s (k + 1) = cntN s k + 1 := by rw [cntN, if_pos ((hasM_ne0 s (by omega)).mp c16)]
      have h9 := ih (k + 1) (by omega)
      rw [e] at h9
      rw [nI_1]
      exact h9
set_option maxRecDepth 20000 in
theorem sp_X8_bits {g : Gl} {D : Nat} {b : Bool} {I : IM} {L : LM} (hD : 1 ≤ D) (s : Int64) : Md g D MX8_bits [.long s] b I L (some (.int (nI (cnt s)))) b I L := by
  refine Me.of [some (.long s), none, none, none] 2 rfl pf_X8_bits (Nat.le_of_ble_eq_true rfl) ?_
  refine wq_iconst 1 0 dX8_bits_0 rfl (by decide) ?_
  refine wq_istore_n 2 2 [_, _, _, _] dX8_bits_1 rfl rfl rfl (Nat.le_of_ble_eq_true rfl) rfl ?_
  refine wq_iconst 3 0 dX8_bits_2 rfl (by decide) ?_
  refine wq_istore_n 4 3 [_, _, _, _] dX8_bits_3 rfl rfl rfl (Nat.le_of_ble_eq_true rfl) rfl ?_
  exact lp_X8_bits hD s ⟨rfl, rfl, rfl, rfl⟩ 64 0 rfl
/-- the name that a sign tells; -6: none -/
def nmS (s : Int32) : Int32 := if inM s 65 68 = 0 then (if inM s 97 108 = 0 then -6 else s - 97 + 4) else s - 65
set_option maxRecDepth 20000 in
theorem sp_X8_nameOf {g : Gl} {D : Nat} {b : Bool} {I : IM} {L : LM} (hD : 1 ≤ D) (s : Int32) : Md g D MX8_nameOf [.int s] b I L (some (.int (nmS s))) b I L := by
  refine Me.of [some (.int s)] 0 rfl pf_X8_nameOf (Nat.le_of_ble_eq_true rfl) ?_
  refine wq_iload_n 1 0 dX8_nameOf_0 rfl rfl rfl ?_
  refine wq_bipush 3 65 dX8_nameOf_1 rfl (by decide) ?_
  refine wq_bipush 5 68 dX8_nameOf_3 rfl (by decide) ?_
  refine cSi3 8 (sp_X8_in _ _ _) ml_X8_113 mf_X8_in dX8_nameOf_5 rfl (Nat.le_of_ble_eq_true rfl) (by omega) ?_
  refine wq_if_eq 11 18 dX8_nameOf_8 rfl (by decide) (fun c8 => ?_) (fun c8 => ?_)
  · skip
    refine wq_iload_n 19 0 dX8_nameOf_18 rfl rfl rfl ?_
    refine wq_bipush 21 97 dX8_nameOf_19 rfl (by decide) ?_
    refine wq_bipush 23 108 dX8_nameOf_21 rfl (by decide) ?_
    refine cSi3 26 (sp_X8_in _ _ _) ml_X8_113 mf_X8_in dX8_nameOf_23 rfl (Nat.le_of_ble_eq_true rfl) (by omega) ?_
    refine wq_if_eq 29 38 dX8_nameOf_26 rfl (by decide) (fun c26 => ?_) (fun c26 => ?_)
    · skip
      refine wq_bipush 40 (-6) dX8_nameOf_38 rfl (by decide) ?_
      refine ri .int dX8_nameOf_40 rfl rfl ?_
      exact ⟨by rw [nmS, if_pos c8, if_pos c26], rfl, rfl, rfl⟩
    · skip
      refine wq_iload_n 30 0 dX8_nameOf_29 rfl rfl rfl ?_
      refine wq_bipush 32 97 dX8_nameOf_30 rfl (by decide) ?_
      refine wq_isub 33 dX8_nameOf_32 rfl ?_
      refine wq_iconst 34 4 dX8_nameOf_33 rfl (by decide) ?_
      refine wq_iadd 35 dX8_nameOf_34 rfl ?_
      refine wq_goto 40 dX8_nameOf_35 (by decide) ?_
      refine ri .int dX8_nameOf_40 rfl rfl ?_
      exact ⟨by rw [nmS, if_pos c8, if_neg c26], rfl, rfl, rfl⟩
  · skip
    refine wq_iload_n 12 0 dX8_nameOf_11 rfl rfl rfl ?_
    refine wq_bipush 14 65 dX8_nameOf_12 rfl (by decide) ?_
    refine wq_isub 15 dX8_nameOf_14 rfl ?_
    refine wq_goto 40 dX8_nameOf_15 (by decide) ?_
    refine ri .int dX8_nameOf_40 rfl rfl ?_
    exact ⟨by rw [nmS, if_neg c8], rfl, rfl, rfl⟩
def lnK (k : Int32) : Int32 := if ¬ k = 2 then (if k = 4 then 1 else if ¬ k = 5 then 2 else 1) else 3
set_option maxRecDepth 20000 in
theorem sp_X8_length {g : Gl} {D : Nat} {b : Bool} {I : IM} {L : LM} (k : Int32) : Md g D MX8_length [.int k] b I L (some (.int (lnK k))) b I L := by
  refine Me.of [some (.int k)] 0 rfl pf_X8_length (Nat.le_of_ble_eq_true rfl) ?_
  refine wq_iload_n 1 0 dX8_length_0 rfl rfl rfl ?_
  refine wq_iconst 2 2 dX8_length_1 rfl (by decide) ?_
  refine wq_ic_ne 5 9 dX8_length_2 rfl (by decide) (fun c2 => ?_) (fun c2 => ?_)
  · skip
    refine wq_iload_n 10 0 dX8_length_9 rfl rfl rfl ?_
    refine wq_iconst 11 4 dX8_length_10 rfl (by decide) ?_
    refine wq_ic_eq 14 19 dX8_length_11 rfl (by decide) (fun c11 => ?_) (fun c11 => ?_)
    · skip
      refine wq_iconst 20 1 dX8_length_19 rfl (by decide) ?_
      refine wq_goto 24 dX8_length_20 (by decide) ?_
      refine ri .int dX8_length_24 rfl rfl ?_
      exact ⟨by rw [lnK, if_pos c2, if_pos c11], rfl, rfl, rfl⟩
    · skip
      refine wq_iload_n 15 0 dX8_length_14 rfl rfl rfl ?_
      refine wq_iconst 16 5 dX8_length_15 rfl (by decide) ?_
      refine wq_ic_ne 19 23 dX8_length_16 rfl (by decide) (fun c16 => ?_) (fun c16 => ?_)
      · skip
        refine wq_iconst 24 2 dX8_length_23 rfl (by decide) ?_
        refine ri .int dX8_length_24 rfl rfl ?_
        exact ⟨by rw [lnK, if_pos c2, if_neg c11, if_pos c16], rfl, rfl, rfl⟩
      · skip
        refine wq_iconst 20 1 dX8_length_19 rfl (by decide) ?_
        refine wq_goto 24 dX8_length_20 (by decide) ?_
        refine ri .int dX8_length_24 rfl rfl ?_
        exact ⟨by rw [lnK, if_pos c2, if_neg c11, if_neg (fun h => h c16)], rfl, rfl, rfl⟩
  · skip
    refine wq_iconst 6 3 dX8_length_5 rfl (by decide) ?_
    refine wq_goto 24 dX8_length_6 (by decide) ?_
    refine ri .int dX8_length_24 rfl rfl ?_
    exact ⟨by rw [lnK, if_neg (fun h => h c2)], rfl, rfl, rfl⟩
def wfK (k w : Int32) : Int32 := if k = 5 then 1 else if ¬ w = 2 then 0 else if k = 0 then 1 else if ¬ k = 6 then 0 else 1
set_option maxRecDepth 20000 in
theorem sp_X8_wantsFigure {g : Gl} {D : Nat} {b : Bool} {I : IM} {L : LM} (k w : Int32) : Md g D MX8_wantsFigure [.int k, .int w] b I L (some (.int (wfK k w))) b I L := by
  refine Me.of [some (.int k), some (.int w)] 0 rfl pf_X8_wantsFigure (Nat.le_of_ble_eq_true rfl) ?_
  refine wq_iload_n 1 0 dX8_wantsFigure_0 rfl rfl rfl ?_
  refine wq_iconst 2 5 dX8_wantsFigure_1 rfl (by decide) ?_
  refine wq_ic_eq 5 20 dX8_wantsFigure_2 rfl (by decide) (fun c2 => ?_) (fun c2 => ?_)
  · skip
    refine wq_iconst 21 1 dX8_wantsFigure_20 rfl (by decide) ?_
    refine wq_goto 25 dX8_wantsFigure_21 (by decide) ?_
    refine ri .boolean dX8_wantsFigure_25 rfl rfl ?_
    exact ⟨by rw [wfK, if_pos c2], rfl, rfl, rfl⟩
  · skip
    refine wq_iload_n 6 1 dX8_wantsFigure_5 rfl rfl rfl ?_
    refine wq_iconst 7 2 dX8_wantsFigure_6 rfl (by decide) ?_
    refine wq_ic_ne 10 24 dX8_wantsFigure_7 rfl (by decide) (fun c7 => ?_) (fun c7 => ?_)
    · skip
      refine wq_iconst 25 0 dX8_wantsFigure_24 rfl (by decide) ?_
      refine ri .boolean dX8_wantsFigure_25 rfl rfl ?_
      exact ⟨by rw [wfK, if_neg c2, if_pos c7], rfl, rfl, rfl⟩
    · skip
      refine wq_iload_n 11 0 dX8_wantsFigure_10 rfl rfl rfl ?_
      refine wq_if_eq 14 20 dX8_wantsFigure_11 rfl (by decide) (fun c11 => ?_) (fun c11 => ?_)
      · skip
        refine wq_iconst 21 1 dX8_wantsFigure_20 rfl (by decide) ?_
        refine wq_goto 25 dX8_wantsFigure_21 (by decide) ?_
        refine ri .boolean dX8_wantsFigure_25 rfl rfl ?_
        exact ⟨by rw [wfK, if_neg c2, if_neg (fun h => h c7), if_pos c11], rfl, rfl, rfl⟩
      · skip
        refine wq_iload_n 15 0 dX8_wantsFigure_14 rfl rfl rfl ?_
        refine wq_bipush 17 6 dX8_wantsFigure_15 rfl (by decide) ?_
        refine wq_ic_ne 20 24 dX8_wantsFigure_17 rfl (by decide) (fun c17 => ?_) (fun c17 => ?_)
        · skip
          refine wq_iconst 25 0 dX8_wantsFigure_24 rfl (by decide) ?_
          refine ri .boolean dX8_wantsFigure_25 rfl rfl ?_
          exact ⟨by rw [wfK, if_neg c2, if_neg (fun h => h c7), if_neg c11, if_pos c17], rfl, rfl, rfl⟩
        · skip
          refine wq_iconst 21 1 dX8_wantsFigure_20 rfl (by decide) ?_
          refine wq_goto 25 dX8_wantsFigure_21 (by decide) ?_
          refine ri .boolean dX8_wantsFigure_25 rfl rfl ?_
          exact ⟨by rw [wfK, if_neg c2, if_neg (fun h => h c7), if_neg c11, if_neg (fun h => h c17)], rfl, rfl, rfl⟩
/-- what a sign means where such a thing must stand -/
def mng (s sh : Int32) : Int32 := if ¬ sh = 48 then (if ¬ sh = 45 then nmS s else -6) else (if s < 48 then -6 else if 57 < s then -6 else s - 48)
set_option maxRecDepth 20000 in
theorem sp_X4_meaningOf {g : Gl} {D : Nat} {b : Bool} {I : IM} {L : LM} (s sh : Int32) : Md g D MX4_meaningOf [.int s, .int sh] b I L (some (.int (mng s sh))) b I L := by
  refine Me.of [some (.int s), some (.int sh)] 0 rfl pf_X4_meaningOf (Nat.le_of_ble_eq_true rfl) ?_
  refine wq_iload_n 1 1 dX4_meaningOf_0 rfl rfl rfl ?_
  refine wq_bipush 3 48 dX4_meaningOf_1 rfl (by decide) ?_
  refine wq_ic_ne 6 28 dX4_meaningOf_3 rfl (by decide) (fun c3 => ?_) (fun c3 => ?_)
  · skip
    refine wq_iload_n 29 1 dX4_meaningOf_28 rfl rfl rfl ?_
    refine wq_bipush 31 45 dX4_meaningOf_29 rfl (by decide) ?_
    refine wq_ic_ne 34 37 dX4_meaningOf_31 rfl (by decide) (fun c31 => ?_) (fun c31 => ?_)
    · skip
      refine wq_iload_n 38 0 dX4_meaningOf_37 rfl rfl rfl ?_
      refine wq_bipush 40 65 dX4_meaningOf_38 rfl (by decide) ?_
      refine wq_ic_lt 43 54 dX4_meaningOf_40 rfl (by decide) (fun c40 => ?_) (fun c40 => ?_)
      · skip
        refine wq_iload_n 55 0 dX4_meaningOf_54 rfl rfl rfl ?_
        refine wq_bipush 57 97 dX4_meaningOf_55 rfl (by decide) ?_
        refine wq_ic_lt 60 75 dX4_meaningOf_57 rfl (by decide) (fun c57 => ?_) (fun c57 => ?_)
        · skip
          refine wq_bipush 77 (-6) dX4_meaningOf_75 rfl (by decide) ?_
          refine ri .int dX4_meaningOf_77 rfl rfl ?_
          exact ⟨by rw [mng, if_pos c3, if_pos c31]; simp [nmS, inM, c40, c57], rfl, rfl, rfl⟩
        · skip
          refine wq_iload_n 61 0 dX4_meaningOf_60 rfl rfl rfl ?_
          refine wq_bipush 63 108 dX4_meaningOf_61 rfl (by decide) ?_
          refine wq_ic_gt 66 75 dX4_meaningOf_63 rfl (by decide) (fun c63 => ?_) (fun c63 => ?_)
          · skip
            refine wq_bipush 77 (-6) dX4_meaningOf_75 rfl (by decide) ?_
            refine ri .int dX4_meaningOf_77 rfl rfl ?_
            exact ⟨by rw [mng, if_pos c3, if_pos c31]; simp [nmS, inM, c40, c57, c63], rfl, rfl, rfl⟩
          · skip
            refine wq_iload_n 67 0 dX4_meaningOf_66 rfl rfl rfl ?_
            refine wq_bipush 69 97 dX4_meaningOf_67 rfl (by decide) ?_
            refine wq_isub 70 dX4_meaningOf_69 rfl ?_
            refine wq_iconst 71 4 dX4_meaningOf_70 rfl (by decide) ?_
            refine wq_iadd 72 dX4_meaningOf_71 rfl ?_
            refine wq_goto 77 dX4_meaningOf_72 (by decide) ?_
            refine ri .int dX4_meaningOf_77 rfl rfl ?_
            exact ⟨by rw [mng, if_pos c3, if_pos c31]; simp [nmS, inM, c40, c57, c63], rfl, rfl, rfl⟩
      · skip
        refine wq_iload_n 44 0 dX4_meaningOf_43 rfl rfl rfl ?_
        refine wq_bipush 46 68 dX4_meaningOf_44 rfl (by decide) ?_
        refine wq_ic_gt 49 54 dX4_meaningOf_46 rfl (by decide) (fun c46 => ?_) (fun c46 => ?_)
        · skip
          refine wq_iload_n 55 0 dX4_meaningOf_54 rfl rfl rfl ?_
          refine wq_bipush 57 97 dX4_meaningOf_55 rfl (by decide) ?_
          refine wq_ic_lt 60 75 dX4_meaningOf_57 rfl (by decide) (fun c57 => ?_) (fun c57 => ?_)
          · skip
            refine wq_bipush 77 (-6) dX4_meaningOf_75 rfl (by decide) ?_
            refine ri .int dX4_meaningOf_77 rfl rfl ?_
            exact ⟨by rw [mng, if_pos c3, if_pos c31]; simp [nmS, inM, c40, c46, c57], rfl, rfl, rfl⟩
          · skip
            refine wq_iload_n 61 0 dX4_meaningOf_60 rfl rfl rfl ?_
            refine wq_bipush 63 108 dX4_meaningOf_61 rfl (by decide) ?_
            refine wq_ic_gt 66 75 dX4_meaningOf_63 rfl (by decide) (fun c63 => ?_) (fun c63 => ?_)
            · skip
              refine wq_bipush 77 (-6) dX4_meaningOf_75 rfl (by decide) ?_
              refine ri .int dX4_meaningOf_77 rfl rfl ?_
              exact ⟨by rw [mng, if_pos c3, if_pos c31]; simp [nmS, inM, c40, c46, c57, c63], rfl, rfl, rfl⟩
            · skip
              refine wq_iload_n 67 0 dX4_meaningOf_66 rfl rfl rfl ?_
              refine wq_bipush 69 97 dX4_meaningOf_67 rfl (by decide) ?_
              refine wq_isub 70 dX4_meaningOf_69 rfl ?_
              refine wq_iconst 71 4 dX4_meaningOf_70 rfl (by decide) ?_
              refine wq_iadd 72 dX4_meaningOf_71 rfl ?_
              refine wq_goto 77 dX4_meaningOf_72 (by decide) ?_
              refine ri .int dX4_meaningOf_77 rfl rfl ?_
              exact ⟨by rw [mng, if_pos c3, if_pos c31]; simp [nmS, inM, c40, c46, c57, c63], rfl, rfl, rfl⟩
        · skip
          refine wq_iload_n 50 0 dX4_meaningOf_49 rfl rfl rfl ?_
          refine wq_bipush 52 65 dX4_meaningOf_50 rfl (by decide) ?_
          refine wq_isub 53 dX4_meaningOf_52 rfl ?_
          refine ri .int dX4_meaningOf_53 rfl rfl ?_
          exact ⟨by rw [mng, if_pos c3, if_pos c31]; simp [nmS, inM, c40, c46], rfl, rfl, rfl⟩
    · skip
      refine wq_bipush 36 (-6) dX4_meaningOf_34 rfl (by decide) ?_
      refine ri .int dX4_meaningOf_36 rfl rfl ?_
      exact ⟨by rw [mng, if_pos c3, if_neg (fun h => h c31)], rfl, rfl, rfl⟩
  · skip
    refine wq_iload_n 7 0 dX4_meaningOf_6 rfl rfl rfl ?_
    refine wq_bipush 9 48 dX4_meaningOf_7 rfl (by decide) ?_
    refine wq_ic_lt 12 25 dX4_meaningOf_9 rfl (by decide) (fun c9 => ?_) (fun c9 => ?_)
    · skip
      refine wq_bipush 27 (-6) dX4_meaningOf_25 rfl (by decide) ?_
      refine ri .int dX4_meaningOf_27 rfl rfl ?_
      exact ⟨by rw [mng, if_neg (fun h => h c3), if_pos c9], rfl, rfl, rfl⟩
    · skip
      refine wq_iload_n 13 0 dX4_meaningOf_12 rfl rfl rfl ?_
      refine wq_bipush 15 57 dX4_meaningOf_13 rfl (by decide) ?_
      refine wq_ic_gt 18 25 dX4_meaningOf_15 rfl (by decide) (fun c15 => ?_) (fun c15 => ?_)
      · skip
        refine wq_bipush 27 (-6) dX4_meaningOf_25 rfl (by decide) ?_
        refine ri .int dX4_meaningOf_27 rfl rfl ?_
        exact ⟨by rw [mng, if_neg (fun h => h c3), if_neg c9, if_pos c15], rfl, rfl, rfl⟩
      · skip
        refine wq_iload_n 19 0 dX4_meaningOf_18 rfl rfl rfl ?_
        refine wq_bipush 21 48 dX4_meaningOf_19 rfl (by decide) ?_
        refine wq_isub 22 dX4_meaningOf_21 rfl ?_
        refine wq_goto 27 dX4_meaningOf_22 (by decide) ?_
        refine ri .int dX4_meaningOf_27 rfl rfl ?_
        exact ⟨by rw [mng, if_neg (fun h => h c3), if_neg c9, if_neg c15], rfl, rfl, rfl⟩
