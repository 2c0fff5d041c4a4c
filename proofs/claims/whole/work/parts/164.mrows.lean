/-! the reference: rows of now -/
def NR (I : IM) (n : Nat) (p : Pg) : Prop := n ≤ 90 ∧ I 71 13 = nI n ∧ ∀ j, j < n → I 77 j = p j 0 ∧ I 78 j = p j 1 ∧ I 79 j = p j 2 ∧ I 80 j = p j 3
theorem NR_keep {I I' : IM} {n : Nat} {p : Pg} (h : NR I n p) (e1 : I' 71 13 = I 71 13) (e2 : I' 77 = I 77) (e3 : I' 78 = I 78) (e4 : I' 79 = I 79) (e5 : I' 80 = I 80) : NR I' n p := by
  unfold NR
  rw [e1, e2, e3, e4, e5]
  exact h
set_option maxRecDepth 20000 in
set_option maxHeartbeats 2000000 in
theorem lp_X8_asProgram {g : Gl} {D : Nat} {b : Bool} {I : IM} {L : LM} {n : Nat} {p : Pg} (h : MR I n p) {post : Option Value → Bool → IM → LM → Prop} (hp : ∀ I1, NR I1 n p → I1 71 = va_up (I 71) 13 (nI n) → (∀ x, x ∉ [71, 77, 78, 79, 80] → I1 x = I x) → post none b I1 L) : ∀ r k I1, k + r = n → I1 71 = va_up (I 71) 13 (nI n) → (∀ x, x ∉ [71, 77, 78, 79, 80] → I1 x = I x) → (∀ j, j < k → I1 77 j = p j 0 ∧ I1 78 j = p j 1 ∧ I1 79 j = p j 2 ∧ I1 80 j = p j 3) → Wp (Kn g D MX8_asProgram post) (Tb b) 10 [some (rf g 71), some (.int (nI k))] [] I1 L := by
  obtain ⟨hn, hm, hr⟩ := h
  intro r
  induction r with
  | zero =>
    intro k I1 hk e1 e2 e3
    have ek : k = n := by omega
    subst ek
    refine wq_iload_n 11 1 dX8_asProgram_10 rfl rfl rfl ?_
    refine wq_bload_n 12 0 dX8_asProgram_11 rfl rfl rfl ?_
    refine wq_getI 15 fl_X8_141 dX8_asProgram_12 rfl rfl o_71 ?_
    refine wq_ic_ge 18 72 dX8_asProgram_15 rfl (by decide) (fun c15 => ?_) (fun c15 => absurd (by rw [e1, va_up_ne _ _ (by decide), hm]; exact nI_le (Nat.le_refl _) (by omega)) c15)
    refine rr dX8_asProgram_72 rfl ?_
    exact hp I1 ⟨by omega, by rw [e1, va_up_self], e3⟩ e1 e2
  | succ r ih =>
    intro k I1 hk e1 e2 e3
    refine wq_iload_n 11 1 dX8_asProgram_10 rfl rfl rfl ?_
    refine wq_bload_n 12 0 dX8_asProgram_11 rfl rfl rfl ?_
    refine wq_getI 15 fl_X8_141 dX8_asProgram_12 rfl rfl o_71 ?_
    refine wq_ic_ge 18 72 dX8_asProgram_15 rfl (by decide) (fun c15 => absurd c15 (by rw [e1, va_up_ne _ _ (by decide), hm]; exact nI_ge (by omega) (by omega))) (fun c15 => ?_)
    refine wq_bload_n 19 0 dX8_asProgram_18 rfl rfl rfl ?_
    refine wq_getR 22 fl_X8_29 dX8_asProgram_19 rfl rfl o_71 (rfl : (Tb _).2.2.2 71 9 = some 77) ?_
    refine wq_iload_n 23 1 dX8_asProgram_22 rfl rfl rfl ?_
    refine wq_bload_n 24 0 dX8_asProgram_23 rfl rfl rfl ?_
    refine wq_getR 27 fl_X8_13 dX8_asProgram_24 rfl rfl o_71 (rfl : (Tb _).2.2.2 71 2 = some 72) ?_
    refine wq_iload_n 28 1 dX8_asProgram_27 rfl rfl rfl ?_
    refine wq_iald 29 dX8_asProgram_28 rfl a_72 (Ix.nI (by omega) (by decide)) ?_
    refine wq_iast 30 dX8_asProgram_29 rfl a_77 (Ix.nI (by omega) (by decide)) ?_
    refine wq_bload_n 31 0 dX8_asProgram_30 rfl rfl rfl ?_
    refine wq_getR 34 fl_X8_32 dX8_asProgram_31 rfl rfl o_71 (rfl : (Tb _).2.2.2 71 10 = some 78) ?_
    refine wq_iload_n 35 1 dX8_asProgram_34 rfl rfl rfl ?_
    refine wq_bload_n 36 0 dX8_asProgram_35 rfl rfl rfl ?_
    refine wq_getR 39 fl_X8_17 dX8_asProgram_36 rfl rfl o_71 (rfl : (Tb _).2.2.2 71 3 = some 73) ?_
    refine wq_iload_n 40 1 dX8_asProgram_39 rfl rfl rfl ?_
    refine wq_iald 41 dX8_asProgram_40 rfl a_73 (Ix.nI (by omega) (by decide)) ?_
    refine wq_iast 42 dX8_asProgram_41 rfl a_78 (Ix.nI (by omega) (by decide)) ?_
    refine wq_bload_n 43 0 dX8_asProgram_42 rfl rfl rfl ?_
    refine wq_getR 46 fl_X8_35 dX8_asProgram_43 rfl rfl o_71 (rfl : (Tb _).2.2.2 71 11 = some 79) ?_
    refine wq_iload_n 47 1 dX8_asProgram_46 rfl rfl rfl ?_
    refine wq_bload_n 48 0 dX8_asProgram_47 rfl rfl rfl ?_
    refine wq_getR 51 fl_X8_20 dX8_asProgram_48 rfl rfl o_71 (rfl : (Tb _).2.2.2 71 4 = some 74) ?_
    refine wq_iload_n 52 1 dX8_asProgram_51 rfl rfl rfl ?_
    refine wq_iald 53 dX8_asProgram_52 rfl a_74 (Ix.nI (by omega) (by decide)) ?_
    refine wq_iast 54 dX8_asProgram_53 rfl a_79 (Ix.nI (by omega) (by decide)) ?_
    refine wq_bload_n 55 0 dX8_asProgram_54 rfl rfl rfl ?_
    refine wq_getR 58 fl_X8_38 dX8_asProgram_55 rfl rfl o_71 (rfl : (Tb _).2.2.2 71 12 = some 80) ?_
    refine wq_iload_n 59 1 dX8_asProgram_58 rfl rfl rfl ?_
    refine wq_bload_n 60 0 dX8_asProgram_59 rfl rfl rfl ?_
    refine wq_getR 63 fl_X8_23 dX8_asProgram_60 rfl rfl o_71 (rfl : (Tb _).2.2.2 71 5 = some 75) ?_
    refine wq_iload_n 64 1 dX8_asProgram_63 rfl rfl rfl ?_
    refine wq_iald 65 dX8_asProgram_64 rfl a_75 (Ix.nI (by omega) (by decide)) ?_
    refine wq_iast 66 dX8_asProgram_65 rfl a_80 (Ix.nI (by omega) (by decide)) ?_
    refine wq_iinc 69 (_ + 1) [_, _] dX8_asProgram_66 rfl rfl (inc1 _) rfl (Nat.le_of_ble_eq_true rfl) rfl ?_
    refine wq_goto 10 dX8_asProgram_69 (by decide) ?_
    rw [← nI_succ]
    obtain ⟨q0, q1, q2, q3⟩ := hr k (by omega)
    have f2 := e2 72 (by decide)
    have f3 := e2 73 (by decide)
    have f4 := e2 74 (by decide)
    have f5 := e2 75 (by decide)
    refine wq_gen (fun I2 L2 eI2 eL2 => ?_)
    have g71 : I2 71 = I1 71 := by rw [eI2]; simp [va_up]
    have g77 : I2 77 = va_up (I1 77) k (I 72 k) := by rw [eI2]; simp [va_up, f2]
    have g78 : I2 78 = va_up (I1 78) k (I 73 k) := by rw [eI2]; simp [va_up, f3]
    have g79 : I2 79 = va_up (I1 79) k (I 74 k) := by rw [eI2]; simp [va_up, f4]
    have g80 : I2 80 = va_up (I1 80) k (I 75 k) := by rw [eI2]; simp [va_up, f5]
    have gx : ∀ x, x ∉ [71, 77, 78, 79, 80] → I2 x = I1 x := by
      intro x hx
      simp at hx
      rw [eI2, va_up_ne _ _ hx.2.2.2.2, va_up_ne _ _ hx.2.2.2.1, va_up_ne _ _ hx.2.2.1, va_up_ne _ _ hx.2.1]
    rw [eL2]
    clear eI2 eL2
    refine ih (k + 1) I2 (by omega) (g71.trans e1) (fun x hx => (gx x hx).trans (e2 x hx)) (fun j hj => ?_)
    rw [g77, g78, g79, g80]
    by_cases e : j = k
    · rw [e, va_up_self, va_up_self, va_up_self, va_up_self]; exact ⟨q0, q1, q2, q3⟩
    · rw [va_up_ne _ _ e, va_up_ne _ _ e, va_up_ne _ _ e, va_up_ne _ _ e]; exact e3 j (by omega)
set_option maxRecDepth 20000 in
theorem sp_X8_asProgram {g : Gl} {D : Nat} {b : Bool} {I : IM} {L : LM} {n : Nat} {p : Pg} (h : MR I n p) : Me g D MX8_asProgram [rf g 71] b I L (fun r b' I' L' => r = none ∧ b' = b ∧ L' = L ∧ NR I' n p ∧ I' 71 = va_up (I 71) 13 (nI n) ∧ ∀ x, x ∉ [71, 77, 78, 79, 80] → I' x = I x) := by
  refine Me.of [some (rf g 71), none] 1 rfl pf_X8_asProgram (Nat.le_of_ble_eq_true rfl) ?_
  refine wq_bload_n 1 0 dX8_asProgram_0 rfl rfl rfl ?_
  refine wq_bload_n 2 0 dX8_asProgram_1 rfl rfl rfl ?_
  refine wq_getI 5 fl_X8_141 dX8_asProgram_2 rfl rfl o_71 ?_
  refine wq_putI 8 fl_X8_148 dX8_asProgram_5 rfl rfl rfl rfl rfl o_71 ?_
  rw [h.2.1]
  refine wq_iconst 9 0 dX8_asProgram_8 rfl (by decide) ?_
  refine wq_istore_n 10 1 [_, _] dX8_asProgram_9 rfl rfl rfl (Nat.le_of_ble_eq_true rfl) rfl ?_
  exact lp_X8_asProgram h (fun I1 h1 h2 h3 => ⟨rfl, rfl, rfl, h1, h2, h3⟩) n 0 _ (by omega) (by rw [va_up_self]) (fun x hx => va_up_ne _ _ (fun e => hx (by rw [e]; decide))) (fun j hj => by omega)
set_option maxRecDepth 20000 in
set_option maxHeartbeats 2000000 in
theorem sp_X8_reads {g : Gl} {D : Nat} {b : Bool} {I : IM} {L : LM} {n B : Nat} {p : Pg} (h : NR I n p) (hw : WfB B p n) {i : Int32} (j : Nat) (hi : i = nI j) (hj : j < n) : Md g D MX8_reads [rf g 71, .int i] b I L (some (.long (Rd p j))) b I L := by
  subst hi
  obtain ⟨hn, -, hr⟩ := h
  obtain ⟨q0, q1, q2, q3⟩ := hr j hj
  obtain ⟨k, x, y, z, hk, e0, e1, x1, -, -, -, e2, -, -, e3, -, hRd, -⟩ := row_form hw hj
  refine Me.of [some (rf g 71), some (.int (nI j))] 0 rfl pf_X8_reads (Nat.le_of_ble_eq_true rfl) ?_
  refine wq_bload_n 1 0 dX8_reads_0 rfl rfl rfl ?_
  refine wq_getR 4 fl_X8_29 dX8_reads_1 rfl rfl o_71 (rfl : (Tb _).2.2.2 71 9 = some 77) ?_
  refine wq_iload_n 5 1 dX8_reads_4 rfl rfl rfl ?_
  refine wq_iald 6 dX8_reads_5 rfl a_77 (Ix.nI (by omega) (by decide)) ?_
  rw [q0, e0, hRd]
  have hk9 : k = 0 ∨ k = 1 ∨ k = 2 ∨ k = 3 ∨ k = 4 ∨ k = 5 ∨ k = 6 ∨ k = 7 ∨ k = 8 := by omega
  clear hRd
  rcases hk9 with rfl | rfl | rfl | rfl | rfl | rfl | rfl | rfl | rfl
  · refine wq_tabOut 88 dX8_reads_6 (by decide) (by decide) ?_
    refine wq_lconst 89 0 dX8_reads_88 rfl (by decide) ?_
    refine rl dX8_reads_89 rfl ?_
    exact ⟨rfl, rfl, rfl, rfl⟩
  · refine wq_tabIn 52 dX8_reads_6 (by decide) (by decide) rfl (by decide) ?_
    refine wq_lconst 53 1 dX8_reads_52 rfl (by decide) ?_
    refine wq_bload_n 54 0 dX8_reads_53 rfl rfl rfl ?_
    refine wq_getR 57 fl_X8_35 dX8_reads_54 rfl rfl o_71 (rfl : (Tb _).2.2.2 71 11 = some 79) ?_
    refine wq_iload_n 58 1 dX8_reads_57 rfl rfl rfl ?_
    refine wq_iald 59 dX8_reads_58 rfl a_79 (Ix.nI (by omega) (by decide)) ?_
    refine wq_lshl 60 dX8_reads_59 rfl ?_
    refine rl dX8_reads_60 rfl ?_
    exact ⟨by rw [q2, (e2 (by omega)).1]; rfl, rfl, rfl, rfl⟩
  · refine wq_tabIn 61 dX8_reads_6 (by decide) (by decide) rfl (by decide) ?_
    refine wq_lconst 62 1 dX8_reads_61 rfl (by decide) ?_
    refine wq_bload_n 63 0 dX8_reads_62 rfl rfl rfl ?_
    refine wq_getR 66 fl_X8_35 dX8_reads_63 rfl rfl o_71 (rfl : (Tb _).2.2.2 71 11 = some 79) ?_
    refine wq_iload_n 67 1 dX8_reads_66 rfl rfl rfl ?_
    refine wq_iald 68 dX8_reads_67 rfl a_79 (Ix.nI (by omega) (by decide)) ?_
    refine wq_lshl 69 dX8_reads_68 rfl ?_
    refine wq_lconst 70 1 dX8_reads_69 rfl (by decide) ?_
    refine wq_bload_n 71 0 dX8_reads_70 rfl rfl rfl ?_
    refine wq_getR 74 fl_X8_38 dX8_reads_71 rfl rfl o_71 (rfl : (Tb _).2.2.2 71 12 = some 80) ?_
    refine wq_iload_n 75 1 dX8_reads_74 rfl rfl rfl ?_
    refine wq_iald 76 dX8_reads_75 rfl a_80 (Ix.nI (by omega) (by decide)) ?_
    refine wq_lshl 77 dX8_reads_76 rfl ?_
    refine wq_lor 78 dX8_reads_77 rfl ?_
    refine rl dX8_reads_78 rfl ?_
    exact ⟨by rw [q2, q3, (e2 (by omega)).1, (e3 rfl).1]; rfl, rfl, rfl, rfl⟩
  · refine wq_tabIn 52 dX8_reads_6 (by decide) (by decide) rfl (by decide) ?_
    refine wq_lconst 53 1 dX8_reads_52 rfl (by decide) ?_
    refine wq_bload_n 54 0 dX8_reads_53 rfl rfl rfl ?_
    refine wq_getR 57 fl_X8_35 dX8_reads_54 rfl rfl o_71 (rfl : (Tb _).2.2.2 71 11 = some 79) ?_
    refine wq_iload_n 58 1 dX8_reads_57 rfl rfl rfl ?_
    refine wq_iald 59 dX8_reads_58 rfl a_79 (Ix.nI (by omega) (by decide)) ?_
    refine wq_lshl 60 dX8_reads_59 rfl ?_
    refine rl dX8_reads_60 rfl ?_
    exact ⟨by rw [q2, (e2 (by omega)).1]; rfl, rfl, rfl, rfl⟩
  · refine wq_tabIn 79 dX8_reads_6 (by decide) (by decide) rfl (by decide) ?_
    refine wq_lconst 80 1 dX8_reads_79 rfl (by decide) ?_
    refine wq_bload_n 81 0 dX8_reads_80 rfl rfl rfl ?_
    refine wq_getR 84 fl_X8_32 dX8_reads_81 rfl rfl o_71 (rfl : (Tb _).2.2.2 71 10 = some 78) ?_
    refine wq_iload_n 85 1 dX8_reads_84 rfl rfl rfl ?_
    refine wq_iald 86 dX8_reads_85 rfl a_78 (Ix.nI (by omega) (by decide)) ?_
    refine wq_lshl 87 dX8_reads_86 rfl ?_
    refine rl dX8_reads_87 rfl ?_
    exact ⟨by rw [q1, e1]; rfl, rfl, rfl, rfl⟩
  · refine wq_tabIn 88 dX8_reads_6 (by decide) (by decide) rfl (by decide) ?_
    refine wq_lconst 89 0 dX8_reads_88 rfl (by decide) ?_
    refine rl dX8_reads_89 rfl ?_
    exact ⟨rfl, rfl, rfl, rfl⟩
  · refine wq_tabIn 79 dX8_reads_6 (by decide) (by decide) rfl (by decide) ?_
    refine wq_lconst 80 1 dX8_reads_79 rfl (by decide) ?_
    refine wq_bload_n 81 0 dX8_reads_80 rfl rfl rfl ?_
    refine wq_getR 84 fl_X8_32 dX8_reads_81 rfl rfl o_71 (rfl : (Tb _).2.2.2 71 10 = some 78) ?_
    refine wq_iload_n 85 1 dX8_reads_84 rfl rfl rfl ?_
    refine wq_iald 86 dX8_reads_85 rfl a_78 (Ix.nI (by omega) (by decide)) ?_
    refine wq_lshl 87 dX8_reads_86 rfl ?_
    refine rl dX8_reads_87 rfl ?_
    exact ⟨by rw [q1, e1]; rfl, rfl, rfl, rfl⟩
  · refine wq_tabIn 88 dX8_reads_6 (by decide) (by decide) rfl (by decide) ?_
    refine wq_lconst 89 0 dX8_reads_88 rfl (by decide) ?_
    refine rl dX8_reads_89 rfl ?_
    exact ⟨rfl, rfl, rfl, rfl⟩
  · refine wq_tabIn 79 dX8_reads_6 (by decide) (by decide) rfl (by decide) ?_
    refine wq_lconst 80 1 dX8_reads_79 rfl (by decide) ?_
    refine wq_bload_n 81 0 dX8_reads_80 rfl rfl rfl ?_
    refine wq_getR 84 fl_X8_32 dX8_reads_81 rfl rfl o_71 (rfl : (Tb _).2.2.2 71 10 = some 78) ?_
    refine wq_iload_n 85 1 dX8_reads_84 rfl rfl rfl ?_
    refine wq_iald 86 dX8_reads_85 rfl a_78 (Ix.nI (by omega) (by decide)) ?_
    refine wq_lshl 87 dX8_reads_86 rfl ?_
    refine rl dX8_reads_87 rfl ?_
    exact ⟨by rw [q1, e1]; rfl, rfl, rfl, rfl⟩
def iwN (k : Nat) : Prop := k < 4 ∨ k = 7
set_option maxRecDepth 20000 in
theorem sp_X8_isWriting {g : Gl} {D : Nat} {b : Bool} {I : IM} {L : LM} {i : Int32} (k : Nat) (hi : i = nI k) (hk : k < 9) : Md g D MX8_isWriting [.int i] b I L (some (.int (if k < 4 ∨ k = 7 then 1 else 0))) b I L := by
  subst hi
  refine Me.of [some (.int (nI k))] 0 rfl pf_X8_isWriting (Nat.le_of_ble_eq_true rfl) ?_
  refine wq_iload_n 1 0 dX8_isWriting_0 rfl rfl rfl ?_
  refine wq_iconst 2 4 dX8_isWriting_1 rfl (by decide) ?_
  refine wq_ic_lt 5 11 dX8_isWriting_2 rfl (by decide) (fun c2 => ?_) (fun c2 => ?_)
  · skip
    refine wq_iconst 12 1 dX8_isWriting_11 rfl (by decide) ?_
    refine wq_goto 16 dX8_isWriting_12 (by decide) ?_
    refine ri .boolean dX8_isWriting_16 rfl rfl ?_
    exact ⟨by rw [if_pos (Or.inl ((nI_ltI (b := 4) (by omega) (by decide)).mp c2))], rfl, rfl, rfl⟩
  · skip
    refine wq_iload_n 6 0 dX8_isWriting_5 rfl rfl rfl ?_
    refine wq_bipush 8 7 dX8_isWriting_6 rfl (by decide) ?_
    refine wq_ic_ne 11 15 dX8_isWriting_8 rfl (by decide) (fun c8 => ?_) (fun c8 => ?_)
    · skip
      refine wq_iconst 16 0 dX8_isWriting_15 rfl (by decide) ?_
      refine ri .boolean dX8_isWriting_16 rfl rfl ?_
      exact ⟨by rw [if_neg (fun z => z.elim (fun z => c2 (nI_lt (b := 4) z (by decide))) (fun z => c8 (by rw [z]; rfl)))], rfl, rfl, rfl⟩
    · skip
      refine wq_iconst 12 1 dX8_isWriting_11 rfl (by decide) ?_
      refine wq_goto 16 dX8_isWriting_12 (by decide) ?_
      refine ri .boolean dX8_isWriting_16 rfl rfl ?_
      exact ⟨by rw [if_pos (Or.inr ((nI_eq (b := 7) (by omega) (by decide)).mp c8))], rfl, rfl, rfl⟩
set_option maxRecDepth 20000 in
set_option maxHeartbeats 2000000 in
theorem sp_X8_writes {g : Gl} {D : Nat} {b : Bool} {I : IM} {L : LM} {n B : Nat} {p : Pg} (hD : 1 ≤ D) (h : NR I n p) (hw : WfB B p n) {i : Int32} (j : Nat) (hi : i = nI j) (hj : j < n) : Md g D MX8_writes [rf g 71, .int i] b I L (some (.long (wm p j))) b I L := by
  subst hi
  obtain ⟨hn, -, hr⟩ := h
  obtain ⟨q0, q1, -, -⟩ := hr j hj
  obtain ⟨k, x, y, z, hk, e0, e1, x1, -, -, -, -, -, -, -, -, -, hWr⟩ := row_form hw hj
  refine Me.of [some (rf g 71), some (.int (nI j))] 0 rfl pf_X8_writes (Nat.le_of_ble_eq_true rfl) ?_
  refine wq_bload_n 1 0 dX8_writes_0 rfl rfl rfl ?_
  refine wq_getR 4 fl_X8_29 dX8_writes_1 rfl rfl o_71 (rfl : (Tb _).2.2.2 71 9 = some 77) ?_
  refine wq_iload_n 5 1 dX8_writes_4 rfl rfl rfl ?_
  refine wq_iald 6 dX8_writes_5 rfl a_77 (Ix.nI (by omega) (by decide)) ?_
  refine cSi1 9 (sp_X8_isWriting k (by rw [q0, e0]) hk) ml_X8_151 mf_X8_isWriting dX8_writes_6 rfl (Nat.le_of_ble_eq_true rfl) (by omega) ?_
  refine wq_if_eq 12 23 dX8_writes_9 rfl (by decide) (fun c9 => ?_) (fun c9 => ?_)
  · skip
    refine wq_lconst 24 0 dX8_writes_23 rfl (by decide) ?_
    refine rl dX8_writes_24 rfl ?_
    have hk' : ¬ (k < 4 ∨ k = 7) := fun z => by rw [if_pos z] at c9; exact absurd c9 (by decide)
    exact ⟨by rw [wm, hWr, if_neg hk']; rfl, rfl, rfl, rfl⟩
  · skip
    refine wq_lconst 13 1 dX8_writes_12 rfl (by decide) ?_
    refine wq_bload_n 14 0 dX8_writes_13 rfl rfl rfl ?_
    refine wq_getR 17 fl_X8_32 dX8_writes_14 rfl rfl o_71 (rfl : (Tb _).2.2.2 71 10 = some 78) ?_
    refine wq_iload_n 18 1 dX8_writes_17 rfl rfl rfl ?_
    refine wq_iald 19 dX8_writes_18 rfl a_78 (Ix.nI (by omega) (by decide)) ?_
    refine wq_lshl 20 dX8_writes_19 rfl ?_
    refine wq_goto 24 dX8_writes_20 (by decide) ?_
    refine rl dX8_writes_24 rfl ?_
    have hk' : k < 4 ∨ k = 7 := Decidable.byContradiction (fun z => c9 (if_neg z))
    exact ⟨by rw [wm, hWr, if_pos hk', if_neg (nI_pos (by omega)), q1, e1]; rfl, rfl, rfl, rfl⟩
theorem Lb_neg {p : Pg} {f : Nat} : ∀ {n}, n ≤ 90 → Lb p f n < 0 → Lb p f n = -6
  | 0, _, _ => rfl
  | n + 1, hn, h => by
    rw [Lb] at h ⊢
    by_cases c : p n 0 = 5 ∧ p n 1 = nI f ∧ Lb p f n < 0
    · rw [if_pos c] at h; exact absurd h (nI_pos (by omega))
    · rw [if_neg c] at h ⊢; exact Lb_neg (by omega) h
theorem Lb_stay {p : Pg} {f m : Nat} (h : ¬ Lb p f m < 0) : ∀ r, Lb p f (m + r) = Lb p f m
  | 0 => rfl
  | r + 1 => by
    rw [← Nat.add_assoc, Lb, Lb_stay h r, if_neg (fun z => h z.2.2)]
set_option maxRecDepth 20000 in
set_option maxHeartbeats 2000000 in
theorem lp_X8_labelOf {g : Gl} {D : Nat} {b : Bool} {I : IM} {L : LM} {n f : Nat} {p : Pg} (h : NR I n p) {post : Option Value → Bool → IM → LM → Prop} (hp : post (some (.int (Lb p f n))) b I L) : ∀ r k, k + r = n → Lb p f k < 0 → Wp (Kn g D MX8_labelOf post) (Tb b) 2 [some (rf g 71), some (.int (nI f)), some (.int (nI k))] [] I L := by
  obtain ⟨hn, hm, hr⟩ := h
  intro r
  induction r with
  | zero =>
    intro k hk hl
    have ek : k = n := by omega
    subst ek
    refine wq_iload_n 3 2 dX8_labelOf_2 rfl rfl rfl ?_
    refine wq_bload_n 4 0 dX8_labelOf_3 rfl rfl rfl ?_
    refine wq_getI 7 fl_X8_148 dX8_labelOf_4 rfl rfl o_71 ?_
    refine wq_ic_ge 10 38 dX8_labelOf_7 rfl (by decide) (fun c7 => ?_) (fun c7 => absurd (by rw [hm]; exact nI_le (Nat.le_refl _) (by omega)) c7)
    refine wq_bipush 40 (-6) dX8_labelOf_38 rfl (by decide) ?_
    refine ri .int dX8_labelOf_40 rfl rfl ?_
    rw [Lb_neg (by omega) hl] at hp; exact hp
  | succ r ih =>
    intro k hk hl
    obtain ⟨q0, q1, -, -⟩ := hr k (by omega)
    refine wq_iload_n 3 2 dX8_labelOf_2 rfl rfl rfl ?_
    refine wq_bload_n 4 0 dX8_labelOf_3 rfl rfl rfl ?_
    refine wq_getI 7 fl_X8_148 dX8_labelOf_4 rfl rfl o_71 ?_
    refine wq_ic_ge 10 38 dX8_labelOf_7 rfl (by decide) (fun c7 => absurd c7 (by rw [hm]; exact nI_ge (by omega) (by omega))) (fun c7 => ?_)
    refine wq_bload_n 11 0 dX8_labelOf_10 rfl rfl rfl ?_
    refine wq_getR 14 fl_X8_29 dX8_labelOf_11 rfl rfl o_71 (rfl : (Tb _).2.2.2 71 9 = some 77) ?_
    refine wq_iload_n 15 2 dX8_labelOf_14 rfl rfl rfl ?_
    refine wq_iald 16 dX8_labelOf_15 rfl a_77 (Ix.nI (by omega) (by decide)) ?_
    rw [q0]
    refine wq_iconst 17 5 dX8_labelOf_16 rfl (by decide) ?_
    refine wq_ic_ne 20 32 dX8_labelOf_17 rfl (by decide) (fun c17 => ?_) (fun c17 => ?_)
    · skip
      refine wq_iinc 35 (_ + 1) [_, _, _] dX8_labelOf_32 rfl rfl (inc1 _) rfl (Nat.le_of_ble_eq_true rfl) rfl ?_
      refine wq_goto 2 dX8_labelOf_35 (by decide) ?_
      rw [← nI_succ]
      exact ih (k + 1) (by omega) (by rw [Lb, if_neg (fun z => c17 z.1)]; exact hl)
    · skip
      refine wq_bload_n 21 0 dX8_labelOf_20 rfl rfl rfl ?_
      refine wq_getR 24 fl_X8_32 dX8_labelOf_21 rfl rfl o_71 (rfl : (Tb _).2.2.2 71 10 = some 78) ?_
      refine wq_iload_n 25 2 dX8_labelOf_24 rfl rfl rfl ?_
      refine wq_iald 26 dX8_labelOf_25 rfl a_78 (Ix.nI (by omega) (by decide)) ?_
      rw [q1]
      refine wq_iload_n 27 1 dX8_labelOf_26 rfl rfl rfl ?_
      refine wq_ic_ne 30 32 dX8_labelOf_27 rfl (by decide) (fun c27 => ?_) (fun c27 => ?_)
      · skip
        refine wq_iinc 35 (_ + 1) [_, _, _] dX8_labelOf_32 rfl rfl (inc1 _) rfl (Nat.le_of_ble_eq_true rfl) rfl ?_
        refine wq_goto 2 dX8_labelOf_35 (by decide) ?_
        rw [← nI_succ]
        exact ih (k + 1) (by omega) (by rw [Lb, if_neg (fun z => c27 z.2.1)]; exact hl)
      · skip
        refine wq_iload_n 31 2 dX8_labelOf_30 rfl rfl rfl ?_
        refine ri .int dX8_labelOf_31 rfl rfl ?_
        have e : Lb p f (k + 1) = nI k := by rw [Lb, if_pos ⟨c17, c27, hl⟩]
        have e2 := Lb_stay (p := p) (f := f) (m := k + 1) (by rw [e]; exact nI_pos (by omega)) r
        rw [show k + 1 + r = n by omega, e] at e2
        rw [e2] at hp
        exact hp
set_option maxRecDepth 20000 in
theorem sp_X8_labelOf {g : Gl} {D : Nat} {b : Bool} {I : IM} {L : LM} {n : Nat} {p : Pg} (h : NR I n p) {i : Int32} (f : Nat) (hi : i = nI f) : Md g D MX8_labelOf [rf g 71, .int i] b I L (some (.int (Lb p f n))) b I L := by
  subst hi
  refine Me.of [some (rf g 71), some (.int (nI f)), none] 1 rfl pf_X8_labelOf (Nat.le_of_ble_eq_true rfl) ?_
  refine wq_iconst 1 0 dX8_labelOf_0 rfl (by decide) ?_
  refine wq_istore_n 2 2 [_, _, _] dX8_labelOf_1 rfl rfl rfl (Nat.le_of_ble_eq_true rfl) rfl ?_
  exact lp_X8_labelOf h ⟨rfl, rfl, rfl, rfl⟩ n 0 (by omega) (by rw [Lb]; decide)
