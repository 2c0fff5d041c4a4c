theorem wq_gen {K : Kx} {T : Tx} {pc : Nat} {lv : List (Option Value)} {st : List Value} {I : IM} {L : LM} (h : ∀ I' L', I' = I → L' = L → Wp K T pc lv st I' L') : Wp K T pc lv st I L := h I L rfl rfl
theorem LR_add {I I' : IM} {L L' : LM} {a n : Nat} {p : Pg} {k f s t : Int32} (h : LRc I L a n p) (hn : n < 90) (h4 : I' a 4 = nI (n + 1)) (h5 : I' a 5 = if k = 1 then I a 5 + 1 else I a 5) (h6 : L' a 6 = rNm (L a 6) k f s t) (h7 : I' a 7 = rTp (I a 7) k f s t) (hP : ∀ j, I' (a + 1) j = if j = 4 * n then k else if j = 4 * n + 1 then f else if j = 4 * n + 2 then s else if j = 4 * n + 3 then t else I (a + 1) j) (hR : ∀ j, L' (a + 2) j = if j = n then rRd k f s t else L (a + 2) j) (hW : ∀ j, I' (a + 3) j = if j = n then rWr k f s t else I (a + 3) j) (hL : ∀ q, q < 10 → I' (a + 4) q = if k = 5 ∧ f = nI q ∧ I (a + 4) q < 0 then nI n else I (a + 4) q) : LRc I' L' a (n + 1) (pX p n k f s t) := by
  obtain ⟨-, -, g5, g6, g7, gP, gR, gW, gL⟩ := h
  obtain ⟨d1, d2, d3, d4⟩ := derived_congr (p := pX p n k f s t) (q := p) n (fun i hi => pX_lt hi)
  have e0 : pX p n k f s t n 0 = k := by simp [pX]
  have e1 : pX p n k f s t n 1 = f := by simp [pX]
  have e2 : pX p n k f s t n 2 = s := by simp [pX]
  have e3 : pX p n k f s t n 3 = t := by simp [pX]
  refine ⟨by omega, h4, ?_, ?_, ?_, fun i hi w hw => ?_, fun i hi => ?_, fun i hi => ?_, fun q hq => ?_⟩
  · rw [h5, Mv, e0, d1, g5]
  · rw [h6, Nms, e0, e1, e2, e3, d2, g6]
  · rw [h7, Tp, e0, e1, e2, e3, d3, g7]
  · rw [hP]
    by_cases hin : i = n
    · subst hin
      match w, hw with
      | 0, _ => rw [if_pos (by omega)]; exact e0.symm
      | 1, _ => rw [if_neg (by omega), if_pos (by omega)]; exact e1.symm
      | 2, _ => rw [if_neg (by omega), if_neg (by omega), if_pos (by omega)]; exact e2.symm
      | 3, _ => rw [if_neg (by omega), if_neg (by omega), if_neg (by omega), if_pos (by omega)]; exact e3.symm
    · rw [if_neg (by omega), if_neg (by omega), if_neg (by omega), if_neg (by omega), pX_lt (by omega)]
      exact gP i (by omega) w hw
  · rw [hR]
    by_cases hin : i = n
    · subst hin; rw [if_pos rfl, Rd, e0, e1, e2, e3]
    · rw [if_neg hin, gR i (by omega), Rd, Rd, pX_lt (by omega)]
  · rw [hW]
    by_cases hin : i = n
    · subst hin; rw [if_pos rfl, Wr, e0, e1, e2, e3]
    · rw [if_neg hin, gW i (by omega), Wr, Wr, pX_lt (by omega)]
  · rw [hL q hq, Lb, e0, e1, d4 q, gL q hq]
set_option maxRecDepth 20000 in
set_option maxHeartbeats 2000000 in
theorem sp_X2_add {g : Gl} {D : Nat} {b : Bool} {I : IM} {L : LM} {a n : Nat} {p : Pg} (hD : 6 ≤ D) (ha : IsL a) (h : LRc I L a n p) (hn : n < 90) (k f s t : Int32) : Me g D MX2_add [rf g a, .int k, .int f, .int s, .int t] b I L (fun r b' I' L' => r = some (.int 1) ∧ b' = b ∧ LRc I' L' a (n + 1) (pX p n k f s t) ∧ Off (fL a) I L I' L') := by
  have hc := h.2.1
  refine Me.of [some (rf g a), some (.int k), some (.int f), some (.int s), some (.int t), none, none] 2 rfl pf_X2_add (Nat.le_of_ble_eq_true rfl) ?_
  refine wq_bload_n 1 0 dX2_add_0 rfl rfl rfl ?_
  refine wq_getI 4 fl_X2_25 dX2_add_1 rfl rfl (L_ob ha) ?_
  refine wq_if_lt 7 16 dX2_add_4 rfl (by decide) (fun c4 => absurd c4 (by rw [hc]; exact nI_pos (by omega))) (fun c4 => ?_)
  refine wq_bload_n 8 0 dX2_add_7 rfl rfl rfl ?_
  refine wq_getI 11 fl_X2_25 dX2_add_8 rfl rfl (L_ob ha) ?_
  refine wq_bipush 13 90 dX2_add_11 rfl (by decide) ?_
  refine wq_ic_lt 16 18 dX2_add_13 rfl (by decide) (fun c13 => ?_) (fun c13 => absurd (by rw [hc]; exact nI_lt (b := 90) (by omega) (by decide)) c13)
  refine wq_iconst 19 4 dX2_add_18 rfl (by decide) ?_
  refine wq_bload_n 20 0 dX2_add_19 rfl rfl rfl ?_
  refine wq_getI 23 fl_X2_25 dX2_add_20 rfl rfl (L_ob ha) ?_
  rw [hc]
  refine wq_imul 24 dX2_add_23 rfl ?_
  rw [show (4 : Int32) = nI 4 from rfl, pk_mul]
  refine wq_istore 26 [_, _, _, _, _, _, _] dX2_add_24 rfl rfl (Nat.le_of_ble_eq_true rfl) rfl ?_
  refine wq_bload_n 27 0 dX2_add_26 rfl rfl rfl ?_
  refine wq_getR 30 fl_X2_9 dX2_add_27 rfl rfl (L_ob ha) (L_rf0 ha) ?_
  refine wq_iload 32 dX2_add_30 rfl rfl ?_
  refine wq_iload_n 33 1 dX2_add_32 rfl rfl rfl ?_
  refine wq_iast 34 dX2_add_33 rfl (L_ar0 ha) (Ix.nI (by omega) (by decide)) ?_
  refine wq_bload_n 35 0 dX2_add_34 rfl rfl rfl ?_
  refine wq_getR 38 fl_X2_9 dX2_add_35 rfl rfl (L_ob ha) (L_rf0 ha) ?_
  refine wq_iload 40 dX2_add_38 rfl rfl ?_
  refine wq_iconst 41 1 dX2_add_40 rfl (by decide) ?_
  refine wq_iadd 42 dX2_add_41 rfl ?_
  rw [show (1 : Int32) = nI 1 from rfl, nI_add]
  refine wq_iload_n 43 2 dX2_add_42 rfl rfl rfl ?_
  refine wq_iast 44 dX2_add_43 rfl (L_ar0 ha) (Ix.nI (by omega) (by decide)) ?_
  refine wq_bload_n 45 0 dX2_add_44 rfl rfl rfl ?_
  refine wq_getR 48 fl_X2_9 dX2_add_45 rfl rfl (L_ob ha) (L_rf0 ha) ?_
  refine wq_iload 50 dX2_add_48 rfl rfl ?_
  refine wq_iconst 51 2 dX2_add_50 rfl (by decide) ?_
  refine wq_iadd 52 dX2_add_51 rfl ?_
  rw [show (2 : Int32) = nI 2 from rfl, nI_add]
  refine wq_iload_n 53 3 dX2_add_52 rfl rfl rfl ?_
  refine wq_iast 54 dX2_add_53 rfl (L_ar0 ha) (Ix.nI (by omega) (by decide)) ?_
  refine wq_bload_n 55 0 dX2_add_54 rfl rfl rfl ?_
  refine wq_getR 58 fl_X2_9 dX2_add_55 rfl rfl (L_ob ha) (L_rf0 ha) ?_
  refine wq_iload 60 dX2_add_58 rfl rfl ?_
  refine wq_iconst 61 3 dX2_add_60 rfl (by decide) ?_
  refine wq_iadd 62 dX2_add_61 rfl ?_
  rw [show (3 : Int32) = nI 3 from rfl, nI_add]
  refine wq_iload 64 dX2_add_62 rfl rfl ?_
  refine wq_iast 65 dX2_add_64 rfl (L_ar0 ha) (Ix.nI (by omega) (by decide)) ?_
  simp only [va_up_up, va_up_self]
  refine wq_gen (fun I1 L1 eI1 eL1 => ?_)
  have r4 : I1 a 4 = nI n := by rw [eI1, va_up_ne _ _ (show a ≠ a + 1 by omega)]; exact hc
  refine wq_bload_n 66 0 dX2_add_65 rfl rfl rfl ?_
  refine wq_getR 69 fl_X2_15 dX2_add_66 rfl rfl (L_ob ha) (L_rf1 ha) ?_
  refine wq_bload_n 70 0 dX2_add_69 rfl rfl rfl ?_
  refine wq_getI 73 fl_X2_25 dX2_add_70 rfl rfl (L_ob ha) ?_
  rw [r4]
  refine wq_lconst 74 0 dX2_add_73 rfl (by decide) ?_
  refine wq_last 75 dX2_add_74 rfl (L_ar1 ha) (Ix.nI (by omega) (by decide)) ?_
  refine wq_bload_n 76 0 dX2_add_75 rfl rfl rfl ?_
  refine wq_getR 79 fl_X2_19 dX2_add_76 rfl rfl (L_ob ha) (L_rf2 ha) ?_
  refine wq_bload_n 80 0 dX2_add_79 rfl rfl rfl ?_
  refine wq_getI 83 fl_X2_25 dX2_add_80 rfl rfl (L_ob ha) ?_
  rw [r4]
  refine wq_bipush 85 (-6) dX2_add_83 rfl (by decide) ?_
  refine wq_iast 86 dX2_add_85 rfl (L_ar2 ha) (Ix.nI (by omega) (by decide)) ?_
  refine wq_gen (fun I2 L2 eI2 eL2 => ?_)
  refine wq_iconst 87 1 dX2_add_86 rfl (by decide) ?_
  refine wq_istore 89 [_, _, _, _, _, _, _] dX2_add_87 rfl rfl (Nat.le_of_ble_eq_true rfl) rfl ?_
  have q4 : I2 a 4 = nI n := by rw [eI2, va_up_ne _ _ (show a ≠ a + 3 by omega)]; exact r4
  have q1 : I2 (a + 1) = va_up (va_up (va_up (va_up (I (a + 1)) (4 * n) k) (4 * n + 1) f) (4 * n + 2) s) (4 * n + 3) t := by
    rw [eI2, va_up_ne _ _ (show a + 1 ≠ a + 3 by omega), eI1, va_up_self]
  refine add_lp hD ha q4 hn (by rw [q1]; simp [va_up]) (by rw [q1]; simp [va_up]) (by rw [q1]; simp [va_up]) ?_
  refine wq_gen (fun I3 L3 eI3 eL3 => ?_)
  have z1 : I3 (a + 1) = I2 (a + 1) := by rw [eI3]; unfold nt3I; rw [va_up_ne _ _ (by omega), va_up_ne _ _ (by omega)]
  have z3 : I3 (a + 3) = va_up (I (a + 3)) n (rWr k f s t) := by
    rw [eI3]; unfold nt3I rWr
    rw [va_up_ne _ _ (by omega), va_up_self, eI2, va_up_self, va_up_up, va_up_self, eI1, va_up_ne _ _ (show a + 3 ≠ a + 1 by omega)]
  have z4 : I3 (a + 4) = I (a + 4) := by rw [eI3]; unfold nt3I; rw [va_up_ne _ _ (by omega), va_up_ne _ _ (by omega), eI2, va_up_ne _ _ (by omega), eI1, va_up_ne _ _ (by omega)]
  have z0 : I3 a = va_up (I a) 7 (rTp (I a 7) k f s t) := by
    have e2a : I2 a = I a := by rw [eI2, va_up_ne _ _ (by omega), eI1, va_up_ne _ _ (by omega)]
    rw [eI3]; unfold nt3I rTp
    rw [va_up_self, e2a]
  have y2 : L3 (a + 2) = va_up (L (a + 2)) n (rRd k f s t) := by
    rw [eL3]; unfold nt3L rRd
    rw [va_up_ne _ _ (by omega), va_up_self, eL2, eL1, va_up_self, va_up_up, va_up_self]
  have y0 : L3 a = va_up (L a) 6 (rNm (L a 6) k f s t) := by
    have e2a : L2 a = L a := by rw [eL2, va_up_ne _ _ (by omega), eL1]
    rw [eL3]; unfold nt3L rNm
    rw [va_up_self, e2a]
  have off : ∀ x, x ∉ fL a → I3 x = I x ∧ L3 x = L x := by
    intro x hx
    simp [fL] at hx
    obtain ⟨x0, x1, x2, x3, x4⟩ := hx
    constructor
    · rw [eI3]; unfold nt3I; rw [va_up_ne _ _ x0, va_up_ne _ _ x3, eI2, va_up_ne _ _ x3, eI1, va_up_ne _ _ x1]
    · rw [eL3]; unfold nt3L; rw [va_up_ne _ _ x0, va_up_ne _ _ x2, eL2, va_up_ne _ _ x2, eL1]
  clear eI3 eL3 eI2 eL2 eI1 eL1 q4 r4
  rw [q1] at z1
  clear q1
  refine wq_iload_n 122 1 dX2_add_121 rfl rfl rfl ?_
  refine wq_iconst 123 1 dX2_add_122 rfl (by decide) ?_
  refine wq_ic_ne 126 136 dX2_add_123 rfl (by decide) (fun c123 => ?_) (fun c123 => ?_)
  · skip
    refine wq_iload_n 137 1 dX2_add_136 rfl rfl rfl ?_
    refine wq_iconst 138 5 dX2_add_137 rfl (by decide) ?_
    refine wq_ic_ne 141 170 dX2_add_138 rfl (by decide) (fun c138 => ?_) (fun c138 => ?_)
    · skip
      refine wq_bload_n 171 0 dX2_add_170 rfl rfl rfl ?_
      refine wq_dup 172 dX2_add_171 rfl rfl ?_
      refine wq_getI 175 fl_X2_25 dX2_add_172 rfl rfl (L_ob ha) ?_
      refine wq_iconst 176 1 dX2_add_175 rfl (by decide) ?_
      refine wq_iadd 177 dX2_add_176 rfl ?_
      refine wq_putI 180 fl_X2_25 dX2_add_177 rfl rfl rfl rfl rfl (L_ob ha) ?_
      refine wq_iconst 181 1 dX2_add_180 rfl (by decide) ?_
      refine ri .boolean dX2_add_181 rfl rfl ?_
      refine ⟨rfl, rfl, LR_add h hn ?_ ?_ ?_ ?_ (fun j => ?_) (fun j => ?_) (fun j => ?_) (fun q hq => ?_), fun x hx => ?_⟩
      · simp [va_up, z0, hc, nI_1]
      · simp [va_up, z0, c123]
      · simp [va_up, y0]
      · simp [va_up, z0]
      · first | rw [z1] | simp only [va_up_ne _ _ (show a + 1 ≠ a by omega), va_up_ne _ _ (show a + 1 ≠ a + 4 by omega), z1]; simp only [va_up]
        by_cases j0 : j = 4 * n + 3
        · subst j0; simp
        · by_cases j1 : j = 4 * n + 2
          · subst j1; simp
          · by_cases j2 : j = 4 * n + 1
            · subst j2; simp
            · simp [j0, j1, j2]
      · rw [y2]; rfl
      · first | rw [z3] | simp only [va_up_ne _ _ (show a + 3 ≠ a by omega), va_up_ne _ _ (show a + 3 ≠ a + 4 by omega), z3]; rfl
      · simp [va_up, z4, c138]
      · obtain ⟨o1, o2⟩ := off x hx
        simp [fL] at hx
        simp [va_up, hx, o1, o2]
    · skip
      refine wq_iload_n 142 2 dX2_add_141 rfl rfl rfl ?_
      refine wq_if_lt 145 170 dX2_add_142 rfl (by decide) (fun c142 => ?_) (fun c142 => ?_)
      · skip
        refine wq_bload_n 171 0 dX2_add_170 rfl rfl rfl ?_
        refine wq_dup 172 dX2_add_171 rfl rfl ?_
        refine wq_getI 175 fl_X2_25 dX2_add_172 rfl rfl (L_ob ha) ?_
        refine wq_iconst 176 1 dX2_add_175 rfl (by decide) ?_
        refine wq_iadd 177 dX2_add_176 rfl ?_
        refine wq_putI 180 fl_X2_25 dX2_add_177 rfl rfl rfl rfl rfl (L_ob ha) ?_
        refine wq_iconst 181 1 dX2_add_180 rfl (by decide) ?_
        refine ri .boolean dX2_add_181 rfl rfl ?_
        refine ⟨rfl, rfl, LR_add h hn ?_ ?_ ?_ ?_ (fun j => ?_) (fun j => ?_) (fun j => ?_) (fun q hq => ?_), fun x hx => ?_⟩
        · simp [va_up, z0, hc, nI_1]
        · simp [va_up, z0, c123]
        · simp [va_up, y0]
        · simp [va_up, z0]
        · first | rw [z1] | simp only [va_up_ne _ _ (show a + 1 ≠ a by omega), va_up_ne _ _ (show a + 1 ≠ a + 4 by omega), z1]; simp only [va_up]
          by_cases j0 : j = 4 * n + 3
          · subst j0; simp
          · by_cases j1 : j = 4 * n + 2
            · subst j1; simp
            · by_cases j2 : j = 4 * n + 1
              · subst j2; simp
              · simp [j0, j1, j2]
        · rw [y2]; rfl
        · first | rw [z3] | simp only [va_up_ne _ _ (show a + 3 ≠ a by omega), va_up_ne _ _ (show a + 3 ≠ a + 4 by omega), z3]; rfl
        · have hf : ¬ f = nI q := fun e => by rw [e] at c142; exact nI_pos (by omega) c142
          simp [va_up, z4, hf]
        · obtain ⟨o1, o2⟩ := off x hx
          simp [fL] at hx
          simp [va_up, hx, o1, o2]
      · skip
        refine wq_iload_n 146 2 dX2_add_145 rfl rfl rfl ?_
        refine wq_bipush 148 10 dX2_add_146 rfl (by decide) ?_
        refine wq_ic_ge 151 170 dX2_add_148 rfl (by decide) (fun c148 => ?_) (fun c148 => ?_)
        · skip
          refine wq_bload_n 171 0 dX2_add_170 rfl rfl rfl ?_
          refine wq_dup 172 dX2_add_171 rfl rfl ?_
          refine wq_getI 175 fl_X2_25 dX2_add_172 rfl rfl (L_ob ha) ?_
          refine wq_iconst 176 1 dX2_add_175 rfl (by decide) ?_
          refine wq_iadd 177 dX2_add_176 rfl ?_
          refine wq_putI 180 fl_X2_25 dX2_add_177 rfl rfl rfl rfl rfl (L_ob ha) ?_
          refine wq_iconst 181 1 dX2_add_180 rfl (by decide) ?_
          refine ri .boolean dX2_add_181 rfl rfl ?_
          refine ⟨rfl, rfl, LR_add h hn ?_ ?_ ?_ ?_ (fun j => ?_) (fun j => ?_) (fun j => ?_) (fun q hq => ?_), fun x hx => ?_⟩
          · simp [va_up, z0, hc, nI_1]
          · simp [va_up, z0, c123]
          · simp [va_up, y0]
          · simp [va_up, z0]
          · first | rw [z1] | simp only [va_up_ne _ _ (show a + 1 ≠ a by omega), va_up_ne _ _ (show a + 1 ≠ a + 4 by omega), z1]; simp only [va_up]
            by_cases j0 : j = 4 * n + 3
            · subst j0; simp
            · by_cases j1 : j = 4 * n + 2
              · subst j1; simp
              · by_cases j2 : j = 4 * n + 1
                · subst j2; simp
                · simp [j0, j1, j2]
          · rw [y2]; rfl
          · first | rw [z3] | simp only [va_up_ne _ _ (show a + 3 ≠ a by omega), va_up_ne _ _ (show a + 3 ≠ a + 4 by omega), z3]; rfl
          · have hf : ¬ f = nI q := fun e => by rw [e] at c148; exact nI_ge (b := 10) hq (by decide) c148
            simp [va_up, z4, hf]
          · obtain ⟨o1, o2⟩ := off x hx
            simp [fL] at hx
            simp [va_up, hx, o1, o2]
        · skip
          have fIx : ∃ j, j < 10 ∧ f = nI j := vp_in_of (vp_of (n := 10) rfl (by decide) c142 c148) (by decide)
          refine wq_bload_n 152 0 dX2_add_151 rfl rfl rfl ?_
          refine wq_getR 155 fl_X2_22 dX2_add_152 rfl rfl (L_ob ha) (L_rf3 ha) ?_
          refine wq_iload_n 156 2 dX2_add_155 rfl rfl rfl ?_
          refine wq_iald 157 dX2_add_156 rfl (L_ar3 ha) (Ix.self (vp_of (n := 10) rfl (by decide) c142 c148)) ?_
          refine wq_if_ge 160 170 dX2_add_157 rfl (by decide) (fun c157 => ?_) (fun c157 => ?_)
          · skip
            refine wq_bload_n 171 0 dX2_add_170 rfl rfl rfl ?_
            refine wq_dup 172 dX2_add_171 rfl rfl ?_
            refine wq_getI 175 fl_X2_25 dX2_add_172 rfl rfl (L_ob ha) ?_
            refine wq_iconst 176 1 dX2_add_175 rfl (by decide) ?_
            refine wq_iadd 177 dX2_add_176 rfl ?_
            refine wq_putI 180 fl_X2_25 dX2_add_177 rfl rfl rfl rfl rfl (L_ob ha) ?_
            refine wq_iconst 181 1 dX2_add_180 rfl (by decide) ?_
            refine ri .boolean dX2_add_181 rfl rfl ?_
            refine ⟨rfl, rfl, LR_add h hn ?_ ?_ ?_ ?_ (fun j => ?_) (fun j => ?_) (fun j => ?_) (fun q hq => ?_), fun x hx => ?_⟩
            · simp [va_up, z0, hc, nI_1]
            · simp [va_up, z0, c123]
            · simp [va_up, y0]
            · simp [va_up, z0]
            · first | rw [z1] | simp only [va_up_ne _ _ (show a + 1 ≠ a by omega), va_up_ne _ _ (show a + 1 ≠ a + 4 by omega), z1]; simp only [va_up]
              by_cases j0 : j = 4 * n + 3
              · subst j0; simp
              · by_cases j1 : j = 4 * n + 2
                · subst j1; simp
                · by_cases j2 : j = 4 * n + 1
                  · subst j2; simp
                  · simp [j0, j1, j2]
            · rw [y2]; rfl
            · first | rw [z3] | simp only [va_up_ne _ _ (show a + 3 ≠ a by omega), va_up_ne _ _ (show a + 3 ≠ a + 4 by omega), z3]; rfl
            · obtain ⟨fq, hfq, rfl⟩ := fIx
              have c9 : ¬ I (a + 4) fq < 0 := by
                have h9 := c157
                rw [z4, nI_clamp (by omega)] at h9
                exact Int32.not_lt.mpr h9
              rw [if_neg (fun e => by
                have e3 : fq = q := (nI_eq (by omega) (by omega)).mp e.2.1
                subst e3
                exact c9 e.2.2)]
              simp [va_up, z4]
            · obtain ⟨o1, o2⟩ := off x hx
              simp [fL] at hx
              simp [va_up, hx, o1, o2]
          · skip
            refine wq_bload_n 161 0 dX2_add_160 rfl rfl rfl ?_
            refine wq_getR 164 fl_X2_22 dX2_add_161 rfl rfl (L_ob ha) (L_rf3 ha) ?_
            refine wq_iload_n 165 2 dX2_add_164 rfl rfl rfl ?_
            refine wq_bload_n 166 0 dX2_add_165 rfl rfl rfl ?_
            refine wq_getI 169 fl_X2_25 dX2_add_166 rfl rfl (L_ob ha) ?_
            refine wq_iast 170 dX2_add_169 rfl (L_ar3 ha) (Ix.self (vp_of (n := 10) rfl (by decide) c142 c148)) ?_
            refine wq_bload_n 171 0 dX2_add_170 rfl rfl rfl ?_
            refine wq_dup 172 dX2_add_171 rfl rfl ?_
            refine wq_getI 175 fl_X2_25 dX2_add_172 rfl rfl (L_ob ha) ?_
            refine wq_iconst 176 1 dX2_add_175 rfl (by decide) ?_
            refine wq_iadd 177 dX2_add_176 rfl ?_
            refine wq_putI 180 fl_X2_25 dX2_add_177 rfl rfl rfl rfl rfl (L_ob ha) ?_
            refine wq_iconst 181 1 dX2_add_180 rfl (by decide) ?_
            refine ri .boolean dX2_add_181 rfl rfl ?_
            refine ⟨rfl, rfl, LR_add h hn ?_ ?_ ?_ ?_ (fun j => ?_) (fun j => ?_) (fun j => ?_) (fun q hq => ?_), fun x hx => ?_⟩
            · simp [va_up, z0, hc, nI_1]
            · simp [va_up, z0, c123]
            · simp [va_up, y0]
            · simp [va_up, z0]
            · first | rw [z1] | simp only [va_up_ne _ _ (show a + 1 ≠ a by omega), va_up_ne _ _ (show a + 1 ≠ a + 4 by omega), z1]; simp only [va_up]
              by_cases j0 : j = 4 * n + 3
              · subst j0; simp
              · by_cases j1 : j = 4 * n + 2
                · subst j1; simp
                · by_cases j2 : j = 4 * n + 1
                  · subst j2; simp
                  · simp [j0, j1, j2]
            · rw [y2]; rfl
            · first | rw [z3] | simp only [va_up_ne _ _ (show a + 3 ≠ a by omega), va_up_ne _ _ (show a + 3 ≠ a + 4 by omega), z3]; rfl
            · obtain ⟨fq, hfq, rfl⟩ := fIx
              have c9 : I (a + 4) fq < 0 := by
                have h9 := c157
                rw [z4, nI_clamp (by omega)] at h9
                exact Int32.not_le.mp h9
              rw [nI_clamp (show fq < 2 ^ 31 by omega)]
              by_cases e : q = fq
              · subst e
                rw [if_pos ⟨c138, rfl, c9⟩]
                simp [va_up, z0, hc]
              · rw [if_neg (fun z => e ((nI_eq (by omega) (by omega)).mp z.2.1).symm)]
                simp [va_up, z4, e]
            · obtain ⟨o1, o2⟩ := off x hx
              simp [fL] at hx
              simp [va_up, hx, o1, o2]
  · skip
    refine wq_bload_n 127 0 dX2_add_126 rfl rfl rfl ?_
    refine wq_dup 128 dX2_add_127 rfl rfl ?_
    refine wq_getI 131 fl_X2_29 dX2_add_128 rfl rfl (L_ob ha) ?_
    refine wq_iconst 132 1 dX2_add_131 rfl (by decide) ?_
    refine wq_iadd 133 dX2_add_132 rfl ?_
    refine wq_putI 136 fl_X2_29 dX2_add_133 rfl rfl rfl rfl rfl (L_ob ha) ?_
    refine wq_iload_n 137 1 dX2_add_136 rfl rfl rfl ?_
    refine wq_iconst 138 5 dX2_add_137 rfl (by decide) ?_
    refine wq_ic_ne 141 170 dX2_add_138 rfl (by decide) (fun c138 => ?_) (fun c138 => ?_)
    · skip
      refine wq_bload_n 171 0 dX2_add_170 rfl rfl rfl ?_
      refine wq_dup 172 dX2_add_171 rfl rfl ?_
      refine wq_getI 175 fl_X2_25 dX2_add_172 rfl rfl (L_ob ha) ?_
      refine wq_iconst 176 1 dX2_add_175 rfl (by decide) ?_
      refine wq_iadd 177 dX2_add_176 rfl ?_
      refine wq_putI 180 fl_X2_25 dX2_add_177 rfl rfl rfl rfl rfl (L_ob ha) ?_
      refine wq_iconst 181 1 dX2_add_180 rfl (by decide) ?_
      refine ri .boolean dX2_add_181 rfl rfl ?_
      refine ⟨rfl, rfl, LR_add h hn ?_ ?_ ?_ ?_ (fun j => ?_) (fun j => ?_) (fun j => ?_) (fun q hq => ?_), fun x hx => ?_⟩
      · simp [va_up, z0, hc, nI_1]
      · simp [va_up, z0, c123]
      · simp [va_up, y0]
      · simp [va_up, z0]
      · first | rw [z1] | simp only [va_up_ne _ _ (show a + 1 ≠ a by omega), va_up_ne _ _ (show a + 1 ≠ a + 4 by omega), z1]; simp only [va_up]
        by_cases j0 : j = 4 * n + 3
        · subst j0; simp
        · by_cases j1 : j = 4 * n + 2
          · subst j1; simp
          · by_cases j2 : j = 4 * n + 1
            · subst j2; simp
            · simp [j0, j1, j2]
      · rw [y2]; rfl
      · first | rw [z3] | simp only [va_up_ne _ _ (show a + 3 ≠ a by omega), va_up_ne _ _ (show a + 3 ≠ a + 4 by omega), z3]; rfl
      · simp [va_up, z4, c138]
      · obtain ⟨o1, o2⟩ := off x hx
        simp [fL] at hx
        simp [va_up, hx, o1, o2]
    · skip
      refine wq_iload_n 142 2 dX2_add_141 rfl rfl rfl ?_
      refine wq_if_lt 145 170 dX2_add_142 rfl (by decide) (fun c142 => ?_) (fun c142 => ?_)
      · skip
        refine wq_bload_n 171 0 dX2_add_170 rfl rfl rfl ?_
        refine wq_dup 172 dX2_add_171 rfl rfl ?_
        refine wq_getI 175 fl_X2_25 dX2_add_172 rfl rfl (L_ob ha) ?_
        refine wq_iconst 176 1 dX2_add_175 rfl (by decide) ?_
        refine wq_iadd 177 dX2_add_176 rfl ?_
        refine wq_putI 180 fl_X2_25 dX2_add_177 rfl rfl rfl rfl rfl (L_ob ha) ?_
        refine wq_iconst 181 1 dX2_add_180 rfl (by decide) ?_
        refine ri .boolean dX2_add_181 rfl rfl ?_
        exact absurd (c123.symm.trans c138) (by decide)
      · skip
        refine wq_iload_n 146 2 dX2_add_145 rfl rfl rfl ?_
        refine wq_bipush 148 10 dX2_add_146 rfl (by decide) ?_
        refine wq_ic_ge 151 170 dX2_add_148 rfl (by decide) (fun c148 => ?_) (fun c148 => ?_)
        · skip
          refine wq_bload_n 171 0 dX2_add_170 rfl rfl rfl ?_
          refine wq_dup 172 dX2_add_171 rfl rfl ?_
          refine wq_getI 175 fl_X2_25 dX2_add_172 rfl rfl (L_ob ha) ?_
          refine wq_iconst 176 1 dX2_add_175 rfl (by decide) ?_
          refine wq_iadd 177 dX2_add_176 rfl ?_
          refine wq_putI 180 fl_X2_25 dX2_add_177 rfl rfl rfl rfl rfl (L_ob ha) ?_
          refine wq_iconst 181 1 dX2_add_180 rfl (by decide) ?_
          refine ri .boolean dX2_add_181 rfl rfl ?_
          exact absurd (c123.symm.trans c138) (by decide)
        · skip
          have fIx : ∃ j, j < 10 ∧ f = nI j := vp_in_of (vp_of (n := 10) rfl (by decide) c142 c148) (by decide)
          refine wq_bload_n 152 0 dX2_add_151 rfl rfl rfl ?_
          refine wq_getR 155 fl_X2_22 dX2_add_152 rfl rfl (L_ob ha) (L_rf3 ha) ?_
          refine wq_iload_n 156 2 dX2_add_155 rfl rfl rfl ?_
          refine wq_iald 157 dX2_add_156 rfl (L_ar3 ha) (Ix.self (vp_of (n := 10) rfl (by decide) c142 c148)) ?_
          refine wq_if_ge 160 170 dX2_add_157 rfl (by decide) (fun c157 => ?_) (fun c157 => ?_)
          · skip
            refine wq_bload_n 171 0 dX2_add_170 rfl rfl rfl ?_
            refine wq_dup 172 dX2_add_171 rfl rfl ?_
            refine wq_getI 175 fl_X2_25 dX2_add_172 rfl rfl (L_ob ha) ?_
            refine wq_iconst 176 1 dX2_add_175 rfl (by decide) ?_
            refine wq_iadd 177 dX2_add_176 rfl ?_
            refine wq_putI 180 fl_X2_25 dX2_add_177 rfl rfl rfl rfl rfl (L_ob ha) ?_
            refine wq_iconst 181 1 dX2_add_180 rfl (by decide) ?_
            refine ri .boolean dX2_add_181 rfl rfl ?_
            exact absurd (c123.symm.trans c138) (by decide)
          · skip
            refine wq_bload_n 161 0 dX2_add_160 rfl rfl rfl ?_
            refine wq_getR 164 fl_X2_22 dX2_add_161 rfl rfl (L_ob ha) (L_rf3 ha) ?_
            refine wq_iload_n 165 2 dX2_add_164 rfl rfl rfl ?_
            refine wq_bload_n 166 0 dX2_add_165 rfl rfl rfl ?_
            refine wq_getI 169 fl_X2_25 dX2_add_166 rfl rfl (L_ob ha) ?_
            refine wq_iast 170 dX2_add_169 rfl (L_ar3 ha) (Ix.self (vp_of (n := 10) rfl (by decide) c142 c148)) ?_
            refine wq_bload_n 171 0 dX2_add_170 rfl rfl rfl ?_
            refine wq_dup 172 dX2_add_171 rfl rfl ?_
            refine wq_getI 175 fl_X2_25 dX2_add_172 rfl rfl (L_ob ha) ?_
            refine wq_iconst 176 1 dX2_add_175 rfl (by decide) ?_
            refine wq_iadd 177 dX2_add_176 rfl ?_
            refine wq_putI 180 fl_X2_25 dX2_add_177 rfl rfl rfl rfl rfl (L_ob ha) ?_
            refine wq_iconst 181 1 dX2_add_180 rfl (by decide) ?_
            refine ri .boolean dX2_add_181 rfl rfl ?_
            exact absurd (c123.symm.trans c138) (by decide)
