/-! A PAD WITHOUT A FAULT, and what the reference makes of it -/
theorem nI_ne6 {n : Nat} (h : n < 2 ^ 31) : ¬ nI n = -6 := fun e => by
  have := nI_pos' h
  rw [e] at this
  exact absurd this (by decide)
theorem nf_in {sg : Nat → Nat} {c e m : Nat} (hm : m < 7) (hc : c ≤ 60) : ∀ r w, w + r = lnN (nI m) + 1 → 1 ≤ w → e + w ≤ c → fpl sg c (c - (e + w)) (e + w) (nI m) (if w ≤ lnN (nI m) then w else 0) = -6 →
    e + 1 + lnN (nI m) ≤ c ∧ (∀ x, w ≤ x → x ≤ lnN (nI m) → ¬ mng (nI (sg (e + x))) (shp (nI m) (nI x)) < 0) ∧ fpl sg c (c - (e + 1 + lnN (nI m))) (e + 1 + lnN (nI m)) (nI m) 0 = -6 := by
  have hl := lnN_le (nI m)
  intro r
  induction r with
  | zero =>
    intro w hw w1 hec hp
    rw [if_neg (by omega)] at hp
    have e1 : e + w = e + 1 + lnN (nI m) := by omega
    rw [e1] at hp hec
    exact ⟨hec, fun x h1 h2 => absurd h2 (by omega), hp⟩
  | succ r ih =>
    intro w hw w1 hec hp
    rw [if_pos (show w ≤ lnN (nI m) by omega)] at hp
    by_cases hx : e + w = c
    · exfalso
      rw [show c - (e + w) = 0 by omega, fpl, if_neg (by omega)] at hp
      exact nI_ne6 (by omega) hp
    · rw [show c - (e + w) = (c - (e + w) - 1) + 1 by omega, fpl, if_neg (show ¬ w = 0 by omega)] at hp
      by_cases hg : mng (nI (sg (e + w))) (shp (nI m) (nI w)) < 0
      · rw [if_pos hg] at hp
        exact absurd hp (nI_ne6 (by omega))
      · rw [if_neg hg] at hp
        have e1 : (if w + 1 ≤ lnN (nI m) then w + 1 else 0) = (if shp (nI m) (nI (w + 1)) = 45 then 0 else w + 1) := by
          have hb := kd_b' hm (w := w + 1) (by omega) (by omega)
          by_cases hx : shp (nI m) (nI (w + 1)) = 45
          · rw [if_pos hx, if_neg (fun z => hb.mp z hx)]
          · rw [if_neg hx, if_pos (hb.mpr hx)]
        rw [← e1, show c - (e + w) - 1 = c - (e + (w + 1)) by omega, show e + w + 1 = e + (w + 1) by omega] at hp
        obtain ⟨g1, g2, g3⟩ := ih (w + 1) (by omega) (by omega) (by omega) hp
        refine ⟨g1, fun x h1 h2 => ?_, g3⟩
        by_cases hxw : x = w
        · subst hxw; exact hg
        · exact g2 x (by omega) h2
theorem nf_step {sg : Nat → Nat} {c e : Nat} {k : Int32} (hc : c ≤ 60) (he : e < c) (hs : sg e < 128) (hp : fpl sg c (c - e) e k 0 = -6) : ∃ m, m < 7 ∧ kopn (sg e) = nI m ∧ e + 1 + lnN (nI m) ≤ c ∧ (∀ x, 1 ≤ x → x ≤ lnN (nI m) → ¬ mng (nI (sg (e + x))) (shp (nI m) (nI x)) < 0) ∧ fpl sg c (c - (e + 1 + lnN (nI m))) (e + 1 + lnN (nI m)) k 0 = -6 := by
  rw [show c - e = (c - e - 1) + 1 by omega, fpl, if_pos rfl] at hp
  by_cases hk : kopn (sg e) < 0
  · rw [if_pos hk] at hp
    exact absurd hp (nI_ne6 (by omega))
  · obtain ⟨m, hm, em⟩ := (kop_cases (sg e) hs).resolve_left hk
    rw [if_neg hk, em] at hp
    have hln := (kd_a m hm).2
    have hb := kd_b' hm (w := 1) (by omega) (by omega)
    rw [if_neg (hb.mp hln)] at hp
    obtain ⟨g1, g2, g3⟩ := nf_in (e := e) hm hc (lnN (nI m)) 1 (by omega) (by omega) (by omega) (by rw [if_pos hln, show c - (e + 1) = c - e - 1 by omega]; exact hp)
    exact ⟨m, hm, em, g1, g2, by rw [fpl_k _ _ _ _ k (nI m)]; exact g3⟩
/-- no fault: every instruction is whole -/
theorem nf_pos {sg : Nat → Nat} {c : Nat} (hc : c ≤ 60) (hs : ∀ j, j < c → sg j < 128) (hf : fltX sg c = -6) : ∀ j, (∀ i, i < j → pos sg i < c) → pos sg j ≤ c ∧ fpl sg c (c - pos sg j) (pos sg j) (-6) 0 = -6
  | 0, _ => ⟨Nat.zero_le _, hf⟩
  | j + 1, h => by
    obtain ⟨h1, h2⟩ := nf_pos hc hs hf j (fun i hi => h i (by omega))
    have hlt := h j (by omega)
    obtain ⟨m, hm, em, g1, g2, g3⟩ := nf_step hc hlt (hs _ hlt) h2
    rw [pos, em]
    exact ⟨g1, g3⟩
theorem nf_row {sg : Nat → Nat} {c : Nat} (hc : c ≤ 60) (hs : ∀ j, j < c → sg j < 128) (hf : fltX sg c = -6) {j : Nat} (hj : ∀ i, i < j + 1 → pos sg i < c) : ∃ m, m < 7 ∧ kopn (sg (pos sg j)) = nI m ∧ pos sg j + 1 + lnN (nI m) ≤ c ∧ (∀ x, 1 ≤ x → x ≤ lnN (nI m) → ¬ mng (nI (sg (pos sg j + x))) (shp (nI m) (nI x)) < 0) := by
  obtain ⟨h1, h2⟩ := nf_pos hc hs hf j (fun i hi => hj i (by omega))
  have hlt := hj j (by omega)
  obtain ⟨m, hm, em, g1, g2, g3⟩ := nf_step hc hlt (hs _ hlt) h2
  exact ⟨m, hm, em, g1, g2⟩
theorem mng_fig {s : Int32} (h : ¬ mng s 48 < 0) : mng s 48 = s - 48 := by
  unfold mng at *
  rw [if_neg (fun h => h rfl)] at *
  by_cases c1 : s < 48
  · rw [if_pos c1] at h; exact absurd (by decide) h
  · rw [if_neg c1] at *
    by_cases c2 : 57 < s
    · rw [if_pos c2] at h; exact absurd (by decide) h
    · rw [if_neg c2]
set_option maxRecDepth 20000 in
theorem sp_X8_numberAt {g : Gl} {D : Nat} {b : Bool} {I : IM} {L : LM} {c e m : Nat} {sg : Nat → Nat} (hD : 2 ≤ D) (h : PdM I c sg) (hm : m < 7) (hec : e + 1 + lnN (nI m) ≤ c) (hg : ∀ x, 1 ≤ x → x ≤ lnN (nI m) → ¬ mng (nI (sg (e + x))) (shp (nI m) (nI x)) < 0) {i : Int32} (w : Nat) (hi : i = nI w) (w1 : 1 ≤ w) (hw : w < 4) : Md g D MX8_numberAt [rf g 71, .int (nI e), .int (nI m), .int i] b I L (some (.int (ptO sg c (nI m) w e))) b I L := by
  subst hi
  obtain ⟨h1, h2, h3, h4⟩ := h
  have hl := lnN_le (nI m)
  have hk := (kd_a m hm).1
  have hb := kd_b' hm (w := w) (by omega) w1
  refine Me.of [some (rf g 71), some (.int (nI e)), some (.int (nI m)), some (.int (nI w))] 0 rfl pf_X8_numberAt (Nat.le_of_ble_eq_true rfl) ?_
  refine wq_iload_n 1 3 dX8_numberAt_0 rfl rfl rfl ?_
  refine wq_iload_n 2 2 dX8_numberAt_1 rfl rfl rfl ?_
  refine cSi1 5 (sp_X8_length _) ml_X8_127 mf_X8_length dX8_numberAt_2 rfl (Nat.le_of_ble_eq_true rfl) (by omega) ?_
  refine wq_ic_le 8 13 dX8_numberAt_5 rfl (by decide) (fun c5 => ?_) (fun c5 => ?_)
  · skip
    have hwl : w ≤ lnN (nI m) := by
      rw [hk] at c5
      exact (nI_leI (by omega) (by omega)).mp c5
    have hcw := kd_c' hm hwl w1
    have hgw := hg w w1 hwl
    refine wq_iload_n 14 2 dX8_numberAt_13 rfl rfl rfl ?_
    refine wq_iload_n 15 3 dX8_numberAt_14 rfl rfl rfl ?_
    refine cSi2 18 (sp_X8_wantsFigure _ _) ml_X8_130 mf_X8_wantsFigure dX8_numberAt_15 rfl (Nat.le_of_ble_eq_true rfl) (by omega) ?_
    refine wq_if_eq 21 35 dX8_numberAt_18 rfl (by decide) (fun c18 => ?_) (fun c18 => ?_)
    · skip
      refine wq_bload_n 36 0 dX8_numberAt_35 rfl rfl rfl ?_
      refine wq_getR 39 fl_X8_26 dX8_numberAt_36 rfl rfl o_71 (rfl : (Tb _).2.2.2 71 8 = some 76) ?_
      refine wq_iload_n 40 1 dX8_numberAt_39 rfl rfl rfl ?_
      refine wq_iload_n 41 3 dX8_numberAt_40 rfl rfl rfl ?_
      refine wq_iadd 42 dX8_numberAt_41 rfl ?_
      rw [nI_add]
      refine wq_iald 43 dX8_numberAt_42 rfl a_76 (Ix.nI (by omega) (by decide)) ?_
      rw [h3 (e + w) (by omega)]
      refine cSi1 46 (sp_X8_nameOf (by omega) _) ml_X8_134 mf_X8_nameOf dX8_numberAt_43 rfl (Nat.le_of_ble_eq_true rfl) (by omega) ?_
      refine ri .int dX8_numberAt_46 rfl rfl ?_
      refine ⟨?_, rfl, rfl, rfl⟩
      rw [ptO, if_neg (by omega), mng, if_pos (hcw.mp c18), if_pos (hb.mp hwl)]
    · skip
      refine wq_bload_n 22 0 dX8_numberAt_21 rfl rfl rfl ?_
      refine wq_getR 25 fl_X8_26 dX8_numberAt_22 rfl rfl o_71 (rfl : (Tb _).2.2.2 71 8 = some 76) ?_
      refine wq_iload_n 26 1 dX8_numberAt_25 rfl rfl rfl ?_
      refine wq_iload_n 27 3 dX8_numberAt_26 rfl rfl rfl ?_
      refine wq_iadd 28 dX8_numberAt_27 rfl ?_
      rw [nI_add]
      refine wq_iald 29 dX8_numberAt_28 rfl a_76 (Ix.nI (by omega) (by decide)) ?_
      rw [h3 (e + w) (by omega)]
      refine wq_bipush 31 48 dX8_numberAt_29 rfl (by decide) ?_
      refine wq_isub 32 dX8_numberAt_31 rfl ?_
      refine wq_goto 46 dX8_numberAt_32 (by decide) ?_
      refine ri .int dX8_numberAt_46 rfl rfl ?_
      refine ⟨?_, rfl, rfl, rfl⟩
      have hs : shp (nI m) (nI w) = 48 := Classical.byContradiction (fun z => c18 (hcw.mpr z))
      rw [hs] at hgw
      rw [ptO, if_neg (by omega), hs, mng_fig hgw]
  · skip
    refine wq_bipush 10 (-6) dX8_numberAt_8 rfl (by decide) ?_
    refine wq_goto 46 dX8_numberAt_10 (by decide) ?_
    refine ri .int dX8_numberAt_46 rfl rfl ?_
    refine ⟨?_, rfl, rfl, rfl⟩
    have hn : ¬ w ≤ lnN (nI m) := fun z => c5 (by rw [hk]; exact nI_le z (by omega))
    have hs : shp (nI m) (nI w) = 45 := Classical.byContradiction (fun z => hn (hb.mpr z))
    unfold ptO
    rw [hs]
    by_cases hx : c ≤ e + w
    · rw [if_pos hx]
    · rw [if_neg hx, mng, if_pos (by decide), if_neg (fun z => z rfl)]
/-- the program, as the reference holds it -/
def MR (I : IM) (n : Nat) (p : Pg) : Prop := n ≤ 30 ∧ I 71 6 = nI n ∧ ∀ j, j < n → I 72 j = p j 0 ∧ I 73 j = p j 1 ∧ I 74 j = p j 2 ∧ I 75 j = p j 3
set_option maxRecDepth 20000 in
set_option maxHeartbeats 2000000 in
theorem lp_X8_load {g : Gl} {D : Nat} {b : Bool} {c : Nat} {sg : Nat → Nat} {post : Option Value → Bool → IM → LM → Prop} {L : LM} (hD : 3 ≤ D) {I0 : IM} (h0 : PdM I0 c sg) (hf : fltX sg c = -6)
    (kk : ∀ I' n, c ≤ pos sg n → (∀ j, j < n → pos sg j < c) → MR I' n (pP sg c) → I' 71 = va_up (va_up (I0 71) 6 (nI n)) 7 0 → (∀ x, x ∉ [71, 72, 73, 74, 75] → I' x = I0 x) → post (some (.int (nI n))) b I' L) :
    ∀ r i I, i + r = 31 → (∀ j, j < i → pos sg j < c) → I 71 = va_up (I0 71) 6 (nI i) → (∀ x, x ∉ [71, 72, 73, 74, 75] → I x = I0 x) → (∀ j, j < i → I 72 j = pP sg c j 0 ∧ I 73 j = pP sg c j 1 ∧ I 74 j = pP sg c j 2 ∧ I 75 j = pP sg c j 3) → ∀ k2, Wp (Kn g D MX8_load post) (Tb b) 17 [some (rf g 71), some (.int (nI (pos sg i))), k2] [] I L := by
  obtain ⟨h1, h2, h3, h4⟩ := id h0
  have hs8 : ∀ j, j < c → sg j < 128 := fun j hj => by have := h4 j hj; omega
  intro r
  induction r with
  | zero =>
    intro i I hi hj
    exfalso
    have hl : ∀ j, j < 30 → 1 ≤ lnN (kopn (sg (pos sg j))) := fun j hj' => by
      obtain ⟨m, hm, em, -⟩ := nf_row h1 hs8 hf (j := j) (fun x hx => hj x (by omega))
      rw [em]; exact (kd_a m hm).2
    have g1 := pos_ge sg 30 hl
    have g2 := hj 30 (by omega)
    omega
  | succ r ih =>
    intro i I hi hj e71 hO hR k2
    have hle := (nf_pos h1 hs8 hf i hj).1
    have hl : ∀ j, j < i → 1 ≤ lnN (kopn (sg (pos sg j))) := fun j hj' => by
      obtain ⟨m, hm, em, -⟩ := nf_row h1 hs8 hf (j := j) (fun x hx => hj x (by omega))
      rw [em]; exact (kd_a m hm).2
    have hge := pos_ge sg i hl
    have e7 : I 71 7 = nI c := by rw [e71, va_up_ne _ _ (by decide)]; exact h2
    have e6 : I 71 6 = nI i := by rw [e71, va_up_self]
    have e76 : ∀ j, j < c → I 76 j = nI (sg j) := fun j hj' => by rw [hO 76 (by decide)]; exact h3 j hj'
    have hP : PdM I c sg := ⟨h1, e7, e76, h4⟩
    refine wq_iload_n 18 1 dX8_load_17 rfl rfl rfl ?_
    refine wq_bload_n 19 0 dX8_load_18 rfl rfl rfl ?_
    refine wq_getI 22 fl_X8_120 dX8_load_19 rfl rfl o_71 ?_
    refine wq_ic_ge 25 115 dX8_load_22 rfl (by decide) (fun c22 => ?_) (fun c22 => ?_)
    · skip
      refine wq_bload_n 116 0 dX8_load_115 rfl rfl rfl ?_
      refine wq_iconst 117 0 dX8_load_116 rfl (by decide) ?_
      refine wq_putI 120 fl_X8_120 dX8_load_117 rfl rfl rfl rfl rfl o_71 ?_
      refine wq_bload_n 121 0 dX8_load_120 rfl rfl rfl ?_
      refine wq_getI 124 fl_X8_141 dX8_load_121 rfl rfl o_71 ?_
      refine ri .int dX8_load_124 rfl rfl ?_
      simp only [va_up_self]
      have hx : c ≤ pos sg i := by
        rw [e7] at c22
        exact (nI_leI (by omega) (by omega)).mp c22
      rw [va_up_ne _ _ (show (6 : Nat) ≠ 7 by decide), e6]
      refine kk _ i hx hj ⟨by omega, ?_, fun j hj' => ?_⟩ ?_ (fun x hx => ?_)
      · rw [va_up_self, va_up_ne _ _ (by decide), e6]
      · rw [va_up_ne _ _ (by decide), va_up_ne _ _ (by decide), va_up_ne _ _ (by decide), va_up_ne _ _ (by decide)]
        exact hR j hj'
      · rw [va_up_self, e71]
      · simp at hx
        rw [va_up_ne _ _ hx.1]
        exact hO x (by simp [hx])
    · skip
      have hlt : pos sg i < c := by
        apply Classical.byContradiction
        intro hx
        exact c22 (by rw [e7]; exact nI_le (by omega) (by omega))
      have hs := h4 _ hlt
      obtain ⟨m, hm, em, g1, g2⟩ := nf_row h1 hs8 hf (j := i) (fun x hx => by
        by_cases e : x = i
        · subst e; exact hlt
        · exact hj x (by omega))
      refine wq_bload_n 26 0 dX8_load_25 rfl rfl rfl ?_
      refine wq_getR 29 fl_X8_26 dX8_load_26 rfl rfl o_71 (rfl : (Tb _).2.2.2 71 8 = some 76) ?_
      refine wq_iload_n 30 1 dX8_load_29 rfl rfl rfl ?_
      refine wq_iald 31 dX8_load_30 rfl a_76 (Ix.nI (by omega) (by decide)) ?_
      rw [e76 _ hlt]
      refine cSi1 34 (sp_X8_kindOf (by omega)) ml_X8_123 mf_X8_kindOf dX8_load_31 rfl (Nat.le_of_ble_eq_true rfl) (by omega) ?_
      have hk0 : ¬ kopn (sg (pos sg i)) < 0 := by rw [em]; exact nI_pos (by omega)
      rw [kopM_of hk0, em]
      refine wq_istore_n 35 2 [_, _, _] dX8_load_34 rfl rfl rfl (Nat.le_of_ble_eq_true rfl) rfl ?_
      refine wq_bload_n 36 0 dX8_load_35 rfl rfl rfl ?_
      refine wq_getR 39 fl_X8_13 dX8_load_36 rfl rfl o_71 (rfl : (Tb _).2.2.2 71 2 = some 72) ?_
      refine wq_bload_n 40 0 dX8_load_39 rfl rfl rfl ?_
      refine wq_getI 43 fl_X8_141 dX8_load_40 rfl rfl o_71 ?_
      rw [e6]
      refine wq_iload_n 44 2 dX8_load_43 rfl rfl rfl ?_
      refine wq_iast 45 dX8_load_44 rfl a_72 (Ix.nI (by omega) (by decide)) ?_
      refine wq_gen (fun I1 L1 eI1 eL1 => ?_)
      subst eL1
      have f6 : I1 71 6 = nI i := by rw [eI1, va_up_ne _ _ (by decide)]; exact e6
      have P1 : PdM I1 c sg := ⟨h1, by rw [eI1, va_up_ne _ _ (by decide)]; exact e7, fun j hj' => by rw [eI1, va_up_ne _ _ (by decide)]; exact e76 j hj', h4⟩
      refine wq_bload_n 46 0 dX8_load_45 rfl rfl rfl ?_
      refine wq_getR 49 fl_X8_17 dX8_load_46 rfl rfl o_71 (rfl : (Tb _).2.2.2 71 3 = some 73) ?_
      refine wq_bload_n 50 0 dX8_load_49 rfl rfl rfl ?_
      refine wq_getI 53 fl_X8_141 dX8_load_50 rfl rfl o_71 ?_
      rw [f6]
      refine wq_bload_n 54 0 dX8_load_53 rfl rfl rfl ?_
      refine wq_iload_n 55 1 dX8_load_54 rfl rfl rfl ?_
      refine wq_iload_n 56 2 dX8_load_55 rfl rfl rfl ?_
      refine wq_iconst 57 1 dX8_load_56 rfl (by decide) ?_
      refine cVi3 60 (sp_X8_numberAt (by omega) P1 hm g1 g2 1 rfl (by omega) (by omega)) ml_X8_144 mf_X8_numberAt dX8_load_57 rfl o_71 (by decide) rfl (Nat.le_of_ble_eq_true rfl) (by omega) ?_
      refine wq_iast 61 dX8_load_60 rfl a_73 (Ix.nI (by omega) (by decide)) ?_
      refine wq_gen (fun I2 L2 eI2 eL2 => ?_)
      subst eL2
      have s6 : I2 71 6 = nI i := by rw [eI2, va_up_ne _ _ (by decide)]; exact f6
      have P2 : PdM I2 c sg := ⟨h1, by rw [eI2, va_up_ne _ _ (by decide)]; exact P1.2.1, fun j hj' => by rw [eI2, va_up_ne _ _ (by decide)]; exact P1.2.2.1 j hj', h4⟩
      refine wq_bload_n 62 0 dX8_load_61 rfl rfl rfl ?_
      refine wq_getR 65 fl_X8_20 dX8_load_62 rfl rfl o_71 (rfl : (Tb _).2.2.2 71 4 = some 74) ?_
      refine wq_bload_n 66 0 dX8_load_65 rfl rfl rfl ?_
      refine wq_getI 69 fl_X8_141 dX8_load_66 rfl rfl o_71 ?_
      rw [s6]
      refine wq_bload_n 70 0 dX8_load_69 rfl rfl rfl ?_
      refine wq_iload_n 71 1 dX8_load_70 rfl rfl rfl ?_
      refine wq_iload_n 72 2 dX8_load_71 rfl rfl rfl ?_
      refine wq_iconst 73 2 dX8_load_72 rfl (by decide) ?_
      refine cVi3 76 (sp_X8_numberAt (by omega) P2 hm g1 g2 2 rfl (by omega) (by omega)) ml_X8_144 mf_X8_numberAt dX8_load_73 rfl o_71 (by decide) rfl (Nat.le_of_ble_eq_true rfl) (by omega) ?_
      refine wq_iast 77 dX8_load_76 rfl a_74 (Ix.nI (by omega) (by decide)) ?_
      refine wq_gen (fun I3 L3 eI3 eL3 => ?_)
      subst eL3
      have t6 : I3 71 6 = nI i := by rw [eI3, va_up_ne _ _ (by decide)]; exact s6
      have P3 : PdM I3 c sg := ⟨h1, by rw [eI3, va_up_ne _ _ (by decide)]; exact P2.2.1, fun j hj' => by rw [eI3, va_up_ne _ _ (by decide)]; exact P2.2.2.1 j hj', h4⟩
      refine wq_bload_n 78 0 dX8_load_77 rfl rfl rfl ?_
      refine wq_getR 81 fl_X8_23 dX8_load_78 rfl rfl o_71 (rfl : (Tb _).2.2.2 71 5 = some 75) ?_
      refine wq_bload_n 82 0 dX8_load_81 rfl rfl rfl ?_
      refine wq_getI 85 fl_X8_141 dX8_load_82 rfl rfl o_71 ?_
      rw [t6]
      refine wq_bload_n 86 0 dX8_load_85 rfl rfl rfl ?_
      refine wq_iload_n 87 1 dX8_load_86 rfl rfl rfl ?_
      refine wq_iload_n 88 2 dX8_load_87 rfl rfl rfl ?_
      refine wq_iconst 89 3 dX8_load_88 rfl (by decide) ?_
      refine cVi3 92 (sp_X8_numberAt (by omega) P3 hm g1 g2 3 rfl (by omega) (by omega)) ml_X8_144 mf_X8_numberAt dX8_load_89 rfl o_71 (by decide) rfl (Nat.le_of_ble_eq_true rfl) (by omega) ?_
      refine wq_iast 93 dX8_load_92 rfl a_75 (Ix.nI (by omega) (by decide)) ?_
      refine wq_gen (fun I4 L4 eI4 eL4 => ?_)
      subst eL4
      have u6 : I4 71 6 = nI i := by rw [eI4, va_up_ne _ _ (by decide)]; exact t6
      refine wq_bload_n 94 0 dX8_load_93 rfl rfl rfl ?_
      refine wq_dup 95 dX8_load_94 rfl rfl ?_
      refine wq_getI 98 fl_X8_141 dX8_load_95 rfl rfl o_71 ?_
      refine wq_iconst 99 1 dX8_load_98 rfl (by decide) ?_
      refine wq_iadd 100 dX8_load_99 rfl ?_
      rw [u6, nI_1]
      refine wq_putI 103 fl_X8_141 dX8_load_100 rfl rfl rfl rfl rfl o_71 ?_
      refine wq_iload_n 104 1 dX8_load_103 rfl rfl rfl ?_
      refine wq_iconst 105 1 dX8_load_104 rfl (by decide) ?_
      refine wq_iload_n 106 2 dX8_load_105 rfl rfl rfl ?_
      refine cSi1 109 (sp_X8_length _) ml_X8_127 mf_X8_length dX8_load_106 rfl (Nat.le_of_ble_eq_true rfl) (by omega) ?_
      rw [(kd_a m hm).1]
      refine wq_iadd 110 dX8_load_109 rfl ?_
      rw [show (1 : Int32) = nI 1 from rfl, nI_add]
      refine wq_iadd 111 dX8_load_110 rfl ?_
      rw [nI_add]
      refine wq_istore_n 112 1 [_, _, _] dX8_load_111 rfl rfl rfl (Nat.le_of_ble_eq_true rfl) rfl ?_
      refine wq_goto 17 dX8_load_112 (by decide) ?_
      have ep : pos sg (i + 1) = pos sg i + (1 + lnN (nI m)) := by rw [pos, em]; omega
      rw [← ep]
      refine ih (i + 1) _ (by omega) (fun j hj' => ?_) ?_ (fun x hx => ?_) (fun j hj' => ?_) _
      · by_cases e : j = i
        · subst e; exact hlt
        · exact hj j (by omega)
      · rw [va_up_self, eI4, va_up_ne _ _ (by decide), eI3, va_up_ne _ _ (by decide), eI2, va_up_ne _ _ (by decide), eI1, va_up_ne _ _ (by decide), e71, va_up_up]
      · have hx2 := hx
        simp at hx2
        rw [va_up_ne _ _ hx2.1, eI4, va_up_ne _ _ hx2.2.2.2.2, eI3, va_up_ne _ _ hx2.2.2.2.1, eI2, va_up_ne _ _ hx2.2.2.1, eI1, va_up_ne _ _ hx2.2.1]
        exact hO x hx
      · have q2 : (va_up I4 71 (va_up (I4 71) 6 (nI (i + 1)))) 72 = va_up (I 72) i (nI m) := by
          rw [va_up_ne _ _ (by decide), eI4, va_up_ne _ _ (by decide), eI3, va_up_ne _ _ (by decide), eI2, va_up_ne _ _ (by decide), eI1, va_up_self]
        have q3 : (va_up I4 71 (va_up (I4 71) 6 (nI (i + 1)))) 73 = va_up (I 73) i (ptO sg c (nI m) 1 (pos sg i)) := by
          rw [va_up_ne _ _ (by decide), eI4, va_up_ne _ _ (by decide), eI3, va_up_ne _ _ (by decide), eI2, va_up_self, eI1, va_up_ne _ _ (by decide)]
        have q4 : (va_up I4 71 (va_up (I4 71) 6 (nI (i + 1)))) 74 = va_up (I 74) i (ptO sg c (nI m) 2 (pos sg i)) := by
          rw [va_up_ne _ _ (by decide), eI4, va_up_ne _ _ (by decide), eI3, va_up_self, eI2, va_up_ne _ _ (by decide), eI1, va_up_ne _ _ (by decide)]
        have q5 : (va_up I4 71 (va_up (I4 71) 6 (nI (i + 1)))) 75 = va_up (I 75) i (ptO sg c (nI m) 3 (pos sg i)) := by
          rw [va_up_ne _ _ (by decide), eI4, va_up_self, eI3, va_up_ne _ _ (by decide), eI2, va_up_ne _ _ (by decide), eI1, va_up_ne _ _ (by decide)]
        rw [q2, q3, q4, q5]
        by_cases e : j = i
        · subst e
          simp [va_up, pP, em]
        · simp only [va_up_ne _ _ e]
          exact hR j (by omega)
