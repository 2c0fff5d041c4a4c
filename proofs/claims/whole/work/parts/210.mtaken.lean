/-! the reference's round: take -/
theorem and_noB {s : Int64} {x : Nat} (hx : x < 64) (h : tb s x = false) : s &&& noB x = s := by
  apply tb_ext
  intro j hj
  rw [tb_noB _ hx]
  by_cases e : j = x
  · rw [e, h]; rfl
  · rw [decide_eq_true e, Bool.and_true]
theorem and_assoc64 (a b c : Int64) : a &&& (b &&& c) = (a &&& b) &&& c := by
  apply tb_ext
  intro j _
  rw [tb_and, tb_and, tb_and, tb_and, Bool.and_assoc]
set_option maxRecDepth 20000 in
set_option maxHeartbeats 2000000 in
theorem sp_X8_take {g : Gl} {D : Nat} {b : Bool} {I : IM} {L : LM} {k w mv t : Nat} {f1 f2 : Nat → Nat} {tl : Bool} {A : RA} (hD : 1 ≤ D) (h : RMx I L k w mv f1 f2 tl A) (hg : GA mv t f1 f2 A) {i : Int32} (x : Nat) (hi : i = nI x) (hx : x < 64) (hxl : tb (aL A) x = true) (hK : aK A < 64) : Me g D MX8_take [rf g 71, .int i] b I L (fun r b' I' L' => r = none ∧ b' = b ∧ RMx I' L' k w mv f1 f2 tl (takeA A x) ∧ (∀ z, z ≠ 71 → z ≠ 92 → I' z = I z) ∧ (∀ z, z ≠ 30 → I' 71 z = I 71 z) ∧ (∀ z, z ≠ 71 → z ≠ 93 → L' z = L z) ∧ ∀ z, z ≠ 24 → L' 71 z = L 71 z) := by
  subst hi
  obtain ⟨h1, h2, h3, h4, h5, h6, h7, h8, h9, h10, h11, h12, h13⟩ := h
  refine Me.of [some (rf g 71), some (.int (nI x))] 0 rfl pf_X8_take (Nat.le_of_ble_eq_true rfl) ?_
  refine wq_bload_n 1 0 dX8_take_0 rfl rfl rfl ?_
  refine wq_getR 4 fl_X8_76 dX8_take_1 rfl rfl o_71 (rfl : (Tb _).2.2.2 71 28 = some 92) ?_
  refine wq_bload_n 5 0 dX8_take_4 rfl rfl rfl ?_
  refine wq_getI 8 fl_X8_230 dX8_take_5 rfl rfl o_71 ?_
  refine wq_iload_n 9 1 dX8_take_8 rfl rfl rfl ?_
  refine wq_iast 10 dX8_take_9 rfl a_92 (by rw [h7]; exact Ix.nI (by omega) (by decide)) ?_
  refine wq_bload_n 11 0 dX8_take_10 rfl rfl rfl ?_
  refine wq_getR 14 fl_X8_79 dX8_take_11 rfl rfl o_71 (rfl : (Tb _).2.2.2 71 29 = some 93) ?_
  refine wq_bload_n 15 0 dX8_take_14 rfl rfl rfl ?_
  refine wq_getI 18 fl_X8_230 dX8_take_15 rfl rfl o_71 ?_
  refine wq_bload_n 19 0 dX8_take_18 rfl rfl rfl ?_
  refine wq_iload_n 20 1 dX8_take_19 rfl rfl rfl ?_
  refine cVl1 23 (sp_X8_near x rfl hx) ml_X8_215 mf_X8_near dX8_take_20 rfl o_71 (by decide) rfl (Nat.le_of_ble_eq_true rfl) (by omega) ?_
  refine wq_last 24 dX8_take_23 rfl a_93 (by rw [va_up_ne _ _ (by decide), h7]; exact Ix.nI (by omega) (by decide)) ?_
  refine wq_bload_n 25 0 dX8_take_24 rfl rfl rfl ?_
  refine wq_dup 26 dX8_take_25 rfl rfl ?_
  refine wq_getI 29 fl_X8_230 dX8_take_26 rfl rfl o_71 ?_
  refine wq_iconst 30 1 dX8_take_29 rfl (by decide) ?_
  refine wq_iadd 31 dX8_take_30 rfl ?_
  refine wq_putI 34 fl_X8_230 dX8_take_31 rfl rfl rfl rfl rfl o_71 ?_
  refine wq_bload_n 35 0 dX8_take_34 rfl rfl rfl ?_
  refine wq_dup 36 dX8_take_35 rfl rfl ?_
  refine wq_getL 39 fl_X8_211 dX8_take_36 rfl rfl o_71 ?_
  refine wq_lconst 40 1 dX8_take_39 rfl (by decide) ?_
  refine wq_iload_n 41 1 dX8_take_40 rfl rfl rfl ?_
  refine wq_lshl 42 dX8_take_41 rfl ?_
  refine wq_ldc2 45 (-1) dX8_take_42 rfl kc_X8_162 ?_
  refine wq_lxor 46 dX8_take_45 rfl ?_
  refine wq_land 47 dX8_take_46 rfl ?_
  refine wq_putL 50 fl_X8_211 dX8_take_47 rfl rfl rfl rfl rfl o_71 ?_
  refine wq_gen (fun I1 L1 eI1 eL1 => ?_)
  refine rr dX8_take_50 rfl ?_
  have i71 : I1 71 = va_up (I 71) 30 (nI (aK A + 1)) := by rw [eI1, va_up_self, va_up_ne _ _ (show 71 ≠ 92 by decide), h7, nI_succ]
  have i92 : I1 92 = va_up (I 92) (aK A) (nI x) := by rw [eI1, va_up_ne _ _ (by decide), va_up_self]
  have ix : ∀ z, z ≠ 71 → z ≠ 92 → I1 z = I z := fun z z1 z2 => by rw [eI1, va_up_ne _ _ z1, va_up_ne _ _ z2]
  have l71 : L1 71 = va_up (L 71) 24 (aL A &&& noB x) := by rw [eL1, va_up_self, va_up_ne _ _ (show 71 ≠ 93 by decide), h2]; rfl
  have l93 : L1 93 = va_up (L 93) (aK A) (aN A x) := by rw [eL1, va_up_ne _ _ (by decide), va_up_self, h2, h1 x hx hxl]
  have lx : ∀ z, z ≠ 71 → z ≠ 93 → L1 z = L z := fun z z1 z2 => by rw [eL1, va_up_ne _ _ z1, va_up_ne _ _ z2]
  clear eI1 eL1
  have eT : aT (takeA A x) = va_up (aT A) (aK A) x := rfl
  refine ⟨rfl, rfl, ⟨fun u hu hl => ?_, ?_, fun n hn => ?_, fun n hn n4 hl => ?_, fun m hm => ?_, fun i hi => ?_, ?_, ?_, fun m hm => ?_, ?_, ?_, fun ht => ?_, fun ht => ?_⟩, ix, fun z hz => by rw [i71, va_up_ne _ _ hz], lx, fun z hz => by rw [l71, va_up_ne _ _ hz]⟩
  · have hl' : tb (aL A &&& noB x) u = true := hl
    rw [tb_noB _ hx, Bool.and_eq_true, decide_eq_true_eq] at hl'
    rw [lx 87 (by decide) (by decide)]
    show L 87 u &&& (aL A &&& noB x) = if tb (aN A x) u = true then aN A u &&& noB x else aN A u
    rw [and_assoc64, h1 u hu hl'.1]
    by_cases c : tb (aN A x) u = true
    · rw [if_pos c]
    · rw [if_neg c]
      exact and_noB hx (Bool.eq_false_iff.mpr (fun z => c (hg.2.2.2.2.2.1 u hu hl'.1 x hx z).2.2))
  · rw [l71, va_up_self]; rfl
  · rw [ix 88 (by decide) (by decide)]; exact h3 n hn
  · rw [ix 89 (by decide) (by decide)]
    refine h4 n hn n4 ?_
    have hl' : tb (aL A &&& noB x) n = true := hl
    rw [tb_and, Bool.and_eq_true] at hl'
    exact hl'.1
  · rw [ix 91 (by decide) (by decide)]; exact h5 m hm
  · have hi' : i < aK A + 1 := hi
    rw [i92, l93, eT]
    by_cases e : i = aK A
    · rw [e, va_up_self, va_up_self, va_up_self, take_row hg hx hxl hx (Or.inl rfl)]
      exact ⟨rfl, rfl⟩
    · obtain ⟨-, b2, b3⟩ := hg.2.2.2.2.2.2.2.2.2.2 i (by omega)
      rw [va_up_ne _ _ e, va_up_ne _ _ e, va_up_ne _ _ e, take_row hg hx hxl b2 (Or.inr b3)]
      exact h6 i (by omega)
  · rw [i71, va_up_self]; rfl
  · rw [i71, va_up_ne _ _ (by decide)]; exact h8
  · rw [ix 90 (by decide) (by decide), ix 78 (by decide) (by decide), ix 79 (by decide) (by decide)]; exact h9 m hm
  · rw [i71, va_up_ne _ _ (by decide)]; exact h10
  · rw [i71, va_up_ne _ _ (by decide)]; exact h11
  · rw [i71, va_up_ne _ _ (by decide), va_up_ne _ _ (by decide), ix 95 (by decide) (by decide)]; exact h12 ht
  · rw [i71, va_up_ne _ _ (by decide)]; exact h13 ht
