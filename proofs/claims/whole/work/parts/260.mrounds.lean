/-! the reference: goRounds -/
/-- what goRounds may change -/
def FH (I : IM) (L : LM) (I' : IM) (L' : LM) : Prop := (∀ x, x < 71 ∨ (72 ≤ x ∧ x ≤ 76) ∨ 98 ≤ x → I' x = I x ∧ L' x = L x) ∧ ∀ z, z ∉ [13, 18, 27, 30, 33, 35, 36, 37] → I' 71 z = I 71 z
theorem FH.refl (I : IM) (L : LM) : FH I L I L := ⟨fun _ _ => ⟨rfl, rfl⟩, fun _ _ => rfl⟩
theorem FH.trans {I I' I'' : IM} {L L' L'' : LM} (h : FH I L I' L') (h' : FH I' L' I'' L'') : FH I L I'' L'' := ⟨fun x hx => ⟨(h'.1 x hx).1.trans (h.1 x hx).1, (h'.1 x hx).2.trans (h.1 x hx).2⟩, fun z hz => (h'.2 z hz).trans (h.2 z hz)⟩
theorem FH_I {I I' : IM} {L : LM} (h : ∀ x, x < 71 ∨ (72 ≤ x ∧ x ≤ 76) ∨ 98 ≤ x → I' x = I x) (h2 : ∀ z, z ∉ [13, 18, 27, 30, 33, 35, 36, 37] → I' 71 z = I 71 z) : FH I L I' L := ⟨fun x hx => ⟨h x hx, rfl⟩, h2⟩
theorem FH_G {I I' : IM} {L L' : LM} (h : FG I L I' L') : FH I L I' L' := ⟨fun x hx => ⟨h.1 x (by simp; omega), h.2.2.1 x (by simp; omega)⟩, fun z hz => h.2.1 z (by simp at hz ⊢; omega)⟩
/-- what the reference knows after the rounds -/
def GrR (I : IM) (k w r : Nat) (s : AS) : Prop := NR I (sN s) (sP s) ∧ I 71 35 = nI r ∧ I 71 36 = nI (sL s) ∧ I 71 37 = nI (sW s) ∧ (∀ x, x < 64 → I 88 x = nI (aA (endA k w (sP s) (sN s)) x)) ∧ Ag64 (I 94) (bckA k w (sP s) (sN s)).1 ∧ ∀ x, 4 ≤ x → x < 16 → I 97 x = if tb (Nms (sP s) (sN s)) x = true then rgA k w (sP s) (sN s) (ndA k w (sP s) (sN s) x) else sC s x
section Rounds
variable {g : Gl} {D : Nat} {b : Bool} {L : LM} {k w : Nat} {post : Option Value → Bool → IM → LM → Prop}
set_option maxRecDepth 20000 in
set_option maxHeartbeats 2000000 in
theorem lp_X8_colours {I : IM} {n B : Nat} {p : Pg} {l1 : Int32} (hD : 1 ≤ D) (hk : k ≤ 4) (hn : n ≤ 90) (hw : WfB B p n) (hA : ∀ x, x < 64 → I 88 x = nI (aA (endA k w p n) x)) (hG : Ag64 (I 94) (bckA k w p n).1) (hp : ∀ I1, (∀ x, 4 ≤ x → x < 16 → I1 97 x = if tb (Nms p n) x = true then rgA k w p n (ndA k w p n x) else I 97 x) → (∀ x, x ≠ 97 → I1 x = I x) → post (some (.int 1)) b I1 L) : ∀ r q I1, q + r = 16 → 4 ≤ q → (∀ x, 4 ≤ x → x < 16 → I1 97 x = if (decide (x < q) && tb (Nms p n) x) = true then rgA k w p n (ndA k w p n x) else I 97 x) → (∀ x, x ≠ 97 → I1 x = I x) → Wp (Kn g D MX8_goRounds post) (Tb b) 79 [some (rf g 71), some (.int l1), some (.long (Nms p n)), none, some (.int (nI q))] [] I1 L := by
  obtain ⟨f0, f1, -⟩ := round_facts (w := w) hk hn hw
  intro r
  induction r with
  | zero =>
    intro q I1 hq h4 h1 h2
    have eq : q = 16 := by omega
    subst eq
    refine wq_iload 81 dX8_goRounds_79 rfl rfl ?_
    refine wq_bipush 83 16 dX8_goRounds_81 rfl (by decide) ?_
    refine wq_ic_ge 86 129 dX8_goRounds_83 rfl (by decide) (fun c83 => ?_) (fun c83 => absurd (by decide) c83)
    refine wq_iconst 130 1 dX8_goRounds_129 rfl (by decide) ?_
    refine ri .boolean dX8_goRounds_130 rfl rfl ?_
    refine hp I1 (fun x x4 x16 => ?_) h2
    rw [h1 x x4 x16, decide_eq_true x16, Bool.true_and]
  | succ r ih =>
    intro q I1 hq h4 h1 h2
    have q64 : q < 64 := by omega
    have hA1 : ∀ x, x < 64 → I1 88 x = nI (aA (endA k w p n) x) := fun x hx => by rw [h2 88 (by decide)]; exact hA x hx
    have lq : rt (aA (endA k w p n)) q < 64 := rt_lt f0 q64
    have hG1 : I1 94 (rt (aA (endA k w p n)) q) = rgA k w p n (ndA k w p n q) := by rw [h2 94 (by decide), hG _ lq]; rfl
    have goon : ∀ I2 v, I2 97 = va_up (I1 97) q v → v = (if tb (Nms p n) q = true then rgA k w p n (ndA k w p n q) else I 97 q) → (∀ x, x ≠ 97 → I2 x = I1 x) → Wp (Kn g D MX8_goRounds post) (Tb b) 79 [some (rf g 71), some (.int l1), some (.long (Nms p n)), none, some (.int (nI q + 1))] [] I2 L := by
      intro I2 v i97 ev ix
      rw [← nI_succ]
      refine ih (q + 1) I2 (by omega) (by omega) (fun x x4 x16 => ?_) (fun x hx => by rw [ix x hx]; exact h2 x hx)
      rw [i97]
      by_cases e : x = q
      · rw [e, va_up_self, ev, decide_eq_true (show q < q + 1 by omega), Bool.true_and]
      · rw [va_up_ne _ _ e, h1 x x4 x16, decide_eq_decide.mpr (show x < q + 1 ↔ x < q by omega)]
    refine wq_iload 81 dX8_goRounds_79 rfl rfl ?_
    refine wq_bipush 83 16 dX8_goRounds_81 rfl (by decide) ?_
    refine wq_ic_ge 86 129 dX8_goRounds_83 rfl (by decide) (fun c83 => absurd c83 (nI_ge (b := 16) (by omega) (by decide))) (fun c83 => ?_)
    refine wq_bload_n 87 0 dX8_goRounds_86 rfl rfl rfl ?_
    refine wq_getR 90 fl_X8_91 dX8_goRounds_87 rfl rfl o_71 (rfl : (Tb _).2.2.2 71 39 = some 97) ?_
    refine wq_iload 92 dX8_goRounds_90 rfl rfl ?_
    refine wq_lload_n 93 2 dX8_goRounds_92 rfl rfl rfl ?_
    refine wq_iload 95 dX8_goRounds_93 rfl rfl ?_
    refine cSi2 98 (sp_X8_has _ _) ml_X8_109 mf_X8_has dX8_goRounds_95 rfl (Nat.le_of_ble_eq_true rfl) (by omega) ?_
    refine wq_if_eq 101 115 dX8_goRounds_98 rfl (by decide) (fun c98 => ?_) (fun c98 => ?_)
    · skip
      refine wq_bload_n 116 0 dX8_goRounds_115 rfl rfl rfl ?_
      refine wq_getR 119 fl_X8_91 dX8_goRounds_116 rfl rfl o_71 (rfl : (Tb _).2.2.2 71 39 = some 97) ?_
      refine wq_iload 121 dX8_goRounds_119 rfl rfl ?_
      refine wq_iald 122 dX8_goRounds_121 rfl a_97 (Ix.nI (by omega) (by decide)) ?_
      refine wq_iast 123 dX8_goRounds_122 rfl a_97 (Ix.nI (by omega) (by decide)) ?_
      refine wq_iinc 126 (_ + 1) [_, _, _, _, _] dX8_goRounds_123 rfl rfl (inc1 _) rfl (Nat.le_of_ble_eq_true rfl) rfl ?_
      refine wq_goto 79 dX8_goRounds_126 (by decide) ?_
      have e := (hasM_eq0 _ q64).mp c98
      exact goon _ _ (va_up_self _ _ _) (by rw [e, if_neg (by decide), h1 q h4 (by omega), decide_eq_false (Nat.lt_irrefl q)]; rfl) (fun x hx => va_up_ne _ _ hx)
    · skip
      refine wq_bload_n 102 0 dX8_goRounds_101 rfl rfl rfl ?_
      refine wq_getR 105 fl_X8_82 dX8_goRounds_102 rfl rfl o_71 (rfl : (Tb _).2.2.2 71 31 = some 94) ?_
      refine wq_bload_n 106 0 dX8_goRounds_105 rfl rfl rfl ?_
      refine wq_iload 108 dX8_goRounds_106 rfl rfl ?_
      refine cVi1 111 (sp_X8_stands hA1 f0 q rfl q64) ml_X8_221 mf_X8_standsFor dX8_goRounds_108 rfl o_71 (by decide) rfl (Nat.le_of_ble_eq_true rfl) (by omega) ?_
      refine wq_iald 112 dX8_goRounds_111 rfl a_94 (Ix.nI (by omega) (by decide)) ?_
      refine wq_goto 122 dX8_goRounds_112 (by decide) ?_
      refine wq_iast 123 dX8_goRounds_122 rfl a_97 (Ix.nI (by omega) (by decide)) ?_
      refine wq_iinc 126 (_ + 1) [_, _, _, _, _] dX8_goRounds_123 rfl rfl (inc1 _) rfl (Nat.le_of_ble_eq_true rfl) rfl ?_
      refine wq_goto 79 dX8_goRounds_126 (by decide) ?_
      have e := (hasM_ne0 _ q64).mp c98
      exact goon _ _ (va_up_self _ _ _) (by rw [e, if_pos rfl, hG1]) (fun x hx => va_up_ne _ _ hx)
set_option maxRecDepth 20000 in
set_option maxHeartbeats 2000000 in
theorem lp_X8_copy {I : IM} {q : Pg} {m : Nat} {l1 : Int32} {N : Int64} (hm : m ≤ 90) (h : NXr I q m) (kk : ∀ I1 l4, (∀ j, j < m → I1 77 j = q j 0 ∧ I1 78 j = q j 1 ∧ I1 79 j = q j 2 ∧ I1 80 j = q j 3) → (∀ x, x ∉ [77, 78, 79, 80] → I1 x = I x) → Wp (Kn g D MX8_goRounds post) (Tb b) 410 [some (rf g 71), some (.int l1), some (.long N), none, l4] [] I1 L) : ∀ r i I1, i + r = m → (∀ j, j < i → I1 77 j = q j 0 ∧ I1 78 j = q j 1 ∧ I1 79 j = q j 2 ∧ I1 80 j = q j 3) → (∀ x, x ∉ [77, 78, 79, 80] → I1 x = I x) → Wp (Kn g D MX8_goRounds post) (Tb b) 339 [some (rf g 71), some (.int l1), some (.long N), none, some (.int (nI i))] [] I1 L := by
  obtain ⟨n1, n2⟩ := h
  intro r
  induction r with
  | zero =>
    intro i I1 hi h1 h2
    have ei : i = m := by omega
    subst ei
    have hc : I1 71 18 = nI i := by rw [h2 71 (by decide)]; exact n1
    refine wq_iload 341 dX8_goRounds_339 rfl rfl ?_
    refine wq_bload_n 342 0 dX8_goRounds_341 rfl rfl rfl ?_
    refine wq_getI 345 fl_X8_276 dX8_goRounds_342 rfl rfl o_71 ?_
    refine wq_ic_ge 348 410 dX8_goRounds_345 rfl (by decide) (fun c345 => ?_) (fun c345 => absurd (by rw [hc]; exact nI_le (Nat.le_refl _) (by omega)) c345)
    exact kk I1 _ h1 h2
  | succ r ih =>
    intro i I1 hi h1 h2
    have hc : I1 71 18 = nI m := by rw [h2 71 (by decide)]; exact n1
    obtain ⟨r0, r1, r2, r3⟩ := n2 i (by omega) (by omega)
    refine wq_iload 341 dX8_goRounds_339 rfl rfl ?_
    refine wq_bload_n 342 0 dX8_goRounds_341 rfl rfl rfl ?_
    refine wq_getI 345 fl_X8_276 dX8_goRounds_342 rfl rfl o_71 ?_
    refine wq_ic_ge 348 410 dX8_goRounds_345 rfl (by decide) (fun c345 => absurd c345 (by rw [hc]; exact nI_ge (by omega) (by omega))) (fun c345 => ?_)
    refine wq_bload_n 349 0 dX8_goRounds_348 rfl rfl rfl ?_
    refine wq_getR 352 fl_X8_29 dX8_goRounds_349 rfl rfl o_71 (rfl : (Tb _).2.2.2 71 9 = some 77) ?_
    refine wq_iload 354 dX8_goRounds_352 rfl rfl ?_
    refine wq_bload_n 355 0 dX8_goRounds_354 rfl rfl rfl ?_
    refine wq_getR 358 fl_X8_41 dX8_goRounds_355 rfl rfl o_71 (rfl : (Tb _).2.2.2 71 14 = some 81) ?_
    refine wq_iload 360 dX8_goRounds_358 rfl rfl ?_
    refine wq_iald 361 dX8_goRounds_360 rfl a_81 (Ix.nI (by omega) (by decide)) ?_
    refine wq_iast 362 dX8_goRounds_361 rfl a_77 (Ix.nI (by omega) (by decide)) ?_
    refine wq_bload_n 363 0 dX8_goRounds_362 rfl rfl rfl ?_
    refine wq_getR 366 fl_X8_32 dX8_goRounds_363 rfl rfl o_71 (rfl : (Tb _).2.2.2 71 10 = some 78) ?_
    refine wq_iload 368 dX8_goRounds_366 rfl rfl ?_
    refine wq_bload_n 369 0 dX8_goRounds_368 rfl rfl rfl ?_
    refine wq_getR 372 fl_X8_44 dX8_goRounds_369 rfl rfl o_71 (rfl : (Tb _).2.2.2 71 15 = some 82) ?_
    refine wq_iload 374 dX8_goRounds_372 rfl rfl ?_
    refine wq_iald 375 dX8_goRounds_374 rfl a_82 (Ix.nI (by omega) (by decide)) ?_
    refine wq_iast 376 dX8_goRounds_375 rfl a_78 (Ix.nI (by omega) (by decide)) ?_
    refine wq_bload_n 377 0 dX8_goRounds_376 rfl rfl rfl ?_
    refine wq_getR 380 fl_X8_35 dX8_goRounds_377 rfl rfl o_71 (rfl : (Tb _).2.2.2 71 11 = some 79) ?_
    refine wq_iload 382 dX8_goRounds_380 rfl rfl ?_
    refine wq_bload_n 383 0 dX8_goRounds_382 rfl rfl rfl ?_
    refine wq_getR 386 fl_X8_47 dX8_goRounds_383 rfl rfl o_71 (rfl : (Tb _).2.2.2 71 16 = some 83) ?_
    refine wq_iload 388 dX8_goRounds_386 rfl rfl ?_
    refine wq_iald 389 dX8_goRounds_388 rfl a_83 (Ix.nI (by omega) (by decide)) ?_
    refine wq_iast 390 dX8_goRounds_389 rfl a_79 (Ix.nI (by omega) (by decide)) ?_
    refine wq_bload_n 391 0 dX8_goRounds_390 rfl rfl rfl ?_
    refine wq_getR 394 fl_X8_38 dX8_goRounds_391 rfl rfl o_71 (rfl : (Tb _).2.2.2 71 12 = some 80) ?_
    refine wq_iload 396 dX8_goRounds_394 rfl rfl ?_
    refine wq_bload_n 397 0 dX8_goRounds_396 rfl rfl rfl ?_
    refine wq_getR 400 fl_X8_50 dX8_goRounds_397 rfl rfl o_71 (rfl : (Tb _).2.2.2 71 17 = some 84) ?_
    refine wq_iload 402 dX8_goRounds_400 rfl rfl ?_
    refine wq_iald 403 dX8_goRounds_402 rfl a_84 (Ix.nI (by omega) (by decide)) ?_
    refine wq_iast 404 dX8_goRounds_403 rfl a_80 (Ix.nI (by omega) (by decide)) ?_
    refine wq_iinc 407 (_ + 1) [_, _, _, _, _] dX8_goRounds_404 rfl rfl (inc1 _) rfl (Nat.le_of_ble_eq_true rfl) rfl ?_
    refine wq_goto 339 dX8_goRounds_407 (by decide) ?_
    rw [← nI_succ]
    refine wq_gen (fun I2 L2 eI2 eL2 => ?_)
    rw [eL2]
    clear eL2
    have e77 : I2 77 = va_up (I1 77) i (q i 0) := by rw [eI2, ← r0, ← h2 81 (by decide)]; simp [va_up]
    have e78 : I2 78 = va_up (I1 78) i (q i 1) := by rw [eI2, ← r1, ← h2 82 (by decide)]; simp [va_up]
    have e79 : I2 79 = va_up (I1 79) i (q i 2) := by rw [eI2, ← r2, ← h2 83 (by decide)]; simp [va_up]
    have e80 : I2 80 = va_up (I1 80) i (q i 3) := by rw [eI2, ← r3, ← h2 84 (by decide)]; simp [va_up]
    have ix : ∀ x, x ∉ [77, 78, 79, 80] → I2 x = I1 x := fun x hx => by
      simp at hx
      rw [eI2]
      simp [va_up, hx]
    clear eI2
    refine ih (i + 1) I2 (by omega) (fun j hj => ?_) (fun x hx => (ix x hx).trans (h2 x hx))
    rw [e77, e78, e79, e80]
    by_cases e : j = i
    · rw [e, va_up_self, va_up_self, va_up_self, va_up_self]; exact ⟨rfl, rfl, rfl, rfl⟩
    · rw [va_up_ne _ _ e, va_up_ne _ _ e, va_up_ne _ _ e, va_up_ne _ _ e]; exact h1 j (by omega)
end Rounds
set_option maxRecDepth 20000 in
set_option maxHeartbeats 4000000 in
theorem lp_X8_rounds {g : Gl} {D : Nat} {b : Bool} {I0 : IM} {L0 : LM} {k w n0 : Nat} {p0 : Pg} (hD : 7 ≤ D) (hk : k ≤ 4) (hwy : w < 3) {post : Option Value → Bool → IM → LM → Prop} (hpN : goA k w 6 0 (bgA p0 n0) = none → ∀ I' L', FH I0 L0 I' L' → post (some (.int 0)) b I' L') (hpS : ∀ r s, goA k w 6 0 (bgA p0 n0) = some (r, s) → ∀ I' L', GrR I' k w r s → FH I0 L0 I' L' → post (some (.int 1)) b I' L') : ∀ f r I L s l1 l2 l3 l4, r + f = 6 → goA k w 6 0 (bgA p0 n0) = goA k w f r s → IA p0 n0 s → NR I (sN s) (sP s) → I 71 35 = nI r → I 71 36 = nI (sL s) → I 71 37 = nI (sW s) → (∀ x, x < 16 → I 97 x = sC s x) → I 71 0 = nI k → I 71 1 = nI w → I 71 34 = 0 → FH I0 L0 I L → Wp (Kn g D MX8_goRounds post) (Tb b) 41 [some (rf g 71), l1, l2, l3, l4] [] I L := by
  intro f
  induction f with
  | zero =>
    intro r I L s l1 l2 l3 l4 hr hgo ia hN h35 h36 h37 hC hk0 hw0 ht fh
    have er : r = 6 := by omega
    subst er
    refine wq_bload_n 42 0 dX8_goRounds_41 rfl rfl rfl ?_
    refine wq_dup 43 dX8_goRounds_42 rfl rfl ?_
    refine wq_getI 46 fl_X8_292 dX8_goRounds_43 rfl rfl o_71 ?_
    refine wq_iconst 47 1 dX8_goRounds_46 rfl (by decide) ?_
    refine wq_iadd 48 dX8_goRounds_47 rfl ?_
    refine wq_putI 51 fl_X8_292 dX8_goRounds_48 rfl rfl rfl rfl rfl o_71 ?_
    refine wq_gen (fun I1 L1 eI1 eL1 => ?_)
    rw [eL1]
    clear eL1
    have i71 : I1 71 = va_up (I 71) 35 (nI (6 + 1)) := by rw [eI1, va_up_self, h35, ← nI_succ]
    have ix : ∀ x, x ≠ 71 → I1 x = I x := fun x hx => by rw [eI1, va_up_ne _ _ hx]
    clear eI1
    have fh1 : FH I0 L0 I1 L := fh.trans (FH_I (fun x hx => ix x (by omega)) (fun z hz => by rw [i71, va_up_ne _ _ (by simp at hz; omega)]))
    refine wq_bload_n 52 0 dX8_goRounds_51 rfl rfl rfl ?_
    refine wq_getI 55 fl_X8_292 dX8_goRounds_52 rfl rfl o_71 ?_
    refine wq_bipush 57 6 dX8_goRounds_55 rfl (by decide) ?_
    refine wq_ic_le 60 62 dX8_goRounds_57 rfl (by decide) (fun c57 => absurd c57 (by rw [i71, va_up_self]; decide)) (fun c57 => ?_)
    refine wq_iconst 61 0 dX8_goRounds_60 rfl (by decide) ?_
    refine ri .boolean dX8_goRounds_61 rfl rfl ?_
    exact hpN (by rw [hgo]; rfl) _ _ fh1
  | succ f ih =>
    intro r I L s l1 l2 l3 l4 hr hgo ia hN h35 h36 h37 hC hk0 hw0 ht fh
    obtain ⟨wf, sn90, sw48, slw, so6, cc⟩ := ia
    have ia : IA p0 n0 s := ⟨wf, sn90, sw48, slw, so6, cc⟩
    obtain ⟨f0, f1, f2, f3, f4, f5, f6, f7, f8, f9⟩ := round_facts (w := w) hk sn90 wf
    refine wq_bload_n 42 0 dX8_goRounds_41 rfl rfl rfl ?_
    refine wq_dup 43 dX8_goRounds_42 rfl rfl ?_
    refine wq_getI 46 fl_X8_292 dX8_goRounds_43 rfl rfl o_71 ?_
    refine wq_iconst 47 1 dX8_goRounds_46 rfl (by decide) ?_
    refine wq_iadd 48 dX8_goRounds_47 rfl ?_
    refine wq_putI 51 fl_X8_292 dX8_goRounds_48 rfl rfl rfl rfl rfl o_71 ?_
    refine wq_gen (fun I1 L1 eI1 eL1 => ?_)
    rw [eL1]
    clear eL1
    have i71 : I1 71 = va_up (I 71) 35 (nI (r + 1)) := by rw [eI1, va_up_self, h35, ← nI_succ]
    have ix : ∀ x, x ≠ 71 → I1 x = I x := fun x hx => by rw [eI1, va_up_ne _ _ hx]
    clear eI1
    have fh1 : FH I0 L0 I1 L := fh.trans (FH_I (fun x hx => ix x (by omega)) (fun z hz => by rw [i71, va_up_ne _ _ (by simp at hz; omega)]))
    have hN1 : NR I1 (sN s) (sP s) := NR_keep hN (by rw [i71, va_up_ne _ _ (by decide)]) (ix _ (by decide)) (ix _ (by decide)) (ix _ (by decide)) (ix _ (by decide))
    refine wq_bload_n 52 0 dX8_goRounds_51 rfl rfl rfl ?_
    refine wq_getI 55 fl_X8_292 dX8_goRounds_52 rfl rfl o_71 ?_
    refine wq_bipush 57 6 dX8_goRounds_55 rfl (by decide) ?_
    refine wq_ic_le 60 62 dX8_goRounds_57 rfl (by decide) (fun c57 => ?_) (fun c57 => absurd (by rw [i71, va_up_self]; exact nI_le (b := 6) (by omega) (by decide)) c57)
    refine wq_bload_n 63 0 dX8_goRounds_62 rfl rfl rfl ?_
    refine cVp0 66 (sp_X8_goRound (tl := false) (by omega) hN1 wf (by rw [i71, va_up_ne _ _ (by decide)]; exact hk0) hk (by rw [i71, va_up_ne _ _ (by decide)]; exact hw0) hwy (fun z => by cases z) (fun _ => by rw [i71, va_up_ne _ _ (by decide)]; exact ht)) ml_X8_298 mf_X8_goRound dX8_goRounds_63 rfl o_71 (by decide) rfl (Nat.le_of_ble_eq_true rfl) (by omega) ?_
    rintro _ b I2 L2 ⟨rfl, ⟨spN, rfl, h64, hsp⟩, rm, hG, fg⟩
    have hN2 : NR I2 (sN s) (sP s) := NR_keep hN1 (fg.2.1 13 (by decide)) (fg.1 _ (by decide)) (fg.1 _ (by decide)) (fg.1 _ (by decide)) (fg.1 _ (by decide))
    refine wq_istore_n 67 1 [_, _, _, _, _] dX8_goRounds_66 rfl rfl rfl (Nat.le_of_ble_eq_true rfl) rfl ?_
    refine wq_bload_n 68 0 dX8_goRounds_67 rfl rfl rfl ?_
    refine cVl0 71 (sp_X8_names (by omega) hN2 wf) ml_X8_255 mf_X8_names dX8_goRounds_68 rfl o_71 (by decide) rfl (Nat.le_of_ble_eq_true rfl) (by omega) ?_
    refine wq_lstore_n 72 2 [_, _, _, _, _] dX8_goRounds_71 rfl rfl rfl (Nat.le_of_ble_eq_true rfl) rfl ?_
    have z2 : ∀ z, z ∉ [27, 30, 33] → I2 71 z = I1 71 z := fg.2.1
    have z1 : ∀ z, z ≠ 35 → I1 71 z = I 71 z := fun z hz => by rw [i71, va_up_ne _ _ hz]
    have hN2' : NR I2 (sN s) (sP s) := hN2
    have fh2 : FH I0 L0 I2 L2 := fh1.trans (FH_G fg)
    have hA2 := rm.2.2.1
    by_cases c0 : spS k w (sP s) (sN s) = 0
    · have sp0 : spN = 0 := hsp.mpr c0
      have hgo2 : goA k w 6 0 (bgA p0 n0) = some (r + 1, s) := by rw [hgo, goA, if_pos c0]
      refine wq_iload_n 73 1 dX8_goRounds_72 rfl rfl rfl ?_
      refine wq_if_ne 76 131 dX8_goRounds_73 rfl (by decide) (fun c73 => absurd c73 (by rw [sp0]; decide)) (fun c73 => ?_)
      refine wq_iconst 77 4 dX8_goRounds_76 rfl (by decide) ?_
      refine wq_istore 79 [_, _, _, _, _] dX8_goRounds_77 rfl rfl (Nat.le_of_ble_eq_true rfl) rfl ?_
      refine lp_X8_colours (k := k) (w := w) (I := I2) (by omega) hk sn90 wf hA2 hG (fun I3 e97 x3 => ?_) 12 4 I2 (by omega) (by omega) (fun x x4 x16 => by rw [if_neg]; intro z; rw [Bool.and_eq_true, decide_eq_true_eq] at z; omega) (fun _ _ => rfl)
      refine hpS _ _ hgo2 _ _ ⟨NR_keep hN2 (by rw [x3 71 (by decide)]) (x3 _ (by decide)) (x3 _ (by decide)) (x3 _ (by decide)) (x3 _ (by decide)), ?_, ?_, ?_, fun x hx => by rw [x3 88 (by decide)]; exact hA2 x hx, by rw [x3 94 (by decide)]; exact hG, fun x x4 x16 => ?_⟩ (fh2.trans (FH_I (fun x hx => x3 x (by omega)) (fun z hz => by rw [x3 71 (by decide)])))
      · rw [x3 71 (by decide), z2 35 (by decide), i71, va_up_self]
      · rw [x3 71 (by decide), z2 36 (by decide), z1 36 (by decide)]; exact h36
      · rw [x3 71 (by decide), z2 37 (by decide), z1 37 (by decide)]; exact h37
      · rw [e97 x x4 x16, fg.1 97 (by decide), ix 97 (by decide), hC x x16]
    have sp1 : ¬ nI spN = 0 := fun z => c0 (hsp.mp ((nI_eq (a := spN) (b := 0) (by omega) (by decide)).mp z))
    refine wq_iload_n 73 1 dX8_goRounds_72 rfl rfl rfl ?_
    refine wq_if_ne 76 131 dX8_goRounds_73 rfl (by decide) (fun c73 => ?_) (fun c73 => absurd c73 sp1)
    refine wq_iconst 132 0 dX8_goRounds_131 rfl (by decide) ?_
    refine wq_istore 134 [_, _, _, _, _] dX8_goRounds_132 rfl rfl (Nat.le_of_ble_eq_true rfl) rfl ?_
    refine lp_X8_fill (I := I2) (p := sP s) (n := sN s) (fun I3 l4 e96 x3 => ?_) 64 0 I2 (by omega) (fun x hx => by omega) (fun _ _ => rfl)
    refine wq_iconst 157 4 dX8_goRounds_156 rfl (by decide) ?_
    refine wq_istore 159 [_, _, _, _, _] dX8_goRounds_157 rfl rfl (Nat.le_of_ble_eq_true rfl) rfl ?_
    refine lp_X8_slot1 (k := k) (w := w) (p := sP s) (n := sN s) (sl := sL s) (I := I3) (by omega) hk sn90 wf (fun x hx => by rw [x3 88 (by decide)]; exact hA2 x hx) (by rw [x3 94 (by decide)]; exact hG) (fun I4 l4 h4 => ?_) 60 4 I3 (by omega) (by omega) ⟨fun x hx => ?_, ?_, fun _ _ => rfl, fun _ _ _ => rfl⟩
    rotate_left
    · rw [e96 x hx]
      by_cases c : x < 4
      · rw [if_pos c, bsS, if_neg]
        intro z
        have := ((f7 x hx).mp z).1
        omega
      · rw [if_neg c]
    · have cz : cntF (tb (spS k w (sP s) (sN s))) 4 = 0 := by
        have nn : ∀ x, x < 4 → ¬ tb (spS k w (sP s) (sN s)) x = true := fun x hx z => by have := ((f7 x (by omega)).mp z).1; omega
        rw [cntF, cntF, cntF, cntF, cntF, if_neg (nn 0 (by omega)), if_neg (nn 1 (by omega)), if_neg (nn 2 (by omega)), if_neg (nn 3 (by omega))]
      rw [cz, Nat.add_zero, x3 71 (by decide), z2 36 (by decide), z1 36 (by decide)]
      exact h36
    obtain ⟨a1, a2, a3, a4⟩ := h4
    refine wq_iconst 224 4 dX8_goRounds_223 rfl (by decide) ?_
    refine wq_istore 226 [_, _, _, _, _] dX8_goRounds_224 rfl rfl (Nat.le_of_ble_eq_true rfl) rfl ?_
    refine lp_X8_slot2 (k := k) (w := w) (p := sP s) (n := sN s) (sl := sL s) (I := I4) (by omega) hk sn90 wf (fun x hx => by rw [a4 88 (by decide) (by decide), x3 88 (by decide)]; exact hA2 x hx) (by rw [a4 94 (by decide) (by decide), x3 94 (by decide)]; exact hG) (fun I5 l4 h5 => ?_) 60 4 I4 (by omega) (by omega) ⟨fun x hx => ?_, fun x hx => ?_, fun _ _ _ => rfl⟩
    rotate_left
    · rw [a1 x hx, if_pos hx]
      by_cases c : x < 4
      · rw [if_pos c, slA, if_neg, bsS, if_neg]
        · intro z
          have := ((f7 x hx).mp z).1
          omega
        · intro z
          rw [isS, f2 x c, Bool.and_eq_true] at z
          have := ((f7 x hx).mp z.2).1
          omega
      · rw [if_neg c]
    · rw [if_neg]
      intro z
      rw [Bool.and_eq_true, Bool.and_eq_true, decide_eq_true_eq, decide_eq_true_eq] at z
      omega
    obtain ⟨b1, b2, b3⟩ := h5
    have s4 : ∀ x, x < 4 → slA k w (sP s) (sN s) (sL s) x < 0 := fun x hx => by
      rw [slA, if_neg]
      · decide
      · intro z
        rw [isS, f2 x hx, Bool.and_eq_true] at z
        have := ((f7 x (by omega)).mp z.2).1
        omega
    have z5 : ∀ z, z ≠ 36 → I5 71 z = I2 71 z := fun z hz => by rw [b3 71 (by decide) (by decide), a3 z hz, x3 71 (by decide)]
    have y5 : ∀ x, x ∉ [71, 96, 97] → I5 x = I2 x := fun x hx => by
      simp at hx
      rw [b3 x hx.2.1 hx.2.2, a4 x hx.1 hx.2.1, x3 x hx.2.1]
    have hN5 : NR I5 (sN s) (sP s) := NR_keep hN2 (z5 13 (by decide)) (y5 _ (by decide)) (y5 _ (by decide)) (y5 _ (by decide)) (y5 _ (by decide))
    have e96' : ∀ x, x < 64 → I5 96 x = slA k w (sP s) (sN s) (sL s) x := fun x hx => by rw [b1 x hx, if_pos hx]
    have e97' : ∀ x, x < 16 → I5 97 x = sC (nextA k w s) x := fun x hx => by
      rw [b2 x hx, decide_eq_true (show x < 64 by omega), Bool.true_and, a4 97 (by decide) (by decide), x3 97 (by decide), fg.1 97 (by decide), ix 97 (by decide), hC x hx]
      rfl
    have n37 : I5 71 37 = nI (sW s) := by rw [z5 37 (by decide), z2 37 (by decide), z1 37 (by decide)]; exact h37
    have n36 : I5 71 36 = nI (sL (nextA k w s)) := by rw [b3 71 (by decide) (by decide)]; exact a2
    have fh5 : FH I0 L0 I5 L2 := fh2.trans (FH_I (fun x hx => y5 x (by simp; omega)) (fun z hz => z5 z (by simp at hz; omega)))
    refine wq_bload_n 305 0 dX8_goRounds_304 rfl rfl rfl ?_
    refine cVp0 308 (sp_X8_rewrite (by omega) hN5 wf e96' s4 n37 sw48) ml_X8_301 mf_X8_rewrite dX8_goRounds_305 rfl o_71 (by decide) rfl (Nat.le_of_ble_eq_true rfl) (by omega) ?_
    rintro _ b I6 L2 ⟨rfl, rfl, rfl, hW, fq⟩
    have m1 : I6 71 18 = nI (wrS k w s).2.1 := hW.1.1
    have m2 : I6 71 37 = nI (wrS k w s).2.2 := hW.2
    obtain ⟨rb1, rb2⟩ := rw_bound (slA k w (sP s) (sN s) (sL s)) (sP s) (fun _ _ => 0, 0, sW s) (sN s)
    have rb1' : (wrS k w s).2.1 ≤ 0 + 5 * sN s := rb1
    have rb2' : (wrS k w s).2.2 ≤ sW s + 4 * sN s := rb2
    have fh6 : FH I0 L0 I6 L2 := fh5.trans (FH_I (fun x hx => fq.1 x (by simp; omega)) (fun z hz => fq.2 z (by simp at hz; omega) (by simp at hz; omega)))
    refine wq_bload_n 309 0 dX8_goRounds_308 rfl rfl rfl ?_
    refine wq_getI 312 fl_X8_276 dX8_goRounds_309 rfl rfl o_71 ?_
    refine wq_bipush 314 90 dX8_goRounds_312 rfl (by decide) ?_
    refine wq_ic_gt 317 326 dX8_goRounds_314 rfl (by decide) (fun c314 => ?_) (fun c314 => ?_)
    · skip
      refine wq_iconst 327 0 dX8_goRounds_326 rfl (by decide) ?_
      refine ri .boolean dX8_goRounds_327 rfl rfl ?_
      exact hpN (by rw [hgo, goA, if_neg c0, if_neg (show ¬ okB (wrS k w s) = true from fun z => (fun y => nI_nlt (b := (wrS k w s).2.1) (a := 90) (by have := y.1; omega) (by decide) (by rw [← m1]; exact c314)) (okB_iff.mp z))]) _ _ fh6
    · skip
      refine wq_bload_n 318 0 dX8_goRounds_317 rfl rfl rfl ?_
      refine wq_getI 321 fl_X8_282 dX8_goRounds_318 rfl rfl o_71 ?_
      refine wq_bipush 323 48 dX8_goRounds_321 rfl (by decide) ?_
      refine wq_ic_le 326 328 dX8_goRounds_323 rfl (by decide) (fun c323 => ?_) (fun c323 => ?_)
      · skip
        refine wq_bload_n 329 0 dX8_goRounds_328 rfl rfl rfl ?_
        refine wq_bload_n 330 0 dX8_goRounds_329 rfl rfl rfl ?_
        refine wq_getI 333 fl_X8_276 dX8_goRounds_330 rfl rfl o_71 ?_
        refine wq_putI 336 fl_X8_148 dX8_goRounds_333 rfl rfl rfl rfl rfl o_71 ?_
        rw [m1] at c314
        rw [m2] at c323
        have ok : okS (wrS k w s) := ⟨Decidable.byContradiction (fun z => c314 (nI_lt (a := 90) (by omega) (by omega))), (nI_leI (b := 48) (by omega) (by omega)).mp c323⟩
        rw [m1]
        refine wq_gen (fun I7 L7 eI7 eL7 => ?_)
        rw [eL7]
        clear eL7
        have j71 : I7 71 = va_up (I6 71) 13 (nI (wrS k w s).2.1) := by rw [eI7, va_up_self]
        have jx : ∀ x, x ≠ 71 → I7 x = I6 x := fun x hx => by rw [eI7, va_up_ne _ _ hx]
        clear eI7
        have nx7 : NXr I7 (wrS k w s).1 (wrS k w s).2.1 := ⟨by rw [j71, va_up_ne _ _ (by decide)]; exact m1, fun j hj hj2 => by rw [jx 81 (by decide), jx 82 (by decide), jx 83 (by decide), jx 84 (by decide)]; exact hW.1.2 j hj hj2⟩
        refine wq_iconst 337 0 dX8_goRounds_336 rfl (by decide) ?_
        refine wq_istore 339 [_, _, _, _, _] dX8_goRounds_337 rfl rfl (Nat.le_of_ble_eq_true rfl) rfl ?_
        refine lp_X8_copy (I := I7) ok.1 nx7 (fun I8 l4 rows x8 => ?_) _ 0 I7 (Nat.zero_add _) (fun j hj => absurd hj (Nat.not_lt_zero j)) (fun _ _ => rfl)
        have w8 : ∀ z, z ≠ 13 → I8 71 z = I6 71 z := fun z hz => by rw [x8 71 (by decide), j71, va_up_ne _ _ hz]
        have u8 : ∀ z, z ≠ 13 → z ≠ 18 → z ≠ 37 → z ≠ 36 → I8 71 z = I2 71 z := fun z y1 y2 y3 y4 => by rw [w8 z y1, fq.2 z y2 y3, z5 z y4]
        refine wq_goto 41 dX8_goRounds_410 (by decide) ?_
        refine ih (r + 1) I8 L2 (nextA k w s) _ _ _ _ (by omega) (by rw [hgo, goA, if_neg c0, if_pos (show okB (wrS k w s) = true from okB_iff.mpr ok)]) (IA_next hk ia ok) ⟨ok.1, by rw [x8 71 (by decide), j71, va_up_self]; rfl, rows⟩ ?_ ?_ ?_ (fun x hx => ?_) ?_ ?_ ?_ (fh6.trans (FH_I (fun x hx => by rw [x8 x (by simp; omega), jx x (by omega)]) (fun z hz => w8 z (by simp at hz; omega))))
        · rw [u8 35 (by decide) (by decide) (by decide) (by decide), z2 35 (by decide), i71, va_up_self]
        · rw [w8 36 (by decide), fq.2 36 (by decide) (by decide)]; exact n36
        · rw [w8 37 (by decide)]; exact m2
        · rw [x8 97 (by decide), jx 97 (by decide), fq.1 97 (by decide)]; exact e97' x hx
        · rw [u8 0 (by decide) (by decide) (by decide) (by decide), z2 0 (by decide), z1 0 (by decide)]; exact hk0
        · rw [u8 1 (by decide) (by decide) (by decide) (by decide), z2 1 (by decide), z1 1 (by decide)]; exact hw0
        · rw [u8 34 (by decide) (by decide) (by decide) (by decide), z2 34 (by decide), z1 34 (by decide)]; exact ht
      · skip
        refine wq_iconst 327 0 dX8_goRounds_326 rfl (by decide) ?_
        refine ri .boolean dX8_goRounds_327 rfl rfl ?_
        exact hpN (by rw [hgo, goA, if_neg c0, if_neg (show ¬ okB (wrS k w s) = true from fun z => (fun y => c323 (by rw [m2]; exact nI_le (b := 48) y.2 (by decide))) (okB_iff.mp z))]) _ _ fh6
