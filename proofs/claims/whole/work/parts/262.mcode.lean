/-! the reference: goRounds, firstRound, layCode -/
set_option maxRecDepth 20000 in
set_option maxHeartbeats 2000000 in
theorem sp_X8_goRounds {g : Gl} {D : Nat} {b : Bool} {I : IM} {L : LM} {k w n : Nat} {p : Pg} (hD : 7 ≤ D) (hk : k ≤ 4) (hwy : w < 3) (h : MR I n p) (hw : WfB 16 p n) (hk0 : I 71 0 = nI k) (hw0 : I 71 1 = nI w) (ht : I 71 34 = 0) : Me g D MX8_goRounds [rf g 71] b I L (fun r b' I' L' => b' = b ∧ FH I L I' L' ∧ ((goA k w 6 0 (bgA p n) = none ∧ r = some (.int 0)) ∨ (∃ rr s, goA k w 6 0 (bgA p n) = some (rr, s) ∧ r = some (.int 1) ∧ GrR I' k w rr s))) := by
  have hn := h.1
  refine Me.of [some (rf g 71), none, none, none, none] 4 rfl pf_X8_goRounds (Nat.le_of_ble_eq_true rfl) ?_
  refine wq_bload_n 1 0 dX8_goRounds_0 rfl rfl rfl ?_
  refine cVp0 4 (sp_X8_asProgram h) ml_X8_174 mf_X8_asProgram dX8_goRounds_1 rfl o_71 (by decide) rfl (Nat.le_of_ble_eq_true rfl) (by omega) ?_
  rintro _ b I1 L ⟨rfl, rfl, rfl, hN, i71, ix⟩
  refine wq_bload_n 5 0 dX8_goRounds_4 rfl rfl rfl ?_
  refine wq_iconst 6 0 dX8_goRounds_5 rfl (by decide) ?_
  refine wq_putI 9 fl_X8_292 dX8_goRounds_6 rfl rfl rfl rfl rfl o_71 ?_
  refine wq_bload_n 10 0 dX8_goRounds_9 rfl rfl rfl ?_
  refine wq_iconst 11 0 dX8_goRounds_10 rfl (by decide) ?_
  refine wq_putI 14 fl_X8_295 dX8_goRounds_11 rfl rfl rfl rfl rfl o_71 ?_
  refine wq_bload_n 15 0 dX8_goRounds_14 rfl rfl rfl ?_
  refine wq_iconst 16 0 dX8_goRounds_15 rfl (by decide) ?_
  refine wq_putI 19 fl_X8_282 dX8_goRounds_16 rfl rfl rfl rfl rfl o_71 ?_
  refine wq_iconst 20 0 dX8_goRounds_19 rfl (by decide) ?_
  refine wq_istore_n 21 1 [_, _, _, _, _] dX8_goRounds_20 rfl rfl rfl (Nat.le_of_ble_eq_true rfl) rfl ?_
  refine wq_gen (fun I2 L2 eI2 eL2 => ?_)
  rw [eL2]
  clear eL2
  have j71 : I2 71 = va_up (va_up (va_up (va_up (I 71) 13 (nI n)) 35 0) 36 0) 37 0 := by rw [eI2]; simp [va_up_self, i71]
  have jx : ∀ x, x ≠ 71 → I2 x = I1 x := fun x hx => by rw [eI2, va_up_ne _ _ hx, va_up_ne _ _ hx, va_up_ne _ _ hx]
  clear eI2
  have z2 : ∀ z, z ≠ 13 → z ≠ 35 → z ≠ 36 → z ≠ 37 → I2 71 z = I 71 z := fun z y1 y2 y3 y4 => by rw [j71, va_up_ne _ _ y4, va_up_ne _ _ y3, va_up_ne _ _ y2, va_up_ne _ _ y1]
  have hN2 : NR I2 n p := ⟨by omega, by rw [j71]; simp [va_up], fun j hj => by rw [jx 77 (by decide), jx 78 (by decide), jx 79 (by decide), jx 80 (by decide)]; exact hN.2.2 j hj⟩
  have fh2 : FH I L I2 L := FH_I (fun x hx => by rw [jx x (by omega), ix x (by simp; omega)]) (fun z hz => z2 z (by simp at hz; omega) (by simp at hz; omega) (by simp at hz; omega) (by simp at hz; omega))
  have lp : ∀ r q I3, q + r = 16 → (∀ x, x < q → I3 97 x = -6) → (∀ x, x ≠ 97 → I3 x = I2 x) → Wp (Kn g D MX8_goRounds (fun r b' I' L' => b' = b ∧ FH I L I' L' ∧ ((goA k w 6 0 (bgA p n) = none ∧ r = some (.int 0)) ∨ (∃ rr s, goA k w 6 0 (bgA p n) = some (rr, s) ∧ r = some (.int 1) ∧ GrR I' k w rr s)))) (Tb b) 21 [some (rf g 71), some (.int (nI q)), none, none, none] [] I3 L := by
    intro r
    induction r with
    | zero =>
      intro q I3 hq h1 h2
      have eq : q = 16 := by omega
      subst eq
      refine wq_iload_n 22 1 dX8_goRounds_21 rfl rfl rfl ?_
      refine wq_bipush 24 16 dX8_goRounds_22 rfl (by decide) ?_
      refine wq_ic_ge 27 41 dX8_goRounds_24 rfl (by decide) (fun c24 => ?_) (fun c24 => absurd (by decide) c24)
      refine lp_X8_rounds (I0 := I) (L0 := L) (p0 := p) (n0 := n) hD hk hwy (fun e I' L' f => ⟨rfl, f, Or.inl ⟨e, rfl⟩⟩) (fun r s e I' L' q f => ⟨rfl, f, Or.inr ⟨r, s, e, rfl, q⟩⟩) 6 0 I3 L (bgA p n) _ _ _ _ (by omega) rfl (IA_beg hw (by omega)) (NR_keep hN2 (by rw [h2 71 (by decide)]) (h2 _ (by decide)) (h2 _ (by decide)) (h2 _ (by decide)) (h2 _ (by decide))) ?_ ?_ ?_ (fun x hx => h1 x hx) ?_ ?_ ?_ (fh2.trans (FH_I (fun x hx => h2 x (by omega)) (fun z hz => by rw [h2 71 (by decide)])))
      · rw [h2 71 (by decide), j71]; simp [va_up]; rfl
      · rw [h2 71 (by decide), j71]; simp [va_up]; rfl
      · rw [h2 71 (by decide), j71]; simp [va_up]; rfl
      · rw [h2 71 (by decide), z2 0 (by decide) (by decide) (by decide) (by decide)]; exact hk0
      · rw [h2 71 (by decide), z2 1 (by decide) (by decide) (by decide) (by decide)]; exact hw0
      · rw [h2 71 (by decide), z2 34 (by decide) (by decide) (by decide) (by decide)]; exact ht
    | succ r ih =>
      intro q I3 hq h1 h2
      refine wq_iload_n 22 1 dX8_goRounds_21 rfl rfl rfl ?_
      refine wq_bipush 24 16 dX8_goRounds_22 rfl (by decide) ?_
      refine wq_ic_ge 27 41 dX8_goRounds_24 rfl (by decide) (fun c24 => absurd c24 (nI_ge (b := 16) (by omega) (by decide))) (fun c24 => ?_)
      refine wq_bload_n 28 0 dX8_goRounds_27 rfl rfl rfl ?_
      refine wq_getR 31 fl_X8_91 dX8_goRounds_28 rfl rfl o_71 (rfl : (Tb _).2.2.2 71 39 = some 97) ?_
      refine wq_iload_n 32 1 dX8_goRounds_31 rfl rfl rfl ?_
      refine wq_bipush 34 (-6) dX8_goRounds_32 rfl (by decide) ?_
      refine wq_iast 35 dX8_goRounds_34 rfl a_97 (Ix.nI (by omega) (by decide)) ?_
      refine wq_iinc 38 (_ + 1) [_, _, _, _, _] dX8_goRounds_35 rfl rfl (inc1 _) rfl (Nat.le_of_ble_eq_true rfl) rfl ?_
      refine wq_goto 21 dX8_goRounds_38 (by decide) ?_
      rw [← nI_succ]
      refine ih (q + 1) _ (by omega) (fun x hx => ?_) (fun x hx => by rw [va_up_ne _ _ hx]; exact h2 x hx)
      rw [va_up_self]
      by_cases e : x = q
      · rw [e, va_up_self]
      · rw [va_up_ne _ _ e]; exact h1 x (by omega)
  exact lp 16 0 I2 (by omega) (fun x hx => by omega) (fun _ _ => rfl)
set_option maxRecDepth 20000 in
set_option maxHeartbeats 2000000 in
theorem sp_X8_firstRound {g : Gl} {D : Nat} {b : Bool} {I : IM} {L : LM} {k w n : Nat} {p : Pg} (hD : 7 ≤ D) (hk : k ≤ 4) (hwy : w < 3) (h : MR I n p) (hw : WfB 16 p n) (hk0 : I 71 0 = nI k) (hw0 : I 71 1 = nI w) (ht : I 71 34 = 0) : Me g D MX8_firstRound [rf g 71] b I L (fun r b' I' L' => r = none ∧ b' = b ∧ FH I L I' L' ∧ NR I' n p ∧ (∀ x, x < 64 → I' 88 x = nI (aA (endA k w p n) x)) ∧ Ag64 (I' 94) (bckA k w p n).1 ∧ (∀ i, i < aQ (endA k w p n) → I' 95 i = nI (aS (endA k w p n) i)) ∧ I' 71 33 = nI (aQ (endA k w p n))) := by
  have hn := h.1
  refine Me.of [some (rf g 71)] 0 rfl pf_X8_firstRound (Nat.le_of_ble_eq_true rfl) ?_
  refine wq_bload_n 1 0 dX8_firstRound_0 rfl rfl rfl ?_
  refine cVp0 4 (sp_X8_asProgram h) ml_X8_174 mf_X8_asProgram dX8_firstRound_1 rfl o_71 (by decide) rfl (Nat.le_of_ble_eq_true rfl) (by omega) ?_
  rintro _ b I1 L ⟨rfl, rfl, rfl, hN, i71, ix⟩
  refine wq_bload_n 5 0 dX8_firstRound_4 rfl rfl rfl ?_
  refine wq_iconst 6 0 dX8_firstRound_5 rfl (by decide) ?_
  refine wq_putI 9 fl_X8_208 dX8_firstRound_6 rfl rfl rfl rfl rfl o_71 ?_
  refine wq_bload_n 10 0 dX8_firstRound_9 rfl rfl rfl ?_
  refine wq_iconst 11 1 dX8_firstRound_10 rfl (by decide) ?_
  refine wq_putI 14 fl_X8_204 dX8_firstRound_11 rfl rfl rfl rfl rfl o_71 ?_
  refine wq_gen (fun I2 L2 eI2 eL2 => ?_)
  rw [eL2]
  clear eL2
  have j71 : I2 71 = va_up (va_up (va_up (I 71) 13 (nI n)) 33 0) 34 1 := by rw [eI2]; simp [va_up_self, i71]
  have jx : ∀ x, x ≠ 71 → I2 x = I1 x := fun x hx => by rw [eI2, va_up_ne _ _ hx, va_up_ne _ _ hx]
  clear eI2
  have z2 : ∀ z, z ≠ 13 → z ≠ 33 → z ≠ 34 → I2 71 z = I 71 z := fun z y1 y2 y3 => by rw [j71, va_up_ne _ _ y3, va_up_ne _ _ y2, va_up_ne _ _ y1]
  have hN2 : NR I2 n p := ⟨by omega, by rw [j71]; simp [va_up], fun j hj => by rw [jx 77 (by decide), jx 78 (by decide), jx 79 (by decide), jx 80 (by decide)]; exact hN.2.2 j hj⟩
  refine wq_bload_n 15 0 dX8_firstRound_14 rfl rfl rfl ?_
  refine cVp0 18 (sp_X8_goRound (tl := true) (k := k) (w := w) (by omega) hN2 hw (by rw [z2 0 (by decide) (by decide) (by decide)]; exact hk0) hk (by rw [z2 1 (by decide) (by decide) (by decide)]; exact hw0) hwy (fun _ => ⟨by rw [j71, va_up_self], by rw [j71, va_up_ne _ _ (by decide), va_up_self]⟩) (fun z => by cases z)) ml_X8_298 mf_X8_goRound dX8_firstRound_15 rfl o_71 (by decide) rfl (Nat.le_of_ble_eq_true rfl) (by omega) ?_
  rintro _ b I3 L3 ⟨rfl, ⟨spN, rfl, h64, hsp⟩, rm, hG, fg⟩
  have hN3 : NR I3 n p := NR_keep hN2 (fg.2.1 13 (by decide)) (fg.1 _ (by decide)) (fg.1 _ (by decide)) (fg.1 _ (by decide)) (fg.1 _ (by decide))
  obtain ⟨-, t2, t3⟩ := rm.2.2.2.2.2.2.2.2.2.2.2.1 rfl
  refine wq_pop 19 dX8_firstRound_18 rfl rfl ?_
  refine wq_bload_n 20 0 dX8_firstRound_19 rfl rfl rfl ?_
  refine wq_iconst 21 0 dX8_firstRound_20 rfl (by decide) ?_
  refine wq_putI 24 fl_X8_204 dX8_firstRound_21 rfl rfl rfl rfl rfl o_71 ?_
  refine rr dX8_firstRound_24 rfl ?_
  have n71 : ∀ x, x ≠ 71 → va_up I3 71 (va_up (I3 71) 34 0) x = I3 x := fun x hx => va_up_ne _ _ hx
  refine ⟨rfl, rfl, ⟨fun x hx => ⟨?_, ?_⟩, fun z hz => ?_⟩, ?_, fun x hx => ?_, ?_, fun i hi => ?_, ?_⟩
  · rw [n71 x (by omega), fg.1 x (by simp; omega), jx x (by omega), ix x (by simp; omega)]
  · rw [fg.2.2.1 x (by simp; omega)]
  · rw [va_up_self]
    by_cases e : z = 34
    · rw [e, va_up_self, ht]
    · simp at hz
      rw [va_up_ne _ _ e, fg.2.1 z (by simp; omega), z2 z (by omega) (by omega) e]
  · exact NR_keep hN3 (by rw [va_up_self, va_up_ne _ _ (by decide)]) (n71 _ (by decide)) (n71 _ (by decide)) (n71 _ (by decide)) (n71 _ (by decide))
  · rw [n71 88 (by decide)]; exact rm.2.2.1 x hx
  · rw [n71 94 (by decide)]; exact hG
  · rw [n71 95 (by decide)]; exact t2 i hi
  · rw [va_up_self, va_up_ne _ _ (by decide)]; exact t3
/-- what layCode may change -/
def FJ (I : IM) (L : LM) (I' : IM) (L' : LM) : Prop := (∀ x, x < 71 ∨ (72 ≤ x ∧ x ≤ 76) ∨ 98 ≤ x → I' x = I x ∧ L' x = L x) ∧ ∀ z, z ∉ [13, 18, 27, 30, 33, 35, 36, 37, 40] → I' 71 z = I 71 z
def LcR (I : IM) (k w r : Nat) (s : AS) : Prop := GrR I k w r s ∧ NXr I (cdA k w (sP s) (sN s) (sN s)).1 (cdA k w (sP s) (sN s) (sN s)).2.1 ∧ I 71 40 = nI (cdA k w (sP s) (sN s) (sN s)).2.2
set_option maxRecDepth 20000 in
set_option maxHeartbeats 4000000 in
theorem sp_X8_layCode {g : Gl} {D : Nat} {b : Bool} {I : IM} {L : LM} {k w n : Nat} {p : Pg} (hD : 8 ≤ D) (hk : k ≤ 4) (hwy : w < 3) (h : MR I n p) (hw : WfB 16 p n) (hk0 : I 71 0 = nI k) (hw0 : I 71 1 = nI w) (ht : I 71 34 = 0) : Me g D MX8_layCode [rf g 71] b I L (fun r b' I' L' => b' = b ∧ FJ I L I' L' ∧ ((goA k w 6 0 (bgA p n) = none ∧ r = some (.int 0)) ∨ (∃ rr s, goA k w 6 0 (bgA p n) = some (rr, s) ∧ r = some (.int 1) ∧ LcR I' k w rr s))) := by
  have hn := h.1
  refine Me.of [some (rf g 71), none, none, none, none, none, none] 6 rfl pf_X8_layCode (Nat.le_of_ble_eq_true rfl) ?_
  refine wq_bload_n 1 0 dX8_layCode_0 rfl rfl rfl ?_
  refine cVp0 4 (sp_X8_goRounds (by omega) hk hwy h hw hk0 hw0 ht) ml_X8_307 mf_X8_goRounds dX8_layCode_1 rfl o_71 (by decide) rfl (Nat.le_of_ble_eq_true rfl) (by omega) ?_
  rintro _ b I1 L1 ⟨rfl, fh, ⟨e, rfl⟩ | ⟨rr, s, e, rfl, gr⟩⟩
  · refine wq_if_ne 7 9 dX8_layCode_4 rfl (by decide) (fun c => absurd rfl c) (fun c => ?_)
    refine wq_iconst 8 0 dX8_layCode_7 rfl (by decide) ?_
    refine ri .boolean dX8_layCode_8 rfl rfl ?_
    exact ⟨rfl, ⟨fh.1, fun z hz => fh.2 z (by simp at hz ⊢; omega)⟩, Or.inl ⟨e, rfl⟩⟩
  refine wq_if_ne 7 9 dX8_layCode_4 rfl (by decide) (fun c4 => ?_) (fun c4 => absurd c4 (by decide))
  refine wq_bload_n 10 0 dX8_layCode_9 rfl rfl rfl ?_
  refine wq_iconst 11 0 dX8_layCode_10 rfl (by decide) ?_
  refine wq_putI 14 fl_X8_276 dX8_layCode_11 rfl rfl rfl rfl rfl o_71 ?_
  refine wq_bload_n 15 0 dX8_layCode_14 rfl rfl rfl ?_
  refine wq_iconst 16 0 dX8_layCode_15 rfl (by decide) ?_
  refine wq_putI 19 fl_X8_310 dX8_layCode_16 rfl rfl rfl rfl rfl o_71 ?_
  refine wq_iconst 20 0 dX8_layCode_19 rfl (by decide) ?_
  refine wq_istore_n 21 1 [_, _, _, _, _, _, _] dX8_layCode_20 rfl rfl rfl (Nat.le_of_ble_eq_true rfl) rfl ?_
  obtain ⟨ia, sz⟩ := IA_go hk 6 0 _ _ _ (IA_beg hw (by omega)) e
  obtain ⟨wf, sn90, sw48, slw, so6, cc⟩ := ia
  obtain ⟨f0, f1, -⟩ := round_facts (w := w) hk sn90 wf
  refine wq_gen (fun I2 L2 eI2 eL2 => ?_)
  rw [eL2]
  clear eL2
  have j71 : I2 71 = va_up (va_up (I1 71) 18 0) 40 0 := by rw [eI2]; simp [va_up_self]
  have jx : ∀ x, x ≠ 71 → I2 x = I1 x := fun x hx => by rw [eI2, va_up_ne _ _ hx, va_up_ne _ _ hx]
  clear eI2
  have key : ∀ I3 : IM, (∀ x, x ∉ [71, 81, 82, 83, 84] → I3 x = I1 x) → (∀ z, z ≠ 18 → z ≠ 40 → I3 71 z = I1 71 z) → NR I3 (sN s) (sP s) ∧ (∀ x, x < 64 → I3 88 x = nI (aA (endA k w (sP s) (sN s)) x)) ∧ (∀ x, x < 64 → I3 94 (rt (aA (endA k w (sP s) (sN s))) x) = rgA k w (sP s) (sN s) (ndA k w (sP s) (sN s) x)) ∧ GrR I3 k w rr s ∧ FJ I L I3 L1 := by
    intro I3 q1 q2
    obtain ⟨g1, g2, g3, g4, g5, g6, g7⟩ := gr
    have n3 : NR I3 (sN s) (sP s) := NR_keep g1 (q2 13 (by decide) (by decide)) (q1 _ (by decide)) (q1 _ (by decide)) (q1 _ (by decide)) (q1 _ (by decide))
    refine ⟨n3, fun x hx => by rw [q1 88 (by decide)]; exact g5 x hx, fun x hx => by rw [q1 94 (by decide), g6 _ (rt_lt f0 hx)]; rfl, ⟨n3, by rw [q2 35 (by decide) (by decide)]; exact g2, by rw [q2 36 (by decide) (by decide)]; exact g3, by rw [q2 37 (by decide) (by decide)]; exact g4, fun x hx => by rw [q1 88 (by decide)]; exact g5 x hx, by rw [q1 94 (by decide)]; exact g6, fun x x4 x16 => by rw [q1 97 (by decide)]; exact g7 x x4 x16⟩, fun x hx => ⟨by rw [q1 x (by simp; omega)]; exact (fh.1 x hx).1, (fh.1 x hx).2⟩, fun z hz => ?_⟩
    simp at hz
    rw [q2 z (by omega) (by omega)]
    exact fh.2 z (by simp; omega)
  have lp : ∀ r i I3 l2 l3 l4 l5 l6, i + r = sN s → NXr I3 (cdA k w (sP s) (sN s) i).1 (cdA k w (sP s) (sN s) i).2.1 → I3 71 40 = nI (cdA k w (sP s) (sN s) i).2.2 → (∀ x, x ∉ [71, 81, 82, 83, 84] → I3 x = I1 x) → (∀ z, z ≠ 18 → z ≠ 40 → I3 71 z = I1 71 z) → Wp (Kn g D MX8_layCode (fun r b' I' L' => b' = b ∧ FJ I L I' L' ∧ ((goA k w 6 0 (bgA p n) = none ∧ r = some (.int 0)) ∨ (∃ rr s, goA k w 6 0 (bgA p n) = some (rr, s) ∧ r = some (.int 1) ∧ LcR I' k w rr s)))) (Tb b) 21 [some (rf g 71), some (.int (nI i)), l2, l3, l4, l5, l6] [] I3 L1 := by
    intro r
    induction r with
    | zero =>
      intro i I3 l2 l3 l4 l5 l6 hi hX h40 q1 q2
      obtain ⟨n3, -, -, g3, fj⟩ := key I3 q1 q2
      have ei : i = sN s := by omega
      subst ei
      refine wq_iload_n 22 1 dX8_layCode_21 rfl rfl rfl ?_
      refine wq_bload_n 23 0 dX8_layCode_22 rfl rfl rfl ?_
      refine wq_getI 26 fl_X8_148 dX8_layCode_23 rfl rfl o_71 ?_
      refine wq_ic_ge 29 171 dX8_layCode_26 rfl (by decide) (fun c26 => ?_) (fun c26 => absurd (by rw [n3.2.1]; exact nI_le (Nat.le_refl _) (by omega)) c26)
      refine wq_iconst 172 1 dX8_layCode_171 rfl (by decide) ?_
      refine ri .boolean dX8_layCode_172 rfl rfl ?_
      exact ⟨rfl, fj, Or.inr ⟨rr, s, e, rfl, g3, hX, h40⟩⟩
    | succ r ih =>
      intro i I3 l2 l3 l4 l5 l6 hi hX h40 q1 q2
      obtain ⟨n3, hA3, hG3, g3, fj⟩ := key I3 q1 q2
      have hin : i < sN s := by omega
      have hle := cd_le k w (sP s) (sN s) i
      obtain ⟨kd, x, y, z, hF⟩ := row_form wf hin
      obtain ⟨r0, r1, r2, r3⟩ := n3.2.2 i hin
      obtain ⟨k9, e0, e1, x64, -, -, f1', f2', -, -, f3', f4', -, -⟩ := hF
      rw [e0] at r0
      rw [e1] at r1
      have J155 : ¬ (sP s i 0 = 1 ∧ cvA k w (sP s) (sN s) i 1 = cvA k w (sP s) (sN s) i 2) → ∀ l4, Wp (Kn g D MX8_layCode (fun r b' I' L' => b' = b ∧ FJ I L I' L' ∧ ((goA k w 6 0 (bgA p n) = none ∧ r = some (.int 0)) ∨ (∃ rr s, goA k w 6 0 (bgA p n) = some (rr, s) ∧ r = some (.int 1) ∧ LcR I' k w rr s)))) (Tb b) 155 [some (rf g 71), some (.int (nI i)), some (.int (nI kd)), some (.int (cvA k w (sP s) (sN s) i 1)), l4, some (.int (cvA k w (sP s) (sN s) i 2)), some (.int (cvA k w (sP s) (sN s) i 3))] [] I3 L1 := by
        intro hc l4
        have ec : cdA k w (sP s) (sN s) (i + 1) = (pX (cdA k w (sP s) (sN s) i).1 (cdA k w (sP s) (sN s) i).2.1 (sP s i 0) (cvA k w (sP s) (sN s) i 1) (cvA k w (sP s) (sN s) i 2) (cvA k w (sP s) (sN s) i 3), (cdA k w (sP s) (sN s) i).2.1 + 1, (cdA k w (sP s) (sN s) i).2.2) := by rw [cdA, cdR, if_neg hc]
        refine wq_bload_n 156 0 dX8_layCode_155 rfl rfl rfl ?_
        refine wq_iload_n 157 2 dX8_layCode_156 rfl rfl rfl ?_
        refine wq_iload_n 158 3 dX8_layCode_157 rfl rfl rfl ?_
        refine wq_iload 160 dX8_layCode_158 rfl rfl ?_
        refine wq_iload 162 dX8_layCode_160 rfl rfl ?_
        refine cVp4 165 (sp_X8_put hX (by omega) _ _ _ _) ml_X8_285 mf_X8_put dX8_layCode_162 rfl o_71 (by decide) rfl (Nat.le_of_ble_eq_true rfl) (by omega) ?_
        rintro _ b I4 L4 ⟨rfl, rfl, rfl, o1, o2, o3⟩
        refine wq_iinc 168 (_ + 1) [_, _, _, _, _, _, _] dX8_layCode_165 rfl rfl (inc1 _) rfl (Nat.le_of_ble_eq_true rfl) rfl ?_
        refine wq_goto 21 dX8_layCode_168 (by decide) ?_
        rw [← nI_succ]
        refine ih (i + 1) I4 _ _ _ _ _ (by omega) ?_ ?_ (fun x hx => by rw [o3.1 x hx]; exact q1 x hx) (fun z y1 y2 => by rw [o2 z y1]; exact q2 z y1 y2)
        · rw [ec, e0]; exact o1
        · rw [ec, o2 40 (by decide)]; exact h40
      have J142 : sP s i 0 = 1 ∧ cvA k w (sP s) (sN s) i 1 = cvA k w (sP s) (sN s) i 2 → ∀ l2 l3 l4 l5 l6, Wp (Kn g D MX8_layCode (fun r b' I' L' => b' = b ∧ FJ I L I' L' ∧ ((goA k w 6 0 (bgA p n) = none ∧ r = some (.int 0)) ∨ (∃ rr s, goA k w 6 0 (bgA p n) = some (rr, s) ∧ r = some (.int 1) ∧ LcR I' k w rr s)))) (Tb b) 142 [some (rf g 71), some (.int (nI i)), l2, l3, l4, l5, l6] [] I3 L1 := by
        intro hc l2 l3 l4 l5 l6
        have ec : cdA k w (sP s) (sN s) (i + 1) = ((cdA k w (sP s) (sN s) i).1, (cdA k w (sP s) (sN s) i).2.1, (cdA k w (sP s) (sN s) i).2.2 + 1) := by rw [cdA, cdR, if_pos hc]
        refine wq_bload_n 143 0 dX8_layCode_142 rfl rfl rfl ?_
        refine wq_dup 144 dX8_layCode_143 rfl rfl ?_
        refine wq_getI 147 fl_X8_310 dX8_layCode_144 rfl rfl o_71 ?_
        refine wq_iconst 148 1 dX8_layCode_147 rfl (by decide) ?_
        refine wq_iadd 149 dX8_layCode_148 rfl ?_
        refine wq_putI 152 fl_X8_310 dX8_layCode_149 rfl rfl rfl rfl rfl o_71 ?_
        refine wq_goto 165 dX8_layCode_152 (by decide) ?_
        refine wq_iinc 168 (_ + 1) [_, _, _, _, _, _, _] dX8_layCode_165 rfl rfl (inc1 _) rfl (Nat.le_of_ble_eq_true rfl) rfl ?_
        refine wq_goto 21 dX8_layCode_168 (by decide) ?_
        rw [← nI_succ, h40, ← nI_succ]
        refine ih (i + 1) _ _ _ _ _ _ (by omega) ?_ ?_ (fun x hx => by rw [va_up_ne _ _ (by simp at hx; exact hx.1)]; exact q1 x hx) (fun z y1 y2 => by rw [va_up_self, va_up_ne _ _ y2]; exact q2 z y1 y2)
        · rw [ec]; exact ⟨by rw [va_up_self, va_up_ne _ _ (by decide)]; exact hX.1, fun j hj hj2 => by rw [va_up_ne _ _ (by decide), va_up_ne _ _ (by decide), va_up_ne _ _ (by decide), va_up_ne _ _ (by decide)]; exact hX.2 j hj hj2⟩
        · rw [ec, va_up_self, va_up_self]
      have hk9 : kd = 0 ∨ kd = 1 ∨ kd = 2 ∨ kd = 3 ∨ kd = 4 ∨ kd = 5 ∨ kd = 6 ∨ kd = 7 ∨ kd = 8 := by omega
      rcases hk9 with rfl | rfl | rfl | rfl | rfl | rfl | rfl | rfl | rfl
      · skip
        have v1 : cvA k w (sP s) (sN s) i 1 = rgA k w (sP s) (sN s) (ndA k w (sP s) (sN s) x) := by rw [cvA, e0, if_pos (by decide), e1, nI_clamp (by have := x64; omega)]
        have v2 : cvA k w (sP s) (sN s) i 2 = sP s i 2 := by rw [cvA, e0, if_neg (by decide)]
        have v3 : cvA k w (sP s) (sN s) i 3 = -6 := by rw [cvA, e0, if_neg (by decide)]; exact f4' (by decide)
        refine wq_iload_n 22 1 dX8_layCode_21 rfl rfl rfl ?_
        refine wq_bload_n 23 0 dX8_layCode_22 rfl rfl rfl ?_
        refine wq_getI 26 fl_X8_148 dX8_layCode_23 rfl rfl o_71 ?_
        refine wq_ic_ge 29 171 dX8_layCode_26 rfl (by decide) (fun c26 => absurd c26 (by rw [n3.2.1]; exact nI_ge (by omega) (by omega))) (fun c26 => ?_)
        refine wq_bload_n 30 0 dX8_layCode_29 rfl rfl rfl ?_
        refine wq_getR 33 fl_X8_29 dX8_layCode_30 rfl rfl o_71 (rfl : (Tb _).2.2.2 71 9 = some 77) ?_
        refine wq_iload_n 34 1 dX8_layCode_33 rfl rfl rfl ?_
        refine wq_iald 35 dX8_layCode_34 rfl a_77 (Ix.nI (by have := n3.1; omega) (by decide)) ?_
        rw [r0]
        refine wq_istore_n 36 2 [_, _, _, _, _, _, _] dX8_layCode_35 rfl rfl rfl (Nat.le_of_ble_eq_true rfl) rfl ?_
        refine wq_iload_n 37 2 dX8_layCode_36 rfl rfl rfl ?_
        refine wq_iconst 38 5 dX8_layCode_37 rfl (by decide) ?_
        refine wq_ic_ne 41 50 dX8_layCode_38 rfl (by decide) (fun c38 => ?_) (fun c38 => absurd c38 (by decide))
        refine wq_bload_n 51 0 dX8_layCode_50 rfl rfl rfl ?_
        refine wq_bload_n 52 0 dX8_layCode_51 rfl rfl rfl ?_
        refine wq_getR 55 fl_X8_32 dX8_layCode_52 rfl rfl o_71 (rfl : (Tb _).2.2.2 71 10 = some 78) ?_
        refine wq_iload_n 56 1 dX8_layCode_55 rfl rfl rfl ?_
        refine wq_iald 57 dX8_layCode_56 rfl a_78 (Ix.nI (by have := n3.1; omega) (by decide)) ?_
        refine cVi1 60 (sp_X8_register (by omega) hA3 f0 x r1 x64) ml_X8_313 mf_X8_register dX8_layCode_57 rfl o_71 (by decide) rfl (Nat.le_of_ble_eq_true rfl) (by omega) ?_
        rw [hG3 x x64, ← v1]
        refine wq_istore_n 61 3 [_, _, _, _, _, _, _] dX8_layCode_60 rfl rfl rfl (Nat.le_of_ble_eq_true rfl) rfl ?_
        refine wq_iload_n 62 2 dX8_layCode_61 rfl rfl rfl ?_
        refine wq_iconst 63 1 dX8_layCode_62 rfl (by decide) ?_
        refine wq_ic_eq 66 76 dX8_layCode_63 rfl (by decide) (fun c63 => absurd c63 (by decide)) (fun c63 => ?_)
        refine wq_iload_n 67 2 dX8_layCode_66 rfl rfl rfl ?_
        refine wq_iconst 68 2 dX8_layCode_67 rfl (by decide) ?_
        refine wq_ic_eq 71 76 dX8_layCode_68 rfl (by decide) (fun c68 => absurd c68 (by decide)) (fun c68 => ?_)
        refine wq_iload_n 72 2 dX8_layCode_71 rfl rfl rfl ?_
        refine wq_iconst 73 3 dX8_layCode_72 rfl (by decide) ?_
        refine wq_ic_ne 76 80 dX8_layCode_73 rfl (by decide) (fun c73 => ?_) (fun c73 => absurd c73 (by decide))
        refine wq_iconst 81 0 dX8_layCode_80 rfl (by decide) ?_
        refine wq_istore 83 [_, _, _, _, _, _, _] dX8_layCode_81 rfl rfl (Nat.le_of_ble_eq_true rfl) rfl ?_
        refine wq_iload 85 dX8_layCode_83 rfl rfl ?_
        refine wq_if_eq 88 101 dX8_layCode_85 rfl (by decide) (fun c85 => ?_) (fun c85 => absurd rfl c85)
        refine wq_bload_n 102 0 dX8_layCode_101 rfl rfl rfl ?_
        refine wq_getR 105 fl_X8_35 dX8_layCode_102 rfl rfl o_71 (rfl : (Tb _).2.2.2 71 11 = some 79) ?_
        refine wq_iload_n 106 1 dX8_layCode_105 rfl rfl rfl ?_
        refine wq_iald 107 dX8_layCode_106 rfl a_79 (Ix.nI (by have := n3.1; omega) (by decide)) ?_
        rw [r2, ← v2]
        refine wq_istore 109 [_, _, _, _, _, _, _] dX8_layCode_107 rfl rfl (Nat.le_of_ble_eq_true rfl) rfl ?_
        refine wq_iload_n 110 2 dX8_layCode_109 rfl rfl rfl ?_
        refine wq_iconst 111 2 dX8_layCode_110 rfl (by decide) ?_
        refine wq_ic_ne 114 127 dX8_layCode_111 rfl (by decide) (fun c111 => ?_) (fun c111 => absurd c111 (by decide))
        refine wq_bipush 129 (-6) dX8_layCode_127 rfl (by decide) ?_
        rw [← v3]
        refine wq_istore 131 [_, _, _, _, _, _, _] dX8_layCode_129 rfl rfl (Nat.le_of_ble_eq_true rfl) rfl ?_
        refine wq_iload_n 132 2 dX8_layCode_131 rfl rfl rfl ?_
        refine wq_iconst 133 1 dX8_layCode_132 rfl (by decide) ?_
        refine wq_ic_ne 136 155 dX8_layCode_133 rfl (by decide) (fun c133 => ?_) (fun c133 => absurd c133 (by decide))
        exact J155 (fun q => by rw [e0] at q; exact absurd q.1 (by decide)) _
      · skip
        have v1 : cvA k w (sP s) (sN s) i 1 = rgA k w (sP s) (sN s) (ndA k w (sP s) (sN s) x) := by rw [cvA, e0, if_pos (by decide), e1, nI_clamp (by have := x64; omega)]
        have v2 : cvA k w (sP s) (sN s) i 2 = rgA k w (sP s) (sN s) (ndA k w (sP s) (sN s) y) := by rw [cvA, e0, if_pos (by decide), (f2' (by decide)).1, nI_clamp (by have := (f2' (by decide)).2; omega)]
        have v3 : cvA k w (sP s) (sN s) i 3 = -6 := by rw [cvA, e0, if_neg (by decide)]; exact f4' (by decide)
        refine wq_iload_n 22 1 dX8_layCode_21 rfl rfl rfl ?_
        refine wq_bload_n 23 0 dX8_layCode_22 rfl rfl rfl ?_
        refine wq_getI 26 fl_X8_148 dX8_layCode_23 rfl rfl o_71 ?_
        refine wq_ic_ge 29 171 dX8_layCode_26 rfl (by decide) (fun c26 => absurd c26 (by rw [n3.2.1]; exact nI_ge (by omega) (by omega))) (fun c26 => ?_)
        refine wq_bload_n 30 0 dX8_layCode_29 rfl rfl rfl ?_
        refine wq_getR 33 fl_X8_29 dX8_layCode_30 rfl rfl o_71 (rfl : (Tb _).2.2.2 71 9 = some 77) ?_
        refine wq_iload_n 34 1 dX8_layCode_33 rfl rfl rfl ?_
        refine wq_iald 35 dX8_layCode_34 rfl a_77 (Ix.nI (by have := n3.1; omega) (by decide)) ?_
        rw [r0]
        refine wq_istore_n 36 2 [_, _, _, _, _, _, _] dX8_layCode_35 rfl rfl rfl (Nat.le_of_ble_eq_true rfl) rfl ?_
        refine wq_iload_n 37 2 dX8_layCode_36 rfl rfl rfl ?_
        refine wq_iconst 38 5 dX8_layCode_37 rfl (by decide) ?_
        refine wq_ic_ne 41 50 dX8_layCode_38 rfl (by decide) (fun c38 => ?_) (fun c38 => absurd c38 (by decide))
        refine wq_bload_n 51 0 dX8_layCode_50 rfl rfl rfl ?_
        refine wq_bload_n 52 0 dX8_layCode_51 rfl rfl rfl ?_
        refine wq_getR 55 fl_X8_32 dX8_layCode_52 rfl rfl o_71 (rfl : (Tb _).2.2.2 71 10 = some 78) ?_
        refine wq_iload_n 56 1 dX8_layCode_55 rfl rfl rfl ?_
        refine wq_iald 57 dX8_layCode_56 rfl a_78 (Ix.nI (by have := n3.1; omega) (by decide)) ?_
        refine cVi1 60 (sp_X8_register (by omega) hA3 f0 x r1 x64) ml_X8_313 mf_X8_register dX8_layCode_57 rfl o_71 (by decide) rfl (Nat.le_of_ble_eq_true rfl) (by omega) ?_
        rw [hG3 x x64, ← v1]
        refine wq_istore_n 61 3 [_, _, _, _, _, _, _] dX8_layCode_60 rfl rfl rfl (Nat.le_of_ble_eq_true rfl) rfl ?_
        refine wq_iload_n 62 2 dX8_layCode_61 rfl rfl rfl ?_
        refine wq_iconst 63 1 dX8_layCode_62 rfl (by decide) ?_
        refine wq_ic_eq 66 76 dX8_layCode_63 rfl (by decide) (fun c63 => ?_) (fun c63 => absurd rfl c63)
        refine wq_iconst 77 1 dX8_layCode_76 rfl (by decide) ?_
        refine wq_goto 81 dX8_layCode_77 (by decide) ?_
        refine wq_istore 83 [_, _, _, _, _, _, _] dX8_layCode_81 rfl rfl (Nat.le_of_ble_eq_true rfl) rfl ?_
        refine wq_iload 85 dX8_layCode_83 rfl rfl ?_
        refine wq_if_eq 88 101 dX8_layCode_85 rfl (by decide) (fun c85 => absurd c85 (by decide)) (fun c85 => ?_)
        refine wq_bload_n 89 0 dX8_layCode_88 rfl rfl rfl ?_
        refine wq_bload_n 90 0 dX8_layCode_89 rfl rfl rfl ?_
        refine wq_getR 93 fl_X8_35 dX8_layCode_90 rfl rfl o_71 (rfl : (Tb _).2.2.2 71 11 = some 79) ?_
        refine wq_iload_n 94 1 dX8_layCode_93 rfl rfl rfl ?_
        refine wq_iald 95 dX8_layCode_94 rfl a_79 (Ix.nI (by have := n3.1; omega) (by decide)) ?_
        refine cVi1 98 (sp_X8_register (by omega) hA3 f0 y (by rw [r2]; exact (f2' (by decide)).1) (f2' (by decide)).2) ml_X8_313 mf_X8_register dX8_layCode_95 rfl o_71 (by decide) rfl (Nat.le_of_ble_eq_true rfl) (by omega) ?_
        rw [hG3 y (f2' (by decide)).2, ← v2]
        refine wq_goto 107 dX8_layCode_98 (by decide) ?_
        refine wq_istore 109 [_, _, _, _, _, _, _] dX8_layCode_107 rfl rfl (Nat.le_of_ble_eq_true rfl) rfl ?_
        refine wq_iload_n 110 2 dX8_layCode_109 rfl rfl rfl ?_
        refine wq_iconst 111 2 dX8_layCode_110 rfl (by decide) ?_
        refine wq_ic_ne 114 127 dX8_layCode_111 rfl (by decide) (fun c111 => ?_) (fun c111 => absurd c111 (by decide))
        refine wq_bipush 129 (-6) dX8_layCode_127 rfl (by decide) ?_
        rw [← v3]
        refine wq_istore 131 [_, _, _, _, _, _, _] dX8_layCode_129 rfl rfl (Nat.le_of_ble_eq_true rfl) rfl ?_
        refine wq_iload_n 132 2 dX8_layCode_131 rfl rfl rfl ?_
        refine wq_iconst 133 1 dX8_layCode_132 rfl (by decide) ?_
        refine wq_ic_ne 136 155 dX8_layCode_133 rfl (by decide) (fun c133 => absurd c133 (fun z => z rfl)) (fun c133 => ?_)
        refine wq_iload_n 137 3 dX8_layCode_136 rfl rfl rfl ?_
        refine wq_iload 139 dX8_layCode_137 rfl rfl ?_
        refine wq_ic_ne 142 155 dX8_layCode_139 rfl (by decide) (fun c139 => ?_) (fun c139 => ?_)
        · skip
          exact J155 (fun q => c139 q.2) _
        · skip
          exact J142 ⟨e0, c139⟩ _ _ _ _ _
      · skip
        have v1 : cvA k w (sP s) (sN s) i 1 = rgA k w (sP s) (sN s) (ndA k w (sP s) (sN s) x) := by rw [cvA, e0, if_pos (by decide), e1, nI_clamp (by have := x64; omega)]
        have v2 : cvA k w (sP s) (sN s) i 2 = rgA k w (sP s) (sN s) (ndA k w (sP s) (sN s) y) := by rw [cvA, e0, if_pos (by decide), (f2' (by decide)).1, nI_clamp (by have := (f2' (by decide)).2; omega)]
        have v3 : cvA k w (sP s) (sN s) i 3 = rgA k w (sP s) (sN s) (ndA k w (sP s) (sN s) z) := by rw [cvA, e0, if_pos (by decide), (f3' rfl).1, nI_clamp (by have := (f3' rfl).2.2; omega)]
        refine wq_iload_n 22 1 dX8_layCode_21 rfl rfl rfl ?_
        refine wq_bload_n 23 0 dX8_layCode_22 rfl rfl rfl ?_
        refine wq_getI 26 fl_X8_148 dX8_layCode_23 rfl rfl o_71 ?_
        refine wq_ic_ge 29 171 dX8_layCode_26 rfl (by decide) (fun c26 => absurd c26 (by rw [n3.2.1]; exact nI_ge (by omega) (by omega))) (fun c26 => ?_)
        refine wq_bload_n 30 0 dX8_layCode_29 rfl rfl rfl ?_
        refine wq_getR 33 fl_X8_29 dX8_layCode_30 rfl rfl o_71 (rfl : (Tb _).2.2.2 71 9 = some 77) ?_
        refine wq_iload_n 34 1 dX8_layCode_33 rfl rfl rfl ?_
        refine wq_iald 35 dX8_layCode_34 rfl a_77 (Ix.nI (by have := n3.1; omega) (by decide)) ?_
        rw [r0]
        refine wq_istore_n 36 2 [_, _, _, _, _, _, _] dX8_layCode_35 rfl rfl rfl (Nat.le_of_ble_eq_true rfl) rfl ?_
        refine wq_iload_n 37 2 dX8_layCode_36 rfl rfl rfl ?_
        refine wq_iconst 38 5 dX8_layCode_37 rfl (by decide) ?_
        refine wq_ic_ne 41 50 dX8_layCode_38 rfl (by decide) (fun c38 => ?_) (fun c38 => absurd c38 (by decide))
        refine wq_bload_n 51 0 dX8_layCode_50 rfl rfl rfl ?_
        refine wq_bload_n 52 0 dX8_layCode_51 rfl rfl rfl ?_
        refine wq_getR 55 fl_X8_32 dX8_layCode_52 rfl rfl o_71 (rfl : (Tb _).2.2.2 71 10 = some 78) ?_
        refine wq_iload_n 56 1 dX8_layCode_55 rfl rfl rfl ?_
        refine wq_iald 57 dX8_layCode_56 rfl a_78 (Ix.nI (by have := n3.1; omega) (by decide)) ?_
        refine cVi1 60 (sp_X8_register (by omega) hA3 f0 x r1 x64) ml_X8_313 mf_X8_register dX8_layCode_57 rfl o_71 (by decide) rfl (Nat.le_of_ble_eq_true rfl) (by omega) ?_
        rw [hG3 x x64, ← v1]
        refine wq_istore_n 61 3 [_, _, _, _, _, _, _] dX8_layCode_60 rfl rfl rfl (Nat.le_of_ble_eq_true rfl) rfl ?_
        refine wq_iload_n 62 2 dX8_layCode_61 rfl rfl rfl ?_
        refine wq_iconst 63 1 dX8_layCode_62 rfl (by decide) ?_
        refine wq_ic_eq 66 76 dX8_layCode_63 rfl (by decide) (fun c63 => absurd c63 (by decide)) (fun c63 => ?_)
        refine wq_iload_n 67 2 dX8_layCode_66 rfl rfl rfl ?_
        refine wq_iconst 68 2 dX8_layCode_67 rfl (by decide) ?_
        refine wq_ic_eq 71 76 dX8_layCode_68 rfl (by decide) (fun c68 => ?_) (fun c68 => absurd rfl c68)
        refine wq_iconst 77 1 dX8_layCode_76 rfl (by decide) ?_
        refine wq_goto 81 dX8_layCode_77 (by decide) ?_
        refine wq_istore 83 [_, _, _, _, _, _, _] dX8_layCode_81 rfl rfl (Nat.le_of_ble_eq_true rfl) rfl ?_
        refine wq_iload 85 dX8_layCode_83 rfl rfl ?_
        refine wq_if_eq 88 101 dX8_layCode_85 rfl (by decide) (fun c85 => absurd c85 (by decide)) (fun c85 => ?_)
        refine wq_bload_n 89 0 dX8_layCode_88 rfl rfl rfl ?_
        refine wq_bload_n 90 0 dX8_layCode_89 rfl rfl rfl ?_
        refine wq_getR 93 fl_X8_35 dX8_layCode_90 rfl rfl o_71 (rfl : (Tb _).2.2.2 71 11 = some 79) ?_
        refine wq_iload_n 94 1 dX8_layCode_93 rfl rfl rfl ?_
        refine wq_iald 95 dX8_layCode_94 rfl a_79 (Ix.nI (by have := n3.1; omega) (by decide)) ?_
        refine cVi1 98 (sp_X8_register (by omega) hA3 f0 y (by rw [r2]; exact (f2' (by decide)).1) (f2' (by decide)).2) ml_X8_313 mf_X8_register dX8_layCode_95 rfl o_71 (by decide) rfl (Nat.le_of_ble_eq_true rfl) (by omega) ?_
        rw [hG3 y (f2' (by decide)).2, ← v2]
        refine wq_goto 107 dX8_layCode_98 (by decide) ?_
        refine wq_istore 109 [_, _, _, _, _, _, _] dX8_layCode_107 rfl rfl (Nat.le_of_ble_eq_true rfl) rfl ?_
        refine wq_iload_n 110 2 dX8_layCode_109 rfl rfl rfl ?_
        refine wq_iconst 111 2 dX8_layCode_110 rfl (by decide) ?_
        refine wq_ic_ne 114 127 dX8_layCode_111 rfl (by decide) (fun c111 => absurd c111 (fun z => z rfl)) (fun c111 => ?_)
        refine wq_bload_n 115 0 dX8_layCode_114 rfl rfl rfl ?_
        refine wq_bload_n 116 0 dX8_layCode_115 rfl rfl rfl ?_
        refine wq_getR 119 fl_X8_38 dX8_layCode_116 rfl rfl o_71 (rfl : (Tb _).2.2.2 71 12 = some 80) ?_
        refine wq_iload_n 120 1 dX8_layCode_119 rfl rfl rfl ?_
        refine wq_iald 121 dX8_layCode_120 rfl a_80 (Ix.nI (by have := n3.1; omega) (by decide)) ?_
        refine cVi1 124 (sp_X8_register (by omega) hA3 f0 z (by rw [r3]; exact (f3' rfl).1) (f3' rfl).2.2) ml_X8_313 mf_X8_register dX8_layCode_121 rfl o_71 (by decide) rfl (Nat.le_of_ble_eq_true rfl) (by omega) ?_
        rw [hG3 z (f3' rfl).2.2, ← v3]
        refine wq_goto 129 dX8_layCode_124 (by decide) ?_
        refine wq_istore 131 [_, _, _, _, _, _, _] dX8_layCode_129 rfl rfl (Nat.le_of_ble_eq_true rfl) rfl ?_
        refine wq_iload_n 132 2 dX8_layCode_131 rfl rfl rfl ?_
        refine wq_iconst 133 1 dX8_layCode_132 rfl (by decide) ?_
        refine wq_ic_ne 136 155 dX8_layCode_133 rfl (by decide) (fun c133 => ?_) (fun c133 => absurd c133 (by decide))
        exact J155 (fun q => by rw [e0] at q; exact absurd q.1 (by decide)) _
      · skip
        have v1 : cvA k w (sP s) (sN s) i 1 = rgA k w (sP s) (sN s) (ndA k w (sP s) (sN s) x) := by rw [cvA, e0, if_pos (by decide), e1, nI_clamp (by have := x64; omega)]
        have v2 : cvA k w (sP s) (sN s) i 2 = rgA k w (sP s) (sN s) (ndA k w (sP s) (sN s) y) := by rw [cvA, e0, if_pos (by decide), (f2' (by decide)).1, nI_clamp (by have := (f2' (by decide)).2; omega)]
        have v3 : cvA k w (sP s) (sN s) i 3 = -6 := by rw [cvA, e0, if_neg (by decide)]; exact f4' (by decide)
        refine wq_iload_n 22 1 dX8_layCode_21 rfl rfl rfl ?_
        refine wq_bload_n 23 0 dX8_layCode_22 rfl rfl rfl ?_
        refine wq_getI 26 fl_X8_148 dX8_layCode_23 rfl rfl o_71 ?_
        refine wq_ic_ge 29 171 dX8_layCode_26 rfl (by decide) (fun c26 => absurd c26 (by rw [n3.2.1]; exact nI_ge (by omega) (by omega))) (fun c26 => ?_)
        refine wq_bload_n 30 0 dX8_layCode_29 rfl rfl rfl ?_
        refine wq_getR 33 fl_X8_29 dX8_layCode_30 rfl rfl o_71 (rfl : (Tb _).2.2.2 71 9 = some 77) ?_
        refine wq_iload_n 34 1 dX8_layCode_33 rfl rfl rfl ?_
        refine wq_iald 35 dX8_layCode_34 rfl a_77 (Ix.nI (by have := n3.1; omega) (by decide)) ?_
        rw [r0]
        refine wq_istore_n 36 2 [_, _, _, _, _, _, _] dX8_layCode_35 rfl rfl rfl (Nat.le_of_ble_eq_true rfl) rfl ?_
        refine wq_iload_n 37 2 dX8_layCode_36 rfl rfl rfl ?_
        refine wq_iconst 38 5 dX8_layCode_37 rfl (by decide) ?_
        refine wq_ic_ne 41 50 dX8_layCode_38 rfl (by decide) (fun c38 => ?_) (fun c38 => absurd c38 (by decide))
        refine wq_bload_n 51 0 dX8_layCode_50 rfl rfl rfl ?_
        refine wq_bload_n 52 0 dX8_layCode_51 rfl rfl rfl ?_
        refine wq_getR 55 fl_X8_32 dX8_layCode_52 rfl rfl o_71 (rfl : (Tb _).2.2.2 71 10 = some 78) ?_
        refine wq_iload_n 56 1 dX8_layCode_55 rfl rfl rfl ?_
        refine wq_iald 57 dX8_layCode_56 rfl a_78 (Ix.nI (by have := n3.1; omega) (by decide)) ?_
        refine cVi1 60 (sp_X8_register (by omega) hA3 f0 x r1 x64) ml_X8_313 mf_X8_register dX8_layCode_57 rfl o_71 (by decide) rfl (Nat.le_of_ble_eq_true rfl) (by omega) ?_
        rw [hG3 x x64, ← v1]
        refine wq_istore_n 61 3 [_, _, _, _, _, _, _] dX8_layCode_60 rfl rfl rfl (Nat.le_of_ble_eq_true rfl) rfl ?_
        refine wq_iload_n 62 2 dX8_layCode_61 rfl rfl rfl ?_
        refine wq_iconst 63 1 dX8_layCode_62 rfl (by decide) ?_
        refine wq_ic_eq 66 76 dX8_layCode_63 rfl (by decide) (fun c63 => absurd c63 (by decide)) (fun c63 => ?_)
        refine wq_iload_n 67 2 dX8_layCode_66 rfl rfl rfl ?_
        refine wq_iconst 68 2 dX8_layCode_67 rfl (by decide) ?_
        refine wq_ic_eq 71 76 dX8_layCode_68 rfl (by decide) (fun c68 => absurd c68 (by decide)) (fun c68 => ?_)
        refine wq_iload_n 72 2 dX8_layCode_71 rfl rfl rfl ?_
        refine wq_iconst 73 3 dX8_layCode_72 rfl (by decide) ?_
        refine wq_ic_ne 76 80 dX8_layCode_73 rfl (by decide) (fun c73 => absurd c73 (fun z => z rfl)) (fun c73 => ?_)
        refine wq_iconst 77 1 dX8_layCode_76 rfl (by decide) ?_
        refine wq_goto 81 dX8_layCode_77 (by decide) ?_
        refine wq_istore 83 [_, _, _, _, _, _, _] dX8_layCode_81 rfl rfl (Nat.le_of_ble_eq_true rfl) rfl ?_
        refine wq_iload 85 dX8_layCode_83 rfl rfl ?_
        refine wq_if_eq 88 101 dX8_layCode_85 rfl (by decide) (fun c85 => absurd c85 (by decide)) (fun c85 => ?_)
        refine wq_bload_n 89 0 dX8_layCode_88 rfl rfl rfl ?_
        refine wq_bload_n 90 0 dX8_layCode_89 rfl rfl rfl ?_
        refine wq_getR 93 fl_X8_35 dX8_layCode_90 rfl rfl o_71 (rfl : (Tb _).2.2.2 71 11 = some 79) ?_
        refine wq_iload_n 94 1 dX8_layCode_93 rfl rfl rfl ?_
        refine wq_iald 95 dX8_layCode_94 rfl a_79 (Ix.nI (by have := n3.1; omega) (by decide)) ?_
        refine cVi1 98 (sp_X8_register (by omega) hA3 f0 y (by rw [r2]; exact (f2' (by decide)).1) (f2' (by decide)).2) ml_X8_313 mf_X8_register dX8_layCode_95 rfl o_71 (by decide) rfl (Nat.le_of_ble_eq_true rfl) (by omega) ?_
        rw [hG3 y (f2' (by decide)).2, ← v2]
        refine wq_goto 107 dX8_layCode_98 (by decide) ?_
        refine wq_istore 109 [_, _, _, _, _, _, _] dX8_layCode_107 rfl rfl (Nat.le_of_ble_eq_true rfl) rfl ?_
        refine wq_iload_n 110 2 dX8_layCode_109 rfl rfl rfl ?_
        refine wq_iconst 111 2 dX8_layCode_110 rfl (by decide) ?_
        refine wq_ic_ne 114 127 dX8_layCode_111 rfl (by decide) (fun c111 => ?_) (fun c111 => absurd c111 (by decide))
        refine wq_bipush 129 (-6) dX8_layCode_127 rfl (by decide) ?_
        rw [← v3]
        refine wq_istore 131 [_, _, _, _, _, _, _] dX8_layCode_129 rfl rfl (Nat.le_of_ble_eq_true rfl) rfl ?_
        refine wq_iload_n 132 2 dX8_layCode_131 rfl rfl rfl ?_
        refine wq_iconst 133 1 dX8_layCode_132 rfl (by decide) ?_
        refine wq_ic_ne 136 155 dX8_layCode_133 rfl (by decide) (fun c133 => ?_) (fun c133 => absurd c133 (by decide))
        exact J155 (fun q => by rw [e0] at q; exact absurd q.1 (by decide)) _
      · skip
        have v1 : cvA k w (sP s) (sN s) i 1 = rgA k w (sP s) (sN s) (ndA k w (sP s) (sN s) x) := by rw [cvA, e0, if_pos (by decide), e1, nI_clamp (by have := x64; omega)]
        have v2 : cvA k w (sP s) (sN s) i 2 = sP s i 2 := by rw [cvA, e0, if_neg (by decide)]
        have v3 : cvA k w (sP s) (sN s) i 3 = -6 := by rw [cvA, e0, if_neg (by decide)]; exact f4' (by decide)
        refine wq_iload_n 22 1 dX8_layCode_21 rfl rfl rfl ?_
        refine wq_bload_n 23 0 dX8_layCode_22 rfl rfl rfl ?_
        refine wq_getI 26 fl_X8_148 dX8_layCode_23 rfl rfl o_71 ?_
        refine wq_ic_ge 29 171 dX8_layCode_26 rfl (by decide) (fun c26 => absurd c26 (by rw [n3.2.1]; exact nI_ge (by omega) (by omega))) (fun c26 => ?_)
        refine wq_bload_n 30 0 dX8_layCode_29 rfl rfl rfl ?_
        refine wq_getR 33 fl_X8_29 dX8_layCode_30 rfl rfl o_71 (rfl : (Tb _).2.2.2 71 9 = some 77) ?_
        refine wq_iload_n 34 1 dX8_layCode_33 rfl rfl rfl ?_
        refine wq_iald 35 dX8_layCode_34 rfl a_77 (Ix.nI (by have := n3.1; omega) (by decide)) ?_
        rw [r0]
        refine wq_istore_n 36 2 [_, _, _, _, _, _, _] dX8_layCode_35 rfl rfl rfl (Nat.le_of_ble_eq_true rfl) rfl ?_
        refine wq_iload_n 37 2 dX8_layCode_36 rfl rfl rfl ?_
        refine wq_iconst 38 5 dX8_layCode_37 rfl (by decide) ?_
        refine wq_ic_ne 41 50 dX8_layCode_38 rfl (by decide) (fun c38 => ?_) (fun c38 => absurd c38 (by decide))
        refine wq_bload_n 51 0 dX8_layCode_50 rfl rfl rfl ?_
        refine wq_bload_n 52 0 dX8_layCode_51 rfl rfl rfl ?_
        refine wq_getR 55 fl_X8_32 dX8_layCode_52 rfl rfl o_71 (rfl : (Tb _).2.2.2 71 10 = some 78) ?_
        refine wq_iload_n 56 1 dX8_layCode_55 rfl rfl rfl ?_
        refine wq_iald 57 dX8_layCode_56 rfl a_78 (Ix.nI (by have := n3.1; omega) (by decide)) ?_
        refine cVi1 60 (sp_X8_register (by omega) hA3 f0 x r1 x64) ml_X8_313 mf_X8_register dX8_layCode_57 rfl o_71 (by decide) rfl (Nat.le_of_ble_eq_true rfl) (by omega) ?_
        rw [hG3 x x64, ← v1]
        refine wq_istore_n 61 3 [_, _, _, _, _, _, _] dX8_layCode_60 rfl rfl rfl (Nat.le_of_ble_eq_true rfl) rfl ?_
        refine wq_iload_n 62 2 dX8_layCode_61 rfl rfl rfl ?_
        refine wq_iconst 63 1 dX8_layCode_62 rfl (by decide) ?_
        refine wq_ic_eq 66 76 dX8_layCode_63 rfl (by decide) (fun c63 => absurd c63 (by decide)) (fun c63 => ?_)
        refine wq_iload_n 67 2 dX8_layCode_66 rfl rfl rfl ?_
        refine wq_iconst 68 2 dX8_layCode_67 rfl (by decide) ?_
        refine wq_ic_eq 71 76 dX8_layCode_68 rfl (by decide) (fun c68 => absurd c68 (by decide)) (fun c68 => ?_)
        refine wq_iload_n 72 2 dX8_layCode_71 rfl rfl rfl ?_
        refine wq_iconst 73 3 dX8_layCode_72 rfl (by decide) ?_
        refine wq_ic_ne 76 80 dX8_layCode_73 rfl (by decide) (fun c73 => ?_) (fun c73 => absurd c73 (by decide))
        refine wq_iconst 81 0 dX8_layCode_80 rfl (by decide) ?_
        refine wq_istore 83 [_, _, _, _, _, _, _] dX8_layCode_81 rfl rfl (Nat.le_of_ble_eq_true rfl) rfl ?_
        refine wq_iload 85 dX8_layCode_83 rfl rfl ?_
        refine wq_if_eq 88 101 dX8_layCode_85 rfl (by decide) (fun c85 => ?_) (fun c85 => absurd rfl c85)
        refine wq_bload_n 102 0 dX8_layCode_101 rfl rfl rfl ?_
        refine wq_getR 105 fl_X8_35 dX8_layCode_102 rfl rfl o_71 (rfl : (Tb _).2.2.2 71 11 = some 79) ?_
        refine wq_iload_n 106 1 dX8_layCode_105 rfl rfl rfl ?_
        refine wq_iald 107 dX8_layCode_106 rfl a_79 (Ix.nI (by have := n3.1; omega) (by decide)) ?_
        rw [r2, ← v2]
        refine wq_istore 109 [_, _, _, _, _, _, _] dX8_layCode_107 rfl rfl (Nat.le_of_ble_eq_true rfl) rfl ?_
        refine wq_iload_n 110 2 dX8_layCode_109 rfl rfl rfl ?_
        refine wq_iconst 111 2 dX8_layCode_110 rfl (by decide) ?_
        refine wq_ic_ne 114 127 dX8_layCode_111 rfl (by decide) (fun c111 => ?_) (fun c111 => absurd c111 (by decide))
        refine wq_bipush 129 (-6) dX8_layCode_127 rfl (by decide) ?_
        rw [← v3]
        refine wq_istore 131 [_, _, _, _, _, _, _] dX8_layCode_129 rfl rfl (Nat.le_of_ble_eq_true rfl) rfl ?_
        refine wq_iload_n 132 2 dX8_layCode_131 rfl rfl rfl ?_
        refine wq_iconst 133 1 dX8_layCode_132 rfl (by decide) ?_
        refine wq_ic_ne 136 155 dX8_layCode_133 rfl (by decide) (fun c133 => ?_) (fun c133 => absurd c133 (by decide))
        exact J155 (fun q => by rw [e0] at q; exact absurd q.1 (by decide)) _
      · skip
        have v1 : cvA k w (sP s) (sN s) i 1 = nI x := by rw [cvA, e0, if_neg (by decide), e1]
        have v2 : cvA k w (sP s) (sN s) i 2 = sP s i 2 := by rw [cvA, e0, if_neg (by decide)]
        have v3 : cvA k w (sP s) (sN s) i 3 = -6 := by rw [cvA, e0, if_neg (by decide)]; exact f4' (by decide)
        refine wq_iload_n 22 1 dX8_layCode_21 rfl rfl rfl ?_
        refine wq_bload_n 23 0 dX8_layCode_22 rfl rfl rfl ?_
        refine wq_getI 26 fl_X8_148 dX8_layCode_23 rfl rfl o_71 ?_
        refine wq_ic_ge 29 171 dX8_layCode_26 rfl (by decide) (fun c26 => absurd c26 (by rw [n3.2.1]; exact nI_ge (by omega) (by omega))) (fun c26 => ?_)
        refine wq_bload_n 30 0 dX8_layCode_29 rfl rfl rfl ?_
        refine wq_getR 33 fl_X8_29 dX8_layCode_30 rfl rfl o_71 (rfl : (Tb _).2.2.2 71 9 = some 77) ?_
        refine wq_iload_n 34 1 dX8_layCode_33 rfl rfl rfl ?_
        refine wq_iald 35 dX8_layCode_34 rfl a_77 (Ix.nI (by have := n3.1; omega) (by decide)) ?_
        rw [r0]
        refine wq_istore_n 36 2 [_, _, _, _, _, _, _] dX8_layCode_35 rfl rfl rfl (Nat.le_of_ble_eq_true rfl) rfl ?_
        refine wq_iload_n 37 2 dX8_layCode_36 rfl rfl rfl ?_
        refine wq_iconst 38 5 dX8_layCode_37 rfl (by decide) ?_
        refine wq_ic_ne 41 50 dX8_layCode_38 rfl (by decide) (fun c38 => absurd c38 (fun z => z rfl)) (fun c38 => ?_)
        refine wq_bload_n 42 0 dX8_layCode_41 rfl rfl rfl ?_
        refine wq_getR 45 fl_X8_32 dX8_layCode_42 rfl rfl o_71 (rfl : (Tb _).2.2.2 71 10 = some 78) ?_
        refine wq_iload_n 46 1 dX8_layCode_45 rfl rfl rfl ?_
        refine wq_iald 47 dX8_layCode_46 rfl a_78 (Ix.nI (by have := n3.1; omega) (by decide)) ?_
        rw [r1, ← v1]
        refine wq_goto 60 dX8_layCode_47 (by decide) ?_
        refine wq_istore_n 61 3 [_, _, _, _, _, _, _] dX8_layCode_60 rfl rfl rfl (Nat.le_of_ble_eq_true rfl) rfl ?_
        refine wq_iload_n 62 2 dX8_layCode_61 rfl rfl rfl ?_
        refine wq_iconst 63 1 dX8_layCode_62 rfl (by decide) ?_
        refine wq_ic_eq 66 76 dX8_layCode_63 rfl (by decide) (fun c63 => absurd c63 (by decide)) (fun c63 => ?_)
        refine wq_iload_n 67 2 dX8_layCode_66 rfl rfl rfl ?_
        refine wq_iconst 68 2 dX8_layCode_67 rfl (by decide) ?_
        refine wq_ic_eq 71 76 dX8_layCode_68 rfl (by decide) (fun c68 => absurd c68 (by decide)) (fun c68 => ?_)
        refine wq_iload_n 72 2 dX8_layCode_71 rfl rfl rfl ?_
        refine wq_iconst 73 3 dX8_layCode_72 rfl (by decide) ?_
        refine wq_ic_ne 76 80 dX8_layCode_73 rfl (by decide) (fun c73 => ?_) (fun c73 => absurd c73 (by decide))
        refine wq_iconst 81 0 dX8_layCode_80 rfl (by decide) ?_
        refine wq_istore 83 [_, _, _, _, _, _, _] dX8_layCode_81 rfl rfl (Nat.le_of_ble_eq_true rfl) rfl ?_
        refine wq_iload 85 dX8_layCode_83 rfl rfl ?_
        refine wq_if_eq 88 101 dX8_layCode_85 rfl (by decide) (fun c85 => ?_) (fun c85 => absurd rfl c85)
        refine wq_bload_n 102 0 dX8_layCode_101 rfl rfl rfl ?_
        refine wq_getR 105 fl_X8_35 dX8_layCode_102 rfl rfl o_71 (rfl : (Tb _).2.2.2 71 11 = some 79) ?_
        refine wq_iload_n 106 1 dX8_layCode_105 rfl rfl rfl ?_
        refine wq_iald 107 dX8_layCode_106 rfl a_79 (Ix.nI (by have := n3.1; omega) (by decide)) ?_
        rw [r2, ← v2]
        refine wq_istore 109 [_, _, _, _, _, _, _] dX8_layCode_107 rfl rfl (Nat.le_of_ble_eq_true rfl) rfl ?_
        refine wq_iload_n 110 2 dX8_layCode_109 rfl rfl rfl ?_
        refine wq_iconst 111 2 dX8_layCode_110 rfl (by decide) ?_
        refine wq_ic_ne 114 127 dX8_layCode_111 rfl (by decide) (fun c111 => ?_) (fun c111 => absurd c111 (by decide))
        refine wq_bipush 129 (-6) dX8_layCode_127 rfl (by decide) ?_
        rw [← v3]
        refine wq_istore 131 [_, _, _, _, _, _, _] dX8_layCode_129 rfl rfl (Nat.le_of_ble_eq_true rfl) rfl ?_
        refine wq_iload_n 132 2 dX8_layCode_131 rfl rfl rfl ?_
        refine wq_iconst 133 1 dX8_layCode_132 rfl (by decide) ?_
        refine wq_ic_ne 136 155 dX8_layCode_133 rfl (by decide) (fun c133 => ?_) (fun c133 => absurd c133 (by decide))
        exact J155 (fun q => by rw [e0] at q; exact absurd q.1 (by decide)) _
      · skip
        have v1 : cvA k w (sP s) (sN s) i 1 = rgA k w (sP s) (sN s) (ndA k w (sP s) (sN s) x) := by rw [cvA, e0, if_pos (by decide), e1, nI_clamp (by have := x64; omega)]
        have v2 : cvA k w (sP s) (sN s) i 2 = sP s i 2 := by rw [cvA, e0, if_neg (by decide)]
        have v3 : cvA k w (sP s) (sN s) i 3 = -6 := by rw [cvA, e0, if_neg (by decide)]; exact f4' (by decide)
        refine wq_iload_n 22 1 dX8_layCode_21 rfl rfl rfl ?_
        refine wq_bload_n 23 0 dX8_layCode_22 rfl rfl rfl ?_
        refine wq_getI 26 fl_X8_148 dX8_layCode_23 rfl rfl o_71 ?_
        refine wq_ic_ge 29 171 dX8_layCode_26 rfl (by decide) (fun c26 => absurd c26 (by rw [n3.2.1]; exact nI_ge (by omega) (by omega))) (fun c26 => ?_)
        refine wq_bload_n 30 0 dX8_layCode_29 rfl rfl rfl ?_
        refine wq_getR 33 fl_X8_29 dX8_layCode_30 rfl rfl o_71 (rfl : (Tb _).2.2.2 71 9 = some 77) ?_
        refine wq_iload_n 34 1 dX8_layCode_33 rfl rfl rfl ?_
        refine wq_iald 35 dX8_layCode_34 rfl a_77 (Ix.nI (by have := n3.1; omega) (by decide)) ?_
        rw [r0]
        refine wq_istore_n 36 2 [_, _, _, _, _, _, _] dX8_layCode_35 rfl rfl rfl (Nat.le_of_ble_eq_true rfl) rfl ?_
        refine wq_iload_n 37 2 dX8_layCode_36 rfl rfl rfl ?_
        refine wq_iconst 38 5 dX8_layCode_37 rfl (by decide) ?_
        refine wq_ic_ne 41 50 dX8_layCode_38 rfl (by decide) (fun c38 => ?_) (fun c38 => absurd c38 (by decide))
        refine wq_bload_n 51 0 dX8_layCode_50 rfl rfl rfl ?_
        refine wq_bload_n 52 0 dX8_layCode_51 rfl rfl rfl ?_
        refine wq_getR 55 fl_X8_32 dX8_layCode_52 rfl rfl o_71 (rfl : (Tb _).2.2.2 71 10 = some 78) ?_
        refine wq_iload_n 56 1 dX8_layCode_55 rfl rfl rfl ?_
        refine wq_iald 57 dX8_layCode_56 rfl a_78 (Ix.nI (by have := n3.1; omega) (by decide)) ?_
        refine cVi1 60 (sp_X8_register (by omega) hA3 f0 x r1 x64) ml_X8_313 mf_X8_register dX8_layCode_57 rfl o_71 (by decide) rfl (Nat.le_of_ble_eq_true rfl) (by omega) ?_
        rw [hG3 x x64, ← v1]
        refine wq_istore_n 61 3 [_, _, _, _, _, _, _] dX8_layCode_60 rfl rfl rfl (Nat.le_of_ble_eq_true rfl) rfl ?_
        refine wq_iload_n 62 2 dX8_layCode_61 rfl rfl rfl ?_
        refine wq_iconst 63 1 dX8_layCode_62 rfl (by decide) ?_
        refine wq_ic_eq 66 76 dX8_layCode_63 rfl (by decide) (fun c63 => absurd c63 (by decide)) (fun c63 => ?_)
        refine wq_iload_n 67 2 dX8_layCode_66 rfl rfl rfl ?_
        refine wq_iconst 68 2 dX8_layCode_67 rfl (by decide) ?_
        refine wq_ic_eq 71 76 dX8_layCode_68 rfl (by decide) (fun c68 => absurd c68 (by decide)) (fun c68 => ?_)
        refine wq_iload_n 72 2 dX8_layCode_71 rfl rfl rfl ?_
        refine wq_iconst 73 3 dX8_layCode_72 rfl (by decide) ?_
        refine wq_ic_ne 76 80 dX8_layCode_73 rfl (by decide) (fun c73 => ?_) (fun c73 => absurd c73 (by decide))
        refine wq_iconst 81 0 dX8_layCode_80 rfl (by decide) ?_
        refine wq_istore 83 [_, _, _, _, _, _, _] dX8_layCode_81 rfl rfl (Nat.le_of_ble_eq_true rfl) rfl ?_
        refine wq_iload 85 dX8_layCode_83 rfl rfl ?_
        refine wq_if_eq 88 101 dX8_layCode_85 rfl (by decide) (fun c85 => ?_) (fun c85 => absurd rfl c85)
        refine wq_bload_n 102 0 dX8_layCode_101 rfl rfl rfl ?_
        refine wq_getR 105 fl_X8_35 dX8_layCode_102 rfl rfl o_71 (rfl : (Tb _).2.2.2 71 11 = some 79) ?_
        refine wq_iload_n 106 1 dX8_layCode_105 rfl rfl rfl ?_
        refine wq_iald 107 dX8_layCode_106 rfl a_79 (Ix.nI (by have := n3.1; omega) (by decide)) ?_
        rw [r2, ← v2]
        refine wq_istore 109 [_, _, _, _, _, _, _] dX8_layCode_107 rfl rfl (Nat.le_of_ble_eq_true rfl) rfl ?_
        refine wq_iload_n 110 2 dX8_layCode_109 rfl rfl rfl ?_
        refine wq_iconst 111 2 dX8_layCode_110 rfl (by decide) ?_
        refine wq_ic_ne 114 127 dX8_layCode_111 rfl (by decide) (fun c111 => ?_) (fun c111 => absurd c111 (by decide))
        refine wq_bipush 129 (-6) dX8_layCode_127 rfl (by decide) ?_
        rw [← v3]
        refine wq_istore 131 [_, _, _, _, _, _, _] dX8_layCode_129 rfl rfl (Nat.le_of_ble_eq_true rfl) rfl ?_
        refine wq_iload_n 132 2 dX8_layCode_131 rfl rfl rfl ?_
        refine wq_iconst 133 1 dX8_layCode_132 rfl (by decide) ?_
        refine wq_ic_ne 136 155 dX8_layCode_133 rfl (by decide) (fun c133 => ?_) (fun c133 => absurd c133 (by decide))
        exact J155 (fun q => by rw [e0] at q; exact absurd q.1 (by decide)) _
      · skip
        have v1 : cvA k w (sP s) (sN s) i 1 = rgA k w (sP s) (sN s) (ndA k w (sP s) (sN s) x) := by rw [cvA, e0, if_pos (by decide), e1, nI_clamp (by have := x64; omega)]
        have v2 : cvA k w (sP s) (sN s) i 2 = sP s i 2 := by rw [cvA, e0, if_neg (by decide)]
        have v3 : cvA k w (sP s) (sN s) i 3 = -6 := by rw [cvA, e0, if_neg (by decide)]; exact f4' (by decide)
        refine wq_iload_n 22 1 dX8_layCode_21 rfl rfl rfl ?_
        refine wq_bload_n 23 0 dX8_layCode_22 rfl rfl rfl ?_
        refine wq_getI 26 fl_X8_148 dX8_layCode_23 rfl rfl o_71 ?_
        refine wq_ic_ge 29 171 dX8_layCode_26 rfl (by decide) (fun c26 => absurd c26 (by rw [n3.2.1]; exact nI_ge (by omega) (by omega))) (fun c26 => ?_)
        refine wq_bload_n 30 0 dX8_layCode_29 rfl rfl rfl ?_
        refine wq_getR 33 fl_X8_29 dX8_layCode_30 rfl rfl o_71 (rfl : (Tb _).2.2.2 71 9 = some 77) ?_
        refine wq_iload_n 34 1 dX8_layCode_33 rfl rfl rfl ?_
        refine wq_iald 35 dX8_layCode_34 rfl a_77 (Ix.nI (by have := n3.1; omega) (by decide)) ?_
        rw [r0]
        refine wq_istore_n 36 2 [_, _, _, _, _, _, _] dX8_layCode_35 rfl rfl rfl (Nat.le_of_ble_eq_true rfl) rfl ?_
        refine wq_iload_n 37 2 dX8_layCode_36 rfl rfl rfl ?_
        refine wq_iconst 38 5 dX8_layCode_37 rfl (by decide) ?_
        refine wq_ic_ne 41 50 dX8_layCode_38 rfl (by decide) (fun c38 => ?_) (fun c38 => absurd c38 (by decide))
        refine wq_bload_n 51 0 dX8_layCode_50 rfl rfl rfl ?_
        refine wq_bload_n 52 0 dX8_layCode_51 rfl rfl rfl ?_
        refine wq_getR 55 fl_X8_32 dX8_layCode_52 rfl rfl o_71 (rfl : (Tb _).2.2.2 71 10 = some 78) ?_
        refine wq_iload_n 56 1 dX8_layCode_55 rfl rfl rfl ?_
        refine wq_iald 57 dX8_layCode_56 rfl a_78 (Ix.nI (by have := n3.1; omega) (by decide)) ?_
        refine cVi1 60 (sp_X8_register (by omega) hA3 f0 x r1 x64) ml_X8_313 mf_X8_register dX8_layCode_57 rfl o_71 (by decide) rfl (Nat.le_of_ble_eq_true rfl) (by omega) ?_
        rw [hG3 x x64, ← v1]
        refine wq_istore_n 61 3 [_, _, _, _, _, _, _] dX8_layCode_60 rfl rfl rfl (Nat.le_of_ble_eq_true rfl) rfl ?_
        refine wq_iload_n 62 2 dX8_layCode_61 rfl rfl rfl ?_
        refine wq_iconst 63 1 dX8_layCode_62 rfl (by decide) ?_
        refine wq_ic_eq 66 76 dX8_layCode_63 rfl (by decide) (fun c63 => absurd c63 (by decide)) (fun c63 => ?_)
        refine wq_iload_n 67 2 dX8_layCode_66 rfl rfl rfl ?_
        refine wq_iconst 68 2 dX8_layCode_67 rfl (by decide) ?_
        refine wq_ic_eq 71 76 dX8_layCode_68 rfl (by decide) (fun c68 => absurd c68 (by decide)) (fun c68 => ?_)
        refine wq_iload_n 72 2 dX8_layCode_71 rfl rfl rfl ?_
        refine wq_iconst 73 3 dX8_layCode_72 rfl (by decide) ?_
        refine wq_ic_ne 76 80 dX8_layCode_73 rfl (by decide) (fun c73 => ?_) (fun c73 => absurd c73 (by decide))
        refine wq_iconst 81 0 dX8_layCode_80 rfl (by decide) ?_
        refine wq_istore 83 [_, _, _, _, _, _, _] dX8_layCode_81 rfl rfl (Nat.le_of_ble_eq_true rfl) rfl ?_
        refine wq_iload 85 dX8_layCode_83 rfl rfl ?_
        refine wq_if_eq 88 101 dX8_layCode_85 rfl (by decide) (fun c85 => ?_) (fun c85 => absurd rfl c85)
        refine wq_bload_n 102 0 dX8_layCode_101 rfl rfl rfl ?_
        refine wq_getR 105 fl_X8_35 dX8_layCode_102 rfl rfl o_71 (rfl : (Tb _).2.2.2 71 11 = some 79) ?_
        refine wq_iload_n 106 1 dX8_layCode_105 rfl rfl rfl ?_
        refine wq_iald 107 dX8_layCode_106 rfl a_79 (Ix.nI (by have := n3.1; omega) (by decide)) ?_
        rw [r2, ← v2]
        refine wq_istore 109 [_, _, _, _, _, _, _] dX8_layCode_107 rfl rfl (Nat.le_of_ble_eq_true rfl) rfl ?_
        refine wq_iload_n 110 2 dX8_layCode_109 rfl rfl rfl ?_
        refine wq_iconst 111 2 dX8_layCode_110 rfl (by decide) ?_
        refine wq_ic_ne 114 127 dX8_layCode_111 rfl (by decide) (fun c111 => ?_) (fun c111 => absurd c111 (by decide))
        refine wq_bipush 129 (-6) dX8_layCode_127 rfl (by decide) ?_
        rw [← v3]
        refine wq_istore 131 [_, _, _, _, _, _, _] dX8_layCode_129 rfl rfl (Nat.le_of_ble_eq_true rfl) rfl ?_
        refine wq_iload_n 132 2 dX8_layCode_131 rfl rfl rfl ?_
        refine wq_iconst 133 1 dX8_layCode_132 rfl (by decide) ?_
        refine wq_ic_ne 136 155 dX8_layCode_133 rfl (by decide) (fun c133 => ?_) (fun c133 => absurd c133 (by decide))
        exact J155 (fun q => by rw [e0] at q; exact absurd q.1 (by decide)) _
      · skip
        have v1 : cvA k w (sP s) (sN s) i 1 = rgA k w (sP s) (sN s) (ndA k w (sP s) (sN s) x) := by rw [cvA, e0, if_pos (by decide), e1, nI_clamp (by have := x64; omega)]
        have v2 : cvA k w (sP s) (sN s) i 2 = sP s i 2 := by rw [cvA, e0, if_neg (by decide)]
        have v3 : cvA k w (sP s) (sN s) i 3 = -6 := by rw [cvA, e0, if_neg (by decide)]; exact f4' (by decide)
        refine wq_iload_n 22 1 dX8_layCode_21 rfl rfl rfl ?_
        refine wq_bload_n 23 0 dX8_layCode_22 rfl rfl rfl ?_
        refine wq_getI 26 fl_X8_148 dX8_layCode_23 rfl rfl o_71 ?_
        refine wq_ic_ge 29 171 dX8_layCode_26 rfl (by decide) (fun c26 => absurd c26 (by rw [n3.2.1]; exact nI_ge (by omega) (by omega))) (fun c26 => ?_)
        refine wq_bload_n 30 0 dX8_layCode_29 rfl rfl rfl ?_
        refine wq_getR 33 fl_X8_29 dX8_layCode_30 rfl rfl o_71 (rfl : (Tb _).2.2.2 71 9 = some 77) ?_
        refine wq_iload_n 34 1 dX8_layCode_33 rfl rfl rfl ?_
        refine wq_iald 35 dX8_layCode_34 rfl a_77 (Ix.nI (by have := n3.1; omega) (by decide)) ?_
        rw [r0]
        refine wq_istore_n 36 2 [_, _, _, _, _, _, _] dX8_layCode_35 rfl rfl rfl (Nat.le_of_ble_eq_true rfl) rfl ?_
        refine wq_iload_n 37 2 dX8_layCode_36 rfl rfl rfl ?_
        refine wq_iconst 38 5 dX8_layCode_37 rfl (by decide) ?_
        refine wq_ic_ne 41 50 dX8_layCode_38 rfl (by decide) (fun c38 => ?_) (fun c38 => absurd c38 (by decide))
        refine wq_bload_n 51 0 dX8_layCode_50 rfl rfl rfl ?_
        refine wq_bload_n 52 0 dX8_layCode_51 rfl rfl rfl ?_
        refine wq_getR 55 fl_X8_32 dX8_layCode_52 rfl rfl o_71 (rfl : (Tb _).2.2.2 71 10 = some 78) ?_
        refine wq_iload_n 56 1 dX8_layCode_55 rfl rfl rfl ?_
        refine wq_iald 57 dX8_layCode_56 rfl a_78 (Ix.nI (by have := n3.1; omega) (by decide)) ?_
        refine cVi1 60 (sp_X8_register (by omega) hA3 f0 x r1 x64) ml_X8_313 mf_X8_register dX8_layCode_57 rfl o_71 (by decide) rfl (Nat.le_of_ble_eq_true rfl) (by omega) ?_
        rw [hG3 x x64, ← v1]
        refine wq_istore_n 61 3 [_, _, _, _, _, _, _] dX8_layCode_60 rfl rfl rfl (Nat.le_of_ble_eq_true rfl) rfl ?_
        refine wq_iload_n 62 2 dX8_layCode_61 rfl rfl rfl ?_
        refine wq_iconst 63 1 dX8_layCode_62 rfl (by decide) ?_
        refine wq_ic_eq 66 76 dX8_layCode_63 rfl (by decide) (fun c63 => absurd c63 (by decide)) (fun c63 => ?_)
        refine wq_iload_n 67 2 dX8_layCode_66 rfl rfl rfl ?_
        refine wq_iconst 68 2 dX8_layCode_67 rfl (by decide) ?_
        refine wq_ic_eq 71 76 dX8_layCode_68 rfl (by decide) (fun c68 => absurd c68 (by decide)) (fun c68 => ?_)
        refine wq_iload_n 72 2 dX8_layCode_71 rfl rfl rfl ?_
        refine wq_iconst 73 3 dX8_layCode_72 rfl (by decide) ?_
        refine wq_ic_ne 76 80 dX8_layCode_73 rfl (by decide) (fun c73 => ?_) (fun c73 => absurd c73 (by decide))
        refine wq_iconst 81 0 dX8_layCode_80 rfl (by decide) ?_
        refine wq_istore 83 [_, _, _, _, _, _, _] dX8_layCode_81 rfl rfl (Nat.le_of_ble_eq_true rfl) rfl ?_
        refine wq_iload 85 dX8_layCode_83 rfl rfl ?_
        refine wq_if_eq 88 101 dX8_layCode_85 rfl (by decide) (fun c85 => ?_) (fun c85 => absurd rfl c85)
        refine wq_bload_n 102 0 dX8_layCode_101 rfl rfl rfl ?_
        refine wq_getR 105 fl_X8_35 dX8_layCode_102 rfl rfl o_71 (rfl : (Tb _).2.2.2 71 11 = some 79) ?_
        refine wq_iload_n 106 1 dX8_layCode_105 rfl rfl rfl ?_
        refine wq_iald 107 dX8_layCode_106 rfl a_79 (Ix.nI (by have := n3.1; omega) (by decide)) ?_
        rw [r2, ← v2]
        refine wq_istore 109 [_, _, _, _, _, _, _] dX8_layCode_107 rfl rfl (Nat.le_of_ble_eq_true rfl) rfl ?_
        refine wq_iload_n 110 2 dX8_layCode_109 rfl rfl rfl ?_
        refine wq_iconst 111 2 dX8_layCode_110 rfl (by decide) ?_
        refine wq_ic_ne 114 127 dX8_layCode_111 rfl (by decide) (fun c111 => ?_) (fun c111 => absurd c111 (by decide))
        refine wq_bipush 129 (-6) dX8_layCode_127 rfl (by decide) ?_
        rw [← v3]
        refine wq_istore 131 [_, _, _, _, _, _, _] dX8_layCode_129 rfl rfl (Nat.le_of_ble_eq_true rfl) rfl ?_
        refine wq_iload_n 132 2 dX8_layCode_131 rfl rfl rfl ?_
        refine wq_iconst 133 1 dX8_layCode_132 rfl (by decide) ?_
        refine wq_ic_ne 136 155 dX8_layCode_133 rfl (by decide) (fun c133 => ?_) (fun c133 => absurd c133 (by decide))
        exact J155 (fun q => by rw [e0] at q; exact absurd q.1 (by decide)) _
  exact lp (sN s) 0 I2 _ _ _ _ _ (by omega) ⟨by rw [j71, va_up_ne _ _ (by decide), va_up_self]; rfl, fun j hj => absurd hj (Nat.not_lt_zero j)⟩ (by rw [j71, va_up_self]; rfl) (fun x hx => jx x (by simp at hx; exact hx.1)) (fun z y1 y2 => by rw [j71, va_up_ne _ _ y2, va_up_ne _ _ y1])
