/-! the reference's round: note -/
set_option maxRecDepth 20000 in
set_option maxHeartbeats 2000000 in
theorem sp_X8_note {g : Gl} {D : Nat} {b : Bool} {I : IM} {L : LM} {k w mv : Nat} {f1 f2 : Nat → Nat} {tl : Bool} {A : RA} (h : RMx I L k w mv f1 f2 tl A) (hQ : aQ A < 200) {i : Int32} (c : Nat) (hi : i = nI c) : Me g D MX8_note [rf g 71, .int i] b I L (fun r b' I' L' => r = none ∧ b' = b ∧ L' = L ∧ RMx I' L k w mv f1 f2 tl (noteA A c) ∧ (∀ z, z ≠ 71 → z ≠ 95 → I' z = I z) ∧ ∀ z, z ≠ 33 → I' 71 z = I 71 z) := by
  subst hi
  obtain ⟨h1, h2, h3, h4, h5, h6, h7, h8, h9, h10, h11, h12, h13⟩ := h
  refine Me.of [some (rf g 71), some (.int (nI c))] 0 rfl pf_X8_note (Nat.le_of_ble_eq_true rfl) ?_
  cases tl with
  | false =>
    have t0 := h13 rfl
    refine wq_bload_n 1 0 dX8_note_0 rfl rfl rfl ?_
    refine wq_getI 4 fl_X8_204 dX8_note_1 rfl rfl o_71 ?_
    refine wq_if_eq 7 37 dX8_note_4 rfl (by decide) (fun c4 => ?_) (fun c4 => absurd t0 c4)
    refine rr dX8_note_37 rfl ?_
    exact ⟨rfl, rfl, rfl, ⟨h1, h2, h3, h4, h5, h6, h7, h8, h9, h10, h11, fun z => (by cases z), h13⟩, fun _ _ _ => rfl, fun _ _ => rfl⟩
  | true =>
    obtain ⟨t1, t2, t3⟩ := h12 rfl
    refine wq_bload_n 1 0 dX8_note_0 rfl rfl rfl ?_
    refine wq_getI 4 fl_X8_204 dX8_note_1 rfl rfl o_71 ?_
    refine wq_if_eq 7 37 dX8_note_4 rfl (by decide) (fun c4 => absurd c4 (by rw [t1]; decide)) (fun c4 => ?_)
    refine wq_bload_n 8 0 dX8_note_7 rfl rfl rfl ?_
    refine wq_getI 11 fl_X8_208 dX8_note_8 rfl rfl o_71 ?_
    refine wq_sipush 14 200 dX8_note_11 rfl (by decide) ?_
    refine wq_ic_ge 17 37 dX8_note_14 rfl (by decide) (fun c14 => absurd c14 (by rw [t3]; exact nI_ge (b := 200) hQ (by decide))) (fun c14 => ?_)
    refine wq_bload_n 18 0 dX8_note_17 rfl rfl rfl ?_
    refine wq_getR 21 fl_X8_85 dX8_note_18 rfl rfl o_71 (rfl : (Tb _).2.2.2 71 32 = some 95) ?_
    refine wq_bload_n 22 0 dX8_note_21 rfl rfl rfl ?_
    refine wq_getI 25 fl_X8_208 dX8_note_22 rfl rfl o_71 ?_
    refine wq_iload_n 26 1 dX8_note_25 rfl rfl rfl ?_
    refine wq_iast 27 dX8_note_26 rfl a_95 (by rw [t3]; exact Ix.nI (by omega) (by decide)) ?_
    refine wq_bload_n 28 0 dX8_note_27 rfl rfl rfl ?_
    refine wq_dup 29 dX8_note_28 rfl rfl ?_
    refine wq_getI 32 fl_X8_208 dX8_note_29 rfl rfl o_71 ?_
    refine wq_iconst 33 1 dX8_note_32 rfl (by decide) ?_
    refine wq_iadd 34 dX8_note_33 rfl ?_
    refine wq_putI 37 fl_X8_208 dX8_note_34 rfl rfl rfl rfl rfl o_71 ?_
    refine wq_gen (fun I1 L1 eI1 eL1 => ?_)
    refine rr dX8_note_37 rfl ?_
    have i71 : I1 71 = va_up (I 71) 33 (nI (aQ A + 1)) := by rw [eI1, va_up_self, va_up_ne _ _ (show 71 ≠ 95 by decide), t3, nI_succ]
    have i95 : I1 95 = va_up (I 95) (aQ A) (nI c) := by rw [eI1, va_up_ne _ _ (by decide), va_up_self]
    have ix : ∀ z, z ≠ 71 → z ≠ 95 → I1 z = I z := fun z z1 z2 => by rw [eI1, va_up_ne _ _ z1, va_up_ne _ _ z2]
    rw [eL1]
    clear eI1 eL1
    refine ⟨rfl, rfl, rfl, ⟨h1, h2, fun n hn => ?_, fun n hn n4 hl => ?_, fun m hm => ?_, fun i hi => ?_, ?_, ?_, fun m hm => ?_, ?_, ?_, fun _ => ⟨?_, fun i hi => ?_, ?_⟩, fun z => (by cases z)⟩, ix, fun z hz => by rw [i71, va_up_ne _ _ hz]⟩
    · rw [ix 88 (by decide) (by decide)]; exact h3 n hn
    · rw [ix 89 (by decide) (by decide)]; exact h4 n hn n4 hl
    · rw [ix 91 (by decide) (by decide)]; exact h5 m hm
    · rw [ix 92 (by decide) (by decide)]; exact h6 i hi
    · rw [i71, va_up_ne _ _ (by decide)]; exact h7
    · rw [i71, va_up_ne _ _ (by decide)]; exact h8
    · rw [ix 90 (by decide) (by decide), ix 78 (by decide) (by decide), ix 79 (by decide) (by decide)]; exact h9 m hm
    · rw [i71, va_up_ne _ _ (by decide)]; exact h10
    · rw [i71, va_up_ne _ _ (by decide)]; exact h11
    · rw [i71, va_up_ne _ _ (by decide)]; exact t1
    · have hi' : i < aQ A + 1 := hi
      rw [i95]
      show _ = nI (va_up (aS A) (aQ A) c i)
      by_cases e : i = aQ A
      · rw [e, va_up_self, va_up_self]
      · rw [va_up_ne _ _ e, va_up_ne _ _ e]; exact t2 i (by omega)
    · rw [i71, va_up_self]; rfl
