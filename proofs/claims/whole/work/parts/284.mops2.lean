/-! the reference's calls: steps, rounds, code, runs -/
section MCalls2
variable {g : Gl} {D : Nat} {b : Bool} {I : IM} {L : LM} {t : TS}
theorem FH_S {I' : IM} {L' : LM} (f : FH I L I' L') : Sm 0 71 I L I' L' := fun x _ x2 => f.1 x (by omega)
theorem FJ_S {I' : IM} {L' : LM} (f : FJ I L I' L') : Sm 0 71 I L I' L' := fun x _ x2 => f.1 x (by omega)
set_option maxRecDepth 20000 in
theorem cm_step (hD : 8 ≤ D) (h : InvM I t) (hv : VT t) (i : Int32) : CM g D MX8_step [rf g 71, .int i] b I L (anStep t i) t := by
  have hq := tE_Q hv
  obtain ⟨v1, v2, v3, v4, v5⟩ := hv.1
  refine Me.of [some (rf g 71), some (.int i)] 0 rfl pf_X8_step (Nat.le_of_ble_eq_true rfl) ?_
  refine wq_bload_n 1 0 dX8_step_0 rfl rfl rfl ?_
  refine cVp0 4 (sp_X8_firstRound (by omega) v2 v3 h.2.2.2.2.1 v5 h.1 h.2.1 h.2.2.1) ml_X8_304 mf_X8_firstRound dX8_step_1 rfl o_71 (by decide) rfl (Nat.le_of_ble_eq_true rfl) (by omega) ?_
  rintro _ b I1 L1 ⟨rfl, rfl, fh, hN, hA, hG, h95, h33⟩
  have hI1 := FH_M h fh
  have hS := FH_S fh
  have h33' : I1 71 33 = nI (aQ (tE t)) := h33
  refine wq_iload_n 5 1 dX8_step_4 rfl rfl rfl ?_
  refine wq_iconst 6 (-1) dX8_step_5 rfl (by decide) ?_
  refine wq_ic_ne 9 16 dX8_step_6 rfl (by decide) (fun c6 => ?_) (fun c6 => ?_)
  · skip
    refine wq_iload_n 17 1 dX8_step_16 rfl rfl rfl ?_
    refine wq_iconst 18 0 dX8_step_17 rfl (by decide) ?_
    refine wq_bload_n 19 0 dX8_step_18 rfl rfl rfl ?_
    refine wq_getI 22 fl_X8_208 dX8_step_19 rfl rfl o_71 ?_
    refine wq_iconst 23 1 dX8_step_22 rfl (by decide) ?_
    refine wq_isub 24 dX8_step_23 rfl ?_
    refine cSi3 27 (sp_X8_in _ _ _) ml_X8_113 mf_X8_in dX8_step_24 rfl (Nat.le_of_ble_eq_true rfl) (by omega) ?_
    refine wq_if_eq 30 39 dX8_step_27 rfl (by decide) (fun c27 => ?_) (fun c27 => ?_)
    · skip
      refine wq_bipush 41 (-6) dX8_step_39 rfl (by decide) ?_
      refine ri .int dX8_step_41 rfl rfl ?_
      rw [h33'] at c27
      exact ⟨by rw [anStep, if_neg c6, if_pos ((inM_pred (by omega)).mp c27)], rfl, hI1, hS⟩
    · skip
      rw [h33'] at c27
      have ni : ¬ (i < 0 ∨ nI (aQ (tE t)) ≤ i) := fun z => c27 ((inM_pred (by omega)).mpr z)
      obtain ⟨x, xn, ex⟩ := in_ix (v := i) (n := aQ (tE t)) (by omega) (fun z => ni (Or.inl z)) (Int32.not_le.mp (fun z => ni (Or.inr z)))
      subst ex
      refine wq_bload_n 31 0 dX8_step_30 rfl rfl rfl ?_
      refine wq_getR 34 fl_X8_85 dX8_step_31 rfl rfl o_71 (rfl : (Tb _).2.2.2 71 32 = some 95) ?_
      refine wq_iload_n 35 1 dX8_step_34 rfl rfl rfl ?_
      refine wq_iald 36 dX8_step_35 rfl a_95 (Ix.nI (by omega) (by decide)) ?_
      refine wq_goto 41 dX8_step_36 (by decide) ?_
      refine ri .int dX8_step_41 rfl rfl ?_
      exact ⟨by rw [anStep, if_neg c6, if_neg ni, show cN (nI x) = x from nI_clamp (by omega)]; rw [show I1 95 x = nI (aS (tE t) x) from h95 x xn], rfl, hI1, hS⟩
  · skip
    refine wq_bload_n 10 0 dX8_step_9 rfl rfl rfl ?_
    refine wq_getI 13 fl_X8_208 dX8_step_10 rfl rfl o_71 ?_
    refine wq_goto 41 dX8_step_13 (by decide) ?_
    refine ri .int dX8_step_41 rfl rfl ?_
    exact ⟨by rw [anStep, if_pos c6, h33'], rfl, hI1, hS⟩
set_option maxRecDepth 20000 in
set_option maxHeartbeats 2000000 in
theorem lp_X8_spilled {B k w n : Nat} {p : Pg} {i : Int32} (hD : 1 ≤ D) (hk : k ≤ 4) (hn : n ≤ 90) (hw : WfB B p n) (hA : ∀ x, x < 64 → I 88 x = nI (aA (endA k w p n) x)) (hG : Ag64 (I 94) (bckA k w p n).1) {post : Option Value → Bool → IM → LM → Prop} (hp : post (some (.int (if i = -1 then nI (cnt (spS k w p n)) else if nthS (spS k w p n) i < 64 then nI (nthS (spS k w p n) i) else -6))) b I L) : ∀ r q, q + r = 64 → 4 ≤ q → (∀ x, x < q → tb (spS k w p n) x = true → ¬ nI (cntF (tb (spS k w p n)) x) = i) → Wp (Kn g D MX8_spilled post) (Tb b) 15 [some (rf g 71), some (.int i), some (.long (Nms p n)), none, some (.int (nI (cntF (tb (spS k w p n)) q))), some (.int (nI q))] [] I L := by
  obtain ⟨f0, f1, f2, f3, f4, f5, f6, f7, f8, f9⟩ := round_facts (w := w) hk hn hw
  intro r
  induction r with
  | zero =>
    intro q hq h4 hnn
    have eq : q = 64 := by omega
    subst eq
    refine wq_iload 17 dX8_spilled_15 rfl rfl ?_
    refine wq_bipush 19 64 dX8_spilled_17 rfl (by decide) ?_
    refine wq_ic_ge 22 70 dX8_spilled_19 rfl (by decide) (fun c19 => ?_) (fun c19 => absurd (by decide) c19)
    refine wq_iload_n 71 1 dX8_spilled_70 rfl rfl rfl ?_
    refine wq_iconst 72 (-1) dX8_spilled_71 rfl (by decide) ?_
    refine wq_ic_ne 75 80 dX8_spilled_72 rfl (by decide) (fun c72 => ?_) (fun c72 => ?_)
    · skip
      refine wq_bipush 82 (-6) dX8_spilled_80 rfl (by decide) ?_
      refine ri .int dX8_spilled_82 rfl rfl ?_
      rw [if_neg c72, nth_none hnn, if_neg (by omega)] at hp
      exact hp
    · skip
      refine wq_iload 77 dX8_spilled_75 rfl rfl ?_
      refine wq_goto 82 dX8_spilled_77 (by decide) ?_
      refine ri .int dX8_spilled_82 rfl rfl ?_
      rw [if_pos c72, cnt_cntF] at hp
      exact hp
  | succ r ih =>
    intro q hq h4 hnn
    have q64 : q < 64 := by omega
    have lq : rt (aA (endA k w p n)) q < 64 := rt_lt f0 q64
    have hGq : I 94 q = rgA k w p n q := by rw [hG q q64]; rfl
    have no : ¬ tb (spS k w p n) q = true → Wp (Kn g D MX8_spilled post) (Tb b) 15 [some (rf g 71), some (.int i), some (.long (Nms p n)), none, some (.int (nI (cntF (tb (spS k w p n)) q))), some (.int (nI q + 1))] [] I L := by
      intro hc
      rw [← nI_succ]
      have := ih (q + 1) (by omega) (by omega) (fun x hx hs => by
        by_cases c : x = q
        · rw [c] at hs; exact absurd hs hc
        · exact hnn x (by omega) hs)
      rw [cntF, if_neg hc, Nat.add_zero] at this
      exact this
    refine wq_iload 17 dX8_spilled_15 rfl rfl ?_
    refine wq_bipush 19 64 dX8_spilled_17 rfl (by decide) ?_
    refine wq_ic_ge 22 70 dX8_spilled_19 rfl (by decide) (fun c19 => absurd c19 (nI_ge (b := 64) (by omega) (by decide))) (fun c19 => ?_)
    refine wq_lload_n 23 2 dX8_spilled_22 rfl rfl rfl ?_
    refine wq_iload 25 dX8_spilled_23 rfl rfl ?_
    refine cSi2 28 (sp_X8_has _ _) ml_X8_109 mf_X8_has dX8_spilled_25 rfl (Nat.le_of_ble_eq_true rfl) (by omega) ?_
    refine wq_if_eq 31 64 dX8_spilled_28 rfl (by decide) (fun c28 => ?_) (fun c28 => ?_)
    · skip
      refine wq_iinc 67 (_ + 1) [_, _, _, _, _, _] dX8_spilled_64 rfl rfl (inc1 _) rfl (Nat.le_of_ble_eq_true rfl) rfl ?_
      refine wq_goto 15 dX8_spilled_67 (by decide) ?_
      exact no (fun z => by have := ((f7 q q64).mp z).2.1; rw [(hasM_eq0 _ q64).mp c28] at this; cases this)
    · skip
      refine wq_bload_n 32 0 dX8_spilled_31 rfl rfl rfl ?_
      refine wq_iload 34 dX8_spilled_32 rfl rfl ?_
      refine cVi1 37 (sp_X8_stands hA f0 q rfl q64) ml_X8_221 mf_X8_standsFor dX8_spilled_34 rfl o_71 (by decide) rfl (Nat.le_of_ble_eq_true rfl) (by omega) ?_
      refine wq_iload 39 dX8_spilled_37 rfl rfl ?_
      refine wq_ic_ne 42 64 dX8_spilled_39 rfl (by decide) (fun c39 => ?_) (fun c39 => ?_)
      · skip
        refine wq_iinc 67 (_ + 1) [_, _, _, _, _, _] dX8_spilled_64 rfl rfl (inc1 _) rfl (Nat.le_of_ble_eq_true rfl) rfl ?_
        refine wq_goto 15 dX8_spilled_67 (by decide) ?_
        exact no (fun z => c39 (by rw [show rt (aA (endA k w p n)) q = q from ((f7 q q64).mp z).2.2.1]))
      · skip
        refine wq_bload_n 43 0 dX8_spilled_42 rfl rfl rfl ?_
        refine wq_getR 46 fl_X8_82 dX8_spilled_43 rfl rfl o_71 (rfl : (Tb _).2.2.2 71 31 = some 94) ?_
        refine wq_iload 48 dX8_spilled_46 rfl rfl ?_
        refine wq_iald 49 dX8_spilled_48 rfl a_94 (Ix.nI (by omega) (by decide)) ?_
        refine wq_if_ge 52 64 dX8_spilled_49 rfl (by decide) (fun c49 => ?_) (fun c49 => ?_)
        · skip
          refine wq_iinc 67 (_ + 1) [_, _, _, _, _, _] dX8_spilled_64 rfl rfl (inc1 _) rfl (Nat.le_of_ble_eq_true rfl) rfl ?_
          refine wq_goto 15 dX8_spilled_67 (by decide) ?_
          rw [hGq] at c49
          exact no (fun z => by have := ((f7 q q64).mp z).2.2.2; exact absurd c49 (Int32.not_le.mpr this))
        · skip
          refine wq_iload 54 dX8_spilled_52 rfl rfl ?_
          refine wq_iload_n 55 1 dX8_spilled_54 rfl rfl rfl ?_
          refine wq_ic_ne 58 61 dX8_spilled_55 rfl (by decide) (fun c55 => ?_) (fun c55 => ?_)
          · skip
            refine wq_iinc 64 (_ + 1) [_, _, _, _, _, _] dX8_spilled_61 rfl rfl (inc1 _) rfl (Nat.le_of_ble_eq_true rfl) rfl ?_
            refine wq_iinc 67 (_ + 1) [_, _, _, _, _, _] dX8_spilled_64 rfl rfl (inc1 _) rfl (Nat.le_of_ble_eq_true rfl) rfl ?_
            refine wq_goto 15 dX8_spilled_67 (by decide) ?_
            rw [hGq] at c49
            have hS : tb (spS k w p n) q = true := (f7 q q64).mpr ⟨h4, (hasM_ne0 _ q64).mp c28, (nI_eq (a := rt (aA (endA k w p n)) q) (by omega) (by omega)).mp c39, Int32.not_le.mp c49⟩
            rw [← nI_succ, ← nI_succ]
            have := ih (q + 1) (by omega) (by omega) (fun x hx hs => by
              by_cases c : x = q
              · rw [c]; exact c55
              · exact hnn x (by omega) hs)
            rw [cntF, if_pos hS] at this
            exact this
          · skip
            refine wq_iload 60 dX8_spilled_58 rfl rfl ?_
            refine ri .int dX8_spilled_60 rfl rfl ?_
            rw [hGq] at c49
            have hS : tb (spS k w p n) q = true := (f7 q q64).mpr ⟨h4, (hasM_ne0 _ q64).mp c28, (nI_eq (a := rt (aA (endA k w p n)) q) (by omega) (by omega)).mp c39, Int32.not_le.mp c49⟩
            have hcl := cntF_le (tb (spS k w p n)) q
            rw [if_neg (fun z => by rw [z] at c55; exact nI_pos (n := cntF (tb (spS k w p n)) q) (by omega) (by rw [c55]; decide)), nth_some q64 hS c55 hnn, if_pos q64] at hp
            exact hp
set_option maxRecDepth 20000 in
theorem cm_spilled (hD : 8 ≤ D) (h : InvM I t) (hv : VT t) (i : Int32) : CM g D MX8_spilled [rf g 71, .int i] b I L (anSpilled t i) t := by
  obtain ⟨v1, v2, v3, v4, v5⟩ := hv.1
  obtain ⟨-, -, -, -, -, -, -, f7, -, -⟩ := round_facts (k := tK t) (w := tW t) v2 (show tN t ≤ 90 by omega) v5
  refine Me.of [some (rf g 71), some (.int i), none, none, none, none] 4 rfl pf_X8_spilled (Nat.le_of_ble_eq_true rfl) ?_
  refine wq_bload_n 1 0 dX8_spilled_0 rfl rfl rfl ?_
  refine cVp0 4 (sp_X8_firstRound (by omega) v2 v3 h.2.2.2.2.1 v5 h.1 h.2.1 h.2.2.1) ml_X8_304 mf_X8_firstRound dX8_spilled_1 rfl o_71 (by decide) rfl (Nat.le_of_ble_eq_true rfl) (by omega) ?_
  rintro _ b I1 L1 ⟨rfl, rfl, fh, hN, hA, hG, h95, h33⟩
  have hI1 := FH_M h fh
  have hS := FH_S fh
  have h33' : I1 71 33 = nI (aQ (tE t)) := h33
  refine wq_bload_n 5 0 dX8_spilled_4 rfl rfl rfl ?_
  refine cVl0 8 (sp_X8_names (by omega) hN v5) ml_X8_255 mf_X8_names dX8_spilled_5 rfl o_71 (by decide) rfl (Nat.le_of_ble_eq_true rfl) (by omega) ?_
  refine wq_lstore_n 9 2 [_, _, _, _, _, _] dX8_spilled_8 rfl rfl rfl (Nat.le_of_ble_eq_true rfl) rfl ?_
  refine wq_iconst 10 0 dX8_spilled_9 rfl (by decide) ?_
  refine wq_istore 12 [_, _, _, _, _, _] dX8_spilled_10 rfl rfl (Nat.le_of_ble_eq_true rfl) rfl ?_
  refine wq_iconst 13 4 dX8_spilled_12 rfl (by decide) ?_
  refine wq_istore 15 [_, _, _, _, _, _] dX8_spilled_13 rfl rfl (Nat.le_of_ble_eq_true rfl) rfl ?_
  have cz : cntF (tb (spS (tK t) (tW t) (tP t) (tN t))) 4 = 0 := by
    have nn : ∀ x, x < 4 → ¬ tb (spS (tK t) (tW t) (tP t) (tN t)) x = true := fun x hx z => by have := ((f7 x (by omega)).mp z).1; omega
    rw [cntF, cntF, cntF, cntF, cntF, if_neg (nn 0 (by omega)), if_neg (nn 1 (by omega)), if_neg (nn 2 (by omega)), if_neg (nn 3 (by omega))]
  have := lp_X8_spilled (g := g) (D := D) (b := b) (I := I1) (L := L1) (i := i) (post := fun r b' I' L' => r = some (.int (anSpilled t i)) ∧ b' = b ∧ InvM I' t ∧ Sm 0 71 I L I' L') (by omega) v2 (show tN t ≤ 90 by omega) v5 hA hG ⟨rfl, rfl, hI1, hS⟩ 60 4 (by omega) (by omega) (fun x hx hs => by have := ((f7 x (by omega)).mp hs).1; omega)
  rw [cz] at this
  exact this
set_option maxRecDepth 20000 in
theorem cm_rounds (hD : 9 ≤ D) (h : InvM I t) (hv : VT t) (v : Int32) : CM g D MX8_rounds [rf g 71, .int v] b I L (anRounds t v) t := by
  obtain ⟨v1, v2, v3, v4, v5⟩ := hv.1
  refine Me.of [some (rf g 71), some (.int v)] 0 rfl pf_X8_rounds (Nat.le_of_ble_eq_true rfl) ?_
  refine wq_iload_n 1 1 dX8_rounds_0 rfl rfl rfl ?_
  refine wq_iconst 2 0 dX8_rounds_1 rfl (by decide) ?_
  refine wq_iconst 3 4 dX8_rounds_2 rfl (by decide) ?_
  refine cSi3 6 (sp_X8_in _ _ _) ml_X8_113 mf_X8_in dX8_rounds_3 rfl (Nat.le_of_ble_eq_true rfl) (by omega) ?_
  refine wq_if_ne 9 12 dX8_rounds_6 rfl (by decide) (fun c6 => ?_) (fun c6 => ?_)
  · skip
    refine wq_bload_n 13 0 dX8_rounds_12 rfl rfl rfl ?_
    refine cVp0 16 (sp_X8_layCode (by omega) v2 v3 h.2.2.2.2.1 v5 h.1 h.2.1 h.2.2.1) ml_X8_316 mf_X8_layCode dX8_rounds_13 rfl o_71 (by decide) rfl (Nat.le_of_ble_eq_true rfl) (by omega) ?_
    rintro _ b I1 L1 ⟨rfl, fj, ⟨q1, rfl⟩ | ⟨r, s, q1, rfl, lc⟩⟩
    · have q1' : tGo t = none := q1
      refine wq_if_ne 19 22 dX8_rounds_16 rfl (by decide) (fun c => absurd rfl c) (fun c => ?_)
      refine wq_bipush 21 (-3) dX8_rounds_19 rfl (by decide) ?_
      refine ri .int dX8_rounds_21 rfl rfl ?_
      exact ⟨by rw [anRounds, if_neg c6, q1'], rfl, FJ_M h fj, FJ_S fj⟩
    have q1' : tGo t = some (r, s) := q1
    have hI1 := FJ_M h fj
    have hS := FJ_S fj
    refine wq_if_ne 19 22 dX8_rounds_16 rfl (by decide) (fun c16 => ?_) (fun c16 => absurd c16 (by decide))
    refine wq_iload_n 23 1 dX8_rounds_22 rfl rfl rfl ?_
    refine wq_if_ne 26 33 dX8_rounds_23 rfl (by decide) (fun c23 => ?_) (fun c23 => ?_)
    · skip
      refine wq_iload_n 34 1 dX8_rounds_33 rfl rfl rfl ?_
      refine wq_iconst 35 1 dX8_rounds_34 rfl (by decide) ?_
      refine wq_ic_ne 38 45 dX8_rounds_35 rfl (by decide) (fun c35 => ?_) (fun c35 => ?_)
      · skip
        refine wq_iload_n 46 1 dX8_rounds_45 rfl rfl rfl ?_
        refine wq_iconst 47 2 dX8_rounds_46 rfl (by decide) ?_
        refine wq_ic_ne 50 57 dX8_rounds_47 rfl (by decide) (fun c47 => ?_) (fun c47 => ?_)
        · skip
          refine wq_iload_n 58 1 dX8_rounds_57 rfl rfl rfl ?_
          refine wq_iconst 59 3 dX8_rounds_58 rfl (by decide) ?_
          refine wq_ic_ne 62 69 dX8_rounds_59 rfl (by decide) (fun c59 => ?_) (fun c59 => ?_)
          · skip
            refine wq_bload_n 70 0 dX8_rounds_69 rfl rfl rfl ?_
            refine wq_getI 73 fl_X8_310 dX8_rounds_70 rfl rfl o_71 ?_
            refine ri .int dX8_rounds_73 rfl rfl ?_
            refine ⟨?_, rfl, hI1, hS⟩
            rw [anRounds, if_neg c6, q1']
            show some (Value.int _) = some (Value.int (if v = 0 then nI r else if v = 1 then nI (sL s) else if v = 2 then nI (sW s) else if v = 3 then nI (tCd t s).2.1 else nI (tCd t s).2.2))
            rw [if_neg c23, if_neg c35, if_neg c47, if_neg c59, lc.2.2]; rfl
          · skip
            refine wq_bload_n 63 0 dX8_rounds_62 rfl rfl rfl ?_
            refine wq_getI 66 fl_X8_276 dX8_rounds_63 rfl rfl o_71 ?_
            refine wq_goto 73 dX8_rounds_66 (by decide) ?_
            refine ri .int dX8_rounds_73 rfl rfl ?_
            refine ⟨?_, rfl, hI1, hS⟩
            rw [anRounds, if_neg c6, q1']
            show some (Value.int _) = some (Value.int (if v = 0 then nI r else if v = 1 then nI (sL s) else if v = 2 then nI (sW s) else if v = 3 then nI (tCd t s).2.1 else nI (tCd t s).2.2))
            rw [if_neg c23, if_neg c35, if_neg c47, if_pos c59, lc.2.1.1]; rfl
        · skip
          refine wq_bload_n 51 0 dX8_rounds_50 rfl rfl rfl ?_
          refine wq_getI 54 fl_X8_282 dX8_rounds_51 rfl rfl o_71 ?_
          refine wq_goto 73 dX8_rounds_54 (by decide) ?_
          refine ri .int dX8_rounds_73 rfl rfl ?_
          refine ⟨?_, rfl, hI1, hS⟩
          rw [anRounds, if_neg c6, q1']
          show some (Value.int _) = some (Value.int (if v = 0 then nI r else if v = 1 then nI (sL s) else if v = 2 then nI (sW s) else if v = 3 then nI (tCd t s).2.1 else nI (tCd t s).2.2))
          rw [if_neg c23, if_neg c35, if_pos c47, lc.1.2.2.2.1]
      · skip
        refine wq_bload_n 39 0 dX8_rounds_38 rfl rfl rfl ?_
        refine wq_getI 42 fl_X8_295 dX8_rounds_39 rfl rfl o_71 ?_
        refine wq_goto 73 dX8_rounds_42 (by decide) ?_
        refine ri .int dX8_rounds_73 rfl rfl ?_
        refine ⟨?_, rfl, hI1, hS⟩
        rw [anRounds, if_neg c6, q1']
        show some (Value.int _) = some (Value.int (if v = 0 then nI r else if v = 1 then nI (sL s) else if v = 2 then nI (sW s) else if v = 3 then nI (tCd t s).2.1 else nI (tCd t s).2.2))
        rw [if_neg c23, if_pos c35, lc.1.2.2.1]
    · skip
      refine wq_bload_n 27 0 dX8_rounds_26 rfl rfl rfl ?_
      refine wq_getI 30 fl_X8_292 dX8_rounds_27 rfl rfl o_71 ?_
      refine wq_goto 73 dX8_rounds_30 (by decide) ?_
      refine ri .int dX8_rounds_73 rfl rfl ?_
      refine ⟨?_, rfl, hI1, hS⟩
      rw [anRounds, if_neg c6, q1']
      show some (Value.int _) = some (Value.int (if v = 0 then nI r else if v = 1 then nI (sL s) else if v = 2 then nI (sW s) else if v = 3 then nI (tCd t s).2.1 else nI (tCd t s).2.2))
      rw [if_pos c23, lc.1.2.1]
  · skip
    refine wq_bipush 11 (-2) dX8_rounds_9 rfl (by decide) ?_
    refine ri .int dX8_rounds_11 rfl rfl ?_
    exact ⟨by rw [anRounds, if_pos c6], rfl, h, fun _ _ _ => ⟨rfl, rfl⟩⟩
set_option maxRecDepth 20000 in
theorem cm_colour (hD : 9 ≤ D) (h : InvM I t) (hv : VT t) (v : Int32) : CM g D MX8_colour [rf g 71, .int v] b I L (anColour t v) t := by
  obtain ⟨v1, v2, v3, v4, v5⟩ := hv.1
  refine Me.of [some (rf g 71), some (.int v)] 0 rfl pf_X8_colour (Nat.le_of_ble_eq_true rfl) ?_
  refine wq_iload_n 1 1 dX8_colour_0 rfl rfl rfl ?_
  refine wq_iconst 2 4 dX8_colour_1 rfl (by decide) ?_
  refine wq_bipush 4 15 dX8_colour_2 rfl (by decide) ?_
  refine cSi3 7 (sp_X8_in _ _ _) ml_X8_113 mf_X8_in dX8_colour_4 rfl (Nat.le_of_ble_eq_true rfl) (by omega) ?_
  refine wq_if_ne 10 12 dX8_colour_7 rfl (by decide) (fun c7 => ?_) (fun c7 => ?_)
  · skip
    obtain ⟨x, x4, x16, ex⟩ := told_ex c7
    subst ex
    refine wq_bload_n 13 0 dX8_colour_12 rfl rfl rfl ?_
    refine cVp0 16 (sp_X8_goRounds (by omega) v2 v3 h.2.2.2.2.1 v5 h.1 h.2.1 h.2.2.1) ml_X8_307 mf_X8_goRounds dX8_colour_13 rfl o_71 (by decide) rfl (Nat.le_of_ble_eq_true rfl) (by omega) ?_
    rintro _ b I1 L1 ⟨rfl, fh, ⟨q1, rfl⟩ | ⟨r, s, q1, rfl, gr⟩⟩
    · have q1' : tGo t = none := q1
      refine wq_if_eq 19 28 dX8_colour_16 rfl (by decide) (fun c => ?_) (fun c => absurd rfl c)
      refine wq_bipush 30 (-3) dX8_colour_28 rfl (by decide) ?_
      refine ri .int dX8_colour_30 rfl rfl ?_
      exact ⟨by rw [anColour, if_neg c7, q1'], rfl, FH_M h fh, FH_S fh⟩
    have q1' : tGo t = some (r, s) := q1
    refine wq_if_eq 19 28 dX8_colour_16 rfl (by decide) (fun c16 => absurd c16 (by decide)) (fun c16 => ?_)
    refine wq_bload_n 20 0 dX8_colour_19 rfl rfl rfl ?_
    refine wq_getR 23 fl_X8_91 dX8_colour_20 rfl rfl o_71 (rfl : (Tb _).2.2.2 71 39 = some 97) ?_
    refine wq_iload_n 24 1 dX8_colour_23 rfl rfl rfl ?_
    refine wq_iald 25 dX8_colour_24 rfl a_97 (Ix.nI (by omega) (by decide)) ?_
    refine wq_goto 30 dX8_colour_25 (by decide) ?_
    refine ri .int dX8_colour_30 rfl rfl ?_
    refine ⟨?_, rfl, FH_M h fh, FH_S fh⟩
    rw [anColour, if_neg c7, q1']
    show some (Value.int _) = some (Value.int (if tb (Nms (sP s) (sN s)) (cN (nI x)) = true then rgA (tK t) (tW t) (sP s) (sN s) (ndA (tK t) (tW t) (sP s) (sN s) (cN (nI x))) else sC s (cN (nI x))))
    rw [show cN (nI x) = x from nI_clamp (by omega), gr.2.2.2.2.2.2 x x4 x16]
  · skip
    refine wq_iconst 11 (-1) dX8_colour_10 rfl (by decide) ?_
    refine ri .int dX8_colour_11 rfl rfl ?_
    exact ⟨by rw [anColour, if_pos c7], rfl, h, fun _ _ _ => ⟨rfl, rfl⟩⟩
set_option maxRecDepth 20000 in
theorem cm_code (hD : 9 ≤ D) (h : InvM I t) (hv : VT t) (i v : Int32) : CM g D MX8_code [rf g 71, .int i, .int v] b I L (anCode t i v) t := by
  obtain ⟨v1, v2, v3, v4, v5⟩ := hv.1
  refine Me.of [some (rf g 71), some (.int i), some (.int v)] 0 rfl pf_X8_code (Nat.le_of_ble_eq_true rfl) ?_
  refine wq_bload_n 1 0 dX8_code_0 rfl rfl rfl ?_
  refine cVp0 4 (sp_X8_layCode (by omega) v2 v3 h.2.2.2.2.1 v5 h.1 h.2.1 h.2.2.1) ml_X8_316 mf_X8_layCode dX8_code_1 rfl o_71 (by decide) rfl (Nat.le_of_ble_eq_true rfl) (by omega) ?_
  rintro _ b I1 L1 ⟨rfl, fj, ⟨q1, rfl⟩ | ⟨r, s, q1, rfl, lc⟩⟩
  · have q1' : tGo t = none := q1
    refine wq_if_ne 7 10 dX8_code_4 rfl (by decide) (fun c => absurd rfl c) (fun c => ?_)
    refine wq_bipush 9 (-3) dX8_code_7 rfl (by decide) ?_
    refine ri .int dX8_code_9 rfl rfl ?_
    exact ⟨by rw [anCode_no q1'], rfl, FJ_M h fj, FJ_S fj⟩
  have q1' : tGo t = some (r, s) := q1
  have hI1 := FJ_M h fj
  have hS := FJ_S fj
  have cl := cd_le (tK t) (tW t) (sP s) (sN s) (sN s)
  have sn := lc.1.1.1
  have m18 : I1 71 18 = nI (tCd t s).2.1 := lc.2.1.1
  have m90 : (tCd t s).2.1 ≤ 90 := by have : (tCd t s).2.1 + (tCd t s).2.2 = sN s := cl; omega
  refine wq_if_ne 7 10 dX8_code_4 rfl (by decide) (fun c4 => ?_) (fun c4 => absurd c4 (by decide))
  refine wq_iload_n 11 1 dX8_code_10 rfl rfl rfl ?_
  refine wq_iconst 12 0 dX8_code_11 rfl (by decide) ?_
  refine wq_bload_n 13 0 dX8_code_12 rfl rfl rfl ?_
  refine wq_getI 16 fl_X8_276 dX8_code_13 rfl rfl o_71 ?_
  refine wq_iconst 17 1 dX8_code_16 rfl (by decide) ?_
  refine wq_isub 18 dX8_code_17 rfl ?_
  refine cSi3 21 (sp_X8_in _ _ _) ml_X8_113 mf_X8_in dX8_code_18 rfl (Nat.le_of_ble_eq_true rfl) (by omega) ?_
  refine wq_if_ne 24 26 dX8_code_21 rfl (by decide) (fun c21 => ?_) (fun c21 => ?_)
  · skip
    refine wq_iload_n 27 2 dX8_code_26 rfl rfl rfl ?_
    refine wq_iconst 28 0 dX8_code_27 rfl (by decide) ?_
    refine wq_iconst 29 3 dX8_code_28 rfl (by decide) ?_
    refine cSi3 32 (sp_X8_in _ _ _) ml_X8_113 mf_X8_in dX8_code_29 rfl (Nat.le_of_ble_eq_true rfl) (by omega) ?_
    refine wq_if_ne 35 38 dX8_code_32 rfl (by decide) (fun c32 => ?_) (fun c32 => ?_)
    · skip
      rw [m18] at c21
      have ni : ¬ (i < 0 ∨ nI (tCd t s).2.1 ≤ i) := fun z => c21 ((inM_pred (by omega)).mpr z)
      obtain ⟨x, xn, ex⟩ := in_ix (v := i) (n := (tCd t s).2.1) (by omega) (fun z => ni (Or.inl z)) (Int32.not_le.mp (fun z => ni (Or.inr z)))
      obtain ⟨y, y3, ey⟩ := in_ex (v := v) (hi := 3) (by decide) (fun z => c32 (inM_lt z)) (fun z => c32 (inM_gt z))
      subst ex ey
      obtain ⟨r0, r1, r2, r3⟩ := lc.2.1.2 x xn (by omega)
      refine wq_iload_n 39 2 dX8_code_38 rfl rfl rfl ?_
      refine wq_if_ne 42 51 dX8_code_39 rfl (by decide) (fun c39 => ?_) (fun c39 => ?_)
      · skip
        refine wq_iload_n 52 2 dX8_code_51 rfl rfl rfl ?_
        refine wq_iconst 53 1 dX8_code_52 rfl (by decide) ?_
        refine wq_ic_ne 56 65 dX8_code_53 rfl (by decide) (fun c53 => ?_) (fun c53 => ?_)
        · skip
          refine wq_iload_n 66 2 dX8_code_65 rfl rfl rfl ?_
          refine wq_iconst 67 2 dX8_code_66 rfl (by decide) ?_
          refine wq_ic_ne 70 79 dX8_code_67 rfl (by decide) (fun c67 => ?_) (fun c67 => ?_)
          · skip
            refine wq_bload_n 80 0 dX8_code_79 rfl rfl rfl ?_
            refine wq_getR 83 fl_X8_50 dX8_code_80 rfl rfl o_71 (rfl : (Tb _).2.2.2 71 17 = some 84) ?_
            refine wq_iload_n 84 1 dX8_code_83 rfl rfl rfl ?_
            refine wq_iald 85 dX8_code_84 rfl a_84 (Ix.nI (by omega) (by decide)) ?_
            refine ri .int dX8_code_85 rfl rfl ?_
            have y0 : y = 3 := by
              have d0 : y ≠ 0 := fun z => c39 (by rw [z]; rfl)
              have d1 : y ≠ 1 := fun z => c53 (by rw [z]; rfl)
              have d2 : y ≠ 2 := fun z => c67 (by rw [z]; rfl)
              omega
            exact ⟨by rw [anCode_so q1', if_neg ni, if_neg c32, show cN (nI x) = x from nI_clamp (by omega), show cN (nI y) = y from nI_clamp (by omega), y0]; rw [r3]; rfl, rfl, hI1, hS⟩
          · skip
            refine wq_bload_n 71 0 dX8_code_70 rfl rfl rfl ?_
            refine wq_getR 74 fl_X8_47 dX8_code_71 rfl rfl o_71 (rfl : (Tb _).2.2.2 71 16 = some 83) ?_
            refine wq_iload_n 75 1 dX8_code_74 rfl rfl rfl ?_
            refine wq_iald 76 dX8_code_75 rfl a_83 (Ix.nI (by omega) (by decide)) ?_
            refine wq_goto 85 dX8_code_76 (by decide) ?_
            refine ri .int dX8_code_85 rfl rfl ?_
            have y0 : y = 2 := (nI_eq (a := y) (b := 2) (by omega) (by decide)).mp c67
            exact ⟨by rw [anCode_so q1', if_neg ni, if_neg c32, show cN (nI x) = x from nI_clamp (by omega), show cN (nI y) = y from nI_clamp (by omega), y0]; rw [r2]; rfl, rfl, hI1, hS⟩
        · skip
          refine wq_bload_n 57 0 dX8_code_56 rfl rfl rfl ?_
          refine wq_getR 60 fl_X8_44 dX8_code_57 rfl rfl o_71 (rfl : (Tb _).2.2.2 71 15 = some 82) ?_
          refine wq_iload_n 61 1 dX8_code_60 rfl rfl rfl ?_
          refine wq_iald 62 dX8_code_61 rfl a_82 (Ix.nI (by omega) (by decide)) ?_
          refine wq_goto 85 dX8_code_62 (by decide) ?_
          refine ri .int dX8_code_85 rfl rfl ?_
          have y0 : y = 1 := (nI_eq (a := y) (b := 1) (by omega) (by decide)).mp c53
          exact ⟨by rw [anCode_so q1', if_neg ni, if_neg c32, show cN (nI x) = x from nI_clamp (by omega), show cN (nI y) = y from nI_clamp (by omega), y0]; rw [r1]; rfl, rfl, hI1, hS⟩
      · skip
        refine wq_bload_n 43 0 dX8_code_42 rfl rfl rfl ?_
        refine wq_getR 46 fl_X8_41 dX8_code_43 rfl rfl o_71 (rfl : (Tb _).2.2.2 71 14 = some 81) ?_
        refine wq_iload_n 47 1 dX8_code_46 rfl rfl rfl ?_
        refine wq_iald 48 dX8_code_47 rfl a_81 (Ix.nI (by omega) (by decide)) ?_
        refine wq_goto 85 dX8_code_48 (by decide) ?_
        refine ri .int dX8_code_85 rfl rfl ?_
        have y0 : y = 0 := (nI_eq (a := y) (b := 0) (by omega) (by decide)).mp c39
        exact ⟨by rw [anCode_so q1', if_neg ni, if_neg c32, show cN (nI x) = x from nI_clamp (by omega), show cN (nI y) = y from nI_clamp (by omega), y0]; rw [r0]; rfl, rfl, hI1, hS⟩
    · skip
      refine wq_bipush 37 (-2) dX8_code_35 rfl (by decide) ?_
      refine ri .int dX8_code_37 rfl rfl ?_
      rw [m18] at c21
      exact ⟨by rw [anCode_so q1', if_neg (fun z => c21 ((inM_pred (by omega)).mpr z)), if_pos c32], rfl, hI1, hS⟩
  · skip
    refine wq_iconst 25 (-1) dX8_code_24 rfl (by decide) ?_
    refine ri .int dX8_code_25 rfl rfl ?_
    rw [m18] at c21
    exact ⟨by rw [anCode_so q1', if_pos ((inM_pred (by omega)).mp c21)], rfl, hI1, hS⟩
set_option maxRecDepth 20000 in
theorem cm_run (hD : 3 ≤ D) (h : InvM I t) (hv : VT t) (v : Int32) : CM g D MX8_run [rf g 71, .int v] b I L (anRun t v) t := by
  have hM := h.2.2.2.2.1
  refine Me.of [some (rf g 71), some (.int v)] 0 rfl pf_X8_run (Nat.le_of_ble_eq_true rfl) ?_
  refine wq_iload_n 1 1 dX8_run_0 rfl rfl rfl ?_
  refine wq_iconst 2 0 dX8_run_1 rfl (by decide) ?_
  refine wq_iconst 3 3 dX8_run_2 rfl (by decide) ?_
  refine cSi3 6 (sp_X8_in _ _ _) ml_X8_113 mf_X8_in dX8_run_3 rfl (Nat.le_of_ble_eq_true rfl) (by omega) ?_
  refine wq_if_ne 9 12 dX8_run_6 rfl (by decide) (fun c6 => ?_) (fun c6 => ?_)
  · skip
    refine wq_bload_n 13 0 dX8_run_12 rfl rfl rfl ?_
    refine cVp0 16 (sp_X8_asProgram hM) ml_X8_174 mf_X8_asProgram dX8_run_13 rfl o_71 (by decide) rfl (Nat.le_of_ble_eq_true rfl) (by omega) ?_
    rintro _ b I1 L ⟨rfl, rfl, rfl, hN, i71, ix⟩
    have hI1 := asP_M h i71 ix
    refine wq_bload_n 17 0 dX8_run_16 rfl rfl rfl ?_
    refine wq_sipush 20 500 dX8_run_17 rfl (by decide) ?_
    refine cVp1 23 (sp_X8_runNow (by omega) hN hv.1.2.2.2.2 (Nat.le_refl _) 500 rfl (by omega)) ml_X8_338 mf_X8_runNow dX8_run_20 rfl o_71 (by decide) rfl (Nat.le_of_ble_eq_true rfl) (by omega) ?_
    rintro _ b I2 L ⟨rfl, rfl, rfl, vx, fn⟩
    have hI2 := FN_M hI1 fn
    have hS : Sm 0 71 I L I2 L := Sm_M (fun z hz => by rw [fn.1 z (by simp; omega), ix z (by simp; omega)])
    obtain ⟨⟨w1, w2, w3, w4, w5, w6, w7, w8⟩, w9⟩ := vx
    refine wq_iload_n 24 1 dX8_run_23 rfl rfl rfl ?_
    refine wq_if_ne 27 34 dX8_run_24 rfl (by decide) (fun c24 => ?_) (fun c24 => ?_)
    · skip
      refine wq_iload_n 35 1 dX8_run_34 rfl rfl rfl ?_
      refine wq_iconst 36 1 dX8_run_35 rfl (by decide) ?_
      refine wq_ic_ne 39 46 dX8_run_36 rfl (by decide) (fun c36 => ?_) (fun c36 => ?_)
      · skip
        refine wq_iload_n 47 1 dX8_run_46 rfl rfl rfl ?_
        refine wq_iconst 48 2 dX8_run_47 rfl (by decide) ?_
        refine wq_ic_ne 51 58 dX8_run_48 rfl (by decide) (fun c48 => ?_) (fun c48 => ?_)
        · skip
          refine wq_bload_n 59 0 dX8_run_58 rfl rfl rfl ?_
          refine wq_getI 62 fl_X8_335 dX8_run_59 rfl rfl o_71 ?_
          refine wq_if_eq 65 69 dX8_run_62 rfl (by decide) (fun c62 => ?_) (fun c62 => ?_)
          · skip
            refine wq_iconst 70 0 dX8_run_69 rfl (by decide) ?_
            refine ri .int dX8_run_70 rfl rfl ?_
            have v3 : v = 3 := by
              obtain ⟨y, y3, rfl⟩ := in_ex (v := v) (hi := 3) (by decide) (fun z => c6 (inM_lt z)) (fun z => c6 (inM_gt z))
              have d0 : y ≠ 0 := fun z => c24 (by rw [z]; rfl)
              have d1 : y ≠ 1 := fun z => c36 (by rw [z]; rfl)
              have d2 : y ≠ 2 := fun z => c48 (by rw [z]; rfl)
              rw [show y = 3 by omega]; rfl
            rw [w9] at c62
            refine ⟨?_, rfl, hI2, hS⟩
            rw [anRun, if_neg c6, rnAns, if_neg c24, if_neg c36, if_neg c48, if_pos v3]
            show some (Value.int 0) = some (Value.int (bI (decide (tN t ≤ (rnF (tP t) (tN t) 500 0 0 rs0).2.1))))
            rw [c62]
          · skip
            refine wq_iconst 66 1 dX8_run_65 rfl (by decide) ?_
            refine wq_goto 70 dX8_run_66 (by decide) ?_
            refine ri .int dX8_run_70 rfl rfl ?_
            have v3 : v = 3 := by
              obtain ⟨y, y3, rfl⟩ := in_ex (v := v) (hi := 3) (by decide) (fun z => c6 (inM_lt z)) (fun z => c6 (inM_gt z))
              have d0 : y ≠ 0 := fun z => c24 (by rw [z]; rfl)
              have d1 : y ≠ 1 := fun z => c36 (by rw [z]; rfl)
              have d2 : y ≠ 2 := fun z => c48 (by rw [z]; rfl)
              rw [show y = 3 by omega]; rfl
            rw [w9] at c62
            refine ⟨?_, rfl, hI2, hS⟩
            rw [anRun, if_neg c6, rnAns, if_neg c24, if_neg c36, if_neg c48, if_pos v3]
            show some (Value.int 1) = some (Value.int (bI (decide (tN t ≤ (rnF (tP t) (tN t) 500 0 0 rs0).2.1))))
            rw [bI_ne.mp c62]; rfl
        · skip
          refine wq_bload_n 52 0 dX8_run_51 rfl rfl rfl ?_
          refine wq_getI 55 fl_X8_325 dX8_run_52 rfl rfl o_71 ?_
          refine wq_goto 70 dX8_run_55 (by decide) ?_
          refine ri .int dX8_run_70 rfl rfl ?_
          refine ⟨?_, rfl, hI2, hS⟩
          rw [anRun, if_neg c6, rnAns, if_neg c24, if_neg c36, if_pos c48, w6]; rfl
      · skip
        refine wq_bload_n 40 0 dX8_run_39 rfl rfl rfl ?_
        refine wq_getI 43 fl_X8_322 dX8_run_40 rfl rfl o_71 ?_
        refine wq_goto 70 dX8_run_43 (by decide) ?_
        refine ri .int dX8_run_70 rfl rfl ?_
        refine ⟨?_, rfl, hI2, hS⟩
        rw [anRun, if_neg c6, rnAns, if_neg c24, if_pos c36, w5]; rfl
    · skip
      refine wq_bload_n 28 0 dX8_run_27 rfl rfl rfl ?_
      refine wq_getI 31 fl_X8_319 dX8_run_28 rfl rfl o_71 ?_
      refine wq_goto 70 dX8_run_31 (by decide) ?_
      refine ri .int dX8_run_70 rfl rfl ?_
      refine ⟨?_, rfl, hI2, hS⟩
      rw [anRun, if_neg c6, rnAns, if_pos c24, w4]; rfl
  · skip
    refine wq_bipush 11 (-2) dX8_run_9 rfl (by decide) ?_
    refine ri .int dX8_run_11 rfl rfl ?_
    exact ⟨by rw [anRun, if_pos c6], rfl, h, fun _ _ _ => ⟨rfl, rfl⟩⟩
set_option maxRecDepth 20000 in
theorem cm_out (hD : 3 ≤ D) (h : InvM I t) (hv : VT t) (i : Int32) : CM g D MX8_out [rf g 71, .int i] b I L (anOut t i) t := by
  have hM := h.2.2.2.2.1
  have u500 : uC (tRun t).2.2 ≤ 500 := rn_500 _ _
  refine Me.of [some (rf g 71), some (.int i)] 0 rfl pf_X8_out (Nat.le_of_ble_eq_true rfl) ?_
  refine wq_bload_n 1 0 dX8_out_0 rfl rfl rfl ?_
  refine cVp0 4 (sp_X8_asProgram hM) ml_X8_174 mf_X8_asProgram dX8_out_1 rfl o_71 (by decide) rfl (Nat.le_of_ble_eq_true rfl) (by omega) ?_
  rintro _ b I1 L ⟨rfl, rfl, rfl, hN, i71, ix⟩
  have hI1 := asP_M h i71 ix
  refine wq_bload_n 5 0 dX8_out_4 rfl rfl rfl ?_
  refine wq_sipush 8 500 dX8_out_5 rfl (by decide) ?_
  refine cVp1 11 (sp_X8_runNow (by omega) hN hv.1.2.2.2.2 (Nat.le_refl _) 500 rfl (by omega)) ml_X8_338 mf_X8_runNow dX8_out_8 rfl o_71 (by decide) rfl (Nat.le_of_ble_eq_true rfl) (by omega) ?_
  rintro _ b I2 L ⟨rfl, rfl, rfl, vx, fn⟩
  have hI2 := FN_M hI1 fn
  have hS : Sm 0 71 I L I2 L := Sm_M (fun z hz => by rw [fn.1 z (by simp; omega), ix z (by simp; omega)])
  obtain ⟨⟨w1, w2, w3, w4, w5, w6, w7, w8⟩, w9⟩ := vx
  have w4' : I2 71 44 = nI (uC (tRun t).2.2) := w4
  refine wq_iload_n 12 1 dX8_out_11 rfl rfl rfl ?_
  refine wq_iconst 13 0 dX8_out_12 rfl (by decide) ?_
  refine wq_bload_n 14 0 dX8_out_13 rfl rfl rfl ?_
  refine wq_getI 17 fl_X8_319 dX8_out_14 rfl rfl o_71 ?_
  refine wq_iconst 18 1 dX8_out_17 rfl (by decide) ?_
  refine wq_isub 19 dX8_out_18 rfl ?_
  refine cSi3 22 (sp_X8_in _ _ _) ml_X8_113 mf_X8_in dX8_out_19 rfl (Nat.le_of_ble_eq_true rfl) (by omega) ?_
  refine wq_if_eq 25 34 dX8_out_22 rfl (by decide) (fun c22 => ?_) (fun c22 => ?_)
  · skip
    refine wq_bipush 36 (-6) dX8_out_34 rfl (by decide) ?_
    refine ri .int dX8_out_36 rfl rfl ?_
    rw [w4'] at c22
    exact ⟨by rw [anOut, if_pos ((inM_pred (by omega)).mp c22)], rfl, hI2, hS⟩
  · skip
    rw [w4'] at c22
    have ni : ¬ (i < 0 ∨ nI (uC (tRun t).2.2) ≤ i) := fun z => c22 ((inM_pred (by omega)).mpr z)
    obtain ⟨x, xn, ex⟩ := in_ix (v := i) (n := uC (tRun t).2.2) (by omega) (fun z => ni (Or.inl z)) (Int32.not_le.mp (fun z => ni (Or.inr z)))
    subst ex
    refine wq_bload_n 26 0 dX8_out_25 rfl rfl rfl ?_
    refine wq_getR 29 fl_X8_100 dX8_out_26 rfl rfl o_71 (rfl : (Tb _).2.2.2 71 43 = some 100) ?_
    refine wq_iload_n 30 1 dX8_out_29 rfl rfl rfl ?_
    refine wq_iald 31 dX8_out_30 rfl a_100 (Ix.nI (by omega) (by decide)) ?_
    refine wq_goto 36 dX8_out_31 (by decide) ?_
    refine ri .int dX8_out_36 rfl rfl ?_
    exact ⟨by rw [anOut, if_neg ni, show cN (nI x) = x from nI_clamp (by omega)]; rw [show I2 100 x = nI (uT (tRun t).2.2 x) from w3 x xn], rfl, hI2, hS⟩
end MCalls2
