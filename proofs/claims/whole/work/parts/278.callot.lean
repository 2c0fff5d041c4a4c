/-! the class's calls: steps, rounds, code, runs, images -/
section Calls3
variable {g : Gl} {D : Nat} {b : Bool} {I : IM} {L : LM} {t : TS}
theorem tE_Q (hv : VT t) : aQ (tE t) ≤ 150 := end_Q (by have := hv.1.2.2.2.1; omega) hv.1.2.2.2.2
set_option maxRecDepth 20000 in
theorem cx_step (hD : 11 ≤ D) (h : InvX I L t) (hv : VT t) (i : Int32) : CX g D MX7_step [rf g 0, .int i] b I L (anStep t i) t := by
  have hq := tE_Q hv
  refine Me.of [some (rf g 0), some (.int i)] 0 rfl pf_X7_step (Nat.le_of_ble_eq_true rfl) ?_
  refine wq_bload_n 1 0 dX7_step_0 rfl rfl rfl ?_
  refine cVp0 4 (sp_X7_findAllotment (by omega) h hv) ml_X7_127 mf_X7_findAllotment dX7_step_1 rfl o_0 (by decide) rfl (Nat.le_of_ble_eq_true rfl) (by omega) ?_
  rintro _ b I1 L1 ⟨rfl, i1, al, i2⟩
  have f8 : I1 14 8 = nI (aQ (tE t)) := al.1.1
  refine wq_iload_n 5 1 dX7_step_4 rfl rfl rfl ?_
  refine wq_iconst 6 (-1) dX7_step_5 rfl (by decide) ?_
  refine wq_ic_ne 9 17 dX7_step_6 rfl (by decide) (fun c6 => ?_) (fun c6 => ?_)
  · skip
    refine wq_iload_n 18 1 dX7_step_17 rfl rfl rfl ?_
    refine wq_if_lt 21 32 dX7_step_18 rfl (by decide) (fun c18 => ?_) (fun c18 => ?_)
    · skip
      refine wq_bipush 34 (-6) dX7_step_32 rfl (by decide) ?_
      refine ri .int dX7_step_34 rfl rfl ?_
      exact ⟨by rw [anStep, if_neg c6, if_pos (Or.inl c18)], i1, i2⟩
    · skip
      refine wq_iload_n 22 1 dX7_step_21 rfl rfl rfl ?_
      refine wq_bload_n 23 0 dX7_step_22 rfl rfl rfl ?_
      refine wq_getR 26 fl_X7_33 dX7_step_23 rfl rfl o_0 (rfl : (Tb _).2.2.2 0 3 = some 14) ?_
      refine wq_getI 29 fl_X7_130 dX7_step_26 rfl rfl o_14 ?_
      refine wq_ic_lt 32 35 dX7_step_29 rfl (by decide) (fun c29 => ?_) (fun c29 => ?_)
      · skip
        rw [f8] at c29
        have ni : ¬ (i < 0 ∨ nI (aQ (tE t)) ≤ i) := fun z => z.elim c18 (fun z => absurd c29 (Int32.not_lt.mpr z))
        obtain ⟨x, xn, ex⟩ := in_ix (by omega) c18 c29
        subst ex
        refine wq_bload_n 36 0 dX7_step_35 rfl rfl rfl ?_
        refine wq_getR 39 fl_X7_33 dX7_step_36 rfl rfl o_0 (rfl : (Tb _).2.2.2 0 3 = some 14) ?_
        refine wq_getR 42 fl_X7_133 dX7_step_39 rfl rfl o_14 (rfl : (Tb _).2.2.2 14 4 = some 38) ?_
        refine wq_iload_n 43 1 dX7_step_42 rfl rfl rfl ?_
        refine wq_iald 44 dX7_step_43 rfl a_38 (Ix.nI (by omega) (by decide)) ?_
        refine ri .int dX7_step_44 rfl rfl ?_
        exact ⟨by rw [anStep, if_neg c6, if_neg ni, show cN (nI x) = x from nI_clamp (by omega)]; rw [show I1 38 x = nI (aS (tE t) x) from al.1.2.1 x xn], i1, i2⟩
      · skip
        refine wq_bipush 34 (-6) dX7_step_32 rfl (by decide) ?_
        refine ri .int dX7_step_34 rfl rfl ?_
        rw [f8] at c29
        exact ⟨by rw [anStep, if_neg c6, if_pos (Or.inr (Int32.not_lt.mp c29))], i1, i2⟩
  · skip
    refine wq_bload_n 10 0 dX7_step_9 rfl rfl rfl ?_
    refine wq_getR 13 fl_X7_33 dX7_step_10 rfl rfl o_0 (rfl : (Tb _).2.2.2 0 3 = some 14) ?_
    refine wq_getI 16 fl_X7_130 dX7_step_13 rfl rfl o_14 ?_
    refine ri .int dX7_step_16 rfl rfl ?_
    exact ⟨by rw [anStep, if_pos c6, f8], i1, i2⟩
theorem nth_none {S : Int64} {i : Int32} (h : ∀ x, x < 64 → tb S x = true → ¬ nI (cntF (tb S) x) = i) : nthS S i = 64 := lf_none (fun j hj => by
  by_cases c : tb S j = true
  · rw [decide_eq_false (h j hj c), Bool.and_false]
  · rw [Bool.eq_false_iff.mpr c, Bool.false_and])
theorem nth_some {S : Int64} {i : Int32} {x : Nat} (hx : x < 64) (hS : tb S x = true) (he : nI (cntF (tb S) x) = i) (h : ∀ y, y < x → tb S y = true → ¬ nI (cntF (tb S) y) = i) : nthS S i = x := lf_found (fun j hj => by
  by_cases c : tb S j = true
  · rw [decide_eq_false (h j hj c), Bool.and_false]
  · rw [Bool.eq_false_iff.mpr c, Bool.false_and]) (by rw [hS, decide_eq_true he]; rfl) hx
set_option maxRecDepth 20000 in
set_option maxHeartbeats 2000000 in
theorem lp_X7_spilled {S : Int64} {i : Int32} (hD : 1 ≤ D) (hS : L 14 9 = S) {post : Option Value → Bool → IM → LM → Prop} (hp : post (some (.int (if nthS S i < 64 then nI (nthS S i) else -6))) b I L) : ∀ r q, q + r = 64 → (∀ x, x < q → tb S x = true → ¬ nI (cntF (tb S) x) = i) → Wp (Kn g D MX7_spilled post) (Tb b) 24 [some (rf g 0), some (.int i), some (.int (nI (cntF (tb S) q))), some (.int (nI q))] [] I L := by
  intro r
  induction r with
  | zero =>
    intro q hq hn
    have eq : q = 64 := by omega
    subst eq
    rw [nth_none hn, if_neg (by omega)] at hp
    refine wq_iload_n 25 3 dX7_spilled_24 rfl rfl rfl ?_
    refine wq_bipush 27 64 dX7_spilled_25 rfl (by decide) ?_
    refine wq_ic_ge 30 60 dX7_spilled_27 rfl (by decide) (fun c27 => ?_) (fun c27 => absurd (by decide) c27)
    refine wq_bipush 62 (-6) dX7_spilled_60 rfl (by decide) ?_
    refine ri .int dX7_spilled_62 rfl rfl ?_
    exact hp
  | succ r ih =>
    intro q hq hn
    have q64 : q < 64 := by omega
    refine wq_iload_n 25 3 dX7_spilled_24 rfl rfl rfl ?_
    refine wq_bipush 27 64 dX7_spilled_25 rfl (by decide) ?_
    refine wq_ic_ge 30 60 dX7_spilled_27 rfl (by decide) (fun c27 => absurd c27 (nI_ge (b := 64) (by omega) (by decide))) (fun c27 => ?_)
    refine wq_bload_n 31 0 dX7_spilled_30 rfl rfl rfl ?_
    refine wq_getR 34 fl_X7_33 dX7_spilled_31 rfl rfl o_0 (rfl : (Tb _).2.2.2 0 3 = some 14) ?_
    refine wq_getL 37 fl_X7_136 dX7_spilled_34 rfl rfl o_14 ?_
    refine wq_iload_n 38 3 dX7_spilled_37 rfl rfl rfl ?_
    refine cSi2 41 (sp_X7_has _ _) ml_X7_140 mf_X7_has dX7_spilled_38 rfl (Nat.le_of_ble_eq_true rfl) (by omega) ?_
    refine wq_if_eq 44 54 dX7_spilled_41 rfl (by decide) (fun c41 => ?_) (fun c41 => ?_)
    · skip
      refine wq_iinc 57 (_ + 1) [_, _, _, _] dX7_spilled_54 rfl rfl (inc1 _) rfl (Nat.le_of_ble_eq_true rfl) rfl ?_
      refine wq_goto 24 dX7_spilled_57 (by decide) ?_
      have e : tb S q = false := (hasX_eq0 _ q64).mp (by rw [← hS]; exact c41)
      rw [← nI_succ]
      have := ih (q + 1) (by omega) (fun x hx hs => by
        by_cases c : x = q
        · rw [c, e] at hs; cases hs
        · exact hn x (by omega) hs)
      rw [cntF, e, if_neg (by decide), Nat.add_zero] at this
      exact this
    · skip
      refine wq_iload_n 45 2 dX7_spilled_44 rfl rfl rfl ?_
      refine wq_iload_n 46 1 dX7_spilled_45 rfl rfl rfl ?_
      refine wq_ic_ne 49 51 dX7_spilled_46 rfl (by decide) (fun c46 => ?_) (fun c46 => ?_)
      · skip
        refine wq_iinc 54 (_ + 1) [_, _, _, _] dX7_spilled_51 rfl rfl (inc1 _) rfl (Nat.le_of_ble_eq_true rfl) rfl ?_
        refine wq_iinc 57 (_ + 1) [_, _, _, _] dX7_spilled_54 rfl rfl (inc1 _) rfl (Nat.le_of_ble_eq_true rfl) rfl ?_
        refine wq_goto 24 dX7_spilled_57 (by decide) ?_
        have e : tb S q = true := (hasX_ne0 _ q64).mp (by rw [← hS]; exact c41)
        rw [← nI_succ, ← nI_succ]
        have := ih (q + 1) (by omega) (fun x hx hs => by
          by_cases c : x = q
          · rw [c]; exact c46
          · exact hn x (by omega) hs)
        rw [cntF, e, if_pos rfl] at this
        exact this
      · skip
        refine wq_iload_n 50 3 dX7_spilled_49 rfl rfl rfl ?_
        refine ri .int dX7_spilled_50 rfl rfl ?_
        have e : tb S q = true := (hasX_ne0 _ q64).mp (by rw [← hS]; exact c41)
        rw [nth_some q64 e c46 hn, if_pos q64] at hp
        exact hp
set_option maxRecDepth 20000 in
theorem cx_spilled (hD : 11 ≤ D) (h : InvX I L t) (hv : VT t) (i : Int32) : CX g D MX7_spilled [rf g 0, .int i] b I L (anSpilled t i) t := by
  refine Me.of [some (rf g 0), some (.int i), none, none] 2 rfl pf_X7_spilled (Nat.le_of_ble_eq_true rfl) ?_
  refine wq_bload_n 1 0 dX7_spilled_0 rfl rfl rfl ?_
  refine cVp0 4 (sp_X7_findAllotment (by omega) h hv) ml_X7_127 mf_X7_findAllotment dX7_spilled_1 rfl o_0 (by decide) rfl (Nat.le_of_ble_eq_true rfl) (by omega) ?_
  rintro _ b I1 L1 ⟨rfl, i1, al, i2⟩
  have f9 : L1 14 9 = tS t := al.1.2.2
  refine wq_iload_n 5 1 dX7_spilled_4 rfl rfl rfl ?_
  refine wq_iconst 6 (-1) dX7_spilled_5 rfl (by decide) ?_
  refine wq_ic_ne 9 20 dX7_spilled_6 rfl (by decide) (fun c6 => ?_) (fun c6 => ?_)
  · skip
    refine wq_iconst 21 0 dX7_spilled_20 rfl (by decide) ?_
    refine wq_istore_n 22 2 [_, _, _, _] dX7_spilled_21 rfl rfl rfl (Nat.le_of_ble_eq_true rfl) rfl ?_
    refine wq_iconst 23 0 dX7_spilled_22 rfl (by decide) ?_
    refine wq_istore_n 24 3 [_, _, _, _] dX7_spilled_23 rfl rfl rfl (Nat.le_of_ble_eq_true rfl) rfl ?_
    exact lp_X7_spilled (by omega) f9 ⟨by rw [anSpilled, if_neg c6], i1, i2⟩ 64 0 (by omega) (fun x hx => by omega)
  · skip
    refine wq_bload_n 10 0 dX7_spilled_9 rfl rfl rfl ?_
    refine wq_getR 13 fl_X7_33 dX7_spilled_10 rfl rfl o_0 (rfl : (Tb _).2.2.2 0 3 = some 14) ?_
    refine wq_getL 16 fl_X7_136 dX7_spilled_13 rfl rfl o_14 ?_
    refine cSi1 19 (sp_J13_bitCount _) ml_X7_117 mf_J13_bitCount_95d88 dX7_spilled_16 rfl (Nat.le_of_ble_eq_true rfl) (by omega) ?_
    refine ri .int dX7_spilled_19 rfl rfl ?_
    exact ⟨by rw [anSpilled, if_pos c6, f9], i1, i2⟩
set_option maxRecDepth 20000 in
theorem cx_rounds (hD : 11 ≤ D) (h : InvX I L t) (hv : VT t) (v : Int32) : CX g D MX7_rounds [rf g 0, .int v] b I L (anRounds t v) t := by
  refine Me.of [some (rf g 0), some (.int v)] 0 rfl pf_X7_rounds (Nat.le_of_ble_eq_true rfl) ?_
  refine wq_iload_n 1 1 dX7_rounds_0 rfl rfl rfl ?_
  refine wq_if_lt 4 9 dX7_rounds_1 rfl (by decide) (fun c1 => ?_) (fun c1 => ?_)
  · skip
    refine wq_bipush 11 (-2) dX7_rounds_9 rfl (by decide) ?_
    refine ri .int dX7_rounds_11 rfl rfl ?_
    exact ⟨by rw [anRounds, if_pos (inM_lt c1)], h, fun _ _ _ => ⟨rfl, rfl⟩⟩
  · skip
    refine wq_iload_n 5 1 dX7_rounds_4 rfl rfl rfl ?_
    refine wq_iconst 6 4 dX7_rounds_5 rfl (by decide) ?_
    refine wq_ic_le 9 12 dX7_rounds_6 rfl (by decide) (fun c6 => ?_) (fun c6 => ?_)
    · skip
      refine wq_bload_n 13 0 dX7_rounds_12 rfl rfl rfl ?_
      refine cVp0 16 (sp_X7_findAllotment (by omega) h hv) ml_X7_127 mf_X7_findAllotment dX7_rounds_13 rfl o_0 (by decide) rfl (Nat.le_of_ble_eq_true rfl) (by omega) ?_
      rintro _ b I1 L1 ⟨rfl, i1, al, i2⟩
      have nv : ¬ inM v 0 4 = 0 := by rw [inM_in c1 (Int32.not_lt.mpr c6)]; decide
      obtain ⟨x, x4, ex⟩ := in_ex (hi := 4) (by decide) c1 (Int32.not_lt.mpr c6)
      subst ex
      rcases al.2 with ⟨q1, q2⟩ | ⟨r, s, q1, q2, q3, q4, q5, q6, q7, q8, q9, q10⟩
      · have q1' : tGo t = none := q1
        refine wq_bload_n 17 0 dX7_rounds_16 rfl rfl rfl ?_
        refine wq_getR 20 fl_X7_33 dX7_rounds_17 rfl rfl o_0 (rfl : (Tb _).2.2.2 0 3 = some 14) ?_
        refine wq_getI 23 fl_X7_144 dX7_rounds_20 rfl rfl o_14 ?_
        refine wq_if_ne 26 29 dX7_rounds_23 rfl (by decide) (fun c23 => absurd c23 (by rw [q2]; exact fun z => z rfl)) (fun c23 => ?_)
        refine wq_bipush 28 (-3) dX7_rounds_26 rfl (by decide) ?_
        refine ri .int dX7_rounds_28 rfl rfl ?_
        exact ⟨by rw [anRounds, if_neg nv, q1'], i1, i2⟩
      have q1' : tGo t = some (r, s) := q1
      refine wq_bload_n 17 0 dX7_rounds_16 rfl rfl rfl ?_
      refine wq_getR 20 fl_X7_33 dX7_rounds_17 rfl rfl o_0 (rfl : (Tb _).2.2.2 0 3 = some 14) ?_
      refine wq_getI 23 fl_X7_144 dX7_rounds_20 rfl rfl o_14 ?_
      refine wq_if_ne 26 29 dX7_rounds_23 rfl (by decide) (fun c23 => ?_) (fun c23 => absurd c23 (by rw [q2]; decide))
      have hx5 : x = 0 ∨ x = 1 ∨ x = 2 ∨ x = 3 ∨ x = 4 := by omega
      rcases hx5 with rfl | rfl | rfl | rfl | rfl
      · skip
        refine wq_iload_n 30 1 dX7_rounds_29 rfl rfl rfl ?_
        refine wq_tabIn 60 dX7_rounds_30 (by decide) (by decide) rfl (by decide) ?_
        refine wq_bload_n 61 0 dX7_rounds_60 rfl rfl rfl ?_
        refine wq_getR 64 fl_X7_33 dX7_rounds_61 rfl rfl o_0 (rfl : (Tb _).2.2.2 0 3 = some 14) ?_
        refine wq_getI 67 fl_X7_147 dX7_rounds_64 rfl rfl o_14 ?_
        refine ri .int dX7_rounds_67 rfl rfl ?_
        exact ⟨by rw [anRounds, if_neg nv, q1']; show some (Value.int _) = some (Value.int (if nI 0 = 0 then nI r else if nI 0 = 1 then nI (sL s) else if nI 0 = 2 then nI (sW s) else if nI 0 = 3 then nI (tCd t s).2.1 else nI (tCd t s).2.2)); rw [if_pos (by decide), q3]; try rfl, i1, i2⟩
      · skip
        refine wq_iload_n 30 1 dX7_rounds_29 rfl rfl rfl ?_
        refine wq_tabIn 68 dX7_rounds_30 (by decide) (by decide) rfl (by decide) ?_
        refine wq_bload_n 69 0 dX7_rounds_68 rfl rfl rfl ?_
        refine wq_getR 72 fl_X7_33 dX7_rounds_69 rfl rfl o_0 (rfl : (Tb _).2.2.2 0 3 = some 14) ?_
        refine wq_getI 75 fl_X7_150 dX7_rounds_72 rfl rfl o_14 ?_
        refine ri .int dX7_rounds_75 rfl rfl ?_
        exact ⟨by rw [anRounds, if_neg nv, q1']; show some (Value.int _) = some (Value.int (if nI 1 = 0 then nI r else if nI 1 = 1 then nI (sL s) else if nI 1 = 2 then nI (sW s) else if nI 1 = 3 then nI (tCd t s).2.1 else nI (tCd t s).2.2)); rw [if_neg (by decide), if_pos (by decide), q4]; try rfl, i1, i2⟩
      · skip
        refine wq_iload_n 30 1 dX7_rounds_29 rfl rfl rfl ?_
        refine wq_tabIn 76 dX7_rounds_30 (by decide) (by decide) rfl (by decide) ?_
        refine wq_bload_n 77 0 dX7_rounds_76 rfl rfl rfl ?_
        refine wq_getR 80 fl_X7_33 dX7_rounds_77 rfl rfl o_0 (rfl : (Tb _).2.2.2 0 3 = some 14) ?_
        refine wq_getI 83 fl_X7_153 dX7_rounds_80 rfl rfl o_14 ?_
        refine wq_bipush 85 16 dX7_rounds_83 rfl (by decide) ?_
        refine wq_isub 86 dX7_rounds_85 rfl ?_
        refine ri .int dX7_rounds_86 rfl rfl ?_
        exact ⟨by rw [anRounds, if_neg nv, q1']; show some (Value.int _) = some (Value.int (if nI 2 = 0 then nI r else if nI 2 = 1 then nI (sL s) else if nI 2 = 2 then nI (sW s) else if nI 2 = 3 then nI (tCd t s).2.1 else nI (tCd t s).2.2)); rw [if_neg (by decide), if_neg (by decide), if_pos (by decide), q5, show nI (16 + sW s) - 16 = nI (sW s) by rw [show 16 + sW s = sW s + 16 by omega, ← nI_add]; exact Int32.add_sub_cancel _ _]; try rfl, i1, i2⟩
      · skip
        refine wq_iload_n 30 1 dX7_rounds_29 rfl rfl rfl ?_
        refine wq_tabIn 87 dX7_rounds_30 (by decide) (by decide) rfl (by decide) ?_
        refine wq_bload_n 88 0 dX7_rounds_87 rfl rfl rfl ?_
        refine wq_getR 91 fl_X7_33 dX7_rounds_88 rfl rfl o_0 (rfl : (Tb _).2.2.2 0 3 = some 14) ?_
        refine wq_getR 94 fl_X7_156 dX7_rounds_91 rfl rfl o_14 (rfl : (Tb _).2.2.2 14 2 = some 32) ?_
        refine wq_getI 97 fl_X7_95 dX7_rounds_94 rfl rfl o_32 ?_
        refine ri .int dX7_rounds_97 rfl rfl ?_
        exact ⟨by rw [anRounds, if_neg nv, q1']; show some (Value.int _) = some (Value.int (if nI 3 = 0 then nI r else if nI 3 = 1 then nI (sL s) else if nI 3 = 2 then nI (sW s) else if nI 3 = 3 then nI (tCd t s).2.1 else nI (tCd t s).2.2)); rw [if_neg (by decide), if_neg (by decide), if_neg (by decide), if_pos (by decide), q9.2.1]; try rfl, i1, i2⟩
      · skip
        refine wq_iload_n 30 1 dX7_rounds_29 rfl rfl rfl ?_
        refine wq_tabOut 98 dX7_rounds_30 (by decide) (by decide) ?_
        refine wq_bload_n 99 0 dX7_rounds_98 rfl rfl rfl ?_
        refine wq_getR 102 fl_X7_33 dX7_rounds_99 rfl rfl o_0 (rfl : (Tb _).2.2.2 0 3 = some 14) ?_
        refine wq_getI 105 fl_X7_159 dX7_rounds_102 rfl rfl o_14 ?_
        refine ri .int dX7_rounds_105 rfl rfl ?_
        exact ⟨by rw [anRounds, if_neg nv, q1']; show some (Value.int _) = some (Value.int (if nI 4 = 0 then nI r else if nI 4 = 1 then nI (sL s) else if nI 4 = 2 then nI (sW s) else if nI 4 = 3 then nI (tCd t s).2.1 else nI (tCd t s).2.2)); rw [if_neg (by decide), if_neg (by decide), if_neg (by decide), if_neg (by decide), q10]; try rfl, i1, i2⟩
    · skip
      refine wq_bipush 11 (-2) dX7_rounds_9 rfl (by decide) ?_
      refine ri .int dX7_rounds_11 rfl rfl ?_
      exact ⟨by rw [anRounds, if_pos (inM_gt (Int32.not_le.mp c6))], h, fun _ _ _ => ⟨rfl, rfl⟩⟩
set_option maxRecDepth 20000 in
theorem cx_colour (hD : 11 ≤ D) (h : InvX I L t) (hv : VT t) (v : Int32) : CX g D MX7_colour [rf g 0, .int v] b I L (anColour t v) t := by
  obtain ⟨v1, v2, v3, v4, v5⟩ := hv.1
  refine Me.of [some (rf g 0), some (.int v)] 0 rfl pf_X7_colour (Nat.le_of_ble_eq_true rfl) ?_
  refine wq_iload_n 1 1 dX7_colour_0 rfl rfl rfl ?_
  refine cSi1 4 (sp_X7_isTold _) ml_X7_110 mf_X7_isToldValue dX7_colour_1 rfl (Nat.le_of_ble_eq_true rfl) (by omega) ?_
  refine wq_if_ne 7 9 dX7_colour_4 rfl (by decide) (fun c4 => ?_) (fun c4 => ?_)
  · skip
    refine wq_bload_n 10 0 dX7_colour_9 rfl rfl rfl ?_
    refine cVp0 13 (sp_X7_findAllotment (by omega) h hv) ml_X7_127 mf_X7_findAllotment dX7_colour_10 rfl o_0 (by decide) rfl (Nat.le_of_ble_eq_true rfl) (by omega) ?_
    rintro _ b I1 L1 ⟨rfl, i1, al, i2⟩
    obtain ⟨x, x4, x16, ex⟩ := told_ex c4
    subst ex
    rcases al.2 with ⟨q1, q2⟩ | ⟨r, s, q1, q2, q3, q4, q5, q6, q7, q8, q9, q10⟩
    · have q1' : tGo t = none := q1
      refine wq_bload_n 14 0 dX7_colour_13 rfl rfl rfl ?_
      refine wq_getR 17 fl_X7_33 dX7_colour_14 rfl rfl o_0 (rfl : (Tb _).2.2.2 0 3 = some 14) ?_
      refine wq_getI 20 fl_X7_144 dX7_colour_17 rfl rfl o_14 ?_
      refine wq_if_ne 23 26 dX7_colour_20 rfl (by decide) (fun c20 => absurd c20 (by rw [q2]; exact fun z => z rfl)) (fun c20 => ?_)
      refine wq_bipush 25 (-3) dX7_colour_23 rfl (by decide) ?_
      refine ri .int dX7_colour_25 rfl rfl ?_
      exact ⟨by rw [anColour, if_neg c4, q1'], i1, i2⟩
    have q1' : tGo t = some (r, s) := q1
    obtain ⟨ia, sz⟩ := IA_go v2 6 0 _ _ _ (IA_beg v5 (by omega)) q1
    obtain ⟨wf, sn90, sw48, slw, so6, cc⟩ := ia
    obtain ⟨f0, f1, -⟩ := round_facts (w := tW t) v2 sn90 wf
    refine wq_bload_n 14 0 dX7_colour_13 rfl rfl rfl ?_
    refine wq_getR 17 fl_X7_33 dX7_colour_14 rfl rfl o_0 (rfl : (Tb _).2.2.2 0 3 = some 14) ?_
    refine wq_getI 20 fl_X7_144 dX7_colour_17 rfl rfl o_14 ?_
    refine wq_if_ne 23 26 dX7_colour_20 rfl (by decide) (fun c20 => ?_) (fun c20 => absurd c20 (by rw [q2]; decide))
    refine wq_bload_n 27 0 dX7_colour_26 rfl rfl rfl ?_
    refine wq_getR 30 fl_X7_19 dX7_colour_27 rfl rfl o_0 (rfl : (Tb _).2.2.2 0 1 = some 3) ?_
    refine wq_getL 33 fl_X7_162 dX7_colour_30 rfl rfl o_3 ?_
    refine wq_iload_n 34 1 dX7_colour_33 rfl rfl rfl ?_
    refine cSi2 37 (sp_X7_has _ _) ml_X7_140 mf_X7_has dX7_colour_34 rfl (Nat.le_of_ble_eq_true rfl) (by omega) ?_
    refine wq_if_ne 40 43 dX7_colour_37 rfl (by decide) (fun c37 => ?_) (fun c37 => ?_)
    · skip
      refine wq_bload_n 44 0 dX7_colour_43 rfl rfl rfl ?_
      refine wq_getR 47 fl_X7_33 dX7_colour_44 rfl rfl o_0 (rfl : (Tb _).2.2.2 0 3 = some 14) ?_
      refine wq_iload_n 48 1 dX7_colour_47 rfl rfl rfl ?_
      refine cVi1 51 (sp_X0_placeOf (by omega) q7 f0 x rfl (by omega)) ml_X7_165 mf_X0_placeOf dX7_colour_48 rfl o_14 (by decide) rfl (Nat.le_of_ble_eq_true rfl) (by omega) ?_
      refine ri .int dX7_colour_51 rfl rfl ?_
      have e := (hasX_ne0 _ (show x < 64 by omega)).mp c37
      rw [i1.2.2.1.2.2.2.1] at e
      refine ⟨?_, i1, i2⟩
      rw [anColour, if_neg c4, q1']
      show some (Value.int _) = some (Value.int (if tb (Nms (sP s) (sN s)) (cN (nI x)) = true then rgA (tK t) (tW t) (sP s) (sN s) (ndA (tK t) (tW t) (sP s) (sN s) (cN (nI x))) else sC s (cN (nI x))))
      rw [show cN (nI x) = x from nI_clamp (by omega), q6 x (by omega)]
      rcases cc x x4 x16 with ⟨g1, -⟩ | ⟨-, g2⟩ | ⟨-, g2, y, y64, g3, g4⟩
      · rw [e] at g1; cases g1
      · rw [g2, if_pos rfl, so6 x (by omega) (Or.inl g2), if_pos (by decide), q8 _ (rt_lt f0 (by omega))]; rfl
      · rw [g3, if_neg (show ¬ nI y < 0 from nI_pos (by omega)), g2, if_neg (show ¬ false = true by decide), g4]
        rw [show (10 : Int32) = nI 10 from rfl, nI_add]
    · skip
      refine wq_bipush 42 (-6) dX7_colour_40 rfl (by decide) ?_
      refine ri .int dX7_colour_42 rfl rfl ?_
      have e := (hasX_eq0 _ (show x < 64 by omega)).mp c37
      rw [i1.2.2.1.2.2.2.1] at e
      refine ⟨?_, i1, i2⟩
      rw [anColour, if_neg c4, q1']
      show some (Value.int _) = some (Value.int (if tb (Nms (sP s) (sN s)) (cN (nI x)) = true then rgA (tK t) (tW t) (sP s) (sN s) (ndA (tK t) (tW t) (sP s) (sN s) (cN (nI x))) else sC s (cN (nI x))))
      rw [show cN (nI x) = x from nI_clamp (by omega)]
      rcases cc x x4 x16 with ⟨-, g2, g3⟩ | ⟨g1, -⟩ | ⟨g1, -⟩
      · rw [g2, if_neg (by decide), g3]
      · rw [e] at g1; cases g1
      · rw [e] at g1; cases g1
  · skip
    refine wq_iconst 8 (-1) dX7_colour_7 rfl (by decide) ?_
    refine ri .int dX7_colour_8 rfl rfl ?_
    exact ⟨by rw [anColour, if_pos c4], h, fun _ _ _ => ⟨rfl, rfl⟩⟩
theorem anCode_no {i v : Int32} (h : tGo t = none) : anCode t i v = -3 := by
  unfold anCode
  rw [h]
theorem anCode_so {i v : Int32} {r : Nat} {s : AS} (h : tGo t = some (r, s)) : anCode t i v = if i < 0 ∨ nI (tCd t s).2.1 ≤ i then -1 else if inM v 0 3 = 0 then -2 else (tCd t s).1 (cN i) (cN v) := by
  unfold anCode
  rw [h]
set_option maxRecDepth 20000 in
theorem cx_code (hD : 11 ≤ D) (h : InvX I L t) (hv : VT t) (i v : Int32) : CX g D MX7_code [rf g 0, .int i, .int v] b I L (anCode t i v) t := by
  have h32 : IsL 32 := Or.inr (Or.inl rfl)
  refine Me.of [some (rf g 0), some (.int i), some (.int v)] 0 rfl pf_X7_code (Nat.le_of_ble_eq_true rfl) ?_
  refine wq_bload_n 1 0 dX7_code_0 rfl rfl rfl ?_
  refine cVp0 4 (sp_X7_findAllotment (by omega) h hv) ml_X7_127 mf_X7_findAllotment dX7_code_1 rfl o_0 (by decide) rfl (Nat.le_of_ble_eq_true rfl) (by omega) ?_
  rintro _ b I1 L1 ⟨rfl, i1, al, i2⟩
  rcases al.2 with ⟨q1, q2⟩ | ⟨r, s, q1, q2, q3, q4, q5, q6, q7, q8, q9, q10⟩
  · have q1' : tGo t = none := q1
    refine wq_bload_n 5 0 dX7_code_4 rfl rfl rfl ?_
    refine wq_getR 8 fl_X7_33 dX7_code_5 rfl rfl o_0 (rfl : (Tb _).2.2.2 0 3 = some 14) ?_
    refine wq_getI 11 fl_X7_144 dX7_code_8 rfl rfl o_14 ?_
    refine wq_if_ne 14 17 dX7_code_11 rfl (by decide) (fun c11 => absurd c11 (by rw [q2]; exact fun z => z rfl)) (fun c11 => ?_)
    refine wq_bipush 16 (-3) dX7_code_14 rfl (by decide) ?_
    refine ri .int dX7_code_16 rfl rfl ?_
    exact ⟨by rw [anCode_no q1'], i1, i2⟩
  have q1' : tGo t = some (r, s) := q1
  have q9' : I1 32 4 = nI (tCd t s).2.1 := q9.2.1
  have m90 : (tCd t s).2.1 ≤ 90 := q9.1
  refine wq_bload_n 5 0 dX7_code_4 rfl rfl rfl ?_
  refine wq_getR 8 fl_X7_33 dX7_code_5 rfl rfl o_0 (rfl : (Tb _).2.2.2 0 3 = some 14) ?_
  refine wq_getI 11 fl_X7_144 dX7_code_8 rfl rfl o_14 ?_
  refine wq_if_ne 14 17 dX7_code_11 rfl (by decide) (fun c11 => ?_) (fun c11 => absurd c11 (by rw [q2]; decide))
  refine wq_iload_n 18 1 dX7_code_17 rfl rfl rfl ?_
  refine wq_if_lt 21 35 dX7_code_18 rfl (by decide) (fun c18 => ?_) (fun c18 => ?_)
  · skip
    refine wq_iconst 36 (-1) dX7_code_35 rfl (by decide) ?_
    refine ri .int dX7_code_36 rfl rfl ?_
    refine ⟨?_, i1, i2⟩
    rw [anCode_so q1']
    rw [if_pos (Or.inl c18)]
  · skip
    refine wq_iload_n 22 1 dX7_code_21 rfl rfl rfl ?_
    refine wq_bload_n 23 0 dX7_code_22 rfl rfl rfl ?_
    refine wq_getR 26 fl_X7_33 dX7_code_23 rfl rfl o_0 (rfl : (Tb _).2.2.2 0 3 = some 14) ?_
    refine wq_getR 29 fl_X7_156 dX7_code_26 rfl rfl o_14 (rfl : (Tb _).2.2.2 14 2 = some 32) ?_
    refine wq_getI 32 fl_X7_95 dX7_code_29 rfl rfl o_32 ?_
    refine wq_ic_lt 35 37 dX7_code_32 rfl (by decide) (fun c32 => ?_) (fun c32 => ?_)
    · skip
      refine wq_iload_n 38 2 dX7_code_37 rfl rfl rfl ?_
      refine wq_if_lt 41 46 dX7_code_38 rfl (by decide) (fun c38 => ?_) (fun c38 => ?_)
      · skip
        refine wq_bipush 48 (-2) dX7_code_46 rfl (by decide) ?_
        refine ri .int dX7_code_48 rfl rfl ?_
        rw [q9'] at c32
        have ni : ¬ (i < 0 ∨ nI (tCd t s).2.1 ≤ i) := fun z => z.elim c18 (fun z => absurd c32 (Int32.not_lt.mpr z))
        refine ⟨?_, i1, i2⟩
        rw [anCode_so q1']
        rw [if_neg ni, if_pos (inM_lt c38)]
      · skip
        refine wq_iload_n 42 2 dX7_code_41 rfl rfl rfl ?_
        refine wq_iconst 43 3 dX7_code_42 rfl (by decide) ?_
        refine wq_ic_le 46 49 dX7_code_43 rfl (by decide) (fun c43 => ?_) (fun c43 => ?_)
        · skip
          rw [q9'] at c32
          have ni : ¬ (i < 0 ∨ nI (tCd t s).2.1 ≤ i) := fun z => z.elim c18 (fun z => absurd c32 (Int32.not_lt.mpr z))
          obtain ⟨x, xn, ex⟩ := in_ix (by omega) c18 c32
          obtain ⟨y, y3, ey⟩ := in_ex (hi := 3) (by decide) c38 (Int32.not_lt.mpr c43)
          subst ex ey
          refine wq_bload_n 50 0 dX7_code_49 rfl rfl rfl ?_
          refine wq_getR 53 fl_X7_33 dX7_code_50 rfl rfl o_0 (rfl : (Tb _).2.2.2 0 3 = some 14) ?_
          refine wq_getR 56 fl_X7_156 dX7_code_53 rfl rfl o_14 (rfl : (Tb _).2.2.2 14 2 = some 32) ?_
          refine wq_iload_n 57 1 dX7_code_56 rfl rfl rfl ?_
          refine wq_iload_n 58 2 dX7_code_57 rfl rfl rfl ?_
          refine cVi2 61 (sp_X2_partAt h32 q9.2.1 q9.1 x y rfl rfl xn (by omega)) ml_X7_96 mf_X2_partAt dX7_code_58 rfl o_32 (by decide) rfl (Nat.le_of_ble_eq_true rfl) (by omega) ?_
          refine ri .int dX7_code_61 rfl rfl ?_
          refine ⟨?_, i1, i2⟩
          rw [anCode_so q1']
          rw [if_neg ni, if_neg (by rw [inM_in c38 (Int32.not_lt.mpr c43)]; decide), show cN (nI x) = x from nI_clamp (by omega), show cN (nI y) = y from nI_clamp (by omega)]
          rw [show I1 (32 + 1) (4 * x + y) = (tCd t s).1 x y from q9.2.2.2.2.2.1 x xn y (by omega)]
        · skip
          refine wq_bipush 48 (-2) dX7_code_46 rfl (by decide) ?_
          refine ri .int dX7_code_48 rfl rfl ?_
          rw [q9'] at c32
          have ni : ¬ (i < 0 ∨ nI (tCd t s).2.1 ≤ i) := fun z => z.elim c18 (fun z => absurd c32 (Int32.not_lt.mpr z))
          refine ⟨?_, i1, i2⟩
          rw [anCode_so q1']
          rw [if_neg ni, if_pos (inM_gt (Int32.not_le.mp c43))]
    · skip
      refine wq_iconst 36 (-1) dX7_code_35 rfl (by decide) ?_
      refine ri .int dX7_code_36 rfl rfl ?_
      rw [q9'] at c32
      refine ⟨?_, i1, i2⟩
      rw [anCode_so q1']
      rw [if_pos (Or.inr (Int32.not_lt.mp c32))]
set_option maxRecDepth 20000 in
theorem sp_X6_answer {a n m : Nat} {p : Pg} (ha : IsU a) (h : UX I a p n m) {v : Int32} (x : Nat) (hx : x ≤ 5) (hv : v = nI x) : Md g D MX6_answer [rf g a, .int v] b I L (some (.int (rnAns (rnF p n m 0 0 rs0) n v))) b I L := by
  subst hv
  obtain ⟨⟨u1, u2, u3, u4, u5, u6, u7⟩, u8, u9⟩ := h
  refine Me.of [some (rf g a), some (.int (nI x))] 0 rfl pf_X6_answer (Nat.le_of_ble_eq_true rfl) ?_
  refine wq_iload_n 1 1 dX6_answer_0 rfl rfl rfl ?_
  have hx6 : x = 0 ∨ x = 1 ∨ x = 2 ∨ x = 3 ∨ x = 4 ∨ x = 5 := by omega
  rcases hx6 with rfl | rfl | rfl | rfl | rfl | rfl
  · skip
    refine wq_tabIn 36 dX6_answer_1 (by decide) (by decide) rfl (by decide) ?_
    refine wq_bload_n 37 0 dX6_answer_36 rfl rfl rfl ?_
    refine wq_getI 40 fl_X6_21 dX6_answer_37 rfl rfl (U_ob ha) ?_
    refine ri .int dX6_answer_40 rfl rfl ?_
    exact ⟨by rw [rnAns, if_pos (by decide), u4], rfl, rfl, rfl⟩
  · skip
    refine wq_tabIn 41 dX6_answer_1 (by decide) (by decide) rfl (by decide) ?_
    refine wq_bload_n 42 0 dX6_answer_41 rfl rfl rfl ?_
    refine wq_getI 45 fl_X6_25 dX6_answer_42 rfl rfl (U_ob ha) ?_
    refine ri .int dX6_answer_45 rfl rfl ?_
    exact ⟨by rw [rnAns, if_neg (by decide), if_pos (by decide), u5], rfl, rfl, rfl⟩
  · skip
    refine wq_tabIn 46 dX6_answer_1 (by decide) (by decide) rfl (by decide) ?_
    refine wq_bload_n 47 0 dX6_answer_46 rfl rfl rfl ?_
    refine wq_getI 50 fl_X6_28 dX6_answer_47 rfl rfl (U_ob ha) ?_
    refine ri .int dX6_answer_50 rfl rfl ?_
    exact ⟨by rw [rnAns, if_neg (by decide), if_neg (by decide), if_pos (by decide), u8], rfl, rfl, rfl⟩
  · skip
    refine wq_tabIn 51 dX6_answer_1 (by decide) (by decide) rfl (by decide) ?_
    refine wq_bload_n 52 0 dX6_answer_51 rfl rfl rfl ?_
    refine wq_getI 55 fl_X6_37 dX6_answer_52 rfl rfl (U_ob ha) ?_
    refine wq_if_eq 58 62 dX6_answer_55 rfl (by decide) (fun c55 => ?_) (fun c55 => ?_)
    · skip
      refine wq_iconst 63 0 dX6_answer_62 rfl (by decide) ?_
      refine ri .int dX6_answer_63 rfl rfl ?_
      rw [u9] at c55
      exact ⟨by rw [rnAns, if_neg (by decide), if_neg (by decide), if_neg (by decide), if_pos (by decide), c55], rfl, rfl, rfl⟩
    · skip
      refine wq_iconst 59 1 dX6_answer_58 rfl (by decide) ?_
      refine wq_goto 63 dX6_answer_59 (by decide) ?_
      refine ri .int dX6_answer_63 rfl rfl ?_
      rw [u9] at c55
      exact ⟨by rw [rnAns, if_neg (by decide), if_neg (by decide), if_neg (by decide), if_pos (by decide), bI_ne.mp c55]; rfl, rfl, rfl, rfl⟩
  · skip
    refine wq_tabIn 64 dX6_answer_1 (by decide) (by decide) rfl (by decide) ?_
    refine wq_bload_n 65 0 dX6_answer_64 rfl rfl rfl ?_
    refine wq_getI 68 fl_X6_31 dX6_answer_65 rfl rfl (U_ob ha) ?_
    refine ri .int dX6_answer_68 rfl rfl ?_
    exact ⟨by rw [rnAns, if_neg (by decide), if_neg (by decide), if_neg (by decide), if_neg (by decide), if_pos (by decide), u6], rfl, rfl, rfl⟩
  · skip
    refine wq_tabOut 69 dX6_answer_1 (by decide) (by decide) ?_
    refine wq_bload_n 70 0 dX6_answer_69 rfl rfl rfl ?_
    refine wq_getI 73 fl_X6_34 dX6_answer_70 rfl rfl (U_ob ha) ?_
    refine ri .int dX6_answer_73 rfl rfl ?_
    exact ⟨by rw [rnAns, if_neg (by decide), if_neg (by decide), if_neg (by decide), if_neg (by decide), if_neg (by decide), u7], rfl, rfl, rfl⟩
set_option maxRecDepth 20000 in
theorem cx_run (hD : 6 ≤ D) (h : InvX I L t) (hv : VT t) (v : Int32) : CX g D MX7_run [rf g 0, .int v] b I L (anRun t v) t := by
  have h50 : IsU 50 := Or.inl rfl
  refine Me.of [some (rf g 0), some (.int v)] 0 rfl pf_X7_run (Nat.le_of_ble_eq_true rfl) ?_
  refine wq_iload_n 1 1 dX7_run_0 rfl rfl rfl ?_
  refine wq_if_lt 4 9 dX7_run_1 rfl (by decide) (fun c1 => ?_) (fun c1 => ?_)
  · skip
    refine wq_bipush 11 (-2) dX7_run_9 rfl (by decide) ?_
    refine ri .int dX7_run_11 rfl rfl ?_
    exact ⟨by rw [anRun, if_pos (inM_lt c1)], h, fun _ _ _ => ⟨rfl, rfl⟩⟩
  · skip
    refine wq_iload_n 5 1 dX7_run_4 rfl rfl rfl ?_
    refine wq_iconst 6 3 dX7_run_5 rfl (by decide) ?_
    refine wq_ic_le 9 12 dX7_run_6 rfl (by decide) (fun c6 => ?_) (fun c6 => ?_)
    · skip
      refine wq_bload_n 13 0 dX7_run_12 rfl rfl rfl ?_
      refine cVp0 16 (sp_X7_runProgram (by omega) h hv) ml_X7_169 mf_X7_runProgram dX7_run_13 rfl o_0 (by decide) rfl (Nat.le_of_ble_eq_true rfl) (by omega) ?_
      rintro _ b I1 L1 ⟨rfl, rfl, i1, ux, i2⟩
      have nv : ¬ inM v 0 3 = 0 := by rw [inM_in c1 (Int32.not_lt.mpr c6)]; decide
      obtain ⟨x, x3, ex⟩ := in_ex (hi := 3) (by decide) c1 (Int32.not_lt.mpr c6)
      refine wq_bload_n 17 0 dX7_run_16 rfl rfl rfl ?_
      refine wq_getR 20 fl_X7_40 dX7_run_17 rfl rfl o_0 (rfl : (Tb _).2.2.2 0 4 = some 50) ?_
      refine wq_iload_n 21 1 dX7_run_20 rfl rfl rfl ?_
      refine cVi1 24 (sp_X6_answer h50 ux x (by omega) ex) ml_X7_172 mf_X6_answer dX7_run_21 rfl o_50 (by decide) rfl (Nat.le_of_ble_eq_true rfl) (by omega) ?_
      refine ri .int dX7_run_24 rfl rfl ?_
      exact ⟨by rw [anRun, if_neg nv]; rfl, i1, i2⟩
    · skip
      refine wq_bipush 11 (-2) dX7_run_9 rfl (by decide) ?_
      refine ri .int dX7_run_11 rfl rfl ?_
      exact ⟨by rw [anRun, if_pos (inM_gt (Int32.not_le.mp c6))], h, fun _ _ _ => ⟨rfl, rfl⟩⟩
set_option maxRecDepth 20000 in
theorem cx_out (hD : 6 ≤ D) (h : InvX I L t) (hv : VT t) (i : Int32) : CX g D MX7_out [rf g 0, .int i] b I L (anOut t i) t := by
  have h50 : IsU 50 := Or.inl rfl
  have u500 : uC (tRun t).2.2 ≤ 500 := rn_500 _ _
  refine Me.of [some (rf g 0), some (.int i)] 0 rfl pf_X7_out (Nat.le_of_ble_eq_true rfl) ?_
  refine wq_bload_n 1 0 dX7_out_0 rfl rfl rfl ?_
  refine cVp0 4 (sp_X7_runProgram (by omega) h hv) ml_X7_169 mf_X7_runProgram dX7_out_1 rfl o_0 (by decide) rfl (Nat.le_of_ble_eq_true rfl) (by omega) ?_
  rintro _ b I1 L1 ⟨rfl, rfl, i1, ux, i2⟩
  have u3 : I1 50 3 = nI (uC (tRun t).2.2) := ux.1.2.2.2.1
  refine wq_iload_n 5 1 dX7_out_4 rfl rfl rfl ?_
  refine wq_if_lt 8 26 dX7_out_5 rfl (by decide) (fun c5 => ?_) (fun c5 => ?_)
  · skip
    refine wq_bipush 28 (-6) dX7_out_26 rfl (by decide) ?_
    refine ri .int dX7_out_28 rfl rfl ?_
    exact ⟨by rw [anOut, if_pos (Or.inl c5)], i1, i2⟩
  · skip
    refine wq_iload_n 9 1 dX7_out_8 rfl rfl rfl ?_
    refine wq_bload_n 10 0 dX7_out_9 rfl rfl rfl ?_
    refine wq_getR 13 fl_X7_40 dX7_out_10 rfl rfl o_0 (rfl : (Tb _).2.2.2 0 4 = some 50) ?_
    refine wq_getI 16 fl_X7_175 dX7_out_13 rfl rfl o_50 ?_
    refine wq_ic_ge 19 26 dX7_out_16 rfl (by decide) (fun c16 => ?_) (fun c16 => ?_)
    · skip
      refine wq_bipush 28 (-6) dX7_out_26 rfl (by decide) ?_
      refine ri .int dX7_out_28 rfl rfl ?_
      rw [u3] at c16
      exact ⟨by rw [anOut, if_pos (Or.inr c16)], i1, i2⟩
    · skip
      refine wq_iload_n 20 1 dX7_out_19 rfl rfl rfl ?_
      refine wq_sipush 23 500 dX7_out_20 rfl (by decide) ?_
      refine wq_ic_lt 26 29 dX7_out_23 rfl (by decide) (fun c23 => ?_) (fun c23 => ?_)
      · skip
        rw [u3] at c16
        have ni : ¬ (i < 0 ∨ nI (uC (tRun t).2.2) ≤ i) := fun z => z.elim c5 c16
        obtain ⟨x, xn, ex⟩ := in_ix (by omega) c5 (Int32.not_le.mp c16)
        subst ex
        refine wq_bload_n 30 0 dX7_out_29 rfl rfl rfl ?_
        refine wq_getR 33 fl_X7_40 dX7_out_30 rfl rfl o_0 (rfl : (Tb _).2.2.2 0 4 = some 50) ?_
        refine wq_getR 36 fl_X7_178 dX7_out_33 rfl rfl o_50 (rfl : (Tb _).2.2.2 50 2 = some 53) ?_
        refine wq_iload_n 37 1 dX7_out_36 rfl rfl rfl ?_
        refine wq_iald 38 dX7_out_37 rfl a_53 (Ix.nI (by omega) (by decide)) ?_
        refine ri .int dX7_out_38 rfl rfl ?_
        exact ⟨by rw [anOut, if_neg ni, show cN (nI x) = x from nI_clamp (by omega)]; rw [show I1 (50 + 3) x = nI (uT (tRun t).2.2 x) from ux.1.2.2.1 x xn (by omega)], i1, i2⟩
      · skip
        refine wq_bipush 28 (-6) dX7_out_26 rfl (by decide) ?_
        refine ri .int dX7_out_28 rfl rfl ?_
        rw [u3] at c16
        exact absurd (Int32.lt_of_lt_of_le (Int32.not_le.mp c16) (nI_le (b := 500) u500 (by decide))) c23
set_option maxRecDepth 20000 in
set_option maxHeartbeats 2000000 in
theorem cx_spent (hD : 11 ≤ D) (h : InvX I L t) (hv : VT t) (v : Int32) : CX g D MX7_spent [rf g 0, .int v] b I L (anSpent t v) t := by
  obtain ⟨v1, v2, v3, v4, v5⟩ := hv.1
  have h54 : IsU 54 := Or.inr rfl
  have h32 : IsL 32 := Or.inr (Or.inl rfl)
  refine Me.of [some (rf g 0), some (.int v)] 0 rfl pf_X7_spent (Nat.le_of_ble_eq_true rfl) ?_
  refine wq_iload_n 1 1 dX7_spent_0 rfl rfl rfl ?_
  refine wq_if_lt 4 9 dX7_spent_1 rfl (by decide) (fun c1 => ?_) (fun c1 => ?_)
  · skip
    refine wq_bipush 11 (-2) dX7_spent_9 rfl (by decide) ?_
    refine ri .int dX7_spent_11 rfl rfl ?_
    exact ⟨by rw [anSpent, if_pos (inM_lt c1)], h, fun _ _ _ => ⟨rfl, rfl⟩⟩
  · skip
    refine wq_iload_n 5 1 dX7_spent_4 rfl rfl rfl ?_
    refine wq_iconst 6 5 dX7_spent_5 rfl (by decide) ?_
    refine wq_ic_le 9 12 dX7_spent_6 rfl (by decide) (fun c6 => ?_) (fun c6 => ?_)
    · skip
      refine wq_bload_n 13 0 dX7_spent_12 rfl rfl rfl ?_
      refine cVp0 16 (sp_X7_findAllotment (by omega) h hv) ml_X7_127 mf_X7_findAllotment dX7_spent_13 rfl o_0 (by decide) rfl (Nat.le_of_ble_eq_true rfl) (by omega) ?_
      rintro _ b I1 L1 ⟨rfl, i1, al, i2⟩
      have nv : ¬ inM v 0 5 = 0 := by rw [inM_in c1 (Int32.not_lt.mpr c6)]; decide
      obtain ⟨x, x5, ex⟩ := in_ex (hi := 5) (by decide) c1 (Int32.not_lt.mpr c6)
      rcases al.2 with ⟨q1, q2⟩ | ⟨r, s, q1, q2, q3, q4, q5, q6, q7, q8, q9, q10⟩
      · have q1' : tGo t = none := q1
        refine wq_bload_n 17 0 dX7_spent_16 rfl rfl rfl ?_
        refine wq_getR 20 fl_X7_33 dX7_spent_17 rfl rfl o_0 (rfl : (Tb _).2.2.2 0 3 = some 14) ?_
        refine wq_getI 23 fl_X7_144 dX7_spent_20 rfl rfl o_14 ?_
        refine wq_if_ne 26 29 dX7_spent_23 rfl (by decide) (fun c23 => absurd c23 (by rw [q2]; exact fun z => z rfl)) (fun c23 => ?_)
        refine wq_bipush 28 (-3) dX7_spent_26 rfl (by decide) ?_
        refine ri .int dX7_spent_28 rfl rfl ?_
        exact ⟨by rw [anSpent, if_neg nv, q1'], i1, i2⟩
      have q1' : tGo t = some (r, s) := q1
      obtain ⟨ia, sz⟩ := IA_go v2 6 0 _ _ _ (IA_beg v5 (by omega)) q1
      obtain ⟨wf, sn90, sw48, slw, so6, cc⟩ := ia
      have cw := cd_wf v2 sn90 wf sz (sN s) (Nat.le_refl _)
      have J58 : ∀ I2, InvX I2 L1 t → UX I2 54 (tCd t s).1 (tCd t s).2.1 2000 → Sm 71 103 I L I2 L1 → Wp (Kn g D MX7_spent (fun r _ I' L' => r = some (.int (anSpent t v)) ∧ InvX I' L' t ∧ Sm 71 103 I L I' L')) (Tb b) 58 [some (rf g 0), some (.int v)] [] I2 L1 := by
        intro I2 j1 j2 j3
        refine wq_bload_n 59 0 dX7_spent_58 rfl rfl rfl ?_
        refine wq_getR 62 fl_X7_44 dX7_spent_59 rfl rfl o_0 (rfl : (Tb _).2.2.2 0 5 = some 54) ?_
        refine wq_iload_n 63 1 dX7_spent_62 rfl rfl rfl ?_
        refine cVi1 66 (sp_X6_answer h54 j2 x x5 ex) ml_X7_172 mf_X6_answer dX7_spent_63 rfl o_54 (by decide) rfl (Nat.le_of_ble_eq_true rfl) (by omega) ?_
        refine ri .int dX7_spent_66 rfl rfl ?_
        exact ⟨by rw [anSpent, if_neg nv, q1'], j1, j3⟩
      rcases i1.2.2.2.2.2.2.1 with f | ⟨f, ux⟩
      · skip
        refine wq_bload_n 17 0 dX7_spent_16 rfl rfl rfl ?_
        refine wq_getR 20 fl_X7_33 dX7_spent_17 rfl rfl o_0 (rfl : (Tb _).2.2.2 0 3 = some 14) ?_
        refine wq_getI 23 fl_X7_144 dX7_spent_20 rfl rfl o_14 ?_
        refine wq_if_ne 26 29 dX7_spent_23 rfl (by decide) (fun c23 => ?_) (fun c23 => absurd c23 (by rw [q2]; decide))
        refine wq_bload_n 30 0 dX7_spent_29 rfl rfl rfl ?_
        refine wq_getI 33 fl_X7_70 dX7_spent_30 rfl rfl o_0 ?_
        refine wq_if_ne 36 58 dX7_spent_33 rfl (by decide) (fun c33 => absurd c33 (by rw [f]; exact fun z => z rfl)) (fun c33 => ?_)
        refine wq_bload_n 37 0 dX7_spent_36 rfl rfl rfl ?_
        refine wq_getR 40 fl_X7_44 dX7_spent_37 rfl rfl o_0 (rfl : (Tb _).2.2.2 0 5 = some 54) ?_
        refine wq_bload_n 41 0 dX7_spent_40 rfl rfl rfl ?_
        refine wq_getR 44 fl_X7_33 dX7_spent_41 rfl rfl o_0 (rfl : (Tb _).2.2.2 0 3 = some 14) ?_
        refine wq_getR 47 fl_X7_156 dX7_spent_44 rfl rfl o_14 (rfl : (Tb _).2.2.2 14 2 = some 32) ?_
        refine wq_sipush 50 2000 dX7_spent_47 rfl (by decide) ?_
        refine cVp2 53 (sp_X6_follow (by omega) h54 h32 q9 cw 2000 rfl (by omega)) ml_X7_181 mf_X6_follow dX7_spent_50 rfl o_54 (by decide) rfl (Nat.le_of_ble_eq_true rfl) (by omega) ?_
        rintro _ b I2 L1 ⟨rfl, rfl, rfl, ux, fv⟩
        refine wq_bload_n 54 0 dX7_spent_53 rfl rfl rfl ?_
        refine wq_iconst 55 1 dX7_spent_54 rfl (by decide) ?_
        refine wq_putI 58 fl_X7_70 dX7_spent_55 rfl rfl rfl rfl rfl o_0 ?_
        have nx : ∀ z, z ≠ 0 → va_up I2 0 (va_up (I2 0) 12 1) z = I2 z := fun z hz => va_up_ne _ _ hz
        have fv' : ∀ x, ¬ (54 ≤ x ∧ x < 58) → I2 x = I1 x := fun x hx => fv x (by omega) (by omega) (by omega) (by omega)
        have ux' : UX (va_up I2 0 (va_up (I2 0) 12 1)) 54 (tCd t s).1 (tCd t s).2.1 2000 := UX_keep (L := L1) (L' := L1) ux (fun x x1 _ => ⟨nx x (by omega), rfl⟩)
        refine J58 _ (InvX_set i1 12 54 58 (Or.inr (Or.inr (Or.inr rfl))) (by rw [va_up_self, fv' 0 (by omega)]) (fun x x0 hx => by rw [nx x x0, fv' x hx]; exact ⟨rfl, rfl⟩) (by omega) (by omega) (fun z => by omega) (fun _ => by omega) (fun z => by omega) (fun _ => Or.inr (by omega)) (fun z => by omega) (fun _ => Or.inr (by omega)) (fun _ r2 s2 e2 => ?_) (fun z => absurd rfl z)) ux' (i2.trans (fun x x1 _ => by rw [nx x (by omega), fv' x (by omega)]; exact ⟨rfl, rfl⟩))
        rw [q1] at e2
        cases e2
        exact ux'
      refine wq_bload_n 17 0 dX7_spent_16 rfl rfl rfl ?_
      refine wq_getR 20 fl_X7_33 dX7_spent_17 rfl rfl o_0 (rfl : (Tb _).2.2.2 0 3 = some 14) ?_
      refine wq_getI 23 fl_X7_144 dX7_spent_20 rfl rfl o_14 ?_
      refine wq_if_ne 26 29 dX7_spent_23 rfl (by decide) (fun c23 => ?_) (fun c23 => absurd c23 (by rw [q2]; decide))
      refine wq_bload_n 30 0 dX7_spent_29 rfl rfl rfl ?_
      refine wq_getI 33 fl_X7_70 dX7_spent_30 rfl rfl o_0 ?_
      refine wq_if_ne 36 58 dX7_spent_33 rfl (by decide) (fun c33 => ?_) (fun c33 => absurd c33 (by rw [f]; decide))
      exact J58 I1 i1 (ux r s q1) i2
    · skip
      refine wq_bipush 11 (-2) dX7_spent_9 rfl (by decide) ?_
      refine ri .int dX7_spent_11 rfl rfl ?_
      exact ⟨by rw [anSpent, if_pos (inM_gt (Int32.not_le.mp c6))], h, fun _ _ _ => ⟨rfl, rfl⟩⟩
end Calls3
