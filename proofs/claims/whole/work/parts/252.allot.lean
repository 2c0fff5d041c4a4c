/-! Allotment: allot -/
/-- the first round, kept -/
def FR1 (I : IM) (L : LM) (k w : Nat) (p : Pg) (n : Nat) : Prop := I 14 8 = nI (aQ (endA k w p n)) ∧ (∀ i, i < aQ (endA k w p n) → I 38 i = nI (aS (endA k w p n) i)) ∧ L 14 9 = spS k w p n
/-- what an allotment knows -/
def AlR (I : IM) (L : LM) (k w : Nat) (p0 : Pg) (n0 : Nat) : Prop :=
  FR1 I L k w p0 n0 ∧ ((goA k w 6 0 (bgA p0 n0) = none ∧ I 14 14 = 0) ∨ (∃ r s, goA k w 6 0 (bgA p0 n0) = some (r, s) ∧ I 14 14 = 1 ∧ I 14 10 = nI r ∧ I 14 11 = nI (sL s) ∧ I 14 12 = nI (16 + sW s) ∧ (∀ x, x < 64 → I 37 x = sO s x) ∧ (∀ x, x < 64 → I 25 x = nI (aA (endA k w (sP s) (sN s)) x)) ∧ Ag64 (I 26) (bckA k w (sP s) (sN s)).1 ∧ LR I L 32 (cdA k w (sP s) (sN s) (sN s)).2.1 (cdA k w (sP s) (sN s) (sN s)).1 ∧ I 14 13 = nI (cdA k w (sP s) (sN s) (sN s)).2.2))
theorem end_Q {B k w : Nat} {p : Pg} {n : Nat} (hn : n ≤ 90) (hw : WfB B p n) : aQ (endA k w p n) ≤ 150 := by
  obtain ⟨t, ht⟩ := TN_all p n
  have gs := GS_beg hn hw ht
  have hlo : lvA (begA p n) + omA (mvs p n) (begA p n) ≤ 150 := by have := gs.2.1; omega
  have e1 := (run_ok (k := k) (w := w) 150 _ gs (fun i hi => absurd hi (Nat.not_lt_zero i)) hlo).1.2.1
  unfold endA
  omega
def FA (I : IM) (L : LM) (I' : IM) (L' : LM) : Prop := ∀ x, x < 14 ∨ 50 ≤ x → I' x = I x ∧ L' x = L x
theorem FA.trans {I I' I'' : IM} {L L' L'' : LM} (h : FA I L I' L') (h' : FA I' L' I'' L'') : FA I L I'' L'' := fun x hx => ⟨(h' x hx).1.trans (h x hx).1, (h' x hx).2.trans (h x hx).2⟩
set_option maxRecDepth 20000 in
set_option maxHeartbeats 4000000 in
theorem lp_X0_allot {g : Gl} {D : Nat} {I0 : IM} {L0 : LM} {k w : Nat} {p0 : Pg} {n0 : Nat} (hD : 9 ≤ D) (hk : k ≤ 4) (hwy : w < 3) {post : Option Value → Bool → IM → LM → Prop} (hp : ∀ b' I' L', AlR I' L' k w p0 n0 → FA I0 L0 I' L' → post none b' I' L') : ∀ f i b I L s, i + f = 6 → goA k w 6 0 (bgA p0 n0) = goA k w f i s → IA p0 n0 s → LR I L (nwA b) (sN s) (sP s) → (∀ x, x < 64 → I 37 x = sO s x) → I 14 10 = nI i → I 14 11 = nI (sL s) → I 14 12 = nI (16 + sW s) → I 14 13 = 0 → I 14 14 = 0 → (i = 0 → s = bgA p0 n0) → (0 < i → FR1 I L k w p0 n0) → FA I0 L0 I L → Wp (Kn g D MX0_allot post) (Tb b) 11 [some (rf g 14), some (rf g 3), some (.int (nI k)), some (.int (nI w)), some (.int 1), some (.int (nI i))] [] I L := by
  intro f
  induction f with
  | zero =>
    intro i b I L s hi hgo ia hL hO h10 h11 h12 h13 h14 hs0 hfr fa
    have ei : i = 6 := by omega
    subst ei
    refine wq_iload 13 dX0_allot_11 rfl rfl ?_
    refine wq_bipush 15 6 dX0_allot_13 rfl (by decide) ?_
    refine wq_ic_ge 18 118 dX0_allot_15 rfl (by decide) (fun c15 => ?_) (fun c15 => absurd (by decide) c15)
    refine wq_bload_n 119 0 dX0_allot_118 rfl rfl rfl ?_
    refine wq_getI 122 fl_X0_68 dX0_allot_119 rfl rfl o_14 ?_
    refine wq_if_eq 125 129 dX0_allot_122 rfl (by decide) (fun c122 => ?_) (fun c122 => absurd h14 c122)
    refine rr dX0_allot_129 rfl ?_
    exact hp b I L ⟨hfr (by omega), Or.inl ⟨by rw [hgo]; rfl, h14⟩⟩ fa
  | succ f ih =>
    intro i b I L s hi hgo ia hL hO h10 h11 h12 h13 h14 hs0 hfr fa
    obtain ⟨wf, sn90, sw48, slw, so6, cc⟩ := ia
    have ia : IA p0 n0 s := ⟨wf, sn90, sw48, slw, so6, cc⟩
    have hN15 : IsN 15 := Or.inr rfl
    have nwn : ∀ j, j < 5 → nwA b + j ≠ 14 ∧ nwA b + j ∉ RR ∧ 39 < nwA b + j ∧ nwA b + j < 50 := fun j hj => by cases b <;> simp [nwA, RR] <;> omega
    obtain ⟨f0, -⟩ := round_facts (w := w) hk sn90 wf
    -- the round has been played, and counted
    have J70 : ∀ I3 L3, LR I3 L3 (nwA b) (sN s) (sP s) → (∀ x, x < 64 → I3 37 x = sO s x) → I3 14 10 = nI (i + 1) → I3 14 11 = nI (sL s) → I3 14 12 = nI (16 + sW s) → I3 14 13 = 0 → (∀ x, x < 64 → I3 25 x = nI (aA (endA k w (sP s) (sN s)) x)) → Ag64 (I3 26) (bckA k w (sP s) (sN s)).1 → L3 21 17 = spS k w (sP s) (sN s) → FR1 I3 L3 k w p0 n0 → FA I0 L0 I3 L3 → Wp (Kn g D MX0_allot post) (Tb b) 70 [some (rf g 14), some (rf g 3), some (.int (nI k)), some (.int (nI w)), some (.int 1), some (.int (nI i))] [] I3 L3 := by
      intro I3 L3 aL aO a10 a11 a12 a13 aA' aG aS aF aFA
      by_cases c0 : spS k w (sP s) (sN s) = 0
      · have hgo2 : goA k w 6 0 (bgA p0 n0) = some (i + 1, s) := by rw [hgo, goA, if_pos c0]
        have z0 : lg_cmp (L3 21 17) 0 = 0 := lcmp0.mpr (by rw [aS, c0])
        refine wq_bload_n 71 0 dX0_allot_70 rfl rfl rfl ?_
        refine wq_bload_n 72 0 dX0_allot_71 rfl rfl rfl ?_
        refine wq_getR 75 fl_X0_21 dX0_allot_72 rfl rfl o_14 (rfl : (Tb _).2.2.2 14 1 = some 21) ?_
        refine wq_getL 78 fl_X0_86 dX0_allot_75 rfl rfl o_21 ?_
        refine wq_lconst 79 0 dX0_allot_78 rfl (by decide) ?_
        refine wq_lcmp 80 dX0_allot_79 rfl ?_
        refine wq_if_ne 83 87 dX0_allot_80 rfl (by decide) (fun c80 => absurd c80 (fun z => z z0)) (fun c80 => ?_)
        refine wq_iconst 84 1 dX0_allot_83 rfl (by decide) ?_
        refine wq_goto 88 dX0_allot_84 (by decide) ?_
        refine wq_putI 91 fl_X0_68 dX0_allot_88 rfl rfl rfl rfl rfl o_14 ?_
        refine wq_gen (fun I4 L4 eI4 eL4 => ?_)
        rw [eL4]
        clear eL4
        have i4 : I4 14 = va_up (I3 14) 14 1 := by rw [eI4, va_up_self]
        have x4 : ∀ x, x ≠ 14 → I4 x = I3 x := fun x hx => by rw [eI4, va_up_ne _ _ hx]
        clear eI4
        have L4' : LR I4 L3 (nwA b) (sN s) (sP s) := LR_keep aL (fun j hj => x4 _ (nwn j hj).1) (fun _ _ => rfl)
        have a4A : ∀ x, x < 64 → I4 25 x = nI (aA (endA k w (sP s) (sN s)) x) := fun x hx => by rw [x4 25 (by decide)]; exact aA' x hx
        have a4G : Ag64 (I4 26) (bckA k w (sP s) (sN s)).1 := by rw [x4 26 (by decide)]; exact aG
        have z4 : ∀ z, z ≠ 14 → I4 14 z = I3 14 z := fun z hz => by rw [i4, va_up_ne _ _ hz]
        have v4 : I4 14 14 = 1 := by rw [i4, va_up_self]
        have aFA4 : FA I0 L0 I4 L3 := aFA.trans (fun x hx => ⟨x4 x (by omega), rfl⟩)
        have aF4 : FR1 I4 L3 k w p0 n0 := ⟨by rw [z4 8 (by decide)]; exact aF.1, fun i hi => by rw [x4 38 (by decide)]; exact aF.2.1 i hi, aF.2.2⟩
        refine wq_bload_n 92 0 dX0_allot_91 rfl rfl rfl ?_
        refine wq_getI 95 fl_X0_68 dX0_allot_92 rfl rfl o_14 ?_
        refine wq_if_ne 98 109 dX0_allot_95 rfl (by decide) (fun c95 => ?_) (fun c95 => absurd c95 (by rw [v4]; decide))
        refine wq_iconst 110 0 dX0_allot_109 rfl (by decide) ?_
        refine wq_istore 112 [_, _, _, _, _, _] dX0_allot_110 rfl rfl (Nat.le_of_ble_eq_true rfl) rfl ?_
        refine wq_iinc 115 (_ + 1) [_, _, _, _, _, _] dX0_allot_112 rfl rfl (inc1 _) rfl (Nat.le_of_ble_eq_true rfl) rfl ?_
        refine wq_goto 11 dX0_allot_115 (by decide) ?_
        skip
        rw [← nI_succ]
        by_cases c6 : i + 1 < 6
        · skip
          refine wq_iload 13 dX0_allot_11 rfl rfl ?_
          refine wq_bipush 15 6 dX0_allot_13 rfl (by decide) ?_
          refine wq_ic_ge 18 118 dX0_allot_15 rfl (by decide) (fun c15 => absurd c15 (nI_ge (b := 6) c6 (by decide))) (fun c15 => ?_)
          refine wq_iload 20 dX0_allot_18 rfl rfl ?_
          refine wq_if_eq 23 118 dX0_allot_20 rfl (by decide) (fun c20 => ?_) (fun c20 => absurd rfl c20)
          refine wq_bload_n 119 0 dX0_allot_118 rfl rfl rfl ?_
          refine wq_getI 122 fl_X0_68 dX0_allot_119 rfl rfl o_14 ?_
          refine wq_if_eq 125 129 dX0_allot_122 rfl (by decide) (fun c122 => absurd c122 (by rw [v4]; decide)) (fun c122 => ?_)
          refine wq_bload_n 126 0 dX0_allot_125 rfl rfl rfl ?_
          refine cVp0 129 (sp_X0_finish (by omega) L4' wf a4A f0 a4G (by rw [z4 13 (by decide)]; exact a13)) ml_X0_93 mf_X0_finish dX0_allot_126 rfl o_14 (by decide) rfl (Nat.le_of_ble_eq_true rfl) (by omega) ?_
          rintro _ b I5 L5 ⟨rfl, rfl, g1, g2, g3⟩
          refine rr dX0_allot_129 rfl ?_
          refine hp _ _ _ ⟨⟨by rw [g3.2.1 8 (by decide)]; exact aF4.1, fun i hi => by rw [g3.1 38 (by decide) (by decide) (by decide)]; exact aF4.2.1 i hi, by rw [g3.2.2 14 (by decide)]; exact aF4.2.2⟩, Or.inr ⟨i + 1, s, hgo2, by rw [g3.2.1 14 (by decide)]; exact v4, by rw [g3.2.1 10 (by decide), z4 10 (by decide)]; exact a10, by rw [g3.2.1 11 (by decide), z4 11 (by decide)]; exact a11, by rw [g3.2.1 12 (by decide), z4 12 (by decide)]; exact a12, fun x hx => by rw [g3.1 37 (by decide) (by decide) (by decide), x4 37 (by decide)]; exact aO x hx, fun x hx => by rw [g3.1 25 (by decide) (by decide) (by decide)]; exact a4A x hx, by rw [g3.1 26 (by decide) (by decide) (by decide)]; exact a4G, g1, g2⟩⟩ (aFA4.trans (fun x hx => ⟨g3.1 x (by omega) (by omega) (by simp; omega), g3.2.2 x (by simp; omega)⟩))
        · skip
          refine wq_iload 13 dX0_allot_11 rfl rfl ?_
          refine wq_bipush 15 6 dX0_allot_13 rfl (by decide) ?_
          refine wq_ic_ge 18 118 dX0_allot_15 rfl (by decide) (fun c15 => ?_) (fun c15 => absurd (nI_le (a := 6) (by omega) (by omega)) c15)
          refine wq_bload_n 119 0 dX0_allot_118 rfl rfl rfl ?_
          refine wq_getI 122 fl_X0_68 dX0_allot_119 rfl rfl o_14 ?_
          refine wq_if_eq 125 129 dX0_allot_122 rfl (by decide) (fun c122 => absurd c122 (by rw [v4]; decide)) (fun c122 => ?_)
          refine wq_bload_n 126 0 dX0_allot_125 rfl rfl rfl ?_
          refine cVp0 129 (sp_X0_finish (by omega) L4' wf a4A f0 a4G (by rw [z4 13 (by decide)]; exact a13)) ml_X0_93 mf_X0_finish dX0_allot_126 rfl o_14 (by decide) rfl (Nat.le_of_ble_eq_true rfl) (by omega) ?_
          rintro _ b I5 L5 ⟨rfl, rfl, g1, g2, g3⟩
          refine rr dX0_allot_129 rfl ?_
          refine hp _ _ _ ⟨⟨by rw [g3.2.1 8 (by decide)]; exact aF4.1, fun i hi => by rw [g3.1 38 (by decide) (by decide) (by decide)]; exact aF4.2.1 i hi, by rw [g3.2.2 14 (by decide)]; exact aF4.2.2⟩, Or.inr ⟨i + 1, s, hgo2, by rw [g3.2.1 14 (by decide)]; exact v4, by rw [g3.2.1 10 (by decide), z4 10 (by decide)]; exact a10, by rw [g3.2.1 11 (by decide), z4 11 (by decide)]; exact a11, by rw [g3.2.1 12 (by decide), z4 12 (by decide)]; exact a12, fun x hx => by rw [g3.1 37 (by decide) (by decide) (by decide), x4 37 (by decide)]; exact aO x hx, fun x hx => by rw [g3.1 25 (by decide) (by decide) (by decide)]; exact a4A x hx, by rw [g3.1 26 (by decide) (by decide) (by decide)]; exact a4G, g1, g2⟩⟩ (aFA4.trans (fun x hx => ⟨g3.1 x (by omega) (by omega) (by simp; omega), g3.2.2 x (by simp; omega)⟩))
      · have z0 : ¬ lg_cmp (L3 21 17) 0 = 0 := fun z => c0 (by rw [← aS]; exact lcmp0.mp z)
        refine wq_bload_n 71 0 dX0_allot_70 rfl rfl rfl ?_
        refine wq_bload_n 72 0 dX0_allot_71 rfl rfl rfl ?_
        refine wq_getR 75 fl_X0_21 dX0_allot_72 rfl rfl o_14 (rfl : (Tb _).2.2.2 14 1 = some 21) ?_
        refine wq_getL 78 fl_X0_86 dX0_allot_75 rfl rfl o_21 ?_
        refine wq_lconst 79 0 dX0_allot_78 rfl (by decide) ?_
        refine wq_lcmp 80 dX0_allot_79 rfl ?_
        refine wq_if_ne 83 87 dX0_allot_80 rfl (by decide) (fun c80 => ?_) (fun c80 => absurd c80 z0)
        refine wq_iconst 88 0 dX0_allot_87 rfl (by decide) ?_
        refine wq_putI 91 fl_X0_68 dX0_allot_88 rfl rfl rfl rfl rfl o_14 ?_
        refine wq_gen (fun I4 L4 eI4 eL4 => ?_)
        rw [eL4]
        clear eL4
        have i4 : I4 14 = va_up (I3 14) 14 0 := by rw [eI4, va_up_self]
        have x4 : ∀ x, x ≠ 14 → I4 x = I3 x := fun x hx => by rw [eI4, va_up_ne _ _ hx]
        clear eI4
        have L4' : LR I4 L3 (nwA b) (sN s) (sP s) := LR_keep aL (fun j hj => x4 _ (nwn j hj).1) (fun _ _ => rfl)
        have a4A : ∀ x, x < 64 → I4 25 x = nI (aA (endA k w (sP s) (sN s)) x) := fun x hx => by rw [x4 25 (by decide)]; exact aA' x hx
        have a4G : Ag64 (I4 26) (bckA k w (sP s) (sN s)).1 := by rw [x4 26 (by decide)]; exact aG
        have z4 : ∀ z, z ≠ 14 → I4 14 z = I3 14 z := fun z hz => by rw [i4, va_up_ne _ _ hz]
        have v4 : I4 14 14 = 0 := by rw [i4, va_up_self]
        have aFA4 : FA I0 L0 I4 L3 := aFA.trans (fun x hx => ⟨x4 x (by omega), rfl⟩)
        have aF4 : FR1 I4 L3 k w p0 n0 := ⟨by rw [z4 8 (by decide)]; exact aF.1, fun i hi => by rw [x4 38 (by decide)]; exact aF.2.1 i hi, aF.2.2⟩
        refine wq_bload_n 92 0 dX0_allot_91 rfl rfl rfl ?_
        refine wq_getI 95 fl_X0_68 dX0_allot_92 rfl rfl o_14 ?_
        refine wq_if_ne 98 109 dX0_allot_95 rfl (by decide) (fun c95 => absurd c95 (by rw [v4]; decide)) (fun c95 => ?_)
        refine wq_bload_n 99 0 dX0_allot_98 rfl rfl rfl ?_
        refine cVp0 102 (sp_X0_spill (k := k) (w := w) (by omega) L4' wf a4A f0 aS (by rw [z4 11 (by decide)]; exact a11) (by rw [z4 12 (by decide)]; exact a12) sw48 (fun x hx hnm => by rw [x4 37 (by decide), aO x hx]; exact so6 x hx (Or.inl hnm))) ml_X0_89 mf_X0_spill dX0_allot_99 rfl o_14 (by decide) rfl (Nat.le_of_ble_eq_true rfl) (by omega) ?_
        rintro _ b2 I5 L5 ⟨fp, s11, s37, ⟨o1, rfl, rfl, o2, o3⟩ | ⟨o1, rfl, rfl⟩⟩
        have nfx : ∀ x, x < 14 ∨ 50 ≤ x → x ∉ fL (nxA b) := fun x hx => by cases b <;> simp [nxA] <;> omega
        rotate_left
        · have nfx : ∀ x, x < 14 ∨ 50 ≤ x → x ∉ fL (nxA b2) := fun x hx => by cases b2 <;> simp [nxA] <;> omega
          have hgo2 : goA k w 6 0 (bgA p0 n0) = none := by rw [hgo, goA, if_neg c0, if_neg (show ¬ okB (wrS k w s) = true from fun z => o1 (okB_iff.mp z))]
          have u14 : I5 14 14 = 0 := by rw [fp.2.1 14 (by decide) (by decide)]; exact v4
          have n38 : 38 ∉ fL (nxA b2) := by cases b2 <;> simp [nxA]
          have fin : AlR I5 L5 k w p0 n0 := ⟨⟨by rw [fp.2.1 8 (by decide) (by decide)]; exact aF4.1, fun i hi => by rw [fp.1 38 (by decide) (by decide) (by decide) n38]; exact aF4.2.1 i hi, by rw [fp.2.2 14 (n14 b2).1]; exact aF4.2.2⟩, Or.inl ⟨hgo2, u14⟩⟩
          have ffa : FA I0 L0 I5 L5 := aFA4.trans (fun x hx => ⟨fp.1 x (by omega) (by omega) (by omega) (nfx x hx), fp.2.2 x (nfx x hx)⟩)
          refine wq_if_eq 105 109 dX0_allot_102 rfl (by decide) (fun c => ?_) (fun c => absurd rfl c)
          refine wq_iconst 110 0 dX0_allot_109 rfl (by decide) ?_
          refine wq_istore 112 [_, _, _, _, _, _] dX0_allot_110 rfl rfl (Nat.le_of_ble_eq_true rfl) rfl ?_
          refine wq_iinc 115 (_ + 1) [_, _, _, _, _, _] dX0_allot_112 rfl rfl (inc1 _) rfl (Nat.le_of_ble_eq_true rfl) rfl ?_
          refine wq_goto 11 dX0_allot_115 (by decide) ?_
          rw [← nI_succ]
          by_cases c6 : i + 1 < 6
          · skip
            refine wq_iload 13 dX0_allot_11 rfl rfl ?_
            refine wq_bipush 15 6 dX0_allot_13 rfl (by decide) ?_
            refine wq_ic_ge 18 118 dX0_allot_15 rfl (by decide) (fun c15 => absurd c15 (nI_ge (b := 6) c6 (by decide))) (fun c15 => ?_)
            refine wq_iload 20 dX0_allot_18 rfl rfl ?_
            refine wq_if_eq 23 118 dX0_allot_20 rfl (by decide) (fun c20 => ?_) (fun c20 => absurd rfl c20)
            refine wq_bload_n 119 0 dX0_allot_118 rfl rfl rfl ?_
            refine wq_getI 122 fl_X0_68 dX0_allot_119 rfl rfl o_14 ?_
            refine wq_if_eq 125 129 dX0_allot_122 rfl (by decide) (fun c122 => ?_) (fun c122 => absurd u14 c122)
            refine rr dX0_allot_129 rfl ?_
            exact hp _ _ _ fin ffa
          · skip
            refine wq_iload 13 dX0_allot_11 rfl rfl ?_
            refine wq_bipush 15 6 dX0_allot_13 rfl (by decide) ?_
            refine wq_ic_ge 18 118 dX0_allot_15 rfl (by decide) (fun c15 => ?_) (fun c15 => absurd (nI_le (a := 6) (by omega) (by omega)) c15)
            refine wq_bload_n 119 0 dX0_allot_118 rfl rfl rfl ?_
            refine wq_getI 122 fl_X0_68 dX0_allot_119 rfl rfl o_14 ?_
            refine wq_if_eq 125 129 dX0_allot_122 rfl (by decide) (fun c122 => ?_) (fun c122 => absurd u14 c122)
            refine rr dX0_allot_129 rfl ?_
            exact hp _ _ _ fin ffa
        refine wq_if_eq 105 109 dX0_allot_102 rfl (by decide) (fun c102 => absurd c102 (by decide)) (fun c102 => ?_)
        refine wq_iconst 106 1 dX0_allot_105 rfl (by decide) ?_
        refine wq_goto 110 dX0_allot_106 (by decide) ?_
        refine wq_istore 112 [_, _, _, _, _, _] dX0_allot_110 rfl rfl (Nat.le_of_ble_eq_true rfl) rfl ?_
        refine wq_iinc 115 (_ + 1) [_, _, _, _, _, _] dX0_allot_112 rfl rfl (inc1 _) rfl (Nat.le_of_ble_eq_true rfl) rfl ?_
        refine wq_goto 11 dX0_allot_115 (by decide) ?_
        rw [← nI_succ]
        have n38 : 38 ∉ fL (nxA b) := by cases b <;> simp [nxA]
        refine ih (i + 1) (!b) I5 L5 (nextA k w s) (by omega) (by rw [hgo, goA, if_neg c0, if_pos (show okB (wrS k w s) = true from okB_iff.mpr o1)]) (IA_next hk ia o1) o2 (fun x hx => ?_) ?_ s11 o3 ?_ ?_ (fun z => by omega) (fun _ => ⟨by rw [fp.2.1 8 (by decide) (by decide)]; exact aF4.1, fun i hi => by rw [fp.1 38 (by decide) (by decide) (by decide) n38]; exact aF4.2.1 i hi, by rw [fp.2.2 14 (n14 b).1]; exact aF4.2.2⟩) (aFA4.trans (fun x hx => ⟨fp.1 x (by omega) (by omega) (by omega) (nfx x hx), fp.2.2 x (nfx x hx)⟩))
        · rw [s37 x hx, x4 37 (by decide), aO x hx]; rfl
        · rw [fp.2.1 10 (by decide) (by decide), z4 10 (by decide)]; exact a10
        · rw [fp.2.1 13 (by decide) (by decide), z4 13 (by decide)]; exact a13
        · rw [fp.2.1 14 (by decide) (by decide)]; exact v4
    refine wq_iload 13 dX0_allot_11 rfl rfl ?_
    refine wq_bipush 15 6 dX0_allot_13 rfl (by decide) ?_
    refine wq_ic_ge 18 118 dX0_allot_15 rfl (by decide) (fun c15 => absurd c15 (nI_ge (b := 6) (by omega) (by decide))) (fun c15 => ?_)
    refine wq_iload 20 dX0_allot_18 rfl rfl ?_
    refine wq_if_eq 23 118 dX0_allot_20 rfl (by decide) (fun c20 => absurd c20 (by decide)) (fun c20 => ?_)
    refine wq_bload_n 24 0 dX0_allot_23 rfl rfl rfl ?_
    refine wq_getR 27 fl_X0_12 dX0_allot_24 rfl rfl o_14 (rfl : (Tb _).2.2.2 14 0 = some 15) ?_
    refine wq_bload_n 28 0 dX0_allot_27 rfl rfl rfl ?_
    refine wq_getR 31 fl_X0_42 dX0_allot_28 rfl rfl o_14 (rfl : (Tb b).2.2.2 14 6 = some (nwA b)) ?_
    refine cVp1 34 (sp_X3_find (by omega) hN15 (nwA_l b) hL wf) ml_X0_76 mf_X3_find dX0_allot_31 rfl o_15 (by decide) rfl (Nat.le_of_ble_eq_true rfl) (by omega) ?_
    rintro _ b I1 L1 ⟨rfl, rfl, nd, o1⟩
    have hL1 : LR I1 L1 (nwA b) (sN s) (sP s) := LR_keep hL (fun j hj => (o1 _ (by have := nwn j hj; simp; omega)).1) (fun j hj => (o1 _ (by have := nwn j hj; simp; omega)).2)
    refine wq_bload_n 35 0 dX0_allot_34 rfl rfl rfl ?_
    refine wq_getR 38 fl_X0_21 dX0_allot_35 rfl rfl o_14 (rfl : (Tb _).2.2.2 14 1 = some 21) ?_
    refine wq_bload_n 39 0 dX0_allot_38 rfl rfl rfl ?_
    refine wq_getR 42 fl_X0_42 dX0_allot_39 rfl rfl o_14 (rfl : (Tb b).2.2.2 14 6 = some (nwA b)) ?_
    refine wq_bload_n 43 0 dX0_allot_42 rfl rfl rfl ?_
    refine wq_getR 46 fl_X0_12 dX0_allot_43 rfl rfl o_14 (rfl : (Tb _).2.2.2 14 0 = some 15) ?_
    refine wq_iload_n 47 2 dX0_allot_46 rfl rfl rfl ?_
    refine wq_iload_n 48 3 dX0_allot_47 rfl rfl rfl ?_
    refine cVp4 51 (sp_X5_play (by omega) (nwA_l b) hN15 hL1 wf nd hk hwy rfl rfl) ml_X0_79 mf_X5_play dX0_allot_48 rfl o_21 (by decide) rfl (Nat.le_of_ble_eq_true rfl) (by omega) ?_
    rintro _ b I2 L2 ⟨rfl, rfl, ⟨t, hX⟩, hG, hSp, j1, m1⟩
    have hL2 : LR I2 L2 (nwA b) (sN s) (sP s) := LR_keep hL1 (fun j hj => j1 _ (nwn j hj).2.1) (fun j hj => m1 _ (by have := nwn j hj; omega) (by have := nwn j hj; omega))
    have e14 : I2 14 = I 14 := by rw [j1 14 (by simp [RR]), (o1 14 (by simp)).1]
    have e37 : I2 37 = I 37 := by rw [j1 37 (by simp [RR]), (o1 37 (by simp)).1]
    have e38 : I2 38 = I 38 := by rw [j1 38 (by simp [RR]), (o1 38 (by simp)).1]
    have l14 : L2 14 = L 14 := by rw [m1 14 (by decide) (by decide), (o1 14 (by simp)).2]
    have fa2 : FA I0 L0 I2 L2 := fa.trans (fun x hx => ⟨by rw [j1 x (by simp [RR]; omega), (o1 x (by simp; omega)).1], by rw [m1 x (by omega) (by omega), (o1 x (by simp; omega)).2]⟩)
    refine wq_bload_n 52 0 dX0_allot_51 rfl rfl rfl ?_
    refine wq_dup 53 dX0_allot_52 rfl rfl ?_
    refine wq_getI 56 fl_X0_56 dX0_allot_53 rfl rfl o_14 ?_
    refine wq_iconst 57 1 dX0_allot_56 rfl (by decide) ?_
    refine wq_iadd 58 dX0_allot_57 rfl ?_
    refine wq_putI 61 fl_X0_56 dX0_allot_58 rfl rfl rfl rfl rfl o_14 ?_
    refine wq_gen (fun I3 L3 eI3 eL3 => ?_)
    rw [eL3]
    clear eL3
    have i3 : I3 14 = va_up (I 14) 10 (nI (i + 1)) := by rw [eI3, va_up_self, e14, h10, nI_succ]
    have x3 : ∀ x, x ≠ 14 → I3 x = I2 x := fun x hx => by rw [eI3, va_up_ne _ _ hx]
    clear eI3
    have L3' : LR I3 L2 (nwA b) (sN s) (sP s) := LR_keep hL2 (fun j hj => x3 _ (nwn j hj).1) (fun _ _ => rfl)
    refine wq_iload 63 dX0_allot_61 rfl rfl ?_
    refine wq_if_ne 66 70 dX0_allot_63 rfl (by decide) (fun c63 => ?_) (fun c63 => ?_)
    · skip
      have ipos : 0 < i := Decidable.byContradiction (fun z => c63 (by rw [show i = 0 by omega]; rfl))
      refine J70 I3 L2 L3' (fun x hx => by rw [x3 37 (by decide), e37]; exact hO x hx) (by rw [i3, va_up_self]) (by rw [i3, va_up_ne _ _ (by decide)]; exact h11) (by rw [i3, va_up_ne _ _ (by decide)]; exact h12) (by rw [i3, va_up_ne _ _ (by decide)]; exact h13) (fun x hx => by rw [x3 25 (by decide)]; exact hX.2.2.1 x hx) (by rw [x3 26 (by decide)]; exact hG) hSp ⟨by rw [i3, va_up_ne _ _ (by decide)]; exact (hfr ipos).1, fun i hi => by rw [x3 38 (by decide), e38]; exact (hfr ipos).2.1 i hi, by rw [l14]; exact (hfr ipos).2.2⟩ (fa2.trans (fun x hx => ⟨x3 x (by omega), rfl⟩))
    · skip
      refine wq_bload_n 67 0 dX0_allot_66 rfl rfl rfl ?_
      refine cVp0 70 (sp_X0_keep (by omega)) ml_X0_83 mf_X0_keepFirstRound dX0_allot_67 rfl o_14 (by decide) rfl (Nat.le_of_ble_eq_true rfl) (by omega) ?_
      rintro _ b I4 L4 ⟨rfl, rfl, u1, u2, u3, u4, u5, u6⟩
      have i0 : i = 0 := (nI_eq (a := i) (b := 0) (by omega) (by decide)).mp c63
      have es := hs0 i0
      have eP : sP s = p0 := by rw [es]; rfl
      have eN : sN s = n0 := by rw [es]; rfl
      have hq := end_Q (k := k) (w := w) sn90 wf
      refine J70 I4 L4 (LR_keep L3' (fun j hj => u5 _ (nwn j hj).1 (by have := nwn j hj; omega)) (fun j hj => u6 _ (nwn j hj).1)) (fun x hx => by rw [u5 37 (by decide) (by decide), x3 37 (by decide), e37]; exact hO x hx) (by rw [u3 10 (by decide), i3, va_up_self]) (by rw [u3 11 (by decide), i3, va_up_ne _ _ (by decide)]; exact h11) (by rw [u3 12 (by decide), i3, va_up_ne _ _ (by decide)]; exact h12) (by rw [u3 13 (by decide), i3, va_up_ne _ _ (by decide)]; exact h13) (fun x hx => by rw [u5 25 (by decide) (by decide), x3 25 (by decide)]; exact hX.2.2.1 x hx) (by rw [u5 26 (by decide) (by decide), x3 26 (by decide)]; exact hG) (by rw [u6 21 (by decide)]; exact hSp) ⟨?_, fun j hj => ?_, ?_⟩ ((fa2.trans (fun x hx => ⟨x3 x (by omega), rfl⟩)).trans (fun x hx => ⟨u5 x (by omega) (by omega), u6 x (by omega)⟩))
      · rw [u2, x3 21 (by decide), ← eP, ← eN]; exact hX.2.2.2.2.2.2.2.2.1
      · rw [← eP, ← eN] at hj ⊢
        rw [u1 j (by omega), x3 31 (by decide)]
        exact hX.2.2.2.2.2.2.2.1 j hj
      · rw [u4, ← eP, ← eN]; exact hSp
set_option maxRecDepth 20000 in
theorem sp_X0_allot {g : Gl} {D : Nat} {b : Bool} {I : IM} {L : LM} {k w n : Nat} {p : Pg} (hD : 9 ≤ D) (hk : k ≤ 4) (hwy : w < 3) (h : LR I L 3 n p) (hw : WfB 16 p n) {i j : Int32} (hi : i = nI k) (hj : j = nI w) : Me g D MX0_allot [rf g 14, rf g 3, .int i, .int j] b I L (fun r b' I' L' => r = none ∧ AlR I' L' k w p n ∧ FA I L I' L') := by
  subst hi hj
  refine Me.of [some (rf g 14), some (rf g 3), some (.int (nI k)), some (.int (nI w)), none, none] 2 rfl pf_X0_allot (Nat.le_of_ble_eq_true rfl) ?_
  refine wq_bload_n 1 0 dX0_allot_0 rfl rfl rfl ?_
  refine wq_bload_n 2 1 dX0_allot_1 rfl rfl rfl ?_
  refine cVp1 5 (sp_X0_begin (by omega) h) ml_X0_72 mf_X0_begin dX0_allot_2 rfl o_14 (by decide) rfl (Nat.le_of_ble_eq_true rfl) (by omega) ?_
  rintro _ b I1 L1 ⟨rfl, rfl, q1, q2, q3, q4, q5, q6, q7, q8⟩
  refine wq_iconst 6 1 dX0_allot_5 rfl (by decide) ?_
  refine wq_istore 8 [_, _, _, _, _, _] dX0_allot_6 rfl rfl (Nat.le_of_ble_eq_true rfl) rfl ?_
  refine wq_iconst 9 0 dX0_allot_8 rfl (by decide) ?_
  refine wq_istore 11 [_, _, _, _, _, _] dX0_allot_9 rfl rfl (Nat.le_of_ble_eq_true rfl) rfl ?_
  exact lp_X0_allot hD hk hwy (fun b' I' L' a f => ⟨rfl, a, f⟩) 6 0 b I1 L1 (bgA p n) (by omega) rfl (IA_beg hw h.1) q1 q2 q3 q4 q5 q6 q7 (fun _ => rfl) (fun z => by omega) q8
