/-! the reference's round: goRound -/
def GoR (I I1 : IM) (p : Pg) (n q : Nat) : Prop := (∀ x, x < q → I1 88 x = nI x ∧ (4 ≤ x → I1 89 x = nI (Ct p n x)) ∧ I1 94 x = rg0 x) ∧ ∀ x, x ∉ [88, 89, 94] → I1 x = I x
set_option maxRecDepth 20000 in
set_option maxHeartbeats 2000000 in
theorem lp_X8_go1 {g : Gl} {D : Nat} {b : Bool} {I : IM} {L : LM} {n B : Nat} {p : Pg} (hD : 3 ≤ D) (h : NR I n p) (hw : WfB B p n) {post : Option Value → Bool → IM → LM → Prop} (kk : ∀ I1, GoR I I1 p n 64 → Wp (Kn g D MX8_goRound post) (Tb b) 84 [some (rf g 71), some (.int (nI 64)), none, none, none, none] [] I1 L) : ∀ r q I1, q + r = 64 → GoR I I1 p n q → Wp (Kn g D MX8_goRound post) (Tb b) 28 [some (rf g 71), some (.int (nI q)), none, none, none, none] [] I1 L := by
  intro r
  induction r with
  | zero =>
    intro q I1 hq hI
    have eq : q = 64 := by omega
    subst eq
    refine wq_iload_n 29 1 dX8_goRound_28 rfl rfl rfl ?_
    refine wq_bipush 31 64 dX8_goRound_29 rfl (by decide) ?_
    refine wq_ic_ge 34 84 dX8_goRound_31 rfl (by decide) (fun c31 => ?_) (fun c31 => absurd (by decide) c31)
    exact kk I1 hI
  | succ r ih =>
    intro q I1 hq hI
    obtain ⟨h1, h2⟩ := hI
    have hN : ∀ G, NR (va_up I1 88 G) n p := fun G => NR_keep h (by rw [va_up_ne _ _ (by decide), h2 71 (by decide)]) (by rw [va_up_ne _ _ (by decide), h2 77 (by decide)]) (by rw [va_up_ne _ _ (by decide), h2 78 (by decide)]) (by rw [va_up_ne _ _ (by decide), h2 79 (by decide)]) (by rw [va_up_ne _ _ (by decide), h2 80 (by decide)])
    have fin : ∀ I2 : IM, I2 88 = va_up (I1 88) q (nI q) → (∃ v, I2 89 = va_up (I1 89) q v ∧ (4 ≤ q → v = nI (Ct p n q))) → I2 94 = va_up (I1 94) q (rg0 q) → (∀ x, x ∉ [88, 89, 94] → I2 x = I1 x) → Wp (Kn g D MX8_goRound post) (Tb b) 28 [some (rf g 71), some (.int (nI q + 1)), none, none, none, none] [] I2 L := by
      intro I2 i88 i89 i94 ix
      obtain ⟨v, i89, hv⟩ := i89
      rw [← nI_succ]
      refine ih (q + 1) I2 (by omega) ⟨fun x hx => ?_, fun x hx => (ix x hx).trans (h2 x hx)⟩
      rw [i88, i89, i94]
      by_cases e : x = q
      · rw [e, va_up_self, va_up_self, va_up_self]; exact ⟨rfl, hv, rfl⟩
      · rw [va_up_ne _ _ e, va_up_ne _ _ e, va_up_ne _ _ e]; exact h1 x (by omega)
    have nx : ∀ (a b c : Nat → Int32) x, x ∉ [88, 89, 94] → va_up (va_up (va_up I1 88 a) 89 b) 94 c x = I1 x := by
      intro a b c x hx
      simp at hx
      rw [va_up_ne _ _ hx.2.2, va_up_ne _ _ hx.2.1, va_up_ne _ _ hx.1]
    by_cases c4 : q < 4
    · have er : rg0 q = nI q := by unfold rg0; rw [if_pos c4]
      refine wq_iload_n 29 1 dX8_goRound_28 rfl rfl rfl ?_
      refine wq_bipush 31 64 dX8_goRound_29 rfl (by decide) ?_
      refine wq_ic_ge 34 84 dX8_goRound_31 rfl (by decide) (fun c31 => absurd c31 (nI_ge (b := 64) (by omega) (by decide))) (fun c31 => ?_)
      refine wq_bload_n 35 0 dX8_goRound_34 rfl rfl rfl ?_
      refine wq_getR 38 fl_X8_63 dX8_goRound_35 rfl rfl o_71 (rfl : (Tb _).2.2.2 71 22 = some 88) ?_
      refine wq_iload_n 39 1 dX8_goRound_38 rfl rfl rfl ?_
      refine wq_iload_n 40 1 dX8_goRound_39 rfl rfl rfl ?_
      refine wq_iast 41 dX8_goRound_40 rfl a_88 (Ix.nI (by omega) (by decide)) ?_
      refine wq_bload_n 42 0 dX8_goRound_41 rfl rfl rfl ?_
      refine wq_getR 45 fl_X8_66 dX8_goRound_42 rfl rfl o_71 (rfl : (Tb _).2.2.2 71 23 = some 89) ?_
      refine wq_iload_n 46 1 dX8_goRound_45 rfl rfl rfl ?_
      refine wq_iload_n 47 1 dX8_goRound_46 rfl rfl rfl ?_
      refine wq_iconst 48 4 dX8_goRound_47 rfl (by decide) ?_
      refine wq_ic_ge 51 55 dX8_goRound_48 rfl (by decide) (fun c48 => absurd c48 (nI_ge (b := 4) c4 (by decide))) (fun c48 => ?_)
      refine wq_iconst 52 0 dX8_goRound_51 rfl (by decide) ?_
      refine wq_goto 60 dX8_goRound_52 (by decide) ?_
      refine wq_iast 61 dX8_goRound_60 rfl a_89 (Ix.nI (by omega) (by decide)) ?_
      refine wq_bload_n 62 0 dX8_goRound_61 rfl rfl rfl ?_
      refine wq_getR 65 fl_X8_82 dX8_goRound_62 rfl rfl o_71 (rfl : (Tb _).2.2.2 71 31 = some 94) ?_
      refine wq_iload_n 66 1 dX8_goRound_65 rfl rfl rfl ?_
      refine wq_iload_n 67 1 dX8_goRound_66 rfl rfl rfl ?_
      refine wq_iconst 68 4 dX8_goRound_67 rfl (by decide) ?_
      refine wq_ic_ge 71 75 dX8_goRound_68 rfl (by decide) (fun c68 => absurd c68 (nI_ge (b := 4) c4 (by decide))) (fun c68 => ?_)
      refine wq_iload_n 72 1 dX8_goRound_71 rfl rfl rfl ?_
      refine wq_goto 77 dX8_goRound_72 (by decide) ?_
      refine wq_iast 78 dX8_goRound_77 rfl a_94 (Ix.nI (by omega) (by decide)) ?_
      refine wq_iinc 81 (_ + 1) [_, _, _, _, _, _] dX8_goRound_78 rfl rfl (inc1 _) rfl (Nat.le_of_ble_eq_true rfl) rfl ?_
      refine wq_goto 28 dX8_goRound_81 (by decide) ?_
      refine fin _ (by rw [va_up_ne _ _ (by decide), va_up_ne _ _ (by decide), va_up_self]) ⟨_, by rw [va_up_ne _ _ (by decide), va_up_self, va_up_ne _ _ (by decide)], fun z => by omega⟩ (by rw [va_up_self, va_up_ne _ _ (by decide), va_up_ne _ _ (by decide), er]) (nx _ _ _)
    · have er : rg0 q = -6 := by unfold rg0; rw [if_neg c4]
      refine wq_iload_n 29 1 dX8_goRound_28 rfl rfl rfl ?_
      refine wq_bipush 31 64 dX8_goRound_29 rfl (by decide) ?_
      refine wq_ic_ge 34 84 dX8_goRound_31 rfl (by decide) (fun c31 => absurd c31 (nI_ge (b := 64) (by omega) (by decide))) (fun c31 => ?_)
      refine wq_bload_n 35 0 dX8_goRound_34 rfl rfl rfl ?_
      refine wq_getR 38 fl_X8_63 dX8_goRound_35 rfl rfl o_71 (rfl : (Tb _).2.2.2 71 22 = some 88) ?_
      refine wq_iload_n 39 1 dX8_goRound_38 rfl rfl rfl ?_
      refine wq_iload_n 40 1 dX8_goRound_39 rfl rfl rfl ?_
      refine wq_iast 41 dX8_goRound_40 rfl a_88 (Ix.nI (by omega) (by decide)) ?_
      refine wq_bload_n 42 0 dX8_goRound_41 rfl rfl rfl ?_
      refine wq_getR 45 fl_X8_66 dX8_goRound_42 rfl rfl o_71 (rfl : (Tb _).2.2.2 71 23 = some 89) ?_
      refine wq_iload_n 46 1 dX8_goRound_45 rfl rfl rfl ?_
      refine wq_iload_n 47 1 dX8_goRound_46 rfl rfl rfl ?_
      refine wq_iconst 48 4 dX8_goRound_47 rfl (by decide) ?_
      refine wq_ic_ge 51 55 dX8_goRound_48 rfl (by decide) (fun c48 => ?_) (fun c48 => absurd (nI_le (a := 4) (by omega) (by omega)) c48)
      refine wq_bload_n 56 0 dX8_goRound_55 rfl rfl rfl ?_
      refine wq_iload_n 57 1 dX8_goRound_56 rfl rfl rfl ?_
      refine cVi1 60 (sp_X8_costOf (by omega) (hN _) hw q rfl (by omega)) ml_X8_194 mf_X8_costOf dX8_goRound_57 rfl o_71 (by decide) rfl (Nat.le_of_ble_eq_true rfl) (by omega) ?_
      refine wq_iast 61 dX8_goRound_60 rfl a_89 (Ix.nI (by omega) (by decide)) ?_
      refine wq_bload_n 62 0 dX8_goRound_61 rfl rfl rfl ?_
      refine wq_getR 65 fl_X8_82 dX8_goRound_62 rfl rfl o_71 (rfl : (Tb _).2.2.2 71 31 = some 94) ?_
      refine wq_iload_n 66 1 dX8_goRound_65 rfl rfl rfl ?_
      refine wq_iload_n 67 1 dX8_goRound_66 rfl rfl rfl ?_
      refine wq_iconst 68 4 dX8_goRound_67 rfl (by decide) ?_
      refine wq_ic_ge 71 75 dX8_goRound_68 rfl (by decide) (fun c68 => ?_) (fun c68 => absurd (nI_le (a := 4) (by omega) (by omega)) c68)
      refine wq_bipush 77 (-6) dX8_goRound_75 rfl (by decide) ?_
      refine wq_iast 78 dX8_goRound_77 rfl a_94 (Ix.nI (by omega) (by decide)) ?_
      refine wq_iinc 81 (_ + 1) [_, _, _, _, _, _] dX8_goRound_78 rfl rfl (inc1 _) rfl (Nat.le_of_ble_eq_true rfl) rfl ?_
      refine wq_goto 28 dX8_goRound_81 (by decide) ?_
      refine fin _ (by rw [va_up_ne _ _ (by decide), va_up_ne _ _ (by decide), va_up_self]) ⟨_, by rw [va_up_ne _ _ (by decide), va_up_self, va_up_ne _ _ (by decide)], fun _ => rfl⟩ (by rw [va_up_self, va_up_ne _ _ (by decide), va_up_ne _ _ (by decide), er]) (nx _ _ _)
def MvM (I : IM) (p : Pg) (i : Nat) : Prop := I 71 27 = nI (mvs p i) ∧ ∀ m, m < mvs p i → I 90 m = nI (mvI p i m) ∧ I 91 m = 1
set_option maxRecDepth 20000 in
set_option maxHeartbeats 2000000 in
theorem lp_X8_go2 {g : Gl} {D : Nat} {b : Bool} {L : LM} {n : Nat} {p : Pg} {I0 : IM} {l2 l3 l4 l5 : Option Value} {post : Option Value → Bool → IM → LM → Prop} (kk : ∀ I, MvM I p n → (∀ z, z ≠ 27 → I 71 z = I0 71 z) → (∀ x, x ∉ [71, 90, 91] → I x = I0 x) → Wp (Kn g D MX8_goRound post) (Tb b) 140 [some (rf g 71), some (.int (nI n)), l2, l3, l4, l5] [] I L) : ∀ r i I, i + r = n → NR I n p → MvM I p i → (∀ z, z ≠ 27 → I 71 z = I0 71 z) → (∀ x, x ∉ [71, 90, 91] → I x = I0 x) → Wp (Kn g D MX8_goRound post) (Tb b) 86 [some (rf g 71), some (.int (nI i)), l2, l3, l4, l5] [] I L := by
  intro r
  induction r with
  | zero =>
    intro i I hi h hm f1 f2
    have ei : i = n := by omega
    subst ei
    refine wq_iload_n 87 1 dX8_goRound_86 rfl rfl rfl ?_
    refine wq_bload_n 88 0 dX8_goRound_87 rfl rfl rfl ?_
    refine wq_getI 91 fl_X8_148 dX8_goRound_88 rfl rfl o_71 ?_
    refine wq_ic_ge 94 140 dX8_goRound_91 rfl (by decide) (fun c91 => ?_) (fun c91 => absurd (by rw [h.2.1]; exact nI_le (Nat.le_refl _) (by have := h.1; omega)) c91)
    exact kk I hm f1 f2
  | succ r ih =>
    intro i I hi h hm f1 f2
    have hn := h.1
    have hP := (h.2.2 i (by omega)).1
    have hml := mvs_le p i
    refine wq_iload_n 87 1 dX8_goRound_86 rfl rfl rfl ?_
    refine wq_bload_n 88 0 dX8_goRound_87 rfl rfl rfl ?_
    refine wq_getI 91 fl_X8_148 dX8_goRound_88 rfl rfl o_71 ?_
    refine wq_ic_ge 94 140 dX8_goRound_91 rfl (by decide) (fun c91 => absurd c91 (by rw [h.2.1]; exact nI_ge (by omega) (by omega))) (fun c91 => ?_)
    refine wq_bload_n 95 0 dX8_goRound_94 rfl rfl rfl ?_
    refine wq_getR 98 fl_X8_29 dX8_goRound_95 rfl rfl o_71 (rfl : (Tb _).2.2.2 71 9 = some 77) ?_
    refine wq_iload_n 99 1 dX8_goRound_98 rfl rfl rfl ?_
    refine wq_iald 100 dX8_goRound_99 rfl a_77 (Ix.nI (by omega) (by decide)) ?_
    refine wq_iconst 101 1 dX8_goRound_100 rfl (by decide) ?_
    refine wq_ic_ne 104 134 dX8_goRound_101 rfl (by decide) (fun c101 => ?_) (fun c101 => ?_)
    · skip
      refine wq_iinc 137 (_ + 1) [_, _, _, _, _, _] dX8_goRound_134 rfl rfl (inc1 _) rfl (Nat.le_of_ble_eq_true rfl) rfl ?_
      refine wq_goto 86 dX8_goRound_137 (by decide) ?_
      have e : mvs p (i + 1) = mvs p i := by rw [mvs, if_neg (by rw [← hP]; exact c101)]
      rw [← nI_succ]
      refine ih (i + 1) I (by omega) h ⟨by rw [e]; exact hm.1, fun m hm' => ?_⟩ f1 f2
      rw [e] at hm'
      rw [mvI_old hm']
      exact hm.2 m hm'
    · skip
      refine wq_bload_n 105 0 dX8_goRound_104 rfl rfl rfl ?_
      refine wq_getR 108 fl_X8_69 dX8_goRound_105 rfl rfl o_71 (rfl : (Tb _).2.2.2 71 25 = some 90) ?_
      refine wq_bload_n 109 0 dX8_goRound_108 rfl rfl rfl ?_
      refine wq_getI 112 fl_X8_224 dX8_goRound_109 rfl rfl o_71 ?_
      refine wq_iload_n 113 1 dX8_goRound_112 rfl rfl rfl ?_
      refine wq_iast 114 dX8_goRound_113 rfl a_90 (by rw [hm.1]; exact Ix.nI (by omega) (by decide)) ?_
      refine wq_bload_n 115 0 dX8_goRound_114 rfl rfl rfl ?_
      refine wq_getR 118 fl_X8_72 dX8_goRound_115 rfl rfl o_71 (rfl : (Tb _).2.2.2 71 26 = some 91) ?_
      refine wq_bload_n 119 0 dX8_goRound_118 rfl rfl rfl ?_
      refine wq_getI 122 fl_X8_224 dX8_goRound_119 rfl rfl o_71 ?_
      refine wq_iconst 123 1 dX8_goRound_122 rfl (by decide) ?_
      refine wq_zast 124 dX8_goRound_123 rfl a_91 (by rw [va_up_ne _ _ (by decide), hm.1]; exact Ix.nI (by omega) (by decide)) rfl ?_
      refine wq_bload_n 125 0 dX8_goRound_124 rfl rfl rfl ?_
      refine wq_dup 126 dX8_goRound_125 rfl rfl ?_
      refine wq_getI 129 fl_X8_224 dX8_goRound_126 rfl rfl o_71 ?_
      refine wq_iconst 130 1 dX8_goRound_129 rfl (by decide) ?_
      refine wq_iadd 131 dX8_goRound_130 rfl ?_
      refine wq_putI 134 fl_X8_224 dX8_goRound_131 rfl rfl rfl rfl rfl o_71 ?_
      refine wq_iinc 137 (_ + 1) [_, _, _, _, _, _] dX8_goRound_134 rfl rfl (inc1 _) rfl (Nat.le_of_ble_eq_true rfl) rfl ?_
      refine wq_goto 86 dX8_goRound_137 (by decide) ?_
      have c1 : p i 0 = 1 := by rw [← hP]; exact c101
      have e : mvs p (i + 1) = mvs p i + 1 := by rw [mvs, if_pos c1]
      rw [← nI_succ]
      refine wq_gen (fun I1 L1 eI1 eL1 => ?_)
      have i71 : I1 71 = va_up (I 71) 27 (nI (mvs p (i + 1))) := by rw [eI1, e, nI_succ]; simp [va_up, hm.1]
      have i90 : I1 90 = va_up (I 90) (mvs p i) (nI i) := by rw [eI1]; simp [va_up]
      have i91 : I1 91 = va_up (I 91) (mvs p i) 1 := by rw [eI1]; simp [va_up]
      have ix : ∀ x, x ∉ [71, 90, 91] → I1 x = I x := by
        intro x hx
        simp at hx
        rw [eI1]
        simp [va_up, hx]
      rw [eL1]
      clear eI1 eL1
      have hN1 : NR I1 n p := NR_keep h (by rw [i71, va_up_ne _ _ (by decide)]) (ix _ (by decide)) (ix _ (by decide)) (ix _ (by decide)) (ix _ (by decide))
      refine ih (i + 1) I1 (by omega) hN1 ⟨by rw [i71, va_up_self], fun m hm' => ?_⟩ (fun z hz => by rw [i71, va_up_ne _ _ hz]; exact f1 z hz) (fun x hx => (ix x hx).trans (f2 x hx))
      rw [i90, i91]
      by_cases em : m = mvs p i
      · rw [em, va_up_self, va_up_self, mvI, if_pos ⟨c1, rfl⟩]; exact ⟨rfl, rfl⟩
      · have hm2 : m < mvs p i := by omega
        rw [va_up_ne _ _ em, va_up_ne _ _ em, mvI_old hm2]
        exact hm.2 m hm2
/-- what goRound may change -/
def FG (I : IM) (L : LM) (I' : IM) (L' : LM) : Prop := (∀ x, x ∉ [71, 88, 89, 90, 91, 92, 94, 95] → I' x = I x) ∧ (∀ z, z ∉ [27, 30, 33] → I' 71 z = I 71 z) ∧ (∀ x, x ∉ [71, 85, 86, 87, 93] → L' x = L x) ∧ ∀ z, z ≠ 24 → L' 71 z = L 71 z
set_option maxRecDepth 20000 in
set_option maxHeartbeats 2000000 in
theorem sp_X8_goRound {g : Gl} {D : Nat} {b : Bool} {I : IM} {L : LM} {n B k w : Nat} {p : Pg} {tl : Bool} (hD : 6 ≤ D) (h : NR I n p) (hw : WfB B p n) (hk0 : I 71 0 = nI k) (hk : k ≤ 4) (hw0 : I 71 1 = nI w) (hwy : w < 3) (ht1 : tl = true → I 71 34 = 1 ∧ I 71 33 = 0) (ht0 : tl = false → I 71 34 = 0) : Me g D MX8_goRound [rf g 71] b I L (fun r b' I' L' => b' = b ∧ (∃ sp : Nat, r = some (.int (nI sp)) ∧ sp ≤ 64 ∧ (sp = 0 ↔ (bckA k w p n).2 = 0)) ∧ RMx I' L' k w (mvs p n) (mf1 p n) (mf2 p n) tl (endA k w p n) ∧ Ag64 (I' 94) (bckA k w p n).1 ∧ FG I L I' L') := by
  obtain ⟨t, ht⟩ := TN_all p n
  have gs := GS_beg h.1 hw ht
  have hrb : RB t (begA p n) := fun i hi => absurd hi (Nat.not_lt_zero i)
  have hlo : lvA (begA p n) + omA (mvs p n) (begA p n) ≤ 150 := by have := gs.2.1; omega
  obtain ⟨e1, e2, e3⟩ := run_ok (k := k) (w := w) 150 _ gs hrb hlo
  have hdd : TkD (endA k w p n) := run_D 150 _ gs (fun i hi => absurd hi (Nat.not_lt_zero i))
  refine Me.of [some (rf g 71), none, none, none, none, none] 5 rfl pf_X8_goRound (Nat.le_of_ble_eq_true rfl) ?_
  refine wq_bload_n 1 0 dX8_goRound_0 rfl rfl rfl ?_
  refine cVp0 4 (sp_X8_layEdges (by omega) h hw) ml_X8_177 mf_X8_layEdges dX8_goRound_1 rfl o_71 (by decide) rfl (Nat.le_of_ble_eq_true rfl) (by omega) ?_
  rintro _ _ I L1 ⟨rfl, rfl, rfl, hE, l1⟩
  refine wq_bload_n 5 0 dX8_goRound_4 rfl rfl rfl ?_
  refine wq_bload_n 6 0 dX8_goRound_5 rfl rfl rfl ?_
  refine cVl0 9 (sp_X8_names (by omega) h hw) ml_X8_255 mf_X8_names dX8_goRound_6 rfl o_71 (by decide) rfl (Nat.le_of_ble_eq_true rfl) (by omega) ?_
  refine wq_ldc2 12 (15) dX8_goRound_9 rfl kc_X8_259 ?_
  refine wq_lor 13 dX8_goRound_12 rfl ?_
  refine wq_putL 16 fl_X8_211 dX8_goRound_13 rfl rfl rfl rfl rfl o_71 ?_
  refine wq_bload_n 17 0 dX8_goRound_16 rfl rfl rfl ?_
  refine wq_iconst 18 0 dX8_goRound_17 rfl (by decide) ?_
  refine wq_putI 21 fl_X8_224 dX8_goRound_18 rfl rfl rfl rfl rfl o_71 ?_
  refine wq_bload_n 22 0 dX8_goRound_21 rfl rfl rfl ?_
  refine wq_iconst 23 0 dX8_goRound_22 rfl (by decide) ?_
  refine wq_putI 26 fl_X8_230 dX8_goRound_23 rfl rfl rfl rfl rfl o_71 ?_
  refine wq_iconst 27 0 dX8_goRound_26 rfl (by decide) ?_
  refine wq_istore_n 28 1 [_, _, _, _, _, _] dX8_goRound_27 rfl rfl rfl (Nat.le_of_ble_eq_true rfl) rfl ?_
  refine wq_gen (fun I2 L2 eI2 eL2 => ?_)
  have ix : ∀ x, x ≠ 71 → I2 x = I x := fun x hx => by rw [eI2, va_up_ne _ _ hx, va_up_ne _ _ hx]
  have iz : ∀ z, z ≠ 27 → z ≠ 30 → I2 71 z = I 71 z := fun z z1 z2 => by rw [eI2]; simp [va_up, z1, z2]
  have i27 : I2 71 27 = 0 := by rw [eI2]; simp [va_up]
  have i30 : I2 71 30 = 0 := by rw [eI2]; simp [va_up]
  have l71 : L2 71 24 = Nms p n ||| 15 := by rw [eL2, va_up_self, va_up_self]
  have lz : ∀ z, z ≠ 24 → L2 71 z = L 71 z := fun z hz => by rw [eL2, va_up_self, va_up_ne _ _ hz, l1 71 (by decide)]
  have lx : ∀ x, x ≠ 71 → L2 x = L1 x := fun x hx => by rw [eL2, va_up_ne _ _ hx]
  clear eI2 eL2
  have h2 : NR I2 n p := NR_keep h (iz 13 (by decide) (by decide)) (ix _ (by decide)) (ix _ (by decide)) (ix _ (by decide)) (ix _ (by decide))
  refine lp_X8_go1 (by omega) h2 hw (fun I3 g3 => ?_) 64 0 I2 (by omega) ⟨fun x hx => by omega, fun _ _ => rfl⟩
  have h3 : NR I3 n p := NR_keep h2 (by rw [g3.2 71 (by decide)]) (g3.2 _ (by decide)) (g3.2 _ (by decide)) (g3.2 _ (by decide)) (g3.2 _ (by decide))
  refine wq_iconst 85 0 dX8_goRound_84 rfl (by decide) ?_
  refine wq_istore_n 86 1 [_, _, _, _, _, _] dX8_goRound_85 rfl rfl rfl (Nat.le_of_ble_eq_true rfl) rfl ?_
  refine lp_X8_go2 (I0 := I3) (fun I4 m4 z4 x4 => ?_) n 0 I3 (by omega) h3 ⟨by rw [g3.2 71 (by decide)]; exact i27, fun m hm => absurd hm (Nat.not_lt_zero m)⟩ (fun _ _ => rfl) (fun _ _ => rfl)
  have y4 : ∀ z, z ≠ 27 → z ≠ 30 → I4 71 z = I 71 z := fun z z1 z2 => by rw [z4 z z1, g3.2 71 (by decide)]; exact iz z z1 z2
  have v4 : ∀ x, x ∉ [71, 88, 89, 90, 91, 94] → I4 x = I x := fun x hx => by
    simp at hx
    rw [x4 x (by simp; omega), g3.2 x (by simp; omega), ix x (by omega)]
  have R4 : RMx I4 L2 k w (mvs p n) (mf1 p n) (mf2 p n) tl (begA p n) := by
    refine ⟨fun x hx hl => ?_, l71, fun x hx => ?_, fun x hx x4' hl => ?_, fun m hm => ?_, fun i hi => absurd hi (Nat.not_lt_zero i), ?_, m4.1, fun m hm => ?_, ?_, ?_, fun ht => ?_, fun ht => ?_⟩
    · rw [lx 87 (by decide), EdR_set hE hx]
      show setF (edB p (Lvb p n) n x) 64 &&& aL (begA p n) = setF (edB p (Lvb p n) n x) 64
      apply tb_ext
      intro j hj
      rw [tb_and]
      by_cases c : tb (setF (edB p (Lvb p n) n x) 64) j = true
      · rw [c, (gs.1.2.2.2.2.2.1 x hx hl j hj c).1]; rfl
      · rw [Bool.eq_false_iff.mpr c]; rfl
    · rw [x4 88 (by decide)]; exact (g3.1 x hx).1
    · rw [x4 89 (by decide)]; exact (g3.1 x hx).2.1 x4'
    · exact (m4.2 m hm).2
    · rw [z4 30 (by decide), g3.2 71 (by decide)]; exact i30
    · obtain ⟨q1, q2⟩ := mvI_is p n m hm
      obtain ⟨-, -, q3, q4, -, -⟩ := mf_is hw hm
      have hq := h.2.2 _ q1
      refine ⟨mvI p n m, by have := h.1; omega, (m4.2 m hm).1, ?_, ?_⟩
      · rw [v4 78 (by decide), hq.2.1, q3]
      · rw [v4 79 (by decide), hq.2.2.1, q4]
    · rw [y4 0 (by decide) (by decide)]; exact hk0
    · rw [y4 1 (by decide) (by decide)]; exact hw0
    · rw [y4 34 (by decide) (by decide), y4 33 (by decide) (by decide)]
      exact ⟨(ht1 ht).1, fun i hi => absurd hi (Nat.not_lt_zero i), (ht1 ht).2⟩
    · rw [y4 34 (by decide) (by decide)]; exact ht0 ht
  refine lp_X8_steps (by omega) (by omega) hwy 150 _ I4 L2 R4 gs hlo (fun I5 L5 R5 fm => ?_)
  have a94 : I5 94 = I3 94 := by rw [fm.1 94 (by decide), x4 94 (by decide)]
  have hr : ∀ x, x < 64 → I5 94 x = rg0 x := fun x hx => by rw [a94]; exact (g3.1 x hx).2.2
  have hRg : RgB (I5 94) := fun x hx => by
    rw [hr x hx]
    unfold rg0
    by_cases c : x < 4
    · rw [if_pos c]; exact Or.inr ⟨x, c, rfl⟩
    · rw [if_neg c]; exact Or.inl rfl
  have hK : aK (endA k w p n) ≤ 64 := by have := e1.2.2.1; unfold endA; omega
  refine wq_iconst 182 0 dX8_goRound_181 rfl (by decide) ?_
  refine wq_istore_n 183 1 [_, _, _, _, _, _] dX8_goRound_182 rfl rfl rfl (Nat.le_of_ble_eq_true rfl) rfl ?_
  refine wq_bload_n 184 0 dX8_goRound_183 rfl rfl rfl ?_
  refine wq_getI 187 fl_X8_230 dX8_goRound_184 rfl rfl o_71 ?_
  rw [R5.2.2.2.2.2.2.1]
  refine wq_iconst 188 1 dX8_goRound_187 rfl (by decide) ?_
  refine wq_isub 189 dX8_goRound_188 rfl ?_
  refine wq_istore_n 190 2 [_, _, _, _, _, _] dX8_goRound_189 rfl rfl rfl (Nat.le_of_ble_eq_true rfl) rfl ?_
  refine wp_eqI (va_up_id I5 94) ?_
  refine lp_X8_back (A := endA k w p n) (by omega) hk R5 e1.1 hK hdd (fun sp hs64 hsp => ?_) (aK (endA k w p n)) (I5 94, 0) 0 _ _ _ (Nat.le_refl _) (by omega) hRg (fun i hi => ?_) ⟨fun _ => rfl, fun _ => rfl⟩ rfl
  · have cg := bkA_congr (k := k) (A := endA k w p n) e1.1.1 (aK (endA k w p n)) (s := (I5 94, 0)) (s' := (rg0, 0)) hr rfl
    refine ⟨rfl, ⟨sp, rfl, hs64, by rw [hsp, cg.2]; exact Iff.rfl⟩, ?_, ?_, fun x hx => ?_, fun z hz => ?_, fun x hx => ?_, fun z hz => ?_⟩
    · have nx : ∀ z, z ≠ 94 → va_up I5 94 (bkA k (endA k w p n) (aK (endA k w p n)) (I5 94, 0)).1 z = I5 z := fun z hz => va_up_ne _ _ hz
      unfold RMx
      rw [nx 71 (by decide), nx 88 (by decide), nx 89 (by decide), nx 90 (by decide), nx 91 (by decide), nx 92 (by decide), nx 78 (by decide), nx 79 (by decide), nx 95 (by decide)]
      exact R5
    · rw [va_up_self]; exact cg.1
    · simp at hx
      rw [va_up_ne _ _ (by omega), fm.1 x (by simp; omega), v4 x (by simp; omega)]
    · simp at hz
      rw [va_up_ne _ _ (by decide), fm.2.1 z (by simp; omega), y4 z (by omega) (by omega)]
    · simp at hx
      rw [fm.2.2.1 x (by simp; omega), lx x (by omega), l1 x (by simp; omega)]
    · rw [fm.2.2.2 z hz, lz z hz]
  · obtain ⟨b1, b2, -⟩ := e1.1.2.2.2.2.2.2.2.2.2.2 i hi
    show I5 94 _ = -6
    refine (hr _ b2).trans ?_
    unfold rg0
    exact if_neg (Nat.not_lt.mpr b1)
