/-! the reference's round: turnMove, hope -/
theorem RMx_shutM {I : IM} {L : LM} {k w mv x : Nat} {f1 f2 : Nat → Nat} {tl : Bool} {A : RA} (h : RMx I L k w mv f1 f2 tl A) : RMx (va_up I 91 (va_up (I 91) x 0)) L k w mv f1 f2 tl (shutM A x) := by
  refine RMx_O h _ _ (fun m hm => ?_)
  by_cases e : m = x
  · rw [e, va_up_self, va_up_self]; rfl
  · rw [va_up_ne _ _ e, va_up_ne _ _ e]; exact h.2.2.2.2.1 m hm
set_option maxRecDepth 20000 in
set_option maxHeartbeats 2000000 in
theorem lp_X8_turn {g : Gl} {D : Nat} {b : Bool} {I : IM} {L : LM} {k w mv t : Nat} {f1 f2 : Nat → Nat} {tl : Bool} {A : RA} (hD : 5 ≤ D) (hk : k < 2 ^ 30) (h : RMx I L k w mv f1 f2 tl A) (hg : GA mv t f1 f2 A) (hQ : aQ A < 200) {x : Nat} (hx : lf (turnA k f1 f2 A) mv = x) {post : Option Value → Bool → IM → LM → Prop} (hp : ∀ r I' L', ((x < mv ∧ r = some (.int 1) ∧ RMx I' L' k w mv f1 f2 tl (trnA f1 f2 A x) ∧ FM I L I' L') ∨ (¬ x < mv ∧ r = some (.int 0) ∧ I' = I ∧ L' = L)) → post r b I' L') : ∀ r q l2 l3, q + r = mv → (∀ j, j < q → turnA k f1 f2 A j = false) → Wp (Kn g D MX8_turnMove post) (Tb b) 2 [some (rf g 71), some (.int (nI q)), l2, l3] [] I L := by
  have hA := h.2.2.1
  have ga := hg.1
  have gm := hg.2.2.2.2.2.2.2.1
  have hm := h.2.2.2.2.2.2.2.1
  intro r
  induction r with
  | zero =>
    intro q l2 l3 hq hn
    have eq : q = mv := by omega
    subst eq
    have hx' := lf_none hn
    rw [hx] at hx'
    refine wq_iload_n 3 1 dX8_turnMove_2 rfl rfl rfl ?_
    refine wq_bload_n 4 0 dX8_turnMove_3 rfl rfl rfl ?_
    refine wq_getI 7 fl_X8_224 dX8_turnMove_4 rfl rfl o_71 ?_
    refine wq_ic_ge 10 136 dX8_turnMove_7 rfl (by decide) (fun c7 => ?_) (fun c7 => absurd (by rw [hm]; exact nI_le (Nat.le_refl _) (by omega)) c7)
    refine wq_iconst 137 0 dX8_turnMove_136 rfl (by decide) ?_
    refine ri .boolean dX8_turnMove_137 rfl rfl ?_
    exact hp _ _ _ (Or.inr ⟨by omega, rfl, rfl, rfl⟩)
  | succ r ih =>
    intro q l2 l3 hq hn
    obtain ⟨z, z1, z2, F1, F2⟩ := h.2.2.2.2.2.2.2.2.1 q (by omega)
    obtain ⟨g1, g2⟩ := hg.2.2.2.2.2.2.2.2.1 q (by omega)
    have l1' := rt_lt ga g1
    have l2' := rt_lt ga g2
    have hO := h.2.2.2.2.1 q (by omega)
    have next : turnA k f1 f2 A q = false → ∀ j, j < q + 1 → turnA k f1 f2 A j = false := by
      intro z j hj
      by_cases e : j = q
      · rw [e]; exact z
      · exact hn j (by omega)
    have found : turnA k f1 f2 A q = true → x = q := fun z => by rw [← hx]; exact lf_found hn z (by omega)
    have J79 : metA f1 f2 A q = true → aO A q = true → ∀ l2 l3, Wp (Kn g D MX8_turnMove post) (Tb b) 79 [some (rf g 71), some (.int (nI q)), l2, l3] [] I L := by
      intro hmet ho l2 l3
      have ex := found (by rw [turnA, ho, hmet]; rfl)
      have hR := RMx_shutM (x := q) h
      refine wq_bload_n 80 0 dX8_turnMove_79 rfl rfl rfl ?_
      refine wq_getR 83 fl_X8_72 dX8_turnMove_80 rfl rfl o_71 (rfl : (Tb _).2.2.2 71 26 = some 91) ?_
      refine wq_iload_n 84 1 dX8_turnMove_83 rfl rfl rfl ?_
      refine wq_iconst 85 0 dX8_turnMove_84 rfl (by decide) ?_
      refine wq_zast 86 dX8_turnMove_85 rfl a_91 (Ix.nI (by omega) (by decide)) rfl ?_
      refine wq_bload_n 87 0 dX8_turnMove_86 rfl rfl rfl ?_
      refine wq_sipush 90 200 dX8_turnMove_87 rfl (by decide) ?_
      refine wq_iload_n 91 1 dX8_turnMove_90 rfl rfl rfl ?_
      refine wq_iadd 92 dX8_turnMove_91 rfl ?_
      refine cVp1 95 (sp_X8_note hR hQ (200 + q) (by exact nI_add 200 q)) ml_X8_239 mf_X8_note dX8_turnMove_92 rfl o_71 (by decide) rfl (Nat.le_of_ble_eq_true rfl) (by omega) ?_
      rintro _ _ I1 L1 ⟨rfl, rfl, rfl, hR1, i1, i2⟩
      refine wq_iconst 96 1 dX8_turnMove_95 rfl (by decide) ?_
      refine ri .boolean dX8_turnMove_96 rfl rfl ?_
      refine hp _ _ _ (Or.inl ⟨by omega, rfl, ?_, ?_⟩)
      · rw [ex, trnA, if_pos hmet]
        exact hR1
      · exact (FM_shut (fun z hz => va_up_ne _ _ hz)).trans (FM_note i1 i2)
    have J97 : metA f1 f2 A q = false → aO A q = true → Wp (Kn g D MX8_turnMove post) (Tb b) 97 [some (rf g 71), some (.int (nI q)), some (.int (nI (mA f1 A q))), some (.int (nI (mA f2 A q)))] [] I L := by
      intro hmet ho
      obtain ⟨k1, k2, k3, k4, k5, k6, k7⟩ := met_no hg (by omega) ho hmet
      obtain ⟨o1, o2⟩ := hg.2.2.2.2.2.2.2.2.2.1 q (by omega) ho
      have hR := RMx_shutM (x := q) h
      have hG := GA_shutM (x := q) hg
      have e4 : ¬ (mA f1 A q < 4 ∧ mA f2 A q < 4) := by omega
      refine wq_bload_n 98 0 dX8_turnMove_97 rfl rfl rfl ?_
      refine wq_iload_n 99 2 dX8_turnMove_98 rfl rfl rfl ?_
      refine wq_iload_n 100 3 dX8_turnMove_99 rfl rfl rfl ?_
      refine cVi2 103 (sp_X8_isSafe (by omega) hk h hg rfl rfl l1' l2' o1 o2 e4) ml_X8_246 mf_X8_isSafe dX8_turnMove_100 rfl o_71 (by decide) rfl (Nat.le_of_ble_eq_true rfl) (by omega) ?_
      refine wq_if_eq 106 130 dX8_turnMove_103 rfl (by decide) (fun c103 => ?_) (fun c103 => ?_)
      · skip
        refine wq_iinc 133 (_ + 1) [_, _, _, _] dX8_turnMove_130 rfl rfl (inc1 _) rfl (Nat.le_of_ble_eq_true rfl) rfl ?_
        refine wq_goto 2 dX8_turnMove_133 (by decide) ?_
        have es : safeM k f1 f2 A q = false := bI_eq.mp c103
        rw [← nI_succ]
        exact ih (q + 1) _ _ (by omega) (next (by rw [turnA, hmet, es]; simp))
      · skip
        refine wq_bload_n 107 0 dX8_turnMove_106 rfl rfl rfl ?_
        refine wq_getR 110 fl_X8_72 dX8_turnMove_107 rfl rfl o_71 (rfl : (Tb _).2.2.2 71 26 = some 91) ?_
        refine wq_iload_n 111 1 dX8_turnMove_110 rfl rfl rfl ?_
        refine wq_iconst 112 0 dX8_turnMove_111 rfl (by decide) ?_
        refine wq_zast 113 dX8_turnMove_112 rfl a_91 (Ix.nI (by omega) (by decide)) rfl ?_
        refine wq_bload_n 114 0 dX8_turnMove_113 rfl rfl rfl ?_
        refine wq_sipush 117 300 dX8_turnMove_114 rfl (by decide) ?_
        refine wq_iload_n 118 1 dX8_turnMove_117 rfl rfl rfl ?_
        refine wq_iadd 119 dX8_turnMove_118 rfl ?_
        refine cVp1 122 (sp_X8_note hR hQ (300 + q) (by exact nI_add 300 q)) ml_X8_239 mf_X8_note dX8_turnMove_119 rfl o_71 (by decide) rfl (Nat.le_of_ble_eq_true rfl) (by omega) ?_
        rintro _ _ I1 L1 ⟨rfl, rfl, rfl, hR1, i1, i2⟩
        refine wq_bload_n 123 0 dX8_turnMove_122 rfl rfl rfl ?_
        refine wq_iload_n 124 2 dX8_turnMove_123 rfl rfl rfl ?_
        refine wq_iload_n 125 3 dX8_turnMove_124 rfl rfl rfl ?_
        refine cVp2 128 (sp_X8_merge (by omega) hR1 (GA_note hG) _ _ rfl rfl rfl rfl k1 k2 k3 k4 k5 k6 k7) ml_X8_249 mf_X8_merge dX8_turnMove_125 rfl o_71 (by decide) rfl (Nat.le_of_ble_eq_true rfl) (by omega) ?_
        rintro _ _ I2 L2 ⟨rfl, rfl, hR2, fm⟩
        refine wq_iconst 129 1 dX8_turnMove_128 rfl (by decide) ?_
        refine ri .boolean dX8_turnMove_129 rfl rfl ?_
        have es : safeM k f1 f2 A q = true := bI_ne.mp c103
        have ex := found (by rw [turnA, ho, es]; simp)
        refine hp _ _ _ (Or.inl ⟨by omega, rfl, ?_, ?_⟩)
        · rw [ex, trnA, if_neg (by rw [hmet]; decide)]
          exact hR2
        · exact ((FM_shut (fun z hz => va_up_ne _ _ hz)).trans (FM_note i1 i2)).trans fm
    refine wq_iload_n 3 1 dX8_turnMove_2 rfl rfl rfl ?_
    refine wq_bload_n 4 0 dX8_turnMove_3 rfl rfl rfl ?_
    refine wq_getI 7 fl_X8_224 dX8_turnMove_4 rfl rfl o_71 ?_
    refine wq_ic_ge 10 136 dX8_turnMove_7 rfl (by decide) (fun c7 => absurd c7 (by rw [hm]; exact nI_ge (by omega) (by omega))) (fun c7 => ?_)
    refine wq_bload_n 11 0 dX8_turnMove_10 rfl rfl rfl ?_
    refine wq_getR 14 fl_X8_72 dX8_turnMove_11 rfl rfl o_71 (rfl : (Tb _).2.2.2 71 26 = some 91) ?_
    refine wq_iload_n 15 1 dX8_turnMove_14 rfl rfl rfl ?_
    refine wq_zald 16 dX8_turnMove_15 rfl a_91 (Ix.nI (by omega) (by decide)) ?_
    refine wq_if_eq 19 130 dX8_turnMove_16 rfl (by decide) (fun c16 => ?_) (fun c16 => ?_)
    · skip
      refine wq_iinc 133 (_ + 1) [_, _, _, _] dX8_turnMove_130 rfl rfl (inc1 _) rfl (Nat.le_of_ble_eq_true rfl) rfl ?_
      refine wq_goto 2 dX8_turnMove_133 (by decide) ?_
      have ho : aO A q = false := bI_eq.mp (by rw [← hO]; exact c16)
      rw [← nI_succ]
      exact ih (q + 1) _ _ (by omega) (next (by rw [turnA, ho]; rfl))
    · skip
      refine wq_bload_n 20 0 dX8_turnMove_19 rfl rfl rfl ?_
      refine wq_bload_n 21 0 dX8_turnMove_20 rfl rfl rfl ?_
      refine wq_getR 24 fl_X8_32 dX8_turnMove_21 rfl rfl o_71 (rfl : (Tb _).2.2.2 71 10 = some 78) ?_
      refine wq_bload_n 25 0 dX8_turnMove_24 rfl rfl rfl ?_
      refine wq_getR 28 fl_X8_69 dX8_turnMove_25 rfl rfl o_71 (rfl : (Tb _).2.2.2 71 25 = some 90) ?_
      refine wq_iload_n 29 1 dX8_turnMove_28 rfl rfl rfl ?_
      refine wq_iald 30 dX8_turnMove_29 rfl a_90 (Ix.nI (by omega) (by decide)) ?_
      refine wq_iald 31 dX8_turnMove_30 rfl a_78 (by rw [z2]; exact Ix.nI (by omega) (by decide)) ?_
      refine cVi1 34 (sp_X8_stands hA ga (f1 q) F1 g1) ml_X8_221 mf_X8_standsFor dX8_turnMove_31 rfl o_71 (by decide) rfl (Nat.le_of_ble_eq_true rfl) (by omega) ?_
      refine wq_istore_n 35 2 [_, _, _, _] dX8_turnMove_34 rfl rfl rfl (Nat.le_of_ble_eq_true rfl) rfl ?_
      refine wq_bload_n 36 0 dX8_turnMove_35 rfl rfl rfl ?_
      refine wq_bload_n 37 0 dX8_turnMove_36 rfl rfl rfl ?_
      refine wq_getR 40 fl_X8_35 dX8_turnMove_37 rfl rfl o_71 (rfl : (Tb _).2.2.2 71 11 = some 79) ?_
      refine wq_bload_n 41 0 dX8_turnMove_40 rfl rfl rfl ?_
      refine wq_getR 44 fl_X8_69 dX8_turnMove_41 rfl rfl o_71 (rfl : (Tb _).2.2.2 71 25 = some 90) ?_
      refine wq_iload_n 45 1 dX8_turnMove_44 rfl rfl rfl ?_
      refine wq_iald 46 dX8_turnMove_45 rfl a_90 (Ix.nI (by omega) (by decide)) ?_
      refine wq_iald 47 dX8_turnMove_46 rfl a_79 (by rw [z2]; exact Ix.nI (by omega) (by decide)) ?_
      refine cVi1 50 (sp_X8_stands hA ga (f2 q) F2 g2) ml_X8_221 mf_X8_standsFor dX8_turnMove_47 rfl o_71 (by decide) rfl (Nat.le_of_ble_eq_true rfl) (by omega) ?_
      refine wq_istore_n 51 3 [_, _, _, _] dX8_turnMove_50 rfl rfl rfl (Nat.le_of_ble_eq_true rfl) rfl ?_
      refine wq_iload_n 52 2 dX8_turnMove_51 rfl rfl rfl ?_
      refine wq_iload_n 53 3 dX8_turnMove_52 rfl rfl rfl ?_
      refine wq_ic_eq 56 79 dX8_turnMove_53 rfl (by decide) (fun c53 => ?_) (fun c53 => ?_)
      · skip
        have ho : aO A q = true := bI_ne.mp (by rw [← hO]; exact c16)
        have e := (nI_eq (by omega) (by omega)).mp c53
        exact J79 (by rw [metA, decide_eq_true (show mA f1 A q = mA f2 A q from e)]; rfl) ho _ _
      · skip
        refine wq_iload_n 57 2 dX8_turnMove_56 rfl rfl rfl ?_
        refine wq_iconst 58 4 dX8_turnMove_57 rfl (by decide) ?_
        refine wq_ic_ge 61 66 dX8_turnMove_58 rfl (by decide) (fun c58 => ?_) (fun c58 => ?_)
        · skip
          refine wq_bload_n 67 0 dX8_turnMove_66 rfl rfl rfl ?_
          refine wq_getR 70 fl_X8_60 dX8_turnMove_67 rfl rfl o_71 (rfl : (Tb _).2.2.2 71 21 = some 87) ?_
          refine wq_iload_n 71 2 dX8_turnMove_70 rfl rfl rfl ?_
          refine wq_lald 72 dX8_turnMove_71 rfl a_87 (Ix.nI (by omega) (by decide)) ?_
          refine wq_iload_n 73 3 dX8_turnMove_72 rfl rfl rfl ?_
          refine cSi2 76 (sp_X8_has _ _) ml_X8_109 mf_X8_has dX8_turnMove_73 rfl (Nat.le_of_ble_eq_true rfl) (by omega) ?_
          refine wq_if_eq 79 97 dX8_turnMove_76 rfl (by decide) (fun c76 => ?_) (fun c76 => ?_)
          · skip
            have ho : aO A q = true := bI_ne.mp (by rw [← hO]; exact c16)
            have o2 := (hg.2.2.2.2.2.2.2.2.2.1 q (by omega) ho).2
            have o1 := (hg.2.2.2.2.2.2.2.2.2.1 q (by omega) ho).1
            have e : tb (L 87 (mA f1 A q)) (mA f2 A q) = false := (hasM_eq0 _ l2').mp c76
            have e' : tb (aN A (mA f1 A q)) (mA f2 A q) = false := by
              rw [← h.1 (mA f1 A q) l1' o1, tb_and, e]; rfl
            exact J97 (by rw [metA, e', decide_eq_false (fun z => c53 (by rw [show rt (aA A) (f1 q) = rt (aA A) (f2 q) from z]))]; rfl) ho
          · skip
            have ho : aO A q = true := bI_ne.mp (by rw [← hO]; exact c16)
            have o2 := (hg.2.2.2.2.2.2.2.2.2.1 q (by omega) ho).2
            have o1 := (hg.2.2.2.2.2.2.2.2.2.1 q (by omega) ho).1
            have e : tb (L 87 (mA f1 A q)) (mA f2 A q) = true := (hasM_ne0 _ l2').mp c76
            have e' : tb (aN A (mA f1 A q)) (mA f2 A q) = true := by
              rw [← h.1 (mA f1 A q) l1' o1, tb_and, e]; exact o2
            exact J79 (by rw [metA, e', Bool.or_true]) ho _ _
        · skip
          refine wq_iload_n 62 3 dX8_turnMove_61 rfl rfl rfl ?_
          refine wq_iconst 63 4 dX8_turnMove_62 rfl (by decide) ?_
          refine wq_ic_lt 66 79 dX8_turnMove_63 rfl (by decide) (fun c63 => ?_) (fun c63 => ?_)
          · skip
            have ho : aO A q = true := bI_ne.mp (by rw [← hO]; exact c16)
            have ne : rt (aA A) (f1 q) ≠ rt (aA A) (f2 q) := fun z => c53 (by rw [z])
            have e1 : rt (aA A) (f1 q) < 4 := Decidable.byContradiction (fun z => c58 (nI_le (a := 4) (by omega) (by omega)))
            have e2 : rt (aA A) (f2 q) < 4 := (nI_ltI (b := 4) (by omega) (by decide)).mp c63
            have e' : tb (aN A (mA f1 A q)) (mA f2 A q) = true := hg.2.2.2.2.2.2.1 _ e1 _ e2 ne
            exact J79 (by rw [metA, e', Bool.or_true]) ho _ _
          · skip
            refine wq_bload_n 67 0 dX8_turnMove_66 rfl rfl rfl ?_
            refine wq_getR 70 fl_X8_60 dX8_turnMove_67 rfl rfl o_71 (rfl : (Tb _).2.2.2 71 21 = some 87) ?_
            refine wq_iload_n 71 2 dX8_turnMove_70 rfl rfl rfl ?_
            refine wq_lald 72 dX8_turnMove_71 rfl a_87 (Ix.nI (by omega) (by decide)) ?_
            refine wq_iload_n 73 3 dX8_turnMove_72 rfl rfl rfl ?_
            refine cSi2 76 (sp_X8_has _ _) ml_X8_109 mf_X8_has dX8_turnMove_73 rfl (Nat.le_of_ble_eq_true rfl) (by omega) ?_
            refine wq_if_eq 79 97 dX8_turnMove_76 rfl (by decide) (fun c76 => ?_) (fun c76 => ?_)
            · skip
              have ho : aO A q = true := bI_ne.mp (by rw [← hO]; exact c16)
              have o2 := (hg.2.2.2.2.2.2.2.2.2.1 q (by omega) ho).2
              have o1 := (hg.2.2.2.2.2.2.2.2.2.1 q (by omega) ho).1
              have e : tb (L 87 (mA f1 A q)) (mA f2 A q) = false := (hasM_eq0 _ l2').mp c76
              have e' : tb (aN A (mA f1 A q)) (mA f2 A q) = false := by
                rw [← h.1 (mA f1 A q) l1' o1, tb_and, e]; rfl
              exact J97 (by rw [metA, e', decide_eq_false (fun z => c53 (by rw [show rt (aA A) (f1 q) = rt (aA A) (f2 q) from z]))]; rfl) ho
            · skip
              have ho : aO A q = true := bI_ne.mp (by rw [← hO]; exact c16)
              have o2 := (hg.2.2.2.2.2.2.2.2.2.1 q (by omega) ho).2
              have o1 := (hg.2.2.2.2.2.2.2.2.2.1 q (by omega) ho).1
              have e : tb (L 87 (mA f1 A q)) (mA f2 A q) = true := (hasM_ne0 _ l2').mp c76
              have e' : tb (aN A (mA f1 A q)) (mA f2 A q) = true := by
                rw [← h.1 (mA f1 A q) l1' o1, tb_and, e]; exact o2
              exact J79 (by rw [metA, e', Bool.or_true]) ho _ _
set_option maxRecDepth 20000 in
theorem sp_X8_turn {g : Gl} {D : Nat} {b : Bool} {I : IM} {L : LM} {k w mv t : Nat} {f1 f2 : Nat → Nat} {tl : Bool} {A : RA} (hD : 5 ≤ D) (hk : k < 2 ^ 30) (h : RMx I L k w mv f1 f2 tl A) (hg : GA mv t f1 f2 A) (hQ : aQ A < 200) {x : Nat} (hx : lf (turnA k f1 f2 A) mv = x) : Me g D MX8_turnMove [rf g 71] b I L (fun r b' I' L' => b' = b ∧ ((x < mv ∧ r = some (.int 1) ∧ RMx I' L' k w mv f1 f2 tl (trnA f1 f2 A x) ∧ FM I L I' L') ∨ (¬ x < mv ∧ r = some (.int 0) ∧ I' = I ∧ L' = L))) := by
  refine Me.of [some (rf g 71), none, none, none] 3 rfl pf_X8_turnMove (Nat.le_of_ble_eq_true rfl) ?_
  refine wq_iconst 1 0 dX8_turnMove_0 rfl (by decide) ?_
  refine wq_istore_n 2 1 [_, _, _, _] dX8_turnMove_1 rfl rfl rfl (Nat.le_of_ble_eq_true rfl) rfl ?_
  exact lp_X8_turn hD hk h hg hQ hx (fun r I' L' z => ⟨rfl, z⟩) mv 0 _ _ (by omega) (fun j hj => by omega)
