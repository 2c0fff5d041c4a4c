theorem fpl_k (sg : Nat → Nat) (c r e : Nat) (k k' : Int32) : fpl sg c r e k 0 = fpl sg c r e k' 0 := by
  cases r with
  | zero => rfl
  | succ r => rw [fpl, fpl, if_pos rfl, if_pos rfl]
set_option maxRecDepth 20000 in
set_option maxHeartbeats 1000000 in
/-- the inner loop: the parts of an instruction; then it goes on behind it -/
theorem li_X8_faultOf {g : Gl} {D : Nat} {b : Bool} {I : IM} {L : LM} {c : Nat} {sg : Nat → Nat} {post : Option Value → Bool → IM → LM → Prop} (hD : 2 ≤ D) (h : PdM I c sg) {e m : Nat} (hm : m < 7)
    (go : ∀ k4 w, e + w ≤ c → 1 ≤ w → post (some (.int (fpl sg c (c - (e + w)) (e + w) (nI m) 0))) b I L → Wp (Kn g D MX8_faultOf post) (Tb b) 2 [some (rf g 71), some (.int (nI (e + w))), some (.int (nI m)), some (.int (nI w)), k4] [] I L) :
    ∀ r w k4, w + r = lnN (nI m) + 1 → 1 ≤ w → e + w ≤ c → post (some (.int (fpl sg c (c - (e + w)) (e + w) (nI m) (if w ≤ lnN (nI m) then w else 0)))) b I L → Wp (Kn g D MX8_faultOf post) (Tb b) 28 [some (rf g 71), some (.int (nI e)), some (.int (nI m)), some (.int (nI w)), k4] [] I L := by
  obtain ⟨h1, h2, h3, h4⟩ := h
  have hl := lnN_le (nI m)
  have hk := (kd_a m hm).1
  intro r
  induction r with
  | zero =>
    intro w k4 hw w1 hec hp
    rw [if_neg (by omega)] at hp
    have hw : lnN (nI m) + 1 = w := by omega
    refine wq_iload_n 29 3 dX8_faultOf_28 rfl rfl rfl ?_
    refine wq_iload_n 30 2 dX8_faultOf_29 rfl rfl rfl ?_
    refine cSi1 33 (sp_X8_length _) ml_X8_127 mf_X8_length dX8_faultOf_30 rfl (Nat.le_of_ble_eq_true rfl) (by omega) ?_
    refine wq_ic_gt 36 113 dX8_faultOf_33 rfl (by decide) (fun c33 => ?_) (fun c33 => absurd (by rw [hk]; exact nI_lt (by omega) (by omega)) c33)
    refine wq_iload_n 114 1 dX8_faultOf_113 rfl rfl rfl ?_
    refine wq_iconst 115 1 dX8_faultOf_114 rfl (by decide) ?_
    refine wq_iload_n 116 2 dX8_faultOf_115 rfl rfl rfl ?_
    refine cSi1 119 (sp_X8_length _) ml_X8_127 mf_X8_length dX8_faultOf_116 rfl (Nat.le_of_ble_eq_true rfl) (by omega) ?_
    rw [hk]
    refine wq_iadd 120 dX8_faultOf_119 rfl ?_
    rw [show (1 : Int32) = nI 1 from rfl, nI_add]
    refine wq_iadd 121 dX8_faultOf_120 rfl ?_
    rw [nI_add, Nat.add_comm 1, hw]
    refine wq_istore_n 122 1 [_, _, _, _, _] dX8_faultOf_121 rfl rfl rfl (Nat.le_of_ble_eq_true rfl) rfl ?_
    refine wq_goto 2 dX8_faultOf_122 (by decide) ?_
    exact go k4 w hec w1 hp
  | succ r ih =>
    intro w k4 hw w1 hec hp
    rw [if_pos (show w ≤ lnN (nI m) by omega)] at hp
    have hwl : w ≤ lnN (nI m) := by omega
    have hwe := well_eq hm hwl w1 (nI (sg (e + w)))
    refine wq_iload_n 29 3 dX8_faultOf_28 rfl rfl rfl ?_
    refine wq_iload_n 30 2 dX8_faultOf_29 rfl rfl rfl ?_
    refine cSi1 33 (sp_X8_length _) ml_X8_127 mf_X8_length dX8_faultOf_30 rfl (Nat.le_of_ble_eq_true rfl) (by omega) ?_
    refine wq_ic_gt 36 113 dX8_faultOf_33 rfl (by decide) (fun c33 => absurd c33 (by rw [hk]; exact nI_nlt (by omega) (by omega))) (fun c33 => ?_)
    refine wq_iload_n 37 1 dX8_faultOf_36 rfl rfl rfl ?_
    refine wq_iload_n 38 3 dX8_faultOf_37 rfl rfl rfl ?_
    refine wq_iadd 39 dX8_faultOf_38 rfl ?_
    rw [nI_add]
    refine wq_bload_n 40 0 dX8_faultOf_39 rfl rfl rfl ?_
    refine wq_getI 43 fl_X8_120 dX8_faultOf_40 rfl rfl o_71 ?_
    refine wq_ic_lt 46 51 dX8_faultOf_43 rfl (by decide) (fun c43 => ?_) (fun c43 => ?_)
    · skip
      have hlt : e + w < c := by
        rw [h2] at c43
        exact (nI_ltI (by omega) (by omega)).mp c43
      refine wq_iload_n 52 2 dX8_faultOf_51 rfl rfl rfl ?_
      refine wq_iload_n 53 3 dX8_faultOf_52 rfl rfl rfl ?_
      refine cSi2 56 (sp_X8_wantsFigure _ _) ml_X8_130 mf_X8_wantsFigure dX8_faultOf_53 rfl (Nat.le_of_ble_eq_true rfl) (by omega) ?_
      refine wq_if_eq 59 77 dX8_faultOf_56 rfl (by decide) (fun c56 => ?_) (fun c56 => ?_)
      · skip
        refine wq_bload_n 78 0 dX8_faultOf_77 rfl rfl rfl ?_
        refine wq_getR 81 fl_X8_26 dX8_faultOf_78 rfl rfl o_71 (rfl : (Tb _).2.2.2 71 8 = some 76) ?_
        refine wq_iload_n 82 1 dX8_faultOf_81 rfl rfl rfl ?_
        refine wq_iload_n 83 3 dX8_faultOf_82 rfl rfl rfl ?_
        refine wq_iadd 84 dX8_faultOf_83 rfl ?_
        rw [nI_add]
        refine wq_iald 85 dX8_faultOf_84 rfl a_76 (Ix.nI (by omega) (by decide)) ?_
        rw [h3 (e + w) hlt]
        refine cSi1 88 (sp_X8_nameOf (by omega) _) ml_X8_134 mf_X8_nameOf dX8_faultOf_85 rfl (Nat.le_of_ble_eq_true rfl) (by omega) ?_
        refine wq_if_lt 91 95 dX8_faultOf_88 rfl (by decide) (fun c88 => ?_) (fun c88 => ?_)
        · skip
          refine wq_iconst 96 0 dX8_faultOf_95 rfl (by decide) ?_
          refine wq_istore 98 [_, _, _, _, _] dX8_faultOf_96 rfl rfl (Nat.le_of_ble_eq_true rfl) rfl ?_
          refine wq_iload 100 dX8_faultOf_98 rfl rfl ?_
          refine wq_if_ne 103 107 dX8_faultOf_100 rfl (by decide) (fun c100 => ?_) (fun c100 => ?_)
          · skip
            refine wq_iinc 110 (nI (w + 1)) [_, _, _, _, _] dX8_faultOf_107 rfl rfl (nI_1 w) rfl (Nat.le_of_ble_eq_true rfl) rfl ?_
            refine wq_goto 28 dX8_faultOf_110 (by decide) ?_
            rw [show c - (e + w) = (c - (e + w) - 1) + 1 by omega, fpl, if_neg (show ¬ w = 0 by omega), if_neg ?_] at hp
            · refine ih (w + 1) _ (by omega) (by omega) (by omega) ?_
              have e1 : (if w + 1 ≤ lnN (nI m) then w + 1 else 0) = (if shp (nI m) (nI (w + 1)) = 45 then 0 else w + 1) := by
                have hb := kd_b' hm (w := w + 1) (by omega) (by omega)
                by_cases hx : shp (nI m) (nI (w + 1)) = 45
                · rw [if_pos hx, if_neg (fun z => hb.mp z hx)]
                · rw [if_neg hx, if_pos (hb.mpr hx)]
              rw [e1, show c - (e + (w + 1)) = c - (e + w) - 1 by omega, show e + (w + 1) = e + w + 1 by omega]
              exact hp
            · exact absurd rfl c100
          · skip
            refine wq_iload_n 104 1 dX8_faultOf_103 rfl rfl rfl ?_
            refine wq_iload_n 105 3 dX8_faultOf_104 rfl rfl rfl ?_
            refine wq_iadd 106 dX8_faultOf_105 rfl ?_
            rw [nI_add]
            refine ri .int dX8_faultOf_106 rfl rfl ?_
            rw [show c - (e + w) = (c - (e + w) - 1) + 1 by omega, fpl, if_neg (show ¬ w = 0 by omega), if_pos ?_] at hp
            · exact hp
            · rw [hwe.1 c56]; exact c88
        · skip
          refine wq_iconst 92 1 dX8_faultOf_91 rfl (by decide) ?_
          refine wq_goto 96 dX8_faultOf_92 (by decide) ?_
          refine wq_istore 98 [_, _, _, _, _] dX8_faultOf_96 rfl rfl (Nat.le_of_ble_eq_true rfl) rfl ?_
          refine wq_iload 100 dX8_faultOf_98 rfl rfl ?_
          refine wq_if_ne 103 107 dX8_faultOf_100 rfl (by decide) (fun c100 => ?_) (fun c100 => ?_)
          · skip
            refine wq_iinc 110 (nI (w + 1)) [_, _, _, _, _] dX8_faultOf_107 rfl rfl (nI_1 w) rfl (Nat.le_of_ble_eq_true rfl) rfl ?_
            refine wq_goto 28 dX8_faultOf_110 (by decide) ?_
            rw [show c - (e + w) = (c - (e + w) - 1) + 1 by omega, fpl, if_neg (show ¬ w = 0 by omega), if_neg ?_] at hp
            · refine ih (w + 1) _ (by omega) (by omega) (by omega) ?_
              have e1 : (if w + 1 ≤ lnN (nI m) then w + 1 else 0) = (if shp (nI m) (nI (w + 1)) = 45 then 0 else w + 1) := by
                have hb := kd_b' hm (w := w + 1) (by omega) (by omega)
                by_cases hx : shp (nI m) (nI (w + 1)) = 45
                · rw [if_pos hx, if_neg (fun z => hb.mp z hx)]
                · rw [if_neg hx, if_pos (hb.mpr hx)]
              rw [e1, show c - (e + (w + 1)) = c - (e + w) - 1 by omega, show e + (w + 1) = e + w + 1 by omega]
              exact hp
            · rw [hwe.1 c56]; exact c88
          · skip
            refine wq_iload_n 104 1 dX8_faultOf_103 rfl rfl rfl ?_
            refine wq_iload_n 105 3 dX8_faultOf_104 rfl rfl rfl ?_
            refine wq_iadd 106 dX8_faultOf_105 rfl ?_
            rw [nI_add]
            refine ri .int dX8_faultOf_106 rfl rfl ?_
            rw [show c - (e + w) = (c - (e + w) - 1) + 1 by omega, fpl, if_neg (show ¬ w = 0 by omega), if_pos ?_] at hp
            · exact hp
            · exact absurd c100 (by decide)
      · skip
        refine wq_bload_n 60 0 dX8_faultOf_59 rfl rfl rfl ?_
        refine wq_getR 63 fl_X8_26 dX8_faultOf_60 rfl rfl o_71 (rfl : (Tb _).2.2.2 71 8 = some 76) ?_
        refine wq_iload_n 64 1 dX8_faultOf_63 rfl rfl rfl ?_
        refine wq_iload_n 65 3 dX8_faultOf_64 rfl rfl rfl ?_
        refine wq_iadd 66 dX8_faultOf_65 rfl ?_
        rw [nI_add]
        refine wq_iald 67 dX8_faultOf_66 rfl a_76 (Ix.nI (by omega) (by decide)) ?_
        rw [h3 (e + w) hlt]
        refine wq_bipush 69 48 dX8_faultOf_67 rfl (by decide) ?_
        refine wq_bipush 71 57 dX8_faultOf_69 rfl (by decide) ?_
        refine cSi3 74 (sp_X8_in _ _ _) ml_X8_113 mf_X8_in dX8_faultOf_71 rfl (Nat.le_of_ble_eq_true rfl) (by omega) ?_
        refine wq_goto 96 dX8_faultOf_74 (by decide) ?_
        refine wq_istore 98 [_, _, _, _, _] dX8_faultOf_96 rfl rfl (Nat.le_of_ble_eq_true rfl) rfl ?_
        refine wq_iload 100 dX8_faultOf_98 rfl rfl ?_
        refine wq_if_ne 103 107 dX8_faultOf_100 rfl (by decide) (fun c100 => ?_) (fun c100 => ?_)
        · skip
          refine wq_iinc 110 (nI (w + 1)) [_, _, _, _, _] dX8_faultOf_107 rfl rfl (nI_1 w) rfl (Nat.le_of_ble_eq_true rfl) rfl ?_
          refine wq_goto 28 dX8_faultOf_110 (by decide) ?_
          rw [show c - (e + w) = (c - (e + w) - 1) + 1 by omega, fpl, if_neg (show ¬ w = 0 by omega), if_neg ?_] at hp
          · refine ih (w + 1) _ (by omega) (by omega) (by omega) ?_
            have e1 : (if w + 1 ≤ lnN (nI m) then w + 1 else 0) = (if shp (nI m) (nI (w + 1)) = 45 then 0 else w + 1) := by
              have hb := kd_b' hm (w := w + 1) (by omega) (by omega)
              by_cases hx : shp (nI m) (nI (w + 1)) = 45
              · rw [if_pos hx, if_neg (fun z => hb.mp z hx)]
              · rw [if_neg hx, if_pos (hb.mpr hx)]
            rw [e1, show c - (e + (w + 1)) = c - (e + w) - 1 by omega, show e + (w + 1) = e + w + 1 by omega]
            exact hp
          · exact fun z => c100 ((hwe.2 c56).mp z)
        · skip
          refine wq_iload_n 104 1 dX8_faultOf_103 rfl rfl rfl ?_
          refine wq_iload_n 105 3 dX8_faultOf_104 rfl rfl rfl ?_
          refine wq_iadd 106 dX8_faultOf_105 rfl ?_
          rw [nI_add]
          refine ri .int dX8_faultOf_106 rfl rfl ?_
          rw [show c - (e + w) = (c - (e + w) - 1) + 1 by omega, fpl, if_neg (show ¬ w = 0 by omega), if_pos ?_] at hp
          · exact hp
          · exact (hwe.2 c56).mpr c100
    · skip
      refine wq_bload_n 47 0 dX8_faultOf_46 rfl rfl rfl ?_
      refine wq_getI 50 fl_X8_120 dX8_faultOf_47 rfl rfl o_71 ?_
      refine ri .int dX8_faultOf_50 rfl rfl ?_
      have hx : c = e + w := by
        have hn : ¬ e + w < c := fun z => c43 (by rw [h2]; exact nI_lt z (by omega))
        omega
      rw [h2]
      rw [show c - (e + w) = 0 by omega, fpl, if_neg (by omega)] at hp
      exact hp
set_option maxRecDepth 20000 in
set_option maxHeartbeats 1000000 in
theorem lo_X8_faultOf {g : Gl} {D : Nat} {b : Bool} {I : IM} {L : LM} {c : Nat} {sg : Nat → Nat} {post : Option Value → Bool → IM → LM → Prop} (hD : 2 ≤ D) (h : PdM I c sg) : ∀ N e k k2 k3 k4, c - e ≤ N → e ≤ c → post (some (.int (fpl sg c (c - e) e k 0))) b I L → Wp (Kn g D MX8_faultOf post) (Tb b) 2 [some (rf g 71), some (.int (nI e)), k2, k3, k4] [] I L := by
  obtain ⟨h1, h2, h3, h4⟩ := id h
  intro N
  induction N with
  | zero =>
    intro e k k2 k3 k4 hN hec hp
    have he : e = c := by omega
    subst he
    rw [Nat.sub_self, fpl, if_pos rfl] at hp
    refine wq_iload_n 3 1 dX8_faultOf_2 rfl rfl rfl ?_
    refine wq_bload_n 4 0 dX8_faultOf_3 rfl rfl rfl ?_
    refine wq_getI 7 fl_X8_120 dX8_faultOf_4 rfl rfl o_71 ?_
    refine wq_ic_ge 10 125 dX8_faultOf_7 rfl (by decide) (fun c7 => ?_) (fun c7 => absurd (by rw [h2]; exact nI_le (Nat.le_refl _) (by omega)) c7)
    refine wq_bipush 127 (-6) dX8_faultOf_125 rfl (by decide) ?_
    refine ri .int dX8_faultOf_127 rfl rfl ?_
    exact hp
  | succ N ih =>
    intro e k k2 k3 k4 hN hec hp
    by_cases hx : e = c
    · subst hx
      rw [Nat.sub_self, fpl, if_pos rfl] at hp
      refine wq_iload_n 3 1 dX8_faultOf_2 rfl rfl rfl ?_
      refine wq_bload_n 4 0 dX8_faultOf_3 rfl rfl rfl ?_
      refine wq_getI 7 fl_X8_120 dX8_faultOf_4 rfl rfl o_71 ?_
      refine wq_ic_ge 10 125 dX8_faultOf_7 rfl (by decide) (fun c7 => ?_) (fun c7 => absurd (by rw [h2]; exact nI_le (Nat.le_refl _) (by omega)) c7)
      refine wq_bipush 127 (-6) dX8_faultOf_125 rfl (by decide) ?_
      refine ri .int dX8_faultOf_127 rfl rfl ?_
      exact hp
    · have hs := h4 e (by omega)
      rw [show c - e = (c - e - 1) + 1 by omega, fpl, if_pos rfl] at hp
      refine wq_iload_n 3 1 dX8_faultOf_2 rfl rfl rfl ?_
      refine wq_bload_n 4 0 dX8_faultOf_3 rfl rfl rfl ?_
      refine wq_getI 7 fl_X8_120 dX8_faultOf_4 rfl rfl o_71 ?_
      refine wq_ic_ge 10 125 dX8_faultOf_7 rfl (by decide) (fun c7 => absurd c7 (by rw [h2]; exact nI_ge (by omega) (by omega))) (fun c7 => ?_)
      refine wq_bload_n 11 0 dX8_faultOf_10 rfl rfl rfl ?_
      refine wq_getR 14 fl_X8_26 dX8_faultOf_11 rfl rfl o_71 (rfl : (Tb _).2.2.2 71 8 = some 76) ?_
      refine wq_iload_n 15 1 dX8_faultOf_14 rfl rfl rfl ?_
      refine wq_iald 16 dX8_faultOf_15 rfl a_76 (Ix.nI (by omega) (by decide)) ?_
      rw [h3 e (by omega)]
      refine cSi1 19 (sp_X8_kindOf (by omega)) ml_X8_123 mf_X8_kindOf dX8_faultOf_16 rfl (Nat.le_of_ble_eq_true rfl) (by omega) ?_
      refine wq_istore_n 20 2 [_, _, _, _, _] dX8_faultOf_19 rfl rfl rfl (Nat.le_of_ble_eq_true rfl) rfl ?_
      refine wq_iload_n 21 2 dX8_faultOf_20 rfl rfl rfl ?_
      refine wq_if_ge 24 26 dX8_faultOf_21 rfl (by decide) (fun c21 => ?_) (fun c21 => ?_)
      · skip
        have hk0 : ¬ kopn (sg e) < 0 := fun z => (Int32.not_lt.mpr c21) (kopM_neg.mpr z)
        obtain ⟨m, hm, em⟩ := (kop_cases (sg e) (by omega)).resolve_left hk0
        rw [if_neg hk0, em] at hp
        rw [kopM_of hk0, em]
        refine wq_iconst 27 1 dX8_faultOf_26 rfl (by decide) ?_
        refine wq_istore_n 28 3 [_, _, _, _, _] dX8_faultOf_27 rfl rfl rfl (Nat.le_of_ble_eq_true rfl) rfl ?_
        refine li_X8_faultOf hD h hm (fun k4 w hw hw1 hp => ?_) (lnN (nI m)) 1 k4 (by omega) (by omega) (by omega) ?_
        · exact ih (e + w) (nI m) _ _ _ (by omega) hw hp
        · have hln := (kd_a m hm).2
          have hb := kd_b' hm (w := 1) (by omega) (by omega)
          rw [if_neg (hb.mp hln)] at hp
          rw [if_pos hln, show c - (e + 1) = c - e - 1 by omega]
          exact hp
      · skip
        refine wq_iload_n 25 1 dX8_faultOf_24 rfl rfl rfl ?_
        refine ri .int dX8_faultOf_25 rfl rfl ?_
        rw [if_pos (kopM_neg.mp (Int32.not_le.mp c21))] at hp
        exact hp
set_option maxRecDepth 20000 in
theorem sp_X8_faultOf {g : Gl} {D : Nat} {b : Bool} {I : IM} {L : LM} {c : Nat} {sg : Nat → Nat} (hD : 2 ≤ D) (h : PdM I c sg) : Md g D MX8_faultOf [rf g 71] b I L (some (.int (fltX sg c))) b I L := by
  refine Me.of [some (rf g 71), none, none, none, none] 4 rfl pf_X8_faultOf (Nat.le_of_ble_eq_true rfl) ?_
  refine wq_iconst 1 0 dX8_faultOf_0 rfl (by decide) ?_
  refine wq_istore_n 2 1 [_, _, _, _, _] dX8_faultOf_1 rfl rfl rfl (Nat.le_of_ble_eq_true rfl) rfl ?_
  exact lo_X8_faultOf hD h c 0 (-6) _ _ _ (by omega) (by omega) ⟨rfl, rfl, rfl, rfl⟩
