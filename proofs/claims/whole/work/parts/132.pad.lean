/-! THE PAD of the class -/
def PdX (I : IM) (c : Nat) (sg : Nat → Nat) : Prop := c ≤ 60 ∧ I 1 1 = nI c ∧ (∀ j, j < c → I 2 j = nI (sg j)) ∧ ∀ j, j < c → 33 ≤ sg j ∧ sg j ≤ 126
set_option maxRecDepth 20000 in
theorem sp_X4_add {g : Gl} {D : Nat} {b : Bool} {I : IM} {L : LM} {c : Nat} (h : I 1 1 = nI c) (hc : c < 60) (s : Int32) : Md g D MX4_add [rf g 1, .int s] b I L (some (.int 1)) b (va_up (va_up I 2 (va_up (I 2) c s)) 1 (va_up (I 1) 1 (nI (c + 1)))) L := by
  refine Me.of [some (rf g 1), some (.int s)] 0 rfl pf_X4_add (Nat.le_of_ble_eq_true rfl) ?_
  refine wq_bload_n 1 0 dX4_add_0 rfl rfl rfl ?_
  refine wq_getI 4 fl_X4_15 dX4_add_1 rfl rfl o_1 ?_
  refine wq_if_lt 7 16 dX4_add_4 rfl (by decide) (fun c4 => absurd c4 (by rw [h]; exact nI_pos (by omega))) (fun c4 => ?_)
  refine wq_bload_n 8 0 dX4_add_7 rfl rfl rfl ?_
  refine wq_getI 11 fl_X4_15 dX4_add_8 rfl rfl o_1 ?_
  refine wq_bipush 13 60 dX4_add_11 rfl (by decide) ?_
  refine wq_ic_lt 16 18 dX4_add_13 rfl (by decide) (fun c13 => ?_) (fun c13 => absurd (by rw [h]; exact nI_lt (b := 60) (by omega) (by decide)) c13)
  refine wq_bload_n 19 0 dX4_add_18 rfl rfl rfl ?_
  refine wq_getR 22 fl_X4_9 dX4_add_19 rfl rfl o_1 (rfl : (Tb _).2.2.2 1 0 = some 2) ?_
  refine wq_bload_n 23 0 dX4_add_22 rfl rfl rfl ?_
  refine wq_getI 26 fl_X4_15 dX4_add_23 rfl rfl o_1 ?_
  rw [h]
  refine wq_iload_n 27 1 dX4_add_26 rfl rfl rfl ?_
  refine wq_iast 28 dX4_add_27 rfl a_2 (Ix.nI hc (by decide)) ?_
  refine wq_bload_n 29 0 dX4_add_28 rfl rfl rfl ?_
  refine wq_dup 30 dX4_add_29 rfl rfl ?_
  refine wq_getI 33 fl_X4_15 dX4_add_30 rfl rfl o_1 ?_
  refine wq_iconst 34 1 dX4_add_33 rfl (by decide) ?_
  refine wq_iadd 35 dX4_add_34 rfl ?_
  refine wq_putI 38 fl_X4_15 dX4_add_35 rfl rfl rfl rfl rfl o_1 ?_
  refine wq_iconst 39 1 dX4_add_38 rfl (by decide) ?_
  refine ri .boolean dX4_add_39 rfl rfl ?_
  exact ⟨rfl, rfl, by rw [va_up_ne I _ (show (1 : Nat) ≠ 2 by decide), h, nI_1], rfl⟩
set_option maxRecDepth 20000 in
theorem sp_X4_addF {g : Gl} {D : Nat} {b : Bool} {I : IM} {L : LM} (h : I 1 1 = nI 60) (s : Int32) : Md g D MX4_add [rf g 1, .int s] b I L (some (.int 0)) b I L := by
  refine Me.of [some (rf g 1), some (.int s)] 0 rfl pf_X4_add (Nat.le_of_ble_eq_true rfl) ?_
  refine wq_bload_n 1 0 dX4_add_0 rfl rfl rfl ?_
  refine wq_getI 4 fl_X4_15 dX4_add_1 rfl rfl o_1 ?_
  refine wq_if_lt 7 16 dX4_add_4 rfl (by decide) (fun c4 => absurd c4 (by rw [h]; exact nI_pos (by omega))) (fun c4 => ?_)
  refine wq_bload_n 8 0 dX4_add_7 rfl rfl rfl ?_
  refine wq_getI 11 fl_X4_15 dX4_add_8 rfl rfl o_1 ?_
  refine wq_bipush 13 60 dX4_add_11 rfl (by decide) ?_
  refine wq_ic_lt 16 18 dX4_add_13 rfl (by decide) (fun c13 => absurd c13 (by rw [h]; decide)) (fun c13 => ?_)
  refine wq_iconst 17 0 dX4_add_16 rfl (by decide) ?_
  refine ri .boolean dX4_add_17 rfl rfl ?_
  exact ⟨rfl, rfl, rfl, rfl⟩
/-- THE FAULT, sign by sign: r signs are left, e is the place, k the kind that was opened, w which part must come (0: an opening) -/
def fpl (sg : Nat → Nat) (c : Nat) : Nat → Nat → Int32 → Nat → Int32
  | 0, _, _, w => if w = 0 then -6 else nI c
  | r + 1, e, k, w =>
    if w = 0 then (if kopn (sg e) < 0 then nI e else fpl sg c r (e + 1) (kopn (sg e)) (if shp (kopn (sg e)) (nI 1) = 45 then 0 else 1))
    else if mng (nI (sg e)) (shp k (nI w)) < 0 then nI e
    else fpl sg c r (e + 1) k (if shp k (nI (w + 1)) = 45 then 0 else w + 1)
theorem shp_big {k : Int32} {w : Nat} (h : 3 < w) (hw : w < 2 ^ 31) : shp k (nI w) = 45 := by
  rw [shp, if_pos]
  exact Or.inr (Or.inr (Or.inr (nI_lt (a := 3) h hw)))
set_option maxRecDepth 20000 in
set_option maxHeartbeats 1000000 in
theorem lp_X4_faultPlace {g : Gl} {D : Nat} {b : Bool} {I : IM} {L : LM} {c : Nat} {sg : Nat → Nat} {post : Option Value → Bool → IM → LM → Prop} (hD : 5 ≤ D) (h : PdX I c sg) : ∀ r e k w, e + r = c → w ≤ 3 → post (some (.int (fpl sg c r e k w))) b I L → Wp (Kn g D MX4_faultPlace post) (Tb b) 7 [some (rf g 1), some (.int k), some (.int (nI w)), some (.int (nI e))] [] I L := by
  obtain ⟨h1, h2, h3, h4⟩ := h
  intro r
  induction r with
  | zero =>
    intro e k w he hw hp
    have he : e = c := by omega
    subst he
    rw [fpl] at hp
    refine wq_iload_n 8 3 dX4_faultPlace_7 rfl rfl rfl ?_
    refine wq_bload_n 9 0 dX4_faultPlace_8 rfl rfl rfl ?_
    refine wq_getI 12 fl_X4_15 dX4_faultPlace_9 rfl rfl o_1 ?_
    refine wq_ic_ge 15 81 dX4_faultPlace_12 rfl (by decide) (fun c12 => ?_) (fun c12 => absurd (by rw [h2]; exact nI_le (Nat.le_refl _) (by omega)) c12)
    refine wq_iload_n 82 2 dX4_faultPlace_81 rfl rfl rfl ?_
    refine wq_if_ne 85 90 dX4_faultPlace_82 rfl (by decide) (fun c82 => ?_) (fun c82 => ?_)
    · skip
      refine wq_bload_n 91 0 dX4_faultPlace_90 rfl rfl rfl ?_
      refine wq_getI 94 fl_X4_15 dX4_faultPlace_91 rfl rfl o_1 ?_
      refine ri .int dX4_faultPlace_94 rfl rfl ?_
      rw [if_neg (fun e0 => c82 (by rw [e0]; rfl))] at hp
      rw [h2]
      exact hp
    · skip
      refine wq_bipush 87 (-6) dX4_faultPlace_85 rfl (by decide) ?_
      refine wq_goto 94 dX4_faultPlace_87 (by decide) ?_
      refine ri .int dX4_faultPlace_94 rfl rfl ?_
      rw [if_pos ((nI_eq (a := w) (b := 0) (by omega) (by decide)).mp c82)] at hp
      exact hp
  | succ r ih =>
    intro e k w he hw hp
    have hs := h4 e (by omega)
    rw [fpl] at hp
    refine wq_iload_n 8 3 dX4_faultPlace_7 rfl rfl rfl ?_
    refine wq_bload_n 9 0 dX4_faultPlace_8 rfl rfl rfl ?_
    refine wq_getI 12 fl_X4_15 dX4_faultPlace_9 rfl rfl o_1 ?_
    refine wq_ic_ge 15 81 dX4_faultPlace_12 rfl (by decide) (fun c12 => absurd c12 (by rw [h2]; exact nI_ge (by omega) (by omega))) (fun c12 => ?_)
    refine wq_iload_n 16 3 dX4_faultPlace_15 rfl rfl rfl ?_
    refine wq_bipush 18 60 dX4_faultPlace_16 rfl (by decide) ?_
    refine wq_ic_ge 21 81 dX4_faultPlace_18 rfl (by decide) (fun c18 => absurd c18 (nI_ge (b := 60) (by omega) (by decide))) (fun c18 => ?_)
    refine wq_iload_n 22 2 dX4_faultPlace_21 rfl rfl rfl ?_
    refine wq_if_ne 25 41 dX4_faultPlace_22 rfl (by decide) (fun c22 => ?_) (fun c22 => ?_)
    · skip
      have w0 : ¬ w = 0 := fun e0 => c22 (by rw [e0]; rfl)
      rw [if_neg w0] at hp
      refine wq_bload_n 42 0 dX4_faultPlace_41 rfl rfl rfl ?_
      refine wq_getR 45 fl_X4_9 dX4_faultPlace_42 rfl rfl o_1 (rfl : (Tb _).2.2.2 1 0 = some 2) ?_
      refine wq_iload_n 46 3 dX4_faultPlace_45 rfl rfl rfl ?_
      refine wq_iald 47 dX4_faultPlace_46 rfl a_2 (Ix.nI (by omega) (by decide)) ?_
      rw [h3 e (by omega)]
      refine wq_iload_n 48 1 dX4_faultPlace_47 rfl rfl rfl ?_
      refine wq_iload_n 49 2 dX4_faultPlace_48 rfl rfl rfl ?_
      refine cSi2 52 (sp_X7_shapeOf (by omega) _ _) ml_X4_23 mf_X7_shapeOf dX4_faultPlace_49 rfl (Nat.le_of_ble_eq_true rfl) (by omega) ?_
      refine cSi2 55 (sp_X4_meaningOf _ _) ml_X4_27 mf_X4_meaningOf dX4_faultPlace_52 rfl (Nat.le_of_ble_eq_true rfl) (by omega) ?_
      refine wq_if_ge 58 60 dX4_faultPlace_55 rfl (by decide) (fun c55 => ?_) (fun c55 => ?_)
      · skip
        refine wq_iinc 63 (nI (w + 1)) [_, _, _, _] dX4_faultPlace_60 rfl rfl (nI_1 w) rfl (Nat.le_of_ble_eq_true rfl) rfl ?_
        refine wq_iload_n 64 1 dX4_faultPlace_63 rfl rfl rfl ?_
        refine wq_iload_n 65 2 dX4_faultPlace_64 rfl rfl rfl ?_
        refine cSi2 68 (sp_X7_shapeOf (by omega) _ _) ml_X4_23 mf_X7_shapeOf dX4_faultPlace_65 rfl (Nat.le_of_ble_eq_true rfl) (by omega) ?_
        refine wq_bipush 70 45 dX4_faultPlace_68 rfl (by decide) ?_
        refine wq_ic_ne 73 75 dX4_faultPlace_70 rfl (by decide) (fun c70 => ?_) (fun c70 => ?_)
        · skip
          refine wq_iinc 78 (nI (e + 1)) [_, _, _, _] dX4_faultPlace_75 rfl rfl (nI_1 e) rfl (Nat.le_of_ble_eq_true rfl) rfl ?_
          refine wq_goto 7 dX4_faultPlace_78 (by decide) ?_
          rw [if_neg (Int32.not_lt.mpr c55)] at hp
          rw [if_neg c70] at hp
          exact ih (e + 1) k (w + 1) (by omega) (by apply Classical.byContradiction; intro hx; exact c70 (shp_big (by omega) (by omega))) hp
        · skip
          refine wq_iconst 74 0 dX4_faultPlace_73 rfl (by decide) ?_
          refine wq_istore_n 75 2 [_, _, _, _] dX4_faultPlace_74 rfl rfl rfl (Nat.le_of_ble_eq_true rfl) rfl ?_
          refine wq_iinc 78 (nI (e + 1)) [_, _, _, _] dX4_faultPlace_75 rfl rfl (nI_1 e) rfl (Nat.le_of_ble_eq_true rfl) rfl ?_
          refine wq_goto 7 dX4_faultPlace_78 (by decide) ?_
          rw [if_neg (Int32.not_lt.mpr c55)] at hp
          rw [if_pos c70] at hp
          exact ih (e + 1) k 0 (by omega) (by omega) hp
      · skip
        refine wq_iload_n 59 3 dX4_faultPlace_58 rfl rfl rfl ?_
        refine ri .int dX4_faultPlace_59 rfl rfl ?_
        rw [if_pos (Int32.not_le.mp c55)] at hp
        exact hp
    · skip
      have w0 : w = 0 := (nI_eq (a := w) (b := 0) (by omega) (by decide)).mp c22
      rw [if_pos w0] at hp
      refine wq_bload_n 26 0 dX4_faultPlace_25 rfl rfl rfl ?_
      refine wq_getR 29 fl_X4_9 dX4_faultPlace_26 rfl rfl o_1 (rfl : (Tb _).2.2.2 1 0 = some 2) ?_
      refine wq_iload_n 30 3 dX4_faultPlace_29 rfl rfl rfl ?_
      refine wq_iald 31 dX4_faultPlace_30 rfl a_2 (Ix.nI (by omega) (by decide)) ?_
      rw [h3 e (by omega)]
      refine cSi1 34 (sp_X4_kindOf (by omega) (by omega)) ml_X4_19 mf_X4_kindOf dX4_faultPlace_31 rfl (Nat.le_of_ble_eq_true rfl) (by omega) ?_
      refine wq_istore_n 35 1 [_, _, _, _] dX4_faultPlace_34 rfl rfl rfl (Nat.le_of_ble_eq_true rfl) rfl ?_
      refine wq_iload_n 36 1 dX4_faultPlace_35 rfl rfl rfl ?_
      refine wq_if_ge 39 60 dX4_faultPlace_36 rfl (by decide) (fun c36 => ?_) (fun c36 => ?_)
      · skip
        refine wq_iinc 63 (nI (w + 1)) [_, _, _, _] dX4_faultPlace_60 rfl rfl (nI_1 w) rfl (Nat.le_of_ble_eq_true rfl) rfl ?_
        refine wq_iload_n 64 1 dX4_faultPlace_63 rfl rfl rfl ?_
        refine wq_iload_n 65 2 dX4_faultPlace_64 rfl rfl rfl ?_
        refine cSi2 68 (sp_X7_shapeOf (by omega) _ _) ml_X4_23 mf_X7_shapeOf dX4_faultPlace_65 rfl (Nat.le_of_ble_eq_true rfl) (by omega) ?_
        refine wq_bipush 70 45 dX4_faultPlace_68 rfl (by decide) ?_
        refine wq_ic_ne 73 75 dX4_faultPlace_70 rfl (by decide) (fun c70 => ?_) (fun c70 => ?_)
        · skip
          refine wq_iinc 78 (nI (e + 1)) [_, _, _, _] dX4_faultPlace_75 rfl rfl (nI_1 e) rfl (Nat.le_of_ble_eq_true rfl) rfl ?_
          refine wq_goto 7 dX4_faultPlace_78 (by decide) ?_
          subst w0
          rw [if_neg (show ¬ kopn (sg e) < 0 from Int32.not_lt.mpr c36)] at hp
          rw [if_neg c70] at hp
          exact ih (e + 1) (kopn (sg e)) 1 (by omega) (by omega) hp
        · skip
          refine wq_iconst 74 0 dX4_faultPlace_73 rfl (by decide) ?_
          refine wq_istore_n 75 2 [_, _, _, _] dX4_faultPlace_74 rfl rfl rfl (Nat.le_of_ble_eq_true rfl) rfl ?_
          refine wq_iinc 78 (nI (e + 1)) [_, _, _, _] dX4_faultPlace_75 rfl rfl (nI_1 e) rfl (Nat.le_of_ble_eq_true rfl) rfl ?_
          refine wq_goto 7 dX4_faultPlace_78 (by decide) ?_
          subst w0
          rw [if_neg (show ¬ kopn (sg e) < 0 from Int32.not_lt.mpr c36)] at hp
          rw [if_pos c70] at hp
          exact ih (e + 1) (kopn (sg e)) 0 (by omega) (by omega) hp
      · skip
        refine wq_iload_n 40 3 dX4_faultPlace_39 rfl rfl rfl ?_
        refine ri .int dX4_faultPlace_40 rfl rfl ?_
        rw [if_pos (Int32.not_le.mp c36)] at hp
        exact hp
def fltX (sg : Nat → Nat) (c : Nat) : Int32 := fpl sg c c 0 (-6) 0
set_option maxRecDepth 20000 in
theorem sp_X4_faultPlace {g : Gl} {D : Nat} {b : Bool} {I : IM} {L : LM} {c : Nat} {sg : Nat → Nat} (hD : 5 ≤ D) (h : PdX I c sg) : Md g D MX4_faultPlace [rf g 1] b I L (some (.int (fltX sg c))) b I L := by
  refine Me.of [some (rf g 1), none, none, none] 3 rfl pf_X4_faultPlace (Nat.le_of_ble_eq_true rfl) ?_
  refine wq_bipush 2 (-6) dX4_faultPlace_0 rfl (by decide) ?_
  refine wq_istore_n 3 1 [_, _, _, _] dX4_faultPlace_2 rfl rfl rfl (Nat.le_of_ble_eq_true rfl) rfl ?_
  refine wq_iconst 4 0 dX4_faultPlace_3 rfl (by decide) ?_
  refine wq_istore_n 5 2 [_, _, _, _] dX4_faultPlace_4 rfl rfl rfl (Nat.le_of_ble_eq_true rfl) rfl ?_
  refine wq_iconst 6 0 dX4_faultPlace_5 rfl (by decide) ?_
  refine wq_istore_n 7 3 [_, _, _, _] dX4_faultPlace_6 rfl rfl rfl (Nat.le_of_ble_eq_true rfl) rfl ?_
  exact lp_X4_faultPlace hD h c 0 (-6) 0 (by omega) (by omega) ⟨rfl, rfl, rfl, rfl⟩
