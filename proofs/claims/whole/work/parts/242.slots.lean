/-! Allotment: names, slots -/
set_option maxRecDepth 20000 in
theorem sp_X2_addF {g : Gl} {D : Nat} {b : Bool} {I : IM} {L : LM} {a : Nat} (ha : IsL a) (h : I a 4 = nI 90) (k f s t : Int32) : Md g D MX2_add [rf g a, .int k, .int f, .int s, .int t] b I L (some (.int 0)) b I L := by
  refine Me.of [some (rf g a), some (.int k), some (.int f), some (.int s), some (.int t), none, none] 2 rfl pf_X2_add (Nat.le_of_ble_eq_true rfl) ?_
  refine wq_bload_n 1 0 dX2_add_0 rfl rfl rfl ?_
  refine wq_getI 4 fl_X2_25 dX2_add_1 rfl rfl (L_ob ha) ?_
  refine wq_if_lt 7 16 dX2_add_4 rfl (by decide) (fun c4 => absurd c4 (by rw [h]; decide)) (fun c4 => ?_)
  refine wq_bload_n 8 0 dX2_add_7 rfl rfl rfl ?_
  refine wq_getI 11 fl_X2_25 dX2_add_8 rfl rfl (L_ob ha) ?_
  refine wq_bipush 13 90 dX2_add_11 rfl (by decide) ?_
  refine wq_ic_lt 16 18 dX2_add_13 rfl (by decide) (fun c13 => absurd c13 (by rw [h]; decide)) (fun c13 => ?_)
  refine wq_iconst 17 0 dX2_add_16 rfl (by decide) ?_
  refine ri .boolean dX2_add_17 rfl rfl ?_
  exact ⟨rfl, rfl, rfl, rfl⟩
set_option maxRecDepth 20000 in
theorem sp_X0_makeName {g : Gl} {D : Nat} {b : Bool} {I : IM} {L : LM} {nw : Nat} (h : I 14 12 = nI (16 + nw)) (hn : nw < 48) : Md g D MX0_makeName [rf g 14] b I L (some (.int (nI (16 + nw)))) b (va_up I 14 (va_up (I 14) 12 (nI (16 + (nw + 1))))) L := by
  refine Me.of [some (rf g 14)] 0 rfl pf_X0_makeName (Nat.le_of_ble_eq_true rfl) ?_
  refine wq_bload_n 1 0 dX0_makeName_0 rfl rfl rfl ?_
  refine wq_getI 4 fl_X0_62 dX0_makeName_1 rfl rfl o_14 ?_
  refine wq_bipush 6 64 dX0_makeName_4 rfl (by decide) ?_
  refine wq_ic_lt 9 12 dX0_makeName_6 rfl (by decide) (fun c6 => ?_) (fun c6 => absurd (by rw [h]; exact nI_lt (b := 64) (by omega) (by decide)) c6)
  refine wq_bload_n 13 0 dX0_makeName_12 rfl rfl rfl ?_
  refine wq_dup 14 dX0_makeName_13 rfl rfl ?_
  refine wq_getI 17 fl_X0_62 dX0_makeName_14 rfl rfl o_14 ?_
  refine wq_iconst 18 1 dX0_makeName_17 rfl (by decide) ?_
  refine wq_iadd 19 dX0_makeName_18 rfl ?_
  rw [h, ← nI_succ]
  refine wq_putI 22 fl_X0_62 dX0_makeName_19 rfl rfl rfl rfl rfl o_14 ?_
  refine wq_bload_n 23 0 dX0_makeName_22 rfl rfl rfl ?_
  refine wq_getI 26 fl_X0_62 dX0_makeName_23 rfl rfl o_14 ?_
  refine wq_iconst 27 1 dX0_makeName_26 rfl (by decide) ?_
  refine wq_isub 28 dX0_makeName_27 rfl ?_
  rw [va_up_self, va_up_self, nI_pred]
  refine ri .int dX0_makeName_28 rfl rfl ?_
  exact ⟨rfl, rfl, rfl, rfl⟩
set_option maxRecDepth 20000 in
theorem sp_X0_makeNameF {g : Gl} {D : Nat} {b : Bool} {I : IM} {L : LM} (h : I 14 12 = nI 64) : Md g D MX0_makeName [rf g 14] b I L (some (.int (-6))) b I L := by
  refine Me.of [some (rf g 14)] 0 rfl pf_X0_makeName (Nat.le_of_ble_eq_true rfl) ?_
  refine wq_bload_n 1 0 dX0_makeName_0 rfl rfl rfl ?_
  refine wq_getI 4 fl_X0_62 dX0_makeName_1 rfl rfl o_14 ?_
  refine wq_bipush 6 64 dX0_makeName_4 rfl (by decide) ?_
  refine wq_ic_lt 9 12 dX0_makeName_6 rfl (by decide) (fun c6 => absurd c6 (by rw [h]; decide)) (fun c6 => ?_)
  refine wq_bipush 11 (-6) dX0_makeName_9 rfl (by decide) ?_
  refine ri .int dX0_makeName_11 rfl rfl ?_
  exact ⟨rfl, rfl, rfl, rfl⟩
def sln (r : Nat → Int32) (v : Int32) : Int32 := if v < 0 then -6 else if 64 ≤ v then -6 else r v.toNatClampNeg
theorem sln_n (r : Nat → Int32) {x : Nat} (hx : x < 64) : sln r (nI x) = r x := by
  unfold sln
  rw [if_neg (nI_pos (by omega)), if_neg (show ¬ (64 : Int32) ≤ nI x from nI_ge (b := 64) hx (by decide)), nI_clamp (by omega)]
theorem sln_6 (r : Nat → Int32) : sln r (-6) = -6 := by
  unfold sln
  rw [if_pos (by decide)]
set_option maxRecDepth 20000 in
theorem sp_X0_slotOfName {g : Gl} {D : Nat} {b : Bool} {I : IM} {L : LM} (v : Int32) : Md g D MX0_slotOfName [rf g 14, .int v] b I L (some (.int (sln (I 37) v))) b I L := by
  refine Me.of [some (rf g 14), some (.int v)] 0 rfl pf_X0_slotOfName (Nat.le_of_ble_eq_true rfl) ?_
  rcases pk_ix v (n := 64) (by decide) with q | q | ⟨x, hx, rfl⟩
  · skip
    refine wq_iload_n 1 1 dX0_slotOfName_0 rfl rfl rfl ?_
    refine wq_if_lt 4 19 dX0_slotOfName_1 rfl (by decide) (fun c1 => ?_) (fun c1 => absurd q c1)
    refine wq_bipush 21 (-6) dX0_slotOfName_19 rfl (by decide) ?_
    refine ri .int dX0_slotOfName_21 rfl rfl ?_
    exact ⟨by rw [sln, if_pos q], rfl, rfl, rfl⟩
  · have q' : (64 : Int32) ≤ v := q
    have q0 : ¬ v < 0 := fun z => absurd (show (0 : Int32) ≤ v from Int32.le_trans (by decide) q') (Int32.not_le.mpr z)
    refine wq_iload_n 1 1 dX0_slotOfName_0 rfl rfl rfl ?_
    refine wq_if_lt 4 19 dX0_slotOfName_1 rfl (by decide) (fun c1 => absurd c1 q0) (fun c1 => ?_)
    refine wq_iload_n 5 1 dX0_slotOfName_4 rfl rfl rfl ?_
    refine wq_bipush 7 64 dX0_slotOfName_5 rfl (by decide) ?_
    refine wq_ic_ge 10 19 dX0_slotOfName_7 rfl (by decide) (fun c7 => ?_) (fun c7 => absurd q' c7)
    refine wq_bipush 21 (-6) dX0_slotOfName_19 rfl (by decide) ?_
    refine ri .int dX0_slotOfName_21 rfl rfl ?_
    exact ⟨by rw [sln, if_neg q0, if_pos q'], rfl, rfl, rfl⟩
  · skip
    refine wq_iload_n 1 1 dX0_slotOfName_0 rfl rfl rfl ?_
    refine wq_if_lt 4 19 dX0_slotOfName_1 rfl (by decide) (fun c1 => absurd c1 (nI_pos (by omega))) (fun c1 => ?_)
    refine wq_iload_n 5 1 dX0_slotOfName_4 rfl rfl rfl ?_
    refine wq_bipush 7 64 dX0_slotOfName_5 rfl (by decide) ?_
    refine wq_ic_ge 10 19 dX0_slotOfName_7 rfl (by decide) (fun c7 => absurd c7 (nI_ge (b := 64) hx (by decide))) (fun c7 => ?_)
    refine wq_bload_n 11 0 dX0_slotOfName_10 rfl rfl rfl ?_
    refine wq_getR 14 fl_X0_32 dX0_slotOfName_11 rfl rfl o_14 (rfl : (Tb _).2.2.2 14 3 = some 37) ?_
    refine wq_iload_n 15 1 dX0_slotOfName_14 rfl rfl rfl ?_
    refine wq_iald 16 dX0_slotOfName_15 rfl a_37 (Ix.nI (by omega) (by decide)) ?_
    refine wq_goto 21 dX0_slotOfName_16 (by decide) ?_
    refine ri .int dX0_slotOfName_21 rfl rfl ?_
    exact ⟨by rw [sln_n _ hx], rfl, rfl, rfl⟩
set_option maxRecDepth 20000 in
theorem sp_X0_registerOf {g : Gl} {D : Nat} {b : Bool} {I : IM} {L : LM} {al : Nat → Nat} (hD : 2 ≤ D) (hI : ∀ n, n < 64 → I 25 n = nI (al n)) (ha : ∀ n, n < 64 → al n ≤ n) {i : Int32} (x : Nat) (hi : i = nI x) (hx : x < 64) : Md g D MX0_registerOf [rf g 14, .int i] b I L (some (.int (I 26 (rt al x)))) b I L := by
  subst hi
  have hl := rt_lt ha hx
  refine Me.of [some (rf g 14), some (.int (nI x))] 0 rfl pf_X0_registerOf (Nat.le_of_ble_eq_true rfl) ?_
  refine wq_bload_n 1 0 dX0_registerOf_0 rfl rfl rfl ?_
  refine wq_getR 4 fl_X0_21 dX0_registerOf_1 rfl rfl o_14 (rfl : (Tb _).2.2.2 14 1 = some 21) ?_
  refine wq_getR 7 fl_X0_166 dX0_registerOf_4 rfl rfl o_21 (rfl : (Tb _).2.2.2 21 4 = some 26) ?_
  refine wq_bload_n 8 0 dX0_registerOf_7 rfl rfl rfl ?_
  refine wq_getR 11 fl_X0_21 dX0_registerOf_8 rfl rfl o_14 (rfl : (Tb _).2.2.2 14 1 = some 21) ?_
  refine wq_iload_n 12 1 dX0_registerOf_11 rfl rfl rfl ?_
  refine cVi1 15 (sp_X5_nodeOf (by omega) hI ha x rfl hx) ml_X0_137 mf_X5_nodeOf dX0_registerOf_12 rfl o_21 (by decide) rfl (Nat.le_of_ble_eq_true rfl) (by omega) ?_
  refine wq_iald 16 dX0_registerOf_15 rfl a_26 (Ix.nI (by omega) (by decide)) ?_
  refine ri .int dX0_registerOf_16 rfl rfl ?_
  exact ⟨rfl, rfl, rfl, rfl⟩
set_option maxRecDepth 20000 in
theorem sp_X0_placeOf {g : Gl} {D : Nat} {b : Bool} {I : IM} {L : LM} {al : Nat → Nat} (hD : 3 ≤ D) (hI : ∀ n, n < 64 → I 25 n = nI (al n)) (ha : ∀ n, n < 64 → al n ≤ n) {i : Int32} (x : Nat) (hi : i = nI x) (hx : x < 64) : Md g D MX0_placeOf [rf g 14, .int i] b I L (some (.int (if I 37 x < 0 then I 26 (rt al x) else 10 + I 37 x))) b I L := by
  subst hi
  refine Me.of [some (rf g 14), some (.int (nI x)), none] 1 rfl pf_X0_placeOf (Nat.le_of_ble_eq_true rfl) ?_
  refine wq_bload_n 1 0 dX0_placeOf_0 rfl rfl rfl ?_
  refine wq_iload_n 2 1 dX0_placeOf_1 rfl rfl rfl ?_
  refine cVi1 5 (sp_X0_slotOfName _) ml_X0_148 mf_X0_slotOfName dX0_placeOf_2 rfl o_14 (by decide) rfl (Nat.le_of_ble_eq_true rfl) (by omega) ?_
  rw [sln_n _ hx]
  refine wq_istore_n 6 2 [_, _, _] dX0_placeOf_5 rfl rfl rfl (Nat.le_of_ble_eq_true rfl) rfl ?_
  refine wq_iload_n 7 2 dX0_placeOf_6 rfl rfl rfl ?_
  refine wq_if_lt 10 17 dX0_placeOf_7 rfl (by decide) (fun c7 => ?_) (fun c7 => ?_)
  · skip
    refine wq_bload_n 18 0 dX0_placeOf_17 rfl rfl rfl ?_
    refine wq_iload_n 19 1 dX0_placeOf_18 rfl rfl rfl ?_
    refine cVi1 22 (sp_X0_registerOf (by omega) hI ha x rfl hx) ml_X0_163 mf_X0_registerOf dX0_placeOf_19 rfl o_14 (by decide) rfl (Nat.le_of_ble_eq_true rfl) (by omega) ?_
    refine ri .int dX0_placeOf_22 rfl rfl ?_
    exact ⟨by rw [if_pos c7], rfl, rfl, rfl⟩
  · skip
    refine wq_bipush 12 10 dX0_placeOf_10 rfl (by decide) ?_
    refine wq_iload_n 13 2 dX0_placeOf_12 rfl rfl rfl ?_
    refine wq_iadd 14 dX0_placeOf_13 rfl ?_
    refine wq_goto 22 dX0_placeOf_14 (by decide) ?_
    refine ri .int dX0_placeOf_22 rfl rfl ?_
    exact ⟨by rw [if_neg c7], rfl, rfl, rfl⟩
/-- slots are given -/
def GsR (I I1 : IM) (G : Nat → Int32) (c : Nat) : Prop := (∀ x, x < 64 → I1 37 x = G x) ∧ I1 14 11 = nI c ∧ (∀ z, z ≠ 11 → I1 14 z = I 14 z) ∧ ∀ x, x ≠ 14 → x ≠ 37 → I1 x = I x
def gsF (I : IM) (N S : Int64) (al : Nat → Nat) (sl : Nat) (d : Nat → Bool) (x : Nat) : Int32 := if (tb N x && tb S (rt al x) && d x) = true then nI (sl + cntF (tb S) (rt al x)) else I 37 x
theorem gsF_congr {I : IM} {N S : Int64} {al : Nat → Nat} {sl x : Nat} {d d' : Nat → Bool} (h : d x = d' x) : gsF I N S al sl d x = gsF I N S al sl d' x := by
  unfold gsF
  rw [h]
theorem gsF_on {I : IM} {N S : Int64} {al : Nat → Nat} {sl x : Nat} {d : Nat → Bool} (h : (tb N x && tb S (rt al x) && d x) = true) : gsF I N S al sl d x = nI (sl + cntF (tb S) (rt al x)) := by
  unfold gsF
  rw [if_pos h]
theorem gsF_off {I : IM} {N S : Int64} {al : Nat → Nat} {sl x : Nat} {d : Nat → Bool} (h : (tb N x && tb S (rt al x) && d x) = false) : gsF I N S al sl d x = I 37 x := by
  unfold gsF
  rw [if_neg (by rw [h]; decide)]
set_option maxRecDepth 20000 in
set_option maxHeartbeats 2000000 in
theorem lp_X0_give1 {g : Gl} {D : Nat} {b : Bool} {I : IM} {L : LM} {N S : Int64} {al : Nat → Nat} {sl q : Nat} (hD : 2 ≤ D) (hN : L (nwA b) 6 = N) (hI : ∀ n, n < 64 → I 25 n = nI (al n)) (ha : ∀ n, n < 64 → al n ≤ n) (hq : q < 64) (hqS : tb S q = true) {post : Option Value → Bool → IM → LM → Prop} (kk : ∀ I1, GsR I I1 (gsF I N S al sl (fun x => decide (rt al x < q + 1))) (sl + cntF (tb S) q) → Wp (Kn g D MX0_giveSlots post) (Tb b) 72 [some (rf g 14), some (.int (nI q)), some (.int (nI 64))] [] I1 L) : ∀ r j I1, j + r = 64 → GsR I I1 (gsF I N S al sl (fun x => decide (rt al x < q) || (decide (rt al x = q) && decide (x < j)))) (sl + cntF (tb S) q) → Wp (Kn g D MX0_giveSlots post) (Tb b) 24 [some (rf g 14), some (.int (nI q)), some (.int (nI j))] [] I1 L := by
  intro r
  induction r with
  | zero =>
    intro j I1 hj h
    have ej : j = 64 := by omega
    subst ej
    refine wq_iload_n 25 2 dX0_giveSlots_24 rfl rfl rfl ?_
    refine wq_bipush 27 64 dX0_giveSlots_25 rfl (by decide) ?_
    refine wq_ic_ge 30 72 dX0_giveSlots_27 rfl (by decide) (fun c27 => ?_) (fun c27 => absurd (by decide) c27)
    refine kk I1 ⟨fun x hx => ?_, h.2⟩
    rw [h.1 x hx]
    refine gsF_congr ?_
    show (decide (rt al x < q) || (decide (rt al x = q) && decide (x < 64))) = decide (rt al x < q + 1)
    rw [decide_eq_true hx, Bool.and_true]
    by_cases c : rt al x = q
    · rw [decide_eq_true c, Bool.or_true, decide_eq_true (by omega)]
    · rw [decide_eq_false c, Bool.or_false]
      exact decide_eq_decide.mpr (by omega)
  | succ r ih =>
    intro j I1 hj h
    have hj64 : j < 64 := by omega
    have lj := rt_lt ha hj64
    obtain ⟨h1, h2, h3, h4⟩ := h
    have hI1 : ∀ n, n < 64 → I1 25 n = nI (al n) := fun n hn => by rw [h4 25 (by decide) (by decide)]; exact hI n hn
    have skip : ¬ (tb N j = true ∧ rt al j = q) → Wp (Kn g D MX0_giveSlots post) (Tb b) 24 [some (rf g 14), some (.int (nI q)), some (.int (nI j + 1))] [] I1 L := by
      intro hn
      rw [← nI_succ]
      refine ih (j + 1) I1 (by omega) ⟨fun x hx => ?_, h2, h3, h4⟩
      rw [h1 x hx]
      by_cases e : x = j
      · by_cases c : rt al x = q
        · have : tb N x = false := Bool.eq_false_iff.mpr (fun z => hn (by rw [← e]; exact ⟨z, c⟩))
          rw [gsF_off (by rw [this]; rfl), gsF_off (by rw [this]; rfl)]
        · refine gsF_congr ?_
          show (decide (rt al x < q) || (decide (rt al x = q) && decide (x < j))) = (decide (rt al x < q) || (decide (rt al x = q) && decide (x < j + 1)))
          rw [decide_eq_false c]; rfl
      · refine gsF_congr ?_
        show (decide (rt al x < q) || (decide (rt al x = q) && decide (x < j))) = (decide (rt al x < q) || (decide (rt al x = q) && decide (x < j + 1)))
        rw [decide_eq_decide.mpr (show x < j + 1 ↔ x < j by omega)]
    refine wq_iload_n 25 2 dX0_giveSlots_24 rfl rfl rfl ?_
    refine wq_bipush 27 64 dX0_giveSlots_25 rfl (by decide) ?_
    refine wq_ic_ge 30 72 dX0_giveSlots_27 rfl (by decide) (fun c27 => absurd c27 (nI_ge (b := 64) (by omega) (by decide))) (fun c27 => ?_)
    refine wq_bload_n 31 0 dX0_giveSlots_30 rfl rfl rfl ?_
    refine wq_getR 34 fl_X0_42 dX0_giveSlots_31 rfl rfl o_14 (rfl : (Tb b).2.2.2 14 6 = some (nwA b)) ?_
    refine wq_getL 37 fl_X0_134 dX0_giveSlots_34 rfl rfl (L_ob (nwA_l b)) ?_
    refine wq_iload_n 38 2 dX0_giveSlots_37 rfl rfl rfl ?_
    refine cSi2 41 (sp_X7_has _ _) ml_X0_130 mf_X7_has dX0_giveSlots_38 rfl (Nat.le_of_ble_eq_true rfl) (by omega) ?_
    refine wq_if_eq 44 66 dX0_giveSlots_41 rfl (by decide) (fun c41 => ?_) (fun c41 => ?_)
    · skip
      refine wq_iinc 69 (_ + 1) [_, _, _] dX0_giveSlots_66 rfl rfl (inc1 _) rfl (Nat.le_of_ble_eq_true rfl) rfl ?_
      refine wq_goto 24 dX0_giveSlots_69 (by decide) ?_
      exact skip (fun z => by rw [(hasX_eq0 _ hj64).mp (by rw [← hN]; exact c41)] at z; exact absurd z.1 (by decide))
    · skip
      refine wq_bload_n 45 0 dX0_giveSlots_44 rfl rfl rfl ?_
      refine wq_getR 48 fl_X0_21 dX0_giveSlots_45 rfl rfl o_14 (rfl : (Tb _).2.2.2 14 1 = some 21) ?_
      refine wq_iload_n 49 2 dX0_giveSlots_48 rfl rfl rfl ?_
      refine cVi1 52 (sp_X5_nodeOf (by omega) hI1 ha j rfl hj64) ml_X0_137 mf_X5_nodeOf dX0_giveSlots_49 rfl o_21 (by decide) rfl (Nat.le_of_ble_eq_true rfl) (by omega) ?_
      refine wq_iload_n 53 1 dX0_giveSlots_52 rfl rfl rfl ?_
      refine wq_ic_ne 56 66 dX0_giveSlots_53 rfl (by decide) (fun c53 => ?_) (fun c53 => ?_)
      · skip
        refine wq_iinc 69 (_ + 1) [_, _, _] dX0_giveSlots_66 rfl rfl (inc1 _) rfl (Nat.le_of_ble_eq_true rfl) rfl ?_
        refine wq_goto 24 dX0_giveSlots_69 (by decide) ?_
        exact skip (fun z => c53 (by rw [z.2]))
      · skip
        refine wq_bload_n 57 0 dX0_giveSlots_56 rfl rfl rfl ?_
        refine wq_getR 60 fl_X0_32 dX0_giveSlots_57 rfl rfl o_14 (rfl : (Tb _).2.2.2 14 3 = some 37) ?_
        refine wq_iload_n 61 2 dX0_giveSlots_60 rfl rfl rfl ?_
        refine wq_bload_n 62 0 dX0_giveSlots_61 rfl rfl rfl ?_
        refine wq_getI 65 fl_X0_59 dX0_giveSlots_62 rfl rfl o_14 ?_
        refine wq_iast 66 dX0_giveSlots_65 rfl a_37 (Ix.nI (by omega) (by decide)) ?_
        refine wq_iinc 69 (_ + 1) [_, _, _] dX0_giveSlots_66 rfl rfl (inc1 _) rfl (Nat.le_of_ble_eq_true rfl) rfl ?_
        refine wq_goto 24 dX0_giveSlots_69 (by decide) ?_
        have e1 : tb N j = true := (hasX_ne0 _ hj64).mp (by rw [← hN]; exact c41)
        have e2 : rt al j = q := (nI_eq (by omega) (by omega)).mp c53
        rw [← nI_succ, h2]
        refine wq_gen (fun I2 L2 eI2 eL2 => ?_)
        have i37 : I2 37 = va_up (I1 37) j (nI (sl + cntF (tb S) q)) := by rw [eI2, va_up_self]
        have ix : ∀ x, x ≠ 37 → I2 x = I1 x := fun x hx => by rw [eI2, va_up_ne _ _ hx]
        rw [eL2]
        clear eI2 eL2
        refine ih (j + 1) I2 (by omega) ⟨fun x hx => ?_, by rw [ix 14 (by decide)]; exact h2, fun z hz => by rw [ix 14 (by decide)]; exact h3 z hz, fun x x1 x2 => by rw [ix x x2]; exact h4 x x1 x2⟩
        rw [i37]
        by_cases e : x = j
        · subst e
          rw [va_up_self, gsF_on (by rw [e1, e2, hqS]; simp), e2]
        · rw [va_up_ne _ _ e, h1 x hx]
          refine gsF_congr ?_
          show (decide (rt al x < q) || (decide (rt al x = q) && decide (x < j))) = (decide (rt al x < q) || (decide (rt al x = q) && decide (x < j + 1)))
          rw [decide_eq_decide.mpr (show x < j + 1 ↔ x < j by omega)]
set_option maxRecDepth 20000 in
set_option maxHeartbeats 2000000 in
theorem lp_X0_give {g : Gl} {D : Nat} {b : Bool} {I : IM} {L : LM} {N S : Int64} {al : Nat → Nat} {sl : Nat} (hD : 2 ≤ D) (hS : L 21 17 = S) (hN : L (nwA b) 6 = N) (hI : ∀ n, n < 64 → I 25 n = nI (al n)) (ha : ∀ n, n < 64 → al n ≤ n) {post : Option Value → Bool → IM → LM → Prop} (hp : ∀ I1, GsR I I1 (gsF I N S al sl (fun _ => true)) (sl + cntF (tb S) 64) → post none b I1 L) : ∀ r q I1 l2, q + r = 64 → GsR I I1 (gsF I N S al sl (fun x => decide (rt al x < q))) (sl + cntF (tb S) q) → Wp (Kn g D MX0_giveSlots post) (Tb b) 2 [some (rf g 14), some (.int (nI q)), l2] [] I1 L := by
  intro r
  induction r with
  | zero =>
    intro q I1 l2 hq h
    have eq : q = 64 := by omega
    subst eq
    refine wq_iload_n 3 1 dX0_giveSlots_2 rfl rfl rfl ?_
    refine wq_bipush 5 64 dX0_giveSlots_3 rfl (by decide) ?_
    refine wq_ic_ge 8 88 dX0_giveSlots_5 rfl (by decide) (fun c5 => ?_) (fun c5 => absurd (by decide) c5)
    refine rr dX0_giveSlots_88 rfl ?_
    refine hp I1 ⟨fun x hx => ?_, h.2⟩
    rw [h.1 x hx]
    exact gsF_congr (decide_eq_true (rt_lt ha hx))
  | succ r ih =>
    intro q I1 l2 hq h
    have hq64 : q < 64 := by omega
    refine wq_iload_n 3 1 dX0_giveSlots_2 rfl rfl rfl ?_
    refine wq_bipush 5 64 dX0_giveSlots_3 rfl (by decide) ?_
    refine wq_ic_ge 8 88 dX0_giveSlots_5 rfl (by decide) (fun c5 => absurd c5 (nI_ge (b := 64) (by omega) (by decide))) (fun c5 => ?_)
    refine wq_bload_n 9 0 dX0_giveSlots_8 rfl rfl rfl ?_
    refine wq_getR 12 fl_X0_21 dX0_giveSlots_9 rfl rfl o_14 (rfl : (Tb _).2.2.2 14 1 = some 21) ?_
    refine wq_getL 15 fl_X0_86 dX0_giveSlots_12 rfl rfl o_21 ?_
    refine wq_iload_n 16 1 dX0_giveSlots_15 rfl rfl rfl ?_
    refine cSi2 19 (sp_X7_has _ _) ml_X0_130 mf_X7_has dX0_giveSlots_16 rfl (Nat.le_of_ble_eq_true rfl) (by omega) ?_
    refine wq_if_eq 22 82 dX0_giveSlots_19 rfl (by decide) (fun c19 => ?_) (fun c19 => ?_)
    · skip
      refine wq_iinc 85 (_ + 1) [_, _, _] dX0_giveSlots_82 rfl rfl (inc1 _) rfl (Nat.le_of_ble_eq_true rfl) rfl ?_
      refine wq_goto 2 dX0_giveSlots_85 (by decide) ?_
      have e : tb S q = false := (hasX_eq0 _ hq64).mp (by rw [← hS]; exact c19)
      rw [← nI_succ]
      refine ih (q + 1) I1 _ (by omega) ⟨fun x hx => ?_, by rw [cntF, e, if_neg (by decide)]; exact h.2.1, h.2.2⟩
      rw [h.1 x hx]
      by_cases c : rt al x = q
      · rw [gsF_off (by rw [c, e]; simp), gsF_off (by rw [c, e]; simp)]
      · exact gsF_congr (decide_eq_decide.mpr (by omega))
    · skip
      refine wq_iconst 23 0 dX0_giveSlots_22 rfl (by decide) ?_
      refine wq_istore_n 24 2 [_, _, _] dX0_giveSlots_23 rfl rfl rfl (Nat.le_of_ble_eq_true rfl) rfl ?_
      have e : tb S q = true := (hasX_ne0 _ hq64).mp (by rw [← hS]; exact c19)
      refine lp_X0_give1 (N := N) (S := S) (sl := sl) hD hN hI ha hq64 e (fun I2 h2 => ?_) 64 0 I1 (by omega) ⟨fun x hx => ?_, h.2⟩
      rotate_left
      · rw [h.1 x hx]
        refine gsF_congr ?_
        show decide (rt al x < q) = (decide (rt al x < q) || (decide (rt al x = q) && decide (x < 0)))
        rw [decide_eq_false (Nat.not_lt_zero x), Bool.and_false, Bool.or_false]
      obtain ⟨g1, g2, g3, g4⟩ := h2
      refine wq_bload_n 73 0 dX0_giveSlots_72 rfl rfl rfl ?_
      refine wq_dup 74 dX0_giveSlots_73 rfl rfl ?_
      refine wq_getI 77 fl_X0_59 dX0_giveSlots_74 rfl rfl o_14 ?_
      refine wq_iconst 78 1 dX0_giveSlots_77 rfl (by decide) ?_
      refine wq_iadd 79 dX0_giveSlots_78 rfl ?_
      refine wq_putI 82 fl_X0_59 dX0_giveSlots_79 rfl rfl rfl rfl rfl o_14 ?_
      refine wq_iinc 85 (_ + 1) [_, _, _] dX0_giveSlots_82 rfl rfl (inc1 _) rfl (Nat.le_of_ble_eq_true rfl) rfl ?_
      refine wq_goto 2 dX0_giveSlots_85 (by decide) ?_
      rw [← nI_succ, g2, ← nI_succ]
      refine wq_gen (fun I3 L3 eI3 eL3 => ?_)
      have i14 : I3 14 = va_up (I2 14) 11 (nI (sl + cntF (tb S) q + 1)) := by rw [eI3, va_up_self]
      have ix : ∀ x, x ≠ 14 → I3 x = I2 x := fun x hx => by rw [eI3, va_up_ne _ _ hx]
      rw [eL3]
      clear eI3 eL3
      refine ih (q + 1) I3 _ (by omega) ⟨fun x hx => by rw [ix 37 (by decide)]; exact g1 x hx, by rw [i14, va_up_self, cntF, if_pos e]; rfl, fun z hz => by rw [i14, va_up_ne _ _ hz]; exact g3 z hz, fun x x1 x2 => by rw [ix x x1]; exact g4 x x1 x2⟩
set_option maxRecDepth 20000 in
theorem sp_X0_giveSlots {g : Gl} {D : Nat} {b : Bool} {I : IM} {L : LM} {N S : Int64} {al : Nat → Nat} {sl : Nat} (hD : 2 ≤ D) (hS : L 21 17 = S) (hN : L (nwA b) 6 = N) (hI : ∀ n, n < 64 → I 25 n = nI (al n)) (ha : ∀ n, n < 64 → al n ≤ n) (hsl : I 14 11 = nI sl) : Me g D MX0_giveSlots [rf g 14] b I L (fun r b' I' L' => r = none ∧ b' = b ∧ L' = L ∧ GsR I I' (gsF I N S al sl (fun _ => true)) (sl + cntF (tb S) 64)) := by
  refine Me.of [some (rf g 14), none, none] 2 rfl pf_X0_giveSlots (Nat.le_of_ble_eq_true rfl) ?_
  refine wq_iconst 1 0 dX0_giveSlots_0 rfl (by decide) ?_
  refine wq_istore_n 2 1 [_, _, _] dX0_giveSlots_1 rfl rfl rfl (Nat.le_of_ble_eq_true rfl) rfl ?_
  refine lp_X0_give (N := N) (sl := sl) hD hS hN hI ha (fun I1 h1 => ⟨rfl, rfl, rfl, h1⟩) 64 0 I _ (by omega) ⟨fun x hx => ?_, hsl, fun _ _ => rfl, fun _ _ _ => rfl⟩
  rw [gsF_off (by show (_ && decide (rt al x < 0)) = false; rw [decide_eq_false (Nat.not_lt_zero _), Bool.and_false])]
