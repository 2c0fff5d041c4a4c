/-! WHAT THE PAD TELLS: rows of a program, out of the signs -/
theorem derived_congr4 {p q : Pg} : ∀ (n : Nat), (∀ i, i < n → ∀ w, w < 4 → p i w = q i w) → Mv p n = Mv q n ∧ Nms p n = Nms q n ∧ Tp p n = Tp q n ∧ ∀ f, Lb p f n = Lb q f n
  | 0, _ => ⟨rfl, rfl, rfl, fun _ => rfl⟩
  | n + 1, h => by
    obtain ⟨h1, h2, h3, h4⟩ := derived_congr4 n (fun i hi => h i (by omega))
    have e0 := h n (by omega) 0 (by omega)
    have e1 := h n (by omega) 1 (by omega)
    have e2 := h n (by omega) 2 (by omega)
    have e3 := h n (by omega) 3 (by omega)
    refine ⟨?_, ?_, ?_, fun f => ?_⟩
    · rw [Mv, Mv, e0, h1]
    · rw [Nms, Nms, e0, e1, e2, e3, h2]
    · rw [Tp, Tp, e0, e1, e2, e3, h3]
    · rw [Lb, Lb, e0, e1, h4 f]
theorem LRc_congr {I : IM} {L : LM} {a n : Nat} {p q : Pg} (h : LRc I L a n p) (e : ∀ i, i < n → ∀ w, w < 4 → p i w = q i w) : LRc I L a n q := by
  obtain ⟨h1, h2, h3, h4, h5, h6, h7, h8, h9⟩ := h
  obtain ⟨d1, d2, d3, d4⟩ := derived_congr4 n e
  refine ⟨h1, h2, by rw [h3, d1], by rw [h4, d2], by rw [h5, d3], fun i hi w hw => by rw [h6 i hi w hw, e i hi w hw], fun i hi => ?_, fun i hi => ?_, fun f hf => by rw [h9 f hf, d4]⟩
  · rw [h7 i hi, Rd, Rd, e i hi 0 (by omega), e i hi 1 (by omega), e i hi 2 (by omega), e i hi 3 (by omega)]
  · rw [h8 i hi, Wr, Wr, e i hi 0 (by omega), e i hi 1 (by omega), e i hi 2 (by omega), e i hi 3 (by omega)]
/-- part w of the instruction of kind k that begins at e -/
def ptO (sg : Nat → Nat) (c : Nat) (k : Int32) (w e : Nat) : Int32 := if c ≤ e + w then -6 else mng (nI (sg (e + w))) (shp k (nI w))
set_option maxRecDepth 20000 in
theorem sp_X4_partOf {g : Gl} {D : Nat} {b : Bool} {I : IM} {L : LM} {c : Nat} {sg : Nat → Nat} (hD : 5 ≤ D) (h : PdX I c sg) (k : Int32) {i : Int32} (w e : Nat) (hi : i = nI w) (hw : w < 4) (he : e < c) : Md g D MX4_partOf [rf g 1, .int k, .int i, .int (nI e)] b I L (some (.int (ptO sg c k w e))) b I L := by
  subst hi
  obtain ⟨h1, h2, h3, h4⟩ := h
  refine Me.of [some (rf g 1), some (.int k), some (.int (nI w)), some (.int (nI e)), none] 1 rfl pf_X4_partOf (Nat.le_of_ble_eq_true rfl) ?_
  refine wq_iload_n 1 3 dX4_partOf_0 rfl rfl rfl ?_
  refine wq_iload_n 2 2 dX4_partOf_1 rfl rfl rfl ?_
  refine wq_iadd 3 dX4_partOf_2 rfl ?_
  rw [nI_add]
  refine wq_istore 5 [_, _, _, _, _] dX4_partOf_3 rfl rfl (Nat.le_of_ble_eq_true rfl) rfl ?_
  refine wq_iload 7 dX4_partOf_5 rfl rfl ?_
  refine wq_if_lt 10 26 dX4_partOf_7 rfl (by decide) (fun c7 => absurd c7 (nI_pos (by omega))) (fun c7 => ?_)
  refine wq_iload 12 dX4_partOf_10 rfl rfl ?_
  refine wq_bload_n 13 0 dX4_partOf_12 rfl rfl rfl ?_
  refine wq_getI 16 fl_X4_15 dX4_partOf_13 rfl rfl o_1 ?_
  refine wq_ic_ge 19 26 dX4_partOf_16 rfl (by decide) (fun c16 => ?_) (fun c16 => ?_)
  · skip
    refine wq_bipush 28 (-6) dX4_partOf_26 rfl (by decide) ?_
    refine ri .int dX4_partOf_28 rfl rfl ?_
    refine ⟨?_, rfl, rfl, rfl⟩
    rw [ptO, if_pos]
    rw [h2] at c16
    exact (nI_leI (by omega) (by omega)).mp c16
  · skip
    refine wq_iload 21 dX4_partOf_19 rfl rfl ?_
    refine wq_bipush 23 60 dX4_partOf_21 rfl (by decide) ?_
    refine wq_ic_lt 26 29 dX4_partOf_23 rfl (by decide) (fun c23 => ?_) (fun c23 => ?_)
    · skip
      have hlt : e + w < c := by
        apply Classical.byContradiction
        intro hx
        exact c16 (by rw [h2]; exact nI_le (by omega) (by omega))
      refine wq_bload_n 30 0 dX4_partOf_29 rfl rfl rfl ?_
      refine wq_getR 33 fl_X4_9 dX4_partOf_30 rfl rfl o_1 (rfl : (Tb _).2.2.2 1 0 = some 2) ?_
      refine wq_iload 35 dX4_partOf_33 rfl rfl ?_
      refine wq_iald 36 dX4_partOf_35 rfl a_2 (Ix.nI (by omega) (by decide)) ?_
      rw [h3 (e + w) hlt]
      refine wq_iload_n 37 1 dX4_partOf_36 rfl rfl rfl ?_
      refine wq_iload_n 38 2 dX4_partOf_37 rfl rfl rfl ?_
      refine cSi2 41 (sp_X7_shapeOf (by omega) _ _) ml_X4_23 mf_X7_shapeOf dX4_partOf_38 rfl (Nat.le_of_ble_eq_true rfl) (by omega) ?_
      refine cSi2 44 (sp_X4_meaningOf _ _) ml_X4_27 mf_X4_meaningOf dX4_partOf_41 rfl (Nat.le_of_ble_eq_true rfl) (by omega) ?_
      refine ri .int dX4_partOf_44 rfl rfl ?_
      exact ⟨by rw [ptO, if_neg (by omega)], rfl, rfl, rfl⟩
    · skip
      refine wq_bipush 28 (-6) dX4_partOf_26 rfl (by decide) ?_
      refine ri .int dX4_partOf_28 rfl rfl ?_
      exfalso
      have hlt : e + w < c := by
        apply Classical.byContradiction
        intro hx
        exact c16 (by rw [h2]; exact nI_le (by omega) (by omega))
      exact c23 (nI_lt (b := 60) (by omega) (by decide))
/-- how many of the r places from w on hold something -/
def csh (k : Int32) : Nat → Nat → Nat
  | _, 0 => 0
  | w, r + 1 => (if shp k (nI w) = 45 then 0 else 1) + csh k (w + 1) r
def lnN (k : Int32) : Nat := csh k 1 3
theorem lnN_le (k : Int32) : lnN k ≤ 3 := by
  unfold lnN csh csh csh csh
  split <;> split <;> split <;> omega
/-- where the j-th instruction begins -/
def pos (sg : Nat → Nat) : Nat → Nat
  | 0 => 0
  | j + 1 => pos sg j + 1 + lnN (kopn (sg (pos sg j)))
def pP (sg : Nat → Nat) (c : Nat) : Pg := fun j w => if w = 0 then kopn (sg (pos sg j)) else ptO sg c (kopn (sg (pos sg j))) w (pos sg j)
set_option maxRecDepth 20000 in
theorem tl_in {g : Gl} {D : Nat} {b : Bool} {I : IM} {L : LM} {a : Nat} {post : Option Value → Bool → IM → LM → Prop} (hD : 5 ≤ D) (ha : IsL a) {i : Nat} {k : Int32} : ∀ r w x, w + r = 4 → 1 ≤ w → Wp (Kn g D MX4_tellTo post) (Tb b) 103 [some (rf g 1), some (rf g a), some (.int (nI (x + csh k w r))), some (.int (nI i)), some (.int k), some (.int (nI 4))] [] I L → Wp (Kn g D MX4_tellTo post) (Tb b) 76 [some (rf g 1), some (rf g a), some (.int (nI x)), some (.int (nI i)), some (.int k), some (.int (nI w))] [] I L := by
  intro r
  induction r with
  | zero =>
    intro w x hw h1 kk
    have hw : w = 4 := by omega
    subst hw
    refine wq_iload 78 dX4_tellTo_76 rfl rfl ?_
    refine wq_iconst 79 3 dX4_tellTo_78 rfl (by decide) ?_
    refine wq_ic_gt 82 103 dX4_tellTo_79 rfl (by decide) (fun c79 => ?_) (fun c79 => absurd (by decide) c79)
    exact kk
  | succ r ih =>
    intro w x hw h1 kk
    rw [csh] at kk
    refine wq_iload 78 dX4_tellTo_76 rfl rfl ?_
    refine wq_iconst 79 3 dX4_tellTo_78 rfl (by decide) ?_
    refine wq_ic_gt 82 103 dX4_tellTo_79 rfl (by decide) (fun c79 => absurd c79 (nI_nlt (a := 3) (b := w) (by omega) (by decide))) (fun c79 => ?_)
    refine wq_iload 84 dX4_tellTo_82 rfl rfl ?_
    refine wq_iload 86 dX4_tellTo_84 rfl rfl ?_
    refine cSi2 89 (sp_X7_shapeOf (by omega) _ _) ml_X4_23 mf_X7_shapeOf dX4_tellTo_86 rfl (Nat.le_of_ble_eq_true rfl) (by omega) ?_
    refine wq_bipush 91 45 dX4_tellTo_89 rfl (by decide) ?_
    refine wq_ic_eq 94 97 dX4_tellTo_91 rfl (by decide) (fun c91 => ?_) (fun c91 => ?_)
    · skip
      refine wq_iinc 100 (nI (w + 1)) [_, _, _, _, _, _] dX4_tellTo_97 rfl rfl (nI_1 w) rfl (Nat.le_of_ble_eq_true rfl) rfl ?_
      refine wq_goto 76 dX4_tellTo_100 (by decide) ?_
      rw [if_pos c91, Nat.zero_add] at kk
      exact ih (w + 1) x (by omega) (by omega) kk
    · skip
      refine wq_iinc 97 (nI (x + 1)) [_, _, _, _, _, _] dX4_tellTo_94 rfl rfl (nI_1 x) rfl (Nat.le_of_ble_eq_true rfl) rfl ?_
      refine wq_iinc 100 (nI (w + 1)) [_, _, _, _, _, _] dX4_tellTo_97 rfl rfl (nI_1 w) rfl (Nat.le_of_ble_eq_true rfl) rfl ?_
      refine wq_goto 76 dX4_tellTo_100 (by decide) ?_
      rw [if_neg c91, ← Nat.add_assoc] at kk
      exact ih (w + 1) (x + 1) (by omega) (by omega) kk
theorem pos_ge (sg : Nat → Nat) : ∀ i, (∀ j, j < i → 1 ≤ lnN (kopn (sg (pos sg j)))) → 2 * i ≤ pos sg i
  | 0, _ => Nat.zero_le _
  | i + 1, h => by
    have h1 := pos_ge sg i (fun j hj => h j (by omega))
    have h2 := h i (by omega)
    rw [pos]
    omega
theorem Off.trans {S : List Nat} {I I' I'' : IM} {L L' L'' : LM} (h : Off S I L I' L') (h' : Off S I' L' I'' L'') : Off S I L I'' L'' := fun x hx => ⟨(h' x hx).1.trans (h x hx).1, (h' x hx).2.trans (h x hx).2⟩
theorem Off.refl {S : List Nat} {I : IM} {L : LM} : Off S I L I L := fun _ _ => ⟨rfl, rfl⟩
theorem L_out {a x : Nat} (ha : IsL a) (hx : x < 3) : x ∉ fL a := by
  rcases ha with rfl | rfl | rfl | rfl | rfl | rfl <;> simp [fL] <;> omega
theorem PdX.off {S : List Nat} {I I' : IM} {L L' : LM} {c : Nat} {sg : Nat → Nat} (h : PdX I c sg) (ho : Off S I L I' L') (h1 : 1 ∉ S) (h2 : 2 ∉ S) : PdX I' c sg := by
  obtain ⟨a1, a2, a3, a4⟩ := h
  exact ⟨a1, by rw [(ho 1 h1).1]; exact a2, fun j hj => by rw [(ho 2 h2).1]; exact a3 j hj, a4⟩
set_option maxRecDepth 20000 in
set_option maxHeartbeats 1000000 in
theorem lp_X4_tellTo {g : Gl} {D : Nat} {b : Bool} {a c : Nat} {sg : Nat → Nat} {post : Option Value → Bool → IM → LM → Prop} (hD : 7 ≤ D) (ha : IsL a) {I0 : IM} {L0 : LM} (h0 : PdX I0 c sg) (hl : ∀ j, pos sg j < c → 1 ≤ lnN (kopn (sg (pos sg j)))) (kk : ∀ I' L' n, c ≤ pos sg n → (∀ j, j < n → pos sg j < c) → LRc I' L' a n (pP sg c) → Off (fL a) I0 L0 I' L' → post none b I' L') : ∀ r i I L, i + r = 60 → (∀ j, j < i → pos sg j < c) → LRc I L a i (pP sg c) → Off (fL a) I0 L0 I L → ∀ k5 k6, Wp (Kn g D MX4_tellTo post) (Tb b) 8 [some (rf g 1), some (rf g a), some (.int (nI (pos sg i))), some (.int (nI i)), k5, k6] [] I L := by
  intro r
  have hc60 : c ≤ 60 := h0.1
  induction r with
  | zero =>
    intro i I L hi hj hR hO k5 k6
    exfalso
    have h1 := pos_ge sg 59 (fun j hj' => hl j (hj j (by omega)))
    have h2 := hj 59 (by omega)
    omega
  | succ r ih =>
    intro i I L hi hj hR hO k5 k6
    obtain ⟨p1, p2, p3, p4⟩ := h0.off hO (L_out ha (by omega)) (L_out ha (by omega))
    have hP : PdX I c sg := ⟨p1, p2, p3, p4⟩
    have hge := pos_ge sg i (fun j hj' => hl j (hj j hj'))
    have hpb : pos sg i < 1000 := by
      cases i with
      | zero => simp [pos]
      | succ i =>
        have h1 := hj i (by omega)
        have h2 := lnN_le (kopn (sg (pos sg i)))
        rw [pos]
        omega
    refine wq_iload_n 9 3 dX4_tellTo_8 rfl rfl rfl ?_
    refine wq_bipush 11 60 dX4_tellTo_9 rfl (by decide) ?_
    refine wq_ic_ge 14 109 dX4_tellTo_11 rfl (by decide) (fun c11 => absurd c11 (nI_ge (b := 60) (by omega) (by decide))) (fun c11 => ?_)
    refine wq_iload_n 15 2 dX4_tellTo_14 rfl rfl rfl ?_
    refine wq_bload_n 16 0 dX4_tellTo_15 rfl rfl rfl ?_
    refine wq_getI 19 fl_X4_15 dX4_tellTo_16 rfl rfl o_1 ?_
    refine wq_ic_ge 22 109 dX4_tellTo_19 rfl (by decide) (fun c19 => ?_) (fun c19 => ?_)
    · skip
      refine rr dX4_tellTo_109 rfl ?_
      refine kk I L i ?_ hj hR hO
      rw [p2] at c19
      exact (nI_leI (by omega) (by omega)).mp c19
    · skip
      have hlt : pos sg i < c := by
        apply Classical.byContradiction
        intro hx
        exact c19 (by rw [p2]; exact nI_le (by omega) (by omega))
      have hs := p4 _ hlt
      refine wq_iload_n 23 2 dX4_tellTo_22 rfl rfl rfl ?_
      refine wq_bipush 25 60 dX4_tellTo_23 rfl (by decide) ?_
      refine wq_ic_ge 28 109 dX4_tellTo_25 rfl (by decide) (fun c25 => absurd c25 (nI_ge (b := 60) (by omega) (by decide))) (fun c25 => ?_)
      refine wq_bload_n 29 0 dX4_tellTo_28 rfl rfl rfl ?_
      refine wq_getR 32 fl_X4_9 dX4_tellTo_29 rfl rfl o_1 (rfl : (Tb _).2.2.2 1 0 = some 2) ?_
      refine wq_iload_n 33 2 dX4_tellTo_32 rfl rfl rfl ?_
      refine wq_iald 34 dX4_tellTo_33 rfl a_2 (Ix.nI (by omega) (by decide)) ?_
      rw [p3 _ hlt]
      refine cSi1 37 (sp_X4_kindOf (by omega) (by omega)) ml_X4_19 mf_X4_kindOf dX4_tellTo_34 rfl (Nat.le_of_ble_eq_true rfl) (by omega) ?_
      refine wq_istore 39 [_, _, _, _, _, _] dX4_tellTo_37 rfl rfl (Nat.le_of_ble_eq_true rfl) rfl ?_
      refine wq_bload_n 40 1 dX4_tellTo_39 rfl rfl rfl ?_
      refine wq_iload 42 dX4_tellTo_40 rfl rfl ?_
      refine wq_bload_n 43 0 dX4_tellTo_42 rfl rfl rfl ?_
      refine wq_iload 45 dX4_tellTo_43 rfl rfl ?_
      refine wq_iconst 46 1 dX4_tellTo_45 rfl (by decide) ?_
      refine wq_iload_n 47 2 dX4_tellTo_46 rfl rfl rfl ?_
      refine cVi3 50 (sp_X4_partOf (by omega) hP _ 1 _ rfl (by omega) hlt) ml_X4_36 mf_X4_partOf dX4_tellTo_47 rfl o_1 (by decide) rfl (Nat.le_of_ble_eq_true rfl) (by omega) ?_
      refine wq_bload_n 51 0 dX4_tellTo_50 rfl rfl rfl ?_
      refine wq_iload 53 dX4_tellTo_51 rfl rfl ?_
      refine wq_iconst 54 2 dX4_tellTo_53 rfl (by decide) ?_
      refine wq_iload_n 55 2 dX4_tellTo_54 rfl rfl rfl ?_
      refine cVi3 58 (sp_X4_partOf (by omega) hP _ 2 _ rfl (by omega) hlt) ml_X4_36 mf_X4_partOf dX4_tellTo_55 rfl o_1 (by decide) rfl (Nat.le_of_ble_eq_true rfl) (by omega) ?_
      refine wq_bload_n 59 0 dX4_tellTo_58 rfl rfl rfl ?_
      refine wq_iload 61 dX4_tellTo_59 rfl rfl ?_
      refine wq_iconst 62 3 dX4_tellTo_61 rfl (by decide) ?_
      refine wq_iload_n 63 2 dX4_tellTo_62 rfl rfl rfl ?_
      refine cVi3 66 (sp_X4_partOf (by omega) hP _ 3 _ rfl (by omega) hlt) ml_X4_36 mf_X4_partOf dX4_tellTo_63 rfl o_1 (by decide) rfl (Nat.le_of_ble_eq_true rfl) (by omega) ?_
      refine cVp4 69 (sp_X2_add (by omega) ha hR (by omega) _ _ _ _) ml_X4_40 mf_X2_add dX4_tellTo_66 rfl (L_ob ha) (by decide) rfl (Nat.le_of_ble_eq_true rfl) (by omega) ?_
      rintro r1 b1 I1 L1 ⟨rfl, rfl, hR1, hO1⟩
      simp only [Option.toList, List.cons_append, List.nil_append]
      refine wq_pop 70 dX4_tellTo_69 rfl rfl ?_
      refine wq_iinc 73 (nI (pos sg i + 1)) [_, _, _, _, _, _] dX4_tellTo_70 rfl rfl (nI_1 _) rfl (Nat.le_of_ble_eq_true rfl) rfl ?_
      refine wq_iconst 74 1 dX4_tellTo_73 rfl (by decide) ?_
      refine wq_istore 76 [_, _, _, _, _, _] dX4_tellTo_74 rfl rfl (Nat.le_of_ble_eq_true rfl) rfl ?_
      refine tl_in (by omega) ha 3 1 (pos sg i + 1) (by omega) (by omega) ?_
      refine wq_iinc 106 (nI (i + 1)) [_, _, _, _, _, _] dX4_tellTo_103 rfl rfl (nI_1 i) rfl (Nat.le_of_ble_eq_true rfl) rfl ?_
      refine wq_goto 8 dX4_tellTo_106 (by decide) ?_
      refine ih (i + 1) I1 L1 (by omega) (fun j hj' => ?_) (LRc_congr hR1 (fun x hx w hw => ?_)) (hO.trans hO1) _ _
      · by_cases e : j = i
        · subst e; exact hlt
        · exact hj j (by omega)
      · by_cases e : x = i
        · subst e
          match w, hw with
          | 0, _ => simp [pX, pP]
          | 1, _ => simp [pX, pP]
          | 2, _ => simp [pX, pP]
          | 3, _ => simp [pX, pP]
        · rw [pX_lt (by omega)]
theorem LR_clear {I : IM} {L : LM} (a : Nat) (p : Pg) : LRc (clI I a) (clL L a) a 0 p := by
  unfold clI clL
  refine ⟨by omega, ?_, ?_, ?_, ?_, fun i hi => absurd hi (by omega), fun i hi => absurd hi (by omega), fun i hi => absurd hi (by omega), fun f hf => ?_⟩
  · simp [va_up, nI_0]
  · simp [va_up, Mv]
  · simp [va_up, Nms]
  · simp [va_up, Tp]
  · simp [va_up, Lb, hf]
theorem Off_clear {I : IM} {L : LM} (a : Nat) : Off (fL a) I L (clI I a) (clL L a) := by
  intro x hx
  simp [fL] at hx
  unfold clI clL
  simp [va_up, hx]
set_option maxRecDepth 20000 in
/-- the program becomes what the pad tells, if each opening has something behind it -/
theorem sp_X4_tellTo {g : Gl} {D : Nat} {b : Bool} {I : IM} {L : LM} {a c : Nat} {sg : Nat → Nat} (hD : 7 ≤ D) (ha : IsL a) (h0 : PdX I c sg) (hl : ∀ j, pos sg j < c → 1 ≤ lnN (kopn (sg (pos sg j)))) : Me g D MX4_tellTo [rf g 1, rf g a] b I L (fun r b' I' L' => r = none ∧ b' = b ∧ (∃ n, c ≤ pos sg n ∧ (∀ j, j < n → pos sg j < c) ∧ LR I' L' a n (pP sg c)) ∧ Off (fL a) I L I' L') := by
  refine Me.of [some (rf g 1), some (rf g a), none, none, none, none] 4 rfl pf_X4_tellTo (Nat.le_of_ble_eq_true rfl) ?_
  refine wq_bload_n 1 1 dX4_tellTo_0 rfl rfl rfl ?_
  refine cVv0 4 (sp_X2_clear ha) ml_X4_31 mf_X2_clear dX4_tellTo_1 rfl (L_ob ha) (by decide) rfl (Nat.le_of_ble_eq_true rfl) (by omega) ?_
  refine wq_iconst 5 0 dX4_tellTo_4 rfl (by decide) ?_
  refine wq_istore_n 6 2 [_, _, _, _, _, _] dX4_tellTo_5 rfl rfl rfl (Nat.le_of_ble_eq_true rfl) rfl ?_
  refine wq_iconst 7 0 dX4_tellTo_6 rfl (by decide) ?_
  refine wq_istore_n 8 3 [_, _, _, _, _, _] dX4_tellTo_7 rfl rfl rfl (Nat.le_of_ble_eq_true rfl) rfl ?_
  exact lp_X4_tellTo hD ha h0 hl (fun I1 L1 n h1 h2 h3 h4 => ⟨rfl, rfl, ⟨n, h1, h2, h3.w⟩, h4⟩) 60 0 _ _ rfl (fun j hj => absurd hj (by omega)) (LR_clear a _) (Off_clear a) _ _
