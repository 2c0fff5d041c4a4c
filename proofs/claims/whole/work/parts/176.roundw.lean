/-! Round: shutMovesOf, takeAway, makeOne -/
theorem wp_eqI {K : Kx} {T : Tx} {pc : Nat} {lv : List (Option Value)} {st : List Value} {I I' : IM} {L : LM} (e : I' = I) (h : Wp K T pc lv st I' L) : Wp K T pc lv st I L := e ▸ h
theorem wp_eqL {K : Kx} {T : Tx} {pc : Nat} {lv : List (Option Value)} {st : List Value} {I : IM} {L L' : LM} (e : L' = L) (h : Wp K T pc lv st I L') : Wp K T pc lv st I L := e ▸ h
theorem RX_I {I I' : IM} {L : LM} {k w mv t : Nat} {f1 f2 : Nat → Nat} {A : RA} (h : RX I L k w mv t f1 f2 A) (e : ∀ x, x ∈ [21, 24, 25, 27, 28, 29, 30, 31] → I' x = I x) : RX I' L k w mv t f1 f2 A := by
  unfold RX
  rw [e 21 (by decide), e 24 (by decide), e 25 (by decide), e 27 (by decide), e 28 (by decide), e 29 (by decide), e 30 (by decide), e 31 (by decide)]
  exact h
set_option maxRecDepth 20000 in
set_option maxHeartbeats 2000000 in
theorem lp_X5_shut {g : Gl} {D : Nat} {b : Bool} {I : IM} {L : LM} {k w mv t x : Nat} {f1 f2 : Nat → Nat} {A : RA} (hD : 2 ≤ D) (h : RX I L k w mv t f1 f2 A) (hg : GA mv t f1 f2 A) (hx : x < 64) {post : Option Value → Bool → IM → LM → Prop} (hp : ∀ O, (∀ m, m < mv → O m = bI (aO A m && !inA f1 f2 A m x)) → post none b (va_up I 29 O) L) : ∀ r q O, q + r = mv → (∀ m, m < mv → O m = bI (if m < q then aO A m && !inA f1 f2 A m x else aO A m)) → Wp (Kn g D MX5_shutMovesOf post) (Tb b) 2 [some (rf g 21), some (.int (nI x)), some (.int (nI q))] [] (va_up I 29 O) L := by
  obtain ⟨-, -, hA, -, -, -, -, -, -, -, hm, hF, -, -⟩ := h
  obtain ⟨ga, -, -, -, -, -, -, gm, gf, -, -⟩ := hg
  intro r
  induction r with
  | zero =>
    intro q O hq hO
    have eq : q = mv := by omega
    subst eq
    refine wq_iload_n 3 2 dX5_shutMovesOf_2 rfl rfl rfl ?_
    refine wq_bload_n 4 0 dX5_shutMovesOf_3 rfl rfl rfl ?_
    refine wq_getI 7 fl_X5_48 dX5_shutMovesOf_4 rfl rfl o_21 ?_
    refine wq_ic_ge 10 51 dX5_shutMovesOf_7 rfl (by decide) (fun c7 => ?_) (fun c7 => absurd (by rw [va_up_ne _ _ (by decide), hm]; exact nI_le (Nat.le_refl _) (by omega)) c7)
    refine rr dX5_shutMovesOf_51 rfl ?_
    exact hp O (fun m hm => by rw [hO m hm, if_pos hm])
  | succ r ih =>
    intro q O hq hO
    obtain ⟨F1, F2⟩ := hF q (by omega)
    obtain ⟨g1, g2⟩ := gf q (by omega)
    have l1 := rt_lt ga g1
    have l2 := rt_lt ga g2
    have hIn : inA f1 f2 A q x = (decide (rt (aA A) (f1 q) = x) || decide (rt (aA A) (f2 q) = x)) := rfl
    refine wq_iload_n 3 2 dX5_shutMovesOf_2 rfl rfl rfl ?_
    refine wq_bload_n 4 0 dX5_shutMovesOf_3 rfl rfl rfl ?_
    refine wq_getI 7 fl_X5_48 dX5_shutMovesOf_4 rfl rfl o_21 ?_
    refine wq_ic_ge 10 51 dX5_shutMovesOf_7 rfl (by decide) (fun c7 => absurd c7 (by rw [va_up_ne _ _ (by decide), hm]; exact nI_ge (by omega) (by omega))) (fun c7 => ?_)
    refine wq_bload_n 11 0 dX5_shutMovesOf_10 rfl rfl rfl ?_
    refine wq_bload_n 12 0 dX5_shutMovesOf_11 rfl rfl rfl ?_
    refine wq_getR 15 fl_X5_28 dX5_shutMovesOf_12 rfl rfl o_21 (rfl : (Tb _).2.2.2 21 5 = some 27) ?_
    refine wq_iload_n 16 2 dX5_shutMovesOf_15 rfl rfl rfl ?_
    refine wq_iald 17 dX5_shutMovesOf_16 rfl a_27 (Ix.nI (by omega) (by decide)) ?_
    refine cVi1 20 (sp_X5_nodeOf (by omega) (fun n hn => by rw [va_up_ne _ _ (by decide)]; exact hA n hn) ga (f1 q) (by rw [va_up_ne _ _ (by decide)]; exact F1) g1) ml_X5_136 mf_X5_nodeOf dX5_shutMovesOf_17 rfl o_21 (by decide) rfl (Nat.le_of_ble_eq_true rfl) (by omega) ?_
    refine wq_iload_n 21 1 dX5_shutMovesOf_20 rfl rfl rfl ?_
    refine wq_ic_eq 24 38 dX5_shutMovesOf_21 rfl (by decide) (fun c21 => ?_) (fun c21 => ?_)
    · skip
      refine wq_bload_n 39 0 dX5_shutMovesOf_38 rfl rfl rfl ?_
      refine wq_getR 42 fl_X5_34 dX5_shutMovesOf_39 rfl rfl o_21 (rfl : (Tb _).2.2.2 21 7 = some 29) ?_
      refine wq_iload_n 43 2 dX5_shutMovesOf_42 rfl rfl rfl ?_
      refine wq_iconst 44 0 dX5_shutMovesOf_43 rfl (by decide) ?_
      refine wq_zast 45 dX5_shutMovesOf_44 rfl a_29 (Ix.nI (by omega) (by decide)) rfl ?_
      refine wq_iinc 48 (_ + 1) [_, _, _] dX5_shutMovesOf_45 rfl rfl (inc1 _) rfl (Nat.le_of_ble_eq_true rfl) rfl ?_
      refine wq_goto 2 dX5_shutMovesOf_48 (by decide) ?_
      have e := (nI_eq (by omega) (by omega)).mp c21
      rw [← nI_succ, va_up_self, va_up_up]
      refine ih (q + 1) _ (by omega) (fun m hm => ?_)
      by_cases em : m = q
      · rw [em, va_up_self, if_pos (by omega), hIn, decide_eq_true e]
        simp [bI]
      · rw [va_up_ne _ _ em, hO m hm]
        have : (m < q + 1) = (m < q) := propext (by omega)
        simp only [this]
    · skip
      refine wq_bload_n 25 0 dX5_shutMovesOf_24 rfl rfl rfl ?_
      refine wq_bload_n 26 0 dX5_shutMovesOf_25 rfl rfl rfl ?_
      refine wq_getR 29 fl_X5_31 dX5_shutMovesOf_26 rfl rfl o_21 (rfl : (Tb _).2.2.2 21 6 = some 28) ?_
      refine wq_iload_n 30 2 dX5_shutMovesOf_29 rfl rfl rfl ?_
      refine wq_iald 31 dX5_shutMovesOf_30 rfl a_28 (Ix.nI (by omega) (by decide)) ?_
      refine cVi1 34 (sp_X5_nodeOf (by omega) (fun n hn => by rw [va_up_ne _ _ (by decide)]; exact hA n hn) ga (f2 q) (by rw [va_up_ne _ _ (by decide)]; exact F2) g2) ml_X5_136 mf_X5_nodeOf dX5_shutMovesOf_31 rfl o_21 (by decide) rfl (Nat.le_of_ble_eq_true rfl) (by omega) ?_
      refine wq_iload_n 35 1 dX5_shutMovesOf_34 rfl rfl rfl ?_
      refine wq_ic_ne 38 45 dX5_shutMovesOf_35 rfl (by decide) (fun c35 => ?_) (fun c35 => ?_)
      · skip
        refine wq_iinc 48 (_ + 1) [_, _, _] dX5_shutMovesOf_45 rfl rfl (inc1 _) rfl (Nat.le_of_ble_eq_true rfl) rfl ?_
        refine wq_goto 2 dX5_shutMovesOf_48 (by decide) ?_
        have e1 : ¬ rt (aA A) (f1 q) = x := fun e => c21 (by rw [e])
        have e2 : ¬ rt (aA A) (f2 q) = x := fun e => c35 (by rw [e])
        rw [← nI_succ]
        refine ih (q + 1) O (by omega) (fun m hm => ?_)
        by_cases em : m = q
        · rw [hO m hm, em, if_neg (by omega), if_pos (by omega), hIn, decide_eq_false e1, decide_eq_false e2]
          simp
        · rw [hO m hm]
          have : (m < q + 1) = (m < q) := propext (by omega)
          simp only [this]
      · skip
        refine wq_bload_n 39 0 dX5_shutMovesOf_38 rfl rfl rfl ?_
        refine wq_getR 42 fl_X5_34 dX5_shutMovesOf_39 rfl rfl o_21 (rfl : (Tb _).2.2.2 21 7 = some 29) ?_
        refine wq_iload_n 43 2 dX5_shutMovesOf_42 rfl rfl rfl ?_
        refine wq_iconst 44 0 dX5_shutMovesOf_43 rfl (by decide) ?_
        refine wq_zast 45 dX5_shutMovesOf_44 rfl a_29 (Ix.nI (by omega) (by decide)) rfl ?_
        refine wq_iinc 48 (_ + 1) [_, _, _] dX5_shutMovesOf_45 rfl rfl (inc1 _) rfl (Nat.le_of_ble_eq_true rfl) rfl ?_
        refine wq_goto 2 dX5_shutMovesOf_48 (by decide) ?_
        have e := (nI_eq (by omega) (by omega)).mp c35
        rw [← nI_succ, va_up_self, va_up_up]
        refine ih (q + 1) _ (by omega) (fun m hm => ?_)
        by_cases em : m = q
        · rw [em, va_up_self, if_pos (by omega), hIn, decide_eq_true e]
          simp [bI]
        · rw [va_up_ne _ _ em, hO m hm]
          have : (m < q + 1) = (m < q) := propext (by omega)
          simp only [this]
set_option maxRecDepth 20000 in
theorem sp_X5_shut {g : Gl} {D : Nat} {b : Bool} {I : IM} {L : LM} {k w mv t x : Nat} {f1 f2 : Nat → Nat} {A : RA} (hD : 2 ≤ D) (h : RX I L k w mv t f1 f2 A) (hg : GA mv t f1 f2 A) {i : Int32} (hi : i = nI x) (hx : x < 64) : Me g D MX5_shutMovesOf [rf g 21, .int i] b I L (fun r b' I' L' => r = none ∧ b' = b ∧ L' = L ∧ RX I' L k w mv t f1 f2 (shutA f1 f2 A x) ∧ ∀ z, z ≠ 29 → I' z = I z) := by
  subst hi
  refine Me.of [some (rf g 21), some (.int (nI x)), none] 1 rfl pf_X5_shutMovesOf (Nat.le_of_ble_eq_true rfl) ?_
  refine wq_iconst 1 0 dX5_shutMovesOf_0 rfl (by decide) ?_
  refine wq_istore_n 2 2 [_, _, _] dX5_shutMovesOf_1 rfl rfl rfl (Nat.le_of_ble_eq_true rfl) rfl ?_
  refine wp_eqI (va_up_id I 29) ?_
  refine lp_X5_shut hD h hg hx (fun O hO => ⟨rfl, rfl, rfl, ?_, fun z hz => va_up_ne _ _ hz⟩) mv 0 _ (by omega) (fun m hm => by rw [if_neg (by omega)]; exact h.2.2.2.2.1 m hm)
  obtain ⟨h1, h2, h3, h4, h5, h6, h7, h8, h9, h10, h11, h12, h13, h14⟩ := h
  exact ⟨h1, h2, h3, h4, hO, h6, h7, h8, h9, h10, h11, h12, h13, h14⟩
set_option maxRecDepth 20000 in
set_option maxHeartbeats 2000000 in
theorem lp_X5_take {g : Gl} {D : Nat} {b : Bool} {I : IM} {L : LM} {t x : Nat} {N : Nat → Int64} (hD : 1 ≤ D) (ht : I 21 10 = nI t) (ht2 : t ≤ 64) (hx : x < 64) (hxx : tb (N x) x = false) (hN : ∀ y, y < 64 → tb (N x) y = true → y < t) {post : Option Value → Bool → IM → LM → Prop} (kk : ∀ E l2, (∀ y, y < 64 → E y = if tb (N x) y = true then N y &&& noB x else N y) → Wp (Kn g D MX5_takeAway post) (Tb b) 72 [some (rf g 21), some (.int (nI x)), l2] [] I (va_up L 22 E)) : ∀ r q E, q + r = t → (∀ y, y < 64 → E y = if y < q ∧ tb (N x) y = true then N y &&& noB x else N y) → Wp (Kn g D MX5_takeAway post) (Tb b) 29 [some (rf g 21), some (.int (nI x)), some (.int (nI q))] [] I (va_up L 22 E) := by
  intro r
  induction r with
  | zero =>
    intro q E hq hE
    have eq : q = t := by omega
    subst eq
    refine wq_iload_n 30 2 dX5_takeAway_29 rfl rfl rfl ?_
    refine wq_bload_n 31 0 dX5_takeAway_30 rfl rfl rfl ?_
    refine wq_getI 34 fl_X5_44 dX5_takeAway_31 rfl rfl o_21 ?_
    refine wq_ic_ge 37 72 dX5_takeAway_34 rfl (by decide) (fun c34 => ?_) (fun c34 => absurd (by rw [ht]; exact nI_le (Nat.le_refl _) (by omega)) c34)
    refine kk E _ (fun y hy => ?_)
    rw [hE y hy]
    by_cases c : tb (N x) y = true
    · rw [if_pos ⟨hN y hy c, c⟩, if_pos c]
    · rw [if_neg (fun z => c z.2), if_neg c]
  | succ r ih =>
    intro q E hq hE
    have hEx : E x = N x := by rw [hE x hx, if_neg (fun z => by rw [hxx] at z; exact absurd z.2 (by decide))]
    refine wq_iload_n 30 2 dX5_takeAway_29 rfl rfl rfl ?_
    refine wq_bload_n 31 0 dX5_takeAway_30 rfl rfl rfl ?_
    refine wq_getI 34 fl_X5_44 dX5_takeAway_31 rfl rfl o_21 ?_
    refine wq_ic_ge 37 72 dX5_takeAway_34 rfl (by decide) (fun c34 => absurd c34 (by rw [ht]; exact nI_ge (by omega) (by omega))) (fun c34 => ?_)
    refine wq_bload_n 38 0 dX5_takeAway_37 rfl rfl rfl ?_
    refine wq_getR 41 fl_X5_9 dX5_takeAway_38 rfl rfl o_21 (rfl : (Tb _).2.2.2 21 0 = some 22) ?_
    refine wq_iload_n 42 1 dX5_takeAway_41 rfl rfl rfl ?_
    refine wq_lald 43 dX5_takeAway_42 rfl a_22 (Ix.nI (by omega) (by decide)) ?_
    rw [va_up_self, hEx]
    refine wq_iload_n 44 2 dX5_takeAway_43 rfl rfl rfl ?_
    refine cSi2 47 (sp_X7_has _ _) ml_X5_132 mf_X7_has dX5_takeAway_44 rfl (Nat.le_of_ble_eq_true rfl) (by omega) ?_
    refine wq_if_eq 50 66 dX5_takeAway_47 rfl (by decide) (fun c47 => ?_) (fun c47 => ?_)
    · skip
      refine wq_iinc 69 (_ + 1) [_, _, _] dX5_takeAway_66 rfl rfl (inc1 _) rfl (Nat.le_of_ble_eq_true rfl) rfl ?_
      refine wq_goto 29 dX5_takeAway_69 (by decide) ?_
      have hb := (hasX_eq0 (N x) (k := q) (by omega)).mp c47
      rw [← nI_succ]
      refine ih (q + 1) E (by omega) (fun y hy => ?_)
      rw [hE y hy]
      by_cases e : y = q
      · rw [e, hb]; simp
      · have : (y < q + 1) = (y < q) := propext (by omega)
        simp only [this]
    · skip
      refine wq_bload_n 51 0 dX5_takeAway_50 rfl rfl rfl ?_
      refine wq_getR 54 fl_X5_9 dX5_takeAway_51 rfl rfl o_21 (rfl : (Tb _).2.2.2 21 0 = some 22) ?_
      refine wq_iload_n 55 2 dX5_takeAway_54 rfl rfl rfl ?_
      refine wq_dup2 56 dX5_takeAway_55 rfl rfl rfl ?_
      refine wq_lald 57 dX5_takeAway_56 rfl a_22 (Ix.nI (by omega) (by decide)) ?_
      refine wq_lconst 58 1 dX5_takeAway_57 rfl (by decide) ?_
      refine wq_iload_n 59 1 dX5_takeAway_58 rfl rfl rfl ?_
      refine wq_lshl 60 dX5_takeAway_59 rfl ?_
      refine wq_ldc2 63 (-1) dX5_takeAway_60 rfl kc_X5_142 ?_
      refine wq_lxor 64 dX5_takeAway_63 rfl ?_
      refine wq_land 65 dX5_takeAway_64 rfl ?_
      refine wq_last 66 dX5_takeAway_65 rfl a_22 (Ix.nI (by omega) (by decide)) ?_
      refine wq_iinc 69 (_ + 1) [_, _, _] dX5_takeAway_66 rfl rfl (inc1 _) rfl (Nat.le_of_ble_eq_true rfl) rfl ?_
      refine wq_goto 29 dX5_takeAway_69 (by decide) ?_
      have hb := (hasX_ne0 (N x) (k := q) (by omega)).mp c47
      rw [← nI_succ, va_up_self, va_up_up]
      refine ih (q + 1) _ (by omega) (fun y hy => ?_)
      by_cases e : y = q
      · rw [e, va_up_self, if_pos ⟨by omega, hb⟩, hE q (by omega), if_neg (by omega)]
        rfl
      · rw [va_up_ne _ _ e, hE y hy]
        have : (y < q + 1) = (y < q) := propext (by omega)
        simp only [this]
set_option maxRecDepth 20000 in
set_option maxHeartbeats 2000000 in
theorem sp_X5_take {g : Gl} {D : Nat} {b : Bool} {I : IM} {L : LM} {k w mv t x : Nat} {f1 f2 : Nat → Nat} {A : RA} (hD : 1 ≤ D) (h : RX I L k w mv t f1 f2 A) (hg : GA mv t f1 f2 A) {i : Int32} (hi : i = nI x) (hx : x < 64) (hxl : tb (aL A) x = true) (hK : aK A < 64) : Me g D MX5_takeAway [rf g 21, .int i] b I L (fun r b' I' L' => r = none ∧ b' = b ∧ RX I' L' k w mv t f1 f2 (takeA A x) ∧ (∀ z, z ≠ 21 → z ≠ 30 → I' z = I z) ∧ (∀ z, z ≠ 12 → I' 21 z = I 21 z) ∧ (∀ z, z ≠ 21 → z ≠ 22 → L' z = L z) ∧ ∀ z, z ≠ 14 → L' 21 z = L 21 z) := by
  subst hi
  obtain ⟨h1, h2, h3, h4, h5, h6, h7, h8, h9, h10, h11, h12, h13, h14⟩ := h
  obtain ⟨ga, gt, gt2, gl, gr, gn, -, gm, gf, -, -⟩ := hg
  refine Me.of [some (rf g 21), some (.int (nI x)), none] 1 rfl pf_X5_takeAway (Nat.le_of_ble_eq_true rfl) ?_
  have hxx : tb (aN A x) x = false := Bool.eq_false_iff.mpr (fun z => (gn x hx hxl x hx z).2.1 rfl)
  have kk : ∀ E l2, (∀ y, y < 64 → E y = if tb (aN A x) y = true then aN A y &&& noB x else aN A y) → Wp (Kn g D MX5_takeAway (fun r b' I' L' => r = none ∧ b' = b ∧ RX I' L' k w mv t f1 f2 (takeA A x) ∧ (∀ z, z ≠ 21 → z ≠ 30 → I' z = I z) ∧ (∀ z, z ≠ 12 → I' 21 z = I 21 z) ∧ (∀ z, z ≠ 21 → z ≠ 22 → L' z = L z) ∧ ∀ z, z ≠ 14 → L' 21 z = L 21 z)) (Tb b) 72 [some (rf g 21), some (.int (nI x)), l2] [] I (va_up L 22 E) := by
    intro E l2 hE
    refine wq_bload_n 73 0 dX5_takeAway_72 rfl rfl rfl ?_
    refine wq_dup 74 dX5_takeAway_73 rfl rfl ?_
    refine wq_getL 77 fl_X5_57 dX5_takeAway_74 rfl rfl o_21 ?_
    refine wq_lconst 78 1 dX5_takeAway_77 rfl (by decide) ?_
    refine wq_iload_n 79 1 dX5_takeAway_78 rfl rfl rfl ?_
    refine wq_lshl 80 dX5_takeAway_79 rfl ?_
    refine wq_ldc2 83 (-1) dX5_takeAway_80 rfl kc_X5_142 ?_
    refine wq_lxor 84 dX5_takeAway_83 rfl ?_
    refine wq_land 85 dX5_takeAway_84 rfl ?_
    refine wq_putL 88 fl_X5_57 dX5_takeAway_85 rfl rfl rfl rfl rfl o_21 ?_
    refine wq_bload_n 89 0 dX5_takeAway_88 rfl rfl rfl ?_
    refine wq_getR 92 fl_X5_38 dX5_takeAway_89 rfl rfl o_21 (rfl : (Tb _).2.2.2 21 8 = some 30) ?_
    refine wq_bload_n 93 0 dX5_takeAway_92 rfl rfl rfl ?_
    refine wq_getI 96 fl_X5_51 dX5_takeAway_93 rfl rfl o_21 ?_
    refine wq_iload_n 97 1 dX5_takeAway_96 rfl rfl rfl ?_
    refine wq_iast 98 dX5_takeAway_97 rfl a_30 (by rw [h7]; exact Ix.nI (by omega) (by decide)) ?_
    refine wq_bload_n 99 0 dX5_takeAway_98 rfl rfl rfl ?_
    refine wq_dup 100 dX5_takeAway_99 rfl rfl ?_
    refine wq_getI 103 fl_X5_51 dX5_takeAway_100 rfl rfl o_21 ?_
    refine wq_iconst 104 1 dX5_takeAway_103 rfl (by decide) ?_
    refine wq_iadd 105 dX5_takeAway_104 rfl ?_
    refine wq_putI 108 fl_X5_51 dX5_takeAway_105 rfl rfl rfl rfl rfl o_21 ?_
    refine wq_gen (fun I1 L1 eI1 eL1 => ?_)
    refine rr dX5_takeAway_108 rfl ?_
    have i21 : I1 21 = va_up (I 21) 12 (nI (aK A + 1)) := by rw [eI1, va_up_self, va_up_ne _ _ (show 21 ≠ 30 by decide), h7, nI_succ]
    have i30 : I1 30 = va_up (I 30) (aK A) (nI x) := by rw [eI1, va_up_ne _ _ (by decide), va_up_self]
    have ix : ∀ z, z ≠ 21 → z ≠ 30 → I1 z = I z := fun z z1 z2 => by rw [eI1, va_up_ne _ _ z1, va_up_ne _ _ z2]
    have l21 : L1 21 = va_up (L 21) 14 (aL A &&& noB x) := by rw [eL1, va_up_self, va_up_ne _ _ (show 21 ≠ 22 by decide), h2]; rfl
    have l22 : L1 22 = E := by rw [eL1, va_up_ne _ _ (by decide), va_up_self]
    have lx : ∀ z, z ≠ 21 → z ≠ 22 → L1 z = L z := fun z z1 z2 => by rw [eL1, va_up_ne _ _ z1, va_up_ne _ _ z2]
    clear eI1 eL1
    refine ⟨rfl, rfl, ⟨fun n hn => ?_, ?_, fun n hn => ?_, fun n hn n4 hl => ?_, fun m hm => ?_, fun i hi => ?_, ?_, fun i hi => ?_, ?_, ?_, ?_, fun m hm => ?_, ?_, ?_⟩, ix, fun z hz => by rw [i21, va_up_ne _ _ hz], lx, fun z hz => by rw [l21, va_up_ne _ _ hz]⟩
    · rw [l22, hE n hn]; rfl
    · rw [l21, va_up_self]; rfl
    · rw [ix 25 (by decide) (by decide)]; exact h3 n hn
    · rw [ix 24 (by decide) (by decide)]
      refine h4 n hn n4 ?_
      have hl' : tb (aL A &&& noB x) n = true := hl
      rw [tb_and, Bool.and_eq_true] at hl'
      exact hl'.1
    · rw [ix 29 (by decide) (by decide)]; exact h5 m hm
    · have hi' : i < aK A + 1 := hi
      rw [i30]
      show _ = nI (va_up (aT A) (aK A) x i)
      by_cases e : i = aK A
      · rw [e, va_up_self, va_up_self]
      · rw [va_up_ne _ _ e, va_up_ne _ _ e]; exact h6 i (by omega)
    · rw [i21, va_up_self]; rfl
    · rw [ix 31 (by decide) (by decide)]; exact h8 i hi
    · rw [i21, va_up_ne _ _ (by decide)]; exact h9
    · rw [i21, va_up_ne _ _ (by decide)]; exact h10
    · rw [i21, va_up_ne _ _ (by decide)]; exact h11
    · rw [ix 27 (by decide) (by decide), ix 28 (by decide) (by decide)]; exact h12 m hm
    · rw [i21, va_up_ne _ _ (by decide)]; exact h13
    · rw [i21, va_up_ne _ _ (by decide)]; exact h14
  refine wq_iload_n 1 1 dX5_takeAway_0 rfl rfl rfl ?_
  refine wq_if_lt 4 26 dX5_takeAway_1 rfl (by decide) (fun c1 => absurd c1 (nI_pos (by omega))) (fun c1 => ?_)
  refine wq_iload_n 5 1 dX5_takeAway_4 rfl rfl rfl ?_
  refine wq_bipush 7 64 dX5_takeAway_5 rfl (by decide) ?_
  refine wq_ic_ge 10 26 dX5_takeAway_7 rfl (by decide) (fun c7 => absurd c7 (nI_ge (b := 64) hx (by decide))) (fun c7 => ?_)
  refine wq_bload_n 11 0 dX5_takeAway_10 rfl rfl rfl ?_
  refine wq_getI 14 fl_X5_51 dX5_takeAway_11 rfl rfl o_21 ?_
  refine wq_if_lt 17 26 dX5_takeAway_14 rfl (by decide) (fun c14 => absurd c14 (by rw [h7]; exact nI_pos (by omega))) (fun c14 => ?_)
  refine wq_bload_n 18 0 dX5_takeAway_17 rfl rfl rfl ?_
  refine wq_getI 21 fl_X5_51 dX5_takeAway_18 rfl rfl o_21 ?_
  refine wq_bipush 23 64 dX5_takeAway_21 rfl (by decide) ?_
  refine wq_ic_lt 26 27 dX5_takeAway_23 rfl (by decide) (fun c23 => ?_) (fun c23 => absurd (by rw [h7]; exact nI_lt (b := 64) hK (by decide)) c23)
  refine wq_iconst 28 0 dX5_takeAway_27 rfl (by decide) ?_
  refine wq_istore_n 29 2 [_, _, _] dX5_takeAway_28 rfl rfl rfl (Nat.le_of_ble_eq_true rfl) rfl ?_
  refine wp_eqL (va_up_id L 22) ?_
  refine lp_X5_take hD h10 gt2 hx hxx (fun y hy hb => gl y hy (gn x hx hxl y hy hb).1) kk t 0 _ (by omega) (fun y hy => ?_)
  rw [if_neg (by omega)]
  exact h1 y hy
theorem mrg_self {N : Nat → Int64} {x y : Nat} (h : tb (N y) y = false) : mrgN N x y y = N y := by
  unfold mrgN
  rw [if_neg (by rw [h]; decide)]
set_option maxRecDepth 20000 in
set_option maxHeartbeats 2000000 in
theorem lp_X5_merge {g : Gl} {D : Nat} {b : Bool} {I : IM} {L : LM} {t x y : Nat} {N : Nat → Int64} (hD : 1 ≤ D) (ht : I 21 10 = nI t) (ht2 : t ≤ 64) (hx : x < 64) (hy : y < 64) (hyy : tb (N y) y = false) (hN : ∀ v, v < 64 → tb (N y) v = true → v < t) {post : Option Value → Bool → IM → LM → Prop} (kk : ∀ E l3, (∀ v, v < 64 → E v = mrgN N x y v) → Wp (Kn g D MX5_makeOne post) (Tb b) 74 [some (rf g 21), some (.int (nI x)), some (.int (nI y)), l3] [] I (va_up L 22 E)) : ∀ r q E, q + r = t → (∀ v, v < 64 → E v = if v < q then mrgN N x y v else N v) → Wp (Kn g D MX5_makeOne post) (Tb b) 23 [some (rf g 21), some (.int (nI x)), some (.int (nI y)), some (.int (nI q))] [] I (va_up L 22 E) := by
  intro r
  induction r with
  | zero =>
    intro q E hq hE
    have eq : q = t := by omega
    subst eq
    refine wq_iload_n 24 3 dX5_makeOne_23 rfl rfl rfl ?_
    refine wq_bload_n 25 0 dX5_makeOne_24 rfl rfl rfl ?_
    refine wq_getI 28 fl_X5_44 dX5_makeOne_25 rfl rfl o_21 ?_
    refine wq_ic_ge 31 74 dX5_makeOne_28 rfl (by decide) (fun c28 => ?_) (fun c28 => absurd (by rw [ht]; exact nI_le (Nat.le_refl _) (by omega)) c28)
    refine kk E _ (fun v hv => ?_)
    rw [hE v hv]
    by_cases c : v < q
    · rw [if_pos c]
    · rw [if_neg c, mrgN, if_neg (fun z => c (hN v hv z))]
  | succ r ih =>
    intro q E hq hE
    have hEy : E y = N y := by
      rw [hE y hy, mrg_self hyy]
      simp
    refine wq_iload_n 24 3 dX5_makeOne_23 rfl rfl rfl ?_
    refine wq_bload_n 25 0 dX5_makeOne_24 rfl rfl rfl ?_
    refine wq_getI 28 fl_X5_44 dX5_makeOne_25 rfl rfl o_21 ?_
    refine wq_ic_ge 31 74 dX5_makeOne_28 rfl (by decide) (fun c28 => absurd c28 (by rw [ht]; exact nI_ge (by omega) (by omega))) (fun c28 => ?_)
    refine wq_bload_n 32 0 dX5_makeOne_31 rfl rfl rfl ?_
    refine wq_getR 35 fl_X5_9 dX5_makeOne_32 rfl rfl o_21 (rfl : (Tb _).2.2.2 21 0 = some 22) ?_
    refine wq_iload_n 36 2 dX5_makeOne_35 rfl rfl rfl ?_
    refine wq_lald 37 dX5_makeOne_36 rfl a_22 (Ix.nI (by omega) (by decide)) ?_
    rw [va_up_self, hEy]
    refine wq_iload_n 38 3 dX5_makeOne_37 rfl rfl rfl ?_
    refine cSi2 41 (sp_X7_has _ _) ml_X5_132 mf_X7_has dX5_makeOne_38 rfl (Nat.le_of_ble_eq_true rfl) (by omega) ?_
    refine wq_if_eq 44 68 dX5_makeOne_41 rfl (by decide) (fun c41 => ?_) (fun c41 => ?_)
    · skip
      refine wq_iinc 71 (_ + 1) [_, _, _, _] dX5_makeOne_68 rfl rfl (inc1 _) rfl (Nat.le_of_ble_eq_true rfl) rfl ?_
      refine wq_goto 23 dX5_makeOne_71 (by decide) ?_
      have hb := (hasX_eq0 (N y) (k := q) (by omega)).mp c41
      rw [← nI_succ]
      refine ih (q + 1) E (by omega) (fun v hv => ?_)
      rw [hE v hv]
      by_cases e : v = q
      · rw [e, if_neg (by omega), if_pos (by omega), mrgN, if_neg (by rw [hb]; decide)]
      · have : (v < q + 1) = (v < q) := propext (by omega)
        simp only [this]
    · skip
      refine wq_bload_n 45 0 dX5_makeOne_44 rfl rfl rfl ?_
      refine wq_getR 48 fl_X5_9 dX5_makeOne_45 rfl rfl o_21 (rfl : (Tb _).2.2.2 21 0 = some 22) ?_
      refine wq_iload_n 49 3 dX5_makeOne_48 rfl rfl rfl ?_
      refine wq_bload_n 50 0 dX5_makeOne_49 rfl rfl rfl ?_
      refine wq_getR 53 fl_X5_9 dX5_makeOne_50 rfl rfl o_21 (rfl : (Tb _).2.2.2 21 0 = some 22) ?_
      refine wq_iload_n 54 3 dX5_makeOne_53 rfl rfl rfl ?_
      refine wq_lald 55 dX5_makeOne_54 rfl a_22 (Ix.nI (by omega) (by decide)) ?_
      refine wq_lconst 56 1 dX5_makeOne_55 rfl (by decide) ?_
      refine wq_iload_n 57 2 dX5_makeOne_56 rfl rfl rfl ?_
      refine wq_lshl 58 dX5_makeOne_57 rfl ?_
      refine wq_ldc2 61 (-1) dX5_makeOne_58 rfl kc_X5_142 ?_
      refine wq_lxor 62 dX5_makeOne_61 rfl ?_
      refine wq_land 63 dX5_makeOne_62 rfl ?_
      refine wq_lconst 64 1 dX5_makeOne_63 rfl (by decide) ?_
      refine wq_iload_n 65 1 dX5_makeOne_64 rfl rfl rfl ?_
      refine wq_lshl 66 dX5_makeOne_65 rfl ?_
      refine wq_lor 67 dX5_makeOne_66 rfl ?_
      refine wq_last 68 dX5_makeOne_67 rfl a_22 (Ix.nI (by omega) (by decide)) ?_
      refine wq_iinc 71 (_ + 1) [_, _, _, _] dX5_makeOne_68 rfl rfl (inc1 _) rfl (Nat.le_of_ble_eq_true rfl) rfl ?_
      refine wq_goto 23 dX5_makeOne_71 (by decide) ?_
      have hb := (hasX_ne0 (N y) (k := q) (by omega)).mp c41
      rw [← nI_succ, va_up_self, va_up_up]
      refine ih (q + 1) _ (by omega) (fun v hv => ?_)
      by_cases e : v = q
      · rw [e, va_up_self, if_pos (by omega), hE q (by omega), if_neg (by omega), mrgN, if_pos hb]
        rfl
      · rw [va_up_ne _ _ e, hE v hv]
        have : (v < q + 1) = (v < q) := propext (by omega)
        simp only [this]
set_option maxRecDepth 20000 in
set_option maxHeartbeats 2000000 in
theorem sp_X5_merge {g : Gl} {D : Nat} {b : Bool} {I : IM} {L : LM} {k w mv t x y : Nat} {f1 f2 : Nat → Nat} {A : RA} (hD : 1 ≤ D) (h : RX I L k w mv t f1 f2 A) (hg : GA mv t f1 f2 A) {i j : Int32} (hi : i = nI x) (hj : j = nI y) (hx : x < 64) (hy : y < 64) (hxy : x < y) (hxl : tb (aL A) x = true) (hyl : tb (aL A) y = true) (hy4 : 4 ≤ y) : Me g D MX5_makeOne [rf g 21, .int i, .int j] b I L (fun r b' I' L' => r = none ∧ b' = b ∧ RX I' L' k w mv t f1 f2 (mergeA A x y) ∧ (∀ z, z ≠ 24 → z ≠ 25 → I' z = I z) ∧ (∀ z, z ≠ 21 → z ≠ 22 → L' z = L z) ∧ ∀ z, z ≠ 14 → L' 21 z = L 21 z) := by
  subst hi hj
  obtain ⟨h1, h2, h3, h4, h5, h6, h7, h8, h9, h10, h11, h12, h13, h14⟩ := h
  obtain ⟨ga, gt, gt2, gl, gr, gn, -, gm, gf, -, -⟩ := hg
  refine Me.of [some (rf g 21), some (.int (nI x)), some (.int (nI y)), none] 1 rfl pf_X5_makeOne (Nat.le_of_ble_eq_true rfl) ?_
  have hyy : tb (aN A y) y = false := Bool.eq_false_iff.mpr (fun z => (gn y hy hyl y hy z).2.1 rfl)
  have kk : ∀ E l3, (∀ v, v < 64 → E v = mrgN (aN A) x y v) → Wp (Kn g D MX5_makeOne (fun r b' I' L' => r = none ∧ b' = b ∧ RX I' L' k w mv t f1 f2 (mergeA A x y) ∧ (∀ z, z ≠ 24 → z ≠ 25 → I' z = I z) ∧ (∀ z, z ≠ 21 → z ≠ 22 → L' z = L z) ∧ ∀ z, z ≠ 14 → L' 21 z = L 21 z)) (Tb b) 74 [some (rf g 21), some (.int (nI x)), some (.int (nI y)), l3] [] I (va_up L 22 E) := by
    intro E l3 hE
    refine wq_bload_n 75 0 dX5_makeOne_74 rfl rfl rfl ?_
    refine wq_getR 78 fl_X5_9 dX5_makeOne_75 rfl rfl o_21 (rfl : (Tb _).2.2.2 21 0 = some 22) ?_
    refine wq_iload_n 79 1 dX5_makeOne_78 rfl rfl rfl ?_
    refine wq_dup2 80 dX5_makeOne_79 rfl rfl rfl ?_
    refine wq_lald 81 dX5_makeOne_80 rfl a_22 (Ix.nI (by omega) (by decide)) ?_
    refine wq_bload_n 82 0 dX5_makeOne_81 rfl rfl rfl ?_
    refine wq_getR 85 fl_X5_9 dX5_makeOne_82 rfl rfl o_21 (rfl : (Tb _).2.2.2 21 0 = some 22) ?_
    refine wq_iload_n 86 2 dX5_makeOne_85 rfl rfl rfl ?_
    refine wq_lald 87 dX5_makeOne_86 rfl a_22 (Ix.nI (by omega) (by decide)) ?_
    refine wq_lor 88 dX5_makeOne_87 rfl ?_
    refine wq_last 89 dX5_makeOne_88 rfl a_22 (Ix.nI (by omega) (by decide)) ?_
    refine wq_bload_n 90 0 dX5_makeOne_89 rfl rfl rfl ?_
    refine wq_getR 93 fl_X5_19 dX5_makeOne_90 rfl rfl o_21 (rfl : (Tb _).2.2.2 21 2 = some 24) ?_
    refine wq_iload_n 94 1 dX5_makeOne_93 rfl rfl rfl ?_
    refine wq_dup2 95 dX5_makeOne_94 rfl rfl rfl ?_
    refine wq_iald 96 dX5_makeOne_95 rfl a_24 (Ix.nI (by omega) (by decide)) ?_
    refine wq_bload_n 97 0 dX5_makeOne_96 rfl rfl rfl ?_
    refine wq_getR 100 fl_X5_19 dX5_makeOne_97 rfl rfl o_21 (rfl : (Tb _).2.2.2 21 2 = some 24) ?_
    refine wq_iload_n 101 2 dX5_makeOne_100 rfl rfl rfl ?_
    refine wq_iald 102 dX5_makeOne_101 rfl a_24 (Ix.nI (by omega) (by decide)) ?_
    refine wq_iadd 103 dX5_makeOne_102 rfl ?_
    refine wq_iast 104 dX5_makeOne_103 rfl a_24 (Ix.nI (by omega) (by decide)) ?_
    refine wq_bload_n 105 0 dX5_makeOne_104 rfl rfl rfl ?_
    refine wq_getR 108 fl_X5_22 dX5_makeOne_105 rfl rfl o_21 (rfl : (Tb _).2.2.2 21 3 = some 25) ?_
    refine wq_iload_n 109 2 dX5_makeOne_108 rfl rfl rfl ?_
    refine wq_iload_n 110 1 dX5_makeOne_109 rfl rfl rfl ?_
    refine wq_iast 111 dX5_makeOne_110 rfl a_25 (Ix.nI (by omega) (by decide)) ?_
    refine wq_bload_n 112 0 dX5_makeOne_111 rfl rfl rfl ?_
    refine wq_dup 113 dX5_makeOne_112 rfl rfl ?_
    refine wq_getL 116 fl_X5_57 dX5_makeOne_113 rfl rfl o_21 ?_
    refine wq_lconst 117 1 dX5_makeOne_116 rfl (by decide) ?_
    refine wq_iload_n 118 2 dX5_makeOne_117 rfl rfl rfl ?_
    refine wq_lshl 119 dX5_makeOne_118 rfl ?_
    refine wq_ldc2 122 (-1) dX5_makeOne_119 rfl kc_X5_142 ?_
    refine wq_lxor 123 dX5_makeOne_122 rfl ?_
    refine wq_land 124 dX5_makeOne_123 rfl ?_
    refine wq_putL 127 fl_X5_57 dX5_makeOne_124 rfl rfl rfl rfl rfl o_21 ?_
    refine wq_gen (fun I1 L1 eI1 eL1 => ?_)
    refine rr dX5_makeOne_127 rfl ?_
    have i24 : I1 24 = va_up (I 24) x (I 24 x + I 24 y) := by rw [eI1, va_up_ne _ _ (by decide), va_up_self]
    have i25 : I1 25 = va_up (I 25) y (nI x) := by rw [eI1, va_up_self, va_up_ne _ _ (by decide)]
    have ix : ∀ z, z ≠ 24 → z ≠ 25 → I1 z = I z := fun z z1 z2 => by rw [eI1, va_up_ne _ _ z2, va_up_ne _ _ z1]
    have l21 : L1 21 = va_up (L 21) 14 (aL A &&& noB y) := by rw [eL1, va_up_self, va_up_ne _ _ (show 21 ≠ 22 by decide), va_up_ne _ _ (show 21 ≠ 22 by decide), h2]; rfl
    have l22 : L1 22 = va_up E x (E x ||| E y) := by rw [eL1, va_up_ne _ _ (by decide), va_up_self, va_up_self]
    have lx : ∀ z, z ≠ 21 → z ≠ 22 → L1 z = L z := fun z z1 z2 => by rw [eL1, va_up_ne _ _ z1, va_up_ne _ _ z2, va_up_ne _ _ z2]
    clear eI1 eL1
    refine ⟨rfl, rfl, ⟨fun n hn => ?_, ?_, fun n hn => ?_, fun n hn n4 hl => ?_, fun m hm => ?_, fun i hi => ?_, ?_, fun i hi => ?_, ?_, ?_, ?_, fun m hm => ?_, ?_, ?_⟩, ix, lx, fun z hz => by rw [l21, va_up_ne _ _ hz]⟩
    · rw [l22]
      show _ = va_up (mrgN (aN A) x y) x (mrgN (aN A) x y x ||| mrgN (aN A) x y y) n
      by_cases e : n = x
      · rw [e, va_up_self, va_up_self, hE x hx, hE y hy]
      · rw [va_up_ne _ _ e, va_up_ne _ _ e, hE n hn]
    · rw [l21, va_up_self]; rfl
    · rw [i25]
      show _ = nI (va_up (aA A) y x n)
      by_cases e : n = y
      · rw [e, va_up_self, va_up_self]
      · rw [va_up_ne _ _ e, va_up_ne _ _ e]; exact h3 n hn
    · rw [i24]
      show _ = nI (va_up (aC A) x (aC A x + aC A y) n)
      have hl' : tb (aL A &&& noB y) n = true := hl
      rw [tb_and, Bool.and_eq_true] at hl'
      by_cases e : n = x
      · rw [e] at n4
        rw [e, va_up_self, va_up_self, h4 x hx n4 hxl, h4 y hy hy4 hyl, nI_add]
      · rw [va_up_ne _ _ e, va_up_ne _ _ e]; exact h4 n hn n4 hl'.1
    · rw [ix 29 (by decide) (by decide)]; exact h5 m hm
    · rw [ix 30 (by decide) (by decide)]; exact h6 i hi
    · rw [ix 21 (by decide) (by decide)]; exact h7
    · rw [ix 31 (by decide) (by decide)]; exact h8 i hi
    · rw [ix 21 (by decide) (by decide)]; exact h9
    · rw [ix 21 (by decide) (by decide)]; exact h10
    · rw [ix 21 (by decide) (by decide)]; exact h11
    · rw [ix 27 (by decide) (by decide), ix 28 (by decide) (by decide)]; exact h12 m hm
    · rw [ix 21 (by decide) (by decide)]; exact h13
    · rw [ix 21 (by decide) (by decide)]; exact h14
  refine wq_iload_n 1 1 dX5_makeOne_0 rfl rfl rfl ?_
  refine wq_if_lt 4 20 dX5_makeOne_1 rfl (by decide) (fun c1 => absurd c1 (nI_pos (by omega))) (fun c1 => ?_)
  refine wq_iload_n 5 2 dX5_makeOne_4 rfl rfl rfl ?_
  refine wq_if_lt 8 20 dX5_makeOne_5 rfl (by decide) (fun c5 => absurd c5 (nI_pos (by omega))) (fun c5 => ?_)
  refine wq_iload_n 9 1 dX5_makeOne_8 rfl rfl rfl ?_
  refine wq_bipush 11 64 dX5_makeOne_9 rfl (by decide) ?_
  refine wq_ic_ge 14 20 dX5_makeOne_11 rfl (by decide) (fun c11 => absurd c11 (nI_ge (b := 64) hx (by decide))) (fun c11 => ?_)
  refine wq_iload_n 15 2 dX5_makeOne_14 rfl rfl rfl ?_
  refine wq_bipush 17 64 dX5_makeOne_15 rfl (by decide) ?_
  refine wq_ic_lt 20 21 dX5_makeOne_17 rfl (by decide) (fun c17 => ?_) (fun c17 => absurd (nI_lt (b := 64) hy (by decide)) c17)
  refine wq_iconst 22 0 dX5_makeOne_21 rfl (by decide) ?_
  refine wq_istore_n 23 3 [_, _, _, _] dX5_makeOne_22 rfl rfl rfl (Nat.le_of_ble_eq_true rfl) rfl ?_
  refine wp_eqL (va_up_id L 22) ?_
  refine lp_X5_merge hD h10 gt2 hx hy hyy (fun v hv hb => gl v hv (gn y hy hyl v hv hb).1) kk t 0 _ (by omega) (fun v hv => ?_)
  rw [if_neg (by omega)]
  exact h1 v hv
