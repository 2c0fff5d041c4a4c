/-! Round.lookAround -/
theorem m16 : ∀ n, n < 64 → tb (-16) n = decide (4 ≤ n) := by decide +kernel
theorem none_16 (x : Int64) : (x &&& (-16) = 0) ↔ anyB (fun n => decide (4 ≤ n) && tb x n) 64 = false := by
  constructor
  · intro e
    refine Bool.eq_false_iff.mpr (fun z => ?_)
    obtain ⟨j, h1, h2⟩ := (anyB_iff _ 64).mp z
    have := congrArg (fun v => tb v j) e
    simp only [tb_and, tb_0, m16 j h1] at this
    rw [Bool.and_comm] at this
    rw [this] at h2
    cases h2
  · intro e
    apply tb_ext
    intro j hj
    rw [tb_and, tb_0, m16 j hj]
    refine Bool.eq_false_iff.mpr (fun z => ?_)
    rw [Bool.eq_false_iff] at e
    exact e ((anyB_iff _ 64).mpr ⟨j, hj, by rw [Bool.and_comm]; exact z⟩)
/-- what lookAround saw -/
def SX (I : IM) (L : LM) (k mv t : Nat) (f1 f2 : Nat → Nat) (A : RA) : Prop := (∀ n, n < 64 → tb (L 21 15) n = lowA k A n) ∧ (∀ n, n < 64 → tb (L 21 16) n = movA mv f1 f2 A n) ∧ ∀ n, 4 ≤ n → n < t → I 23 n = nI (cnt (aN A n))
theorem RX_see {I I' : IM} {L L' : LM} {k w mv t : Nat} {f1 f2 : Nat → Nat} {A : RA} (h : RX I L k w mv t f1 f2 A) (e : ∀ x, x ≠ 23 → I' x = I x) (e2 : ∀ x, x ≠ 21 → L' x = L x) (e3 : L' 21 14 = L 21 14) : RX I' L' k w mv t f1 f2 A := by
  unfold RX
  rw [e 21 (by decide), e 24 (by decide), e 25 (by decide), e 27 (by decide), e 28 (by decide), e 29 (by decide), e 30 (by decide), e 31 (by decide), e2 22 (by decide), e3]
  exact h
set_option maxRecDepth 20000 in
set_option maxHeartbeats 2000000 in
theorem lp_X5_moved {g : Gl} {D : Nat} {b : Bool} {I : IM} {L : LM} {k w mv t : Nat} {f1 f2 : Nat → Nat} {A : RA} (hD : 2 ≤ D) (h : RX I L k w mv t f1 f2 A) (hg : GA mv t f1 f2 A) {post : Option Value → Bool → IM → LM → Prop} (hp : ∀ v, (∀ n, n < 64 → tb v n = movA mv f1 f2 A n) → post (some (.int (bI (leftV A)))) b I (va_up L 21 (va_up (L 21) 16 v))) : ∀ r q v, q + r = mv → (∀ n, n < 64 → tb v n = anyB (fun m => aO A m && inA f1 f2 A m n) q) → Wp (Kn g D MX5_lookAround post) (Tb b) 79 [some (rf g 21), some (.int (nI q))] [] I (va_up L 21 (va_up (L 21) 16 v)) := by
  obtain ⟨-, h2, hA, -, h5, -, -, -, -, -, hm, hF, -, -⟩ := h
  obtain ⟨ga, -, -, -, -, -, -, gm, gf, -, -⟩ := hg
  intro r
  induction r with
  | zero =>
    intro q v hq hv
    have eq : q = mv := by omega
    subst eq
    have hp := hp v hv
    have n16 := none_16 (aL A)
    refine wq_iload_n 80 1 dX5_lookAround_79 rfl rfl rfl ?_
    refine wq_bload_n 81 0 dX5_lookAround_80 rfl rfl rfl ?_
    refine wq_getI 84 fl_X5_48 dX5_lookAround_81 rfl rfl o_21 ?_
    refine wq_ic_ge 87 136 dX5_lookAround_84 rfl (by decide) (fun c84 => ?_) (fun c84 => absurd (by rw [hm]; exact nI_le (Nat.le_refl _) (by omega)) c84)
    refine wq_bload_n 137 0 dX5_lookAround_136 rfl rfl rfl ?_
    refine wq_getL 140 fl_X5_57 dX5_lookAround_137 rfl rfl o_21 ?_
    refine wq_ldc2 143 (-16) dX5_lookAround_140 rfl kc_X5_140 ?_
    rw [va_up_self, va_up_ne _ _ (by decide), h2]
    refine wq_land 144 dX5_lookAround_143 rfl ?_
    refine wq_lconst 145 0 dX5_lookAround_144 rfl (by decide) ?_
    refine wq_lcmp 146 dX5_lookAround_145 rfl ?_
    refine wq_if_eq 149 153 dX5_lookAround_146 rfl (by decide) (fun c146 => ?_) (fun c146 => ?_)
    · skip
      refine wq_iconst 154 0 dX5_lookAround_153 rfl (by decide) ?_
      refine ri .boolean dX5_lookAround_154 rfl rfl ?_
      have e : leftV A = false := n16.mp (lcmp0.mp c146)
      rw [e] at hp
      exact hp
    · skip
      refine wq_iconst 150 1 dX5_lookAround_149 rfl (by decide) ?_
      refine wq_goto 154 dX5_lookAround_150 (by decide) ?_
      refine ri .boolean dX5_lookAround_154 rfl rfl ?_
      have e : leftV A = true := Decidable.byContradiction (fun z => c146 (lcmp0.mpr (n16.mpr (Bool.eq_false_iff.mpr z))))
      rw [e] at hp
      exact hp
  | succ r ih =>
    intro q v hq hv
    obtain ⟨F1, F2⟩ := hF q (by omega)
    obtain ⟨g1, g2⟩ := gf q (by omega)
    have l1 := rt_lt ga g1
    have l2 := rt_lt ga g2
    refine wq_iload_n 80 1 dX5_lookAround_79 rfl rfl rfl ?_
    refine wq_bload_n 81 0 dX5_lookAround_80 rfl rfl rfl ?_
    refine wq_getI 84 fl_X5_48 dX5_lookAround_81 rfl rfl o_21 ?_
    refine wq_ic_ge 87 136 dX5_lookAround_84 rfl (by decide) (fun c84 => absurd c84 (by rw [hm]; exact nI_ge (by omega) (by omega))) (fun c84 => ?_)
    refine wq_bload_n 88 0 dX5_lookAround_87 rfl rfl rfl ?_
    refine wq_getR 91 fl_X5_34 dX5_lookAround_88 rfl rfl o_21 (rfl : (Tb _).2.2.2 21 7 = some 29) ?_
    refine wq_iload_n 92 1 dX5_lookAround_91 rfl rfl rfl ?_
    refine wq_zald 93 dX5_lookAround_92 rfl a_29 (Ix.nI (by omega) (by decide)) ?_
    refine wq_if_eq 96 130 dX5_lookAround_93 rfl (by decide) (fun c93 => ?_) (fun c93 => ?_)
    · skip
      refine wq_iinc 133 (_ + 1) [_, _] dX5_lookAround_130 rfl rfl (inc1 _) rfl (Nat.le_of_ble_eq_true rfl) rfl ?_
      refine wq_goto 79 dX5_lookAround_133 (by decide) ?_
      have e : aO A q = false := bI_eq.mp (by rw [← h5 q (by omega)]; exact c93)
      rw [← nI_succ]
      refine ih (q + 1) v (by omega) (fun n hn => ?_)
      rw [anyB, ← hv n hn, e, Bool.false_and, Bool.or_false]
    · skip
      refine wq_bload_n 97 0 dX5_lookAround_96 rfl rfl rfl ?_
      refine wq_dup 98 dX5_lookAround_97 rfl rfl ?_
      refine wq_getL 101 fl_X5_64 dX5_lookAround_98 rfl rfl o_21 ?_
      refine wq_lconst 102 1 dX5_lookAround_101 rfl (by decide) ?_
      refine wq_bload_n 103 0 dX5_lookAround_102 rfl rfl rfl ?_
      refine wq_bload_n 104 0 dX5_lookAround_103 rfl rfl rfl ?_
      refine wq_getR 107 fl_X5_28 dX5_lookAround_104 rfl rfl o_21 (rfl : (Tb _).2.2.2 21 5 = some 27) ?_
      refine wq_iload_n 108 1 dX5_lookAround_107 rfl rfl rfl ?_
      refine wq_iald 109 dX5_lookAround_108 rfl a_27 (Ix.nI (by omega) (by decide)) ?_
      refine cVi1 112 (sp_X5_nodeOf (by omega) hA ga (f1 q) F1 g1) ml_X5_136 mf_X5_nodeOf dX5_lookAround_109 rfl o_21 (by decide) rfl (Nat.le_of_ble_eq_true rfl) (by omega) ?_
      refine wq_lshl 113 dX5_lookAround_112 rfl ?_
      refine wq_lconst 114 1 dX5_lookAround_113 rfl (by decide) ?_
      refine wq_bload_n 115 0 dX5_lookAround_114 rfl rfl rfl ?_
      refine wq_bload_n 116 0 dX5_lookAround_115 rfl rfl rfl ?_
      refine wq_getR 119 fl_X5_31 dX5_lookAround_116 rfl rfl o_21 (rfl : (Tb _).2.2.2 21 6 = some 28) ?_
      refine wq_iload_n 120 1 dX5_lookAround_119 rfl rfl rfl ?_
      refine wq_iald 121 dX5_lookAround_120 rfl a_28 (Ix.nI (by omega) (by decide)) ?_
      refine cVi1 124 (sp_X5_nodeOf (by omega) hA ga (f2 q) F2 g2) ml_X5_136 mf_X5_nodeOf dX5_lookAround_121 rfl o_21 (by decide) rfl (Nat.le_of_ble_eq_true rfl) (by omega) ?_
      refine wq_lshl 125 dX5_lookAround_124 rfl ?_
      refine wq_lor 126 dX5_lookAround_125 rfl ?_
      refine wq_lor 127 dX5_lookAround_126 rfl ?_
      refine wq_putL 130 fl_X5_64 dX5_lookAround_127 rfl rfl rfl rfl rfl o_21 ?_
      refine wq_iinc 133 (_ + 1) [_, _] dX5_lookAround_130 rfl rfl (inc1 _) rfl (Nat.le_of_ble_eq_true rfl) rfl ?_
      refine wq_goto 79 dX5_lookAround_133 (by decide) ?_
      have e : aO A q = true := bI_ne.mp (by rw [← h5 q (by omega)]; exact c93)
      rw [← nI_succ, va_up_self, va_up_self, va_up_up, va_up_up]
      refine ih (q + 1) _ (by omega) (fun n hn => ?_)
      rw [show (1 : Int64) <<< ((nI (rt (aA A) (f1 q))).toInt64 &&& 63) = one (nI (rt (aA A) (f1 q))) from rfl, show (1 : Int64) <<< ((nI (rt (aA A) (f2 q))).toInt64 &&& 63) = one (nI (rt (aA A) (f2 q))) from rfl, tb_or, tb_or, tb_one l1, tb_one l2, hv n hn, anyB, e, Bool.true_and]
      show _ = (_ || (decide (rt (aA A) (f1 q) = n) || decide (rt (aA A) (f2 q) = n)))
      rw [decide_eq_decide.mpr (show n = rt (aA A) (f1 q) ↔ rt (aA A) (f1 q) = n from eq_comm), decide_eq_decide.mpr (show n = rt (aA A) (f2 q) ↔ rt (aA A) (f2 q) = n from eq_comm)]
set_option maxRecDepth 20000 in
set_option maxHeartbeats 2000000 in
theorem lp_X5_low {g : Gl} {D : Nat} {b : Bool} {I : IM} {L : LM} {k w mv t : Nat} {f1 f2 : Nat → Nat} {A : RA} (hD : 2 ≤ D) (hk : k < 2 ^ 31) (h : RX I L k w mv t f1 f2 A) (hg : GA mv t f1 f2 A) {post : Option Value → Bool → IM → LM → Prop} (hp : ∀ G s v, (∀ n, n < 64 → tb s n = lowA k A n) → (∀ n, n < 64 → tb v n = movA mv f1 f2 A n) → (∀ n, 4 ≤ n → n < t → G n = nI (cnt (aN A n))) → post (some (.int (bI (leftV A)))) b (va_up I 23 G) (va_up L 21 (va_up (va_up (L 21) 15 s) 16 v))) : ∀ r q G s, q + r = t → 4 ≤ q → (∀ n, n < 64 → tb s n = (decide (n < q) && lowA k A n)) → (∀ n, 4 ≤ n → n < q → G n = nI (cnt (aN A n))) → Wp (Kn g D MX5_lookAround post) (Tb b) 7 [some (rf g 21), some (.int (nI q))] [] (va_up I 23 G) (va_up L 21 (va_up (L 21) 15 s)) := by
  have hR : ∀ G s, RX (va_up I 23 G) (va_up L 21 (va_up (L 21) 15 s)) k w mv t f1 f2 A := fun G s => RX_see h (fun x hx => va_up_ne _ _ hx) (fun x hx => va_up_ne _ _ hx) (by rw [va_up_self, va_up_ne _ _ (by decide)])
  intro r
  induction r with
  | zero =>
    intro q G s hq h4 hs hG
    have eq : q = t := by omega
    subst eq
    have gl := hg.2.2.2.1
    refine wq_iload_n 8 1 dX5_lookAround_7 rfl rfl rfl ?_
    refine wq_bload_n 9 0 dX5_lookAround_8 rfl rfl rfl ?_
    refine wq_getI 12 fl_X5_44 dX5_lookAround_9 rfl rfl o_21 ?_
    refine wq_ic_ge 15 72 dX5_lookAround_12 rfl (by decide) (fun c12 => ?_) (fun c12 => absurd (by rw [(hR G s).2.2.2.2.2.2.2.2.2.1]; exact nI_le (Nat.le_refl _) (by have := hg.2.2.1; omega)) c12)
    refine wq_bload_n 73 0 dX5_lookAround_72 rfl rfl rfl ?_
    refine wq_lconst 74 0 dX5_lookAround_73 rfl (by decide) ?_
    refine wq_putL 77 fl_X5_64 dX5_lookAround_74 rfl rfl rfl rfl rfl o_21 ?_
    refine wq_iconst 78 0 dX5_lookAround_77 rfl (by decide) ?_
    refine wq_istore_n 79 1 [_, _] dX5_lookAround_78 rfl rfl rfl (Nat.le_of_ble_eq_true rfl) rfl ?_
    refine lp_X5_moved hD (hR G s) hg (fun v hv => ?_) mv 0 0 (by omega) (fun n hn => by rw [tb_0]; rfl)
    rw [va_up_self, va_up_up]
    refine hp G s v (fun n hn => ?_) hv hG
    rw [hs n hn]
    by_cases c : tb (aL A) n = true
    · rw [decide_eq_true (gl n hn c), Bool.true_and]
    · rw [lowA, Bool.eq_false_iff.mpr c]; simp
  | succ r ih =>
    intro q G s hq h4 hs hG
    have gt := hg.2.2.1
    have hN := (h.1 q (by omega))
    have h2 := h.2.1
    have h13 := h.2.2.2.2.2.2.2.2.2.2.2.2.1
    have hc := cnt_le (aN A q)
    have G' : ∀ n, 4 ≤ n → n < q + 1 → va_up G q (nI (cnt (aN A q))) n = nI (cnt (aN A n)) := by
      intro n n4 hn
      by_cases e : n = q
      · rw [e, va_up_self]
      · rw [va_up_ne _ _ e]; exact hG n n4 (by omega)
    have same : lowA k A q = false → ∀ n, n < 64 → tb s n = (decide (n < q + 1) && lowA k A n) := by
      intro z n hn
      rw [hs n hn]
      by_cases e : n = q
      · rw [e, z]; simp
      · rw [decide_eq_decide.mpr (show n < q ↔ n < q + 1 by omega)]
    refine wq_iload_n 8 1 dX5_lookAround_7 rfl rfl rfl ?_
    refine wq_bload_n 9 0 dX5_lookAround_8 rfl rfl rfl ?_
    refine wq_getI 12 fl_X5_44 dX5_lookAround_9 rfl rfl o_21 ?_
    refine wq_ic_ge 15 72 dX5_lookAround_12 rfl (by decide) (fun c12 => absurd c12 (by rw [(hR G s).2.2.2.2.2.2.2.2.2.1]; exact nI_ge (by omega) (by omega))) (fun c12 => ?_)
    refine wq_bload_n 16 0 dX5_lookAround_15 rfl rfl rfl ?_
    refine wq_getR 19 fl_X5_15 dX5_lookAround_16 rfl rfl o_21 (rfl : (Tb _).2.2.2 21 1 = some 23) ?_
    refine wq_iload_n 20 1 dX5_lookAround_19 rfl rfl rfl ?_
    refine wq_bload_n 21 0 dX5_lookAround_20 rfl rfl rfl ?_
    refine wq_getR 24 fl_X5_9 dX5_lookAround_21 rfl rfl o_21 (rfl : (Tb _).2.2.2 21 0 = some 22) ?_
    refine wq_iload_n 25 1 dX5_lookAround_24 rfl rfl rfl ?_
    refine wq_lald 26 dX5_lookAround_25 rfl a_22 (Ix.nI (by omega) (by decide)) ?_
    rw [va_up_ne _ _ (show 22 ≠ 21 by decide), hN]
    refine cSi1 29 (sp_J13_bitCount _) ml_X5_126 mf_J13_bitCount_95d88 dX5_lookAround_26 rfl (Nat.le_of_ble_eq_true rfl) (by omega) ?_
    refine wq_iast 30 dX5_lookAround_29 rfl a_23 (Ix.nI (by omega) (by decide)) ?_
    refine wq_bload_n 31 0 dX5_lookAround_30 rfl rfl rfl ?_
    refine wq_getL 34 fl_X5_57 dX5_lookAround_31 rfl rfl o_21 ?_
    rw [va_up_self, va_up_ne _ _ (show 14 ≠ 15 by decide), h2]
    refine wq_iload_n 35 1 dX5_lookAround_34 rfl rfl rfl ?_
    refine cSi2 38 (sp_X7_has _ _) ml_X5_132 mf_X7_has dX5_lookAround_35 rfl (Nat.le_of_ble_eq_true rfl) (by omega) ?_
    refine wq_if_eq 41 66 dX5_lookAround_38 rfl (by decide) (fun c38 => ?_) (fun c38 => ?_)
    · skip
      refine wq_iinc 69 (_ + 1) [_, _] dX5_lookAround_66 rfl rfl (inc1 _) rfl (Nat.le_of_ble_eq_true rfl) rfl ?_
      refine wq_goto 7 dX5_lookAround_69 (by decide) ?_
      have e : tb (aL A) q = false := (hasX_eq0 (aL A) (k := q) (by omega)).mp c38
      rw [← nI_succ, va_up_self, va_up_up]
      exact ih (q + 1) _ s (by omega) (by omega) (same (by rw [lowA, e]; simp)) G'
    · skip
      refine wq_bload_n 42 0 dX5_lookAround_41 rfl rfl rfl ?_
      refine wq_getR 45 fl_X5_15 dX5_lookAround_42 rfl rfl o_21 (rfl : (Tb _).2.2.2 21 1 = some 23) ?_
      refine wq_iload_n 46 1 dX5_lookAround_45 rfl rfl rfl ?_
      refine wq_iald 47 dX5_lookAround_46 rfl a_23 (Ix.nI (by omega) (by decide)) ?_
      rw [va_up_self, va_up_self]
      refine wq_bload_n 48 0 dX5_lookAround_47 rfl rfl rfl ?_
      refine wq_getI 51 fl_X5_70 dX5_lookAround_48 rfl rfl o_21 ?_
      rw [va_up_ne _ _ (show 21 ≠ 23 by decide), va_up_ne _ _ (show 21 ≠ 23 by decide), h13]
      refine wq_ic_ge 54 66 dX5_lookAround_51 rfl (by decide) (fun c51 => ?_) (fun c51 => ?_)
      · skip
        refine wq_iinc 69 (_ + 1) [_, _] dX5_lookAround_66 rfl rfl (inc1 _) rfl (Nat.le_of_ble_eq_true rfl) rfl ?_
        refine wq_goto 7 dX5_lookAround_69 (by decide) ?_
        have e : ¬ cnt (aN A q) < k := fun z => nI_ge z hk c51
        rw [← nI_succ, va_up_self, va_up_up]
        exact ih (q + 1) _ s (by omega) (by omega) (same (by rw [lowA, decide_eq_false e]; simp)) G'
      · skip
        refine wq_bload_n 55 0 dX5_lookAround_54 rfl rfl rfl ?_
        refine wq_dup 56 dX5_lookAround_55 rfl rfl ?_
        refine wq_getL 59 fl_X5_61 dX5_lookAround_56 rfl rfl o_21 ?_
        refine wq_lconst 60 1 dX5_lookAround_59 rfl (by decide) ?_
        refine wq_iload_n 61 1 dX5_lookAround_60 rfl rfl rfl ?_
        refine wq_lshl 62 dX5_lookAround_61 rfl ?_
        refine wq_lor 63 dX5_lookAround_62 rfl ?_
        refine wq_putL 66 fl_X5_61 dX5_lookAround_63 rfl rfl rfl rfl rfl o_21 ?_
        refine wq_iinc 69 (_ + 1) [_, _] dX5_lookAround_66 rfl rfl (inc1 _) rfl (Nat.le_of_ble_eq_true rfl) rfl ?_
        refine wq_goto 7 dX5_lookAround_69 (by decide) ?_
        have e0 : tb (aL A) q = true := (hasX_ne0 (aL A) (k := q) (by omega)).mp c38
        have e : cnt (aN A q) < k := Decidable.byContradiction (fun z => c51 (nI_le (by omega) (by omega)))
        have lq : lowA k A q = true := by rw [lowA, decide_eq_true h4, e0, decide_eq_true e]; rfl
        rw [← nI_succ, va_up_self, va_up_up, va_up_self, va_up_self, va_up_up, va_up_up]
        refine ih (q + 1) _ _ (by omega) (by omega) (fun n hn => ?_) G'
        rw [show (1 : Int64) <<< ((nI q).toInt64 &&& 63) = one (nI q) from rfl, tb_or, tb_one (by omega), hs n hn]
        by_cases en : n = q
        · rw [en, lq]; simp
        · rw [decide_eq_decide.mpr (show n < q ↔ n < q + 1 by omega), decide_eq_false en, Bool.or_false]
set_option maxRecDepth 20000 in
set_option maxHeartbeats 2000000 in
theorem sp_X5_look {g : Gl} {D : Nat} {b : Bool} {I : IM} {L : LM} {k w mv t : Nat} {f1 f2 : Nat → Nat} {A : RA} (hD : 2 ≤ D) (hk : k < 2 ^ 31) (h : RX I L k w mv t f1 f2 A) (hg : GA mv t f1 f2 A) : Me g D MX5_lookAround [rf g 21] b I L (fun r b' I' L' => r = some (.int (bI (leftV A))) ∧ b' = b ∧ RX I' L' k w mv t f1 f2 A ∧ SX I' L' k mv t f1 f2 A ∧ (∀ x, x ≠ 23 → I' x = I x) ∧ (∀ x, x ≠ 21 → L' x = L x) ∧ ∀ z, z ≠ 15 → z ≠ 16 → L' 21 z = L 21 z) := by
  refine Me.of [some (rf g 21), none] 1 rfl pf_X5_lookAround (Nat.le_of_ble_eq_true rfl) ?_
  refine wq_bload_n 1 0 dX5_lookAround_0 rfl rfl rfl ?_
  refine wq_lconst 2 0 dX5_lookAround_1 rfl (by decide) ?_
  refine wq_putL 5 fl_X5_61 dX5_lookAround_2 rfl rfl rfl rfl rfl o_21 ?_
  refine wq_iconst 6 4 dX5_lookAround_5 rfl (by decide) ?_
  refine wq_istore_n 7 1 [_, _] dX5_lookAround_6 rfl rfl rfl (Nat.le_of_ble_eq_true rfl) rfl ?_
  refine wp_eqI (va_up_id I 23) ?_
  refine lp_X5_low hD hk h hg (fun G s v hs hv hG => ?_) (t - 4) 4 _ 0 (by have := hg.2.1; omega) (Nat.le_refl _) (fun n hn => ?_) (fun n n4 hn => by omega)
  · have e21 : va_up L 21 (va_up (va_up (L 21) 15 s) 16 v) 21 = va_up (va_up (L 21) 15 s) 16 v := va_up_self _ _ _
    refine ⟨rfl, rfl, RX_see h (fun x hx => va_up_ne _ _ hx) (fun x hx => va_up_ne _ _ hx) ?_, ⟨fun n hn => ?_, fun n hn => ?_, fun n n4 hn => ?_⟩, fun x hx => va_up_ne _ _ hx, fun x hx => va_up_ne _ _ hx, fun z z1 z2 => ?_⟩
    · rw [e21, va_up_ne _ _ (by decide), va_up_ne _ _ (by decide)]
    · rw [e21, va_up_ne _ _ (by decide), va_up_self]; exact hs n hn
    · rw [e21, va_up_self]; exact hv n hn
    · rw [va_up_self]; exact hG n n4 hn
    · rw [e21, va_up_ne _ _ z2, va_up_ne _ _ z1]
  · rw [tb_0]
    by_cases c : n < 4
    · rw [lowA, decide_eq_false (show ¬ 4 ≤ n by omega)]; simp
    · rw [decide_eq_false c, Bool.false_and]
