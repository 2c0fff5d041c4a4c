/-! Round.takeInHope -/
theorem bst_is (f : Nat → Bool) (w : Nat → Nat) : ∀ n, (bst f w n = 0 ∧ ∀ j, j < n → f j = false) ∨ (1 ≤ bst f w n ∧ bst f w n ≤ n ∧ f (bst f w n - 1) = true)
  | 0 => Or.inl ⟨rfl, fun j hj => by omega⟩
  | n + 1 => by
    rw [bst]
    by_cases c : f n = true ∧ (bst f w n = 0 ∨ w n < w (bst f w n - 1))
    · rw [if_pos c]; exact Or.inr ⟨by omega, by omega, c.1⟩
    · rw [if_neg c]
      rcases bst_is f w n with ⟨h1, h2⟩ | ⟨h1, h2, h3⟩
      · refine Or.inl ⟨h1, fun j hj => ?_⟩
        by_cases e : j = n
        · rw [e]; exact Bool.eq_false_iff.mpr (fun z => c ⟨z, Or.inl h1⟩)
        · exact h2 j (by omega)
      · exact Or.inr ⟨h1, by omega, h3⟩
theorem bst_cut {f : Nat → Bool} {w : Nat → Nat} {t : Nat} (h : ∀ j, t ≤ j → f j = false) : ∀ r, bst f w (t + r) = bst f w t
  | 0 => rfl
  | r + 1 => by rw [← Nat.add_assoc, bst, bst_cut h r, if_neg (fun z => by rw [h (t + r) (by omega)] at z; exact absurd z.1 (by decide))]
theorem sgR_le {a d : Nat} (hd : 0 < d) (h : a < 2 * d * 8388608) : sgR a d ≤ 16777216 := by
  have : a / d < 16777216 := (Nat.div_lt_iff_lt_mul hd).mpr (by omega)
  unfold sgR
  split <;> omega
theorem sgF_lt {d : Nat} (hd : 0 < d) : ∀ f a e, e ≤ 149 → a < 2 * d * 8388608 → sgF d f a e < 2 ^ 31
  | 0, a, e, he, ha => by
    rw [sgF]
    have := sgR_le hd ha
    omega
  | f + 1, a, e, he, ha => by
    rw [sgF]
    by_cases c : a < d * 8388608
    · rw [if_pos c]; exact sgF_lt hd f _ _ (by omega) (by omega)
    · rw [if_neg c]
      have := sgR_le hd ha
      omega
theorem sgl_lt {c d : Nat} (hc : c < 2 ^ 24) (hd : 0 < d) : sgl c d < 2 ^ 31 := by
  unfold sgl
  split
  · omega
  · exact sgF_lt hd 29 c 149 (by omega) (by omega)
theorem wgt_lt {w c d : Nat} (hc : c < 2 ^ 24) : wgt w c d < 2 ^ 31 := by
  unfold wgt
  split
  · exact sgl_lt hc (by omega)
  · split
    · exact sgl_lt hc (by omega)
    · exact sgl_lt (by omega) (by omega)
abbrev valA (A : RA) : Nat → Bool := fun n => decide (4 ≤ n) && tb (aL A) n
abbrev wtA (w : Nat) (A : RA) : Nat → Nat := fun n => wgt w (aC A n) (cnt (aN A n))
def lgt (x : Nat) : Int32 := if x = 0 then -6 else nI (x - 1)
def lst (w : Nat) (A : RA) (x : Nat) : Int32 := if x = 0 then 0 else nI (wtA w A (x - 1))
set_option maxRecDepth 20000 in
set_option maxHeartbeats 2000000 in
theorem lp_X5_hope {g : Gl} {D : Nat} {b : Bool} {I : IM} {L : LM} {k w mv t : Nat} {f1 f2 : Nat → Nat} {A : RA} (hD : 2 ≤ D) (hw : w < 3) (h : RX I L k w mv t f1 f2 A) (hg : GA mv t f1 f2 A) (hs : SX I L k mv t f1 f2 A) (hc : ∀ n, n < 64 → 4 ≤ n → tb (aL A) n = true → aC A n < 2 ^ 24) {post : Option Value → Bool → IM → LM → Prop} (kk : ∀ l2 l3 l4, Wp (Kn g D MX5_takeInHope post) (Tb b) 68 [some (rf g 21), some (.int (lgt (bst (valA A) (wtA w A) 64))), l2, l3, l4] [] I L) : ∀ r q l4, q + r = t → 4 ≤ q → Wp (Kn g D MX5_takeInHope post) (Tb b) 7 [some (rf g 21), some (.int (lgt (bst (valA A) (wtA w A) q))), some (.int (lst w A (bst (valA A) (wtA w A) q))), some (.int (nI q)), l4] [] I L := by
  have gt := hg.2.2.1
  have h10 := h.2.2.2.2.2.2.2.2.2.1
  have h14 := h.2.2.2.2.2.2.2.2.2.2.2.2.2
  have h2 := h.2.1
  intro r
  induction r with
  | zero =>
    intro q l4 hq h4
    have eq : q = t := by omega
    have ec : bst (valA A) (wtA w A) 64 = bst (valA A) (wtA w A) q := by
      have := bst_cut (f := valA A) (w := wtA w A) (t := q) (fun j hj => by
        by_cases c : j < 64
        · have : tb (aL A) j = false := Bool.eq_false_iff.mpr (fun z => by have := hg.2.2.2.1 j c z; omega)
          show (decide (4 ≤ j) && tb (aL A) j) = false
          rw [this, Bool.and_false]
        · show (decide (4 ≤ j) && tb (aL A) j) = false
          rw [tb_big (by omega), Bool.and_false]) (64 - q)
      rwa [show q + (64 - q) = 64 by omega] at this
    rw [← ec]
    refine wq_iload_n 8 3 dX5_takeInHope_7 rfl rfl rfl ?_
    refine wq_bload_n 9 0 dX5_takeInHope_8 rfl rfl rfl ?_
    refine wq_getI 12 fl_X5_44 dX5_takeInHope_9 rfl rfl o_21 ?_
    refine wq_ic_ge 15 68 dX5_takeInHope_12 rfl (by decide) (fun c12 => ?_) (fun c12 => absurd (by rw [h10, eq]; exact nI_le (Nat.le_refl _) (by omega)) c12)
    exact kk _ _ _
  | succ r ih =>
    intro q l4 hq h4
    have hv : valA A q = tb (aL A) q := by show (decide (4 ≤ q) && tb (aL A) q) = _; rw [decide_eq_true h4, Bool.true_and]
    have J57 : tb (aL A) q = true → (bst (valA A) (wtA w A) q = 0 ∨ wtA w A q < wtA w A (bst (valA A) (wtA w A) q - 1)) → ∀ l1 l2, Wp (Kn g D MX5_takeInHope post) (Tb b) 57 [some (rf g 21), some (.int l1), some (.int l2), some (.int (nI q)), some (.int (nI (wtA w A q)))] [] I L := by
      intro e1 e2 l1 l2
      have e3 : bst (valA A) (wtA w A) (q + 1) = q + 1 := by rw [bst, if_pos ⟨by rw [hv]; exact e1, e2⟩]
      refine wq_iload_n 58 3 dX5_takeInHope_57 rfl rfl rfl ?_
      refine wq_istore_n 59 1 [_, _, _, _, _] dX5_takeInHope_58 rfl rfl rfl (Nat.le_of_ble_eq_true rfl) rfl ?_
      refine wq_iload 61 dX5_takeInHope_59 rfl rfl ?_
      refine wq_istore_n 62 2 [_, _, _, _, _] dX5_takeInHope_61 rfl rfl rfl (Nat.le_of_ble_eq_true rfl) rfl ?_
      refine wq_iinc 65 (_ + 1) [_, _, _, _, _] dX5_takeInHope_62 rfl rfl (inc1 _) rfl (Nat.le_of_ble_eq_true rfl) rfl ?_
      refine wq_goto 7 dX5_takeInHope_65 (by decide) ?_
      rw [← nI_succ]
      have h9 := ih (q + 1) (some (.int (nI (wtA w A q)))) (by omega) (by omega)
      rw [e3, lgt, if_neg (by omega), lst, if_neg (by omega), show q + 1 - 1 = q by omega] at h9
      exact h9
    refine wq_iload_n 8 3 dX5_takeInHope_7 rfl rfl rfl ?_
    refine wq_bload_n 9 0 dX5_takeInHope_8 rfl rfl rfl ?_
    refine wq_getI 12 fl_X5_44 dX5_takeInHope_9 rfl rfl o_21 ?_
    refine wq_ic_ge 15 68 dX5_takeInHope_12 rfl (by decide) (fun c12 => absurd c12 (by rw [h10]; exact nI_ge (by omega) (by omega))) (fun c12 => ?_)
    refine wq_bload_n 16 0 dX5_takeInHope_15 rfl rfl rfl ?_
    refine wq_getL 19 fl_X5_57 dX5_takeInHope_16 rfl rfl o_21 ?_
    refine wq_iload_n 20 3 dX5_takeInHope_19 rfl rfl rfl ?_
    refine cSi2 23 (sp_X7_has _ _) ml_X5_132 mf_X7_has dX5_takeInHope_20 rfl (Nat.le_of_ble_eq_true rfl) (by omega) ?_
    refine wq_if_eq 26 62 dX5_takeInHope_23 rfl (by decide) (fun c23 => ?_) (fun c23 => ?_)
    · skip
      refine wq_iinc 65 (_ + 1) [_, _, _, _, _] dX5_takeInHope_62 rfl rfl (inc1 _) rfl (Nat.le_of_ble_eq_true rfl) rfl ?_
      refine wq_goto 7 dX5_takeInHope_65 (by decide) ?_
      have e : tb (aL A) q = false := (hasX_eq0 (aL A) (k := q) (by omega)).mp (by rw [← h2]; exact c23)
      rw [← nI_succ]
      have h9 := ih (q + 1) l4 (by omega) (by omega)
      rw [show bst (valA A) (wtA w A) (q + 1) = bst (valA A) (wtA w A) q by rw [bst, if_neg (fun z => by rw [hv, e] at z; exact absurd z.1 (by decide))]] at h9
      exact h9
    · skip
      have e1 : tb (aL A) q = true := (hasX_ne0 (aL A) (k := q) (by omega)).mp (by rw [← h2]; exact c23)
      have hcq := hc q (by omega) h4 e1
      refine wq_bload_n 27 0 dX5_takeInHope_26 rfl rfl rfl ?_
      refine wq_getI 30 fl_X5_73 dX5_takeInHope_27 rfl rfl o_21 ?_
      refine wq_bload_n 31 0 dX5_takeInHope_30 rfl rfl rfl ?_
      refine wq_getR 34 fl_X5_19 dX5_takeInHope_31 rfl rfl o_21 (rfl : (Tb _).2.2.2 21 2 = some 24) ?_
      refine wq_iload_n 35 3 dX5_takeInHope_34 rfl rfl rfl ?_
      refine wq_iald 36 dX5_takeInHope_35 rfl a_24 (Ix.nI (by omega) (by decide)) ?_
      refine wq_bload_n 37 0 dX5_takeInHope_36 rfl rfl rfl ?_
      refine wq_getR 40 fl_X5_15 dX5_takeInHope_37 rfl rfl o_21 (rfl : (Tb _).2.2.2 21 1 = some 23) ?_
      refine wq_iload_n 41 3 dX5_takeInHope_40 rfl rfl rfl ?_
      refine wq_iald 42 dX5_takeInHope_41 rfl a_23 (Ix.nI (by omega) (by decide)) ?_
      refine cSi3 45 (sp_X7_weightBits (by omega) hw (by omega) (cnt_le (aN A q)) h14 (h.2.2.2.1 q (by omega) h4 e1) (hs.2.2 q h4 (by omega))) ml_X5_168 mf_X7_weightBits dX5_takeInHope_42 rfl (Nat.le_of_ble_eq_true rfl) (by omega) ?_
      refine wq_istore 47 [_, _, _, _, _] dX5_takeInHope_45 rfl rfl (Nat.le_of_ble_eq_true rfl) rfl ?_
      refine wq_iload_n 48 1 dX5_takeInHope_47 rfl rfl rfl ?_
      refine wq_if_lt 51 57 dX5_takeInHope_48 rfl (by decide) (fun c48 => ?_) (fun c48 => ?_)
      · skip
        exact J57 e1 (Or.inl (Decidable.byContradiction (fun z => by rw [lgt, if_neg z] at c48; have := (bst_is (valA A) (wtA w A) q); exact nI_pos (n := bst (valA A) (wtA w A) q - 1) (by omega) c48))) _ _
      · skip
        refine wq_iload 53 dX5_takeInHope_51 rfl rfl ?_
        refine wq_iload_n 54 2 dX5_takeInHope_53 rfl rfl rfl ?_
        refine wq_ic_ge 57 62 dX5_takeInHope_54 rfl (by decide) (fun c54 => ?_) (fun c54 => ?_)
        · skip
          refine wq_iinc 65 (_ + 1) [_, _, _, _, _] dX5_takeInHope_62 rfl rfl (inc1 _) rfl (Nat.le_of_ble_eq_true rfl) rfl ?_
          refine wq_goto 7 dX5_takeInHope_65 (by decide) ?_
          have z0 : ¬ bst (valA A) (wtA w A) q = 0 := fun z => c48 (by rw [lgt, if_pos z]; decide)
          rw [lst, if_neg z0] at c54
          have z1 : ¬ wtA w A q < wtA w A (bst (valA A) (wtA w A) q - 1) := fun z => by
            rcases bst_is (valA A) (wtA w A) q with ⟨z2, -⟩ | ⟨b1, b2, b3⟩
            · exact z0 z2
            · have b3' : (decide (4 ≤ bst (valA A) (wtA w A) q - 1) && tb (aL A) (bst (valA A) (wtA w A) q - 1)) = true := b3
              rw [Bool.and_eq_true, decide_eq_true_eq] at b3'
              exact nI_ge z (wgt_lt (hc _ (by omega) b3'.1 b3'.2)) c54
          rw [← nI_succ]
          have h9 := ih (q + 1) (some (.int (nI (wtA w A q)))) (by omega) (by omega)
          rw [show bst (valA A) (wtA w A) (q + 1) = bst (valA A) (wtA w A) q by rw [bst, if_neg (fun z => z.2.elim z0 z1)]] at h9
          exact h9
        · skip
          have z0 : ¬ bst (valA A) (wtA w A) q = 0 := fun z => c48 (by rw [lgt, if_pos z]; decide)
          rw [lst, if_neg z0] at c54
          exact J57 e1 (Or.inr (Decidable.byContradiction (fun z => c54 (nI_le (b := wtA w A q) (Nat.le_of_not_lt z) (wgt_lt hcq))))) _ _
set_option maxRecDepth 20000 in
set_option maxHeartbeats 2000000 in
theorem sp_X5_hope {g : Gl} {D : Nat} {b : Bool} {I : IM} {L : LM} {k w mv t : Nat} {f1 f2 : Nat → Nat} {A : RA} (hD : 3 ≤ D) (hw : w < 3) (h : RX I L k w mv t f1 f2 A) (hg : GA mv t f1 f2 A) (hs : SX I L k mv t f1 f2 A) (hc : ∀ n, n < 64 → 4 ≤ n → tb (aL A) n = true → aC A n < 2 ^ 24) (hK : aK A < 64) (hQ : aQ A < 154) (hl : leftV A = true) : Me g D MX5_takeInHope [rf g 21] b I L (fun r b' I' L' => r = none ∧ b' = b ∧ RX I' L' k w mv t f1 f2 (noteA (takeA (shutA f1 f2 A (hopeA w A)) (hopeA w A)) (500 + hopeA w A)) ∧ FX I L I' L') := by
  have hx : hopeA w A = bst (valA A) (wtA w A) 64 - 1 := rfl
  have hpos : 1 ≤ bst (valA A) (wtA w A) 64 ∧ bst (valA A) (wtA w A) 64 ≤ 64 ∧ valA A (bst (valA A) (wtA w A) 64 - 1) = true := by
    rcases bst_is (valA A) (wtA w A) 64 with ⟨z1, z2⟩ | z
    · obtain ⟨j, j1, j2⟩ := (anyB_iff _ 64).mp hl
      have z3 : (decide (4 ≤ j) && tb (aL A) j) = false := z2 j j1
      rw [z3] at j2
      cases j2
    · exact z
  have hv : (decide (4 ≤ hopeA w A) && tb (aL A) (hopeA w A)) = true := hpos.2.2
  rw [Bool.and_eq_true, decide_eq_true_eq] at hv
  have hx64 : hopeA w A < 64 := by rw [hx]; omega
  have hb : bst (valA A) (wtA w A) 64 = hopeA w A + 1 := by rw [hx]; omega
  have hgS := GA_shut (x := hopeA w A) hg
  refine Me.of [some (rf g 21), none, none, none, none] 4 rfl pf_X5_takeInHope (Nat.le_of_ble_eq_true rfl) ?_
  have kk : ∀ l2 l3 l4, Wp (Kn g D MX5_takeInHope (fun r b' I' L' => r = none ∧ b' = b ∧ RX I' L' k w mv t f1 f2 (noteA (takeA (shutA f1 f2 A (hopeA w A)) (hopeA w A)) (500 + hopeA w A)) ∧ FX I L I' L')) (Tb b) 68 [some (rf g 21), some (.int (lgt (bst (valA A) (wtA w A) 64))), l2, l3, l4] [] I L := by
    intro l2 l3 l4
    rw [hb, lgt, if_neg (by omega), show hopeA w A + 1 - 1 = hopeA w A by omega]
    refine wq_iload_n 69 1 dX5_takeInHope_68 rfl rfl rfl ?_
    refine wq_if_lt 72 88 dX5_takeInHope_69 rfl (by decide) (fun c69 => absurd c69 (nI_pos (by omega))) (fun c69 => ?_)
    refine wq_bload_n 73 0 dX5_takeInHope_72 rfl rfl rfl ?_
    refine wq_iload_n 74 1 dX5_takeInHope_73 rfl rfl rfl ?_
    refine cVp1 77 (sp_X5_shut (by omega) h hg rfl hx64) ml_X5_165 mf_X5_shutMovesOf dX5_takeInHope_74 rfl o_21 (by decide) rfl (Nat.le_of_ble_eq_true rfl) (by omega) ?_
    rintro _ _ I1 L1 ⟨rfl, rfl, rfl, hR, i1⟩
    refine wq_bload_n 78 0 dX5_takeInHope_77 rfl rfl rfl ?_
    refine wq_iload_n 79 1 dX5_takeInHope_78 rfl rfl rfl ?_
    refine cVp1 82 (sp_X5_take (by omega) hR hgS rfl hx64 hv.2 hK) ml_X5_147 mf_X5_takeAway dX5_takeInHope_79 rfl o_21 (by decide) rfl (Nat.le_of_ble_eq_true rfl) (by omega) ?_
    rintro _ _ I2 L2 ⟨rfl, rfl, hR2, j1, j2, m1, m2⟩
    have hQ' : I2 21 13 = nI (aQ A) := hR2.2.2.2.2.2.2.2.2.1
    refine wq_bload_n 83 0 dX5_takeInHope_82 rfl rfl rfl ?_
    refine wq_iconst 84 5 dX5_takeInHope_83 rfl (by decide) ?_
    refine wq_iload_n 85 1 dX5_takeInHope_84 rfl rfl rfl ?_
    refine cVv2 88 (sp_X5_note hQ' hQ 5 (hopeA w A) rfl rfl) ml_X5_151 mf_X5_note dX5_takeInHope_85 rfl o_21 (by decide) rfl (Nat.le_of_ble_eq_true rfl) (by omega) ?_
    refine rr dX5_takeInHope_88 rfl ?_
    refine ⟨rfl, rfl, RX_note (c := 500 + hopeA w A) hR2, ?_⟩
    refine FX.trans (I' := I2) (L' := L2) ⟨fun z hz => ?_, fun z hz => ?_, m2 17 (by decide)⟩ (FX_note _ _ _ _)
    · simp at hz
      rw [j1 z hz.1 hz.2.2.2.2.2.1]
      exact i1 z hz.2.2.2.2.1
    · simp at hz
      exact m1 z hz.1 hz.2
  refine wq_bipush 2 (-6) dX5_takeInHope_0 rfl (by decide) ?_
  refine wq_istore_n 3 1 [_, _, _, _, _] dX5_takeInHope_2 rfl rfl rfl (Nat.le_of_ble_eq_true rfl) rfl ?_
  refine wq_iconst 4 0 dX5_takeInHope_3 rfl (by decide) ?_
  refine wq_istore_n 5 2 [_, _, _, _, _] dX5_takeInHope_4 rfl rfl rfl (Nat.le_of_ble_eq_true rfl) rfl ?_
  refine wq_iconst 6 4 dX5_takeInHope_5 rfl (by decide) ?_
  refine wq_istore_n 7 3 [_, _, _, _, _] dX5_takeInHope_6 rfl rfl rfl (Nat.le_of_ble_eq_true rfl) rfl ?_
  have b4 : bst (valA A) (wtA w A) 4 = 0 := by
    rcases bst_is (valA A) (wtA w A) 4 with ⟨z1, z2⟩ | ⟨z1, z2, z3⟩
    · exact z1
    · have z3' : (decide (4 ≤ bst (valA A) (wtA w A) 4 - 1) && tb (aL A) (bst (valA A) (wtA w A) 4 - 1)) = true := z3
      rw [Bool.and_eq_true, decide_eq_true_eq] at z3'
      omega
  have h9 := lp_X5_hope (by omega) hw h hg hs hc kk (t - 4) 4 none (by have := hg.2.1; omega) (Nat.le_refl _)
  rw [b4] at h9
  exact h9
