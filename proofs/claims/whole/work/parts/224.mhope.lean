/-! the reference's round: hope -/
set_option maxRecDepth 20000 in
set_option maxHeartbeats 2000000 in
theorem lp_X8_hope {g : Gl} {D : Nat} {b : Bool} {I : IM} {L : LM} {k w mv t : Nat} {f1 f2 : Nat → Nat} {tl : Bool} {A : RA} (hD : 3 ≤ D) (hw : w < 3) (h : RMx I L k w mv f1 f2 tl A) (hg : GA mv t f1 f2 A) (hc : ∀ n, n < 64 → 4 ≤ n → tb (aL A) n = true → aC A n < 2 ^ 24) {post : Option Value → Bool → IM → LM → Prop} (kk : ∀ l2 l3 l4 l5, Wp (Kn g D MX8_hope post) (Tb b) 87 [some (rf g 71), some (.int (lgt (bst (valA A) (wtA w A) 64))), l2, l3, l4, l5] [] I L) : ∀ r q l4 l5, q + r = 64 → 4 ≤ q → Wp (Kn g D MX8_hope post) (Tb b) 7 [some (rf g 71), some (.int (lgt (bst (valA A) (wtA w A) q))), some (.int (lst w A (bst (valA A) (wtA w A) q))), some (.int (nI q)), l4, l5] [] I L := by
  have h2 := h.2.1
  have h11 := h.2.2.2.2.2.2.2.2.2.2.1
  intro r
  induction r with
  | zero =>
    intro q l4 l5 hq h4
    have eq : q = 64 := by omega
    subst eq
    refine wq_iload_n 8 3 dX8_hope_7 rfl rfl rfl ?_
    refine wq_bipush 10 64 dX8_hope_8 rfl (by decide) ?_
    refine wq_ic_ge 13 87 dX8_hope_10 rfl (by decide) (fun c10 => ?_) (fun c10 => absurd (by decide) c10)
    exact kk _ _ _ _
  | succ r ih =>
    intro q l4 l5 hq h4
    have hq64 : q < 64 := by omega
    have hv : valA A q = tb (aL A) q := by show (decide (4 ≤ q) && tb (aL A) q) = _; rw [decide_eq_true h4, Bool.true_and]
    have J51 : tb (aL A) q = true → (bst (valA A) (wtA w A) q = 0 ∨ wtA w A q < wtA w A (bst (valA A) (wtA w A) q - 1)) → ∀ l5, Wp (Kn g D MX8_hope post) (Tb b) 51 [some (rf g 71), some (.int (lgt (bst (valA A) (wtA w A) q))), some (.int (lst w A (bst (valA A) (wtA w A) q))), some (.int (nI q)), some (.int (nI (wtA w A q))), l5] [] I L := by
      intro e1 e2 l5
      have e3 : bst (valA A) (wtA w A) (q + 1) = q + 1 := by rw [bst, if_pos ⟨by rw [hv]; exact e1, e2⟩]
      refine wq_iconst 52 1 dX8_hope_51 rfl (by decide) ?_
      refine wq_goto 56 dX8_hope_52 (by decide) ?_
      refine wq_istore 58 [_, _, _, _, _, _] dX8_hope_56 rfl rfl (Nat.le_of_ble_eq_true rfl) rfl ?_
      refine wq_iload 60 dX8_hope_58 rfl rfl ?_
      refine wq_if_eq 63 67 dX8_hope_60 rfl (by decide) (fun c60 => absurd c60 (by decide)) (fun c60 => ?_)
      refine wq_iload_n 64 3 dX8_hope_63 rfl rfl rfl ?_
      refine wq_goto 68 dX8_hope_64 (by decide) ?_
      refine wq_istore_n 69 1 [_, _, _, _, _, _] dX8_hope_68 rfl rfl rfl (Nat.le_of_ble_eq_true rfl) rfl ?_
      refine wq_iload 71 dX8_hope_69 rfl rfl ?_
      refine wq_if_eq 74 79 dX8_hope_71 rfl (by decide) (fun c71 => absurd c71 (by decide)) (fun c71 => ?_)
      refine wq_iload 76 dX8_hope_74 rfl rfl ?_
      refine wq_goto 80 dX8_hope_76 (by decide) ?_
      refine wq_istore_n 81 2 [_, _, _, _, _, _] dX8_hope_80 rfl rfl rfl (Nat.le_of_ble_eq_true rfl) rfl ?_
      refine wq_iinc 84 (_ + 1) [_, _, _, _, _, _] dX8_hope_81 rfl rfl (inc1 _) rfl (Nat.le_of_ble_eq_true rfl) rfl ?_
      refine wq_goto 7 dX8_hope_84 (by decide) ?_
      rw [← nI_succ]
      have h9 := ih (q + 1) (some (.int (nI (wtA w A q)))) (some (.int 1)) (by omega) (by omega)
      rw [e3, lgt, if_neg (by omega), lst, if_neg (by omega), show q + 1 - 1 = q by omega] at h9
      exact h9
    have J55 : ¬ (bst (valA A) (wtA w A) q = 0 ∨ wtA w A q < wtA w A (bst (valA A) (wtA w A) q - 1)) → ∀ l5, Wp (Kn g D MX8_hope post) (Tb b) 55 [some (rf g 71), some (.int (lgt (bst (valA A) (wtA w A) q))), some (.int (lst w A (bst (valA A) (wtA w A) q))), some (.int (nI q)), some (.int (nI (wtA w A q))), l5] [] I L := by
      intro e2 l5
      have e3 : bst (valA A) (wtA w A) (q + 1) = bst (valA A) (wtA w A) q := by rw [bst, if_neg (fun z => e2 z.2)]
      refine wq_iconst 56 0 dX8_hope_55 rfl (by decide) ?_
      refine wq_istore 58 [_, _, _, _, _, _] dX8_hope_56 rfl rfl (Nat.le_of_ble_eq_true rfl) rfl ?_
      refine wq_iload 60 dX8_hope_58 rfl rfl ?_
      refine wq_if_eq 63 67 dX8_hope_60 rfl (by decide) (fun c60 => ?_) (fun c60 => absurd rfl c60)
      refine wq_iload_n 68 1 dX8_hope_67 rfl rfl rfl ?_
      refine wq_istore_n 69 1 [_, _, _, _, _, _] dX8_hope_68 rfl rfl rfl (Nat.le_of_ble_eq_true rfl) rfl ?_
      refine wq_iload 71 dX8_hope_69 rfl rfl ?_
      refine wq_if_eq 74 79 dX8_hope_71 rfl (by decide) (fun c71 => ?_) (fun c71 => absurd rfl c71)
      refine wq_iload_n 80 2 dX8_hope_79 rfl rfl rfl ?_
      refine wq_istore_n 81 2 [_, _, _, _, _, _] dX8_hope_80 rfl rfl rfl (Nat.le_of_ble_eq_true rfl) rfl ?_
      refine wq_iinc 84 (_ + 1) [_, _, _, _, _, _] dX8_hope_81 rfl rfl (inc1 _) rfl (Nat.le_of_ble_eq_true rfl) rfl ?_
      refine wq_goto 7 dX8_hope_84 (by decide) ?_
      rw [← nI_succ]
      have h9 := ih (q + 1) (some (.int (nI (wtA w A q)))) (some (.int 0)) (by omega) (by omega)
      rw [e3] at h9
      exact h9
    refine wq_iload_n 8 3 dX8_hope_7 rfl rfl rfl ?_
    refine wq_bipush 10 64 dX8_hope_8 rfl (by decide) ?_
    refine wq_ic_ge 13 87 dX8_hope_10 rfl (by decide) (fun c10 => absurd c10 (nI_ge (b := 64) (by omega) (by decide))) (fun c10 => ?_)
    refine wq_bload_n 14 0 dX8_hope_13 rfl rfl rfl ?_
    refine wq_getL 17 fl_X8_211 dX8_hope_14 rfl rfl o_71 ?_
    refine wq_iload_n 18 3 dX8_hope_17 rfl rfl rfl ?_
    refine cSi2 21 (sp_X8_has _ _) ml_X8_109 mf_X8_has dX8_hope_18 rfl (Nat.le_of_ble_eq_true rfl) (by omega) ?_
    refine wq_if_eq 24 81 dX8_hope_21 rfl (by decide) (fun c21 => ?_) (fun c21 => ?_)
    · skip
      refine wq_iinc 84 (_ + 1) [_, _, _, _, _, _] dX8_hope_81 rfl rfl (inc1 _) rfl (Nat.le_of_ble_eq_true rfl) rfl ?_
      refine wq_goto 7 dX8_hope_84 (by decide) ?_
      have e : tb (aL A) q = false := (hasM_eq0 (aL A) (k := q) hq64).mp (by rw [← h2]; exact c21)
      rw [← nI_succ]
      have h9 := ih (q + 1) l4 l5 (by omega) (by omega)
      rw [show bst (valA A) (wtA w A) (q + 1) = bst (valA A) (wtA w A) q by rw [bst, if_neg (fun z => by rw [hv, e] at z; exact absurd z.1 (by decide))]] at h9
      exact h9
    · skip
      have e1 : tb (aL A) q = true := (hasM_ne0 (aL A) (k := q) hq64).mp (by rw [← h2]; exact c21)
      have hcq := hc q (by omega) h4 e1
      refine wq_bload_n 25 0 dX8_hope_24 rfl rfl rfl ?_
      refine wq_bload_n 26 0 dX8_hope_25 rfl rfl rfl ?_
      refine wq_getR 29 fl_X8_66 dX8_hope_26 rfl rfl o_71 (rfl : (Tb _).2.2.2 71 23 = some 89) ?_
      refine wq_iload_n 30 3 dX8_hope_29 rfl rfl rfl ?_
      refine wq_iald 31 dX8_hope_30 rfl a_89 (Ix.nI (by omega) (by decide)) ?_
      refine wq_bload_n 32 0 dX8_hope_31 rfl rfl rfl ?_
      refine wq_iload_n 33 3 dX8_hope_32 rfl rfl rfl ?_
      refine cVi1 36 (sp_X8_degree (by omega) q rfl hq64) ml_X8_218 mf_X8_degree dX8_hope_33 rfl o_71 (by decide) rfl (Nat.le_of_ble_eq_true rfl) (by omega) ?_
      rw [near_is h hq64 e1]
      refine cVi2 39 (sp_X8_weigh (by omega) hw h11 (by omega) (cnt_le (aN A q)) (h.2.2.2.1 q hq64 h4 e1) rfl) ml_X8_201 mf_X8_weigh dX8_hope_36 rfl o_71 (by decide) rfl (Nat.le_of_ble_eq_true rfl) (by omega) ?_
      refine wq_istore 41 [_, _, _, _, _, _] dX8_hope_39 rfl rfl (Nat.le_of_ble_eq_true rfl) rfl ?_
      refine wq_iload_n 42 1 dX8_hope_41 rfl rfl rfl ?_
      refine wq_if_lt 45 51 dX8_hope_42 rfl (by decide) (fun c42 => ?_) (fun c42 => ?_)
      · skip
        exact J51 e1 (Or.inl (Decidable.byContradiction (fun z => by rw [lgt, if_neg z] at c42; have := (bst_is (valA A) (wtA w A) q); exact nI_pos (n := bst (valA A) (wtA w A) q - 1) (by omega) c42))) _
      · skip
        refine wq_iload 47 dX8_hope_45 rfl rfl ?_
        refine wq_iload_n 48 2 dX8_hope_47 rfl rfl rfl ?_
        refine wq_ic_ge 51 55 dX8_hope_48 rfl (by decide) (fun c48 => ?_) (fun c48 => ?_)
        · skip
          have z0 : ¬ bst (valA A) (wtA w A) q = 0 := fun z => c42 (by rw [lgt, if_pos z]; decide)
          rw [lst, if_neg z0] at c48
          have z1 : ¬ wtA w A q < wtA w A (bst (valA A) (wtA w A) q - 1) := fun z => by
            rcases bst_is (valA A) (wtA w A) q with ⟨z2, -⟩ | ⟨b1, b2, b3⟩
            · exact z0 z2
            · have b3' : (decide (4 ≤ bst (valA A) (wtA w A) q - 1) && tb (aL A) (bst (valA A) (wtA w A) q - 1)) = true := b3
              rw [Bool.and_eq_true, decide_eq_true_eq] at b3'
              exact nI_ge z (wgt_lt (hc _ (by omega) b3'.1 b3'.2)) c48
          exact J55 (fun z => z.elim z0 z1) _
        · skip
          have z0 : ¬ bst (valA A) (wtA w A) q = 0 := fun z => c42 (by rw [lgt, if_pos z]; decide)
          rw [lst, if_neg z0] at c48
          exact J51 e1 (Or.inr (Decidable.byContradiction (fun z => c48 (nI_le (b := wtA w A q) (Nat.le_of_not_lt z) (wgt_lt hcq))))) _
set_option maxRecDepth 20000 in
set_option maxHeartbeats 2000000 in
theorem sp_X8_hope {g : Gl} {D : Nat} {b : Bool} {I : IM} {L : LM} {k w mv t : Nat} {f1 f2 : Nat → Nat} {tl : Bool} {A : RA} (hD : 3 ≤ D) (hw : w < 3) (h : RMx I L k w mv f1 f2 tl A) (hg : GA mv t f1 f2 A) (hc : ∀ n, n < 64 → 4 ≤ n → tb (aL A) n = true → aC A n < 2 ^ 24) (hK : aK A < 64) (hQ : aQ A < 200) (hl : leftV A = true) : Me g D MX8_hope [rf g 71] b I L (fun r b' I' L' => r = none ∧ b' = b ∧ RMx I' L' k w mv f1 f2 tl (noteA (takeA (shutA f1 f2 A (hopeA w A)) (hopeA w A)) (500 + hopeA w A)) ∧ FM I L I' L') := by
  have hx : hopeA w A = bst (valA A) (wtA w A) 64 - 1 := rfl
  have hpos : 1 ≤ bst (valA A) (wtA w A) 64 ∧ bst (valA A) (wtA w A) 64 ≤ 64 ∧ valA A (bst (valA A) (wtA w A) 64 - 1) = true := by
    rcases bst_is (valA A) (wtA w A) 64 with ⟨z1, z2⟩ | z
    · obtain ⟨j, j1, j2⟩ := (anyB_iff _ 64).mp hl
      have z3 : (decide (4 ≤ j) && tb (aL A) j) = false := z2 j j1
      rw [z3] at j2
      cases j2
    · exact z
  have hv : (decide (4 ≤ hopeA w A) && tb (aL A) (hopeA w A)) = true := hpos.2.2
  rw [Bool.and_eq_true, decide_eq_true_eq] at hv
  have hx64 : hopeA w A < 64 := by rw [hx]; omega
  have hb : bst (valA A) (wtA w A) 64 = hopeA w A + 1 := by rw [hx]; omega
  refine Me.of [some (rf g 71), none, none, none, none, none] 5 rfl pf_X8_hope (Nat.le_of_ble_eq_true rfl) ?_
  have kk : ∀ l2 l3 l4 l5, Wp (Kn g D MX8_hope (fun r b' I' L' => r = none ∧ b' = b ∧ RMx I' L' k w mv f1 f2 tl (noteA (takeA (shutA f1 f2 A (hopeA w A)) (hopeA w A)) (500 + hopeA w A)) ∧ FM I L I' L')) (Tb b) 87 [some (rf g 71), some (.int (lgt (bst (valA A) (wtA w A) 64))), l2, l3, l4, l5] [] I L := by
    intro l2 l3 l4 l5
    rw [hb, lgt, if_neg (by omega), show hopeA w A + 1 - 1 = hopeA w A by omega]
    refine wq_bload_n 88 0 dX8_hope_87 rfl rfl rfl ?_
    refine wq_sipush 91 500 dX8_hope_88 rfl (by decide) ?_
    refine wq_iload_n 92 1 dX8_hope_91 rfl rfl rfl ?_
    refine wq_iadd 93 dX8_hope_92 rfl ?_
    refine cVp1 96 (sp_X8_note h hQ (500 + hopeA w A) (by exact nI_add 500 (hopeA w A))) ml_X8_239 mf_X8_note dX8_hope_93 rfl o_71 (by decide) rfl (Nat.le_of_ble_eq_true rfl) (by omega) ?_
    rintro _ _ I1 L1 ⟨rfl, rfl, rfl, hR1, i1, i2⟩
    have hgS := GA_shut (x := hopeA w A) (GA_note (c := 500 + hopeA w A) hg)
    refine wq_bload_n 97 0 dX8_hope_96 rfl rfl rfl ?_
    refine wq_iload_n 98 1 dX8_hope_97 rfl rfl rfl ?_
    refine cVp1 101 (sp_X8_shut (by omega) hR1 (GA_note hg) (hopeA w A) rfl hx64) ml_X8_252 mf_X8_shutAll dX8_hope_98 rfl o_71 (by decide) rfl (Nat.le_of_ble_eq_true rfl) (by omega) ?_
    rintro _ _ I2 L2 ⟨rfl, rfl, rfl, hR2, j1⟩
    refine wq_bload_n 102 0 dX8_hope_101 rfl rfl rfl ?_
    refine wq_iload_n 103 1 dX8_hope_102 rfl rfl rfl ?_
    refine cVp1 106 (sp_X8_take (by omega) hR2 hgS (hopeA w A) rfl hx64 hv.2 hK) ml_X8_243 mf_X8_take dX8_hope_103 rfl o_71 (by decide) rfl (Nat.le_of_ble_eq_true rfl) (by omega) ?_
    rintro _ _ I3 L3 ⟨rfl, rfl, hR3, o1, o2, m1, m2⟩
    refine rr dX8_hope_106 rfl ?_
    exact ⟨rfl, rfl, hR3, ((FM_note i1 i2).trans (FM_shut j1)).trans (FM_take o1 o2 m1 m2)⟩
  refine wq_bipush 2 (-6) dX8_hope_0 rfl (by decide) ?_
  refine wq_istore_n 3 1 [_, _, _, _, _, _] dX8_hope_2 rfl rfl rfl (Nat.le_of_ble_eq_true rfl) rfl ?_
  refine wq_iconst 4 0 dX8_hope_3 rfl (by decide) ?_
  refine wq_istore_n 5 2 [_, _, _, _, _, _] dX8_hope_4 rfl rfl rfl (Nat.le_of_ble_eq_true rfl) rfl ?_
  refine wq_iconst 6 4 dX8_hope_5 rfl (by decide) ?_
  refine wq_istore_n 7 3 [_, _, _, _, _, _] dX8_hope_6 rfl rfl rfl (Nat.le_of_ble_eq_true rfl) rfl ?_
  have b4 : bst (valA A) (wtA w A) 4 = 0 := by
    rcases bst_is (valA A) (wtA w A) 4 with ⟨z1, z2⟩ | ⟨z1, z2, z3⟩
    · exact z1
    · have z3' : (decide (4 ≤ bst (valA A) (wtA w A) 4 - 1) && tb (aL A) (bst (valA A) (wtA w A) 4 - 1)) = true := z3
      rw [Bool.and_eq_true, decide_eq_true_eq] at z3'
      omega
  have h9 := lp_X8_hope (by omega) hw h hg hc kk 60 4 none none (by omega) (Nat.le_refl _)
  rw [b4] at h9
  exact h9
