/-! the reference's round: isSafe beside a register -/
theorem near_is {I : IM} {L : LM} {k w mv : Nat} {f1 f2 : Nat → Nat} {tl : Bool} {A : RA} (h : RMx I L k w mv f1 f2 tl A) {x : Nat} (hx : x < 64) (hl : tb (aL A) x = true) : L 87 x &&& L 71 24 = aN A x := by
  rw [h.2.1]; exact h.1 x hx hl
theorem low_is {I : IM} {L : LM} {k w mv : Nat} {f1 f2 : Nat → Nat} {tl : Bool} {A : RA} (h : RMx I L k w mv f1 f2 tl A) {x : Nat} (hx : x < 64) (hl : tb (aL A) x = true) : (decide (4 ≤ x) && decide (cnt (L 87 x &&& L 71 24) < k)) = lowA k A x := by
  rw [near_is h hx hl, lowA, hl, Bool.and_true]
set_option maxRecDepth 20000 in
set_option maxHeartbeats 2000000 in
theorem lp_X8_safeR {g : Gl} {D : Nat} {b : Bool} {I : IM} {L : LM} {k w mv t x y : Nat} {f1 f2 : Nat → Nat} {tl : Bool} {A : RA} {k1 k2 : Int32} (hD : 4 ≤ D) (hk : k < 2 ^ 31) (h : RMx I L k w mv f1 f2 tl A) (hg : GA mv t f1 f2 A) (hx : x < 64) (hy : y < 64) (hxl : tb (aL A) x = true) (hyl : tb (aL A) y = true) {post : Option Value → Bool → IM → LM → Prop} (hp : post (some (.int (bI (safeR k A x y)))) b I L) : ∀ r q l6, q + r = 64 → (∀ j, j < q → (tb (aN A y) j && !lowA k A j && decide (4 ≤ j) && !tb (aN A x) j) = false) → Wp (Kn g D MX8_isSafe post) (Tb b) 36 [some (rf g 71), some (.int k1), some (.int k2), some (.int (nI x)), some (.int (nI y)), some (.int (nI q)), l6] [] I L := by
  have hk0 := h.2.2.2.2.2.2.2.2.2.1
  have ny := near_is h hy hyl
  have nx := near_is h hx hxl
  intro r
  induction r with
  | zero =>
    intro q l6 hq hn
    have eq : q = 64 := by omega
    subst eq
    have e : safeR k A x y = true := by
      rw [safeR, Bool.not_eq_true']
      refine Bool.eq_false_iff.mpr (fun z => ?_)
      obtain ⟨j, j1, j2⟩ := (anyB_iff _ 64).mp z
      rw [hn j j1] at j2
      cases j2
    rw [e] at hp
    refine wq_iload 38 dX8_isSafe_36 rfl rfl ?_
    refine wq_bipush 40 64 dX8_isSafe_38 rfl (by decide) ?_
    refine wq_ic_ge 43 93 dX8_isSafe_40 rfl (by decide) (fun c40 => ?_) (fun c40 => absurd (by decide) c40)
    refine wq_iconst 94 1 dX8_isSafe_93 rfl (by decide) ?_
    refine ri .boolean dX8_isSafe_94 rfl rfl ?_
    exact hp
  | succ r ih =>
    intro q l6 hq hn
    have next : (tb (aN A y) q && !lowA k A q && decide (4 ≤ q) && !tb (aN A x) q) = false → ∀ j, j < q + 1 → (tb (aN A y) j && !lowA k A j && decide (4 ≤ j) && !tb (aN A x) j) = false := by
      intro z j hj
      by_cases e : j = q
      · rw [e]; exact z
      · exact hn j (by omega)
    refine wq_iload 38 dX8_isSafe_36 rfl rfl ?_
    refine wq_bipush 40 64 dX8_isSafe_38 rfl (by decide) ?_
    refine wq_ic_ge 43 93 dX8_isSafe_40 rfl (by decide) (fun c40 => absurd c40 (nI_ge (b := 64) (by omega) (by decide))) (fun c40 => ?_)
    refine wq_bload_n 44 0 dX8_isSafe_43 rfl rfl rfl ?_
    refine wq_iload 46 dX8_isSafe_44 rfl rfl ?_
    refine cVl1 49 (sp_X8_near y rfl hy) ml_X8_215 mf_X8_near dX8_isSafe_46 rfl o_71 (by decide) rfl (Nat.le_of_ble_eq_true rfl) (by omega) ?_
    refine wq_iload 51 dX8_isSafe_49 rfl rfl ?_
    refine cSi2 54 (sp_X8_has _ _) ml_X8_109 mf_X8_has dX8_isSafe_51 rfl (Nat.le_of_ble_eq_true rfl) (by omega) ?_
    refine wq_if_eq 57 87 dX8_isSafe_54 rfl (by decide) (fun c54 => ?_) (fun c54 => ?_)
    · skip
      refine wq_iinc 90 (_ + 1) [_, _, _, _, _, _, _] dX8_isSafe_87 rfl rfl (inc1 _) rfl (Nat.le_of_ble_eq_true rfl) rfl ?_
      refine wq_goto 36 dX8_isSafe_90 (by decide) ?_
      have e1 : tb (aN A y) q = false := (hasM_eq0 _ (k := q) (by omega)).mp (by rw [← ny]; exact c54)
      rw [← nI_succ]
      exact ih (q + 1) _ (by omega) (next (by rw [e1]; rfl))
    · skip
      refine wq_bload_n 58 0 dX8_isSafe_57 rfl rfl rfl ?_
      refine wq_iload 60 dX8_isSafe_58 rfl rfl ?_
      refine cVi1 63 (sp_X8_isLow (by omega) hk0 hk q rfl (by omega)) ml_X8_233 mf_X8_isLow dX8_isSafe_60 rfl o_71 (by decide) rfl (Nat.le_of_ble_eq_true rfl) (by omega) ?_
      refine wq_if_ne 66 87 dX8_isSafe_63 rfl (by decide) (fun c63 => ?_) (fun c63 => ?_)
      · skip
        refine wq_iinc 90 (_ + 1) [_, _, _, _, _, _, _] dX8_isSafe_87 rfl rfl (inc1 _) rfl (Nat.le_of_ble_eq_true rfl) rfl ?_
        refine wq_goto 36 dX8_isSafe_90 (by decide) ?_
        have e1 : tb (aN A y) q = true := (hasM_ne0 _ (k := q) (by omega)).mp (by rw [← ny]; exact c54)
        have ql : tb (aL A) q = true := (hg.2.2.2.2.2.1 y hy hyl q (by omega) e1).1
        have e2 : lowA k A q = true := by rw [← low_is h (by omega) ql]; exact bI_ne.mp c63
        rw [← nI_succ]
        exact ih (q + 1) _ (by omega) (next (by rw [e2]; simp))
      · skip
        refine wq_iload 68 dX8_isSafe_66 rfl rfl ?_
        refine wq_iconst 69 4 dX8_isSafe_68 rfl (by decide) ?_
        refine wq_ic_lt 72 87 dX8_isSafe_69 rfl (by decide) (fun c69 => ?_) (fun c69 => ?_)
        · skip
          refine wq_iinc 90 (_ + 1) [_, _, _, _, _, _, _] dX8_isSafe_87 rfl rfl (inc1 _) rfl (Nat.le_of_ble_eq_true rfl) rfl ?_
          refine wq_goto 36 dX8_isSafe_90 (by decide) ?_
          have e3 : ¬ 4 ≤ q := fun z => nI_nlt (b := 4) z (by omega) c69
          rw [← nI_succ]
          exact ih (q + 1) _ (by omega) (next (by rw [decide_eq_false e3]; simp))
        · skip
          refine wq_bload_n 73 0 dX8_isSafe_72 rfl rfl rfl ?_
          refine wq_iload_n 74 3 dX8_isSafe_73 rfl rfl rfl ?_
          refine cVl1 77 (sp_X8_near x rfl hx) ml_X8_215 mf_X8_near dX8_isSafe_74 rfl o_71 (by decide) rfl (Nat.le_of_ble_eq_true rfl) (by omega) ?_
          refine wq_iload 79 dX8_isSafe_77 rfl rfl ?_
          refine cSi2 82 (sp_X8_has _ _) ml_X8_109 mf_X8_has dX8_isSafe_79 rfl (Nat.le_of_ble_eq_true rfl) (by omega) ?_
          refine wq_if_ne 85 87 dX8_isSafe_82 rfl (by decide) (fun c82 => ?_) (fun c82 => ?_)
          · skip
            refine wq_iinc 90 (_ + 1) [_, _, _, _, _, _, _] dX8_isSafe_87 rfl rfl (inc1 _) rfl (Nat.le_of_ble_eq_true rfl) rfl ?_
            refine wq_goto 36 dX8_isSafe_90 (by decide) ?_
            have e4 : tb (aN A x) q = true := (hasM_ne0 _ (k := q) (by omega)).mp (by rw [← nx]; exact c82)
            rw [← nI_succ]
            exact ih (q + 1) _ (by omega) (next (by rw [e4]; simp))
          · skip
            refine wq_iconst 86 0 dX8_isSafe_85 rfl (by decide) ?_
            refine ri .boolean dX8_isSafe_86 rfl rfl ?_
            have e1 : tb (aN A y) q = true := (hasM_ne0 _ (k := q) (by omega)).mp (by rw [← ny]; exact c54)
            have ql : tb (aL A) q = true := (hg.2.2.2.2.2.1 y hy hyl q (by omega) e1).1
            have e2 : lowA k A q = false := by rw [← low_is h (by omega) ql]; exact bI_eq.mp c63
            have e3 : 4 ≤ q := Decidable.byContradiction (fun z => c69 (nI_lt (b := 4) (by omega) (by decide)))
            have e4 : tb (aN A x) q = false := (hasM_eq0 _ (k := q) (by omega)).mp (by rw [← nx]; exact c82)
            have e : safeR k A x y = false := by
              rw [safeR, Bool.not_eq_false']
              exact (anyB_iff _ 64).mpr ⟨q, by omega, by rw [e1, e2, decide_eq_true e3, e4]; rfl⟩
            rw [e] at hp
            exact hp
