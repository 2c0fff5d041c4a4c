/-! the reference's round: isSafe -/
theorem hasM_bI (s : Int64) {k : Nat} (hk : k < 64) : hasM s (nI k) = bI (tb s k) := by
  rw [hasM_tb s hk]; cases tb s k <;> rfl
set_option maxRecDepth 20000 in
set_option maxHeartbeats 2000000 in
theorem lp_X8_crowd {g : Gl} {D : Nat} {b : Bool} {I : IM} {L : LM} {k w mv t x y : Nat} {f1 f2 : Nat → Nat} {tl : Bool} {A : RA} (hD : 4 ≤ D) (hk : k < 2 ^ 30) (h : RMx I L k w mv f1 f2 tl A) (hg : GA mv t f1 f2 A) (hx : x < 64) (hy : y < 64) (hxl : tb (aL A) x = true) (hyl : tb (aL A) y = true) {post : Option Value → Bool → IM → LM → Prop} (hp : post (some (.int (bI (safeV k A x y)))) b I L) : ∀ r q l5 l6, q + r = 64 → Wp (Kn g D MX8_isSafe post) (Tb b) 100 [some (rf g 71), some (.int (nI x)), some (.int (nI y)), some (.int (nI (cntF (crowd k A x y) q))), some (.int (nI q)), l5, l6] [] I L := by
  have hk0 := h.2.2.2.2.2.2.2.2.2.1
  have ny := near_is h hy hyl
  have nx := near_is h hx hxl
  intro r
  induction r with
  | zero =>
    intro q l5 l6 hq
    have eq : q = 64 := by omega
    subst eq
    have hcl := cntF_le (crowd k A x y) 64
    rw [safeV] at hp
    refine wq_iload 102 dX8_isSafe_100 rfl rfl ?_
    refine wq_bipush 104 64 dX8_isSafe_102 rfl (by decide) ?_
    refine wq_ic_ge 107 190 dX8_isSafe_104 rfl (by decide) (fun c104 => ?_) (fun c104 => absurd (by decide) c104)
    refine wq_iload_n 191 3 dX8_isSafe_190 rfl rfl rfl ?_
    refine wq_bload_n 192 0 dX8_isSafe_191 rfl rfl rfl ?_
    refine wq_getI 195 fl_X8_7 dX8_isSafe_192 rfl rfl o_71 ?_
    refine wq_ic_ge 198 202 dX8_isSafe_195 rfl (by decide) (fun c195 => ?_) (fun c195 => ?_)
    · skip
      refine wq_iconst 203 0 dX8_isSafe_202 rfl (by decide) ?_
      refine ri .boolean dX8_isSafe_203 rfl rfl ?_
      rw [hk0] at c195
      rw [decide_eq_false (fun z => nI_ge z (by omega) c195)] at hp
      exact hp
    · skip
      refine wq_iconst 199 1 dX8_isSafe_198 rfl (by decide) ?_
      refine wq_goto 203 dX8_isSafe_199 (by decide) ?_
      refine ri .boolean dX8_isSafe_203 rfl rfl ?_
      rw [hk0] at c195
      rw [decide_eq_true (Decidable.byContradiction (fun z => c195 (nI_le (by omega) (by omega))))] at hp
      exact hp
  | succ r ih =>
    intro q l5 l6 hq
    have hcl := cntF_le (crowd k A x y) q
    have hcn := cnt_le (aN A q)
    have yes : crowd k A x y q = true → cntF (crowd k A x y) q + 1 = cntF (crowd k A x y) (q + 1) := fun z => by rw [cntF, if_pos z]
    have no : crowd k A x y q = false → cntF (crowd k A x y) q = cntF (crowd k A x y) (q + 1) := fun z => by rw [cntF, if_neg (by rw [z]; decide), Nat.add_zero]
    have J169 : ∀ (f : Nat) l5 l6, f = (if (tb (aN A x) q && tb (aN A y) q) = true then 1 else 0) → (tb (aN A x) q || tb (aN A y) q) = true → ¬ q < 4 → Wp (Kn g D MX8_isSafe post) (Tb b) 169 [some (rf g 71), some (.int (nI x)), some (.int (nI y)), some (.int (nI (cntF (crowd k A x y) q))), some (.int (nI q)), l5, l6] [.int (nI f), .int (nI (cnt (aN A q))), .int (nI (cntF (crowd k A x y) q))] I L := by
      intro f l5 l6 hf he e
      have hf1 : f ≤ 1 := by rw [hf]; split <;> omega
      have cr : crowd k A x y q = (decide (q < 4) || decide (k + f ≤ cnt (aN A q))) := by
        rw [crowd, he, Bool.true_and, ← hf]
      refine wq_isub 170 dX8_isSafe_169 rfl ?_
      refine wq_bload_n 171 0 dX8_isSafe_170 rfl rfl rfl ?_
      refine wq_getI 174 fl_X8_7 dX8_isSafe_171 rfl rfl o_71 ?_
      refine wq_ic_lt 177 181 dX8_isSafe_174 rfl (by decide) (fun c174 => ?_) (fun c174 => ?_)
      · skip
        refine wq_iconst 182 0 dX8_isSafe_181 rfl (by decide) ?_
        refine wq_iadd 183 dX8_isSafe_182 rfl ?_
        refine wq_istore_n 184 3 [_, _, _, _, _, _, _] dX8_isSafe_183 rfl rfl rfl (Nat.le_of_ble_eq_true rfl) rfl ?_
        refine wq_iinc 187 (_ + 1) [_, _, _, _, _, _, _] dX8_isSafe_184 rfl rfl (inc1 _) rfl (Nat.le_of_ble_eq_true rfl) rfl ?_
        refine wq_goto 100 dX8_isSafe_187 (by decide) ?_
        rw [hk0] at c174
        rw [← nI_succ, show nI (cntF (crowd k A x y) q) + (0 : Int32) = nI (cntF (crowd k A x y) q) from nI_add _ 0, no (by rw [cr, decide_eq_false e, decide_eq_false ((sub_lt (by omega) (by omega) hk).mp c174)]; rfl)]
        exact ih (q + 1) _ _ (by omega)
      · skip
        refine wq_iconst 178 1 dX8_isSafe_177 rfl (by decide) ?_
        refine wq_goto 182 dX8_isSafe_178 (by decide) ?_
        refine wq_iadd 183 dX8_isSafe_182 rfl ?_
        refine wq_istore_n 184 3 [_, _, _, _, _, _, _] dX8_isSafe_183 rfl rfl rfl (Nat.le_of_ble_eq_true rfl) rfl ?_
        refine wq_iinc 187 (_ + 1) [_, _, _, _, _, _, _] dX8_isSafe_184 rfl rfl (inc1 _) rfl (Nat.le_of_ble_eq_true rfl) rfl ?_
        refine wq_goto 100 dX8_isSafe_187 (by decide) ?_
        rw [hk0] at c174
        rw [← nI_succ, ← nI_succ, yes (by rw [cr, decide_eq_true (Decidable.byContradiction (fun z => c174 ((sub_lt (by omega) (by omega) hk).mpr z))), Bool.or_true])]
        exact ih (q + 1) _ _ (by omega)
    have J141 : ∀ (u v : Bool), u = tb (aN A x) q → v = tb (aN A y) q → (u || v) = true → Wp (Kn g D MX8_isSafe post) (Tb b) 141 [some (rf g 71), some (.int (nI x)), some (.int (nI y)), some (.int (nI (cntF (crowd k A x y) q))), some (.int (nI q)), some (.int (bI u)), some (.int (bI v))] [] I L := by
      intro u v hu hv he
      have ql : tb (aL A) q = true := by
        rcases Bool.or_eq_true .. ▸ he with z | z
        · rw [hu] at z; exact (hg.2.2.2.2.2.1 x hx hxl q (by omega) z).1
        · rw [hv] at z; exact (hg.2.2.2.2.2.1 y hy hyl q (by omega) z).1
      have nq := near_is h (show q < 64 by omega) ql
      refine wq_iload_n 142 3 dX8_isSafe_141 rfl rfl rfl ?_
      refine wq_iload 144 dX8_isSafe_142 rfl rfl ?_
      refine wq_iconst 145 4 dX8_isSafe_144 rfl (by decide) ?_
      refine wq_ic_lt 148 177 dX8_isSafe_145 rfl (by decide) (fun c145 => ?_) (fun c145 => ?_)
      · skip
        refine wq_iconst 178 1 dX8_isSafe_177 rfl (by decide) ?_
        refine wq_goto 182 dX8_isSafe_178 (by decide) ?_
        refine wq_iadd 183 dX8_isSafe_182 rfl ?_
        refine wq_istore_n 184 3 [_, _, _, _, _, _, _] dX8_isSafe_183 rfl rfl rfl (Nat.le_of_ble_eq_true rfl) rfl ?_
        refine wq_iinc 187 (_ + 1) [_, _, _, _, _, _, _] dX8_isSafe_184 rfl rfl (inc1 _) rfl (Nat.le_of_ble_eq_true rfl) rfl ?_
        refine wq_goto 100 dX8_isSafe_187 (by decide) ?_
        have e : q < 4 := (nI_ltI (b := 4) (by omega) (by decide)).mp c145
        rw [← nI_succ, ← nI_succ, yes (by rw [crowd, ← hu, ← hv, he, decide_eq_true e]; rfl)]
        exact ih (q + 1) _ _ (by omega)
      · skip
        refine wq_bload_n 149 0 dX8_isSafe_148 rfl rfl rfl ?_
        refine wq_iload 151 dX8_isSafe_149 rfl rfl ?_
        refine cVi1 154 (sp_X8_degree (by omega) q rfl (by omega)) ml_X8_218 mf_X8_degree dX8_isSafe_151 rfl o_71 (by decide) rfl (Nat.le_of_ble_eq_true rfl) (by omega) ?_
        refine wq_iload 156 dX8_isSafe_154 rfl rfl ?_
        refine wq_if_eq 159 168 dX8_isSafe_156 rfl (by decide) (fun c156 => ?_) (fun c156 => ?_)
        · skip
          refine wq_iconst 169 0 dX8_isSafe_168 rfl (by decide) ?_
          have e : ¬ q < 4 := fun z => c145 (nI_lt (b := 4) z (by decide))
          rw [nq]
          have e2 := bI_eq.mp c156
          exact J169 0 _ _ (by rw [← hu, e2]; rfl) (by rw [← hu, ← hv]; exact he) e
        · skip
          refine wq_iload 161 dX8_isSafe_159 rfl rfl ?_
          refine wq_if_eq 164 168 dX8_isSafe_161 rfl (by decide) (fun c161 => ?_) (fun c161 => ?_)
          · skip
            refine wq_iconst 169 0 dX8_isSafe_168 rfl (by decide) ?_
            have e : ¬ q < 4 := fun z => c145 (nI_lt (b := 4) z (by decide))
            rw [nq]
            have e2 := bI_eq.mp c161
            exact J169 0 _ _ (by rw [← hv, e2, Bool.and_false]; rfl) (by rw [← hu, ← hv]; exact he) e
          · skip
            refine wq_iconst 165 1 dX8_isSafe_164 rfl (by decide) ?_
            refine wq_goto 169 dX8_isSafe_165 (by decide) ?_
            have e : ¬ q < 4 := fun z => c145 (nI_lt (b := 4) z (by decide))
            rw [nq]
            have e2 := bI_ne.mp c156
            have e3 := bI_ne.mp c161
            exact J169 1 _ _ (by rw [← hu, ← hv, e2, e3]; rfl) (by rw [← hu, ← hv]; exact he) e
    refine wq_iload 102 dX8_isSafe_100 rfl rfl ?_
    refine wq_bipush 104 64 dX8_isSafe_102 rfl (by decide) ?_
    refine wq_ic_ge 107 190 dX8_isSafe_104 rfl (by decide) (fun c104 => absurd c104 (nI_ge (b := 64) (by omega) (by decide))) (fun c104 => ?_)
    refine wq_bload_n 108 0 dX8_isSafe_107 rfl rfl rfl ?_
    refine wq_iload_n 109 1 dX8_isSafe_108 rfl rfl rfl ?_
    refine cVl1 112 (sp_X8_near x rfl hx) ml_X8_215 mf_X8_near dX8_isSafe_109 rfl o_71 (by decide) rfl (Nat.le_of_ble_eq_true rfl) (by omega) ?_
    refine wq_iload 114 dX8_isSafe_112 rfl rfl ?_
    refine cSi2 117 (sp_X8_has _ _) ml_X8_109 mf_X8_has dX8_isSafe_114 rfl (Nat.le_of_ble_eq_true rfl) (by omega) ?_
    rw [nx, hasM_bI _ (show q < 64 by omega)]
    refine wq_istore 119 [_, _, _, _, _, _, _] dX8_isSafe_117 rfl rfl (Nat.le_of_ble_eq_true rfl) rfl ?_
    refine wq_bload_n 120 0 dX8_isSafe_119 rfl rfl rfl ?_
    refine wq_iload_n 121 2 dX8_isSafe_120 rfl rfl rfl ?_
    refine cVl1 124 (sp_X8_near y rfl hy) ml_X8_215 mf_X8_near dX8_isSafe_121 rfl o_71 (by decide) rfl (Nat.le_of_ble_eq_true rfl) (by omega) ?_
    refine wq_iload 126 dX8_isSafe_124 rfl rfl ?_
    refine cSi2 129 (sp_X8_has _ _) ml_X8_109 mf_X8_has dX8_isSafe_126 rfl (Nat.le_of_ble_eq_true rfl) (by omega) ?_
    rw [ny, hasM_bI _ (show q < 64 by omega)]
    refine wq_istore 131 [_, _, _, _, _, _, _] dX8_isSafe_129 rfl rfl (Nat.le_of_ble_eq_true rfl) rfl ?_
    refine wq_iload 133 dX8_isSafe_131 rfl rfl ?_
    refine wq_if_ne 136 141 dX8_isSafe_133 rfl (by decide) (fun c133 => ?_) (fun c133 => ?_)
    · skip
      exact J141 _ _ rfl rfl (by rw [bI_ne.mp c133]; rfl)
    · skip
      refine wq_iload 138 dX8_isSafe_136 rfl rfl ?_
      refine wq_if_eq 141 184 dX8_isSafe_138 rfl (by decide) (fun c138 => ?_) (fun c138 => ?_)
      · skip
        refine wq_iinc 187 (_ + 1) [_, _, _, _, _, _, _] dX8_isSafe_184 rfl rfl (inc1 _) rfl (Nat.le_of_ble_eq_true rfl) rfl ?_
        refine wq_goto 100 dX8_isSafe_187 (by decide) ?_
        have e1 := bI_eq.mp c133
        have e2 := bI_eq.mp c138
        rw [← nI_succ, no (by rw [crowd, e1, e2]; rfl)]
        exact ih (q + 1) _ _ (by omega)
      · skip
        exact J141 _ _ rfl rfl (by rw [bI_ne.mp c138, Bool.or_true])
theorem crowd_symm (k : Nat) (A : RA) (x y : Nat) : crowd k A x y = crowd k A y x := by
  funext t
  rw [crowd, crowd, Bool.or_comm (tb (aN A x) t), Bool.and_comm (tb (aN A x) t)]
/-- whether two may be made one, in either order -/
def safeB (k : Nat) (A : RA) (x y : Nat) : Bool := safeA k A (min x y) (max x y)
set_option maxRecDepth 20000 in
set_option maxHeartbeats 2000000 in
theorem sp_X8_isSafe {g : Gl} {D : Nat} {b : Bool} {I : IM} {L : LM} {k w mv t x y : Nat} {f1 f2 : Nat → Nat} {tl : Bool} {A : RA} (hD : 4 ≤ D) (hk : k < 2 ^ 30) (h : RMx I L k w mv f1 f2 tl A) (hg : GA mv t f1 f2 A) {i j : Int32} (hi : i = nI x) (hj : j = nI y) (hx : x < 64) (hy : y < 64) (hxl : tb (aL A) x = true) (hyl : tb (aL A) y = true) (hxy : ¬ (x < 4 ∧ y < 4)) : Md g D MX8_isSafe [rf g 71, .int i, .int j] b I L (some (.int (bI (safeB k A x y)))) b I L := by
  subst hi hj
  refine Me.of [some (rf g 71), some (.int (nI x)), some (.int (nI y)), none, none, none, none] 4 rfl pf_X8_isSafe (Nat.le_of_ble_eq_true rfl) ?_
  have A1 : x < 4 → safeB k A x y = safeR k A x y := fun e => by
    rw [safeB, show min x y = x by omega, show max x y = y by omega, safeA, if_pos e]
  have A2 : y < 4 → safeB k A x y = safeR k A y x := fun e => by
    rw [safeB, show min x y = y by omega, show max x y = x by omega, safeA, if_pos e]
  have A3 : ¬ x < 4 → ¬ y < 4 → safeB k A x y = safeV k A x y := fun e e2 => by
    rw [safeB, safeA, if_neg (by omega)]
    by_cases c : x ≤ y
    · rw [show min x y = x by omega, show max x y = y by omega]
    · rw [show min x y = y by omega, show max x y = x by omega, safeV, safeV, crowd_symm]
  by_cases e : x < 4
  · skip
    refine wq_iload_n 1 1 dX8_isSafe_0 rfl rfl rfl ?_
    refine wq_iconst 2 4 dX8_isSafe_1 rfl (by decide) ?_
    refine wq_ic_lt 5 10 dX8_isSafe_2 rfl (by decide) (fun c2 => ?_) (fun c2 => absurd (nI_lt (b := 4) e (by decide)) c2)
    refine wq_iload_n 11 1 dX8_isSafe_10 rfl rfl rfl ?_
    refine wq_iconst 12 4 dX8_isSafe_11 rfl (by decide) ?_
    refine wq_ic_ge 15 19 dX8_isSafe_12 rfl (by decide) (fun c12 => absurd c12 (nI_ge (b := 4) e (by decide))) (fun c12 => ?_)
    refine wq_iload_n 16 1 dX8_isSafe_15 rfl rfl rfl ?_
    refine wq_goto 20 dX8_isSafe_16 (by decide) ?_
    refine wq_istore_n 21 3 [_, _, _, _, _, _, _] dX8_isSafe_20 rfl rfl rfl (Nat.le_of_ble_eq_true rfl) rfl ?_
    refine wq_iload_n 22 1 dX8_isSafe_21 rfl rfl rfl ?_
    refine wq_iconst 23 4 dX8_isSafe_22 rfl (by decide) ?_
    refine wq_ic_ge 26 30 dX8_isSafe_23 rfl (by decide) (fun c23 => absurd c23 (nI_ge (b := 4) e (by decide))) (fun c23 => ?_)
    refine wq_iload_n 27 2 dX8_isSafe_26 rfl rfl rfl ?_
    refine wq_goto 31 dX8_isSafe_27 (by decide) ?_
    refine wq_istore 33 [_, _, _, _, _, _, _] dX8_isSafe_31 rfl rfl (Nat.le_of_ble_eq_true rfl) rfl ?_
    refine wq_iconst 34 0 dX8_isSafe_33 rfl (by decide) ?_
    refine wq_istore 36 [_, _, _, _, _, _, _] dX8_isSafe_34 rfl rfl (Nat.le_of_ble_eq_true rfl) rfl ?_
    exact lp_X8_safeR hD (by omega) h hg hx hy hxl hyl ⟨by rw [A1 e], rfl, rfl, rfl⟩ 64 0 _ (by omega) (fun j hj => by omega)
  · by_cases e2 : y < 4
    · skip
      refine wq_iload_n 1 1 dX8_isSafe_0 rfl rfl rfl ?_
      refine wq_iconst 2 4 dX8_isSafe_1 rfl (by decide) ?_
      refine wq_ic_lt 5 10 dX8_isSafe_2 rfl (by decide) (fun c2 => absurd c2 (fun z => e ((nI_ltI (b := 4) (by omega) (by decide)).mp z))) (fun c2 => ?_)
      refine wq_iload_n 6 2 dX8_isSafe_5 rfl rfl rfl ?_
      refine wq_iconst 7 4 dX8_isSafe_6 rfl (by decide) ?_
      refine wq_ic_ge 10 95 dX8_isSafe_7 rfl (by decide) (fun c7 => absurd c7 (nI_ge (b := 4) e2 (by decide))) (fun c7 => ?_)
      refine wq_iload_n 11 1 dX8_isSafe_10 rfl rfl rfl ?_
      refine wq_iconst 12 4 dX8_isSafe_11 rfl (by decide) ?_
      refine wq_ic_ge 15 19 dX8_isSafe_12 rfl (by decide) (fun c12 => ?_) (fun c12 => absurd (nI_le (a := 4) (by omega) (by omega)) c12)
      refine wq_iload_n 20 2 dX8_isSafe_19 rfl rfl rfl ?_
      refine wq_istore_n 21 3 [_, _, _, _, _, _, _] dX8_isSafe_20 rfl rfl rfl (Nat.le_of_ble_eq_true rfl) rfl ?_
      refine wq_iload_n 22 1 dX8_isSafe_21 rfl rfl rfl ?_
      refine wq_iconst 23 4 dX8_isSafe_22 rfl (by decide) ?_
      refine wq_ic_ge 26 30 dX8_isSafe_23 rfl (by decide) (fun c23 => ?_) (fun c23 => absurd (nI_le (a := 4) (by omega) (by omega)) c23)
      refine wq_iload_n 31 1 dX8_isSafe_30 rfl rfl rfl ?_
      refine wq_istore 33 [_, _, _, _, _, _, _] dX8_isSafe_31 rfl rfl (Nat.le_of_ble_eq_true rfl) rfl ?_
      refine wq_iconst 34 0 dX8_isSafe_33 rfl (by decide) ?_
      refine wq_istore 36 [_, _, _, _, _, _, _] dX8_isSafe_34 rfl rfl (Nat.le_of_ble_eq_true rfl) rfl ?_
      exact lp_X8_safeR hD (by omega) h hg hy hx hyl hxl ⟨by rw [A2 e2], rfl, rfl, rfl⟩ 64 0 _ (by omega) (fun j hj => by omega)
    · skip
      refine wq_iload_n 1 1 dX8_isSafe_0 rfl rfl rfl ?_
      refine wq_iconst 2 4 dX8_isSafe_1 rfl (by decide) ?_
      refine wq_ic_lt 5 10 dX8_isSafe_2 rfl (by decide) (fun c2 => absurd c2 (fun z => e ((nI_ltI (b := 4) (by omega) (by decide)).mp z))) (fun c2 => ?_)
      refine wq_iload_n 6 2 dX8_isSafe_5 rfl rfl rfl ?_
      refine wq_iconst 7 4 dX8_isSafe_6 rfl (by decide) ?_
      refine wq_ic_ge 10 95 dX8_isSafe_7 rfl (by decide) (fun c7 => ?_) (fun c7 => absurd (nI_le (a := 4) (by omega) (by omega)) c7)
      refine wq_iconst 96 0 dX8_isSafe_95 rfl (by decide) ?_
      refine wq_istore_n 97 3 [_, _, _, _, _, _, _] dX8_isSafe_96 rfl rfl rfl (Nat.le_of_ble_eq_true rfl) rfl ?_
      refine wq_iconst 98 0 dX8_isSafe_97 rfl (by decide) ?_
      refine wq_istore 100 [_, _, _, _, _, _, _] dX8_isSafe_98 rfl rfl (Nat.le_of_ble_eq_true rfl) rfl ?_
      exact lp_X8_crowd hD hk h hg hx hy hxl hyl ⟨by rw [A3 e e2], rfl, rfl, rfl⟩ 64 0 _ _ (by omega)
