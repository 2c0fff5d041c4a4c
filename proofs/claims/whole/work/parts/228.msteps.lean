/-! the reference's round: the steps; all come back -/
set_option maxRecDepth 20000 in
set_option maxHeartbeats 2000000 in
theorem lp_X8_steps {g : Gl} {D : Nat} {b : Bool} {k w mv t : Nat} {f1 f2 : Nat → Nat} {tl : Bool} {l1 l2 l3 l4 l5 : Option Value} (hD : 6 ≤ D) (hk : k < 2 ^ 30) (hw : w < 3) {post : Option Value → Bool → IM → LM → Prop} : ∀ f A I L, RMx I L k w mv f1 f2 tl A → GS mv t f1 f2 A → lvA A + omA mv A ≤ f → (∀ I' L', RMx I' L' k w mv f1 f2 tl (runA k w mv f1 f2 f A) → FM I L I' L' → Wp (Kn g D MX8_goRound post) (Tb b) 181 [some (rf g 71), l1, l2, l3, l4, l5] [] I' L') → Wp (Kn g D MX8_goRound post) (Tb b) 140 [some (rf g 71), l1, l2, l3, l4, l5] [] I L := by
  intro f
  induction f with
  | zero =>
    intro A I L h hs hf kk
    have hl : leftV A = false := Bool.eq_false_iff.mpr (fun z => by have := left_pos (mv := mv) z; omega)
    have zz : L 71 24 &&& -16 = 0 ↔ leftV A = false := by
      rw [h.2.1]
      exact zero_any (fun j hj => by rw [tb_and, m16 j hj, Bool.and_comm])
    refine wq_bload_n 141 0 dX8_goRound_140 rfl rfl rfl ?_
    refine wq_getL 144 fl_X8_211 dX8_goRound_141 rfl rfl o_71 ?_
    refine wq_ldc2 147 (-16) dX8_goRound_144 rfl kc_X8_261 ?_
    refine wq_land 148 dX8_goRound_147 rfl ?_
    refine wq_lconst 149 0 dX8_goRound_148 rfl (by decide) ?_
    refine wq_lcmp 150 dX8_goRound_149 rfl ?_
    refine wq_if_eq 153 181 dX8_goRound_150 rfl (by decide) (fun c150 => ?_) (fun c150 => absurd (lcmp0.mpr (zz.mpr hl)) c150)
    exact kk I L h (FM.refl I L)
  | succ f ih =>
    intro A I L h hs hf kk
    have zz : L 71 24 &&& -16 = 0 ↔ leftV A = false := by
      rw [h.2.1]
      exact zero_any (fun j hj => by rw [tb_and, m16 j hj, Bool.and_comm])
    by_cases hl : leftV A = true
    · have hst := step_less (k := k) (w := w) hs hl
      have hp := left_pos (mv := mv) hl
      have hQ : aQ A < 200 := by have := hs.2.1; omega
      have hK : aK A < 64 := by have := hs.2.2.1; omega
      have hc := GS_cost hs
      have J140 : ∀ I1 L1, RMx I1 L1 k w mv f1 f2 tl (stepA k w mv f1 f2 A) → FM I L I1 L1 → Wp (Kn g D MX8_goRound post) (Tb b) 140 [some (rf g 71), l1, l2, l3, l4, l5] [] I1 L1 := by
        intro I1 L1 h1 fx
        refine ih _ I1 L1 h1 hst.1 (by omega) (fun I2 L2 h2 fx2 => kk I2 L2 ?_ (fx.trans fx2))
        rw [runA, if_pos hl]
        exact h2
      refine wq_bload_n 141 0 dX8_goRound_140 rfl rfl rfl ?_
      refine wq_getL 144 fl_X8_211 dX8_goRound_141 rfl rfl o_71 ?_
      refine wq_ldc2 147 (-16) dX8_goRound_144 rfl kc_X8_261 ?_
      refine wq_land 148 dX8_goRound_147 rfl ?_
      refine wq_lconst 149 0 dX8_goRound_148 rfl (by decide) ?_
      refine wq_lcmp 150 dX8_goRound_149 rfl ?_
      refine wq_if_eq 153 181 dX8_goRound_150 rfl (by decide) (fun c150 => absurd c150 (fun z => by rw [zz.mp (lcmp0.mp z)] at hl; cases hl)) (fun c150 => ?_)
      refine wq_bload_n 154 0 dX8_goRound_153 rfl rfl rfl ?_
      refine cVp0 157 (sp_X8_takeLow (by omega) (by omega) h hs.1 hK hQ rfl) ml_X8_263 mf_X8_takeLow dX8_goRound_154 rfl o_71 (by decide) rfl (Nat.le_of_ble_eq_true rfl) (by omega) ?_
      rintro _ _ I2 L2 ⟨rfl, ⟨n1, rfl, h2, fx2⟩ | ⟨n1, rfl, rfl, rfl⟩⟩
      · refine wq_if_ne 160 140 dX8_goRound_157 rfl (by decide) (fun c => ?_) (fun c => absurd c (by decide))
        refine J140 I2 L2 ?_ fx2
        rw [stepA, if_pos n1]
        exact h2
      refine wq_if_ne 160 140 dX8_goRound_157 rfl (by decide) (fun c157 => absurd c157 (fun z => z rfl)) (fun c157 => ?_)
      refine wq_bload_n 161 0 dX8_goRound_160 rfl rfl rfl ?_
      refine cVp0 164 (sp_X8_turn (by omega) hk h hs.1 hQ rfl) ml_X8_267 mf_X8_turnMove dX8_goRound_161 rfl o_71 (by decide) rfl (Nat.le_of_ble_eq_true rfl) (by omega) ?_
      rintro _ _ I2 L2 ⟨rfl, ⟨n2, rfl, h2, fx2⟩ | ⟨n2, rfl, rfl, rfl⟩⟩
      · refine wq_if_ne 167 140 dX8_goRound_164 rfl (by decide) (fun c => ?_) (fun c => absurd c (by decide))
        refine J140 I2 L2 ?_ fx2
        rw [stepA, if_neg n1, if_pos n2]
        exact h2
      refine wq_if_ne 167 140 dX8_goRound_164 rfl (by decide) (fun c164 => absurd c164 (fun z => z rfl)) (fun c164 => ?_)
      refine wq_bload_n 168 0 dX8_goRound_167 rfl rfl rfl ?_
      refine cVp0 171 (sp_X8_giveUp (by omega) (by omega) h hs.1 hQ rfl) ml_X8_270 mf_X8_giveUp dX8_goRound_168 rfl o_71 (by decide) rfl (Nat.le_of_ble_eq_true rfl) (by omega) ?_
      rintro _ _ I2 L2 ⟨rfl, ⟨n3, rfl, h2, fx2⟩ | ⟨n3, rfl, rfl, rfl⟩⟩
      · refine wq_if_ne 174 140 dX8_goRound_171 rfl (by decide) (fun c => ?_) (fun c => absurd c (by decide))
        refine J140 I2 L2 ?_ fx2
        rw [stepA, if_neg n1, if_neg n2, if_pos n3]
        exact h2
      refine wq_if_ne 174 140 dX8_goRound_171 rfl (by decide) (fun c171 => absurd c171 (fun z => z rfl)) (fun c171 => ?_)
      refine wq_bload_n 175 0 dX8_goRound_174 rfl rfl rfl ?_
      refine cVp0 178 (sp_X8_hope (by omega) hw h hs.1 hc hK hQ hl) ml_X8_273 mf_X8_hope dX8_goRound_175 rfl o_71 (by decide) rfl (Nat.le_of_ble_eq_true rfl) (by omega) ?_
      rintro _ _ I2 L2 ⟨rfl, rfl, h2, fx2⟩
      refine wq_goto 140 dX8_goRound_178 (by decide) ?_
      refine J140 I2 L2 ?_ fx2
      rw [stepA, if_neg n1, if_neg n2, if_neg n3]
      exact h2
    · have hl' : leftV A = false := Bool.eq_false_iff.mpr hl
      refine wq_bload_n 141 0 dX8_goRound_140 rfl rfl rfl ?_
      refine wq_getL 144 fl_X8_211 dX8_goRound_141 rfl rfl o_71 ?_
      refine wq_ldc2 147 (-16) dX8_goRound_144 rfl kc_X8_261 ?_
      refine wq_land 148 dX8_goRound_147 rfl ?_
      refine wq_lconst 149 0 dX8_goRound_148 rfl (by decide) ?_
      refine wq_lcmp 150 dX8_goRound_149 rfl ?_
      refine wq_if_eq 153 181 dX8_goRound_150 rfl (by decide) (fun c150 => ?_) (fun c150 => absurd (lcmp0.mpr (zz.mpr hl')) c150)
      exact kk I L (by rw [runA_stop hl']; exact h) (FM.refl I L)
set_option maxRecDepth 20000 in
set_option maxHeartbeats 2000000 in
theorem lp_X8_used {g : Gl} {D : Nat} {b : Bool} {I : IM} {L : LM} {k w mv t : Nat} {f1 f2 : Nat → Nat} {tl : Bool} {A : RA} {x z : Nat} {G : Nat → Int32} {k1 k2 : Int32} (hD : 1 ≤ D) (h : RMx I L k w mv f1 f2 tl A) (ga : ∀ n, n < 64 → aA A n ≤ n) (hx : x < 64) (hz : z < 64) (hrow : L 93 z = aN A x) (hr : RgB G) {post : Option Value → Bool → IM → LM → Prop} (kk : ∀ u l4 l5, (∀ r, r < 4 → bt u r = usB G A x r) → Wp (Kn g D MX8_goRound post) (Tb b) 255 [some (rf g 71), some (.int k1), some (.int (nI z)), some (.int u), some (.int l4), l5] [] (va_up I 94 G) L) : ∀ r q u l5, q + r = 64 → (∀ r, r < 4 → bt u r = anyB (fun n => tb (aN A x) n && decide (G (rt (aA A) n) = nI r)) q) → Wp (Kn g D MX8_goRound post) (Tb b) 199 [some (rf g 71), some (.int k1), some (.int (nI z)), some (.int u), some (.int (nI q)), l5] [] (va_up I 94 G) L := by
  have hA : ∀ n, n < 64 → va_up I 94 G 88 n = nI (aA A n) := fun n hn => by rw [va_up_ne _ _ (by decide)]; exact h.2.2.1 n hn
  intro r
  induction r with
  | zero =>
    intro q u l5 hq hu
    have eq : q = 64 := by omega
    subst eq
    refine wq_iload 201 dX8_goRound_199 rfl rfl ?_
    refine wq_bipush 203 64 dX8_goRound_201 rfl (by decide) ?_
    refine wq_ic_ge 206 255 dX8_goRound_203 rfl (by decide) (fun c203 => ?_) (fun c203 => absurd (by decide) c203)
    exact kk u _ _ hu
  | succ r ih =>
    intro q u l5 hq hu
    have lq := rt_lt ga (show q < 64 by omega)
    refine wq_iload 201 dX8_goRound_199 rfl rfl ?_
    refine wq_bipush 203 64 dX8_goRound_201 rfl (by decide) ?_
    refine wq_ic_ge 206 255 dX8_goRound_203 rfl (by decide) (fun c203 => absurd c203 (nI_ge (b := 64) (by omega) (by decide))) (fun c203 => ?_)
    refine wq_bload_n 207 0 dX8_goRound_206 rfl rfl rfl ?_
    refine wq_getR 210 fl_X8_79 dX8_goRound_207 rfl rfl o_71 (rfl : (Tb _).2.2.2 71 29 = some 93) ?_
    refine wq_iload_n 211 2 dX8_goRound_210 rfl rfl rfl ?_
    refine wq_lald 212 dX8_goRound_211 rfl a_93 (Ix.nI (by omega) (by decide)) ?_
    refine wq_iload 214 dX8_goRound_212 rfl rfl ?_
    refine cSi2 217 (sp_X8_has _ _) ml_X8_109 mf_X8_has dX8_goRound_214 rfl (Nat.le_of_ble_eq_true rfl) (by omega) ?_
    refine wq_if_eq 220 249 dX8_goRound_217 rfl (by decide) (fun c217 => ?_) (fun c217 => ?_)
    · skip
      refine wq_iinc 252 (_ + 1) [_, _, _, _, _, _] dX8_goRound_249 rfl rfl (inc1 _) rfl (Nat.le_of_ble_eq_true rfl) rfl ?_
      refine wq_goto 199 dX8_goRound_252 (by decide) ?_
      have e : tb (aN A x) q = false := (hasM_eq0 _ (k := q) (by omega)).mp (by rw [← hrow]; exact c217)
      rw [← nI_succ]
      exact ih (q + 1) u _ (by omega) (fun r hr' => by rw [anyB, ← hu r hr', e, Bool.false_and, Bool.or_false])
    · skip
      refine wq_bload_n 221 0 dX8_goRound_220 rfl rfl rfl ?_
      refine wq_getR 224 fl_X8_82 dX8_goRound_221 rfl rfl o_71 (rfl : (Tb _).2.2.2 71 31 = some 94) ?_
      refine wq_bload_n 225 0 dX8_goRound_224 rfl rfl rfl ?_
      refine wq_iload 227 dX8_goRound_225 rfl rfl ?_
      refine cVi1 230 (sp_X8_stands hA ga q rfl (by omega)) ml_X8_221 mf_X8_standsFor dX8_goRound_227 rfl o_71 (by decide) rfl (Nat.le_of_ble_eq_true rfl) (by omega) ?_
      refine wq_iald 231 dX8_goRound_230 rfl a_94 (Ix.nI (by omega) (by decide)) ?_
      refine wq_istore 233 [_, _, _, _, _, _] dX8_goRound_231 rfl rfl (Nat.le_of_ble_eq_true rfl) rfl ?_
      refine wq_iload_n 234 3 dX8_goRound_233 rfl rfl rfl ?_
      refine wq_iload 236 dX8_goRound_234 rfl rfl ?_
      refine wq_if_ge 239 243 dX8_goRound_236 rfl (by decide) (fun c236 => ?_) (fun c236 => ?_)
      · skip
        refine wq_iconst 244 1 dX8_goRound_243 rfl (by decide) ?_
        refine wq_iload 246 dX8_goRound_244 rfl rfl ?_
        refine wq_ishl 247 dX8_goRound_246 rfl ?_
        refine wq_ior 248 dX8_goRound_247 rfl ?_
        refine wq_istore_n 249 3 [_, _, _, _, _, _] dX8_goRound_248 rfl rfl rfl (Nat.le_of_ble_eq_true rfl) rfl ?_
        refine wq_iinc 252 (_ + 1) [_, _, _, _, _, _] dX8_goRound_249 rfl rfl (inc1 _) rfl (Nat.le_of_ble_eq_true rfl) rfl ?_
        refine wq_goto 199 dX8_goRound_252 (by decide) ?_
        rw [va_up_self] at c236
        have e : tb (aN A x) q = true := (hasM_ne0 _ (k := q) (by omega)).mp (by rw [← hrow]; exact c217)
        rcases hr _ lq with z | ⟨s, s1, s2⟩
        · exact absurd c236 (by rw [z]; decide)
        · rw [← nI_succ, va_up_self, s2]
          refine ih (q + 1) _ _ (by omega) (fun r hr' => ?_)
          rw [b_or, onI_b s s1 r (by omega), anyB, ← hu r hr', e, s2, Bool.true_and]
          rw [decide_eq_decide.mpr (show r = s ↔ nI s = nI r from ⟨fun z => by rw [z], fun z => ((nI_eq (by omega) (by omega)).mp z).symm⟩)]
      · skip
        refine wq_iconst 240 0 dX8_goRound_239 rfl (by decide) ?_
        refine wq_goto 247 dX8_goRound_240 (by decide) ?_
        refine wq_ior 248 dX8_goRound_247 rfl ?_
        refine wq_istore_n 249 3 [_, _, _, _, _, _] dX8_goRound_248 rfl rfl rfl (Nat.le_of_ble_eq_true rfl) rfl ?_
        refine wq_iinc 252 (_ + 1) [_, _, _, _, _, _] dX8_goRound_249 rfl rfl (inc1 _) rfl (Nat.le_of_ble_eq_true rfl) rfl ?_
        refine wq_goto 199 dX8_goRound_252 (by decide) ?_
        rw [va_up_self] at c236
        rw [← nI_succ, show u ||| (0 : Int32) = u from by apply b_ext; intro j _; rw [b_or, b_0, Bool.or_false]]
        refine ih (q + 1) u _ (by omega) (fun r hr' => ?_)
        rw [anyB, ← hu r hr', decide_eq_false (fun z => by rw [z] at c236; exact c236 (nI_pos' (n := r) (by omega))), Bool.and_false, Bool.or_false]
