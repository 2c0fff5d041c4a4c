/-! the reference's round: all come back -/
theorem or_one {s : Int64} {x : Nat} (hx : x < 64) : ¬ (s ||| one (nI x) = 0) := by
  intro e
  have := congrArg (fun v => tb v x) e
  simp only [tb_or, tb_one hx, tb_0] at this
  simp at this
set_option maxRecDepth 20000 in
set_option maxHeartbeats 2000000 in
theorem lp_X8_back {g : Gl} {D : Nat} {b : Bool} {I : IM} {L : LM} {k w mv t : Nat} {f1 f2 : Nat → Nat} {tl : Bool} {A : RA} (hD : 2 ≤ D) (hk : k ≤ 4) (h : RMx I L k w mv f1 f2 tl A) (hg : GA mv t f1 f2 A) (hK : aK A ≤ 64) (hd : ∀ i, i < aK A → ∀ j, j < aK A → i ≠ j → aT A i ≠ aT A j) {post : Option Value → Bool → IM → LM → Prop} {F : (Nat → Int32) × Int64} (hp : ∀ sp : Nat, sp ≤ 64 → (sp = 0 ↔ F.2 = 0) → post (some (.int (nI sp))) b (va_up I 94 F.1) L) : ∀ q s sp l3 l4 l5, q ≤ aK A → sp + q ≤ 64 → RgB s.1 → (∀ i, i < q → s.1 (aT A i) = -6) → (sp = 0 ↔ s.2 = 0) → bkA k A q s = F → Wp (Kn g D MX8_goRound post) (Tb b) 190 [some (rf g 71), some (.int (nI sp)), some (.int (nI q - 1)), l3, l4, l5] [] (va_up I 94 s.1) L := by
  have ga := hg.1
  have hk0 : ∀ G : Nat → Int32, va_up I 94 G 71 0 = nI k := fun G => by rw [va_up_ne _ _ (by decide)]; exact h.2.2.2.2.2.2.2.2.2.1
  intro q
  induction q with
  | zero =>
    intro s sp l3 l4 l5 hq hsq hs h6 hsp hF
    rw [bkA] at hF
    rw [← hF] at hp
    refine wq_iload_n 191 2 dX8_goRound_190 rfl rfl rfl ?_
    refine wq_if_lt 194 338 dX8_goRound_191 rfl (by decide) (fun c191 => ?_) (fun c191 => absurd (by decide) c191)
    refine wq_iload_n 339 1 dX8_goRound_338 rfl rfl rfl ?_
    refine ri .int dX8_goRound_339 rfl rfl ?_
    exact hp sp (by omega) hsp
  | succ q ih =>
    intro s sp l3 l4 l5 hq hsq hs h6 hsp hF
    rw [nI_pred]
    rw [bkA] at hF
    obtain ⟨hT, hrow⟩ := h.2.2.2.2.2.1 q (by omega)
    obtain ⟨hT4, hT2, -⟩ := hg.2.2.2.2.2.2.2.2.2.2 q (by omega)
    have hsx := h6 q (by omega)
    have hdq : ∀ i, i < q → aT A i ≠ aT A q := fun i hi => hd i (by omega) q (by omega) (by omega)
    generalize aT A q = x at *
    have e0 : va_up s.1 x (-6) = s.1 := by rw [← hsx]; exact va_up_id s.1 x
    have J314a : ∀ (v : Nat) u l5, v = frA k s.1 A x → v < k → Wp (Kn g D MX8_goRound post) (Tb b) 314 [some (rf g 71), some (.int (nI sp)), some (.int (nI q)), some (.int u), some (.int (nI x)), l5] [] (va_up I 94 (va_up s.1 x (nI v))) L := by
      intro v u l5 hv c
      have e : bkS k A s x = (va_up s.1 x (nI v), s.2) := by rw [bkS, ← hv, if_pos c]
      rw [e] at hF
      refine wq_iload_n 315 1 dX8_goRound_314 rfl rfl rfl ?_
      refine wq_bload_n 316 0 dX8_goRound_315 rfl rfl rfl ?_
      refine wq_getR 319 fl_X8_82 dX8_goRound_316 rfl rfl o_71 (rfl : (Tb _).2.2.2 71 31 = some 94) ?_
      refine wq_iload 321 dX8_goRound_319 rfl rfl ?_
      refine wq_iald 322 dX8_goRound_321 rfl a_94 (Ix.nI (by omega) (by decide)) ?_
      refine wq_if_ge 325 329 dX8_goRound_322 rfl (by decide) (fun c322 => ?_) (fun c322 => absurd (by rw [va_up_self, va_up_self]; exact nI_pos' (by omega)) c322)
      refine wq_iconst 330 0 dX8_goRound_329 rfl (by decide) ?_
      refine wq_iadd 331 dX8_goRound_330 rfl ?_
      refine wq_istore_n 332 1 [_, _, _, _, _, _] dX8_goRound_331 rfl rfl rfl (Nat.le_of_ble_eq_true rfl) rfl ?_
      refine wq_iinc 335 (nI q - 1) [_, _, _, _, _, _] dX8_goRound_332 rfl rfl (pred1 _) rfl (Nat.le_of_ble_eq_true rfl) rfl ?_
      refine wq_goto 190 dX8_goRound_335 (by decide) ?_
      rw [show nI sp + (0 : Int32) = nI sp from nI_add sp 0]
      exact ih (va_up s.1 x (nI v), s.2) sp _ _ _ (by omega) (by omega) (RgB_up hs (by omega)) (fun i hi => by show va_up s.1 x (nI v) (aT A i) = -6; rw [va_up_ne _ _ (hdq i hi)]; exact h6 i (by omega)) hsp hF
    have J314b : ∀ u l5, ¬ frA k s.1 A x < k → Wp (Kn g D MX8_goRound post) (Tb b) 314 [some (rf g 71), some (.int (nI sp)), some (.int (nI q)), some (.int u), some (.int (nI x)), l5] [] (va_up I 94 (va_up s.1 x (-6))) L := by
      intro u l5 c
      have e : bkS k A s x = (s.1, s.2 ||| one (nI x)) := by rw [bkS, if_neg c]
      rw [e] at hF
      refine wq_iload_n 315 1 dX8_goRound_314 rfl rfl rfl ?_
      refine wq_bload_n 316 0 dX8_goRound_315 rfl rfl rfl ?_
      refine wq_getR 319 fl_X8_82 dX8_goRound_316 rfl rfl o_71 (rfl : (Tb _).2.2.2 71 31 = some 94) ?_
      refine wq_iload 321 dX8_goRound_319 rfl rfl ?_
      refine wq_iald 322 dX8_goRound_321 rfl a_94 (Ix.nI (by omega) (by decide)) ?_
      refine wq_if_ge 325 329 dX8_goRound_322 rfl (by decide) (fun c322 => absurd c322 (by rw [va_up_self, va_up_self]; decide)) (fun c322 => ?_)
      refine wq_iconst 326 1 dX8_goRound_325 rfl (by decide) ?_
      refine wq_goto 330 dX8_goRound_326 (by decide) ?_
      refine wq_iadd 331 dX8_goRound_330 rfl ?_
      refine wq_istore_n 332 1 [_, _, _, _, _, _] dX8_goRound_331 rfl rfl rfl (Nat.le_of_ble_eq_true rfl) rfl ?_
      refine wq_iinc 335 (nI q - 1) [_, _, _, _, _, _] dX8_goRound_332 rfl rfl (pred1 _) rfl (Nat.le_of_ble_eq_true rfl) rfl ?_
      refine wq_goto 190 dX8_goRound_335 (by decide) ?_
      rw [← nI_succ, e0]
      exact ih (s.1, s.2 ||| one (nI x)) (sp + 1) _ _ _ (by omega) (by omega) hs (fun i hi => h6 i (by omega)) ⟨fun z => by omega, fun z => absurd z (or_one hT2)⟩ hF
    have J266b : ∀ (v : Nat) u, v = frA k s.1 A x → v < k → Wp (Kn g D MX8_goRound post) (Tb b) 266 [some (rf g 71), some (.int (nI sp)), some (.int (nI q)), some (.int u), some (.int (nI x)), some (.int (nI (v + 1)))] [] (va_up I 94 (va_up s.1 x (nI v))) L := by
      intro v u hv c
      refine wq_iload 268 dX8_goRound_266 rfl rfl ?_
      refine wq_bload_n 269 0 dX8_goRound_268 rfl rfl rfl ?_
      refine wq_getI 272 fl_X8_7 dX8_goRound_269 rfl rfl o_71 ?_
      refine wq_ic_ge 275 314 dX8_goRound_272 rfl (by decide) (fun c272 => ?_) (fun c272 => ?_)
      · skip
        exact J314a v u _ hv c
      · skip
        refine wq_bload_n 276 0 dX8_goRound_275 rfl rfl rfl ?_
        refine wq_getR 279 fl_X8_82 dX8_goRound_276 rfl rfl o_71 (rfl : (Tb _).2.2.2 71 31 = some 94) ?_
        refine wq_iload 281 dX8_goRound_279 rfl rfl ?_
        refine wq_iald 282 dX8_goRound_281 rfl a_94 (Ix.nI (by omega) (by decide)) ?_
        refine wq_if_ge 285 314 dX8_goRound_282 rfl (by decide) (fun c282 => ?_) (fun c282 => absurd (by rw [va_up_self, va_up_self]; exact nI_pos' (by omega)) c282)
        exact J314a v u _ hv c
    have J266 : ∀ u, (∀ r, r < 4 → bt u r = usB s.1 A x r) → ∀ r v, v + r = k → (∀ j, j < v → usB s.1 A x j = true) → Wp (Kn g D MX8_goRound post) (Tb b) 266 [some (rf g 71), some (.int (nI sp)), some (.int (nI q)), some (.int u), some (.int (nI x)), some (.int (nI v))] [] (va_up I 94 (va_up s.1 x (-6))) L := by
      intro u hu r
      induction r with
      | zero =>
        intro v hv hj
        have ev : v = k := by omega
        refine wq_iload 268 dX8_goRound_266 rfl rfl ?_
        refine wq_bload_n 269 0 dX8_goRound_268 rfl rfl rfl ?_
        refine wq_getI 272 fl_X8_7 dX8_goRound_269 rfl rfl o_71 ?_
        refine wq_ic_ge 275 314 dX8_goRound_272 rfl (by decide) (fun c272 => ?_) (fun c272 => absurd (by rw [hk0, ev]; exact nI_le (Nat.le_refl _) (by omega)) c272)
        refine J314b u _ ?_
        rw [frA, lf_none (fun j hj' => by rw [hj j (by omega)]; rfl)]
        omega
      | succ r ih2 =>
        intro v hv hj
        have bq : bt (u >>> (nI v &&& 31)) 0 = usB s.1 A x v := by rw [b_sshr v (by omega) u (by omega), if_pos (by omega), Nat.add_zero, hu v (by omega)]
        refine wq_iload 268 dX8_goRound_266 rfl rfl ?_
        refine wq_bload_n 269 0 dX8_goRound_268 rfl rfl rfl ?_
        refine wq_getI 272 fl_X8_7 dX8_goRound_269 rfl rfl o_71 ?_
        refine wq_ic_ge 275 314 dX8_goRound_272 rfl (by decide) (fun c272 => absurd c272 (by rw [hk0]; exact nI_ge (by omega) (by omega))) (fun c272 => ?_)
        refine wq_bload_n 276 0 dX8_goRound_275 rfl rfl rfl ?_
        refine wq_getR 279 fl_X8_82 dX8_goRound_276 rfl rfl o_71 (rfl : (Tb _).2.2.2 71 31 = some 94) ?_
        refine wq_iload 281 dX8_goRound_279 rfl rfl ?_
        refine wq_iald 282 dX8_goRound_281 rfl a_94 (Ix.nI (by omega) (by decide)) ?_
        refine wq_if_ge 285 314 dX8_goRound_282 rfl (by decide) (fun c282 => absurd c282 (by rw [va_up_self, va_up_self]; decide)) (fun c282 => ?_)
        refine wq_bload_n 286 0 dX8_goRound_285 rfl rfl rfl ?_
        refine wq_getR 289 fl_X8_82 dX8_goRound_286 rfl rfl o_71 (rfl : (Tb _).2.2.2 71 31 = some 94) ?_
        refine wq_iload 291 dX8_goRound_289 rfl rfl ?_
        refine wq_iload_n 292 3 dX8_goRound_291 rfl rfl rfl ?_
        refine wq_iload 294 dX8_goRound_292 rfl rfl ?_
        refine wq_ishr 295 dX8_goRound_294 rfl ?_
        refine wq_iconst 296 1 dX8_goRound_295 rfl (by decide) ?_
        refine wq_iand 297 dX8_goRound_296 rfl ?_
        refine wq_if_ne 300 305 dX8_goRound_297 rfl (by decide) (fun c297 => ?_) (fun c297 => ?_)
        · skip
          refine wq_bipush 307 (-6) dX8_goRound_305 rfl (by decide) ?_
          refine wq_iast 308 dX8_goRound_307 rfl a_94 (Ix.nI (by omega) (by decide)) ?_
          refine wq_iinc 311 (_ + 1) [_, _, _, _, _, _] dX8_goRound_308 rfl rfl (inc1 _) rfl (Nat.le_of_ble_eq_true rfl) rfl ?_
          refine wq_goto 266 dX8_goRound_311 (by decide) ?_
          have e : usB s.1 A x v = true := Decidable.byContradiction (fun z => c297 ((low_bit _).mpr (by rw [bq]; exact Bool.eq_false_iff.mpr z)))
          simp only [va_up_self, va_up_up]
          rw [← nI_succ]
          refine ih2 (v + 1) (by omega) (fun j hj' => ?_)
          by_cases ej : j = v
          · rw [ej]; exact e
          · exact hj j (by omega)
        · skip
          refine wq_iload 302 dX8_goRound_300 rfl rfl ?_
          refine wq_goto 307 dX8_goRound_302 (by decide) ?_
          refine wq_iast 308 dX8_goRound_307 rfl a_94 (Ix.nI (by omega) (by decide)) ?_
          refine wq_iinc 311 (_ + 1) [_, _, _, _, _, _] dX8_goRound_308 rfl rfl (inc1 _) rfl (Nat.le_of_ble_eq_true rfl) rfl ?_
          refine wq_goto 266 dX8_goRound_311 (by decide) ?_
          have e := (low_bit _).mp c297
          rw [bq] at e
          simp only [va_up_self, va_up_up]
          rw [← nI_succ]
          exact J266b v u (by rw [frA]; exact (lf_found (fun j hj' => by rw [hj j hj']; rfl) (by rw [e]; rfl) (by omega)).symm) (by omega)
    refine wq_iload_n 191 2 dX8_goRound_190 rfl rfl rfl ?_
    refine wq_if_lt 194 338 dX8_goRound_191 rfl (by decide) (fun c191 => absurd c191 (nI_pos (by omega))) (fun c191 => ?_)
    refine wq_iconst 195 0 dX8_goRound_194 rfl (by decide) ?_
    refine wq_istore_n 196 3 [_, _, _, _, _, _] dX8_goRound_195 rfl rfl rfl (Nat.le_of_ble_eq_true rfl) rfl ?_
    refine wq_iconst 197 0 dX8_goRound_196 rfl (by decide) ?_
    refine wq_istore 199 [_, _, _, _, _, _] dX8_goRound_197 rfl rfl (Nat.le_of_ble_eq_true rfl) rfl ?_
    refine lp_X8_used (t := 0) (k2 := 0) (by omega) h ga hT2 (show q < 64 by omega) hrow hs (fun u l4 l5 hu => ?_) 64 0 0 _ (by omega) (fun r hr' => by rw [b_0]; rfl)
    refine wq_bload_n 256 0 dX8_goRound_255 rfl rfl rfl ?_
    refine wq_getR 259 fl_X8_76 dX8_goRound_256 rfl rfl o_71 (rfl : (Tb _).2.2.2 71 28 = some 92) ?_
    refine wq_iload_n 260 2 dX8_goRound_259 rfl rfl rfl ?_
    refine wq_iald 261 dX8_goRound_260 rfl a_92 (Ix.nI (by omega) (by decide)) ?_
    rw [va_up_ne _ _ (by decide), hT]
    refine wq_istore 263 [_, _, _, _, _, _] dX8_goRound_261 rfl rfl (Nat.le_of_ble_eq_true rfl) rfl ?_
    refine wq_iconst 264 0 dX8_goRound_263 rfl (by decide) ?_
    refine wq_istore 266 [_, _, _, _, _, _] dX8_goRound_264 rfl rfl (Nat.le_of_ble_eq_true rfl) rfl ?_
    have := J266 u hu k 0 (by omega) (fun j hj => by omega)
    rw [e0] at this
    exact this
/-- who is taken is taken once -/
def TkD (A : RA) : Prop := ∀ i, i < aK A → ∀ j, j < aK A → i ≠ j → aT A i ≠ aT A j
theorem step_K (k w mv : Nat) (f1 f2 : Nat → Nat) (A : RA) : aK (stepA k w mv f1 f2 A) ≤ aK A + 1 := by
  unfold stepA
  split
  · exact Nat.le_refl _
  · split
    · split
      · exact Nat.le_succ _
      · exact Nat.le_succ _
    · split
      · exact Nat.le_succ _
      · exact Nat.le_refl _
theorem TkD_step {k w mv t : Nat} {f1 f2 : Nat → Nat} {A : RA} (hg : GA mv t f1 f2 A) (hl : leftV A = true) (h : TkD A) : TkD (stepA k w mv f1 f2 A) := by
  have hs := step_taken (k := k) (w := w) hg hl
  have hK := step_K k w mv f1 f2 A
  have gl := hg.2.2.2.2.2.2.2.2.2.2
  obtain ⟨s1, s2, s3⟩ := hs
  have old_new : ∀ i, i < aK A → ∀ j, aK A ≤ j → j < aK (stepA k w mv f1 f2 A) → aT (stepA k w mv f1 f2 A) i ≠ aT (stepA k w mv f1 f2 A) j := by
    intro i hi j h1 h2 e
    rw [(s2 i hi).1] at e
    have a := (gl i hi).2.2
    have b := (s3 j h1 h2).2.1
    rw [← e, a] at b
    cases b
  intro i hi j hj hij
  by_cases ci : i < aK A
  · by_cases cj : j < aK A
    · rw [(s2 i ci).1, (s2 j cj).1]; exact h i ci j cj hij
    · exact old_new i ci j (by omega) hj
  · by_cases cj : j < aK A
    · exact (old_new j cj i (by omega) hi).symm
    · omega
theorem run_D {k w mv t : Nat} {f1 f2 : Nat → Nat} : ∀ f A, GS mv t f1 f2 A → TkD A → TkD (runA k w mv f1 f2 f A)
  | 0, A, _, h => h
  | f + 1, A, hs, h => by
    rw [runA]
    by_cases c : leftV A = true
    · rw [if_pos c]
      exact run_D f _ (step_less hs c).1 (TkD_step hs.1 c h)
    · rw [if_neg c]; exact h
