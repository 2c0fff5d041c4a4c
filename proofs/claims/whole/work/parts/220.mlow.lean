/-! the reference's round: takeLow, giveUp -/
theorem FM_note {I : IM} {L : LM} {I' : IM} (h1 : ∀ z, z ≠ 71 → z ≠ 95 → I' z = I z) (h2 : ∀ z, z ≠ 33 → I' 71 z = I 71 z) : FM I L I' L :=
  ⟨fun z hz => h1 z (fun e => hz (by rw [e]; decide)) (fun e => hz (by rw [e]; decide)), fun z hz => h2 z (fun e => hz (by rw [e]; decide)), fun _ _ => rfl, fun _ _ => rfl⟩
theorem FM_take {I : IM} {L : LM} {I' : IM} {L' : LM} (h1 : ∀ z, z ≠ 71 → z ≠ 92 → I' z = I z) (h2 : ∀ z, z ≠ 30 → I' 71 z = I 71 z) (h3 : ∀ z, z ≠ 71 → z ≠ 93 → L' z = L z) (h4 : ∀ z, z ≠ 24 → L' 71 z = L 71 z) : FM I L I' L' :=
  ⟨fun z hz => h1 z (fun e => hz (by rw [e]; decide)) (fun e => hz (by rw [e]; decide)), fun z hz => h2 z (fun e => hz (by rw [e]; decide)), fun z hz => h3 z (fun e => hz (by rw [e]; decide)) (fun e => hz (by rw [e]; decide)), h4⟩
theorem FM_shut {I : IM} {L : LM} {I' : IM} (h1 : ∀ z, z ≠ 91 → I' z = I z) : FM I L I' L :=
  ⟨fun z hz => h1 z (fun e => hz (by rw [e]; decide)), fun z hz => by rw [h1 71 (by decide)], fun _ _ => rfl, fun _ _ => rfl⟩
theorem low_4 {k : Nat} {A : RA} {j : Nat} (h : j < 4) : lowA k A j = false := by
  rw [lowA, decide_eq_false (by omega)]; rfl
set_option maxRecDepth 20000 in
set_option maxHeartbeats 2000000 in
theorem lp_X8_takeLow {g : Gl} {D : Nat} {b : Bool} {I : IM} {L : LM} {k w mv t : Nat} {f1 f2 : Nat → Nat} {tl : Bool} {A : RA} (hD : 4 ≤ D) (hk : k < 2 ^ 31) (h : RMx I L k w mv f1 f2 tl A) (hg : GA mv t f1 f2 A) (hK : aK A < 64) (hQ : aQ A < 200) {x : Nat} (hx : lf (fun n => lowA k A n && !movA mv f1 f2 A n) 64 = x) {post : Option Value → Bool → IM → LM → Prop} (hp : ∀ r I' L', ((x < 64 ∧ r = some (.int 1) ∧ RMx I' L' k w mv f1 f2 tl (noteA (takeA A x) (100 + x)) ∧ FM I L I' L') ∨ (¬ x < 64 ∧ r = some (.int 0) ∧ I' = I ∧ L' = L)) → post r b I' L') : ∀ r q, q + r = 64 → (∀ j, j < q → (fun n => lowA k A n && !movA mv f1 f2 A n) j = false) → Wp (Kn g D MX8_takeLow post) (Tb b) 2 [some (rf g 71), some (.int (nI q))] [] I L := by
  have h2 := h.2.1
  have hk0 := h.2.2.2.2.2.2.2.2.2.1
  intro r
  induction r with
  | zero =>
    intro q hq hn
    have eq : q = 64 := by omega
    subst eq
    have hx' := lf_none hn
    rw [hx] at hx'
    refine wq_iload_n 3 1 dX8_takeLow_2 rfl rfl rfl ?_
    refine wq_bipush 5 64 dX8_takeLow_3 rfl (by decide) ?_
    refine wq_ic_ge 8 56 dX8_takeLow_5 rfl (by decide) (fun c5 => ?_) (fun c5 => absurd (by decide) c5)
    refine wq_iconst 57 0 dX8_takeLow_56 rfl (by decide) ?_
    refine ri .boolean dX8_takeLow_57 rfl rfl ?_
    exact hp _ _ _ (Or.inr ⟨by omega, rfl, rfl, rfl⟩)
  | succ r ih =>
    intro q hq hn
    have hq64 : q < 64 := by omega
    have next : (lowA k A q && !movA mv f1 f2 A q) = false → ∀ j, j < q + 1 → (fun n => lowA k A n && !movA mv f1 f2 A n) j = false := by
      intro z j hj
      by_cases e : j = q
      · rw [e]; exact z
      · exact hn j (by omega)
    have found : (lowA k A q && !movA mv f1 f2 A q) = true → x = q := fun z => by rw [← hx]; exact lf_found hn z (by omega)
    refine wq_iload_n 3 1 dX8_takeLow_2 rfl rfl rfl ?_
    refine wq_bipush 5 64 dX8_takeLow_3 rfl (by decide) ?_
    refine wq_ic_ge 8 56 dX8_takeLow_5 rfl (by decide) (fun c5 => absurd c5 (nI_ge (b := 64) (by omega) (by decide))) (fun c5 => ?_)
    refine wq_bload_n 9 0 dX8_takeLow_8 rfl rfl rfl ?_
    refine wq_getL 12 fl_X8_211 dX8_takeLow_9 rfl rfl o_71 ?_
    refine wq_iload_n 13 1 dX8_takeLow_12 rfl rfl rfl ?_
    refine cSi2 16 (sp_X8_has _ _) ml_X8_109 mf_X8_has dX8_takeLow_13 rfl (Nat.le_of_ble_eq_true rfl) (by omega) ?_
    refine wq_if_eq 19 50 dX8_takeLow_16 rfl (by decide) (fun c16 => ?_) (fun c16 => ?_)
    · skip
      refine wq_iinc 53 (_ + 1) [_, _] dX8_takeLow_50 rfl rfl (inc1 _) rfl (Nat.le_of_ble_eq_true rfl) rfl ?_
      refine wq_goto 2 dX8_takeLow_53 (by decide) ?_
      have e1 : tb (aL A) q = false := (hasM_eq0 (aL A) (k := q) hq64).mp (by rw [← h2]; exact c16)
      rw [← nI_succ]
      exact ih (q + 1) (by omega) (next (by rw [lowA, e1]; simp))
    · skip
      refine wq_bload_n 20 0 dX8_takeLow_19 rfl rfl rfl ?_
      refine wq_iload_n 21 1 dX8_takeLow_20 rfl rfl rfl ?_
      refine cVi1 24 (sp_X8_isLow (by omega) hk0 hk q rfl hq64) ml_X8_233 mf_X8_isLow dX8_takeLow_21 rfl o_71 (by decide) rfl (Nat.le_of_ble_eq_true rfl) (by omega) ?_
      refine wq_if_eq 27 50 dX8_takeLow_24 rfl (by decide) (fun c24 => ?_) (fun c24 => ?_)
      · skip
        refine wq_iinc 53 (_ + 1) [_, _] dX8_takeLow_50 rfl rfl (inc1 _) rfl (Nat.le_of_ble_eq_true rfl) rfl ?_
        refine wq_goto 2 dX8_takeLow_53 (by decide) ?_
        have e1 : tb (aL A) q = true := (hasM_ne0 (aL A) (k := q) hq64).mp (by rw [← h2]; exact c16)
        have e2 : lowA k A q = false := by rw [← low_is h hq64 e1]; exact bI_eq.mp c24
        rw [← nI_succ]
        exact ih (q + 1) (by omega) (next (by rw [e2]; rfl))
      · skip
        refine wq_bload_n 28 0 dX8_takeLow_27 rfl rfl rfl ?_
        refine wq_iload_n 29 1 dX8_takeLow_28 rfl rfl rfl ?_
        refine cVi1 32 (sp_X8_isMoved (by omega) h hg q rfl hq64) ml_X8_236 mf_X8_isMoved dX8_takeLow_29 rfl o_71 (by decide) rfl (Nat.le_of_ble_eq_true rfl) (by omega) ?_
        refine wq_if_ne 35 50 dX8_takeLow_32 rfl (by decide) (fun c32 => ?_) (fun c32 => ?_)
        · skip
          refine wq_iinc 53 (_ + 1) [_, _] dX8_takeLow_50 rfl rfl (inc1 _) rfl (Nat.le_of_ble_eq_true rfl) rfl ?_
          refine wq_goto 2 dX8_takeLow_53 (by decide) ?_
          have e1 : tb (aL A) q = true := (hasM_ne0 (aL A) (k := q) hq64).mp (by rw [← h2]; exact c16)
          have e3 := bI_ne.mp c32
          rw [← nI_succ]
          exact ih (q + 1) (by omega) (next (by rw [e3]; simp))
        · skip
          have e1 : tb (aL A) q = true := (hasM_ne0 (aL A) (k := q) hq64).mp (by rw [← h2]; exact c16)
          have e2 : lowA k A q = true := by rw [← low_is h hq64 e1]; exact bI_ne.mp c24
          have e3 := bI_eq.mp c32
          have ex := found (by rw [e2, e3]; rfl)
          refine wq_bload_n 36 0 dX8_takeLow_35 rfl rfl rfl ?_
          refine wq_bipush 38 100 dX8_takeLow_36 rfl (by decide) ?_
          refine wq_iload_n 39 1 dX8_takeLow_38 rfl rfl rfl ?_
          refine wq_iadd 40 dX8_takeLow_39 rfl ?_
          refine cVp1 43 (sp_X8_note h hQ (100 + q) (by exact nI_add 100 q)) ml_X8_239 mf_X8_note dX8_takeLow_40 rfl o_71 (by decide) rfl (Nat.le_of_ble_eq_true rfl) (by omega) ?_
          rintro _ _ I1 L1 ⟨rfl, rfl, rfl, hR, i1, i2⟩
          refine wq_bload_n 44 0 dX8_takeLow_43 rfl rfl rfl ?_
          refine wq_iload_n 45 1 dX8_takeLow_44 rfl rfl rfl ?_
          refine cVp1 48 (sp_X8_take (by omega) hR (GA_note hg) q rfl hq64 e1 hK) ml_X8_243 mf_X8_take dX8_takeLow_45 rfl o_71 (by decide) rfl (Nat.le_of_ble_eq_true rfl) (by omega) ?_
          rintro _ _ I2 L2 ⟨rfl, rfl, hR2, j1, j2, m1, m2⟩
          refine wq_iconst 49 1 dX8_takeLow_48 rfl (by decide) ?_
          refine ri .boolean dX8_takeLow_49 rfl rfl ?_
          refine hp _ _ _ (Or.inl ⟨by omega, rfl, ?_, (FM_note i1 i2).trans (FM_take j1 j2 m1 m2)⟩)
          rw [ex]
          exact hR2
set_option maxRecDepth 20000 in
theorem sp_X8_takeLow {g : Gl} {D : Nat} {b : Bool} {I : IM} {L : LM} {k w mv t : Nat} {f1 f2 : Nat → Nat} {tl : Bool} {A : RA} (hD : 4 ≤ D) (hk : k < 2 ^ 31) (h : RMx I L k w mv f1 f2 tl A) (hg : GA mv t f1 f2 A) (hK : aK A < 64) (hQ : aQ A < 200) {x : Nat} (hx : lf (fun n => lowA k A n && !movA mv f1 f2 A n) 64 = x) : Me g D MX8_takeLow [rf g 71] b I L (fun r b' I' L' => b' = b ∧ ((x < 64 ∧ r = some (.int 1) ∧ RMx I' L' k w mv f1 f2 tl (noteA (takeA A x) (100 + x)) ∧ FM I L I' L') ∨ (¬ x < 64 ∧ r = some (.int 0) ∧ I' = I ∧ L' = L))) := by
  refine Me.of [some (rf g 71), none] 1 rfl pf_X8_takeLow (Nat.le_of_ble_eq_true rfl) ?_
  refine wq_iconst 1 4 dX8_takeLow_0 rfl (by decide) ?_
  refine wq_istore_n 2 1 [_, _] dX8_takeLow_1 rfl rfl rfl (Nat.le_of_ble_eq_true rfl) rfl ?_
  exact lp_X8_takeLow hD hk h hg hK hQ hx (fun r I' L' z => ⟨rfl, z⟩) 60 4 (by omega) (fun j hj => by show (lowA k A j && _) = _; rw [low_4 hj]; rfl)
set_option maxRecDepth 20000 in
set_option maxHeartbeats 2000000 in
theorem lp_X8_giveUp {g : Gl} {D : Nat} {b : Bool} {I : IM} {L : LM} {k w mv t : Nat} {f1 f2 : Nat → Nat} {tl : Bool} {A : RA} (hD : 4 ≤ D) (hk : k < 2 ^ 31) (h : RMx I L k w mv f1 f2 tl A) (hg : GA mv t f1 f2 A) (hQ : aQ A < 200) {x : Nat} (hx : lf (lowA k A) 64 = x) {post : Option Value → Bool → IM → LM → Prop} (hp : ∀ r I' L', ((x < 64 ∧ r = some (.int 1) ∧ RMx I' L' k w mv f1 f2 tl (noteA (shutA f1 f2 A x) (400 + x)) ∧ FM I L I' L') ∨ (¬ x < 64 ∧ r = some (.int 0) ∧ I' = I ∧ L' = L)) → post r b I' L') : ∀ r q, q + r = 64 → (∀ j, j < q → (lowA k A) j = false) → Wp (Kn g D MX8_giveUp post) (Tb b) 2 [some (rf g 71), some (.int (nI q))] [] I L := by
  have h2 := h.2.1
  have hk0 := h.2.2.2.2.2.2.2.2.2.1
  intro r
  induction r with
  | zero =>
    intro q hq hn
    have eq : q = 64 := by omega
    subst eq
    have hx' := lf_none hn
    rw [hx] at hx'
    refine wq_iload_n 3 1 dX8_giveUp_2 rfl rfl rfl ?_
    refine wq_bipush 5 64 dX8_giveUp_3 rfl (by decide) ?_
    refine wq_ic_ge 8 49 dX8_giveUp_5 rfl (by decide) (fun c5 => ?_) (fun c5 => absurd (by decide) c5)
    refine wq_iconst 50 0 dX8_giveUp_49 rfl (by decide) ?_
    refine ri .boolean dX8_giveUp_50 rfl rfl ?_
    exact hp _ _ _ (Or.inr ⟨by omega, rfl, rfl, rfl⟩)
  | succ r ih =>
    intro q hq hn
    have hq64 : q < 64 := by omega
    have next : (lowA k A q) = false → ∀ j, j < q + 1 → (lowA k A) j = false := by
      intro z j hj
      by_cases e : j = q
      · rw [e]; exact z
      · exact hn j (by omega)
    have found : (lowA k A q) = true → x = q := fun z => by rw [← hx]; exact lf_found hn z (by omega)
    refine wq_iload_n 3 1 dX8_giveUp_2 rfl rfl rfl ?_
    refine wq_bipush 5 64 dX8_giveUp_3 rfl (by decide) ?_
    refine wq_ic_ge 8 49 dX8_giveUp_5 rfl (by decide) (fun c5 => absurd c5 (nI_ge (b := 64) (by omega) (by decide))) (fun c5 => ?_)
    refine wq_bload_n 9 0 dX8_giveUp_8 rfl rfl rfl ?_
    refine wq_getL 12 fl_X8_211 dX8_giveUp_9 rfl rfl o_71 ?_
    refine wq_iload_n 13 1 dX8_giveUp_12 rfl rfl rfl ?_
    refine cSi2 16 (sp_X8_has _ _) ml_X8_109 mf_X8_has dX8_giveUp_13 rfl (Nat.le_of_ble_eq_true rfl) (by omega) ?_
    refine wq_if_eq 19 43 dX8_giveUp_16 rfl (by decide) (fun c16 => ?_) (fun c16 => ?_)
    · skip
      refine wq_iinc 46 (_ + 1) [_, _] dX8_giveUp_43 rfl rfl (inc1 _) rfl (Nat.le_of_ble_eq_true rfl) rfl ?_
      refine wq_goto 2 dX8_giveUp_46 (by decide) ?_
      have e1 : tb (aL A) q = false := (hasM_eq0 (aL A) (k := q) hq64).mp (by rw [← h2]; exact c16)
      rw [← nI_succ]
      exact ih (q + 1) (by omega) (next (by rw [lowA, e1]; simp))
    · skip
      refine wq_bload_n 20 0 dX8_giveUp_19 rfl rfl rfl ?_
      refine wq_iload_n 21 1 dX8_giveUp_20 rfl rfl rfl ?_
      refine cVi1 24 (sp_X8_isLow (by omega) hk0 hk q rfl hq64) ml_X8_233 mf_X8_isLow dX8_giveUp_21 rfl o_71 (by decide) rfl (Nat.le_of_ble_eq_true rfl) (by omega) ?_
      refine wq_if_eq 27 43 dX8_giveUp_24 rfl (by decide) (fun c24 => ?_) (fun c24 => ?_)
      · skip
        refine wq_iinc 46 (_ + 1) [_, _] dX8_giveUp_43 rfl rfl (inc1 _) rfl (Nat.le_of_ble_eq_true rfl) rfl ?_
        refine wq_goto 2 dX8_giveUp_46 (by decide) ?_
        have e1 : tb (aL A) q = true := (hasM_ne0 (aL A) (k := q) hq64).mp (by rw [← h2]; exact c16)
        have e2 : lowA k A q = false := by rw [← low_is h hq64 e1]; exact bI_eq.mp c24
        rw [← nI_succ]
        exact ih (q + 1) (by omega) (next (by rw [e2]))
      · skip
        have e1 : tb (aL A) q = true := (hasM_ne0 (aL A) (k := q) hq64).mp (by rw [← h2]; exact c16)
        have e2 : lowA k A q = true := by rw [← low_is h hq64 e1]; exact bI_ne.mp c24
        have ex := found e2
        refine wq_bload_n 28 0 dX8_giveUp_27 rfl rfl rfl ?_
        refine wq_sipush 31 400 dX8_giveUp_28 rfl (by decide) ?_
        refine wq_iload_n 32 1 dX8_giveUp_31 rfl rfl rfl ?_
        refine wq_iadd 33 dX8_giveUp_32 rfl ?_
        refine cVp1 36 (sp_X8_note h hQ (400 + q) (by exact nI_add 400 q)) ml_X8_239 mf_X8_note dX8_giveUp_33 rfl o_71 (by decide) rfl (Nat.le_of_ble_eq_true rfl) (by omega) ?_
        rintro _ _ I1 L1 ⟨rfl, rfl, rfl, hR, i1, i2⟩
        refine wq_bload_n 37 0 dX8_giveUp_36 rfl rfl rfl ?_
        refine wq_iload_n 38 1 dX8_giveUp_37 rfl rfl rfl ?_
        refine cVp1 41 (sp_X8_shut (by omega) hR (GA_note hg) q rfl hq64) ml_X8_252 mf_X8_shutAll dX8_giveUp_38 rfl o_71 (by decide) rfl (Nat.le_of_ble_eq_true rfl) (by omega) ?_
        rintro _ _ I2 L2 ⟨rfl, rfl, rfl, hR2, j1⟩
        refine wq_iconst 42 1 dX8_giveUp_41 rfl (by decide) ?_
        refine ri .boolean dX8_giveUp_42 rfl rfl ?_
        refine hp _ _ _ (Or.inl ⟨by omega, rfl, ?_, (FM_note i1 i2).trans (FM_shut j1)⟩)
        rw [ex]
        exact hR2
set_option maxRecDepth 20000 in
theorem sp_X8_giveUp {g : Gl} {D : Nat} {b : Bool} {I : IM} {L : LM} {k w mv t : Nat} {f1 f2 : Nat → Nat} {tl : Bool} {A : RA} (hD : 4 ≤ D) (hk : k < 2 ^ 31) (h : RMx I L k w mv f1 f2 tl A) (hg : GA mv t f1 f2 A) (hQ : aQ A < 200) {x : Nat} (hx : lf (lowA k A) 64 = x) : Me g D MX8_giveUp [rf g 71] b I L (fun r b' I' L' => b' = b ∧ ((x < 64 ∧ r = some (.int 1) ∧ RMx I' L' k w mv f1 f2 tl (noteA (shutA f1 f2 A x) (400 + x)) ∧ FM I L I' L') ∨ (¬ x < 64 ∧ r = some (.int 0) ∧ I' = I ∧ L' = L))) := by
  refine Me.of [some (rf g 71), none] 1 rfl pf_X8_giveUp (Nat.le_of_ble_eq_true rfl) ?_
  refine wq_iconst 1 4 dX8_giveUp_0 rfl (by decide) ?_
  refine wq_istore_n 2 1 [_, _] dX8_giveUp_1 rfl rfl rfl (Nat.le_of_ble_eq_true rfl) rfl ?_
  exact lp_X8_giveUp hD hk h hg hQ hx (fun r I' L' z => ⟨rfl, z⟩) 60 4 (by omega) (fun j hj => by show _ = _; rw [low_4 hj])
