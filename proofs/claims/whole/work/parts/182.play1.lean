/-! Round: takeLow, settleMove, giveUpMoves, takeInHope -/
theorem GA_shut {mv t x : Nat} {f1 f2 : Nat → Nat} {A : RA} (h : GA mv t f1 f2 A) : GA mv t f1 f2 (shutA f1 f2 A x) := by
  obtain ⟨h1, h2, h3, h4, h5, h6, h7, h8, h9, h10, h11⟩ := h
  refine ⟨h1, h2, h3, h4, h5, h6, h7, h8, h9, fun m hm ho => h10 m hm ?_, h11⟩
  have ho' : (aO A m && !inA f1 f2 A m x) = true := ho
  rw [Bool.and_eq_true] at ho'
  exact ho'.1
theorem GA_shutM {mv t x : Nat} {f1 f2 : Nat → Nat} {A : RA} (h : GA mv t f1 f2 A) : GA mv t f1 f2 (shutM A x) := by
  obtain ⟨h1, h2, h3, h4, h5, h6, h7, h8, h9, h10, h11⟩ := h
  refine ⟨h1, h2, h3, h4, h5, h6, h7, h8, h9, fun m hm ho => h10 m hm ?_, h11⟩
  have ho' : va_up (aO A) x false m = true := ho
  by_cases e : m = x
  · rw [e, va_up_self] at ho'; cases ho'
  · rw [va_up_ne _ _ e] at ho'; exact ho'
theorem RX_shutM {I : IM} {L : LM} {k w mv t x : Nat} {f1 f2 : Nat → Nat} {A : RA} (h : RX I L k w mv t f1 f2 A) : RX (va_up I 29 (va_up (I 29) x 0)) L k w mv t f1 f2 (shutM A x) := by
  obtain ⟨h1, h2, h3, h4, h5, h6, h7, h8, h9, h10, h11, h12, h13, h14⟩ := h
  refine ⟨h1, h2, h3, h4, fun m hm => ?_, h6, h7, h8, h9, h10, h11, h12, h13, h14⟩
  rw [va_up_self]
  show _ = bI (va_up (aO A) x false m)
  by_cases e : m = x
  · rw [e, va_up_self, va_up_self]; rfl
  · rw [va_up_ne _ _ e, va_up_ne _ _ e]; exact h5 m hm
set_option maxRecDepth 20000 in
set_option maxHeartbeats 2000000 in
theorem sp_X5_takeLow {g : Gl} {D : Nat} {b : Bool} {I : IM} {L : LM} {k w mv t : Nat} {f1 f2 : Nat → Nat} {A : RA} (hD : 2 ≤ D) (h : RX I L k w mv t f1 f2 A) (hg : GA mv t f1 f2 A) (hs : SX I L k mv t f1 f2 A) (hK : aK A < 64) (hQ : aQ A < 154) {x : Nat} (hx : lf (fun n => lowA k A n && !movA mv f1 f2 A n) 64 = x) : Me g D MX5_takeLow [rf g 21] b I L (fun r b' I' L' => b' = b ∧ ((x < 64 ∧ r = some (.int 1) ∧ RX I' L' k w mv t f1 f2 (noteA (takeA A x) (100 + x)) ∧ FX I L I' L') ∨ (¬ x < 64 ∧ r = some (.int 0) ∧ I' = I ∧ L' = L))) := by
  have gt := hg.2.2.1
  have es : ∀ n, n < 64 → tb (L 21 15 &&& (L 21 16 ^^^ (-1))) n = (lowA k A n && !movA mv f1 f2 A n) := fun n hn => by rw [bit_not _ _ hn, hs.1 n hn, hs.2.1 n hn]
  have hlow : ∀ n, t ≤ n → lowA k A n = false := fun n hn => by
    by_cases c : n < 64
    · have : tb (aL A) n = false := Bool.eq_false_iff.mpr (fun z => by have := hg.2.2.2.1 n c z; omega)
      rw [lowA, this]; simp
    · rw [lowA, tb_big (by omega)]; simp
  have ex : lf (tb (L 21 15 &&& (L 21 16 ^^^ (-1)))) 64 = x := by rw [← hx]; exact lf_congr es
  have cut := lf_cut (f := tb (L 21 15 &&& (L 21 16 ^^^ (-1)))) gt (fun j h1 h2 => by rw [es j h2, hlow j h1]; rfl)
  rw [ex] at cut
  refine Me.of [some (rf g 21), none] 1 rfl pf_X5_takeLow (Nat.le_of_ble_eq_true rfl) ?_
  rcases cut with ⟨c1, c2⟩ | ⟨c1, c2⟩
  · have hx64 : x < 64 := by omega
    have hlx : lowA k A x = true := by
      rcases lf_is (fun n => lowA k A n && !movA mv f1 f2 A n) 64 with ⟨z, -⟩ | ⟨-, z, -⟩
      · omega
      · rw [hx, Bool.and_eq_true] at z; exact z.1
    have hxl : tb (aL A) x = true := by
      rw [lowA, Bool.and_eq_true, Bool.and_eq_true] at hlx
      exact hlx.1.2
    refine wq_bload_n 1 0 dX5_takeLow_0 rfl rfl rfl ?_
    refine wq_bload_n 2 0 dX5_takeLow_1 rfl rfl rfl ?_
    refine wq_getL 5 fl_X5_61 dX5_takeLow_2 rfl rfl o_21 ?_
    refine wq_bload_n 6 0 dX5_takeLow_5 rfl rfl rfl ?_
    refine wq_getL 9 fl_X5_64 dX5_takeLow_6 rfl rfl o_21 ?_
    refine wq_ldc2 12 (-1) dX5_takeLow_9 rfl kc_X5_142 ?_
    refine wq_lxor 13 dX5_takeLow_12 rfl ?_
    refine wq_land 14 dX5_takeLow_13 rfl ?_
    refine cVi1 17 (sp_X5_leastOf (by omega) h.2.2.2.2.2.2.2.2.2.1 gt _) ml_X5_144 mf_X5_leastOf dX5_takeLow_14 rfl o_21 (by decide) rfl (Nat.le_of_ble_eq_true rfl) (by omega) ?_
    rw [if_pos c1, ← c2]
    refine wq_istore_n 18 1 [_, _] dX5_takeLow_17 rfl rfl rfl (Nat.le_of_ble_eq_true rfl) rfl ?_
    refine wq_iload_n 19 1 dX5_takeLow_18 rfl rfl rfl ?_
    refine wq_if_ge 22 24 dX5_takeLow_19 rfl (by decide) (fun c19 => ?_) (fun c19 => absurd (nI_pos' (by omega)) c19)
    refine wq_bload_n 25 0 dX5_takeLow_24 rfl rfl rfl ?_
    refine wq_iload_n 26 1 dX5_takeLow_25 rfl rfl rfl ?_
    refine cVp1 29 (sp_X5_take (by omega) h hg rfl hx64 hxl hK) ml_X5_147 mf_X5_takeAway dX5_takeLow_26 rfl o_21 (by decide) rfl (Nat.le_of_ble_eq_true rfl) (by omega) ?_
    rintro _ _ I' L' ⟨rfl, rfl, hR, i1, i2, l1, l2⟩
    have hQ' : I' 21 13 = nI (aQ A) := hR.2.2.2.2.2.2.2.2.1
    refine wq_bload_n 30 0 dX5_takeLow_29 rfl rfl rfl ?_
    refine wq_iconst 31 1 dX5_takeLow_30 rfl (by decide) ?_
    refine wq_iload_n 32 1 dX5_takeLow_31 rfl rfl rfl ?_
    refine cVv2 35 (sp_X5_note hQ' hQ 1 x rfl rfl) ml_X5_151 mf_X5_note dX5_takeLow_32 rfl o_21 (by decide) rfl (Nat.le_of_ble_eq_true rfl) (by omega) ?_
    refine wq_iconst 36 1 dX5_takeLow_35 rfl (by decide) ?_
    refine ri .boolean dX5_takeLow_36 rfl rfl ?_
    have fx : FX I L I' L' := ⟨fun z hz => by simp at hz; exact i1 z hz.1 hz.2.2.2.2.2.1, fun z hz => by simp at hz; exact l1 z hz.1 hz.2, l2 17 (by decide)⟩
    exact ⟨rfl, Or.inl ⟨hx64, rfl, RX_note hR, fx.trans (FX_note _ _ _ _)⟩⟩
  · skip
    refine wq_bload_n 1 0 dX5_takeLow_0 rfl rfl rfl ?_
    refine wq_bload_n 2 0 dX5_takeLow_1 rfl rfl rfl ?_
    refine wq_getL 5 fl_X5_61 dX5_takeLow_2 rfl rfl o_21 ?_
    refine wq_bload_n 6 0 dX5_takeLow_5 rfl rfl rfl ?_
    refine wq_getL 9 fl_X5_64 dX5_takeLow_6 rfl rfl o_21 ?_
    refine wq_ldc2 12 (-1) dX5_takeLow_9 rfl kc_X5_142 ?_
    refine wq_lxor 13 dX5_takeLow_12 rfl ?_
    refine wq_land 14 dX5_takeLow_13 rfl ?_
    refine cVi1 17 (sp_X5_leastOf (by omega) h.2.2.2.2.2.2.2.2.2.1 gt _) ml_X5_144 mf_X5_leastOf dX5_takeLow_14 rfl o_21 (by decide) rfl (Nat.le_of_ble_eq_true rfl) (by omega) ?_
    rw [if_neg c1]
    refine wq_istore_n 18 1 [_, _] dX5_takeLow_17 rfl rfl rfl (Nat.le_of_ble_eq_true rfl) rfl ?_
    refine wq_iload_n 19 1 dX5_takeLow_18 rfl rfl rfl ?_
    refine wq_if_ge 22 24 dX5_takeLow_19 rfl (by decide) (fun c19 => absurd c19 (by decide)) (fun c19 => ?_)
    refine wq_iconst 23 0 dX5_takeLow_22 rfl (by decide) ?_
    refine ri .boolean dX5_takeLow_23 rfl rfl ?_
    exact ⟨rfl, Or.inr ⟨by omega, rfl, rfl, rfl⟩⟩
set_option maxRecDepth 20000 in
set_option maxHeartbeats 2000000 in
theorem sp_X5_giveUp {g : Gl} {D : Nat} {b : Bool} {I : IM} {L : LM} {k w mv t : Nat} {f1 f2 : Nat → Nat} {A : RA} (hD : 3 ≤ D) (h : RX I L k w mv t f1 f2 A) (hg : GA mv t f1 f2 A) (hs : SX I L k mv t f1 f2 A) (hQ : aQ A < 154) {x : Nat} (hx : lf (lowA k A) 64 = x) : Me g D MX5_giveUpMoves [rf g 21] b I L (fun r b' I' L' => b' = b ∧ ((x < 64 ∧ r = some (.int 1) ∧ RX I' L' k w mv t f1 f2 (noteA (shutA f1 f2 A x) (400 + x)) ∧ FX I L I' L') ∨ (¬ x < 64 ∧ r = some (.int 0) ∧ I' = I ∧ L' = L))) := by
  have gt := hg.2.2.1
  have hlow : ∀ n, t ≤ n → lowA k A n = false := fun n hn => by
    by_cases c : n < 64
    · have : tb (aL A) n = false := Bool.eq_false_iff.mpr (fun z => by have := hg.2.2.2.1 n c z; omega)
      rw [lowA, this]; simp
    · rw [lowA, tb_big (by omega)]; simp
  have ex : lf (tb (L 21 15)) 64 = x := by rw [← hx]; exact lf_congr hs.1
  have cut := lf_cut (f := tb (L 21 15)) gt (fun j h1 h2 => by rw [hs.1 j h2, hlow j h1])
  rw [ex] at cut
  refine Me.of [some (rf g 21), none] 1 rfl pf_X5_giveUpMoves (Nat.le_of_ble_eq_true rfl) ?_
  rcases cut with ⟨c1, c2⟩ | ⟨c1, c2⟩
  · have hx64 : x < 64 := by omega
    refine wq_bload_n 1 0 dX5_giveUpMoves_0 rfl rfl rfl ?_
    refine wq_bload_n 2 0 dX5_giveUpMoves_1 rfl rfl rfl ?_
    refine wq_getL 5 fl_X5_61 dX5_giveUpMoves_2 rfl rfl o_21 ?_
    refine cVi1 8 (sp_X5_leastOf (by omega) h.2.2.2.2.2.2.2.2.2.1 gt _) ml_X5_144 mf_X5_leastOf dX5_giveUpMoves_5 rfl o_21 (by decide) rfl (Nat.le_of_ble_eq_true rfl) (by omega) ?_
    rw [if_pos c1, ← c2]
    refine wq_istore_n 9 1 [_, _] dX5_giveUpMoves_8 rfl rfl rfl (Nat.le_of_ble_eq_true rfl) rfl ?_
    refine wq_iload_n 10 1 dX5_giveUpMoves_9 rfl rfl rfl ?_
    refine wq_if_ge 13 15 dX5_giveUpMoves_10 rfl (by decide) (fun c10 => ?_) (fun c10 => absurd (nI_pos' (by omega)) c10)
    refine wq_bload_n 16 0 dX5_giveUpMoves_15 rfl rfl rfl ?_
    refine wq_iload_n 17 1 dX5_giveUpMoves_16 rfl rfl rfl ?_
    refine cVp1 20 (sp_X5_shut (by omega) h hg rfl hx64) ml_X5_165 mf_X5_shutMovesOf dX5_giveUpMoves_17 rfl o_21 (by decide) rfl (Nat.le_of_ble_eq_true rfl) (by omega) ?_
    rintro _ _ I' L' ⟨rfl, rfl, rfl, hR, i1⟩
    have hQ' : I' 21 13 = nI (aQ A) := hR.2.2.2.2.2.2.2.2.1
    refine wq_bload_n 21 0 dX5_giveUpMoves_20 rfl rfl rfl ?_
    refine wq_iconst 22 4 dX5_giveUpMoves_21 rfl (by decide) ?_
    refine wq_iload_n 23 1 dX5_giveUpMoves_22 rfl rfl rfl ?_
    refine cVv2 26 (sp_X5_note hQ' hQ 4 x rfl rfl) ml_X5_151 mf_X5_note dX5_giveUpMoves_23 rfl o_21 (by decide) rfl (Nat.le_of_ble_eq_true rfl) (by omega) ?_
    refine wq_iconst 27 1 dX5_giveUpMoves_26 rfl (by decide) ?_
    refine ri .boolean dX5_giveUpMoves_27 rfl rfl ?_
    have fx : FX I L' I' L' := ⟨fun z hz => by simp at hz; exact i1 z hz.2.2.2.2.1, fun _ _ => rfl, rfl⟩
    exact ⟨rfl, Or.inl ⟨hx64, rfl, RX_note hR, fx.trans (FX_note _ _ _ _)⟩⟩
  · skip
    refine wq_bload_n 1 0 dX5_giveUpMoves_0 rfl rfl rfl ?_
    refine wq_bload_n 2 0 dX5_giveUpMoves_1 rfl rfl rfl ?_
    refine wq_getL 5 fl_X5_61 dX5_giveUpMoves_2 rfl rfl o_21 ?_
    refine cVi1 8 (sp_X5_leastOf (by omega) h.2.2.2.2.2.2.2.2.2.1 gt _) ml_X5_144 mf_X5_leastOf dX5_giveUpMoves_5 rfl o_21 (by decide) rfl (Nat.le_of_ble_eq_true rfl) (by omega) ?_
    rw [if_neg c1]
    refine wq_istore_n 9 1 [_, _] dX5_giveUpMoves_8 rfl rfl rfl (Nat.le_of_ble_eq_true rfl) rfl ?_
    refine wq_iload_n 10 1 dX5_giveUpMoves_9 rfl rfl rfl ?_
    refine wq_if_ge 13 15 dX5_giveUpMoves_10 rfl (by decide) (fun c10 => absurd c10 (by decide)) (fun c10 => ?_)
    refine wq_iconst 14 0 dX5_giveUpMoves_13 rfl (by decide) ?_
    refine ri .boolean dX5_giveUpMoves_14 rfl rfl ?_
    exact ⟨rfl, Or.inr ⟨by omega, rfl, rfl, rfl⟩⟩
/-- a move that is turned -/
def trnA (f1 f2 : Nat → Nat) (A : RA) (m : Nat) : RA := if metA f1 f2 A m = true then noteA (shutM A m) (200 + m) else noteA (mergeA (shutM A m) (min (mA f1 A m) (mA f2 A m)) (max (mA f1 A m) (mA f2 A m))) (300 + m)
theorem minI_nn {x y : Nat} (hx : x < 64) (hy : y < 64) : minI (nI x) (nI y) = nI (min x y) := by
  unfold minI
  by_cases c : y < x
  · rw [if_pos (nI_lt c (by omega)), show min x y = y by omega]
  · rw [if_neg (nI_nlt (by omega) (by omega)), show min x y = x by omega]
theorem maxI_nn {x y : Nat} (hx : x < 64) (hy : y < 64) : maxI (nI x) (nI y) = nI (max x y) := by
  unfold maxI
  by_cases c : x < y
  · rw [if_pos (nI_lt c (by omega)), show max x y = y by omega]
  · rw [if_neg (nI_nlt (by omega) (by omega)), show max x y = x by omega]
theorem met_no {mv t m : Nat} {f1 f2 : Nat → Nat} {A : RA} (hg : GA mv t f1 f2 A) (hm : m < mv) (ho : aO A m = true) (hn : metA f1 f2 A m = false) : min (mA f1 A m) (mA f2 A m) < 64 ∧ max (mA f1 A m) (mA f2 A m) < 64 ∧ min (mA f1 A m) (mA f2 A m) < max (mA f1 A m) (mA f2 A m) ∧ 4 ≤ max (mA f1 A m) (mA f2 A m) ∧ tb (aL A) (min (mA f1 A m) (mA f2 A m)) = true ∧ tb (aL A) (max (mA f1 A m) (mA f2 A m)) = true ∧ tb (aN A (min (mA f1 A m) (mA f2 A m))) (max (mA f1 A m) (mA f2 A m)) = false := by
  obtain ⟨h1, h2, h3, h4, h5, h6, h7, h8, h9, h10, h11⟩ := hg
  obtain ⟨o1, o2⟩ := h10 m hm ho
  have l1 := rt_lt h1 (h9 m hm).1
  have l2 := rt_lt h1 (h9 m hm).2
  rw [metA, Bool.or_eq_false_iff] at hn
  have ne : mA f1 A m ≠ mA f2 A m := of_decide_eq_false hn.1
  have na := hn.2
  change tb (aL A) (mA f1 A m) = true at o1
  change tb (aL A) (mA f2 A m) = true at o2
  change mA f1 A m < 64 at l1
  change mA f2 A m < 64 at l2
  generalize mA f1 A m = u at *
  generalize mA f2 A m = v at *
  rcases Nat.lt_or_gt_of_ne ne with c | c
  · rw [show min u v = u by omega, show max u v = v by omega]
    refine ⟨l1, l2, c, ?_, o1, o2, na⟩
    by_cases z : 4 ≤ v
    · exact z
    · rw [h7 u (by omega) v (by omega) ne] at na; cases na
  · rw [show min u v = v by omega, show max u v = u by omega]
    refine ⟨l2, l1, c, ?_, o2, o1, ?_⟩
    · by_cases z : 4 ≤ u
      · exact z
      · rw [h7 u (by omega) v (by omega) ne] at na; cases na
    · refine Bool.eq_false_iff.mpr (fun z => ?_)
      rw [(h6 v l2 o2 u l1 z).2.2] at na
      cases na
set_option maxRecDepth 20000 in
set_option maxHeartbeats 2000000 in
theorem lp_X5_settle {g : Gl} {D : Nat} {b : Bool} {I : IM} {L : LM} {k w mv t : Nat} {f1 f2 : Nat → Nat} {A : RA} (hD : 2 ≤ D) (hk : k < 2 ^ 30) (h : RX I L k w mv t f1 f2 A) (hg : GA mv t f1 f2 A) (hs : SX I L k mv t f1 f2 A) (hQ : aQ A < 154) {x : Nat} (hx : lf (turnA k f1 f2 A) mv = x) {post : Option Value → Bool → IM → LM → Prop} (hp : ∀ r I' L', ((x < mv ∧ r = some (.int 1) ∧ RX I' L' k w mv t f1 f2 (trnA f1 f2 A x) ∧ FX I L I' L') ∨ (¬ x < mv ∧ r = some (.int 0) ∧ I' = I ∧ L' = L)) → post r b I' L') : ∀ r q l2 l3 l4 l5, q + r = mv → (∀ j, j < q → turnA k f1 f2 A j = false) → Wp (Kn g D MX5_settleMove post) (Tb b) 2 [some (rf g 21), some (.int (nI q)), l2, l3, l4, l5] [] I L := by
  have hA := h.2.2.1
  have ga := hg.1
  have gm := hg.2.2.2.2.2.2.2.1
  have hm := h.2.2.2.2.2.2.2.2.2.2.1
  have hQ0 := h.2.2.2.2.2.2.2.2.1
  intro r
  induction r with
  | zero =>
    intro q l2 l3 l4 l5 hq hn
    have eq : q = mv := by omega
    subst eq
    have hx' := lf_none hn
    rw [hx] at hx'
    refine wq_iload_n 3 1 dX5_settleMove_2 rfl rfl rfl ?_
    refine wq_bload_n 4 0 dX5_settleMove_3 rfl rfl rfl ?_
    refine wq_getI 7 fl_X5_48 dX5_settleMove_4 rfl rfl o_21 ?_
    refine wq_ic_ge 10 128 dX5_settleMove_7 rfl (by decide) (fun c7 => ?_) (fun c7 => absurd (by rw [hm]; exact nI_le (Nat.le_refl _) (by omega)) c7)
    refine wq_iconst 129 0 dX5_settleMove_128 rfl (by decide) ?_
    refine ri .boolean dX5_settleMove_129 rfl rfl ?_
    exact hp _ _ _ (Or.inr ⟨by omega, rfl, rfl, rfl⟩)
  | succ r ih =>
    intro q l2 l3 l4 l5 hq hn
    obtain ⟨F1, F2⟩ := h.2.2.2.2.2.2.2.2.2.2.2.1 q (by omega)
    obtain ⟨g1, g2⟩ := hg.2.2.2.2.2.2.2.2.1 q (by omega)
    have l1' := rt_lt ga g1
    have l2' := rt_lt ga g2
    have hO := h.2.2.2.2.1 q (by omega)
    have next : turnA k f1 f2 A q = false → ∀ j, j < q + 1 → turnA k f1 f2 A j = false := by
      intro z j hj
      by_cases e : j = q
      · rw [e]; exact z
      · exact hn j (by omega)
    have found : turnA k f1 f2 A q = true → x = q := fun z => by rw [← hx]; exact lf_found hn z (by omega)
    have J59 : metA f1 f2 A q = true → aO A q = true → ∀ l4 l5, Wp (Kn g D MX5_settleMove post) (Tb b) 59 [some (rf g 21), some (.int (nI q)), some (.int (nI (mA f1 A q))), some (.int (nI (mA f2 A q))), l4, l5] [] I L := by
      intro hmet ho l4 l5
      have ex := found (by rw [turnA, ho, hmet]; rfl)
      have hR := RX_shutM (x := q) h
      refine wq_bload_n 60 0 dX5_settleMove_59 rfl rfl rfl ?_
      refine wq_getR 63 fl_X5_34 dX5_settleMove_60 rfl rfl o_21 (rfl : (Tb _).2.2.2 21 7 = some 29) ?_
      refine wq_iload_n 64 1 dX5_settleMove_63 rfl rfl rfl ?_
      refine wq_iconst 65 0 dX5_settleMove_64 rfl (by decide) ?_
      refine wq_zast 66 dX5_settleMove_65 rfl a_29 (Ix.nI (by omega) (by decide)) rfl ?_
      refine wq_bload_n 67 0 dX5_settleMove_66 rfl rfl rfl ?_
      refine wq_iconst 68 2 dX5_settleMove_67 rfl (by decide) ?_
      refine wq_iload_n 69 1 dX5_settleMove_68 rfl rfl rfl ?_
      refine cVv2 72 (sp_X5_note (by rw [va_up_ne _ _ (by decide)]; exact hQ0) hQ 2 q rfl rfl) ml_X5_151 mf_X5_note dX5_settleMove_69 rfl o_21 (by decide) rfl (Nat.le_of_ble_eq_true rfl) (by omega) ?_
      refine wq_iconst 73 1 dX5_settleMove_72 rfl (by decide) ?_
      refine ri .boolean dX5_settleMove_73 rfl rfl ?_
      refine hp _ _ _ (Or.inl ⟨by omega, rfl, ?_, ?_⟩)
      · rw [ex, trnA, if_pos hmet]
        have := RX_note (c := 200 + q) hR
        exact this
      · refine FX.trans (I' := va_up I 29 (va_up (I 29) q 0)) ⟨fun z hz => ?_, fun _ _ => rfl, rfl⟩ (FX_note _ _ _ _)
        simp at hz
        exact va_up_ne _ _ hz.2.2.2.2.1
    have J74 : metA f1 f2 A q = false → aO A q = true → ∀ l4 l5, Wp (Kn g D MX5_settleMove post) (Tb b) 74 [some (rf g 21), some (.int (nI q)), some (.int (nI (mA f1 A q))), some (.int (nI (mA f2 A q))), l4, l5] [] I L := by
      intro hmet ho l4 l5
      obtain ⟨k1, k2, k3, k4, k5, k6, -⟩ := met_no hg (by omega) ho hmet
      have hR := RX_shutM (x := q) h
      have hG := GA_shutM (x := q) hg
      refine wq_iload_n 75 2 dX5_settleMove_74 rfl rfl rfl ?_
      refine wq_iload_n 76 3 dX5_settleMove_75 rfl rfl rfl ?_
      refine cSi2 79 (sp_J9_min_7cf53 _ _) ml_X5_107 mf_J9_min_7cf53 dX5_settleMove_76 rfl (Nat.le_of_ble_eq_true rfl) (by omega) ?_
      rw [minI_nn (x := mA f1 A q) (y := mA f2 A q) l1' l2']
      refine wq_istore 81 [_, _, _, _, _, _] dX5_settleMove_79 rfl rfl (Nat.le_of_ble_eq_true rfl) rfl ?_
      refine wq_iload_n 82 2 dX5_settleMove_81 rfl rfl rfl ?_
      refine wq_iload_n 83 3 dX5_settleMove_82 rfl rfl rfl ?_
      refine cSi2 86 (sp_J9_max_7cf53 _ _) ml_X5_155 mf_J9_max_7cf53 dX5_settleMove_83 rfl (Nat.le_of_ble_eq_true rfl) (by omega) ?_
      rw [maxI_nn (x := mA f1 A q) (y := mA f2 A q) l1' l2']
      refine wq_istore 88 [_, _, _, _, _, _] dX5_settleMove_86 rfl rfl (Nat.le_of_ble_eq_true rfl) rfl ?_
      refine wq_bload_n 89 0 dX5_settleMove_88 rfl rfl rfl ?_
      refine wq_iload 91 dX5_settleMove_89 rfl rfl ?_
      refine wq_iload 93 dX5_settleMove_91 rfl rfl ?_
      refine cVi2 96 (sp_X5_isSafe (by omega) hk h hg hs rfl rfl k1 k2 k5 k6) ml_X5_158 mf_X5_isSafe dX5_settleMove_93 rfl o_21 (by decide) rfl (Nat.le_of_ble_eq_true rfl) (by omega) ?_
      refine wq_if_eq 99 122 dX5_settleMove_96 rfl (by decide) (fun c96 => ?_) (fun c96 => ?_)
      · skip
        refine wq_iinc 125 (_ + 1) [_, _, _, _, _, _] dX5_settleMove_122 rfl rfl (inc1 _) rfl (Nat.le_of_ble_eq_true rfl) rfl ?_
        refine wq_goto 2 dX5_settleMove_125 (by decide) ?_
        have es : safeM k f1 f2 A q = false := bI_eq.mp c96
        rw [← nI_succ]
        exact ih (q + 1) _ _ _ _ (by omega) (next (by rw [turnA, hmet, es]; simp))
      · skip
        refine wq_bload_n 100 0 dX5_settleMove_99 rfl rfl rfl ?_
        refine wq_getR 103 fl_X5_34 dX5_settleMove_100 rfl rfl o_21 (rfl : (Tb _).2.2.2 21 7 = some 29) ?_
        refine wq_iload_n 104 1 dX5_settleMove_103 rfl rfl rfl ?_
        refine wq_iconst 105 0 dX5_settleMove_104 rfl (by decide) ?_
        refine wq_zast 106 dX5_settleMove_105 rfl a_29 (Ix.nI (by omega) (by decide)) rfl ?_
        refine wq_bload_n 107 0 dX5_settleMove_106 rfl rfl rfl ?_
        refine wq_iload 109 dX5_settleMove_107 rfl rfl ?_
        refine wq_iload 111 dX5_settleMove_109 rfl rfl ?_
        refine cVp2 114 (sp_X5_merge (by omega) hR hG rfl rfl k1 k2 k3 k5 k6 k4) ml_X5_162 mf_X5_makeOne dX5_settleMove_111 rfl o_21 (by decide) rfl (Nat.le_of_ble_eq_true rfl) (by omega) ?_
        rintro _ _ I' L' ⟨rfl, rfl, hR2, i1, l1, l2⟩
        have hQ' : I' 21 13 = nI (aQ A) := hR2.2.2.2.2.2.2.2.2.1
        refine wq_bload_n 115 0 dX5_settleMove_114 rfl rfl rfl ?_
        refine wq_iconst 116 3 dX5_settleMove_115 rfl (by decide) ?_
        refine wq_iload_n 117 1 dX5_settleMove_116 rfl rfl rfl ?_
        refine cVv2 120 (sp_X5_note hQ' hQ 3 q rfl rfl) ml_X5_151 mf_X5_note dX5_settleMove_117 rfl o_21 (by decide) rfl (Nat.le_of_ble_eq_true rfl) (by omega) ?_
        refine wq_iconst 121 1 dX5_settleMove_120 rfl (by decide) ?_
        refine ri .boolean dX5_settleMove_121 rfl rfl ?_
        have es : safeM k f1 f2 A q = true := bI_ne.mp c96
        have ex := found (by rw [turnA, ho, es]; simp)
        refine hp _ _ _ (Or.inl ⟨by omega, rfl, ?_, ?_⟩)
        · rw [ex, trnA, if_neg (by rw [hmet]; decide)]
          have := RX_note (c := 300 + q) hR2
          exact this
        · refine FX.trans (I' := I') (L' := L') ⟨fun z hz => ?_, fun z hz => ?_, l2 17 (by decide)⟩ (FX_note _ _ _ _)
          · simp at hz
            rw [i1 z hz.2.2.1 hz.2.2.2.1]
            exact va_up_ne _ _ hz.2.2.2.2.1
          · simp at hz
            exact l1 z hz.1 hz.2
    refine wq_iload_n 3 1 dX5_settleMove_2 rfl rfl rfl ?_
    refine wq_bload_n 4 0 dX5_settleMove_3 rfl rfl rfl ?_
    refine wq_getI 7 fl_X5_48 dX5_settleMove_4 rfl rfl o_21 ?_
    refine wq_ic_ge 10 128 dX5_settleMove_7 rfl (by decide) (fun c7 => absurd c7 (by rw [hm]; exact nI_ge (by omega) (by omega))) (fun c7 => ?_)
    refine wq_bload_n 11 0 dX5_settleMove_10 rfl rfl rfl ?_
    refine wq_getR 14 fl_X5_34 dX5_settleMove_11 rfl rfl o_21 (rfl : (Tb _).2.2.2 21 7 = some 29) ?_
    refine wq_iload_n 15 1 dX5_settleMove_14 rfl rfl rfl ?_
    refine wq_zald 16 dX5_settleMove_15 rfl a_29 (Ix.nI (by omega) (by decide)) ?_
    refine wq_if_eq 19 122 dX5_settleMove_16 rfl (by decide) (fun c16 => ?_) (fun c16 => ?_)
    · skip
      refine wq_iinc 125 (_ + 1) [_, _, _, _, _, _] dX5_settleMove_122 rfl rfl (inc1 _) rfl (Nat.le_of_ble_eq_true rfl) rfl ?_
      refine wq_goto 2 dX5_settleMove_125 (by decide) ?_
      have ho : aO A q = false := bI_eq.mp (by rw [← hO]; exact c16)
      rw [← nI_succ]
      exact ih (q + 1) _ _ _ _ (by omega) (next (by rw [turnA, ho]; rfl))
    · skip
      refine wq_bload_n 20 0 dX5_settleMove_19 rfl rfl rfl ?_
      refine wq_bload_n 21 0 dX5_settleMove_20 rfl rfl rfl ?_
      refine wq_getR 24 fl_X5_28 dX5_settleMove_21 rfl rfl o_21 (rfl : (Tb _).2.2.2 21 5 = some 27) ?_
      refine wq_iload_n 25 1 dX5_settleMove_24 rfl rfl rfl ?_
      refine wq_iald 26 dX5_settleMove_25 rfl a_27 (Ix.nI (by omega) (by decide)) ?_
      refine cVi1 29 (sp_X5_nodeOf (by omega) hA ga (f1 q) F1 g1) ml_X5_136 mf_X5_nodeOf dX5_settleMove_26 rfl o_21 (by decide) rfl (Nat.le_of_ble_eq_true rfl) (by omega) ?_
      refine wq_istore_n 30 2 [_, _, _, _, _, _] dX5_settleMove_29 rfl rfl rfl (Nat.le_of_ble_eq_true rfl) rfl ?_
      refine wq_bload_n 31 0 dX5_settleMove_30 rfl rfl rfl ?_
      refine wq_bload_n 32 0 dX5_settleMove_31 rfl rfl rfl ?_
      refine wq_getR 35 fl_X5_31 dX5_settleMove_32 rfl rfl o_21 (rfl : (Tb _).2.2.2 21 6 = some 28) ?_
      refine wq_iload_n 36 1 dX5_settleMove_35 rfl rfl rfl ?_
      refine wq_iald 37 dX5_settleMove_36 rfl a_28 (Ix.nI (by omega) (by decide)) ?_
      refine cVi1 40 (sp_X5_nodeOf (by omega) hA ga (f2 q) F2 g2) ml_X5_136 mf_X5_nodeOf dX5_settleMove_37 rfl o_21 (by decide) rfl (Nat.le_of_ble_eq_true rfl) (by omega) ?_
      refine wq_istore_n 41 3 [_, _, _, _, _, _] dX5_settleMove_40 rfl rfl rfl (Nat.le_of_ble_eq_true rfl) rfl ?_
      refine wq_iload_n 42 2 dX5_settleMove_41 rfl rfl rfl ?_
      refine wq_iload_n 43 3 dX5_settleMove_42 rfl rfl rfl ?_
      refine wq_ic_eq 46 59 dX5_settleMove_43 rfl (by decide) (fun c43 => ?_) (fun c43 => ?_)
      · skip
        have ho : aO A q = true := bI_ne.mp (by rw [← hO]; exact c16)
        have e := (nI_eq (by omega) (by omega)).mp c43
        exact J59 (by rw [metA, decide_eq_true (show mA f1 A q = mA f2 A q from e)]; rfl) ho _ _
      · skip
        refine wq_bload_n 47 0 dX5_settleMove_46 rfl rfl rfl ?_
        refine wq_getR 50 fl_X5_9 dX5_settleMove_47 rfl rfl o_21 (rfl : (Tb _).2.2.2 21 0 = some 22) ?_
        refine wq_iload_n 51 2 dX5_settleMove_50 rfl rfl rfl ?_
        refine wq_lald 52 dX5_settleMove_51 rfl a_22 (Ix.nI (by omega) (by decide)) ?_
        rw [h.1 _ l1']
        refine wq_iload_n 53 3 dX5_settleMove_52 rfl rfl rfl ?_
        refine cSi2 56 (sp_X7_has _ _) ml_X5_132 mf_X7_has dX5_settleMove_53 rfl (Nat.le_of_ble_eq_true rfl) (by omega) ?_
        refine wq_if_eq 59 74 dX5_settleMove_56 rfl (by decide) (fun c56 => ?_) (fun c56 => ?_)
        · skip
          have ho : aO A q = true := bI_ne.mp (by rw [← hO]; exact c16)
          have e : tb (aN A (mA f1 A q)) (mA f2 A q) = false := (hasX_eq0 _ l2').mp c56
          exact J74 (by rw [metA, e, decide_eq_false (fun z => c43 (by rw [show rt (aA A) (f1 q) = rt (aA A) (f2 q) from z]))]; rfl) ho _ _
        · skip
          have ho : aO A q = true := bI_ne.mp (by rw [← hO]; exact c16)
          have e : tb (aN A (mA f1 A q)) (mA f2 A q) = true := (hasX_ne0 _ l2').mp c56
          exact J59 (by rw [metA, e, Bool.or_true]) ho _ _
set_option maxRecDepth 20000 in
theorem sp_X5_settle {g : Gl} {D : Nat} {b : Bool} {I : IM} {L : LM} {k w mv t : Nat} {f1 f2 : Nat → Nat} {A : RA} (hD : 2 ≤ D) (hk : k < 2 ^ 30) (h : RX I L k w mv t f1 f2 A) (hg : GA mv t f1 f2 A) (hs : SX I L k mv t f1 f2 A) (hQ : aQ A < 154) {x : Nat} (hx : lf (turnA k f1 f2 A) mv = x) : Me g D MX5_settleMove [rf g 21] b I L (fun r b' I' L' => b' = b ∧ ((x < mv ∧ r = some (.int 1) ∧ RX I' L' k w mv t f1 f2 (trnA f1 f2 A x) ∧ FX I L I' L') ∨ (¬ x < mv ∧ r = some (.int 0) ∧ I' = I ∧ L' = L))) := by
  refine Me.of [some (rf g 21), none, none, none, none, none] 5 rfl pf_X5_settleMove (Nat.le_of_ble_eq_true rfl) ?_
  refine wq_iconst 1 0 dX5_settleMove_0 rfl (by decide) ?_
  refine wq_istore_n 2 1 [_, _, _, _, _, _] dX5_settleMove_1 rfl rfl rfl (Nat.le_of_ble_eq_true rfl) rfl ?_
  exact lp_X5_settle hD hk h hg hs hQ hx (fun r I' L' z => ⟨rfl, z⟩) mv 0 _ _ _ _ (by omega) (fun j hj => by omega)
