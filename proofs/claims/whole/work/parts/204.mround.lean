/-! the reference's round: small methods -/
def RMx (I : IM) (L : LM) (k w mv : Nat) (f1 f2 : Nat → Nat) (tl : Bool) (A : RA) : Prop :=
  (∀ x, x < 64 → tb (aL A) x = true → L 87 x &&& aL A = aN A x) ∧ L 71 24 = aL A ∧ (∀ x, x < 64 → I 88 x = nI (aA A x)) ∧ (∀ x, x < 64 → 4 ≤ x → tb (aL A) x = true → I 89 x = nI (aC A x)) ∧ (∀ m, m < mv → I 91 m = bI (aO A m)) ∧ (∀ i, i < aK A → I 92 i = nI (aT A i) ∧ L 93 i = aN A (aT A i)) ∧ I 71 30 = nI (aK A) ∧ I 71 27 = nI mv ∧ (∀ m, m < mv → ∃ q, q < 90 ∧ I 90 m = nI q ∧ I 78 q = nI (f1 m) ∧ I 79 q = nI (f2 m)) ∧ I 71 0 = nI k ∧ I 71 1 = nI w ∧ (tl = true → I 71 34 = 1 ∧ (∀ i, i < aQ A → I 95 i = nI (aS A i)) ∧ I 71 33 = nI (aQ A)) ∧ (tl = false → I 71 34 = 0)
set_option maxRecDepth 20000 in
set_option maxHeartbeats 2000000 in
theorem lp_X8_stands {g : Gl} {D : Nat} {b : Bool} {I : IM} {L : LM} {al : Nat → Nat} {k1 : Int32} {z : Nat} (hI : ∀ n, n < 64 → I 88 n = nI (al n)) (ha : ∀ n, n < 64 → al n ≤ n) {post : Option Value → Bool → IM → LM → Prop} (hp : post (some (.int (nI z))) b I L) : ∀ f x, x < 64 → x ≤ f → itr al f x = z → Wp (Kn g D MX8_standsFor post) (Tb b) 2 [some (rf g 71), some (.int k1), some (.int (nI x))] [] I L := by
  intro f
  induction f with
  | zero =>
    intro x hx hf hz
    have ex : x = 0 := by omega
    have h0 := ha x hx
    have e : al x = x := by omega
    rw [itr] at hz
    rw [← hz] at hp
    refine wq_bload_n 3 0 dX8_standsFor_2 rfl rfl rfl ?_
    refine wq_getR 6 fl_X8_63 dX8_standsFor_3 rfl rfl o_71 (rfl : (Tb _).2.2.2 71 22 = some 88) ?_
    refine wq_iload_n 7 2 dX8_standsFor_6 rfl rfl rfl ?_
    refine wq_iald 8 dX8_standsFor_7 rfl a_88 (Ix.nI (by omega) (by decide)) ?_
    refine wq_iload_n 9 2 dX8_standsFor_8 rfl rfl rfl ?_
    refine wq_ic_eq 12 22 dX8_standsFor_9 rfl (by decide) (fun c9 => ?_) (fun c9 => absurd (by rw [hI x hx, e]) c9)
    refine wq_iload_n 23 2 dX8_standsFor_22 rfl rfl rfl ?_
    refine ri .int dX8_standsFor_23 rfl rfl ?_
    exact hp
  | succ f ih =>
    intro x hx hf hz
    have h0 := ha x hx
    refine wq_bload_n 3 0 dX8_standsFor_2 rfl rfl rfl ?_
    refine wq_getR 6 fl_X8_63 dX8_standsFor_3 rfl rfl o_71 (rfl : (Tb _).2.2.2 71 22 = some 88) ?_
    refine wq_iload_n 7 2 dX8_standsFor_6 rfl rfl rfl ?_
    refine wq_iald 8 dX8_standsFor_7 rfl a_88 (Ix.nI (by omega) (by decide)) ?_
    rw [hI x hx]
    refine wq_iload_n 9 2 dX8_standsFor_8 rfl rfl rfl ?_
    refine wq_ic_eq 12 22 dX8_standsFor_9 rfl (by decide) (fun c9 => ?_) (fun c9 => ?_)
    · skip
      refine wq_iload_n 23 2 dX8_standsFor_22 rfl rfl rfl ?_
      refine ri .int dX8_standsFor_23 rfl rfl ?_
      have e := (nI_eq (by omega) (by omega)).mp c9
      rw [itr_fix e] at hz
      rw [← hz] at hp
      exact hp
    · skip
      refine wq_bload_n 13 0 dX8_standsFor_12 rfl rfl rfl ?_
      refine wq_getR 16 fl_X8_63 dX8_standsFor_13 rfl rfl o_71 (rfl : (Tb _).2.2.2 71 22 = some 88) ?_
      refine wq_iload_n 17 2 dX8_standsFor_16 rfl rfl rfl ?_
      refine wq_iald 18 dX8_standsFor_17 rfl a_88 (Ix.nI (by omega) (by decide)) ?_
      rw [hI x hx]
      refine wq_istore_n 19 2 [_, _, _] dX8_standsFor_18 rfl rfl rfl (Nat.le_of_ble_eq_true rfl) rfl ?_
      refine wq_goto 2 dX8_standsFor_19 (by decide) ?_
      have ne : al x ≠ x := fun e => c9 (by rw [e])
      exact ih (al x) (by omega) (by omega) hz
set_option maxRecDepth 20000 in
theorem sp_X8_stands {g : Gl} {D : Nat} {b : Bool} {I : IM} {L : LM} {al : Nat → Nat} (hI : ∀ n, n < 64 → I 88 n = nI (al n)) (ha : ∀ n, n < 64 → al n ≤ n) {i : Int32} (x : Nat) (hi : i = nI x) (hx : x < 64) : Md g D MX8_standsFor [rf g 71, .int i] b I L (some (.int (nI (rt al x)))) b I L := by
  subst hi
  refine Me.of [some (rf g 71), some (.int (nI x)), none] 1 rfl pf_X8_standsFor (Nat.le_of_ble_eq_true rfl) ?_
  refine wq_iload_n 1 1 dX8_standsFor_0 rfl rfl rfl ?_
  refine wq_istore_n 2 2 [_, _, _] dX8_standsFor_1 rfl rfl rfl (Nat.le_of_ble_eq_true rfl) rfl ?_
  exact lp_X8_stands hI ha ⟨rfl, rfl, rfl, rfl⟩ 64 x hx (by omega) rfl
set_option maxRecDepth 20000 in
theorem sp_X8_near {g : Gl} {D : Nat} {b : Bool} {I : IM} {L : LM} {i : Int32} (x : Nat) (hi : i = nI x) (hx : x < 64) : Md g D MX8_near [rf g 71, .int i] b I L (some (.long (L 87 x &&& L 71 24))) b I L := by
  subst hi
  refine Me.of [some (rf g 71), some (.int (nI x))] 0 rfl pf_X8_near (Nat.le_of_ble_eq_true rfl) ?_
  refine wq_bload_n 1 0 dX8_near_0 rfl rfl rfl ?_
  refine wq_getR 4 fl_X8_60 dX8_near_1 rfl rfl o_71 (rfl : (Tb _).2.2.2 71 21 = some 87) ?_
  refine wq_iload_n 5 1 dX8_near_4 rfl rfl rfl ?_
  refine wq_lald 6 dX8_near_5 rfl a_87 (Ix.nI (by omega) (by decide)) ?_
  refine wq_bload_n 7 0 dX8_near_6 rfl rfl rfl ?_
  refine wq_getL 10 fl_X8_211 dX8_near_7 rfl rfl o_71 ?_
  refine wq_land 11 dX8_near_10 rfl ?_
  refine rl dX8_near_11 rfl ?_
  exact ⟨rfl, rfl, rfl, rfl⟩
set_option maxRecDepth 20000 in
theorem sp_X8_degree {g : Gl} {D : Nat} {b : Bool} {I : IM} {L : LM} (hD : 2 ≤ D) {i : Int32} (x : Nat) (hi : i = nI x) (hx : x < 64) : Md g D MX8_degree [rf g 71, .int i] b I L (some (.int (nI (cnt (L 87 x &&& L 71 24))))) b I L := by
  subst hi
  refine Me.of [some (rf g 71), some (.int (nI x))] 0 rfl pf_X8_degree (Nat.le_of_ble_eq_true rfl) ?_
  refine wq_bload_n 1 0 dX8_degree_0 rfl rfl rfl ?_
  refine wq_iload_n 2 1 dX8_degree_1 rfl rfl rfl ?_
  refine cVl1 5 (sp_X8_near x rfl hx) ml_X8_215 mf_X8_near dX8_degree_2 rfl o_71 (by decide) rfl (Nat.le_of_ble_eq_true rfl) (by omega) ?_
  refine cSi1 8 (sp_X8_bits (by omega) _) ml_X8_197 mf_X8_bits dX8_degree_5 rfl (Nat.le_of_ble_eq_true rfl) (by omega) ?_
  refine ri .int dX8_degree_8 rfl rfl ?_
  exact ⟨rfl, rfl, rfl, rfl⟩
set_option maxRecDepth 20000 in
theorem sp_X8_isLow {g : Gl} {D : Nat} {b : Bool} {I : IM} {L : LM} {k : Nat} (hD : 3 ≤ D) (hk : I 71 0 = nI k) (hk2 : k < 2 ^ 31) {i : Int32} (x : Nat) (hi : i = nI x) (hx : x < 64) : Md g D MX8_isLow [rf g 71, .int i] b I L (some (.int (bI (decide (4 ≤ x) && decide (cnt (L 87 x &&& L 71 24) < k))))) b I L := by
  subst hi
  have hc := cnt_le (L 87 x &&& L 71 24)
  refine Me.of [some (rf g 71), some (.int (nI x))] 0 rfl pf_X8_isLow (Nat.le_of_ble_eq_true rfl) ?_
  refine wq_iload_n 1 1 dX8_isLow_0 rfl rfl rfl ?_
  refine wq_iconst 2 4 dX8_isLow_1 rfl (by decide) ?_
  refine wq_ic_lt 5 21 dX8_isLow_2 rfl (by decide) (fun c2 => ?_) (fun c2 => ?_)
  · skip
    refine wq_iconst 22 0 dX8_isLow_21 rfl (by decide) ?_
    refine ri .boolean dX8_isLow_22 rfl rfl ?_
    exact ⟨by rw [decide_eq_false (show ¬ 4 ≤ x from fun z => nI_nlt (b := 4) z (by omega) c2)]; rfl, rfl, rfl, rfl⟩
  · skip
    refine wq_bload_n 6 0 dX8_isLow_5 rfl rfl rfl ?_
    refine wq_iload_n 7 1 dX8_isLow_6 rfl rfl rfl ?_
    refine cVi1 10 (sp_X8_degree (by omega) x rfl hx) ml_X8_218 mf_X8_degree dX8_isLow_7 rfl o_71 (by decide) rfl (Nat.le_of_ble_eq_true rfl) (by omega) ?_
    refine wq_bload_n 11 0 dX8_isLow_10 rfl rfl rfl ?_
    refine wq_getI 14 fl_X8_7 dX8_isLow_11 rfl rfl o_71 ?_
    refine wq_ic_ge 17 21 dX8_isLow_14 rfl (by decide) (fun c14 => ?_) (fun c14 => ?_)
    · skip
      refine wq_iconst 22 0 dX8_isLow_21 rfl (by decide) ?_
      refine ri .boolean dX8_isLow_22 rfl rfl ?_
      have e : 4 ≤ x := Decidable.byContradiction (fun z => c2 (nI_lt (b := 4) (by omega) (by decide)))
      rw [hk] at c14
      exact ⟨by rw [decide_eq_false (fun z => nI_ge z hk2 c14), Bool.and_false]; rfl, rfl, rfl, rfl⟩
    · skip
      refine wq_iconst 18 1 dX8_isLow_17 rfl (by decide) ?_
      refine wq_goto 22 dX8_isLow_18 (by decide) ?_
      refine ri .boolean dX8_isLow_22 rfl rfl ?_
      have e : 4 ≤ x := Decidable.byContradiction (fun z => c2 (nI_lt (b := 4) (by omega) (by decide)))
      rw [hk] at c14
      exact ⟨by rw [decide_eq_true e, decide_eq_true (Decidable.byContradiction (fun z => c14 (nI_le (by omega) (by omega))))]; rfl, rfl, rfl, rfl⟩
set_option maxRecDepth 20000 in
set_option maxHeartbeats 2000000 in
theorem sp_X8_isIn {g : Gl} {D : Nat} {b : Bool} {I : IM} {L : LM} {k w mv : Nat} {f1 f2 : Nat → Nat} {tl : Bool} {A : RA} (hD : 1 ≤ D) (h : RMx I L k w mv f1 f2 tl A) (ga : ∀ n, n < 64 → aA A n ≤ n) {i j : Int32} (m x : Nat) (hi : i = nI m) (hj : j = nI x) (hm : m < mv) (hmv : mv ≤ 90) (hf : f1 m < 64 ∧ f2 m < 64) (hx : x < 64) : Md g D MX8_isIn [rf g 71, .int i, .int j] b I L (some (.int (bI (inA f1 f2 A m x)))) b I L := by
  subst hi hj
  obtain ⟨q, q1, q2, q3, q4⟩ := h.2.2.2.2.2.2.2.2.1 m hm
  have l1 := rt_lt ga hf.1
  have l2 := rt_lt ga hf.2
  have hIn : inA f1 f2 A m x = (decide (rt (aA A) (f1 m) = x) || decide (rt (aA A) (f2 m) = x)) := rfl
  refine Me.of [some (rf g 71), some (.int (nI m)), some (.int (nI x))] 0 rfl pf_X8_isIn (Nat.le_of_ble_eq_true rfl) ?_
  refine wq_bload_n 1 0 dX8_isIn_0 rfl rfl rfl ?_
  refine wq_bload_n 2 0 dX8_isIn_1 rfl rfl rfl ?_
  refine wq_getR 5 fl_X8_32 dX8_isIn_2 rfl rfl o_71 (rfl : (Tb _).2.2.2 71 10 = some 78) ?_
  refine wq_bload_n 6 0 dX8_isIn_5 rfl rfl rfl ?_
  refine wq_getR 9 fl_X8_69 dX8_isIn_6 rfl rfl o_71 (rfl : (Tb _).2.2.2 71 25 = some 90) ?_
  refine wq_iload_n 10 1 dX8_isIn_9 rfl rfl rfl ?_
  refine wq_iald 11 dX8_isIn_10 rfl a_90 (Ix.nI (by omega) (by decide)) ?_
  refine wq_iald 12 dX8_isIn_11 rfl a_78 (by rw [q2]; exact Ix.nI (by omega) (by decide)) ?_
  refine cVi1 15 (sp_X8_stands h.2.2.1 ga (f1 m) q3 hf.1) ml_X8_221 mf_X8_standsFor dX8_isIn_12 rfl o_71 (by decide) rfl (Nat.le_of_ble_eq_true rfl) (by omega) ?_
  refine wq_iload_n 16 2 dX8_isIn_15 rfl rfl rfl ?_
  refine wq_ic_eq 19 38 dX8_isIn_16 rfl (by decide) (fun c16 => ?_) (fun c16 => ?_)
  · skip
    refine wq_iconst 39 1 dX8_isIn_38 rfl (by decide) ?_
    refine wq_goto 43 dX8_isIn_39 (by decide) ?_
    refine ri .boolean dX8_isIn_43 rfl rfl ?_
    have e := (nI_eq (by omega) (by omega)).mp c16
    exact ⟨by rw [hIn, decide_eq_true e]; rfl, rfl, rfl, rfl⟩
  · skip
    refine wq_bload_n 20 0 dX8_isIn_19 rfl rfl rfl ?_
    refine wq_bload_n 21 0 dX8_isIn_20 rfl rfl rfl ?_
    refine wq_getR 24 fl_X8_35 dX8_isIn_21 rfl rfl o_71 (rfl : (Tb _).2.2.2 71 11 = some 79) ?_
    refine wq_bload_n 25 0 dX8_isIn_24 rfl rfl rfl ?_
    refine wq_getR 28 fl_X8_69 dX8_isIn_25 rfl rfl o_71 (rfl : (Tb _).2.2.2 71 25 = some 90) ?_
    refine wq_iload_n 29 1 dX8_isIn_28 rfl rfl rfl ?_
    refine wq_iald 30 dX8_isIn_29 rfl a_90 (Ix.nI (by omega) (by decide)) ?_
    refine wq_iald 31 dX8_isIn_30 rfl a_79 (by rw [q2]; exact Ix.nI (by omega) (by decide)) ?_
    refine cVi1 34 (sp_X8_stands h.2.2.1 ga (f2 m) q4 hf.2) ml_X8_221 mf_X8_standsFor dX8_isIn_31 rfl o_71 (by decide) rfl (Nat.le_of_ble_eq_true rfl) (by omega) ?_
    refine wq_iload_n 35 2 dX8_isIn_34 rfl rfl rfl ?_
    refine wq_ic_ne 38 42 dX8_isIn_35 rfl (by decide) (fun c35 => ?_) (fun c35 => ?_)
    · skip
      refine wq_iconst 43 0 dX8_isIn_42 rfl (by decide) ?_
      refine ri .boolean dX8_isIn_43 rfl rfl ?_
      have e1 : ¬ rt (aA A) (f1 m) = x := fun e => c16 (by rw [e])
      have e2 : ¬ rt (aA A) (f2 m) = x := fun e => c35 (by rw [e])
      exact ⟨by rw [hIn, decide_eq_false e1, decide_eq_false e2]; rfl, rfl, rfl, rfl⟩
    · skip
      refine wq_iconst 39 1 dX8_isIn_38 rfl (by decide) ?_
      refine wq_goto 43 dX8_isIn_39 (by decide) ?_
      refine ri .boolean dX8_isIn_43 rfl rfl ?_
      have e1 : ¬ rt (aA A) (f1 m) = x := fun e => c16 (by rw [e])
      have e2 := (nI_eq (by omega) (by omega)).mp c35
      exact ⟨by rw [hIn, decide_eq_true e2, Bool.or_true]; rfl, rfl, rfl, rfl⟩
