/-! weights by their bits -/
def sgR (a d : Nat) : Nat := a / d + (if d < 2 * (a % d) ∨ (2 * (a % d) = d ∧ a / d % 2 = 1) then 1 else 0)
def sgF (d : Nat) : Nat → Nat → Nat → Nat
  | 0, a, e => e * 8388608 + sgR a d
  | f + 1, a, e => if a < d * 8388608 then sgF d f (2 * a) (e - 1) else e * 8388608 + sgR a d
def sgl (c d : Nat) : Nat := if c = 0 then 0 else sgF d 29 c 149
theorem sgF_stop {d a : Nat} (h : ¬ a < d * 8388608) (f e : Nat) : sgF d f a e = e * 8388608 + sgR a d := by
  cases f with
  | zero => rfl
  | succ f => rw [sgF, if_neg h]
theorem dbl_div {a d : Nat} (hd : 0 < d) : 2 * a / d = 2 * (a / d) + a % d * 2 / d ∧ 2 * a % d = a % d * 2 % d := by
  have h := Nat.div_add_mod a d
  have e : 2 * a = a % d * 2 + d * (2 * (a / d)) := by
    have : d * (2 * (a / d)) = 2 * (d * (a / d)) := Nat.mul_left_comm _ _ _
    omega
  constructor
  · rw [e, Nat.add_mul_div_left _ _ hd, Nat.add_comm]
  · rw [e, Nat.add_mul_mod_self_left]
theorem sub_dm (a d : Nat) : a - a / d * d = a % d := by
  have h := Nat.div_add_mod a d
  have : a / d * d = d * (a / d) := Nat.mul_comm _ _
  omega
theorem dm_le (a d : Nat) : a / d * d ≤ a := Nat.div_mul_le_self a d
set_option maxRecDepth 20000 in
set_option maxHeartbeats 2000000 in
theorem tl_X7_single {g : Gl} {D : Nat} {b : Bool} {I : IM} {L : LM} {a d e : Nat} {k0 k1 k7 : Int32} {k8 k9 k10 : Option Value} (hd : 0 < d) (hd2 : d ≤ 64) (h3 : e ≤ 149) (h4 : a < 2 ^ 30) {post : Option Value → Bool → IM → LM → Prop} (hp : post (some (.int (nI (e * 8388608 + sgR a d)))) b I L) : Wp (Kn g D MX7_singleBits post) (Tb b) 55 [some (.int k0), some (.int k1), some (.long (lN a)), none, some (.long (lN d)), none, some (.int (nI (e + 1))), some (.int k7), k8, k9, k10] [] I L := by
  have hq : a / d ≤ a := Nat.div_le_self a d
  have hm : a % d < d := Nat.mod_lt a hd
  have sh2 : lN e <<< (Int32.toInt64 23 &&& 63) = lN (e * 8388608) := wb_shl e (k := 23) (by decide)
  have J105 : ∀ w : Nat, w = sgR a d → Wp (Kn g D MX7_singleBits post) (Tb b) 105 [some (.int k0), some (.int k1), some (.long (lN a)), none, some (.long (lN d)), none, some (.int (nI (e + 1))), some (.long (lN w)), none, some (.long (lN (2 * (a % d)))), none] [] I L := by
    intro w hw
    subst hw
    refine wq_iload 107 dX7_singleBits_105 rfl rfl ?_
    refine wq_iconst 108 1 dX7_singleBits_107 rfl (by decide) ?_
    refine wq_isub 109 dX7_singleBits_108 rfl ?_
    rw [nI_pred]
    refine wq_i2l 110 dX7_singleBits_109 rfl ?_
    rw [nI_l (by omega)]
    refine wq_bipush 112 23 dX7_singleBits_110 rfl (by decide) ?_
    refine wq_lshl 113 dX7_singleBits_112 rfl ?_
    rw [sh2]
    refine wq_lload 115 dX7_singleBits_113 rfl rfl ?_
    refine wq_ladd 116 dX7_singleBits_115 rfl ?_
    rw [lN_add]
    refine wq_l2i 117 dX7_singleBits_116 rfl ?_
    rw [lN_i]
    refine ri .int dX7_singleBits_117 rfl rfl ?_
    exact hp
  refine wq_lload_n 56 2 dX7_singleBits_55 rfl rfl rfl ?_
  refine wq_lload 58 dX7_singleBits_56 rfl rfl ?_
  refine wq_ldiv 59 dX7_singleBits_58 rfl (fun z => by have := (lN_eq (b := 0) (by omega) (by decide)).mp z; omega) ?_
  rw [pk_lDiv (by omega) hd (by omega)]
  refine wq_lstore 61 [_, _, _, _, _, _, _, _, _, _, _] dX7_singleBits_59 rfl rfl (Nat.le_of_ble_eq_true rfl) rfl ?_
  refine wq_ldc2 64 (2) dX7_singleBits_61 rfl kc_X7_220 ?_
  refine wq_lload_n 65 2 dX7_singleBits_64 rfl rfl rfl ?_
  refine wq_lload 67 dX7_singleBits_65 rfl rfl ?_
  refine wq_lload 69 dX7_singleBits_67 rfl rfl ?_
  refine wq_lmul 70 dX7_singleBits_69 rfl ?_
  refine wq_lsub 71 dX7_singleBits_70 rfl ?_
  refine wq_lmul 72 dX7_singleBits_71 rfl ?_
  rw [lN_mul, lN_sub (dm_le a d), sub_dm, fa_litL 2, lN_mul]
  refine wq_lstore 74 [_, _, _, _, _, _, _, _, _, _, _] dX7_singleBits_72 rfl rfl (Nat.le_of_ble_eq_true rfl) rfl ?_
  refine wq_lload 76 dX7_singleBits_74 rfl rfl ?_
  refine wq_lload 78 dX7_singleBits_76 rfl rfl ?_
  refine wq_lcmp 79 dX7_singleBits_78 rfl ?_
  refine wq_if_gt 82 99 dX7_singleBits_79 rfl (by decide) (fun c79 => ?_) (fun c79 => ?_)
  · skip
    refine wq_lload 101 dX7_singleBits_99 rfl rfl ?_
    refine wq_lconst 102 1 dX7_singleBits_101 rfl (by decide) ?_
    refine wq_ladd 103 dX7_singleBits_102 rfl ?_
    refine wq_lstore 105 [_, _, _, _, _, _, _, _, _, _, _] dX7_singleBits_103 rfl rfl (Nat.le_of_ble_eq_true rfl) rfl ?_
    have q := (lN_lt (by omega) (by omega)).mp ((lg_cmp_gt _ _).mp c79)
    rw [fa_litL 1, lN_add]
    exact J105 _ (by rw [sgR, if_pos (Or.inl q)])
  · skip
    refine wq_lload 84 dX7_singleBits_82 rfl rfl ?_
    refine wq_lload 86 dX7_singleBits_84 rfl rfl ?_
    refine wq_lcmp 87 dX7_singleBits_86 rfl ?_
    refine wq_if_ne 90 105 dX7_singleBits_87 rfl (by decide) (fun c87 => ?_) (fun c87 => ?_)
    · skip
      have q := fun z => c79 ((lg_cmp_gt _ _).mpr ((lN_lt (by omega) (by omega)).mpr z))
      have q2 := fun z => c87 (lcmp0.mpr ((lN_eq (by omega) (by omega)).mpr z))
      exact J105 _ (by rw [sgR, if_neg (fun z => z.elim q (fun z => q2 z.1)), Nat.add_zero])
    · skip
      refine wq_lload 92 dX7_singleBits_90 rfl rfl ?_
      refine wq_lconst 93 1 dX7_singleBits_92 rfl (by decide) ?_
      refine wq_land 94 dX7_singleBits_93 rfl ?_
      rw [wb_a1 (by omega)]
      refine wq_lconst 95 0 dX7_singleBits_94 rfl (by decide) ?_
      refine wq_lcmp 96 dX7_singleBits_95 rfl ?_
      refine wq_if_eq 99 105 dX7_singleBits_96 rfl (by decide) (fun c96 => ?_) (fun c96 => ?_)
      · skip
        have q := fun z => c79 ((lg_cmp_gt _ _).mpr ((lN_lt (by omega) (by omega)).mpr z))
        have q3 := (lN_eq (b := 0) (by omega) (by decide)).mp (lcmp0.mp c96)
        exact J105 _ (by rw [sgR, if_neg (fun z => z.elim q (fun z => by omega)), Nat.add_zero])
      · skip
        refine wq_lload 101 dX7_singleBits_99 rfl rfl ?_
        refine wq_lconst 102 1 dX7_singleBits_101 rfl (by decide) ?_
        refine wq_ladd 103 dX7_singleBits_102 rfl ?_
        refine wq_lstore 105 [_, _, _, _, _, _, _, _, _, _, _] dX7_singleBits_103 rfl rfl (Nat.le_of_ble_eq_true rfl) rfl ?_
        have q2 := (lN_eq (by omega) (by omega)).mp (lcmp0.mp c87)
        have q3 : ¬ a / d % 2 = 0 := fun z => c96 (lcmp0.mpr ((lN_eq (b := 0) (by omega) (by decide)).mpr z))
        rw [fa_litL 1, lN_add]
        exact J105 _ (by rw [sgR, if_pos (Or.inr ⟨q2, by omega⟩)])
set_option maxRecDepth 20000 in
set_option maxHeartbeats 2000000 in
theorem lp_X7_single {g : Gl} {D : Nat} {b : Bool} {I : IM} {L : LM} {d : Nat} {k0 k1 : Int32} (hd : 0 < d) (hd2 : d ≤ 64) {post : Option Value → Bool → IM → LM → Prop} : ∀ f a e k k8 k9 k10, d * 8388608 ≤ a * 2 ^ f → f ≤ e → e ≤ 149 → a < 2 ^ 30 → k + f = 29 → post (some (.int (nI (sgF d f a e)))) b I L → Wp (Kn g D MX7_singleBits post) (Tb b) 25 [some (.int k0), some (.int k1), some (.long (lN a)), none, some (.long (lN d)), none, some (.int (nI (e + 1))), some (.int (nI k)), k8, k9, k10] [] I L := by
  have sh : lN d <<< (Int32.toInt64 23 &&& 63) = lN (d * 8388608) := wb_shl d (k := 23) (by decide)
  intro f
  induction f with
  | zero =>
    intro a e k k8 k9 k10 h1 h2 h3 h4 h5 hp
    have hs : ¬ a < d * 8388608 := by omega
    rw [sgF] at hp
    have J55 := hp
    clear hp h1 h2
    refine wq_iload 27 dX7_singleBits_25 rfl rfl ?_
    refine wq_bipush 29 64 dX7_singleBits_27 rfl (by decide) ?_
    refine wq_ic_ge 32 55 dX7_singleBits_29 rfl (by decide) (fun c29 => absurd c29 (nI_ge (b := 64) (by omega) (by decide))) (fun c29 => ?_)
    refine wq_lload_n 33 2 dX7_singleBits_32 rfl rfl rfl ?_
    refine wq_lload 35 dX7_singleBits_33 rfl rfl ?_
    refine wq_bipush 37 23 dX7_singleBits_35 rfl (by decide) ?_
    refine wq_lshl 38 dX7_singleBits_37 rfl ?_
    refine wq_lcmp 39 dX7_singleBits_38 rfl ?_
    refine wq_if_ge 42 55 dX7_singleBits_39 rfl (by decide) (fun c39 => ?_) (fun c39 => absurd ((lg_cmp_ge _ _).mpr (by rw [sh]; exact (lN_le (by omega) (by omega)).mpr (by omega))) c39)
    exact tl_X7_single hd hd2 h3 h4 J55
  | succ f ih =>
    intro a e k k8 k9 k10 h1 h2 h3 h4 h5 hp
    by_cases hs : a < d * 8388608
    · rw [sgF, if_pos hs] at hp
      refine wq_iload 27 dX7_singleBits_25 rfl rfl ?_
      refine wq_bipush 29 64 dX7_singleBits_27 rfl (by decide) ?_
      refine wq_ic_ge 32 55 dX7_singleBits_29 rfl (by decide) (fun c29 => absurd c29 (nI_ge (b := 64) (by omega) (by decide))) (fun c29 => ?_)
      refine wq_lload_n 33 2 dX7_singleBits_32 rfl rfl rfl ?_
      refine wq_lload 35 dX7_singleBits_33 rfl rfl ?_
      refine wq_bipush 37 23 dX7_singleBits_35 rfl (by decide) ?_
      refine wq_lshl 38 dX7_singleBits_37 rfl ?_
      refine wq_lcmp 39 dX7_singleBits_38 rfl ?_
      refine wq_if_ge 42 55 dX7_singleBits_39 rfl (by decide) (fun c39 => absurd c39 (fun z => by have z := (lg_cmp_ge _ _).mp z; rw [sh] at z; have := (lN_le (by omega) (by omega)).mp z; omega)) (fun c39 => ?_)
      refine wq_lload_n 43 2 dX7_singleBits_42 rfl rfl rfl ?_
      refine wq_iconst 44 1 dX7_singleBits_43 rfl (by decide) ?_
      refine wq_lshl 45 dX7_singleBits_44 rfl ?_
      rw [show lN a <<< (Int32.toInt64 1 &&& 63) = lN (a * 2) from wb_shl a (k := 1) (by decide)]
      refine wq_lstore_n 46 2 [_, _, _, _, _, _, _, _, _, _, _] dX7_singleBits_45 rfl rfl rfl (Nat.le_of_ble_eq_true rfl) rfl ?_
      refine wq_iinc 49 (nI (e - 1 + 1)) [_, _, _, _, _, _, _, _, _, _, _] dX7_singleBits_46 rfl rfl (by rw [show e - 1 + 1 = e by omega]; exact pk_m1 e) rfl (Nat.le_of_ble_eq_true rfl) rfl ?_
      refine wq_iinc 52 (_ + 1) [_, _, _, _, _, _, _, _, _, _, _] dX7_singleBits_49 rfl rfl (inc1 _) rfl (Nat.le_of_ble_eq_true rfl) rfl ?_
      refine wq_goto 25 dX7_singleBits_52 (by decide) ?_
      rw [← nI_succ, Nat.mul_comm a 2]
      exact ih (2 * a) (e - 1) (k + 1) _ _ _ (by rw [Nat.pow_succ] at h1; rw [Nat.mul_comm 2 a, Nat.mul_assoc, Nat.mul_comm 2]; exact h1) (by omega) (by omega) (by omega) (by omega) hp
    · rw [sgF_stop hs] at hp
      refine wq_iload 27 dX7_singleBits_25 rfl rfl ?_
      refine wq_bipush 29 64 dX7_singleBits_27 rfl (by decide) ?_
      refine wq_ic_ge 32 55 dX7_singleBits_29 rfl (by decide) (fun c29 => absurd c29 (nI_ge (b := 64) (by omega) (by decide))) (fun c29 => ?_)
      refine wq_lload_n 33 2 dX7_singleBits_32 rfl rfl rfl ?_
      refine wq_lload 35 dX7_singleBits_33 rfl rfl ?_
      refine wq_bipush 37 23 dX7_singleBits_35 rfl (by decide) ?_
      refine wq_lshl 38 dX7_singleBits_37 rfl ?_
      refine wq_lcmp 39 dX7_singleBits_38 rfl ?_
      refine wq_if_ge 42 55 dX7_singleBits_39 rfl (by decide) (fun c39 => ?_) (fun c39 => absurd ((lg_cmp_ge _ _).mpr (by rw [sh]; exact (lN_le (by omega) (by omega)).mpr (by omega))) c39)
      exact tl_X7_single hd hd2 h3 h4 hp
set_option maxRecDepth 20000 in
theorem sp_X7_single {g : Gl} {D : Nat} {b : Bool} {I : IM} {L : LM} {c d : Nat} (hc : c < 2 ^ 30) (hd : 0 < d) (hd2 : d ≤ 64) {x y : Int32} (hx : x = nI c) (hy : y = nI d) : Md g D MX7_singleBits [.int x, .int y] b I L (some (.int (nI (sgl c d)))) b I L := by
  subst hx hy
  refine Me.of [some (.int (nI c)), some (.int (nI d)), none, none, none, none, none, none, none, none, none] 9 rfl pf_X7_singleBits (Nat.le_of_ble_eq_true rfl) ?_
  refine wq_iload_n 1 0 dX7_singleBits_0 rfl rfl rfl ?_
  refine wq_if_le 4 8 dX7_singleBits_1 rfl (by decide) (fun c1 => ?_) (fun c1 => ?_)
  · skip
    refine wq_iconst 9 0 dX7_singleBits_8 rfl (by decide) ?_
    refine ri .int dX7_singleBits_9 rfl rfl ?_
    have q : c = 0 := Decidable.byContradiction (fun z => nI_nle (n := c) (by omega) (by omega) c1)
    exact ⟨by rw [sgl, if_pos q]; rfl, rfl, rfl, rfl⟩
  · skip
    refine wq_iload_n 5 1 dX7_singleBits_4 rfl rfl rfl ?_
    refine wq_if_gt 8 10 dX7_singleBits_5 rfl (by decide) (fun c5 => ?_) (fun c5 => absurd (nI_lt (a := 0) hd (by omega)) c5)
    refine wq_iload_n 11 0 dX7_singleBits_10 rfl rfl rfl ?_
    refine wq_i2l 12 dX7_singleBits_11 rfl ?_
    rw [nI_l (by omega)]
    refine wq_lstore_n 13 2 [_, _, _, _, _, _, _, _, _, _, _] dX7_singleBits_12 rfl rfl rfl (Nat.le_of_ble_eq_true rfl) rfl ?_
    refine wq_iload_n 14 1 dX7_singleBits_13 rfl rfl rfl ?_
    refine wq_i2l 15 dX7_singleBits_14 rfl ?_
    rw [nI_l (by omega)]
    refine wq_lstore 17 [_, _, _, _, _, _, _, _, _, _, _] dX7_singleBits_15 rfl rfl (Nat.le_of_ble_eq_true rfl) rfl ?_
    refine wq_sipush 20 150 dX7_singleBits_17 rfl (by decide) ?_
    refine wq_istore 22 [_, _, _, _, _, _, _, _, _, _, _] dX7_singleBits_20 rfl rfl (Nat.le_of_ble_eq_true rfl) rfl ?_
    refine wq_iconst 23 0 dX7_singleBits_22 rfl (by decide) ?_
    refine wq_istore 25 [_, _, _, _, _, _, _, _, _, _, _] dX7_singleBits_23 rfl rfl (Nat.le_of_ble_eq_true rfl) rfl ?_
    have q : ¬ c = 0 := fun z => c1 (by rw [z]; decide)
    exact lp_X7_single hd hd2 29 c 149 0 _ _ _ (by omega) (by omega) (by omega) hc (by omega) ⟨by rw [sgl, if_neg q], rfl, rfl, rfl⟩
theorem one_by : ∀ d, d ≤ 64 → (if (1 : Int32) < nI d then nI d else 1) = nI (max 1 d) := by decide
/-- the weight, by the way to weigh -/
def wgt (way c d : Nat) : Nat := if way = 0 then sgl c (max 1 d) else if way = 1 then sgl c 1 else sgl 1 (max 1 d)
theorem mx1 {d : Nat} : 0 < max 1 d := by omega
set_option maxRecDepth 20000 in
theorem sp_X7_weightBits {g : Gl} {D : Nat} {b : Bool} {I : IM} {L : LM} {w c d : Nat} (hD : 1 ≤ D) (hw : w < 3) (hc : c < 2 ^ 30) (hd : d ≤ 64) {t x y : Int32} (ht : t = nI w) (hx : x = nI c) (hy : y = nI d) : Md g D MX7_weightBits [.int t, .int x, .int y] b I L (some (.int (nI (wgt w c d)))) b I L := by
  subst ht hx hy
  have hm : max 1 d ≤ 64 := by omega
  refine Me.of [some (.int (nI w)), some (.int (nI c)), some (.int (nI d)), none] 1 rfl pf_X7_weightBits (Nat.le_of_ble_eq_true rfl) ?_
  refine wq_iconst 1 1 dX7_weightBits_0 rfl (by decide) ?_
  refine wq_iload_n 2 2 dX7_weightBits_1 rfl rfl rfl ?_
  refine cSi2 5 (sp_J9_max_7cf53 _ _) ml_X7_212 mf_J9_max_7cf53 dX7_weightBits_2 rfl (Nat.le_of_ble_eq_true rfl) (by omega) ?_
  rw [maxI, one_by d hd]
  refine wq_istore_n 6 3 [_, _, _, _] dX7_weightBits_5 rfl rfl rfl (Nat.le_of_ble_eq_true rfl) rfl ?_
  refine wq_iload_n 7 0 dX7_weightBits_6 rfl rfl rfl ?_
  have h3 : w = 0 ∨ w = 1 ∨ w = 2 := by omega
  rcases h3 with rfl | rfl | rfl
  · refine wq_look 32 dX7_weightBits_7 (by decide) rfl (by decide) ?_
    refine wq_iload_n 33 1 dX7_weightBits_32 rfl rfl rfl ?_
    refine wq_iload_n 34 3 dX7_weightBits_33 rfl rfl rfl ?_
    refine cSi2 37 (sp_X7_single hc mx1 hm rfl rfl) ml_X7_217 mf_X7_singleBits dX7_weightBits_34 rfl (Nat.le_of_ble_eq_true rfl) (by omega) ?_
    refine ri .int dX7_weightBits_37 rfl rfl ?_
    exact ⟨by rw [wgt, if_pos rfl], rfl, rfl, rfl⟩
  · refine wq_look 38 dX7_weightBits_7 (by decide) rfl (by decide) ?_
    refine wq_iload_n 39 1 dX7_weightBits_38 rfl rfl rfl ?_
    refine wq_iconst 40 1 dX7_weightBits_39 rfl (by decide) ?_
    refine cSi2 43 (sp_X7_single (d := 1) hc (by omega) (by omega) rfl rfl) ml_X7_217 mf_X7_singleBits dX7_weightBits_40 rfl (Nat.le_of_ble_eq_true rfl) (by omega) ?_
    refine ri .int dX7_weightBits_43 rfl rfl ?_
    exact ⟨by rw [wgt, if_neg (by decide), if_pos rfl], rfl, rfl, rfl⟩
  · refine wq_look 44 dX7_weightBits_7 (by decide) rfl (by decide) ?_
    refine wq_iconst 45 1 dX7_weightBits_44 rfl (by decide) ?_
    refine wq_iload_n 46 3 dX7_weightBits_45 rfl rfl rfl ?_
    refine cSi2 49 (sp_X7_single (c := 1) (by omega) mx1 hm rfl rfl) ml_X7_217 mf_X7_singleBits dX7_weightBits_46 rfl (Nat.le_of_ble_eq_true rfl) (by omega) ?_
    refine ri .int dX7_weightBits_49 rfl rfl ?_
    exact ⟨by rw [wgt, if_neg (by decide), if_neg (by decide)], rfl, rfl, rfl⟩
set_option maxRecDepth 20000 in
set_option maxHeartbeats 2000000 in
theorem tl_X8_single {g : Gl} {D : Nat} {b : Bool} {I : IM} {L : LM} {a d e : Nat} {k0 pw : Int32} (hd : 0 < d) (hd2 : d ≤ 64) (h4 : a < 2 ^ 30) (hP : pw + 150 = nI (e + 1)) {post : Option Value → Bool → IM → LM → Prop} (hp : post (some (.int (nI (e * 8388608 + sgR a d)))) b I L) : Wp (Kn g D MX8_single post) (Tb b) 61 [some (.int k0), some (.int (nI d)), some (.long (lN (a / d))), none, some (.long (lN (a % d))), none, some (.int pw)] [] I L := by
  have hq : a / d ≤ a := Nat.div_le_self a d
  have hm : a % d < d := Nat.mod_lt a hd
  have J99 : ∀ w : Nat, w = sgR a d → w ≤ a + 1 → Wp (Kn g D MX8_single post) (Tb b) 99 [some (.int k0), some (.int (nI d)), some (.long (lN w)), none, some (.long (lN (a % d))), none, some (.int pw)] [] I L := by
    intro w hw hwa
    rw [← hw] at hp
    by_cases hb : w = 16777216
    · skip
      refine wq_lload_n 100 2 dX8_single_99 rfl rfl rfl ?_
      refine wq_ldc2 103 (16777216) dX8_single_100 rfl kc_X8_187 ?_
      refine wq_lcmp 104 dX8_single_103 rfl ?_
      refine wq_if_ne 107 116 dX8_single_104 rfl (by decide) (fun c104 => absurd c104 (fun z => z (lcmp0.mpr (by rw [hb]; rfl)))) (fun c104 => ?_)
      refine wq_lload_n 108 2 dX8_single_107 rfl rfl rfl ?_
      refine wq_ldc2 111 (2) dX8_single_108 rfl kc_X8_185 ?_
      refine wq_ldiv 112 dX8_single_111 rfl (by decide) ?_
      rw [fa_litL 2, pk_lDiv (by omega) (by omega) (by omega), hb]
      refine wq_lstore_n 113 2 [_, _, _, _, _, _, _] dX8_single_112 rfl rfl rfl (Nat.le_of_ble_eq_true rfl) rfl ?_
      refine wq_iinc 116 (_ + 1) [_, _, _, _, _, _, _] dX8_single_113 rfl rfl (inc1 _) rfl (Nat.le_of_ble_eq_true rfl) rfl ?_
      refine wq_iload 118 dX8_single_116 rfl rfl ?_
      refine wq_sipush 121 150 dX8_single_118 rfl (by decide) ?_
      refine wq_iadd 122 dX8_single_121 rfl ?_
      rw [Int32.add_assoc, Int32.add_comm 1 150, ← Int32.add_assoc, hP, nI_1]
      refine wq_ldc 124 (8388608) dX8_single_122 rfl kc_X8_189 ?_
      refine wq_imul 125 dX8_single_124 rfl ?_
      refine wq_lload_n 126 2 dX8_single_125 rfl rfl rfl ?_
      refine wq_l2i 127 dX8_single_126 rfl ?_
      rw [lN_i]
      refine wq_iadd 128 dX8_single_127 rfl ?_
      refine wq_ldc 130 (8388608) dX8_single_128 rfl kc_X8_189 ?_
      refine wq_isub 131 dX8_single_130 rfl ?_
      rw [fa_lit 8388608, pk_mul, nI_add, pk_sub (by omega)]
      refine ri .int dX8_single_131 rfl rfl ?_
      rw [hb] at hp
      rw [show (e + 1 + 1) * 8388608 + 16777216 / 2 - 8388608 = e * 8388608 + 16777216 by omega]
      exact hp
    · skip
      refine wq_lload_n 100 2 dX8_single_99 rfl rfl rfl ?_
      refine wq_ldc2 103 (16777216) dX8_single_100 rfl kc_X8_187 ?_
      refine wq_lcmp 104 dX8_single_103 rfl ?_
      refine wq_if_ne 107 116 dX8_single_104 rfl (by decide) (fun c104 => ?_) (fun c104 => absurd c104 (fun z => hb ((lN_eq (b := 16777216) (by omega) (by decide)).mp (lcmp0.mp z))))
      refine wq_iload 118 dX8_single_116 rfl rfl ?_
      refine wq_sipush 121 150 dX8_single_118 rfl (by decide) ?_
      refine wq_iadd 122 dX8_single_121 rfl ?_
      rw [hP]
      refine wq_ldc 124 (8388608) dX8_single_122 rfl kc_X8_189 ?_
      refine wq_imul 125 dX8_single_124 rfl ?_
      refine wq_lload_n 126 2 dX8_single_125 rfl rfl rfl ?_
      refine wq_l2i 127 dX8_single_126 rfl ?_
      rw [lN_i]
      refine wq_iadd 128 dX8_single_127 rfl ?_
      refine wq_ldc 130 (8388608) dX8_single_128 rfl kc_X8_189 ?_
      refine wq_isub 131 dX8_single_130 rfl ?_
      rw [fa_lit 8388608, pk_mul, nI_add, pk_sub (by omega)]
      refine ri .int dX8_single_131 rfl rfl ?_
      rw [show (e + 1) * 8388608 + w - 8388608 = e * 8388608 + w by omega]
      exact hp
  refine wq_ldc2 64 (2) dX8_single_61 rfl kc_X8_185 ?_
  refine wq_lload 66 dX8_single_64 rfl rfl ?_
  refine wq_lmul 67 dX8_single_66 rfl ?_
  refine wq_iload_n 68 1 dX8_single_67 rfl rfl rfl ?_
  refine wq_i2l 69 dX8_single_68 rfl ?_
  rw [nI_l (by omega), fa_litL 2, lN_mul]
  refine wq_lcmp 70 dX8_single_69 rfl ?_
  refine wq_if_gt 73 95 dX8_single_70 rfl (by decide) (fun c70 => ?_) (fun c70 => ?_)
  · skip
    refine wq_lload_n 96 2 dX8_single_95 rfl rfl rfl ?_
    refine wq_lconst 97 1 dX8_single_96 rfl (by decide) ?_
    refine wq_ladd 98 dX8_single_97 rfl ?_
    refine wq_lstore_n 99 2 [_, _, _, _, _, _, _] dX8_single_98 rfl rfl rfl (Nat.le_of_ble_eq_true rfl) rfl ?_
    have q := (lN_lt (by omega) (by omega)).mp ((lg_cmp_gt _ _).mp c70)
    rw [fa_litL 1, lN_add]
    exact J99 _ (by rw [sgR, if_pos (Or.inl q)]) (by omega)
  · skip
    refine wq_ldc2 76 (2) dX8_single_73 rfl kc_X8_185 ?_
    refine wq_lload 78 dX8_single_76 rfl rfl ?_
    refine wq_lmul 79 dX8_single_78 rfl ?_
    refine wq_iload_n 80 1 dX8_single_79 rfl rfl rfl ?_
    refine wq_i2l 81 dX8_single_80 rfl ?_
    rw [nI_l (by omega), fa_litL 2, lN_mul]
    refine wq_lcmp 82 dX8_single_81 rfl ?_
    refine wq_if_ne 85 99 dX8_single_82 rfl (by decide) (fun c82 => ?_) (fun c82 => ?_)
    · skip
      have q := fun z => c70 ((lg_cmp_gt _ _).mpr ((lN_lt (by omega) (by omega)).mpr z))
      have q2 := fun z => c82 (lcmp0.mpr ((lN_eq (by omega) (by omega)).mpr z))
      exact J99 _ (by rw [sgR, if_neg (fun z => z.elim q (fun z => q2 z.1)), Nat.add_zero]) (by omega)
    · skip
      refine wq_lload_n 86 2 dX8_single_85 rfl rfl rfl ?_
      refine wq_ldc2 89 (2) dX8_single_86 rfl kc_X8_185 ?_
      refine wq_lrem 90 dX8_single_89 rfl (by decide) ?_
      rw [fa_litL 2, pk_lRem (by omega) (by omega) (by omega)]
      refine wq_lconst 91 1 dX8_single_90 rfl (by decide) ?_
      refine wq_lcmp 92 dX8_single_91 rfl ?_
      refine wq_if_ne 95 99 dX8_single_92 rfl (by decide) (fun c92 => ?_) (fun c92 => ?_)
      · skip
        have q := fun z => c70 ((lg_cmp_gt _ _).mpr ((lN_lt (by omega) (by omega)).mpr z))
        have q3 : ¬ a / d % 2 = 1 := fun z => c92 (lcmp0.mpr ((lN_eq (b := 1) (by omega) (by decide)).mpr z))
        exact J99 _ (by rw [sgR, if_neg (fun z => z.elim q (fun z => q3 z.2)), Nat.add_zero]) (by omega)
      · skip
        refine wq_lload_n 96 2 dX8_single_95 rfl rfl rfl ?_
        refine wq_lconst 97 1 dX8_single_96 rfl (by decide) ?_
        refine wq_ladd 98 dX8_single_97 rfl ?_
        refine wq_lstore_n 99 2 [_, _, _, _, _, _, _] dX8_single_98 rfl rfl rfl (Nat.le_of_ble_eq_true rfl) rfl ?_
        have q2 := (lN_eq (by omega) (by omega)).mp (lcmp0.mp c82)
        have q3 := (lN_eq (b := 1) (by omega) (by decide)).mp (lcmp0.mp c92)
        rw [fa_litL 1, lN_add]
        exact J99 _ (by rw [sgR, if_pos (Or.inr ⟨q2, q3⟩)]) (by omega)
set_option maxRecDepth 20000 in
set_option maxHeartbeats 2000000 in
theorem lp_X8_single {g : Gl} {D : Nat} {b : Bool} {I : IM} {L : LM} {d : Nat} {k0 : Int32} (hd : 0 < d) (hd2 : d ≤ 64) {post : Option Value → Bool → IM → LM → Prop} : ∀ f a e pw, d * 8388608 ≤ a * 2 ^ f → f ≤ e → a < 2 ^ 30 → pw + 150 = nI (e + 1) → post (some (.int (nI (sgF d f a e)))) b I L → Wp (Kn g D MX8_single post) (Tb b) 20 [some (.int k0), some (.int (nI d)), some (.long (lN (a / d))), none, some (.long (lN (a % d))), none, some (.int pw)] [] I L := by
  intro f
  induction f with
  | zero =>
    intro a e pw h1 h2 h4 hP hp
    have hs : ¬ a < d * 8388608 := by omega
    have hq : a / d ≤ a := Nat.div_le_self a d
    have hs2 : 8388608 ≤ a / d := (Nat.le_div_iff_mul_le hd).mpr (by omega)
    rw [sgF] at hp
    refine wq_lload_n 21 2 dX8_single_20 rfl rfl rfl ?_
    refine wq_ldc2 24 (8388608) dX8_single_21 rfl kc_X8_183 ?_
    refine wq_lcmp 25 dX8_single_24 rfl ?_
    refine wq_if_ge 28 61 dX8_single_25 rfl (by decide) (fun c25 => ?_) (fun c25 => absurd ((lg_cmp_ge _ _).mpr ((lN_le (a := 8388608) (by decide) (by omega)).mpr hs2)) c25)
    exact tl_X8_single hd hd2 h4 hP hp
  | succ f ih =>
    intro a e pw h1 h2 h4 hP hp
    have hq : a / d ≤ a := Nat.div_le_self a d
    have hm : a % d < d := Nat.mod_lt a hd
    by_cases hs : a < d * 8388608
    · rw [sgF, if_pos hs] at hp
      have hs2 : a / d < 8388608 := (Nat.div_lt_iff_lt_mul hd).mpr (by omega)
      obtain ⟨w1, w2⟩ := dbl_div (a := a) hd
      refine wq_lload_n 21 2 dX8_single_20 rfl rfl rfl ?_
      refine wq_ldc2 24 (8388608) dX8_single_21 rfl kc_X8_183 ?_
      refine wq_lcmp 25 dX8_single_24 rfl ?_
      refine wq_if_ge 28 61 dX8_single_25 rfl (by decide) (fun c25 => absurd c25 (fun z => by have z := (lN_le (a := 8388608) (by decide) (by omega)).mp ((lg_cmp_ge _ _).mp z); omega)) (fun c25 => ?_)
      refine wq_lload 30 dX8_single_28 rfl rfl ?_
      refine wq_ldc2 33 (2) dX8_single_30 rfl kc_X8_185 ?_
      refine wq_lmul 34 dX8_single_33 rfl ?_
      rw [fa_litL 2, lN_mul]
      refine wq_lstore 36 [_, _, _, _, _, _, _] dX8_single_34 rfl rfl (Nat.le_of_ble_eq_true rfl) rfl ?_
      refine wq_ldc2 39 (2) dX8_single_36 rfl kc_X8_185 ?_
      refine wq_lload_n 40 2 dX8_single_39 rfl rfl rfl ?_
      refine wq_lmul 41 dX8_single_40 rfl ?_
      refine wq_lload 43 dX8_single_41 rfl rfl ?_
      refine wq_iload_n 44 1 dX8_single_43 rfl rfl rfl ?_
      refine wq_i2l 45 dX8_single_44 rfl ?_
      refine wq_ldiv 46 dX8_single_45 rfl (fun z => by rw [nI_l (by omega)] at z; have := (lN_eq (b := 0) (by omega) (by decide)).mp z; omega) ?_
      refine wq_ladd 47 dX8_single_46 rfl ?_
      rw [nI_l (by omega), pk_lDiv (by omega) hd (by omega), fa_litL 2, lN_mul, lN_add, ← w1]
      refine wq_lstore_n 48 2 [_, _, _, _, _, _, _] dX8_single_47 rfl rfl rfl (Nat.le_of_ble_eq_true rfl) rfl ?_
      refine wq_lload 50 dX8_single_48 rfl rfl ?_
      refine wq_iload_n 51 1 dX8_single_50 rfl rfl rfl ?_
      refine wq_i2l 52 dX8_single_51 rfl ?_
      refine wq_lrem 53 dX8_single_52 rfl (fun z => by rw [nI_l (by omega)] at z; have := (lN_eq (b := 0) (by omega) (by decide)).mp z; omega) ?_
      rw [nI_l (by omega), pk_lRem (by omega) hd (by omega), ← w2]
      refine wq_lstore 55 [_, _, _, _, _, _, _] dX8_single_53 rfl rfl (Nat.le_of_ble_eq_true rfl) rfl ?_
      refine wq_iinc 58 (_ + (-1)) [_, _, _, _, _, _, _] dX8_single_55 rfl rfl (decm1 _) rfl (Nat.le_of_ble_eq_true rfl) rfl ?_
      refine wq_goto 20 dX8_single_58 (by decide) ?_
      exact ih (2 * a) (e - 1) _ (by rw [Nat.pow_succ] at h1; rw [Nat.mul_comm 2 a, Nat.mul_assoc, Nat.mul_comm 2]; exact h1) (by omega) (by omega) (by rw [Int32.add_assoc, Int32.add_comm (-1) 150, ← Int32.add_assoc, hP, pk_m1, show e - 1 + 1 = e by omega]) hp
    · rw [sgF_stop hs] at hp
      have hs2 : 8388608 ≤ a / d := (Nat.le_div_iff_mul_le hd).mpr (by omega)
      refine wq_lload_n 21 2 dX8_single_20 rfl rfl rfl ?_
      refine wq_ldc2 24 (8388608) dX8_single_21 rfl kc_X8_183 ?_
      refine wq_lcmp 25 dX8_single_24 rfl ?_
      refine wq_if_ge 28 61 dX8_single_25 rfl (by decide) (fun c25 => ?_) (fun c25 => absurd ((lg_cmp_ge _ _).mpr ((lN_le (a := 8388608) (by decide) (by omega)).mpr hs2)) c25)
      exact tl_X8_single hd hd2 h4 hP hp
set_option maxRecDepth 20000 in
theorem sp_X8_single {g : Gl} {D : Nat} {b : Bool} {I : IM} {L : LM} {c d : Nat} (hc : c < 2 ^ 30) (hd : 0 < d) (hd2 : d ≤ 64) {x y : Int32} (hx : x = nI c) (hy : y = nI d) : Md g D MX8_single [.int x, .int y] b I L (some (.int (nI (sgl c d)))) b I L := by
  subst hx hy
  have hq : c / d ≤ c := Nat.div_le_self c d
  have hm : c % d < d := Nat.mod_lt c hd
  have hz : ¬ nI d = 0 := nI_ne0 hd (by omega)
  refine Me.of [some (.int (nI c)), some (.int (nI d)), none, none, none, none, none] 5 rfl pf_X8_single (Nat.le_of_ble_eq_true rfl) ?_
  refine wq_iload_n 1 0 dX8_single_0 rfl rfl rfl ?_
  refine wq_if_ne 4 6 dX8_single_1 rfl (by decide) (fun c1 => ?_) (fun c1 => ?_)
  · skip
    refine wq_iload_n 7 0 dX8_single_6 rfl rfl rfl ?_
    refine wq_iload_n 8 1 dX8_single_7 rfl rfl rfl ?_
    refine wq_idiv 9 dX8_single_8 rfl hz ?_
    rw [pk_div (by omega) hd (by omega)]
    refine wq_i2l 10 dX8_single_9 rfl ?_
    rw [nI_l (by omega)]
    refine wq_lstore_n 11 2 [_, _, _, _, _, _, _] dX8_single_10 rfl rfl rfl (Nat.le_of_ble_eq_true rfl) rfl ?_
    refine wq_iload_n 12 0 dX8_single_11 rfl rfl rfl ?_
    refine wq_iload_n 13 1 dX8_single_12 rfl rfl rfl ?_
    refine wq_irem 14 dX8_single_13 rfl hz ?_
    rw [pk_rem (by omega) hd (by omega)]
    refine wq_i2l 15 dX8_single_14 rfl ?_
    rw [nI_l (by omega)]
    refine wq_lstore 17 [_, _, _, _, _, _, _] dX8_single_15 rfl rfl (Nat.le_of_ble_eq_true rfl) rfl ?_
    refine wq_iconst 18 0 dX8_single_17 rfl (by decide) ?_
    refine wq_istore 20 [_, _, _, _, _, _, _] dX8_single_18 rfl rfl (Nat.le_of_ble_eq_true rfl) rfl ?_
    have q : ¬ c = 0 := fun z => c1 (by rw [z]; rfl)
    exact lp_X8_single hd hd2 29 c 149 0 (by omega) (by omega) hc rfl ⟨by rw [sgl, if_neg q], rfl, rfl, rfl⟩
  · skip
    refine wq_iconst 5 0 dX8_single_4 rfl (by decide) ?_
    refine ri .int dX8_single_5 rfl rfl ?_
    have q : c = 0 := Decidable.byContradiction (fun z => nI_ne0 (n := c) (by omega) (by omega) c1)
    exact ⟨by rw [sgl, if_pos q]; rfl, rfl, rfl, rfl⟩
set_option maxRecDepth 20000 in
theorem sp_X8_weigh {g : Gl} {D : Nat} {b : Bool} {I : IM} {L : LM} {w c d : Nat} (hD : 1 ≤ D) (hw : w < 3) (hI : I 71 1 = nI w) (hc : c < 2 ^ 30) (hd : d ≤ 64) {x y : Int32} (hx : x = nI c) (hy : y = nI d) : Md g D MX8_weigh [rf g 71, .int x, .int y] b I L (some (.int (nI (wgt w c d)))) b I L := by
  subst hx hy
  have hm : max 1 d ≤ 64 := by omega
  refine Me.of [some (rf g 71), some (.int (nI c)), some (.int (nI d)), none] 1 rfl pf_X8_weigh (Nat.le_of_ble_eq_true rfl) ?_
  have J9 : ∀ t : Int32, t = nI (max 1 d) → Wp (Kd g D MX8_weigh (some (.int (nI (wgt w c d)))) b I L) (Tb b) 9 [some (rf g 71), some (.int (nI c)), some (.int (nI d)), none] [.int t] I L := by
    intro t ht
    subst ht
    refine wq_istore_n 10 3 [_, _, _, _] dX8_weigh_9 rfl rfl rfl (Nat.le_of_ble_eq_true rfl) rfl ?_
    refine wq_bload_n 11 0 dX8_weigh_10 rfl rfl rfl ?_
    refine wq_getI 14 fl_X8_117 dX8_weigh_11 rfl rfl o_71 ?_
    rw [hI]
    refine wq_if_ne 17 25 dX8_weigh_14 rfl (by decide) (fun c14 => ?_) (fun c14 => ?_)
    · skip
      refine wq_bload_n 26 0 dX8_weigh_25 rfl rfl rfl ?_
      refine wq_getI 29 fl_X8_117 dX8_weigh_26 rfl rfl o_71 ?_
      rw [hI]
      refine wq_iconst 30 1 dX8_weigh_29 rfl (by decide) ?_
      refine wq_ic_ne 33 41 dX8_weigh_30 rfl (by decide) (fun c30 => ?_) (fun c30 => ?_)
      · skip
        refine wq_iconst 42 1 dX8_weigh_41 rfl (by decide) ?_
        refine wq_iload_n 43 3 dX8_weigh_42 rfl rfl rfl ?_
        refine cSi2 46 (sp_X8_single (c := 1) (by omega) mx1 hm rfl rfl) ml_X8_190 mf_X8_single dX8_weigh_43 rfl (Nat.le_of_ble_eq_true rfl) (by omega) ?_
        refine ri .int dX8_weigh_46 rfl rfl ?_
        have q : ¬ w = 1 := fun z => c30 (by rw [z]; rfl)
        have q0 : ¬ w = 0 := fun z => c14 (by rw [z]; rfl)
        exact ⟨by rw [wgt, if_neg q0, if_neg q], rfl, rfl, rfl⟩
      · skip
        refine wq_iload_n 34 1 dX8_weigh_33 rfl rfl rfl ?_
        refine wq_iconst 35 1 dX8_weigh_34 rfl (by decide) ?_
        refine cSi2 38 (sp_X8_single (d := 1) hc (by omega) (by omega) rfl rfl) ml_X8_190 mf_X8_single dX8_weigh_35 rfl (Nat.le_of_ble_eq_true rfl) (by omega) ?_
        refine wq_goto 46 dX8_weigh_38 (by decide) ?_
        refine ri .int dX8_weigh_46 rfl rfl ?_
        have q : w = 1 := (nI_eq (b := 1) (by omega) (by decide)).mp c30
        exact ⟨by rw [wgt, if_neg (by omega), if_pos q], rfl, rfl, rfl⟩
    · skip
      refine wq_iload_n 18 1 dX8_weigh_17 rfl rfl rfl ?_
      refine wq_iload_n 19 3 dX8_weigh_18 rfl rfl rfl ?_
      refine cSi2 22 (sp_X8_single hc mx1 hm rfl rfl) ml_X8_190 mf_X8_single dX8_weigh_19 rfl (Nat.le_of_ble_eq_true rfl) (by omega) ?_
      refine wq_goto 46 dX8_weigh_22 (by decide) ?_
      refine ri .int dX8_weigh_46 rfl rfl ?_
      have q : w = 0 := (nI_eq (b := 0) (by omega) (by decide)).mp c14
      exact ⟨by rw [wgt, if_pos q], rfl, rfl, rfl⟩
  refine wq_iload_n 1 2 dX8_weigh_0 rfl rfl rfl ?_
  refine wq_if_ne 4 8 dX8_weigh_1 rfl (by decide) (fun c1 => ?_) (fun c1 => ?_)
  · skip
    refine wq_iload_n 9 2 dX8_weigh_8 rfl rfl rfl ?_
    exact J9 _ (by rw [show max 1 d = d by have : ¬ d = 0 := fun z => c1 (by rw [z]; rfl); omega])
  · skip
    refine wq_iconst 5 1 dX8_weigh_4 rfl (by decide) ?_
    refine wq_goto 9 dX8_weigh_5 (by decide) ?_
    exact J9 _ (by have : d = 0 := (nI_eq (b := 0) (by omega) (by decide)).mp c1; rw [this]; rfl)
