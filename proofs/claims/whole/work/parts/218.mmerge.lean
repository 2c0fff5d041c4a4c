/-! the reference's round: merge -/
/-- what the reference's round may change -/
def FM (I : IM) (L : LM) (I' : IM) (L' : LM) : Prop := (∀ x, x ∉ [71, 88, 89, 91, 92, 95] → I' x = I x) ∧ (∀ z, z ∉ [30, 33] → I' 71 z = I 71 z) ∧ (∀ x, x ∉ [71, 87, 93] → L' x = L x) ∧ ∀ z, z ≠ 24 → L' 71 z = L 71 z
theorem FM.refl (I : IM) (L : LM) : FM I L I L := ⟨fun _ _ => rfl, fun _ _ => rfl, fun _ _ => rfl, fun _ _ => rfl⟩
theorem FM.trans {I I' I'' : IM} {L L' L'' : LM} (h : FM I L I' L') (h' : FM I' L' I'' L'') : FM I L I'' L'' := ⟨fun x hx => (h'.1 x hx).trans (h.1 x hx), fun x hx => (h'.2.1 x hx).trans (h.2.1 x hx), fun x hx => (h'.2.2.1 x hx).trans (h.2.2.1 x hx), fun x hx => (h'.2.2.2 x hx).trans (h.2.2.2 x hx)⟩
def mgE1 (E : Nat → Int64) (x y : Nat) : Nat → Int64 := va_up E x (E x ||| E y)
def mgE (E : Nat → Int64) (x y t : Nat) : Int64 := if tb (E y) t = true then (mgE1 E x y t ||| one (nI x)) &&& noB y else mgE1 E x y t
theorem mg_row {mv t x y : Nat} {f1 f2 : Nat → Nat} {A : RA} (hg : GA mv t f1 f2 A) {E : Nat → Int64} (hE : ∀ x, x < 64 → tb (aL A) x = true → E x &&& aL A = aN A x) (hx : x < 64) (hy : y < 64) (hxy : x < y) (hxl : tb (aL A) x = true) (hyl : tb (aL A) y = true) (hn : tb (aN A x) y = false) {E' : Nat → Int64} (hE' : ∀ n, n < 64 → E' n = va_up (mgE E x y) x (mgE E x y x &&& noB x) n) {z : Nat} (hz : z < 64) (hzl : tb (aL A) z = true) (hzy : z ≠ y) : E' z &&& (aL A &&& noB y) = aN (mergeA A x y) z := by
  have gs := hg.2.2.2.2.2.1
  have hyx : tb (aN A y) x = false := Bool.eq_false_iff.mpr (fun c => by
    have := (gs y hy hyl x hx c).2.2
    rw [hn] at this; cases this)
  have hyy : tb (aN A y) y = false := Bool.eq_false_iff.mpr (fun c => (gs y hy hyl y hy c).2.1 rfl)
  have hxx : tb (aN A x) x = false := Bool.eq_false_iff.mpr (fun c => (gs x hx hxl x hx c).2.1 rfl)
  have bit : ∀ a, a < 64 → tb (aL A) a = true → ∀ j, (tb (E a) j && tb (aL A) j) = tb (aN A a) j := fun a ha hl j => by rw [← tb_and, hE a ha hl]
  have eyz : tb (E y) z = tb (aN A y) z := by rw [← bit y hy hyl z, hzl, Bool.and_true]
  have eyx : tb (E y) x = tb (aN A y) x := by rw [← bit y hy hyl x, hxl, Bool.and_true]
  rw [hE' z hz]
  show _ = va_up (mrgN (aN A) x y) x (mrgN (aN A) x y x ||| mrgN (aN A) x y y) z
  by_cases e : z = x
  · subst e
    rw [va_up_self, va_up_self, mgE, eyx, hyx, if_neg (by decide), mgE1, va_up_self, mrgN, mrgN, hyx, hyy, if_neg (by decide), if_neg (by decide)]
    apply tb_ext
    intro j hj
    rw [tb_and, tb_noB _ hz, tb_noB _ hy, tb_or, tb_or, ← bit z hz hxl j, ← bit y hy hyl j]
    have k1 := bit z hz hxl z
    have k2 := bit y hy hyl y
    have k3 := bit z hz hxl y
    rw [hxx] at k1
    rw [hyy] at k2
    rw [hn] at k3
    by_cases j1 : j = z
    · rw [j1, hxl]
      rw [hxl] at k1
      rw [eyx, hyx]
      rw [Bool.and_true] at k1
      rw [k1]
      simp
    · by_cases j2 : j = y
      · rw [j2, k2, k3]; simp
      · rw [decide_eq_true j1, decide_eq_true j2]
        cases tb (E z) j <;> cases tb (E y) j <;> cases tb (aL A) j <;> rfl
  · rw [va_up_ne _ _ e, va_up_ne _ _ e, mgE, mrgN, eyz, mgE1, va_up_ne _ _ e]
    by_cases c : tb (aN A y) z = true
    · rw [if_pos c, if_pos c]
      apply tb_ext
      intro j hj
      rw [tb_and, tb_noB _ hy, tb_noB _ hy, tb_or, tb_or, tb_noB _ hy, tb_one hx, ← bit z hz hzl j]
      by_cases j1 : j = x
      · rw [j1, hxl, decide_eq_true (show x ≠ y by omega)]; simp
      · rw [decide_eq_false j1]
        cases tb (E z) j <;> cases tb (aL A) j <;> cases decide (j ≠ y) <;> rfl
    · rw [if_neg c, if_neg c, and_assoc64, hE z hz hzl]
      exact and_noB hy (Bool.eq_false_iff.mpr (fun q => c (gs z hz hzl y hy q).2.2))
set_option maxRecDepth 20000 in
set_option maxHeartbeats 2000000 in
theorem lp_X8_merge {g : Gl} {D : Nat} {b : Bool} {I : IM} {L : LM} {x y : Nat} {E : Nat → Int64} {k1 k2 : Int32} (hD : 1 ≤ D) (hx : x < 64) (hy : y < 64) (hxy : x < y) (hyy : tb (E y) y = false) {post : Option Value → Bool → IM → LM → Prop} (hp : ∀ E', (∀ n, n < 64 → E' n = va_up (mgE E x y) x (mgE E x y x &&& noB x) n) → post none b I (va_up L 87 E')) : ∀ r q F, q + r = 64 → (∀ n, n < 64 → F n = if n < q then mgE E x y n else mgE1 E x y n) → Wp (Kn g D MX8_merge post) (Tb b) 83 [some (rf g 71), some (.int k1), some (.int k2), some (.int (nI x)), some (.int (nI y)), some (.int (nI q))] [] I (va_up L 87 F) := by
  intro r
  induction r with
  | zero =>
    intro q F hq hF
    have eq : q = 64 := by omega
    subst eq
    refine wq_iload 85 dX8_merge_83 rfl rfl ?_
    refine wq_bipush 87 64 dX8_merge_85 rfl (by decide) ?_
    refine wq_ic_ge 90 142 dX8_merge_87 rfl (by decide) (fun c87 => ?_) (fun c87 => absurd (by decide) c87)
    refine wq_bload_n 143 0 dX8_merge_142 rfl rfl rfl ?_
    refine wq_getR 146 fl_X8_60 dX8_merge_143 rfl rfl o_71 (rfl : (Tb _).2.2.2 71 21 = some 87) ?_
    refine wq_iload_n 147 3 dX8_merge_146 rfl rfl rfl ?_
    refine wq_dup2 148 dX8_merge_147 rfl rfl rfl ?_
    refine wq_lald 149 dX8_merge_148 rfl a_87 (Ix.nI (by omega) (by decide)) ?_
    refine wq_lconst 150 1 dX8_merge_149 rfl (by decide) ?_
    refine wq_iload_n 151 3 dX8_merge_150 rfl rfl rfl ?_
    refine wq_lshl 152 dX8_merge_151 rfl ?_
    refine wq_ldc2 155 (-1) dX8_merge_152 rfl kc_X8_162 ?_
    refine wq_lxor 156 dX8_merge_155 rfl ?_
    refine wq_land 157 dX8_merge_156 rfl ?_
    refine wq_last 158 dX8_merge_157 rfl a_87 (Ix.nI (by omega) (by decide)) ?_
    simp only [va_up_self, va_up_up]
    refine rr dX8_merge_158 rfl ?_
    refine hp _ (fun n hn => ?_)
    by_cases e : n = x
    · rw [e, va_up_self, va_up_self, hF x hx, if_pos hx]; rfl
    · rw [va_up_ne _ _ e, va_up_ne _ _ e, hF n hn, if_pos hn]
  | succ r ih =>
    intro q F hq hF
    have hFy : F y = E y := by
      rw [hF y hy]
      have e1 : mgE1 E x y y = E y := by rw [mgE1, va_up_ne _ _ (by omega)]
      have e2 : mgE E x y y = E y := by rw [mgE, hyy, if_neg (by decide), e1]
      rw [e1, e2, ite_self]
    have hFq : F q = mgE1 E x y q := by rw [hF q (by omega), if_neg (Nat.lt_irrefl q)]
    refine wq_iload 85 dX8_merge_83 rfl rfl ?_
    refine wq_bipush 87 64 dX8_merge_85 rfl (by decide) ?_
    refine wq_ic_ge 90 142 dX8_merge_87 rfl (by decide) (fun c87 => absurd c87 (nI_ge (b := 64) (by omega) (by decide))) (fun c87 => ?_)
    refine wq_bload_n 91 0 dX8_merge_90 rfl rfl rfl ?_
    refine wq_getR 94 fl_X8_60 dX8_merge_91 rfl rfl o_71 (rfl : (Tb _).2.2.2 71 21 = some 87) ?_
    refine wq_iload 96 dX8_merge_94 rfl rfl ?_
    refine wq_lald 97 dX8_merge_96 rfl a_87 (Ix.nI (by omega) (by decide)) ?_
    refine wq_iload 99 dX8_merge_97 rfl rfl ?_
    refine cSi2 102 (sp_X8_has _ _) ml_X8_109 mf_X8_has dX8_merge_99 rfl (Nat.le_of_ble_eq_true rfl) (by omega) ?_
    refine wq_if_eq 105 136 dX8_merge_102 rfl (by decide) (fun c102 => ?_) (fun c102 => ?_)
    · skip
      refine wq_iinc 139 (_ + 1) [_, _, _, _, _, _] dX8_merge_136 rfl rfl (inc1 _) rfl (Nat.le_of_ble_eq_true rfl) rfl ?_
      refine wq_goto 83 dX8_merge_139 (by decide) ?_
      rw [va_up_self, hFy] at c102
      have e := (hasM_eq0 (E y) (k := q) (by omega)).mp c102
      rw [← nI_succ]
      refine ih (q + 1) F (by omega) (fun n hn => ?_)
      rw [hF n hn]
      by_cases e1 : n < q
      · rw [if_pos e1, if_pos (by omega)]
      · by_cases e2 : n = q
        · rw [e2, if_neg (Nat.lt_irrefl q), if_pos (by omega), mgE, e, if_neg (by decide)]
        · rw [if_neg e1, if_neg (by omega)]
    · skip
      refine wq_bload_n 106 0 dX8_merge_105 rfl rfl rfl ?_
      refine wq_getR 109 fl_X8_60 dX8_merge_106 rfl rfl o_71 (rfl : (Tb _).2.2.2 71 21 = some 87) ?_
      refine wq_iload 111 dX8_merge_109 rfl rfl ?_
      refine wq_dup2 112 dX8_merge_111 rfl rfl rfl ?_
      refine wq_lald 113 dX8_merge_112 rfl a_87 (Ix.nI (by omega) (by decide)) ?_
      refine wq_lconst 114 1 dX8_merge_113 rfl (by decide) ?_
      refine wq_iload_n 115 3 dX8_merge_114 rfl rfl rfl ?_
      refine wq_lshl 116 dX8_merge_115 rfl ?_
      refine wq_lor 117 dX8_merge_116 rfl ?_
      refine wq_last 118 dX8_merge_117 rfl a_87 (Ix.nI (by omega) (by decide)) ?_
      refine wq_bload_n 119 0 dX8_merge_118 rfl rfl rfl ?_
      refine wq_getR 122 fl_X8_60 dX8_merge_119 rfl rfl o_71 (rfl : (Tb _).2.2.2 71 21 = some 87) ?_
      refine wq_iload 124 dX8_merge_122 rfl rfl ?_
      refine wq_dup2 125 dX8_merge_124 rfl rfl rfl ?_
      refine wq_lald 126 dX8_merge_125 rfl a_87 (Ix.nI (by omega) (by decide)) ?_
      refine wq_lconst 127 1 dX8_merge_126 rfl (by decide) ?_
      refine wq_iload 129 dX8_merge_127 rfl rfl ?_
      refine wq_lshl 130 dX8_merge_129 rfl ?_
      refine wq_ldc2 133 (-1) dX8_merge_130 rfl kc_X8_162 ?_
      refine wq_lxor 134 dX8_merge_133 rfl ?_
      refine wq_land 135 dX8_merge_134 rfl ?_
      refine wq_last 136 dX8_merge_135 rfl a_87 (Ix.nI (by omega) (by decide)) ?_
      refine wq_iinc 139 (_ + 1) [_, _, _, _, _, _] dX8_merge_136 rfl rfl (inc1 _) rfl (Nat.le_of_ble_eq_true rfl) rfl ?_
      refine wq_goto 83 dX8_merge_139 (by decide) ?_
      rw [va_up_self, hFy] at c102
      have e := (hasM_ne0 (E y) (k := q) (by omega)).mp c102
      rw [← nI_succ]
      simp only [va_up_self, va_up_up]
      refine ih (q + 1) _ (by omega) (fun n hn => ?_)
      by_cases e2 : n = q
      · rw [e2, va_up_self, hFq, if_pos (by omega), mgE, e, if_pos rfl]; rfl
      · rw [va_up_ne _ _ e2, hF n hn]
        by_cases e1 : n < q
        · rw [if_pos e1, if_pos (by omega)]
        · rw [if_neg e1, if_neg (by omega)]
set_option maxRecDepth 20000 in
set_option maxHeartbeats 2000000 in
theorem sp_X8_merge {g : Gl} {D : Nat} {b : Bool} {I : IM} {L : LM} {k w mv t : Nat} {f1 f2 : Nat → Nat} {tl : Bool} {A : RA} (hD : 1 ≤ D) (h : RMx I L k w mv f1 f2 tl A) (hg : GA mv t f1 f2 A) {i j : Int32} (u v : Nat) (hi : i = nI u) (hj : j = nI v) {x y : Nat} (ex : x = min u v) (ey : y = max u v) (hx : x < 64) (hy : y < 64) (hxy : x < y) (hy4 : 4 ≤ y) (hxl : tb (aL A) x = true) (hyl : tb (aL A) y = true) (hn : tb (aN A x) y = false) : Me g D MX8_merge [rf g 71, .int i, .int j] b I L (fun r b' I' L' => r = none ∧ b' = b ∧ RMx I' L' k w mv f1 f2 tl (mergeA A x y) ∧ FM I L I' L') := by
  subst hi hj
  have hh := h
  obtain ⟨h1, h2, h3, h4, h5, h6, h7, h8, h9, h10, h11, h12, h13⟩ := h
  have gs := hg.2.2.2.2.2.1
  have hyy : tb (L 87 y) y = false := by
    have e : (tb (L 87 y) y && tb (aL A) y) = tb (aN A y) y := by rw [← tb_and, h1 y hy hyl]
    rw [hyl, Bool.and_true] at e
    rw [e]
    exact Bool.eq_false_iff.mpr (fun c => (gs y hy hyl y hy c).2.1 rfl)
  have J23 : ∀ l5, Wp (Kn g D MX8_merge (fun r b' I' L' => r = none ∧ b' = b ∧ RMx I' L' k w mv f1 f2 tl (mergeA A x y) ∧ FM I L I' L')) (Tb b) 23 [some (rf g 71), some (.int (nI u)), some (.int (nI v)), some (.int (nI x)), some (.int (nI y)), l5] [] I L := by
    intro l5
    refine wq_bload_n 24 0 dX8_merge_23 rfl rfl rfl ?_
    refine wq_getR 27 fl_X8_63 dX8_merge_24 rfl rfl o_71 (rfl : (Tb _).2.2.2 71 22 = some 88) ?_
    refine wq_iload 29 dX8_merge_27 rfl rfl ?_
    refine wq_iload_n 30 3 dX8_merge_29 rfl rfl rfl ?_
    refine wq_iast 31 dX8_merge_30 rfl a_88 (Ix.nI (by omega) (by decide)) ?_
    refine wq_bload_n 32 0 dX8_merge_31 rfl rfl rfl ?_
    refine wq_getR 35 fl_X8_66 dX8_merge_32 rfl rfl o_71 (rfl : (Tb _).2.2.2 71 23 = some 89) ?_
    refine wq_iload_n 36 3 dX8_merge_35 rfl rfl rfl ?_
    refine wq_dup2 37 dX8_merge_36 rfl rfl rfl ?_
    refine wq_iald 38 dX8_merge_37 rfl a_89 (Ix.nI (by omega) (by decide)) ?_
    refine wq_bload_n 39 0 dX8_merge_38 rfl rfl rfl ?_
    refine wq_getR 42 fl_X8_66 dX8_merge_39 rfl rfl o_71 (rfl : (Tb _).2.2.2 71 23 = some 89) ?_
    refine wq_iload 44 dX8_merge_42 rfl rfl ?_
    refine wq_iald 45 dX8_merge_44 rfl a_89 (Ix.nI (by omega) (by decide)) ?_
    refine wq_iadd 46 dX8_merge_45 rfl ?_
    refine wq_iast 47 dX8_merge_46 rfl a_89 (Ix.nI (by omega) (by decide)) ?_
    refine wq_bload_n 48 0 dX8_merge_47 rfl rfl rfl ?_
    refine wq_dup 49 dX8_merge_48 rfl rfl ?_
    refine wq_getL 52 fl_X8_211 dX8_merge_49 rfl rfl o_71 ?_
    refine wq_lconst 53 1 dX8_merge_52 rfl (by decide) ?_
    refine wq_iload 55 dX8_merge_53 rfl rfl ?_
    refine wq_lshl 56 dX8_merge_55 rfl ?_
    refine wq_ldc2 59 (-1) dX8_merge_56 rfl kc_X8_162 ?_
    refine wq_lxor 60 dX8_merge_59 rfl ?_
    refine wq_land 61 dX8_merge_60 rfl ?_
    refine wq_putL 64 fl_X8_211 dX8_merge_61 rfl rfl rfl rfl rfl o_71 ?_
    refine wq_bload_n 65 0 dX8_merge_64 rfl rfl rfl ?_
    refine wq_getR 68 fl_X8_60 dX8_merge_65 rfl rfl o_71 (rfl : (Tb _).2.2.2 71 21 = some 87) ?_
    refine wq_iload_n 69 3 dX8_merge_68 rfl rfl rfl ?_
    refine wq_dup2 70 dX8_merge_69 rfl rfl rfl ?_
    refine wq_lald 71 dX8_merge_70 rfl a_87 (Ix.nI (by omega) (by decide)) ?_
    refine wq_bload_n 72 0 dX8_merge_71 rfl rfl rfl ?_
    refine wq_getR 75 fl_X8_60 dX8_merge_72 rfl rfl o_71 (rfl : (Tb _).2.2.2 71 21 = some 87) ?_
    refine wq_iload 77 dX8_merge_75 rfl rfl ?_
    refine wq_lald 78 dX8_merge_77 rfl a_87 (Ix.nI (by omega) (by decide)) ?_
    refine wq_lor 79 dX8_merge_78 rfl ?_
    refine wq_last 80 dX8_merge_79 rfl a_87 (Ix.nI (by omega) (by decide)) ?_
    refine wq_iconst 81 0 dX8_merge_80 rfl (by decide) ?_
    refine wq_istore 83 [_, _, _, _, _, _] dX8_merge_81 rfl rfl (Nat.le_of_ble_eq_true rfl) rfl ?_
    refine wq_gen (fun I1 L1 eI1 eL1 => ?_)
    have i88 : I1 88 = va_up (I 88) y (nI x) := by rw [eI1, va_up_ne _ _ (by decide), va_up_self]
    have i89 : I1 89 = va_up (I 89) x (I 89 x + I 89 y) := by rw [eI1, va_up_self]; simp only [va_up_ne _ _ (show 89 ≠ 88 by decide)]
    have ix : ∀ z, z ≠ 88 → z ≠ 89 → I1 z = I z := fun z z1 z2 => by rw [eI1, va_up_ne _ _ z2, va_up_ne _ _ z1]
    have l71 : L1 71 = va_up (L 71) 24 (aL A &&& noB y) := by rw [eL1, va_up_ne _ _ (by decide), va_up_self, h2]; rfl
    have l87 : L1 87 = mgE1 (L 87) x y := by rw [eL1, va_up_self]; simp only [va_up_ne _ _ (show 87 ≠ 71 by decide)]; rfl
    have lx : ∀ z, z ≠ 71 → z ≠ 87 → L1 z = L z := fun z z1 z2 => by rw [eL1, va_up_ne _ _ z2, va_up_ne _ _ z1]
    clear eI1 eL1
    refine wp_eqL (va_up_id L1 87) ?_
    refine lp_X8_merge hD hx hy hxy hyy (fun E' hE' => ?_) 64 0 _ (by omega) (fun n hn => by rw [if_neg (by omega), l87])
    have l71' : va_up L1 87 E' 71 = va_up (L 71) 24 (aL A &&& noB y) := by rw [va_up_ne _ _ (by decide), l71]
    have l87' : va_up L1 87 E' 87 = E' := va_up_self _ _ _
    have lx' : ∀ z, z ≠ 71 → z ≠ 87 → va_up L1 87 E' z = L z := fun z z1 z2 => by rw [va_up_ne _ _ z2, lx z z1 z2]
    generalize va_up L1 87 E' = L2 at l71' l87' lx'
    refine ⟨rfl, rfl, ⟨fun z hz hl => ?_, ?_, fun n hn => ?_, fun n hn n4 hl => ?_, fun m hm => ?_, fun i hi => ?_, ?_, ?_, fun m hm => ?_, ?_, ?_, fun ht => ?_, fun ht => ?_⟩, ?_⟩
    · have hl' : tb (aL A &&& noB y) z = true := hl
      rw [tb_noB _ hy, Bool.and_eq_true, decide_eq_true_eq] at hl'
      rw [l87']
      exact mg_row hg h1 hx hy hxy hxl hyl hn hE' hz hl'.1 hl'.2
    · rw [l71', va_up_self]; rfl
    · rw [i88]
      show _ = nI (va_up (aA A) y x n)
      by_cases e : n = y
      · rw [e, va_up_self, va_up_self]
      · rw [va_up_ne _ _ e, va_up_ne _ _ e]; exact h3 n hn
    · have hl' : tb (aL A &&& noB y) n = true := hl
      rw [tb_noB _ hy, Bool.and_eq_true, decide_eq_true_eq] at hl'
      rw [i89]
      show _ = nI (va_up (aC A) x (aC A x + aC A y) n)
      by_cases e : n = x
      · rw [e, va_up_self, va_up_self, h4 x hx (by omega) hxl, h4 y hy hy4 hyl, nI_add]
      · rw [va_up_ne _ _ e, va_up_ne _ _ e]; exact h4 n hn n4 hl'.1
    · rw [ix 91 (by decide) (by decide)]; exact h5 m hm
    · obtain ⟨b1, b2, b3⟩ := hg.2.2.2.2.2.2.2.2.2.2 i hi
      have em := merge_row hg hxl hy hyl b2 b3
      rw [ix 92 (by decide) (by decide), lx' 93 (by decide) (by decide)]
      show I 92 i = nI (aT A i) ∧ L 93 i = aN (mergeA A x y) (aT A i)
      rw [em]
      exact h6 i hi
    · rw [ix 71 (by decide) (by decide)]; exact h7
    · rw [ix 71 (by decide) (by decide)]; exact h8
    · rw [ix 90 (by decide) (by decide), ix 78 (by decide) (by decide), ix 79 (by decide) (by decide)]; exact h9 m hm
    · rw [ix 71 (by decide) (by decide)]; exact h10
    · rw [ix 71 (by decide) (by decide)]; exact h11
    · rw [ix 71 (by decide) (by decide), ix 95 (by decide) (by decide)]; exact h12 ht
    · rw [ix 71 (by decide) (by decide)]; exact h13 ht
    · refine ⟨fun z hz => ix z (fun e => hz (by rw [e]; decide)) (fun e => hz (by rw [e]; decide)), fun z hz => by rw [ix 71 (by decide) (by decide)], fun z hz => lx' z (fun e => hz (by rw [e]; decide)) (fun e => hz (by rw [e]; decide)), fun z hz => by rw [l71', va_up_ne _ _ hz]⟩
  refine Me.of [some (rf g 71), some (.int (nI u)), some (.int (nI v)), none, none, none] 3 rfl pf_X8_merge (Nat.le_of_ble_eq_true rfl) ?_
  by_cases e : u < v
  · have eu : u = x := by omega
    have ev : v = y := by omega
    refine wq_iload_n 1 1 dX8_merge_0 rfl rfl rfl ?_
    refine wq_iload_n 2 2 dX8_merge_1 rfl rfl rfl ?_
    refine wq_ic_ge 5 9 dX8_merge_2 rfl (by decide) (fun c2 => absurd c2 (nI_ge e (by omega))) (fun c2 => ?_)
    refine wq_iload_n 6 1 dX8_merge_5 rfl rfl rfl ?_
    refine wq_goto 10 dX8_merge_6 (by decide) ?_
    refine wq_istore_n 11 3 [_, _, _, _, _, _] dX8_merge_10 rfl rfl rfl (Nat.le_of_ble_eq_true rfl) rfl ?_
    refine wq_iload_n 12 1 dX8_merge_11 rfl rfl rfl ?_
    refine wq_iload_n 13 2 dX8_merge_12 rfl rfl rfl ?_
    refine wq_ic_ge 16 20 dX8_merge_13 rfl (by decide) (fun c13 => absurd c13 (nI_ge e (by omega))) (fun c13 => ?_)
    refine wq_iload_n 17 2 dX8_merge_16 rfl rfl rfl ?_
    refine wq_goto 21 dX8_merge_17 (by decide) ?_
    refine wq_istore 23 [_, _, _, _, _, _] dX8_merge_21 rfl rfl (Nat.le_of_ble_eq_true rfl) rfl ?_
    have J := J23 none
    rw [← eu, ← ev] at J
    rw [← eu, ← ev]
    exact J
  · have eu : u = y := by omega
    have ev : v = x := by omega
    refine wq_iload_n 1 1 dX8_merge_0 rfl rfl rfl ?_
    refine wq_iload_n 2 2 dX8_merge_1 rfl rfl rfl ?_
    refine wq_ic_ge 5 9 dX8_merge_2 rfl (by decide) (fun c2 => ?_) (fun c2 => absurd (nI_le (by omega) (by omega)) c2)
    refine wq_iload_n 10 2 dX8_merge_9 rfl rfl rfl ?_
    refine wq_istore_n 11 3 [_, _, _, _, _, _] dX8_merge_10 rfl rfl rfl (Nat.le_of_ble_eq_true rfl) rfl ?_
    refine wq_iload_n 12 1 dX8_merge_11 rfl rfl rfl ?_
    refine wq_iload_n 13 2 dX8_merge_12 rfl rfl rfl ?_
    refine wq_ic_ge 16 20 dX8_merge_13 rfl (by decide) (fun c13 => ?_) (fun c13 => absurd (nI_le (by omega) (by omega)) c13)
    refine wq_iload_n 21 1 dX8_merge_20 rfl rfl rfl ?_
    refine wq_istore 23 [_, _, _, _, _, _] dX8_merge_21 rfl rfl (Nat.le_of_ble_eq_true rfl) rfl ?_
    have J := J23 none
    rw [← eu, ← ev] at J
    rw [← eu, ← ev]
    exact J
