/-! Needs: who is needed -/
theorem m1_and (x : Int64) : x &&& ((0 : Int64) ^^^ (-1)) = x := by
  apply tb_ext
  intro i hi
  rw [tb_and, tb_not _ hi, tb_0]
  simp
theorem wf_kind {B : Nat} {p : Pg} {n i : Nat} (h : WfB B p n) (hi : i < n) : ∃ k, k < 9 ∧ p i 0 = nI k := by
  obtain ⟨k, h1, h2, -⟩ := h i hi
  exact ⟨k, h1, h2⟩
theorem shp_62 : shp (nI 6) (nI 2) = 48 := by decide
theorem tg_eq {B : Nat} {I : IM} {L : LM} {l n : Nat} {p : Pg} (h : LR I L l n p) (hw : WfB B p n) {j : Nat} (hj : j < n) : tgT (I (l + 1)) (I (l + 4)) j = Tg p n j := by
  obtain ⟨h1, h2, h3, h4, h5, h6, h7, h8, h9⟩ := h
  unfold tgT Tg
  rw [h6 j hj 0 (by omega), h6 j hj 2 (by omega)]
  by_cases h0 : p j 0 = 6
  · rw [if_pos h0, if_pos h0]
    obtain ⟨k, k1, k2, k3⟩ := hw j hj
    have hk : k = 6 := (nI_eq (a := k) (b := 6) (by omega) (by decide)).mp (by rw [← k2]; exact h0)
    subst hk
    rcases k3 2 (by omega) (by omega) with ⟨z, -⟩ | ⟨-, x, x1, x2, x3, -⟩
    · rw [shp_62] at z; exact absurd z (by decide)
    · have hx := x3 shp_62 (by omega)
      rw [x2, if_neg (nI_pos (by omega)), if_neg (show ¬ (10 : Int32) ≤ nI x from nI_ge (b := 10) hx (by decide)), nI_clamp (by omega), h9 x hx (by omega)]
  · rw [if_neg h0, if_neg h0]
def lvMem (L : LM) (a : Nat) (S : LS2) : LM := va_up (va_up L (a + 1) S.1) (a + 2) S.2
theorem lvMem_1 (L : LM) (a : Nat) (S : LS2) : lvMem L a S (a + 1) = S.1 := by unfold lvMem; rw [va_up_ne _ _ (by omega), va_up_self]
theorem lvMem_2 (L : LM) (a : Nat) (S : LS2) : lvMem L a S (a + 2) = S.2 := by unfold lvMem; rw [va_up_self]
theorem lvMem_o (L : LM) (a : Nat) (S : LS2) {x : Nat} (h1 : x ≠ a + 1) (h2 : x ≠ a + 2) : lvMem L a S x = L x := by unfold lvMem; rw [va_up_ne _ _ h2, va_up_ne _ _ h1]
theorem lvMem_st (L : LM) (a : Nat) (S : LS2) (i : Nat) (u v : Int64) : va_up (va_up (lvMem L a S) (a + 2) (va_up (lvMem L a S (a + 2)) i u)) (a + 1) (va_up (va_up (lvMem L a S) (a + 2) (va_up (lvMem L a S (a + 2)) i u) (a + 1)) i v) = lvMem L a (va_up S.1 i v, va_up S.2 i u) := by
  rw [lvMem_2, va_up_ne _ _ (show a + 1 ≠ a + 2 by omega), lvMem_1]
  funext x
  unfold lvMem
  by_cases h1 : x = a + 1
  · subst h1; rw [va_up_self, va_up_ne _ _ (by omega), va_up_self]
  · by_cases h2 : x = a + 2
    · subst h2; rw [va_up_ne _ _ (by omega), va_up_self, va_up_self]
    · rw [va_up_ne _ _ h1, va_up_ne _ _ h2, va_up_ne _ _ h2, va_up_ne _ _ h1, va_up_ne _ _ h2, va_up_ne _ _ h1]
def bI (x : Bool) : Int32 := if x = true then 1 else 0
theorem bI_ne {x : Bool} : bI x ≠ 0 ↔ x = true := by cases x <;> decide
theorem bI_eq {x : Bool} : bI x = 0 ↔ x = false := by cases x <;> decide
theorem bI_nar (x : Bool) : narrow .boolean (.int (bI x)) = .int (bI x) := by cases x <;> rfl
theorem pred1 (x : Int32) : x + Int32.ofInt (-1) = x - 1 := by rw [Int32.sub_eq_add_neg]; exact congrArg (x + ·) (by decide)
theorem N_apart {a l : Nat} (ha : IsN a) (hl : IsL l) {i j : Nat} (hi : i < 6) (hj : j < 5) : a + i ≠ l + j := by
  rcases ha with rfl | rfl <;> rcases hl with rfl | rfl | rfl | rfl | rfl | rfl <;> omega
set_option maxRecDepth 20000 in
set_option maxHeartbeats 2000000 in
theorem lp_X3_pass {g : Gl} {D : Nat} {b : Bool} {I : IM} {L : LM} {a l n B : Nat} {p : Pg} {post : Option Value → Bool → IM → LM → Prop} (hD : 2 ≤ D) (ha : IsN a) (hl : IsL l) (h : LR I L l n p) (hw : WfB B p n) : ∀ m S (ch : Bool) k6 k7 k8 k9 k10, m ≤ n → post (some (.int (bI (ch || lvC p n m S)))) b I (lvMem L a (lvP p n m S)) → Wp (Kn g D MX3_passFromBehind post) (Tb b) 17 [some (rf g a), some (rf g l), some (.int (bI ch)), some (.long (if m < n then S.1 m else 0)), none, some (.int (nI m - 1)), k6, k7, k8, k9, k10] [] I (lvMem L a S) := by
  have hc := h.2.1
  have hn := h.1
  have ap := fun i j hi hj => N_apart (i := i) (j := j) ha hl hi hj
  intro m
  induction m with
  | zero =>
    intro S ch k6 k7 k8 k9 k10 hm hp
    rw [lvC, Bool.or_false, lvP] at hp
    refine wq_iload 19 dX3_passFromBehind_17 rfl rfl ?_
    refine wq_if_lt 22 164 dX3_passFromBehind_19 rfl (by decide) (fun c19 => ?_) (fun c19 => absurd (by decide) c19)
    refine wq_iload_n 165 2 dX3_passFromBehind_164 rfl rfl rfl ?_
    refine ri .boolean dX3_passFromBehind_165 rfl (bI_nar _) ?_
    exact hp
  | succ m ih =>
    intro S ch k6 k7 k8 k9 k10 hm hp
    rw [nI_pred]
    have eO : lvO p n S.1 m = (if m + 1 < n then S.1 (m + 1) else 0) ||| (if Tg p n m < 0 then 0 else S.1 (Tg p n m).toNatClampNeg) := rfl
    have J136 : ∀ (t8 x : Int32), x = bI (ch || (decide (lvN p n S.1 m ≠ S.1 m) || decide (lvO p n S.1 m ≠ S.2 m))) → Wp (Kn g D MX3_passFromBehind post) (Tb b) 136 [some (rf g a), some (rf g l), some (.int (bI ch)), some (.long (if m + 1 < n then S.1 (m + 1) else 0)), none, some (.int (nI m)), some (.long (lvO p n S.1 m)), none, some (.int t8), some (.long (lvN p n S.1 m)), none] [.int x] I (lvMem L a S) := by
      intro t8 x hx
      subst hx
      refine wq_istore_n 137 2 [_, _, _, _, _, _, _, _, _, _, _] dX3_passFromBehind_136 rfl rfl rfl (Nat.le_of_ble_eq_true rfl) rfl ?_
      refine wq_bload_n 138 0 dX3_passFromBehind_137 rfl rfl rfl ?_
      refine wq_getR 141 fl_X3_15 dX3_passFromBehind_138 rfl rfl (N_ob ha) (N_rf1 ha) ?_
      refine wq_iload 143 dX3_passFromBehind_141 rfl rfl ?_
      refine wq_lload 145 dX3_passFromBehind_143 rfl rfl ?_
      refine wq_last 146 dX3_passFromBehind_145 rfl (N_ar1 ha) (Ix.nI (by omega) (by decide)) ?_
      refine wq_bload_n 147 0 dX3_passFromBehind_146 rfl rfl rfl ?_
      refine wq_getR 150 fl_X3_9 dX3_passFromBehind_147 rfl rfl (N_ob ha) (N_rf0 ha) ?_
      refine wq_iload 152 dX3_passFromBehind_150 rfl rfl ?_
      refine wq_lload 154 dX3_passFromBehind_152 rfl rfl ?_
      refine wq_last 155 dX3_passFromBehind_154 rfl (N_ar0 ha) (Ix.nI (by omega) (by decide)) ?_
      rw [lvMem_st]
      refine wq_lload 157 dX3_passFromBehind_155 rfl rfl ?_
      refine wq_lstore_n 158 3 [_, _, _, _, _, _, _, _, _, _, _] dX3_passFromBehind_157 rfl rfl rfl (Nat.le_of_ble_eq_true rfl) rfl ?_
      refine wq_iinc 161 (nI m - 1) [_, _, _, _, _, _, _, _, _, _, _] dX3_passFromBehind_158 rfl rfl (pred1 _) rfl (Nat.le_of_ble_eq_true rfl) rfl ?_
      refine wq_goto 17 dX3_passFromBehind_161 (by decide) ?_
      have h9 := fun k6 k7 k8 k9 k10 => ih (lvS p n S m) (ch || (decide (lvN p n S.1 m ≠ S.1 m) || decide (lvO p n S.1 m ≠ S.2 m))) k6 k7 k8 k9 k10 (by omega) (by rw [lvC, ← Bool.or_assoc, lvP] at hp; exact hp)
      simp only [if_pos (show m < n by omega), show (lvS p n S m).1 m = lvN p n S.1 m by show va_up S.1 m _ m = _; rw [va_up_self]] at h9
      exact h9 _ _ _ _ _
    have J89 : ∀ (t8 : Int32) (y : Int64), y = lvO p n S.1 m &&& (wm p m ^^^ (-1)) → Wp (Kn g D MX3_passFromBehind post) (Tb b) 89 [some (rf g a), some (rf g l), some (.int (bI ch)), some (.long (if m + 1 < n then S.1 (m + 1) else 0)), none, some (.int (nI m)), some (.long (lvO p n S.1 m)), none, some (.int t8), some (.long y), none] [] I (lvMem L a S) := by
      intro t8 y hy
      subst hy
      refine wq_lload 91 dX3_passFromBehind_89 rfl rfl ?_
      refine wq_bload_n 92 1 dX3_passFromBehind_91 rfl rfl rfl ?_
      refine wq_getR 95 fl_X3_72 dX3_passFromBehind_92 rfl rfl (L_ob hl) (L_rf1 hl) ?_
      refine wq_iload 97 dX3_passFromBehind_95 rfl rfl ?_
      refine wq_lald 98 dX3_passFromBehind_97 rfl (L_ar1 hl) (Ix.nI (by omega) (by decide)) ?_
      rw [lvMem_o _ _ _ (fun e => ap 1 2 (by omega) (by omega) e.symm) (fun e => ap 2 2 (by omega) (by omega) e.symm), h.2.2.2.2.2.2.1 m (by omega)]
      refine wq_lor 99 dX3_passFromBehind_98 rfl ?_
      refine wq_lstore 101 [_, _, _, _, _, _, _, _, _, _, _] dX3_passFromBehind_99 rfl rfl (Nat.le_of_ble_eq_true rfl) rfl ?_
      rw [show (lvO p n S.1 m &&& (wm p m ^^^ (-1))) ||| Rd p m = lvN p n S.1 m from rfl]
      refine wq_iload_n 102 2 dX3_passFromBehind_101 rfl rfl rfl ?_
      refine wq_if_ne 105 131 dX3_passFromBehind_102 rfl (by decide) (fun c102 => ?_) (fun c102 => ?_)
      · skip
        refine wq_iconst 132 1 dX3_passFromBehind_131 rfl (by decide) ?_
        refine wq_goto 136 dX3_passFromBehind_132 (by decide) ?_
        exact J136 t8 1 (by rw [bI_ne.mp c102]; rfl)
      · skip
        refine wq_lload 107 dX3_passFromBehind_105 rfl rfl ?_
        refine wq_bload_n 108 0 dX3_passFromBehind_107 rfl rfl rfl ?_
        refine wq_getR 111 fl_X3_9 dX3_passFromBehind_108 rfl rfl (N_ob ha) (N_rf0 ha) ?_
        refine wq_iload 113 dX3_passFromBehind_111 rfl rfl ?_
        refine wq_lald 114 dX3_passFromBehind_113 rfl (N_ar0 ha) (Ix.nI (by omega) (by decide)) ?_
        refine wq_lcmp 115 dX3_passFromBehind_114 rfl ?_
        refine wq_if_ne 118 131 dX3_passFromBehind_115 rfl (by decide) (fun c115 => ?_) (fun c115 => ?_)
        · skip
          refine wq_iconst 132 1 dX3_passFromBehind_131 rfl (by decide) ?_
          refine wq_goto 136 dX3_passFromBehind_132 (by decide) ?_
          have hch := bI_eq.mp c102
          have q1 : lvN p n S.1 m ≠ S.1 m := fun e => c115 (lcmp0.mpr (by rw [lvMem_1]; exact e))
          exact J136 t8 1 (by rw [hch, decide_eq_true q1]; rfl)
        · skip
          refine wq_lload 120 dX3_passFromBehind_118 rfl rfl ?_
          refine wq_bload_n 121 0 dX3_passFromBehind_120 rfl rfl rfl ?_
          refine wq_getR 124 fl_X3_15 dX3_passFromBehind_121 rfl rfl (N_ob ha) (N_rf1 ha) ?_
          refine wq_iload 126 dX3_passFromBehind_124 rfl rfl ?_
          refine wq_lald 127 dX3_passFromBehind_126 rfl (N_ar1 ha) (Ix.nI (by omega) (by decide)) ?_
          refine wq_lcmp 128 dX3_passFromBehind_127 rfl ?_
          refine wq_if_eq 131 135 dX3_passFromBehind_128 rfl (by decide) (fun c128 => ?_) (fun c128 => ?_)
          · skip
            refine wq_iconst 136 0 dX3_passFromBehind_135 rfl (by decide) ?_
            have hch := bI_eq.mp c102
            have q1 : lvN p n S.1 m = S.1 m := by have := lcmp0.mp c115; rw [lvMem_1] at this; exact this
            have q2 : lvO p n S.1 m = S.2 m := by have := lcmp0.mp c128; rw [lvMem_2] at this; exact this
            exact J136 t8 0 (by rw [hch, decide_eq_false (fun z => z q1), decide_eq_false (fun z => z q2)]; rfl)
          · skip
            refine wq_iconst 132 1 dX3_passFromBehind_131 rfl (by decide) ?_
            refine wq_goto 136 dX3_passFromBehind_132 (by decide) ?_
            have hch := bI_eq.mp c102
            have q1 : lvN p n S.1 m = S.1 m := by have := lcmp0.mp c115; rw [lvMem_1] at this; exact this
            have q2 : lvO p n S.1 m ≠ S.2 m := fun e => c128 (lcmp0.mpr (by rw [lvMem_2]; exact e))
            exact J136 t8 1 (by rw [hch, decide_eq_true q2, Bool.or_true]; rfl)
    have J57 : ∀ (t8 : Int32) (k9 k10 : Option Value) (y : Int64), y = lvO p n S.1 m → Wp (Kn g D MX3_passFromBehind post) (Tb b) 57 [some (rf g a), some (rf g l), some (.int (bI ch)), some (.long (if m + 1 < n then S.1 (m + 1) else 0)), none, some (.int (nI m)), some (.long y), none, some (.int t8), k9, k10] [] I (lvMem L a S) := by
      intro t8 k9 k10 y hy
      subst hy
      have hW := h.2.2.2.2.2.2.2.1 m (by omega)
      refine wq_lload 59 dX3_passFromBehind_57 rfl rfl ?_
      refine wq_lstore 61 [_, _, _, _, _, _, _, _, _, _, _] dX3_passFromBehind_59 rfl rfl (Nat.le_of_ble_eq_true rfl) rfl ?_
      refine wq_bload_n 62 1 dX3_passFromBehind_61 rfl rfl rfl ?_
      refine wq_getR 65 fl_X3_67 dX3_passFromBehind_62 rfl rfl (L_ob hl) (L_rf2 hl) ?_
      refine wq_iload 67 dX3_passFromBehind_65 rfl rfl ?_
      refine wq_iald 68 dX3_passFromBehind_67 rfl (L_ar2 hl) (Ix.nI (by omega) (by decide)) ?_
      rw [hW]
      refine wq_if_lt 71 89 dX3_passFromBehind_68 rfl (by decide) (fun c68 => ?_) (fun c68 => ?_)
      · skip
        exact J89 t8 _ (by rw [wm, if_pos c68, m1_and])
      · skip
        refine wq_lload 73 dX3_passFromBehind_71 rfl rfl ?_
        refine wq_lconst 74 1 dX3_passFromBehind_73 rfl (by decide) ?_
        refine wq_bload_n 75 1 dX3_passFromBehind_74 rfl rfl rfl ?_
        refine wq_getR 78 fl_X3_67 dX3_passFromBehind_75 rfl rfl (L_ob hl) (L_rf2 hl) ?_
        refine wq_iload 80 dX3_passFromBehind_78 rfl rfl ?_
        refine wq_iald 81 dX3_passFromBehind_80 rfl (L_ar2 hl) (Ix.nI (by omega) (by decide)) ?_
        rw [hW]
        refine wq_lshl 82 dX3_passFromBehind_81 rfl ?_
        refine wq_ldc2 85 (-1) dX3_passFromBehind_82 rfl kc_X3_70 ?_
        refine wq_lxor 86 dX3_passFromBehind_85 rfl ?_
        refine wq_land 87 dX3_passFromBehind_86 rfl ?_
        refine wq_lstore 89 [_, _, _, _, _, _, _, _, _, _, _] dX3_passFromBehind_87 rfl rfl (Nat.le_of_ble_eq_true rfl) rfl ?_
        exact J89 t8 _ (by rw [wm, if_neg c68]; rfl)
    refine wq_iload 19 dX3_passFromBehind_17 rfl rfl ?_
    refine wq_if_lt 22 164 dX3_passFromBehind_19 rfl (by decide) (fun c19 => absurd c19 (nI_pos (by omega))) (fun c19 => ?_)
    refine wq_lload_n 23 3 dX3_passFromBehind_22 rfl rfl rfl ?_
    refine wq_lstore 25 [_, _, _, _, _, _, _, _, _, _, _] dX3_passFromBehind_23 rfl rfl (Nat.le_of_ble_eq_true rfl) rfl ?_
    refine wq_bload_n 26 1 dX3_passFromBehind_25 rfl rfl rfl ?_
    refine wq_iload 28 dX3_passFromBehind_26 rfl rfl ?_
    refine cVi1 31 (sp_X2_targetOf (by omega) hl hc hn m rfl (by omega)) ml_X3_63 mf_X2_targetOf dX3_passFromBehind_28 rfl (L_ob hl) (by decide) rfl (Nat.le_of_ble_eq_true rfl) (by omega) ?_
    refine wq_istore 33 [_, _, _, _, _, _, _, _, _, _, _] dX3_passFromBehind_31 rfl rfl (Nat.le_of_ble_eq_true rfl) rfl ?_
    refine wq_iload 35 dX3_passFromBehind_33 rfl rfl ?_
    refine wq_if_lt 38 57 dX3_passFromBehind_35 rfl (by decide) (fun c35 => ?_) (fun c35 => ?_)
    · skip
      exact J57 _ _ _ _ (by rw [eO, if_pos (show Tg p n m < 0 by rw [← tg_eq h hw (by omega)]; exact c35)]; apply tb_ext; intro i _; rw [tb_or, tb_0, Bool.or_false])
    · skip
      refine wq_iload 40 dX3_passFromBehind_38 rfl rfl ?_
      refine wq_bipush 42 90 dX3_passFromBehind_40 rfl (by decide) ?_
      refine wq_ic_ge 45 57 dX3_passFromBehind_42 rfl (by decide) (fun c42 => ?_) (fun c42 => ?_)
      · skip
        exfalso
        rw [tg_eq h hw (by omega)] at c35 c42
        obtain ⟨j, j1, j2, -⟩ := (Tg_lt p n m).resolve_left c35
        rw [j2] at c42
        exact nI_ge (b := 90) (by omega) (by decide) c42
      · skip
        refine wq_lload 47 dX3_passFromBehind_45 rfl rfl ?_
        refine wq_bload_n 48 0 dX3_passFromBehind_47 rfl rfl rfl ?_
        refine wq_getR 51 fl_X3_9 dX3_passFromBehind_48 rfl rfl (N_ob ha) (N_rf0 ha) ?_
        refine wq_iload 53 dX3_passFromBehind_51 rfl rfl ?_
        refine wq_lald 54 dX3_passFromBehind_53 rfl (N_ar0 ha) (Ix.self (vp_of (n := 90) rfl (by decide) c35 c42)) ?_
        refine wq_lor 55 dX3_passFromBehind_54 rfl ?_
        refine wq_lstore 57 [_, _, _, _, _, _, _, _, _, _, _] dX3_passFromBehind_55 rfl rfl (Nat.le_of_ble_eq_true rfl) rfl ?_
        rw [lvMem_1, tg_eq h hw (by omega)]
        rw [tg_eq h hw (by omega)] at c35
        exact J57 _ _ _ _ (by rw [eO, if_neg c35])
