/-! Needs.putBeside, findEdges -/
def hitB (p : Pg) (H : Nat → Int64) (i x y : Nat) : Bool := decide (Wr p i = nI x) && tb (H i) y && decide (x ≠ y) && !(decide (p i 0 = 1) && tb (Rd p i) y)
def edB (p : Pg) (H : Nat → Int64) : Nat → Nat → Nat → Bool
  | 0, x, y => decide (x < 4 ∧ y < 4 ∧ x ≠ y)
  | i + 1, x, y => edB p H i x y || hitB p H i x y || hitB p H i y x
def EdR (E : Nat → Int64) (p : Pg) (H : Nat → Int64) (m : Nat) : Prop := ∀ x, x < 64 → ∀ y, y < 64 → tb (E x) y = edB p H m x y
set_option maxRecDepth 20000 in
set_option maxHeartbeats 2000000 in
theorem lp_X3_putBeside {g : Gl} {D : Nat} {b : Bool} {I : IM} {L : LM} {a x t : Nat} {o : Int64} {F : Nat → Int64} (hD : 1 ≤ D) (ha : IsN a) (hx : x < 64) (ht : t ≤ 64) {post : Option Value → Bool → IM → LM → Prop} (hp : ∀ E, (∀ u, u < 64 → ∀ v, v < 64 → tb (E u) v = (tb (F u) v || (decide (u = x) && tb o v) || (decide (v = x) && tb o u && decide (u < t)))) → post none b I (va_up L (a + 4) E)) : ∀ r y E, y + r = t → (∀ u, u < 64 → ∀ v, v < 64 → tb (E u) v = (tb (F u) v || (decide (u = x) && tb o v) || (decide (v = x) && tb o u && decide (u < y)))) → Wp (Kn g D MX3_putBeside post) (Tb b) 31 [some (rf g a), some (.int (nI x)), some (.long o), none, some (.int (nI t)), some (.int (nI y))] [] I (va_up L (a + 4) E) := by
  intro r
  induction r with
  | zero =>
    intro y E hy hE
    have ey : y = t := by omega
    subst ey
    refine wq_iload 33 dX3_putBeside_31 rfl rfl ?_
    refine wq_iload 35 dX3_putBeside_33 rfl rfl ?_
    refine wq_ic_ge 38 66 dX3_putBeside_35 rfl (by decide) (fun c35 => ?_) (fun c35 => absurd (nI_le (Nat.le_refl _) (by omega)) c35)
    refine rr dX3_putBeside_66 rfl ?_
    exact hp E hE
  | succ r ih =>
    intro y E hy hE
    refine wq_iload 33 dX3_putBeside_31 rfl rfl ?_
    refine wq_iload 35 dX3_putBeside_33 rfl rfl ?_
    refine wq_ic_ge 38 66 dX3_putBeside_35 rfl (by decide) (fun c35 => absurd c35 (nI_ge (by omega) (by omega))) (fun c35 => ?_)
    refine wq_lload_n 39 2 dX3_putBeside_38 rfl rfl rfl ?_
    refine wq_iload 41 dX3_putBeside_39 rfl rfl ?_
    refine cSi2 44 (sp_X7_has _ _) ml_X3_87 mf_X7_has dX3_putBeside_41 rfl (Nat.le_of_ble_eq_true rfl) (by omega) ?_
    refine wq_if_eq 47 60 dX3_putBeside_44 rfl (by decide) (fun c44 => ?_) (fun c44 => ?_)
    · skip
      refine wq_iinc 63 (_ + 1) [_, _, _, _, _, _] dX3_putBeside_60 rfl rfl (inc1 _) rfl (Nat.le_of_ble_eq_true rfl) rfl ?_
      refine wq_goto 31 dX3_putBeside_63 (by decide) ?_
      rw [← nI_succ]
      refine ih (y + 1) E (by omega) (fun u hu v hv => ?_)
      have hb := (hasX_eq0 o (k := y) (by omega)).mp c44
      rw [hE u hu v hv]
      by_cases e : u = y
      · subst e; simp [hb]
      · rw [decide_eq_decide.mpr (show u < y ↔ u < y + 1 by omega)]
    · skip
      refine wq_bload_n 48 0 dX3_putBeside_47 rfl rfl rfl ?_
      refine wq_getR 51 fl_X3_22 dX3_putBeside_48 rfl rfl (N_ob ha) (N_rf3 ha) ?_
      refine wq_iload 53 dX3_putBeside_51 rfl rfl ?_
      refine wq_dup2 54 dX3_putBeside_53 rfl rfl rfl ?_
      refine wq_lald 55 dX3_putBeside_54 rfl (N_ar3 ha) (Ix.nI (by omega) (by decide)) ?_
      refine wq_lconst 56 1 dX3_putBeside_55 rfl (by decide) ?_
      refine wq_iload_n 57 1 dX3_putBeside_56 rfl rfl rfl ?_
      refine wq_lshl 58 dX3_putBeside_57 rfl ?_
      refine wq_lor 59 dX3_putBeside_58 rfl ?_
      refine wq_last 60 dX3_putBeside_59 rfl (N_ar3 ha) (Ix.nI (by omega) (by decide)) ?_
      refine wq_iinc 63 (_ + 1) [_, _, _, _, _, _] dX3_putBeside_60 rfl rfl (inc1 _) rfl (Nat.le_of_ble_eq_true rfl) rfl ?_
      refine wq_goto 31 dX3_putBeside_63 (by decide) ?_
      rw [← nI_succ, va_up_self, va_up_up]
      refine ih (y + 1) _ (by omega) (fun u hu v hv => ?_)
      have hb := (hasX_ne0 o (k := y) (by omega)).mp c44
      by_cases e : u = y
      · subst e
        rw [va_up_self, tb_or, show (1 : Int64) <<< ((nI x).toInt64 &&& 63) = one (nI x) from rfl, tb_one hx, hE u hu v hv, hb]
        simp
      · rw [va_up_ne _ _ e, hE u hu v hv, decide_eq_decide.mpr (show u < y ↔ u < y + 1 by omega)]
set_option maxRecDepth 20000 in
set_option maxHeartbeats 2000000 in
theorem sp_X3_putBeside {g : Gl} {D : Nat} {b : Bool} {I : IM} {L : LM} {a x t : Nat} {o : Int64} (hD : 2 ≤ D) (ha : IsN a) (hx : x < 64) (ht : t ≤ 64) (ho : ∀ y, y < 64 → tb o y = true → y < t) : Me g D MX3_putBeside [rf g a, .int (nI x), .long o, .int (nI t)] b I L (fun r b' I' L' => r = none ∧ b' = b ∧ I' = I ∧ ∃ E, L' = va_up L (a + 4) E ∧ ∀ u, u < 64 → ∀ v, v < 64 → tb (E u) v = (tb (L (a + 4) u) v || (decide (u = x) && tb o v) || (decide (v = x) && tb o u))) := by
  refine Me.of [some (rf g a), some (.int (nI x)), some (.long o), none, some (.int (nI t)), none] 1 rfl pf_X3_putBeside (Nat.le_of_ble_eq_true rfl) ?_
  refine wq_iload_n 1 1 dX3_putBeside_0 rfl rfl rfl ?_
  refine wq_if_lt 4 17 dX3_putBeside_1 rfl (by decide) (fun c1 => absurd c1 (nI_pos (by omega))) (fun c1 => ?_)
  refine wq_iload_n 5 1 dX3_putBeside_4 rfl rfl rfl ?_
  refine wq_bipush 7 64 dX3_putBeside_5 rfl (by decide) ?_
  refine wq_ic_ge 10 17 dX3_putBeside_7 rfl (by decide) (fun c7 => absurd c7 (nI_ge (b := 64) (by omega) (by omega))) (fun c7 => ?_)
  refine wq_iload 12 dX3_putBeside_10 rfl rfl ?_
  refine wq_bipush 14 64 dX3_putBeside_12 rfl (by decide) ?_
  refine wq_ic_le 17 18 dX3_putBeside_14 rfl (by decide) (fun c14 => ?_) (fun c14 => absurd (nI_le (b := 64) (by omega) (by omega)) c14)
  refine wq_bload_n 19 0 dX3_putBeside_18 rfl rfl rfl ?_
  refine wq_getR 22 fl_X3_22 dX3_putBeside_19 rfl rfl (N_ob ha) (N_rf3 ha) ?_
  refine wq_iload_n 23 1 dX3_putBeside_22 rfl rfl rfl ?_
  refine wq_dup2 24 dX3_putBeside_23 rfl rfl rfl ?_
  refine wq_lald 25 dX3_putBeside_24 rfl (N_ar3 ha) (Ix.nI (by omega) (by decide)) ?_
  refine wq_lload_n 26 2 dX3_putBeside_25 rfl rfl rfl ?_
  refine wq_lor 27 dX3_putBeside_26 rfl ?_
  refine wq_last 28 dX3_putBeside_27 rfl (N_ar3 ha) (Ix.nI (by omega) (by decide)) ?_
  refine wq_iconst 29 0 dX3_putBeside_28 rfl (by decide) ?_
  refine wq_istore 31 [_, _, _, _, _, _] dX3_putBeside_29 rfl rfl (Nat.le_of_ble_eq_true rfl) rfl ?_
  refine lp_X3_putBeside (F := L (a + 4)) (by omega) ha hx ht (fun E hE => ⟨rfl, rfl, rfl, E, rfl, fun u hu v hv => ?_⟩) t 0 _ (by omega) (fun u hu v hv => ?_)
  · by_cases e : u = x
    · subst e; rw [va_up_self, tb_or]; simp
    · rw [va_up_ne _ _ e]; simp [e]
  · rw [hE u hu v hv]
    cases hb : tb o u
    · simp
    · rw [decide_eq_true (ho u hu hb), Bool.and_true]
theorem reg_row : ∀ x, x < 4 → ∀ y, y < 64 → tb ((15 : Int64) &&& (one (nI x) ^^^ (-1))) y = decide (x < 4 ∧ y < 4 ∧ x ≠ y) := by decide +kernel
theorem ed_merge (e tu tv mu mv : Bool) (u v x : Nat) : (e || (decide (u = x) && (tv && !decide (v = x) && !mv)) || (decide (v = x) && (tu && !decide (u = x) && !mu))) = (e || (decide (u = x) && tv && decide (u ≠ v) && !mv) || (decide (v = x) && tu && decide (v ≠ u) && !mu)) := by
  by_cases c1 : u = x
  · by_cases c2 : v = x
    · simp [c1, c2]
    · have c3 : ¬ x = v := fun e => c2 e.symm
      simp [c1, c2, c3]
  · by_cases c2 : v = x
    · have c3 : ¬ x = u := fun e => c1 e.symm
      simp [c1, c2, c3]
    · simp [c1, c2]
theorem bit_not (x y : Int64) {i : Nat} (hi : i < 64) : tb (x &&& (y ^^^ (-1))) i = (tb x i && !tb y i) := by rw [tb_and, tb_not _ hi]
set_option maxRecDepth 20000 in
set_option maxHeartbeats 2000000 in
theorem lp_X3_edges {g : Gl} {D : Nat} {b : Bool} {I : IM} {L : LM} {a l n B : Nat} {p : Pg} (hD : 3 ≤ D) (ha : IsN a) (hl : IsL l) (h : LR I L l n p) (hw : WfB B p n) (hH : ∀ i, i < n → L (a + 2) i = Lvb p n i) {post : Option Value → Bool → IM → LM → Prop} (hp : ∀ E, EdR E p (Lvb p n) n → post none b I (va_up L (a + 4) E)) : ∀ r m E k3 k4 k5, m + r = n → EdR E p (Lvb p n) m → Wp (Kn g D MX3_findEdges post) (Tb b) 40 [some (rf g a), some (rf g l), some (.int (nI m)), k3, k4, k5] [] I (va_up L (a + 4) E) := by
  have hc := h.2.1
  have hn := h.1
  have ap := fun i j hi hj => N_apart (i := i) (j := j) ha hl hi hj
  obtain ⟨t, t1, t2, t3, t4⟩ := TN_all p n
  intro r
  induction r with
  | zero =>
    intro m E k3 k4 k5 hm hE
    have em : m = n := by omega
    subst em
    refine wq_iload_n 41 2 dX3_findEdges_40 rfl rfl rfl ?_
    refine wq_bload_n 42 1 dX3_findEdges_41 rfl rfl rfl ?_
    refine wq_getI 45 fl_X3_51 dX3_findEdges_42 rfl rfl (L_ob hl) ?_
    refine wq_ic_ge 48 134 dX3_findEdges_45 rfl (by decide) (fun c45 => ?_) (fun c45 => absurd (by rw [hc]; exact nI_le (Nat.le_refl _) (by omega)) c45)
    refine rr dX3_findEdges_134 rfl ?_
    exact hp E hE
  | succ r ih =>
    intro m E k3 k4 k5 hm hE
    have hW := h.2.2.2.2.2.2.2.1 m (by omega)
    have hR := h.2.2.2.2.2.2.1 m (by omega)
    have hP := h.2.2.2.2.2.1 m (by omega) 0 (by omega)
    have hT := h.2.2.2.2.1
    have hLs := Lvb_sub (p := p) (n := n) (i := m) (by omega) (by omega)
    obtain ⟨k, x, y, z, hk, e0, e1, x1, -, -, -, -, -, -, -, -, hRd, hWr⟩ := row_form hw (i := m) (by omega)
    have hl0 : va_up L (a + 4) E (l + 2) = L (l + 2) := va_up_ne _ _ (fun e => ap 4 2 (by omega) (by omega) e.symm)
    have ha0 : va_up L (a + 4) E (a + 2) = L (a + 2) := va_up_ne _ _ (by omega)
    have nohit : ¬ (k < 4 ∨ k = 7) → EdR E p (Lvb p n) (m + 1) := by
      intro hk' u hu v hv
      have q : ∀ w, w < 64 → decide (Wr p m = nI w) = false := fun w hw' => by
        rw [hWr, if_neg hk']
        exact decide_eq_false (fun e => nI_pos (n := w) (by omega) (by rw [← e]; decide))
      rw [edB, hitB, hitB, q u hu, q v hv, hE u hu v hv]
      simp
    have J112 : ∀ o : Int64, (k < 4 ∨ k = 7) → (∀ y, y < 64 → tb o y = (tb (Lvb p n m) y && !decide (y = x) && !(decide (p m 0 = 1) && tb (Rd p m) y))) → Wp (Kn g D MX3_findEdges post) (Tb b) 112 [some (rf g a), some (rf g l), some (.int (nI m)), some (.int (nI x)), some (.long o), none] [] I (va_up L (a + 4) E) := by
      intro o hk' ho
      refine wq_bload_n 113 0 dX3_findEdges_112 rfl rfl rfl ?_
      refine wq_iload_n 114 3 dX3_findEdges_113 rfl rfl rfl ?_
      refine wq_lload 116 dX3_findEdges_114 rfl rfl ?_
      refine wq_bload_n 117 1 dX3_findEdges_116 rfl rfl rfl ?_
      refine wq_getI 120 fl_X3_80 dX3_findEdges_117 rfl rfl (L_ob hl) ?_
      refine wq_bipush 122 64 dX3_findEdges_120 rfl (by decide) ?_
      refine cSi2 125 (sp_J9_min_7cf53 _ _) ml_X3_57 mf_J9_min_7cf53 dX3_findEdges_122 rfl (Nat.le_of_ble_eq_true rfl) (by omega) ?_
      rw [hT, t1, show (64 : Int32) = nI 64 from rfl, minI_n t3 (by decide)]
      refine cVp3 128 (sp_X3_putBeside (by omega) ha x1 t3 (fun y hy hy2 => t4 y hy (hLs y (by rw [ho y hy] at hy2; simp at hy2; exact hy2.1.1)))) ml_X3_83 mf_X3_putBeside dX3_findEdges_125 rfl (N_ob ha) (by decide) rfl (Nat.le_of_ble_eq_true rfl) (by omega) ?_
      rintro _ b' I' L' ⟨rfl, rfl, rfl, E', rfl, hE'⟩
      rw [va_up_up]
      refine wq_iinc 131 (_ + 1) [_, _, _, _, _, _] dX3_findEdges_128 rfl rfl (inc1 _) rfl (Nat.le_of_ble_eq_true rfl) rfl ?_
      refine wq_goto 40 dX3_findEdges_131 (by decide) ?_
      rw [← nI_succ]
      refine ih (m + 1) E' _ _ _ (by omega) (fun u hu v hv => ?_)
      rw [hE' u hu v hv, va_up_self, hE u hu v hv, edB, ho v hv, ho u hu, hitB, hitB, hWr, if_pos hk']
      rw [decide_eq_decide.mpr (show nI x = nI u ↔ u = x from ⟨fun e => ((nI_eq (by omega) (by omega)).mp e).symm, fun e => by rw [e]⟩), decide_eq_decide.mpr (show nI x = nI v ↔ v = x from ⟨fun e => ((nI_eq (by omega) (by omega)).mp e).symm, fun e => by rw [e]⟩)]
      exact ed_merge _ _ _ _ _ _ _ _
    refine wq_iload_n 41 2 dX3_findEdges_40 rfl rfl rfl ?_
    refine wq_bload_n 42 1 dX3_findEdges_41 rfl rfl rfl ?_
    refine wq_getI 45 fl_X3_51 dX3_findEdges_42 rfl rfl (L_ob hl) ?_
    refine wq_ic_ge 48 134 dX3_findEdges_45 rfl (by decide) (fun c45 => absurd c45 (by rw [hc]; exact nI_ge (by omega) (by omega))) (fun c45 => ?_)
    refine wq_iload_n 49 2 dX3_findEdges_48 rfl rfl rfl ?_
    refine wq_bipush 51 90 dX3_findEdges_49 rfl (by decide) ?_
    refine wq_ic_ge 54 134 dX3_findEdges_51 rfl (by decide) (fun c51 => absurd c51 (nI_ge (b := 90) (by omega) (by decide))) (fun c51 => ?_)
    refine wq_bload_n 55 1 dX3_findEdges_54 rfl rfl rfl ?_
    refine wq_getR 58 fl_X3_67 dX3_findEdges_55 rfl rfl (L_ob hl) (L_rf2 hl) ?_
    refine wq_iload_n 59 2 dX3_findEdges_58 rfl rfl rfl ?_
    refine wq_iald 60 dX3_findEdges_59 rfl (L_ar2 hl) (Ix.nI (by omega) (by decide)) ?_
    rw [hW]
    refine wq_istore_n 61 3 [_, _, _, _, _, _] dX3_findEdges_60 rfl rfl rfl (Nat.le_of_ble_eq_true rfl) rfl ?_
    refine wq_iload_n 62 3 dX3_findEdges_61 rfl rfl rfl ?_
    refine wq_if_lt 65 128 dX3_findEdges_62 rfl (by decide) (fun c62 => ?_) (fun c62 => ?_)
    · skip
      refine wq_iinc 131 (_ + 1) [_, _, _, _, _, _] dX3_findEdges_128 rfl rfl (inc1 _) rfl (Nat.le_of_ble_eq_true rfl) rfl ?_
      refine wq_goto 40 dX3_findEdges_131 (by decide) ?_
      rw [← nI_succ]
      refine ih (m + 1) E _ _ _ (by omega) (nohit (fun hk' => ?_))
      rw [hWr, if_pos hk'] at c62
      exact nI_pos (n := x) (by omega) c62
    · skip
      refine wq_iload_n 66 3 dX3_findEdges_65 rfl rfl rfl ?_
      refine wq_bipush 68 64 dX3_findEdges_66 rfl (by decide) ?_
      refine wq_ic_ge 71 128 dX3_findEdges_68 rfl (by decide) (fun c68 => ?_) (fun c68 => ?_)
      · skip
        refine wq_iinc 131 (_ + 1) [_, _, _, _, _, _] dX3_findEdges_128 rfl rfl (inc1 _) rfl (Nat.le_of_ble_eq_true rfl) rfl ?_
        refine wq_goto 40 dX3_findEdges_131 (by decide) ?_
        exfalso
        rw [hWr] at c62 c68
        by_cases hk' : k < 4 ∨ k = 7
        · rw [if_pos hk'] at c68; exact nI_ge (b := 64) x1 (by decide) c68
        · rw [if_neg hk'] at c62; exact c62 (by decide)
      · skip
        have hk' : k < 4 ∨ k = 7 := by
          by_cases hk' : k < 4 ∨ k = 7
          · exact hk'
          · rw [hWr, if_neg hk'] at c62; exact absurd (by decide) c62
        rw [hWr, if_pos hk'] at c62 c68 ⊢
        refine wq_bload_n 72 0 dX3_findEdges_71 rfl rfl rfl ?_
        refine wq_getR 75 fl_X3_15 dX3_findEdges_72 rfl rfl (N_ob ha) (N_rf1 ha) ?_
        refine wq_iload_n 76 2 dX3_findEdges_75 rfl rfl rfl ?_
        refine wq_lald 77 dX3_findEdges_76 rfl (N_ar1 ha) (Ix.nI (by omega) (by decide)) ?_
        rw [ha0, hH m (by omega)]
        refine wq_lconst 78 1 dX3_findEdges_77 rfl (by decide) ?_
        refine wq_iload_n 79 3 dX3_findEdges_78 rfl rfl rfl ?_
        refine wq_lshl 80 dX3_findEdges_79 rfl ?_
        refine wq_ldc2 83 (-1) dX3_findEdges_80 rfl kc_X3_70 ?_
        refine wq_lxor 84 dX3_findEdges_83 rfl ?_
        refine wq_land 85 dX3_findEdges_84 rfl ?_
        refine wq_lstore 87 [_, _, _, _, _, _] dX3_findEdges_85 rfl rfl (Nat.le_of_ble_eq_true rfl) rfl ?_
        refine wq_bload_n 88 1 dX3_findEdges_87 rfl rfl rfl ?_
        refine wq_iload_n 89 2 dX3_findEdges_88 rfl rfl rfl ?_
        refine wq_iconst 90 0 dX3_findEdges_89 rfl (by decide) ?_
        refine cVi2 93 (sp_X2_partAt hl hc hn m 0 rfl rfl (by omega) (by omega)) ml_X3_77 mf_X2_partAt dX3_findEdges_90 rfl (L_ob hl) (by decide) rfl (Nat.le_of_ble_eq_true rfl) (by omega) ?_
        rw [hP]
        refine wq_iconst 94 1 dX3_findEdges_93 rfl (by decide) ?_
        refine wq_ic_ne 97 112 dX3_findEdges_94 rfl (by decide) (fun c94 => ?_) (fun c94 => ?_)
        · skip
          refine J112 _ hk' (fun y hy => ?_)
          rw [bit_not _ _ hy, show (1 : Int64) <<< ((nI x).toInt64 &&& 63) = one (nI x) from rfl, tb_one x1, decide_eq_false c94]
          simp
        · skip
          refine wq_lload 99 dX3_findEdges_97 rfl rfl ?_
          refine wq_bload_n 100 1 dX3_findEdges_99 rfl rfl rfl ?_
          refine wq_getR 103 fl_X3_72 dX3_findEdges_100 rfl rfl (L_ob hl) (L_rf1 hl) ?_
          refine wq_iload_n 104 2 dX3_findEdges_103 rfl rfl rfl ?_
          refine wq_lald 105 dX3_findEdges_104 rfl (L_ar1 hl) (Ix.nI (by omega) (by decide)) ?_
          rw [hl0, hR]
          refine wq_ldc2 108 (-1) dX3_findEdges_105 rfl kc_X3_70 ?_
          refine wq_lxor 109 dX3_findEdges_108 rfl ?_
          refine wq_land 110 dX3_findEdges_109 rfl ?_
          refine wq_lstore 112 [_, _, _, _, _, _] dX3_findEdges_110 rfl rfl (Nat.le_of_ble_eq_true rfl) rfl ?_
          refine J112 _ hk' (fun y hy => ?_)
          rw [bit_not _ _ hy, bit_not _ _ hy, show (1 : Int64) <<< ((nI x).toInt64 &&& 63) = one (nI x) from rfl, tb_one x1, decide_eq_true c94, Bool.true_and]
set_option maxRecDepth 20000 in
set_option maxHeartbeats 2000000 in
theorem lp_X3_regs {g : Gl} {D : Nat} {b : Bool} {I : IM} {L : LM} {a l n B : Nat} {p : Pg} (hD : 3 ≤ D) (ha : IsN a) (hl : IsL l) (h : LR I L l n p) (hw : WfB B p n) (hH : ∀ i, i < n → L (a + 2) i = Lvb p n i) {post : Option Value → Bool → IM → LM → Prop} (hp : ∀ E, EdR E p (Lvb p n) n → post none b I (va_up L (a + 4) E)) : ∀ r m E, m + r = 4 → (∀ x, x < 64 → ∀ y, y < 64 → tb (E x) y = decide (x < m ∧ y < 4 ∧ x ≠ y)) → Wp (Kn g D MX3_findEdges post) (Tb b) 10 [some (rf g a), some (rf g l), some (.int (nI m)), none, none, none] [] I (va_up L (a + 4) E) := by
  intro r
  induction r with
  | zero =>
    intro m E hm hE
    have em : m = 4 := by omega
    subst em
    refine wq_iload_n 11 2 dX3_findEdges_10 rfl rfl rfl ?_
    refine wq_iconst 12 4 dX3_findEdges_11 rfl (by decide) ?_
    refine wq_ic_ge 15 38 dX3_findEdges_12 rfl (by decide) (fun c12 => ?_) (fun c12 => absurd (by decide) c12)
    refine wq_iconst 39 0 dX3_findEdges_38 rfl (by decide) ?_
    refine wq_istore_n 40 2 [_, _, _, _, _, _] dX3_findEdges_39 rfl rfl rfl (Nat.le_of_ble_eq_true rfl) rfl ?_
    exact lp_X3_edges hD ha hl h hw hH hp n 0 E _ _ _ (by omega) hE
  | succ r ih =>
    intro m E hm hE
    refine wq_iload_n 11 2 dX3_findEdges_10 rfl rfl rfl ?_
    refine wq_iconst 12 4 dX3_findEdges_11 rfl (by decide) ?_
    refine wq_ic_ge 15 38 dX3_findEdges_12 rfl (by decide) (fun c12 => absurd c12 (nI_ge (b := 4) (by omega) (by decide))) (fun c12 => ?_)
    refine wq_bload_n 16 0 dX3_findEdges_15 rfl rfl rfl ?_
    refine wq_getR 19 fl_X3_22 dX3_findEdges_16 rfl rfl (N_ob ha) (N_rf3 ha) ?_
    refine wq_iload_n 20 2 dX3_findEdges_19 rfl rfl rfl ?_
    refine wq_ldc2 23 (15) dX3_findEdges_20 rfl kc_X3_75 ?_
    refine wq_lconst 24 1 dX3_findEdges_23 rfl (by decide) ?_
    refine wq_iload_n 25 2 dX3_findEdges_24 rfl rfl rfl ?_
    refine wq_lshl 26 dX3_findEdges_25 rfl ?_
    refine wq_ldc2 29 (-1) dX3_findEdges_26 rfl kc_X3_70 ?_
    refine wq_lxor 30 dX3_findEdges_29 rfl ?_
    refine wq_land 31 dX3_findEdges_30 rfl ?_
    refine wq_last 32 dX3_findEdges_31 rfl (N_ar3 ha) (Ix.nI (by omega) (by decide)) ?_
    refine wq_iinc 35 (_ + 1) [_, _, _, _, _, _] dX3_findEdges_32 rfl rfl (inc1 _) rfl (Nat.le_of_ble_eq_true rfl) rfl ?_
    refine wq_goto 10 dX3_findEdges_35 (by decide) ?_
    rw [← nI_succ, va_up_self, va_up_up]
    refine ih (m + 1) _ (by omega) (fun x hx y hy => ?_)
    by_cases e : x = m
    · subst e
      rw [va_up_self, show (1 : Int64) <<< ((nI x).toInt64 &&& 63) = one (nI x) from rfl, reg_row x (by omega) y hy]
      exact decide_eq_decide.mpr ⟨fun q => ⟨by omega, q.2⟩, fun q => ⟨by omega, q.2⟩⟩
    · rw [va_up_ne _ _ e, hE x hx y hy]
      exact decide_eq_decide.mpr ⟨fun q => ⟨by omega, q.2⟩, fun q => ⟨by omega, q.2⟩⟩
set_option maxRecDepth 20000 in
set_option maxHeartbeats 2000000 in
theorem sp_X3_findEdges {g : Gl} {D : Nat} {b : Bool} {I : IM} {L : LM} {a l n B : Nat} {p : Pg} (hD : 3 ≤ D) (ha : IsN a) (hl : IsL l) (h : LR I L l n p) (hw : WfB B p n) (hH : ∀ i, i < n → L (a + 2) i = Lvb p n i) : Me g D MX3_findEdges [rf g a, rf g l] b I L (fun r b' I' L' => r = none ∧ b' = b ∧ I' = I ∧ ∃ E, L' = va_up L (a + 4) E ∧ EdR E p (Lvb p n) n) := by
  refine Me.of [some (rf g a), some (rf g l), none, none, none, none] 4 rfl pf_X3_findEdges (Nat.le_of_ble_eq_true rfl) ?_
  refine wq_bload_n 1 0 dX3_findEdges_0 rfl rfl rfl ?_
  refine wq_getR 4 fl_X3_22 dX3_findEdges_1 rfl rfl (N_ob ha) (N_rf3 ha) ?_
  refine wq_lconst 5 0 dX3_findEdges_4 rfl (by decide) ?_
  refine cSv2 8 (sp_J7_fill_d0a16 (N_ar3 ha) (by decide) 0) ml_X3_41 mf_J7_fill_d0a16 dX3_findEdges_5 rfl (Nat.le_of_ble_eq_true rfl) (by omega) ?_
  refine wq_iconst 9 0 dX3_findEdges_8 rfl (by decide) ?_
  refine wq_istore_n 10 2 [_, _, _, _, _, _] dX3_findEdges_9 rfl rfl rfl (Nat.le_of_ble_eq_true rfl) rfl ?_
  refine lp_X3_regs hD ha hl h hw hH (fun E hE => ⟨rfl, rfl, rfl, E, rfl, hE⟩) 4 0 _ (by omega) (fun x hx y hy => ?_)
  rw [if_pos hx, tb_0]
  exact (decide_eq_false (by omega)).symm
