/-! the reference: join, layEdges -/
def jnB (x y u v : Nat) : Bool := decide (x ≠ y) && ((decide (u = x) && decide (v = y)) || (decide (u = y) && decide (v = x)))
theorem dlt_s (v q : Nat) : decide (v < q + 1) = (decide (v < q) || decide (v = q)) := by
  rw [← Bool.decide_or]
  exact decide_eq_decide.mpr (by omega)
theorem ed_in {e Pv Pu : Bool} {u v x q : Nat} (h1 : v = q → Pv = true) (h2 : u = q → Pu = true) : ((e || (decide (u = x) && (Pv && decide (u ≠ v)) && decide (v < q)) || (decide (v = x) && (Pu && decide (v ≠ u)) && decide (u < q))) || jnB x q u v) = (e || (decide (u = x) && (Pv && decide (u ≠ v)) && decide (v < q + 1)) || (decide (v = x) && (Pu && decide (v ≠ u)) && decide (u < q + 1))) := by
  rw [dlt_s, dlt_s]
  unfold jnB
  cases e
  · by_cases a3 : u = x
    · by_cases a4 : v = x
      · have : ¬ u ≠ v := by omega
        have : ¬ v ≠ u := by omega
        by_cases a1 : x = q
        · simp [*]
        · simp [*]
      · by_cases a1 : v = q
        · have := h1 a1
          have a5 : u ≠ v := by omega
          have a6 : x ≠ q := by omega
          simp [*]
        · simp [a1, a3, a4]
    · by_cases a4 : v = x
      · by_cases a2 : u = q
        · have := h2 a2
          have a5 : v ≠ u := by omega
          have a6 : x ≠ q := by omega
          simp [*]
        · simp [a2, a3, a4]
      · simp [a3, a4]
  · simp
theorem ed_out {e Pv Pu : Bool} {u v x q : Nat} (h1 : v = q → Pv = false) (h2 : u = q → Pu = false) : (e || (decide (u = x) && (Pv && decide (u ≠ v)) && decide (v < q)) || (decide (v = x) && (Pu && decide (v ≠ u)) && decide (u < q))) = (e || (decide (u = x) && (Pv && decide (u ≠ v)) && decide (v < q + 1)) || (decide (v = x) && (Pu && decide (v ≠ u)) && decide (u < q + 1))) := by
  rw [dlt_s, dlt_s]
  have g1 : (Pv && decide (v = q)) = false := by
    by_cases a : v = q
    · rw [h1 a, Bool.false_and]
    · simp [a]
  have g2 : (Pu && decide (u = q)) = false := by
    by_cases a : u = q
    · rw [h2 a, Bool.false_and]
    · simp [a]
  by_cases a1 : v = q
  · have := h1 a1
    by_cases a2 : u = q
    · have := h2 a2; simp [*]
    · simp [*]
  · by_cases a2 : u = q
    · have := h2 a2; simp [*]
    · simp [*]
set_option maxRecDepth 20000 in
set_option maxHeartbeats 2000000 in
theorem sp_X8_join {g : Gl} {D : Nat} {b : Bool} {I : IM} {L : LM} {x y : Nat} {i j : Int32} (hi : i = nI x) (hj : j = nI y) (hx : x < 64) (hy : y < 64) : Me g D MX8_join [rf g 71, .int i, .int j] b I L (fun r b' I' L' => r = none ∧ b' = b ∧ I' = I ∧ ∃ E, L' = va_up L 87 E ∧ ∀ u, u < 64 → ∀ v, v < 64 → tb (E u) v = (tb (L 87 u) v || jnB x y u v)) := by
  subst hi hj
  refine Me.of [some (rf g 71), some (.int (nI x)), some (.int (nI y))] 0 rfl pf_X8_join (Nat.le_of_ble_eq_true rfl) ?_
  refine wq_iload_n 1 1 dX8_join_0 rfl rfl rfl ?_
  refine wq_iload_n 2 2 dX8_join_1 rfl rfl rfl ?_
  refine wq_ic_eq 5 29 dX8_join_2 rfl (by decide) (fun c2 => ?_) (fun c2 => ?_)
  · skip
    refine rr dX8_join_29 rfl ?_
    have e := (nI_eq (by omega) (by omega)).mp c2
    exact ⟨rfl, rfl, rfl, L 87, (va_up_id L 87).symm, fun u hu v hv => by simp [jnB, e]⟩
  · skip
    refine wq_bload_n 6 0 dX8_join_5 rfl rfl rfl ?_
    refine wq_getR 9 fl_X8_60 dX8_join_6 rfl rfl o_71 (rfl : (Tb _).2.2.2 71 21 = some 87) ?_
    refine wq_iload_n 10 1 dX8_join_9 rfl rfl rfl ?_
    refine wq_dup2 11 dX8_join_10 rfl rfl rfl ?_
    refine wq_lald 12 dX8_join_11 rfl a_87 (Ix.nI (by omega) (by decide)) ?_
    refine wq_lconst 13 1 dX8_join_12 rfl (by decide) ?_
    refine wq_iload_n 14 2 dX8_join_13 rfl rfl rfl ?_
    refine wq_lshl 15 dX8_join_14 rfl ?_
    refine wq_lor 16 dX8_join_15 rfl ?_
    refine wq_last 17 dX8_join_16 rfl a_87 (Ix.nI (by omega) (by decide)) ?_
    refine wq_bload_n 18 0 dX8_join_17 rfl rfl rfl ?_
    refine wq_getR 21 fl_X8_60 dX8_join_18 rfl rfl o_71 (rfl : (Tb _).2.2.2 71 21 = some 87) ?_
    refine wq_iload_n 22 2 dX8_join_21 rfl rfl rfl ?_
    refine wq_dup2 23 dX8_join_22 rfl rfl rfl ?_
    refine wq_lald 24 dX8_join_23 rfl a_87 (Ix.nI (by omega) (by decide)) ?_
    refine wq_lconst 25 1 dX8_join_24 rfl (by decide) ?_
    refine wq_iload_n 26 1 dX8_join_25 rfl rfl rfl ?_
    refine wq_lshl 27 dX8_join_26 rfl ?_
    refine wq_lor 28 dX8_join_27 rfl ?_
    refine wq_last 29 dX8_join_28 rfl a_87 (Ix.nI (by omega) (by decide)) ?_
    refine rr dX8_join_29 rfl ?_
    have ne : x ≠ y := fun e => c2 (by rw [e])
    rw [va_up_self, va_up_up]
    refine ⟨rfl, rfl, rfl, _, rfl, fun u hu v hv => ?_⟩
    rw [show (1 : Int64) <<< ((nI x).toInt64 &&& 63) = one (nI x) from rfl, show (1 : Int64) <<< ((nI y).toInt64 &&& 63) = one (nI y) from rfl, va_up_ne _ _ (Ne.symm ne)]
    unfold jnB
    by_cases e1 : u = y
    · have e2 : ¬ y = x := fun e => ne e.symm
      rw [e1, va_up_self, tb_or, tb_one hx]
      simp [e2, ne]
    · rw [va_up_ne _ _ e1]
      by_cases e2 : u = x
      · rw [e2, va_up_self, tb_or, tb_one hy]
        simp [ne]
      · rw [va_up_ne _ _ e2]
        simp [e1, e2]
set_option maxRecDepth 20000 in
set_option maxHeartbeats 2000000 in
theorem lp_X8_edges {g : Gl} {D : Nat} {b : Bool} {I : IM} {L : LM} {n B : Nat} {p : Pg} (hD : 1 ≤ D) (h : NR I n p) (hw : WfB B p n) (hH : ∀ i, i < n → L 86 i = Lvb p n i) {post : Option Value → Bool → IM → LM → Prop} (hp : ∀ E, EdR E p (Lvb p n) n → post none b I (va_up L 87 E)) : ∀ r m E k2 k3, m + r = n → EdR E p (Lvb p n) m → Wp (Kn g D MX8_layEdges post) (Tb b) 59 [some (rf g 71), some (.int (nI m)), k2, k3] [] I (va_up L 87 E) := by
  have hn := h.1
  have hc := h.2.1
  intro r
  induction r with
  | zero =>
    intro m E k2 k3 hm hE
    have em : m = n := by omega
    subst em
    refine wq_iload_n 60 1 dX8_layEdges_59 rfl rfl rfl ?_
    refine wq_bload_n 61 0 dX8_layEdges_60 rfl rfl rfl ?_
    refine wq_getI 64 fl_X8_148 dX8_layEdges_61 rfl rfl o_71 ?_
    refine wq_ic_ge 67 153 dX8_layEdges_64 rfl (by decide) (fun c64 => ?_) (fun c64 => absurd (by rw [hc]; exact nI_le (Nat.le_refl _) (by omega)) c64)
    refine rr dX8_layEdges_153 rfl ?_
    exact hp E hE
  | succ r ih =>
    intro m E k2 k3 hm hE
    obtain ⟨q0, q1, q2, q3⟩ := h.2.2 m (by omega)
    obtain ⟨k, x, y, z, hk, e0, e1, x1, -, -, -, e2, -, -, -, -, hRd, hWr⟩ := row_form hw (i := m) (by omega)
    by_cases hk' : k < 4 ∨ k = 7
    · have hWd : ∀ u, u < 64 → decide (Wr p m = nI u) = decide (u = x) := fun u hu => by
        rw [hWr, if_pos hk']
        exact decide_eq_decide.mpr ⟨fun e => ((nI_eq (by omega) (by omega)).mp e).symm, fun e => by rw [e]⟩
      have hit : ∀ u v, u < 64 → hitB p (Lvb p n) m u v = (decide (u = x) && ((tb (Lvb p n m) v && !(decide (p m 0 = 1) && tb (Rd p m) v)) && decide (u ≠ v))) := by
        intro u v hu
        rw [hitB, hWd u hu]
        cases decide (u = x) <;> cases tb (Lvb p n m) v <;> cases decide (u ≠ v) <;> simp
      have hmv : ∀ q, q < 64 → ((p m 0 = 1 ∧ nI q = p m 2) ↔ (decide (p m 0 = 1) && tb (Rd p m) q) = true) := by
        intro q hq
        rw [Bool.and_eq_true, decide_eq_true_eq]
        refine and_congr_right (fun c => ?_)
        have hk1 : k = 1 := (nI_eq (a := k) (b := 1) (by omega) (by decide)).mp (by rw [← e0]; exact c)
        have w := e2 (by omega)
        rw [hRd, if_pos (Or.inl hk1), tb_one w.2, w.1, decide_eq_true_eq]
        exact nI_eq (by omega) (by omega)
      have inner : ∀ r q E k3, q + r = 64 → (∀ u, u < 64 → ∀ v, v < 64 → tb (E u) v = (edB p (Lvb p n) m u v || (hitB p (Lvb p n) m u v && decide (v < q)) || (hitB p (Lvb p n) m v u && decide (u < q)))) → Wp (Kn g D MX8_layEdges post) (Tb b) 69 [some (rf g 71), some (.int (nI m)), some (.int (nI q)), k3] [] I (va_up L 87 E) := by
        intro r
        induction r with
        | zero =>
          intro q E k3 hq hE
          have eq : q = 64 := by omega
          subst eq
          refine wq_iload_n 70 2 dX8_layEdges_69 rfl rfl rfl ?_
          refine wq_bipush 72 64 dX8_layEdges_70 rfl (by decide) ?_
          refine wq_ic_ge 75 147 dX8_layEdges_72 rfl (by decide) (fun c72 => ?_) (fun c72 => absurd (by decide) c72)
          refine wq_iinc 150 (_ + 1) [_, _, _, _] dX8_layEdges_147 rfl rfl (inc1 _) rfl (Nat.le_of_ble_eq_true rfl) rfl ?_
          refine wq_goto 59 dX8_layEdges_150 (by decide) ?_
          rw [← nI_succ]
          refine ih (m + 1) E _ _ (by omega) (fun u hu v hv => ?_)
          rw [hE u hu v hv, edB, decide_eq_true hu, decide_eq_true hv, Bool.and_true, Bool.and_true]
        | succ r ih2 =>
          intro q E k3 hq hE
          have J112 : ∀ (t : Int32) k3, t = bI (decide (p m 0 = 1) && tb (Rd p m) q) → Wp (Kn g D MX8_layEdges post) (Tb b) 112 [some (rf g 71), some (.int (nI m)), some (.int (nI q)), k3] [.int t] I (va_up L 87 E) := by
            intro t k3 ht
            subst ht
            refine wq_istore_n 113 3 [_, _, _, _] dX8_layEdges_112 rfl rfl rfl (Nat.le_of_ble_eq_true rfl) rfl ?_
            refine wq_bload_n 114 0 dX8_layEdges_113 rfl rfl rfl ?_
            refine wq_getR 117 fl_X8_57 dX8_layEdges_114 rfl rfl o_71 (rfl : (Tb _).2.2.2 71 20 = some 86) ?_
            refine wq_iload_n 118 1 dX8_layEdges_117 rfl rfl rfl ?_
            refine wq_lald 119 dX8_layEdges_118 rfl a_86 (Ix.nI (by omega) (by decide)) ?_
            rw [va_up_ne _ _ (by decide), hH m (by omega)]
            refine wq_iload_n 120 2 dX8_layEdges_119 rfl rfl rfl ?_
            refine cSi2 123 (sp_X8_has _ _) ml_X8_109 mf_X8_has dX8_layEdges_120 rfl (Nat.le_of_ble_eq_true rfl) (by omega) ?_
            refine wq_if_eq 126 141 dX8_layEdges_123 rfl (by decide) (fun c123 => ?_) (fun c123 => ?_)
            · skip
              refine wq_iinc 144 (_ + 1) [_, _, _, _] dX8_layEdges_141 rfl rfl (inc1 _) rfl (Nat.le_of_ble_eq_true rfl) rfl ?_
              refine wq_goto 69 dX8_layEdges_144 (by decide) ?_
              have hb := (hasM_eq0 (Lvb p n m) (k := q) (by omega)).mp c123
              rw [← nI_succ]
              refine ih2 (q + 1) E _ (by omega) (fun u hu v hv => ?_)
              rw [hE u hu v hv, hit u v hu, hit v u hv]
              exact ed_out (fun e => by rw [e, hb]; simp) (fun e => by rw [e, hb]; simp)
            · skip
              refine wq_iload_n 127 3 dX8_layEdges_126 rfl rfl rfl ?_
              refine wq_if_ne 130 141 dX8_layEdges_127 rfl (by decide) (fun c127 => ?_) (fun c127 => ?_)
              · skip
                refine wq_iinc 144 (_ + 1) [_, _, _, _] dX8_layEdges_141 rfl rfl (inc1 _) rfl (Nat.le_of_ble_eq_true rfl) rfl ?_
                refine wq_goto 69 dX8_layEdges_144 (by decide) ?_
                have hb := bI_ne.mp c127
                rw [← nI_succ]
                refine ih2 (q + 1) E _ (by omega) (fun u hu v hv => ?_)
                rw [hE u hu v hv, hit u v hu, hit v u hv]
                exact ed_out (fun e => by rw [e, hb]; simp) (fun e => by rw [e, hb]; simp)
              · skip
                refine wq_bload_n 131 0 dX8_layEdges_130 rfl rfl rfl ?_
                refine wq_bload_n 132 0 dX8_layEdges_131 rfl rfl rfl ?_
                refine wq_getR 135 fl_X8_32 dX8_layEdges_132 rfl rfl o_71 (rfl : (Tb _).2.2.2 71 10 = some 78) ?_
                refine wq_iload_n 136 1 dX8_layEdges_135 rfl rfl rfl ?_
                refine wq_iald 137 dX8_layEdges_136 rfl a_78 (Ix.nI (by omega) (by decide)) ?_
                refine wq_iload_n 138 2 dX8_layEdges_137 rfl rfl rfl ?_
                refine cVp2 141 (sp_X8_join (x := x) (by rw [q1, e1]) rfl x1 (by omega)) ml_X8_170 mf_X8_join dX8_layEdges_138 rfl o_71 (by decide) rfl (Nat.le_of_ble_eq_true rfl) (by omega) ?_
                rintro _ _ _ _ ⟨rfl, rfl, rfl, E', rfl, hE'⟩
                rw [va_up_up]
                refine wq_iinc 144 (_ + 1) [_, _, _, _] dX8_layEdges_141 rfl rfl (inc1 _) rfl (Nat.le_of_ble_eq_true rfl) rfl ?_
                refine wq_goto 69 dX8_layEdges_144 (by decide) ?_
                have hb := (hasM_ne0 (Lvb p n m) (k := q) (by omega)).mp c123
                have hb2 := bI_eq.mp c127
                rw [← nI_succ]
                refine ih2 (q + 1) E' _ (by omega) (fun u hu v hv => ?_)
                rw [hE' u hu v hv, va_up_self, hE u hu v hv, hit u v hu, hit v u hv]
                exact ed_in (fun e => by rw [e, hb, hb2]; rfl) (fun e => by rw [e, hb, hb2]; rfl)
          refine wq_iload_n 70 2 dX8_layEdges_69 rfl rfl rfl ?_
          refine wq_bipush 72 64 dX8_layEdges_70 rfl (by decide) ?_
          refine wq_ic_ge 75 147 dX8_layEdges_72 rfl (by decide) (fun c72 => absurd c72 (nI_ge (b := 64) (by omega) (by decide))) (fun c72 => ?_)
          refine wq_bload_n 76 0 dX8_layEdges_75 rfl rfl rfl ?_
          refine wq_getR 79 fl_X8_29 dX8_layEdges_76 rfl rfl o_71 (rfl : (Tb _).2.2.2 71 9 = some 77) ?_
          refine wq_iload_n 80 1 dX8_layEdges_79 rfl rfl rfl ?_
          refine wq_iald 81 dX8_layEdges_80 rfl a_77 (Ix.nI (by omega) (by decide)) ?_
          refine cSi1 84 (sp_X8_isWriting k (by rw [q0, e0]) hk) ml_X8_151 mf_X8_isWriting dX8_layEdges_81 rfl (Nat.le_of_ble_eq_true rfl) (by omega) ?_
          refine wq_if_eq 87 147 dX8_layEdges_84 rfl (by decide) (fun c84 => absurd c84 (by rw [if_pos hk']; decide)) (fun c84 => ?_)
          refine wq_bload_n 88 0 dX8_layEdges_87 rfl rfl rfl ?_
          refine wq_getR 91 fl_X8_29 dX8_layEdges_88 rfl rfl o_71 (rfl : (Tb _).2.2.2 71 9 = some 77) ?_
          refine wq_iload_n 92 1 dX8_layEdges_91 rfl rfl rfl ?_
          refine wq_iald 93 dX8_layEdges_92 rfl a_77 (Ix.nI (by omega) (by decide)) ?_
          rw [q0]
          refine wq_iconst 94 1 dX8_layEdges_93 rfl (by decide) ?_
          refine wq_ic_ne 97 111 dX8_layEdges_94 rfl (by decide) (fun c94 => ?_) (fun c94 => ?_)
          · skip
            refine wq_iconst 112 0 dX8_layEdges_111 rfl (by decide) ?_
            exact J112 0 _ (by rw [decide_eq_false c94, Bool.false_and]; rfl)
          · skip
            refine wq_iload_n 98 2 dX8_layEdges_97 rfl rfl rfl ?_
            refine wq_bload_n 99 0 dX8_layEdges_98 rfl rfl rfl ?_
            refine wq_getR 102 fl_X8_35 dX8_layEdges_99 rfl rfl o_71 (rfl : (Tb _).2.2.2 71 11 = some 79) ?_
            refine wq_iload_n 103 1 dX8_layEdges_102 rfl rfl rfl ?_
            refine wq_iald 104 dX8_layEdges_103 rfl a_79 (Ix.nI (by omega) (by decide)) ?_
            rw [q2]
            refine wq_ic_ne 107 111 dX8_layEdges_104 rfl (by decide) (fun c104 => ?_) (fun c104 => ?_)
            · skip
              refine wq_iconst 112 0 dX8_layEdges_111 rfl (by decide) ?_
              exact J112 0 _ (by rw [Bool.eq_false_iff.mpr (fun z => c104 (((hmv q (by omega)).mpr z).2))]; rfl)
            · skip
              refine wq_iconst 108 1 dX8_layEdges_107 rfl (by decide) ?_
              refine wq_goto 112 dX8_layEdges_108 (by decide) ?_
              exact J112 1 _ (by rw [(hmv q (by omega)).mp ⟨c94, c104⟩]; rfl)
      refine wq_iload_n 60 1 dX8_layEdges_59 rfl rfl rfl ?_
      refine wq_bload_n 61 0 dX8_layEdges_60 rfl rfl rfl ?_
      refine wq_getI 64 fl_X8_148 dX8_layEdges_61 rfl rfl o_71 ?_
      refine wq_ic_ge 67 153 dX8_layEdges_64 rfl (by decide) (fun c64 => absurd c64 (by rw [hc]; exact nI_ge (by omega) (by omega))) (fun c64 => ?_)
      refine wq_iconst 68 0 dX8_layEdges_67 rfl (by decide) ?_
      refine wq_istore_n 69 2 [_, _, _, _] dX8_layEdges_68 rfl rfl rfl (Nat.le_of_ble_eq_true rfl) rfl ?_
      exact inner 64 0 E _ (by omega) (fun u hu v hv => by rw [hE u hu v hv]; simp)
    · have nohit : ∀ u v, u < 64 → hitB p (Lvb p n) m u v = false := by
        intro u v hu
        rw [hitB, hWr, if_neg hk', decide_eq_false (fun e => nI_pos (n := u) (by omega) (by rw [← e]; decide))]
        rfl
      refine wq_iload_n 60 1 dX8_layEdges_59 rfl rfl rfl ?_
      refine wq_bload_n 61 0 dX8_layEdges_60 rfl rfl rfl ?_
      refine wq_getI 64 fl_X8_148 dX8_layEdges_61 rfl rfl o_71 ?_
      refine wq_ic_ge 67 153 dX8_layEdges_64 rfl (by decide) (fun c64 => absurd c64 (by rw [hc]; exact nI_ge (by omega) (by omega))) (fun c64 => ?_)
      refine wq_iconst 68 0 dX8_layEdges_67 rfl (by decide) ?_
      refine wq_istore_n 69 2 [_, _, _, _] dX8_layEdges_68 rfl rfl rfl (Nat.le_of_ble_eq_true rfl) rfl ?_
      refine wq_iload_n 70 2 dX8_layEdges_69 rfl rfl rfl ?_
      refine wq_bipush 72 64 dX8_layEdges_70 rfl (by decide) ?_
      refine wq_ic_ge 75 147 dX8_layEdges_72 rfl (by decide) (fun c72 => absurd c72 (by decide)) (fun c72 => ?_)
      refine wq_bload_n 76 0 dX8_layEdges_75 rfl rfl rfl ?_
      refine wq_getR 79 fl_X8_29 dX8_layEdges_76 rfl rfl o_71 (rfl : (Tb _).2.2.2 71 9 = some 77) ?_
      refine wq_iload_n 80 1 dX8_layEdges_79 rfl rfl rfl ?_
      refine wq_iald 81 dX8_layEdges_80 rfl a_77 (Ix.nI (by omega) (by decide)) ?_
      refine cSi1 84 (sp_X8_isWriting k (by rw [q0, e0]) hk) ml_X8_151 mf_X8_isWriting dX8_layEdges_81 rfl (Nat.le_of_ble_eq_true rfl) (by omega) ?_
      refine wq_if_eq 87 147 dX8_layEdges_84 rfl (by decide) (fun c84 => ?_) (fun c84 => absurd (by rw [if_neg hk']) c84)
      refine wq_iinc 150 (_ + 1) [_, _, _, _] dX8_layEdges_147 rfl rfl (inc1 _) rfl (Nat.le_of_ble_eq_true rfl) rfl ?_
      refine wq_goto 59 dX8_layEdges_150 (by decide) ?_
      rw [← nI_succ]
      exact ih (m + 1) E _ _ (by omega) (fun u hu v hv => by rw [hE u hu v hv, edB, nohit u v hu, nohit v u hv, Bool.or_false, Bool.or_false])
def rgB (a c u v : Nat) : Bool := decide (u ≠ v ∧ ((u < a ∧ v < a) ∨ (u = a ∧ v < c) ∨ (v = a ∧ u < c)))
theorem rg_join {a c : Nat} (hc : c < a) (u v : Nat) : (rgB a c u v || jnB a c u v) = rgB a (c + 1) u v := by
  unfold rgB jnB
  rw [← Bool.decide_and, ← Bool.decide_and, ← Bool.decide_or, ← Bool.decide_and, ← Bool.decide_or]
  exact decide_eq_decide.mpr (by omega)
theorem rg_next (a u v : Nat) : rgB a a u v = rgB (a + 1) 0 u v := by
  unfold rgB
  exact decide_eq_decide.mpr (by omega)
set_option maxRecDepth 20000 in
set_option maxHeartbeats 2000000 in
theorem lp_X8_regs {g : Gl} {D : Nat} {b : Bool} {I : IM} {L : LM} {n B : Nat} {p : Pg} (hD : 1 ≤ D) (h : NR I n p) (hw : WfB B p n) (hH : ∀ i, i < n → L 86 i = Lvb p n i) {post : Option Value → Bool → IM → LM → Prop} (hp : ∀ E, EdR E p (Lvb p n) n → post none b I (va_up L 87 E)) : ∀ r a E k2 k3, a + r = 4 → (∀ u, u < 64 → ∀ v, v < 64 → tb (E u) v = rgB a 0 u v) → Wp (Kn g D MX8_layEdges post) (Tb b) 27 [some (rf g 71), some (.int (nI a)), k2, k3] [] I (va_up L 87 E) := by
  intro r
  induction r with
  | zero =>
    intro a E k2 k3 ha hE
    have ea : a = 4 := by omega
    subst ea
    refine wq_iload_n 28 1 dX8_layEdges_27 rfl rfl rfl ?_
    refine wq_iconst 29 4 dX8_layEdges_28 rfl (by decide) ?_
    refine wq_ic_ge 32 57 dX8_layEdges_29 rfl (by decide) (fun c29 => ?_) (fun c29 => absurd (by decide) c29)
    refine wq_iconst 58 0 dX8_layEdges_57 rfl (by decide) ?_
    refine wq_istore_n 59 1 [_, _, _, _] dX8_layEdges_58 rfl rfl rfl (Nat.le_of_ble_eq_true rfl) rfl ?_
    refine lp_X8_edges hD h hw hH hp n 0 E _ _ (by omega) (fun u hu v hv => ?_)
    rw [hE u hu v hv, edB, rgB]
    exact decide_eq_decide.mpr (by omega)
  | succ r ih =>
    intro a E k2 k3 ha hE
    have inner : ∀ r c E k3, c + r = a → (∀ u, u < 64 → ∀ v, v < 64 → tb (E u) v = rgB a c u v) → Wp (Kn g D MX8_layEdges post) (Tb b) 34 [some (rf g 71), some (.int (nI a)), some (.int (nI c)), k3] [] I (va_up L 87 E) := by
      intro r
      induction r with
      | zero =>
        intro c E k3 hc hE
        have ec : c = a := by omega
        subst ec
        refine wq_iload_n 35 2 dX8_layEdges_34 rfl rfl rfl ?_
        refine wq_iload_n 36 1 dX8_layEdges_35 rfl rfl rfl ?_
        refine wq_ic_ge 39 51 dX8_layEdges_36 rfl (by decide) (fun c36 => ?_) (fun c36 => absurd (nI_le (Nat.le_refl _) (by omega)) c36)
        refine wq_iinc 54 (_ + 1) [_, _, _, _] dX8_layEdges_51 rfl rfl (inc1 _) rfl (Nat.le_of_ble_eq_true rfl) rfl ?_
        refine wq_goto 27 dX8_layEdges_54 (by decide) ?_
        rw [← nI_succ]
        exact ih (c + 1) E _ _ (by omega) (fun u hu v hv => by rw [hE u hu v hv, rg_next])
      | succ r ih2 =>
        intro c E k3 hc hE
        refine wq_iload_n 35 2 dX8_layEdges_34 rfl rfl rfl ?_
        refine wq_iload_n 36 1 dX8_layEdges_35 rfl rfl rfl ?_
        refine wq_ic_ge 39 51 dX8_layEdges_36 rfl (by decide) (fun c36 => absurd c36 (nI_ge (by omega) (by omega))) (fun c36 => ?_)
        refine wq_bload_n 40 0 dX8_layEdges_39 rfl rfl rfl ?_
        refine wq_iload_n 41 1 dX8_layEdges_40 rfl rfl rfl ?_
        refine wq_iload_n 42 2 dX8_layEdges_41 rfl rfl rfl ?_
        refine cVp2 45 (sp_X8_join rfl rfl (by omega) (by omega)) ml_X8_170 mf_X8_join dX8_layEdges_42 rfl o_71 (by decide) rfl (Nat.le_of_ble_eq_true rfl) (by omega) ?_
        rintro _ _ _ _ ⟨rfl, rfl, rfl, E', rfl, hE'⟩
        rw [va_up_up]
        refine wq_iinc 48 (_ + 1) [_, _, _, _] dX8_layEdges_45 rfl rfl (inc1 _) rfl (Nat.le_of_ble_eq_true rfl) rfl ?_
        refine wq_goto 34 dX8_layEdges_48 (by decide) ?_
        rw [← nI_succ]
        exact ih2 (c + 1) E' _ (by omega) (fun u hu v hv => by rw [hE' u hu v hv, va_up_self, hE u hu v hv, rg_join (by omega)])
    refine wq_iload_n 28 1 dX8_layEdges_27 rfl rfl rfl ?_
    refine wq_iconst 29 4 dX8_layEdges_28 rfl (by decide) ?_
    refine wq_ic_ge 32 57 dX8_layEdges_29 rfl (by decide) (fun c29 => absurd c29 (nI_ge (b := 4) (by omega) (by decide))) (fun c29 => ?_)
    refine wq_iconst 33 0 dX8_layEdges_32 rfl (by decide) ?_
    refine wq_istore_n 34 2 [_, _, _, _] dX8_layEdges_33 rfl rfl rfl (Nat.le_of_ble_eq_true rfl) rfl ?_
    exact inner a 0 E _ (by omega) hE
set_option maxRecDepth 20000 in
set_option maxHeartbeats 2000000 in
theorem lp_X8_noedge {g : Gl} {D : Nat} {b : Bool} {I : IM} {L : LM} {n B : Nat} {p : Pg} (hD : 1 ≤ D) (h : NR I n p) (hw : WfB B p n) (hH : ∀ i, i < n → L 86 i = Lvb p n i) {post : Option Value → Bool → IM → LM → Prop} (hp : ∀ E, EdR E p (Lvb p n) n → post none b I (va_up L 87 E)) : ∀ r a E, a + r = 64 → (∀ u, u < a → E u = 0) → Wp (Kn g D MX8_layEdges post) (Tb b) 6 [some (rf g 71), some (.int (nI a)), none, none] [] I (va_up L 87 E) := by
  intro r
  induction r with
  | zero =>
    intro a E ha hE
    have ea : a = 64 := by omega
    subst ea
    refine wq_iload_n 7 1 dX8_layEdges_6 rfl rfl rfl ?_
    refine wq_bipush 9 64 dX8_layEdges_7 rfl (by decide) ?_
    refine wq_ic_ge 12 25 dX8_layEdges_9 rfl (by decide) (fun c9 => ?_) (fun c9 => absurd (by decide) c9)
    refine wq_iconst 26 0 dX8_layEdges_25 rfl (by decide) ?_
    refine wq_istore_n 27 1 [_, _, _, _] dX8_layEdges_26 rfl rfl rfl (Nat.le_of_ble_eq_true rfl) rfl ?_
    refine lp_X8_regs hD h hw hH hp 4 0 E _ _ (by omega) (fun u hu v hv => ?_)
    rw [hE u hu, tb_0, rgB]
    exact (decide_eq_false (by omega)).symm
  | succ r ih =>
    intro a E ha hE
    refine wq_iload_n 7 1 dX8_layEdges_6 rfl rfl rfl ?_
    refine wq_bipush 9 64 dX8_layEdges_7 rfl (by decide) ?_
    refine wq_ic_ge 12 25 dX8_layEdges_9 rfl (by decide) (fun c9 => absurd c9 (nI_ge (b := 64) (by omega) (by decide))) (fun c9 => ?_)
    refine wq_bload_n 13 0 dX8_layEdges_12 rfl rfl rfl ?_
    refine wq_getR 16 fl_X8_60 dX8_layEdges_13 rfl rfl o_71 (rfl : (Tb _).2.2.2 71 21 = some 87) ?_
    refine wq_iload_n 17 1 dX8_layEdges_16 rfl rfl rfl ?_
    refine wq_lconst 18 0 dX8_layEdges_17 rfl (by decide) ?_
    refine wq_last 19 dX8_layEdges_18 rfl a_87 (Ix.nI (by omega) (by decide)) ?_
    refine wq_iinc 22 (_ + 1) [_, _, _, _] dX8_layEdges_19 rfl rfl (inc1 _) rfl (Nat.le_of_ble_eq_true rfl) rfl ?_
    refine wq_goto 6 dX8_layEdges_22 (by decide) ?_
    rw [← nI_succ, va_up_self, va_up_up]
    refine ih (a + 1) _ (by omega) (fun u hu => ?_)
    by_cases e : u = a
    · rw [e, va_up_self]
    · rw [va_up_ne _ _ e]; exact hE u (by omega)
set_option maxRecDepth 20000 in
set_option maxHeartbeats 2000000 in
theorem sp_X8_layEdges {g : Gl} {D : Nat} {b : Bool} {I : IM} {L : LM} {n B : Nat} {p : Pg} (hD : 3 ≤ D) (h : NR I n p) (hw : WfB B p n) : Me g D MX8_layEdges [rf g 71] b I L (fun r b' I' L' => r = none ∧ b' = b ∧ I' = I ∧ EdR (L' 87) p (Lvb p n) n ∧ ∀ x, x ∉ [85, 86, 87] → L' x = L x) := by
  refine Me.of [some (rf g 71), none, none, none] 3 rfl pf_X8_layEdges (Nat.le_of_ble_eq_true rfl) ?_
  refine wq_bload_n 1 0 dX8_layEdges_0 rfl rfl rfl ?_
  refine cVp0 4 (sp_X8_layLives (by omega) h hw) ml_X8_167 mf_X8_layLives dX8_layEdges_1 rfl o_71 (by decide) rfl (Nat.le_of_ble_eq_true rfl) (by omega) ?_
  rintro _ _ _ _ ⟨rfl, rfl, rfl, S, rfl, hS⟩
  refine wq_iconst 5 0 dX8_layEdges_4 rfl (by decide) ?_
  refine wq_istore_n 6 1 [_, _, _, _] dX8_layEdges_5 rfl rfl rfl (Nat.le_of_ble_eq_true rfl) rfl ?_
  rw [← va_up_id (lvMem L 84 S) 87]
  refine lp_X8_noedge (by omega) h hw (fun i hi => by rw [lvMem_2 L 84]; exact hS i hi) (fun E hE => ⟨rfl, rfl, rfl, by rw [va_up_self]; exact hE, fun x hx => ?_⟩) 64 0 _ (by omega) (fun u hu => by omega)
  simp at hx
  rw [va_up_ne _ _ hx.2.2, lvMem_o _ _ _ hx.1 hx.2.1]
