/-! the reference: isLooped, costOf -/
set_option maxRecDepth 20000 in
set_option maxHeartbeats 2000000 in
theorem lp_X8_isLooped {g : Gl} {D : Nat} {b : Bool} {I : IM} {L : LM} {n B j : Nat} {p : Pg} (hD : 1 ≤ D) (h : NR I n p) (hw : WfB B p n) (hj : j < n) {post : Option Value → Bool → IM → LM → Prop} (hp : post (some (.int (bI (lpB p n n j)))) b I L) : ∀ r k k3, k + r = n → j ≤ k → ¬ LpP p n k j → Wp (Kn g D MX8_isLooped post) (Tb b) 2 [some (rf g 71), some (.int (nI j)), some (.int (nI k)), k3] [] I L := by
  have hn := h.1
  have hc := h.2.1
  intro r
  induction r with
  | zero =>
    intro k k3 hk hjk hl
    have ek : k = n := by omega
    subst ek
    rw [Bool.eq_false_iff.mpr (fun z => hl ((lpB_iff hn k j).mp z))] at hp
    refine wq_iload_n 3 2 dX8_isLooped_2 rfl rfl rfl ?_
    refine wq_bload_n 4 0 dX8_isLooped_3 rfl rfl rfl ?_
    refine wq_getI 7 fl_X8_148 dX8_isLooped_4 rfl rfl o_71 ?_
    refine wq_ic_ge 10 59 dX8_isLooped_7 rfl (by decide) (fun c7 => ?_) (fun c7 => absurd (by rw [hc]; exact nI_le (Nat.le_refl _) (by omega)) c7)
    refine wq_iconst 60 0 dX8_isLooped_59 rfl (by decide) ?_
    refine ri .boolean dX8_isLooped_60 rfl rfl ?_
    exact hp
  | succ r ih =>
    intro k k3 hk hjk hl
    obtain ⟨q0, q1, q2, q3⟩ := h.2.2 k (by omega)
    have J36 : ∀ t : Int32, t = Tg p n k → Wp (Kn g D MX8_isLooped post) (Tb b) 36 [some (rf g 71), some (.int (nI j)), some (.int (nI k)), k3] [.int t] I L := by
      intro t ht
      subst ht
      rcases Tg_lt p n k with c | ⟨t, t1, t2, t3⟩
      · skip
        refine wq_istore_n 37 3 [_, _, _, _] dX8_isLooped_36 rfl rfl rfl (Nat.le_of_ble_eq_true rfl) rfl ?_
        refine wq_iload_n 38 3 dX8_isLooped_37 rfl rfl rfl ?_
        refine wq_if_lt 41 53 dX8_isLooped_38 rfl (by decide) (fun c38 => ?_) (fun c38 => absurd c c38)
        refine wq_iinc 56 (_ + 1) [_, _, _, _] dX8_isLooped_53 rfl rfl (inc1 _) rfl (Nat.le_of_ble_eq_true rfl) rfl ?_
        refine wq_goto 2 dX8_isLooped_56 (by decide) ?_
        rw [← nI_succ]
        exact ih (k + 1) _ (by omega) (by omega) (fun z => hl ((LpP_no hn (Or.inl c)).mp z))
      · have hk6 : p k 0 = 6 := Decidable.byContradiction (fun z => by
          unfold Tg at t2
          rw [if_neg z] at t2
          exact nI_pos (n := t) (by omega) (by rw [← t2]; decide))
        have htk : t ≠ k := fun e => by
          rw [e, hk6] at t3
          exact absurd t3 (by decide)
        rw [t2]
        by_cases q : t ≤ j
        · have hL : LpP p n n j := ⟨k, t, by omega, hjk, t2, t1, q⟩
          rw [(lpB_iff hn n j).mpr hL] at hp
          refine wq_istore_n 37 3 [_, _, _, _] dX8_isLooped_36 rfl rfl rfl (Nat.le_of_ble_eq_true rfl) rfl ?_
          refine wq_iload_n 38 3 dX8_isLooped_37 rfl rfl rfl ?_
          refine wq_if_lt 41 53 dX8_isLooped_38 rfl (by decide) (fun c38 => absurd c38 (nI_pos (by omega))) (fun c38 => ?_)
          refine wq_iload_n 42 3 dX8_isLooped_41 rfl rfl rfl ?_
          refine wq_iload_n 43 1 dX8_isLooped_42 rfl rfl rfl ?_
          refine wq_ic_gt 46 53 dX8_isLooped_43 rfl (by decide) (fun c43 => absurd c43 (nI_nlt q (by omega))) (fun c43 => ?_)
          refine wq_iload_n 47 3 dX8_isLooped_46 rfl rfl rfl ?_
          refine wq_iload_n 48 2 dX8_isLooped_47 rfl rfl rfl ?_
          refine wq_ic_ge 51 53 dX8_isLooped_48 rfl (by decide) (fun c48 => absurd c48 (nI_ge (by omega) (by omega))) (fun c48 => ?_)
          refine wq_iconst 52 1 dX8_isLooped_51 rfl (by decide) ?_
          refine ri .boolean dX8_isLooped_52 rfl rfl ?_
          exact hp
        · skip
          refine wq_istore_n 37 3 [_, _, _, _] dX8_isLooped_36 rfl rfl rfl (Nat.le_of_ble_eq_true rfl) rfl ?_
          refine wq_iload_n 38 3 dX8_isLooped_37 rfl rfl rfl ?_
          refine wq_if_lt 41 53 dX8_isLooped_38 rfl (by decide) (fun c38 => absurd c38 (nI_pos (by omega))) (fun c38 => ?_)
          refine wq_iload_n 42 3 dX8_isLooped_41 rfl rfl rfl ?_
          refine wq_iload_n 43 1 dX8_isLooped_42 rfl rfl rfl ?_
          refine wq_ic_gt 46 53 dX8_isLooped_43 rfl (by decide) (fun c43 => ?_) (fun c43 => absurd (nI_lt (by omega) (by omega)) c43)
          refine wq_iinc 56 (_ + 1) [_, _, _, _] dX8_isLooped_53 rfl rfl (inc1 _) rfl (Nat.le_of_ble_eq_true rfl) rfl ?_
          refine wq_goto 2 dX8_isLooped_56 (by decide) ?_
          rw [← nI_succ]
          exact ih (k + 1) _ (by omega) (by omega) (fun z => ((LpP_yes hn t1 t2).mp z).elim hl (fun z => q z.1))
    refine wq_iload_n 3 2 dX8_isLooped_2 rfl rfl rfl ?_
    refine wq_bload_n 4 0 dX8_isLooped_3 rfl rfl rfl ?_
    refine wq_getI 7 fl_X8_148 dX8_isLooped_4 rfl rfl o_71 ?_
    refine wq_ic_ge 10 59 dX8_isLooped_7 rfl (by decide) (fun c7 => absurd c7 (by rw [hc]; exact nI_ge (by omega) (by omega))) (fun c7 => ?_)
    refine wq_bload_n 11 0 dX8_isLooped_10 rfl rfl rfl ?_
    refine wq_getR 14 fl_X8_29 dX8_isLooped_11 rfl rfl o_71 (rfl : (Tb _).2.2.2 71 9 = some 77) ?_
    refine wq_iload_n 15 2 dX8_isLooped_14 rfl rfl rfl ?_
    refine wq_iald 16 dX8_isLooped_15 rfl a_77 (Ix.nI (by omega) (by decide)) ?_
    rw [q0]
    refine wq_bipush 18 6 dX8_isLooped_16 rfl (by decide) ?_
    refine wq_ic_ne 21 34 dX8_isLooped_18 rfl (by decide) (fun c18 => ?_) (fun c18 => ?_)
    · skip
      refine wq_bipush 36 (-6) dX8_isLooped_34 rfl (by decide) ?_
      exact J36 _ (by rw [Tg, if_neg c18])
    · skip
      obtain ⟨y2, w1, w2, w3⟩ := tg_m hw (show k < n by omega) c18
      refine wq_bload_n 22 0 dX8_isLooped_21 rfl rfl rfl ?_
      refine wq_bload_n 23 0 dX8_isLooped_22 rfl rfl rfl ?_
      refine wq_getR 26 fl_X8_35 dX8_isLooped_23 rfl rfl o_71 (rfl : (Tb _).2.2.2 71 11 = some 79) ?_
      refine wq_iload_n 27 2 dX8_isLooped_26 rfl rfl rfl ?_
      refine wq_iald 28 dX8_isLooped_27 rfl a_79 (Ix.nI (by omega) (by decide)) ?_
      refine cVi1 31 (sp_X8_labelOf h y2 (by rw [q2, w1])) ml_X8_155 mf_X8_labelOf dX8_isLooped_28 rfl o_71 (by decide) rfl (Nat.le_of_ble_eq_true rfl) (by omega) ?_
      refine wq_goto 36 dX8_isLooped_31 (by decide) ?_
      exact J36 _ w3.symm
theorem LpP_self {p : Pg} {n j : Nat} (hn : n ≤ 90) (hj : j < n) : ¬ LpP p n j j := fun ⟨m, t, h1, h2, _⟩ => by omega
set_option maxRecDepth 20000 in
theorem sp_X8_isLooped {g : Gl} {D : Nat} {b : Bool} {I : IM} {L : LM} {n B : Nat} {p : Pg} (hD : 1 ≤ D) (h : NR I n p) (hw : WfB B p n) {i : Int32} (j : Nat) (hi : i = nI j) (hj : j < n) : Md g D MX8_isLooped [rf g 71, .int i] b I L (some (.int (bI (lpB p n n j)))) b I L := by
  subst hi
  refine Me.of [some (rf g 71), some (.int (nI j)), none, none] 2 rfl pf_X8_isLooped (Nat.le_of_ble_eq_true rfl) ?_
  refine wq_iload_n 1 1 dX8_isLooped_0 rfl rfl rfl ?_
  refine wq_istore_n 2 2 [_, _, _, _] dX8_isLooped_1 rfl rfl rfl (Nat.le_of_ble_eq_true rfl) rfl ?_
  exact lp_X8_isLooped hD h hw hj ⟨rfl, rfl, rfl, rfl⟩ (n - j) j none (by omega) (Nat.le_refl _) (LpP_self h.1 hj)
theorem nmP_row {B : Nat} {p : Pg} {i k x y z : Nat} (h : RF B p i k x y z) : nmP p i 1 = (if k = 5 then -6 else nI x) ∧ nmP p i 2 = (if k = 1 ∨ k = 2 ∨ k = 3 then nI y else -6) ∧ nmP p i 3 = (if k = 2 then nI z else -6) := by
  obtain ⟨hk, e0, e1, x1, -, -, -, e2, -, -, e3, -, -, -⟩ := h
  have nm : ∀ w v, v < 64 → p i w = nI v → (shp (nI k) (nI w) = 114 ∨ shp (nI k) (nI w) = 119) → nmP p i w = nI v := by
    intro w v hv hw hs
    unfold nmP
    rw [e0, if_pos hs, hw, if_neg (nI_pos (by omega)), if_neg (show ¬ (64 : Int32) ≤ nI v from nI_ge (b := 64) hv (by decide))]
  have no : ∀ w, ¬ (shp (nI k) (nI w) = 114 ∨ shp (nI k) (nI w) = 119) → nmP p i w = -6 := by
    intro w hs
    unfold nmP
    rw [e0, if_neg hs]
  have hk9 : k = 0 ∨ k = 1 ∨ k = 2 ∨ k = 3 ∨ k = 4 ∨ k = 5 ∨ k = 6 ∨ k = 7 ∨ k = 8 := by omega
  rcases hk9 with rfl | rfl | rfl | rfl | rfl | rfl | rfl | rfl | rfl
  · exact ⟨nm 1 x x1 e1 (by decide), no 2 (by decide), no 3 (by decide)⟩
  · exact ⟨nm 1 x x1 e1 (by decide), nm 2 y (e2 (by omega)).2 (e2 (by omega)).1 (by decide), no 3 (by decide)⟩
  · exact ⟨nm 1 x x1 e1 (by decide), nm 2 y (e2 (by omega)).2 (e2 (by omega)).1 (by decide), nm 3 z (e3 rfl).2.2 (e3 rfl).1 (by decide)⟩
  · exact ⟨nm 1 x x1 e1 (by decide), nm 2 y (e2 (by omega)).2 (e2 (by omega)).1 (by decide), no 3 (by decide)⟩
  · exact ⟨nm 1 x x1 e1 (by decide), no 2 (by decide), no 3 (by decide)⟩
  · exact ⟨no 1 (by decide), no 2 (by decide), no 3 (by decide)⟩
  · exact ⟨nm 1 x x1 e1 (by decide), no 2 (by decide), no 3 (by decide)⟩
  · exact ⟨nm 1 x x1 e1 (by decide), no 2 (by decide), no 3 (by decide)⟩
  · exact ⟨nm 1 x x1 e1 (by decide), no 2 (by decide), no 3 (by decide)⟩
theorem neg_ne {u : Nat} (hu : u < 64) : ¬ (-6 : Int32) = nI u := fun e => nI_pos (n := u) (by omega) (by rw [← e]; decide)
theorem ite_c {P Q : Prop} [Decidable P] [Decidable Q] (h : P ↔ Q) : (if P then (1 : Nat) else 0) = if Q then 1 else 0 := by
  by_cases c : P
  · rw [if_pos c, if_pos (h.mp c)]
  · rw [if_neg c, if_neg (fun z => c (h.mpr z))]
theorem tmW_row {B : Nat} {p : Pg} {i k x y z u : Nat} (h : RF B p i k x y z) (hu : u < 64) : tmW p i u 4 = (if (k < 4 ∨ k = 7) ∧ x = u then 1 else 0) + ((if (k = 1 ∨ k = 2 ∨ k = 3) ∧ y = u then 1 else 0) + (if k = 2 ∧ z = u then 1 else 0) + (if (k = 4 ∨ k = 6 ∨ k = 8) ∧ x = u then 1 else 0)) := by
  obtain ⟨n1, n2, n3⟩ := nmP_row h
  obtain ⟨hk, e0, e1, x1, -, -, -, e2, -, -, e3, -, -, -⟩ := h
  have t4 : tmW p i u 4 = (if nmP p i 1 = nI u then 1 else 0) + (if nmP p i 2 = nI u then 1 else 0) + (if nmP p i 3 = nI u then 1 else 0) := by simp [tmW]
  have ex : (nI x = nI u) ↔ x = u := nI_eq (by omega) (by omega)
  rw [t4, n1, n2, n3]
  have n6 := neg_ne hu
  have hk9 : k = 0 ∨ k = 1 ∨ k = 2 ∨ k = 3 ∨ k = 4 ∨ k = 5 ∨ k = 6 ∨ k = 7 ∨ k = 8 := by omega
  rcases hk9 with rfl | rfl | rfl | rfl | rfl | rfl | rfl | rfl | rfl
  · simp [n6, ex]
  · have ey : (nI y = nI u) ↔ y = u := nI_eq (by have := e2 (by omega); omega) (by omega)
    simp [n6, ex, ey]
  · have ey : (nI y = nI u) ↔ y = u := nI_eq (by have := e2 (by omega); omega) (by omega)
    have ez : (nI z = nI u) ↔ z = u := nI_eq (by have := e3 rfl; omega) (by omega)
    simp [ex, ey, ez, Nat.add_assoc]
  · have ey : (nI y = nI u) ↔ y = u := nI_eq (by have := e2 (by omega); omega) (by omega)
    simp [n6, ex, ey]
  · simp [n6, ex]
  · simp [n6]
  · simp [n6, ex]
  · simp [n6, ex]
  · simp [n6, ex]
theorem ten_t : ∀ t, t < 4 → (10 : Int32) * nI t = nI (10 * t) := by decide
theorem wm_bit {B n : Nat} {p : Pg} {i k x y z u : Nat} (h : RF B p i k x y z) (hu : u < 64) : (wm p i &&& one (nI u) = 0) ↔ ¬ ((k < 4 ∨ k = 7) ∧ x = u) := by
  obtain ⟨hk, e0, e1, x1, -, -, -, -, -, -, -, -, -, hWr⟩ := h
  have hb : ∀ s : Int64, (s &&& one (nI u) = 0) ↔ tb s u = false := by
    intro s
    constructor
    · intro e
      have := congrArg (fun v => tb v u) e
      simp only [tb_and, tb_one hu, tb_0] at this
      simpa using this
    · intro e
      apply tb_ext
      intro v hv
      rw [tb_and, tb_one hu, tb_0]
      by_cases c : v = u
      · rw [c, e, Bool.false_and]
      · simp [c]
  rw [hb, wm, hWr]
  by_cases hk' : k < 4 ∨ k = 7
  · rw [if_pos hk', if_neg (nI_pos (by omega)), tb_one x1]
    simp [hk']
    omega
  · rw [if_neg hk', if_pos (by decide), tb_0]
    simp [hk']
set_option maxRecDepth 20000 in
set_option maxHeartbeats 2000000 in
theorem lp_X8_costOf {g : Gl} {D : Nat} {b : Bool} {I : IM} {L : LM} {n B u : Nat} {p : Pg} (hD : 2 ≤ D) (h : NR I n p) (hw : WfB B p n) (hu : u < 16) {post : Option Value → Bool → IM → LM → Prop} (hp : post (some (.int (nI (CsN p n u n)))) b I L) : ∀ r m k4, m + r = n → Wp (Kn g D MX8_costOf post) (Tb b) 14 [some (rf g 71), some (.int (nI u)), some (.int (nI (CsN p n u m))), some (.int (nI m)), k4] [] I L := by
  have hn := h.1
  have hc := h.2.1
  intro r
  induction r with
  | zero =>
    intro m k4 hm
    have em : m = n := by omega
    subst em
    refine wq_iload_n 15 3 dX8_costOf_14 rfl rfl rfl ?_
    refine wq_bload_n 16 0 dX8_costOf_15 rfl rfl rfl ?_
    refine wq_getI 19 fl_X8_148 dX8_costOf_16 rfl rfl o_71 ?_
    refine wq_ic_ge 22 221 dX8_costOf_19 rfl (by decide) (fun c19 => ?_) (fun c19 => absurd (by rw [hc]; exact nI_le (Nat.le_refl _) (by omega)) c19)
    refine wq_iload_n 222 2 dX8_costOf_221 rfl rfl rfl ?_
    refine ri .int dX8_costOf_222 rfl rfl ?_
    exact hp
  | succ r ih =>
    intro m k4 hm
    obtain ⟨q0, q1, q2, q3⟩ := h.2.2 m (by omega)
    obtain ⟨k, x, y, z, hrf⟩ := row_form hw (i := m) (by omega)
    have tm := tmW_row hrf (u := u) (by omega)
    have wb := wm_bit (n := n) hrf (u := u) (by omega)
    obtain ⟨hk, e0, e1, x1, -, -, -, e2, -, -, e3, -, -, -⟩ := hrf
    have ht3 := tmW_le p m u
    have J185 : ∀ t : Int32, t = nI (tmW p m u 4) → Wp (Kn g D MX8_costOf post) (Tb b) 185 [some (rf g 71), some (.int (nI u)), some (.int (nI (CsN p n u m))), some (.int (nI m)), some (.int t)] [] I L := by
      intro t ht
      subst ht
      refine wq_iload_n 186 2 dX8_costOf_185 rfl rfl rfl ?_
      refine wq_iload 188 dX8_costOf_186 rfl rfl ?_
      refine wq_if_ne 191 195 dX8_costOf_188 rfl (by decide) (fun c188 => ?_) (fun c188 => ?_)
      · skip
        refine wq_bload_n 196 0 dX8_costOf_195 rfl rfl rfl ?_
        refine wq_iload_n 197 3 dX8_costOf_196 rfl rfl rfl ?_
        refine cVi1 200 (sp_X8_isLooped (by omega) h hw m rfl (by omega)) ml_X8_180 mf_X8_isLooped dX8_costOf_197 rfl o_71 (by decide) rfl (Nat.le_of_ble_eq_true rfl) (by omega) ?_
        refine wq_if_eq 203 211 dX8_costOf_200 rfl (by decide) (fun c200 => ?_) (fun c200 => ?_)
        · skip
          refine wq_iload 213 dX8_costOf_211 rfl rfl ?_
          refine wq_iadd 214 dX8_costOf_213 rfl ?_
          refine wq_istore_n 215 2 [_, _, _, _, _] dX8_costOf_214 rfl rfl rfl (Nat.le_of_ble_eq_true rfl) rfl ?_
          refine wq_iinc 218 (_ + 1) [_, _, _, _, _] dX8_costOf_215 rfl rfl (inc1 _) rfl (Nat.le_of_ble_eq_true rfl) rfl ?_
          refine wq_goto 14 dX8_costOf_218 (by decide) ?_
          have hz := bI_eq.mp c200
          rw [← nI_succ, nI_add]
          have e : CsN p n u m + tmW p m u 4 = CsN p n u (m + 1) := by rw [CsN, rtN, hz, if_neg (by decide), Nat.mul_one]
          rw [e]
          exact ih (m + 1) _ (by omega)
        · skip
          refine wq_bipush 205 10 dX8_costOf_203 rfl (by decide) ?_
          refine wq_iload 207 dX8_costOf_205 rfl rfl ?_
          refine wq_imul 208 dX8_costOf_207 rfl ?_
          refine wq_goto 213 dX8_costOf_208 (by decide) ?_
          refine wq_iadd 214 dX8_costOf_213 rfl ?_
          refine wq_istore_n 215 2 [_, _, _, _, _] dX8_costOf_214 rfl rfl rfl (Nat.le_of_ble_eq_true rfl) rfl ?_
          refine wq_iinc 218 (_ + 1) [_, _, _, _, _] dX8_costOf_215 rfl rfl (inc1 _) rfl (Nat.le_of_ble_eq_true rfl) rfl ?_
          refine wq_goto 14 dX8_costOf_218 (by decide) ?_
          have hz := bI_ne.mp c200
          rw [← nI_succ, ten_t _ (by omega), nI_add]
          have e : CsN p n u m + 10 * tmW p m u 4 = CsN p n u (m + 1) := by rw [CsN, rtN, if_pos hz, Nat.mul_comm]
          rw [e]
          exact ih (m + 1) _ (by omega)
      · skip
        refine wq_iconst 192 0 dX8_costOf_191 rfl (by decide) ?_
        refine wq_goto 213 dX8_costOf_192 (by decide) ?_
        refine wq_iadd 214 dX8_costOf_213 rfl ?_
        refine wq_istore_n 215 2 [_, _, _, _, _] dX8_costOf_214 rfl rfl rfl (Nat.le_of_ble_eq_true rfl) rfl ?_
        refine wq_iinc 218 (_ + 1) [_, _, _, _, _] dX8_costOf_215 rfl rfl (inc1 _) rfl (Nat.le_of_ble_eq_true rfl) rfl ?_
        refine wq_goto 14 dX8_costOf_218 (by decide) ?_
        have hz := (nI_eq (b := 0) (by omega) (by decide)).mp c188
        rw [← nI_succ, show (0 : Int32) = nI 0 from rfl, nI_add]
        have e : CsN p n u m + 0 = CsN p n u (m + 1) := by rw [CsN, hz, Nat.zero_mul]
        rw [e]
        exact ih (m + 1) _ (by omega)
    have J43 : ∀ (t : Int32) (t0 : Nat), t = nI t0 → t0 = (if (k < 4 ∨ k = 7) ∧ x = u then 1 else 0) → Wp (Kn g D MX8_costOf post) (Tb b) 43 [some (rf g 71), some (.int (nI u)), some (.int (nI (CsN p n u m))), some (.int (nI m)), some (.int t)] [] I L := by
      intro t t0 ht ht0
      subst ht
      rw [← ht0] at tm
      have hk9 : k = 0 ∨ k = 1 ∨ k = 2 ∨ k = 3 ∨ k = 4 ∨ k = 5 ∨ k = 6 ∨ k = 7 ∨ k = 8 := by omega
      refine wq_bload_n 44 0 dX8_costOf_43 rfl rfl rfl ?_
      refine wq_getR 47 fl_X8_29 dX8_costOf_44 rfl rfl o_71 (rfl : (Tb _).2.2.2 71 9 = some 77) ?_
      refine wq_iload_n 48 3 dX8_costOf_47 rfl rfl rfl ?_
      refine wq_iald 49 dX8_costOf_48 rfl a_77 (Ix.nI (by omega) (by decide)) ?_
      rw [q0, e0]
      clear ht0 wb
      rcases hk9 with rfl | rfl | rfl | rfl | rfl | rfl | rfl | rfl | rfl
      · refine wq_tabOut 185 dX8_costOf_49 (by decide) (by decide) ?_
        exact J185 _ (by rw [tm]; simp)
      · refine wq_tabIn 96 dX8_costOf_49 (by decide) (by decide) rfl (by decide) ?_
        refine wq_iload 98 dX8_costOf_96 rfl rfl ?_
        refine wq_bload_n 99 0 dX8_costOf_98 rfl rfl rfl ?_
        refine wq_getR 102 fl_X8_35 dX8_costOf_99 rfl rfl o_71 (rfl : (Tb _).2.2.2 71 11 = some 79) ?_
        refine wq_iload_n 103 3 dX8_costOf_102 rfl rfl rfl ?_
        refine wq_iald 104 dX8_costOf_103 rfl a_79 (Ix.nI (by omega) (by decide)) ?_
        rw [q2, (e2 (by omega)).1]
        refine wq_iload_n 105 1 dX8_costOf_104 rfl rfl rfl ?_
        refine wq_ic_ne 108 112 dX8_costOf_105 rfl (by decide) (fun c105 => ?_) (fun c105 => ?_)
        · skip
          refine wq_iconst 113 0 dX8_costOf_112 rfl (by decide) ?_
          refine wq_iadd 114 dX8_costOf_113 rfl ?_
          refine wq_istore 116 [_, _, _, _, _] dX8_costOf_114 rfl rfl (Nat.le_of_ble_eq_true rfl) rfl ?_
          refine wq_goto 185 dX8_costOf_116 (by decide) ?_
          have hy : ¬ y = u := fun e => c105 (by rw [e])
          exact J185 _ (by rw [tm]; simp [hy])
        · skip
          refine wq_iconst 109 1 dX8_costOf_108 rfl (by decide) ?_
          refine wq_goto 113 dX8_costOf_109 (by decide) ?_
          refine wq_iadd 114 dX8_costOf_113 rfl ?_
          refine wq_istore 116 [_, _, _, _, _] dX8_costOf_114 rfl rfl (Nat.le_of_ble_eq_true rfl) rfl ?_
          refine wq_goto 185 dX8_costOf_116 (by decide) ?_
          have hy : y = u := (nI_eq (by have := e2 (by omega); omega) (by omega)).mp c105
          exact J185 _ (by rw [tm]; simp [hy, nI_succ])
      · refine wq_tabIn 119 dX8_costOf_49 (by decide) (by decide) rfl (by decide) ?_
        refine wq_iload 121 dX8_costOf_119 rfl rfl ?_
        refine wq_bload_n 122 0 dX8_costOf_121 rfl rfl rfl ?_
        refine wq_getR 125 fl_X8_35 dX8_costOf_122 rfl rfl o_71 (rfl : (Tb _).2.2.2 71 11 = some 79) ?_
        refine wq_iload_n 126 3 dX8_costOf_125 rfl rfl rfl ?_
        refine wq_iald 127 dX8_costOf_126 rfl a_79 (Ix.nI (by omega) (by decide)) ?_
        rw [q2, (e2 (by omega)).1]
        refine wq_iload_n 128 1 dX8_costOf_127 rfl rfl rfl ?_
        refine wq_ic_ne 131 135 dX8_costOf_128 rfl (by decide) (fun c128 => ?_) (fun c128 => ?_)
        · skip
          refine wq_iconst 136 0 dX8_costOf_135 rfl (by decide) ?_
          refine wq_iadd 137 dX8_costOf_136 rfl ?_
          refine wq_istore 139 [_, _, _, _, _] dX8_costOf_137 rfl rfl (Nat.le_of_ble_eq_true rfl) rfl ?_
          refine wq_iload 141 dX8_costOf_139 rfl rfl ?_
          refine wq_bload_n 142 0 dX8_costOf_141 rfl rfl rfl ?_
          refine wq_getR 145 fl_X8_38 dX8_costOf_142 rfl rfl o_71 (rfl : (Tb _).2.2.2 71 12 = some 80) ?_
          refine wq_iload_n 146 3 dX8_costOf_145 rfl rfl rfl ?_
          refine wq_iald 147 dX8_costOf_146 rfl a_80 (Ix.nI (by omega) (by decide)) ?_
          rw [q3, (e3 rfl).1]
          refine wq_iload_n 148 1 dX8_costOf_147 rfl rfl rfl ?_
          refine wq_ic_ne 151 155 dX8_costOf_148 rfl (by decide) (fun c148 => ?_) (fun c148 => ?_)
          · skip
            refine wq_iconst 156 0 dX8_costOf_155 rfl (by decide) ?_
            refine wq_iadd 157 dX8_costOf_156 rfl ?_
            refine wq_istore 159 [_, _, _, _, _] dX8_costOf_157 rfl rfl (Nat.le_of_ble_eq_true rfl) rfl ?_
            refine wq_goto 185 dX8_costOf_159 (by decide) ?_
            have hy : ¬ y = u := fun e => c128 (by rw [e])
            have hz : ¬ z = u := fun e => c148 (by rw [e])
            exact J185 _ (by rw [tm]; simp [hy, hz, nI_succ, Int32.add_assoc, ← Nat.add_assoc])
          · skip
            refine wq_iconst 152 1 dX8_costOf_151 rfl (by decide) ?_
            refine wq_goto 156 dX8_costOf_152 (by decide) ?_
            refine wq_iadd 157 dX8_costOf_156 rfl ?_
            refine wq_istore 159 [_, _, _, _, _] dX8_costOf_157 rfl rfl (Nat.le_of_ble_eq_true rfl) rfl ?_
            refine wq_goto 185 dX8_costOf_159 (by decide) ?_
            have hy : ¬ y = u := fun e => c128 (by rw [e])
            have hz : z = u := (nI_eq (by have := e3 rfl; omega) (by omega)).mp c148
            exact J185 _ (by rw [tm]; simp [hy, hz, nI_succ, Int32.add_assoc, ← Nat.add_assoc])
        · skip
          refine wq_iconst 132 1 dX8_costOf_131 rfl (by decide) ?_
          refine wq_goto 136 dX8_costOf_132 (by decide) ?_
          refine wq_iadd 137 dX8_costOf_136 rfl ?_
          refine wq_istore 139 [_, _, _, _, _] dX8_costOf_137 rfl rfl (Nat.le_of_ble_eq_true rfl) rfl ?_
          refine wq_iload 141 dX8_costOf_139 rfl rfl ?_
          refine wq_bload_n 142 0 dX8_costOf_141 rfl rfl rfl ?_
          refine wq_getR 145 fl_X8_38 dX8_costOf_142 rfl rfl o_71 (rfl : (Tb _).2.2.2 71 12 = some 80) ?_
          refine wq_iload_n 146 3 dX8_costOf_145 rfl rfl rfl ?_
          refine wq_iald 147 dX8_costOf_146 rfl a_80 (Ix.nI (by omega) (by decide)) ?_
          rw [q3, (e3 rfl).1]
          refine wq_iload_n 148 1 dX8_costOf_147 rfl rfl rfl ?_
          refine wq_ic_ne 151 155 dX8_costOf_148 rfl (by decide) (fun c148 => ?_) (fun c148 => ?_)
          · skip
            refine wq_iconst 156 0 dX8_costOf_155 rfl (by decide) ?_
            refine wq_iadd 157 dX8_costOf_156 rfl ?_
            refine wq_istore 159 [_, _, _, _, _] dX8_costOf_157 rfl rfl (Nat.le_of_ble_eq_true rfl) rfl ?_
            refine wq_goto 185 dX8_costOf_159 (by decide) ?_
            have hy : y = u := (nI_eq (by have := e2 (by omega); omega) (by omega)).mp c128
            have hz : ¬ z = u := fun e => c148 (by rw [e])
            exact J185 _ (by rw [tm]; simp [hy, hz, nI_succ, Int32.add_assoc, ← Nat.add_assoc])
          · skip
            refine wq_iconst 152 1 dX8_costOf_151 rfl (by decide) ?_
            refine wq_goto 156 dX8_costOf_152 (by decide) ?_
            refine wq_iadd 157 dX8_costOf_156 rfl ?_
            refine wq_istore 159 [_, _, _, _, _] dX8_costOf_157 rfl rfl (Nat.le_of_ble_eq_true rfl) rfl ?_
            refine wq_goto 185 dX8_costOf_159 (by decide) ?_
            have hy : y = u := (nI_eq (by have := e2 (by omega); omega) (by omega)).mp c128
            have hz : z = u := (nI_eq (by have := e3 rfl; omega) (by omega)).mp c148
            exact J185 _ (by rw [tm]; simp [hy, hz, nI_succ, Int32.add_assoc, ← Nat.add_assoc])
      · refine wq_tabIn 96 dX8_costOf_49 (by decide) (by decide) rfl (by decide) ?_
        refine wq_iload 98 dX8_costOf_96 rfl rfl ?_
        refine wq_bload_n 99 0 dX8_costOf_98 rfl rfl rfl ?_
        refine wq_getR 102 fl_X8_35 dX8_costOf_99 rfl rfl o_71 (rfl : (Tb _).2.2.2 71 11 = some 79) ?_
        refine wq_iload_n 103 3 dX8_costOf_102 rfl rfl rfl ?_
        refine wq_iald 104 dX8_costOf_103 rfl a_79 (Ix.nI (by omega) (by decide)) ?_
        rw [q2, (e2 (by omega)).1]
        refine wq_iload_n 105 1 dX8_costOf_104 rfl rfl rfl ?_
        refine wq_ic_ne 108 112 dX8_costOf_105 rfl (by decide) (fun c105 => ?_) (fun c105 => ?_)
        · skip
          refine wq_iconst 113 0 dX8_costOf_112 rfl (by decide) ?_
          refine wq_iadd 114 dX8_costOf_113 rfl ?_
          refine wq_istore 116 [_, _, _, _, _] dX8_costOf_114 rfl rfl (Nat.le_of_ble_eq_true rfl) rfl ?_
          refine wq_goto 185 dX8_costOf_116 (by decide) ?_
          have hy : ¬ y = u := fun e => c105 (by rw [e])
          exact J185 _ (by rw [tm]; simp [hy])
        · skip
          refine wq_iconst 109 1 dX8_costOf_108 rfl (by decide) ?_
          refine wq_goto 113 dX8_costOf_109 (by decide) ?_
          refine wq_iadd 114 dX8_costOf_113 rfl ?_
          refine wq_istore 116 [_, _, _, _, _] dX8_costOf_114 rfl rfl (Nat.le_of_ble_eq_true rfl) rfl ?_
          refine wq_goto 185 dX8_costOf_116 (by decide) ?_
          have hy : y = u := (nI_eq (by have := e2 (by omega); omega) (by omega)).mp c105
          exact J185 _ (by rw [tm]; simp [hy, nI_succ])
      · refine wq_tabIn 162 dX8_costOf_49 (by decide) (by decide) rfl (by decide) ?_
        refine wq_iload 164 dX8_costOf_162 rfl rfl ?_
        refine wq_bload_n 165 0 dX8_costOf_164 rfl rfl rfl ?_
        refine wq_getR 168 fl_X8_32 dX8_costOf_165 rfl rfl o_71 (rfl : (Tb _).2.2.2 71 10 = some 78) ?_
        refine wq_iload_n 169 3 dX8_costOf_168 rfl rfl rfl ?_
        refine wq_iald 170 dX8_costOf_169 rfl a_78 (Ix.nI (by omega) (by decide)) ?_
        rw [q1, e1]
        refine wq_iload_n 171 1 dX8_costOf_170 rfl rfl rfl ?_
        refine wq_ic_ne 174 178 dX8_costOf_171 rfl (by decide) (fun c171 => ?_) (fun c171 => ?_)
        · skip
          refine wq_iconst 179 0 dX8_costOf_178 rfl (by decide) ?_
          refine wq_iadd 180 dX8_costOf_179 rfl ?_
          refine wq_istore 182 [_, _, _, _, _] dX8_costOf_180 rfl rfl (Nat.le_of_ble_eq_true rfl) rfl ?_
          refine wq_goto 185 dX8_costOf_182 (by decide) ?_
          have hx : ¬ x = u := fun e => c171 (by rw [e])
          exact J185 _ (by rw [tm]; simp [hx])
        · skip
          refine wq_iconst 175 1 dX8_costOf_174 rfl (by decide) ?_
          refine wq_goto 179 dX8_costOf_175 (by decide) ?_
          refine wq_iadd 180 dX8_costOf_179 rfl ?_
          refine wq_istore 182 [_, _, _, _, _] dX8_costOf_180 rfl rfl (Nat.le_of_ble_eq_true rfl) rfl ?_
          refine wq_goto 185 dX8_costOf_182 (by decide) ?_
          have hx : x = u := (nI_eq (by omega) (by omega)).mp c171
          exact J185 _ (by rw [tm]; simp [hx, nI_succ])
      · refine wq_tabIn 185 dX8_costOf_49 (by decide) (by decide) rfl (by decide) ?_
        exact J185 _ (by rw [tm]; simp)
      · refine wq_tabIn 162 dX8_costOf_49 (by decide) (by decide) rfl (by decide) ?_
        refine wq_iload 164 dX8_costOf_162 rfl rfl ?_
        refine wq_bload_n 165 0 dX8_costOf_164 rfl rfl rfl ?_
        refine wq_getR 168 fl_X8_32 dX8_costOf_165 rfl rfl o_71 (rfl : (Tb _).2.2.2 71 10 = some 78) ?_
        refine wq_iload_n 169 3 dX8_costOf_168 rfl rfl rfl ?_
        refine wq_iald 170 dX8_costOf_169 rfl a_78 (Ix.nI (by omega) (by decide)) ?_
        rw [q1, e1]
        refine wq_iload_n 171 1 dX8_costOf_170 rfl rfl rfl ?_
        refine wq_ic_ne 174 178 dX8_costOf_171 rfl (by decide) (fun c171 => ?_) (fun c171 => ?_)
        · skip
          refine wq_iconst 179 0 dX8_costOf_178 rfl (by decide) ?_
          refine wq_iadd 180 dX8_costOf_179 rfl ?_
          refine wq_istore 182 [_, _, _, _, _] dX8_costOf_180 rfl rfl (Nat.le_of_ble_eq_true rfl) rfl ?_
          refine wq_goto 185 dX8_costOf_182 (by decide) ?_
          have hx : ¬ x = u := fun e => c171 (by rw [e])
          exact J185 _ (by rw [tm]; simp [hx])
        · skip
          refine wq_iconst 175 1 dX8_costOf_174 rfl (by decide) ?_
          refine wq_goto 179 dX8_costOf_175 (by decide) ?_
          refine wq_iadd 180 dX8_costOf_179 rfl ?_
          refine wq_istore 182 [_, _, _, _, _] dX8_costOf_180 rfl rfl (Nat.le_of_ble_eq_true rfl) rfl ?_
          refine wq_goto 185 dX8_costOf_182 (by decide) ?_
          have hx : x = u := (nI_eq (by omega) (by omega)).mp c171
          exact J185 _ (by rw [tm]; simp [hx, nI_succ])
      · refine wq_tabIn 185 dX8_costOf_49 (by decide) (by decide) rfl (by decide) ?_
        exact J185 _ (by rw [tm]; simp)
      · refine wq_tabIn 162 dX8_costOf_49 (by decide) (by decide) rfl (by decide) ?_
        refine wq_iload 164 dX8_costOf_162 rfl rfl ?_
        refine wq_bload_n 165 0 dX8_costOf_164 rfl rfl rfl ?_
        refine wq_getR 168 fl_X8_32 dX8_costOf_165 rfl rfl o_71 (rfl : (Tb _).2.2.2 71 10 = some 78) ?_
        refine wq_iload_n 169 3 dX8_costOf_168 rfl rfl rfl ?_
        refine wq_iald 170 dX8_costOf_169 rfl a_78 (Ix.nI (by omega) (by decide)) ?_
        rw [q1, e1]
        refine wq_iload_n 171 1 dX8_costOf_170 rfl rfl rfl ?_
        refine wq_ic_ne 174 178 dX8_costOf_171 rfl (by decide) (fun c171 => ?_) (fun c171 => ?_)
        · skip
          refine wq_iconst 179 0 dX8_costOf_178 rfl (by decide) ?_
          refine wq_iadd 180 dX8_costOf_179 rfl ?_
          refine wq_istore 182 [_, _, _, _, _] dX8_costOf_180 rfl rfl (Nat.le_of_ble_eq_true rfl) rfl ?_
          refine wq_goto 185 dX8_costOf_182 (by decide) ?_
          have hx : ¬ x = u := fun e => c171 (by rw [e])
          exact J185 _ (by rw [tm]; simp [hx])
        · skip
          refine wq_iconst 175 1 dX8_costOf_174 rfl (by decide) ?_
          refine wq_goto 179 dX8_costOf_175 (by decide) ?_
          refine wq_iadd 180 dX8_costOf_179 rfl ?_
          refine wq_istore 182 [_, _, _, _, _] dX8_costOf_180 rfl rfl (Nat.le_of_ble_eq_true rfl) rfl ?_
          refine wq_goto 185 dX8_costOf_182 (by decide) ?_
          have hx : x = u := (nI_eq (by omega) (by omega)).mp c171
          exact J185 _ (by rw [tm]; simp [hx, nI_succ])
    refine wq_iload_n 15 3 dX8_costOf_14 rfl rfl rfl ?_
    refine wq_bload_n 16 0 dX8_costOf_15 rfl rfl rfl ?_
    refine wq_getI 19 fl_X8_148 dX8_costOf_16 rfl rfl o_71 ?_
    refine wq_ic_ge 22 221 dX8_costOf_19 rfl (by decide) (fun c19 => absurd c19 (by rw [hc]; exact nI_ge (by omega) (by omega))) (fun c19 => ?_)
    refine wq_bload_n 23 0 dX8_costOf_22 rfl rfl rfl ?_
    refine wq_iload_n 24 3 dX8_costOf_23 rfl rfl rfl ?_
    refine cVl1 27 (sp_X8_writes (by omega) h hw m rfl (by omega)) ml_X8_158 mf_X8_writes dX8_costOf_24 rfl o_71 (by decide) rfl (Nat.le_of_ble_eq_true rfl) (by omega) ?_
    refine wq_lconst 28 1 dX8_costOf_27 rfl (by decide) ?_
    refine wq_iload_n 29 1 dX8_costOf_28 rfl rfl rfl ?_
    refine wq_lshl 30 dX8_costOf_29 rfl ?_
    refine wq_land 31 dX8_costOf_30 rfl ?_
    refine wq_lconst 32 0 dX8_costOf_31 rfl (by decide) ?_
    refine wq_lcmp 33 dX8_costOf_32 rfl ?_
    refine wq_if_eq 36 40 dX8_costOf_33 rfl (by decide) (fun c33 => ?_) (fun c33 => ?_)
    · skip
      refine wq_iconst 41 0 dX8_costOf_40 rfl (by decide) ?_
      refine wq_istore 43 [_, _, _, _, _] dX8_costOf_41 rfl rfl (Nat.le_of_ble_eq_true rfl) rfl ?_
      exact J43 _ 0 rfl (by rw [if_neg (wb.mp (lcmp0.mp c33))])
    · skip
      refine wq_iconst 37 1 dX8_costOf_36 rfl (by decide) ?_
      refine wq_goto 41 dX8_costOf_37 (by decide) ?_
      refine wq_istore 43 [_, _, _, _, _] dX8_costOf_41 rfl rfl (Nat.le_of_ble_eq_true rfl) rfl ?_
      exact J43 _ 1 rfl (by rw [if_pos (Decidable.byContradiction (fun z => c33 (lcmp0.mpr (wb.mpr z))))])
/-- what a name costs -/
def Ct (p : Pg) (n x : Nat) : Nat := if 16 ≤ x then 10000 else CsN p n x n
set_option maxRecDepth 20000 in
theorem sp_X8_costOf {g : Gl} {D : Nat} {b : Bool} {I : IM} {L : LM} {n B : Nat} {p : Pg} (hD : 2 ≤ D) (h : NR I n p) (hw : WfB B p n) {i : Int32} (u : Nat) (hi : i = nI u) (hu : u < 64) : Md g D MX8_costOf [rf g 71, .int i] b I L (some (.int (nI (Ct p n u)))) b I L := by
  subst hi
  refine Me.of [some (rf g 71), some (.int (nI u)), none, none, none] 3 rfl pf_X8_costOf (Nat.le_of_ble_eq_true rfl) ?_
  refine wq_iload_n 1 1 dX8_costOf_0 rfl rfl rfl ?_
  refine wq_bipush 3 15 dX8_costOf_1 rfl (by decide) ?_
  refine wq_ic_le 6 10 dX8_costOf_3 rfl (by decide) (fun c3 => ?_) (fun c3 => ?_)
  · skip
    refine wq_iconst 11 0 dX8_costOf_10 rfl (by decide) ?_
    refine wq_istore_n 12 2 [_, _, _, _, _] dX8_costOf_11 rfl rfl rfl (Nat.le_of_ble_eq_true rfl) rfl ?_
    refine wq_iconst 13 0 dX8_costOf_12 rfl (by decide) ?_
    refine wq_istore_n 14 3 [_, _, _, _, _] dX8_costOf_13 rfl rfl rfl (Nat.le_of_ble_eq_true rfl) rfl ?_
    have q : ¬ 16 ≤ u := fun z => nI_ge (a := 15) (b := u) (by omega) (by omega) c3
    exact lp_X8_costOf hD h hw (by omega) ⟨by rw [Ct, if_neg q], rfl, rfl, rfl⟩ n 0 _ (by omega)
  · skip
    refine wq_sipush 9 10000 dX8_costOf_6 rfl (by decide) ?_
    refine ri .int dX8_costOf_9 rfl rfl ?_
    have q : 16 ≤ u := Decidable.byContradiction (fun z => c3 (nI_le (b := 15) (by omega) (by decide)))
    exact ⟨by rw [Ct, if_pos q]; rfl, rfl, rfl, rfl⟩
