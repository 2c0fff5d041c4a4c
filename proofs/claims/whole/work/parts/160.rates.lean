/-! Needs.findRates -/
theorem LR_keep {I I' : IM} {L L' : LM} {l n : Nat} {p : Pg} (h : LR I L l n p) (hI : ∀ j, j < 5 → I' (l + j) = I (l + j)) (hL : ∀ j, j < 5 → L' (l + j) = L (l + j)) : LR I' L' l n p := by
  have i0 := hI 0 (by omega)
  have l0 := hL 0 (by omega)
  simp only [Nat.add_zero] at i0 l0
  unfold LR
  rw [i0, l0, hI 1 (by omega), hI 3 (by omega), hI 4 (by omega), hL 2 (by omega)]
  exact h
theorem LRc_keep {I I' : IM} {L L' : LM} {l n : Nat} {p : Pg} (h : LRc I L l n p) (hI : ∀ j, j < 5 → I' (l + j) = I (l + j)) (hL : ∀ j, j < 5 → L' (l + j) = L (l + j)) : LRc I' L' l n p := by
  have i0 := hI 0 (by omega)
  have l0 := hL 0 (by omega)
  simp only [Nat.add_zero] at i0 l0
  unfold LRc
  rw [i0, l0, hI 1 (by omega), hI 3 (by omega), hI 4 (by omega), hL 2 (by omega)]
  exact h
/-- i lies in a loop that a jump before m closes -/
def LpP (p : Pg) (n m i : Nat) : Prop := ∃ j t, j < m ∧ i ≤ j ∧ Tg p n j = nI t ∧ t < n ∧ t ≤ i
def RtR (R : Nat → Int32) (p : Pg) (n m : Nat) : Prop := ∀ i, i < n → (LpP p n m i → R i = 10) ∧ (¬ LpP p n m i → R i = 1)
theorem LpP_no {p : Pg} {n m i : Nat} (hn : n ≤ 90) (h : Tg p n m < 0 ∨ ∃ t, t < n ∧ Tg p n m = nI t ∧ m < t) : LpP p n (m + 1) i ↔ LpP p n m i := by
  constructor
  · rintro ⟨j, t, h1, h2, h3, h4, h5⟩
    by_cases e : j = m
    · subst e
      exfalso
      rcases h with h | ⟨s, s1, s2, s3⟩
      · rw [h3] at h; exact nI_pos (by omega) h
      · rw [s2] at h3
        have := (nI_eq (by omega) (by omega)).mp h3
        omega
    · exact ⟨j, t, by omega, h2, h3, h4, h5⟩
  · rintro ⟨j, t, h1, h2, h3, h4, h5⟩
    exact ⟨j, t, by omega, h2, h3, h4, h5⟩
theorem LpP_yes {p : Pg} {n m i t : Nat} (hn : n ≤ 90) (ht : t < n) (h : Tg p n m = nI t) : LpP p n (m + 1) i ↔ LpP p n m i ∨ (t ≤ i ∧ i ≤ m) := by
  constructor
  · rintro ⟨j, s, h1, h2, h3, h4, h5⟩
    by_cases e : j = m
    · subst e
      rw [h] at h3
      have := (nI_eq (by omega) (by omega)).mp h3
      exact Or.inr (by omega)
    · exact Or.inl ⟨j, s, by omega, h2, h3, h4, h5⟩
  · rintro (⟨j, s, h1, h2, h3, h4, h5⟩ | ⟨h1, h2⟩)
    · exact ⟨j, s, by omega, h2, h3, h4, h5⟩
    · exact ⟨m, t, by omega, h2, h, ht, h1⟩
set_option maxRecDepth 20000 in
set_option maxHeartbeats 2000000 in
theorem lp_X3_inside {g : Gl} {D : Nat} {b : Bool} {I : IM} {L : LM} {a l n m t : Nat} {p : Pg} {t3 : Int32} (ha : IsN a) (hn : n ≤ 90) (hm : m < n) (ht : t < n) (hT : Tg p n m = nI t) {post : Option Value → Bool → IM → LM → Prop} (kk : ∀ R k3 k4, RtR R p n (m + 1) → Wp (Kn g D MX3_findRates post) (Tb b) 10 [some (rf g a), some (rf g l), some (.int (nI (m + 1))), k3, k4] [] (va_up I (a + 3) R) L) : ∀ r q R, q + r = m + 1 → t ≤ q → (∀ i, i < n → (LpP p n m i ∨ (t ≤ i ∧ i < q) → R i = 10) ∧ (¬ (LpP p n m i ∨ (t ≤ i ∧ i < q)) → R i = 1)) → Wp (Kn g D MX3_findRates post) (Tb b) 33 [some (rf g a), some (rf g l), some (.int (nI m)), some (.int t3), some (.int (nI q))] [] (va_up I (a + 3) R) L := by
  intro r
  induction r with
  | zero =>
    intro q R hq hqt hR
    have eq : q = m + 1 := by omega
    subst eq
    refine wq_iload 35 dX3_findRates_33 rfl rfl ?_
    refine wq_if_lt 38 59 dX3_findRates_35 rfl (by decide) (fun c35 => absurd c35 (nI_pos (by omega))) (fun c35 => ?_)
    refine wq_iload 40 dX3_findRates_38 rfl rfl ?_
    refine wq_iload_n 41 2 dX3_findRates_40 rfl rfl rfl ?_
    refine wq_ic_gt 44 59 dX3_findRates_41 rfl (by decide) (fun c41 => ?_) (fun c41 => absurd (nI_lt (by omega) (by omega)) c41)
    refine wq_iinc 62 (_ + 1) [_, _, _, _, _] dX3_findRates_59 rfl rfl (inc1 _) rfl (Nat.le_of_ble_eq_true rfl) rfl ?_
    refine wq_goto 10 dX3_findRates_62 (by decide) ?_
    rw [← nI_succ]
    refine kk R _ _ (fun i hi => ?_)
    rw [LpP_yes hn ht hT, show (i ≤ m) = (i < m + 1) from propext (by omega)]
    exact hR i hi
  | succ r ih =>
    intro q R hq hqt hR
    refine wq_iload 35 dX3_findRates_33 rfl rfl ?_
    refine wq_if_lt 38 59 dX3_findRates_35 rfl (by decide) (fun c35 => absurd c35 (nI_pos (by omega))) (fun c35 => ?_)
    refine wq_iload 40 dX3_findRates_38 rfl rfl ?_
    refine wq_iload_n 41 2 dX3_findRates_40 rfl rfl rfl ?_
    refine wq_ic_gt 44 59 dX3_findRates_41 rfl (by decide) (fun c41 => absurd c41 (nI_nlt (by omega) (by omega))) (fun c41 => ?_)
    refine wq_bload_n 45 0 dX3_findRates_44 rfl rfl rfl ?_
    refine wq_getR 48 fl_X3_18 dX3_findRates_45 rfl rfl (N_ob ha) (N_rf2 ha) ?_
    refine wq_iload 50 dX3_findRates_48 rfl rfl ?_
    refine wq_bipush 52 10 dX3_findRates_50 rfl (by decide) ?_
    refine wq_iast 53 dX3_findRates_52 rfl (N_ar2 ha) (Ix.nI (by omega) (by decide)) ?_
    refine wq_iinc 56 (_ + 1) [_, _, _, _, _] dX3_findRates_53 rfl rfl (inc1 _) rfl (Nat.le_of_ble_eq_true rfl) rfl ?_
    refine wq_goto 33 dX3_findRates_56 (by decide) ?_
    rw [← nI_succ, va_up_self, va_up_up]
    refine ih (q + 1) _ (by omega) (by omega) (fun i hi => ?_)
    by_cases e : i = q
    · rw [e, va_up_self]
      exact ⟨fun _ => rfl, fun z => absurd (Or.inr (by omega)) z⟩
    · rw [va_up_ne _ _ e, show (i < q + 1) = (i < q) from propext (by omega)]
      exact hR i hi
set_option maxRecDepth 20000 in
set_option maxHeartbeats 2000000 in
theorem lp_X3_rates {g : Gl} {D : Nat} {b : Bool} {I : IM} {L : LM} {a l n B : Nat} {p : Pg} (hD : 2 ≤ D) (ha : IsN a) (hl : IsL l) (h : LR I L l n p) (hw : WfB B p n) {post : Option Value → Bool → IM → LM → Prop} (hp : ∀ R, RtR R p n n → post none b (va_up I (a + 3) R) L) : ∀ r m R k3 k4, m + r = n → RtR R p n m → Wp (Kn g D MX3_findRates post) (Tb b) 10 [some (rf g a), some (rf g l), some (.int (nI m)), k3, k4] [] (va_up I (a + 3) R) L := by
  have hn := h.1
  have ap := fun i j hi hj => N_apart (i := i) (j := j) ha hl hi hj
  have hcR : ∀ R, va_up I (a + 3) R l 4 = nI n := fun R => by rw [va_up_ne _ _ (fun e : l = a + 3 => ap 3 0 (by omega) (by omega) e.symm)]; exact h.2.1
  have hLR : ∀ R, LR (va_up I (a + 3) R) L l n p := fun R => LR_keep h (fun j hj => va_up_ne _ _ (fun e => ap 3 j (by omega) hj e.symm)) (fun _ _ => rfl)
  intro r
  induction r with
  | zero =>
    intro m R k3 k4 hm hR
    have em : m = n := by omega
    subst em
    refine wq_iload_n 11 2 dX3_findRates_10 rfl rfl rfl ?_
    refine wq_bload_n 12 1 dX3_findRates_11 rfl rfl rfl ?_
    refine wq_getI 15 fl_X3_51 dX3_findRates_12 rfl rfl (L_ob hl) ?_
    refine wq_ic_ge 18 65 dX3_findRates_15 rfl (by decide) (fun c15 => ?_) (fun c15 => absurd (by rw [hcR]; exact nI_le (Nat.le_refl _) (by omega)) c15)
    refine rr dX3_findRates_65 rfl ?_
    exact hp R hR
  | succ r ih =>
    intro m R k3 k4 hm hR
    have kk := fun R k3 k4 hR => ih (m + 1) R k3 k4 (by omega) hR
    refine wq_iload_n 11 2 dX3_findRates_10 rfl rfl rfl ?_
    refine wq_bload_n 12 1 dX3_findRates_11 rfl rfl rfl ?_
    refine wq_getI 15 fl_X3_51 dX3_findRates_12 rfl rfl (L_ob hl) ?_
    refine wq_ic_ge 18 65 dX3_findRates_15 rfl (by decide) (fun c15 => absurd c15 (by rw [hcR]; exact nI_ge (by omega) (by omega))) (fun c15 => ?_)
    refine wq_iload_n 19 2 dX3_findRates_18 rfl rfl rfl ?_
    refine wq_bipush 21 90 dX3_findRates_19 rfl (by decide) ?_
    refine wq_ic_ge 24 65 dX3_findRates_21 rfl (by decide) (fun c21 => absurd c21 (nI_ge (b := 90) (by omega) (by decide))) (fun c21 => ?_)
    refine wq_bload_n 25 1 dX3_findRates_24 rfl rfl rfl ?_
    refine wq_iload_n 26 2 dX3_findRates_25 rfl rfl rfl ?_
    refine cVi1 29 (sp_X2_targetOf (by omega) hl (hcR R) hn m rfl (by omega)) ml_X3_63 mf_X2_targetOf dX3_findRates_26 rfl (L_ob hl) (by decide) rfl (Nat.le_of_ble_eq_true rfl) (by omega) ?_
    rw [tg_eq (hLR R) hw (by omega)]
    refine wq_istore_n 30 3 [_, _, _, _, _] dX3_findRates_29 rfl rfl rfl (Nat.le_of_ble_eq_true rfl) rfl ?_
    refine wq_iload_n 31 3 dX3_findRates_30 rfl rfl rfl ?_
    refine wq_istore 33 [_, _, _, _, _] dX3_findRates_31 rfl rfl (Nat.le_of_ble_eq_true rfl) rfl ?_
    rcases Tg_lt p n m with c | ⟨t, t1, t2, -⟩
    · refine wq_iload 35 dX3_findRates_33 rfl rfl ?_
      refine wq_if_lt 38 59 dX3_findRates_35 rfl (by decide) (fun c35 => ?_) (fun c35 => absurd c c35)
      refine wq_iinc 62 (_ + 1) [_, _, _, _, _] dX3_findRates_59 rfl rfl (inc1 _) rfl (Nat.le_of_ble_eq_true rfl) rfl ?_
      refine wq_goto 10 dX3_findRates_62 (by decide) ?_
      rw [← nI_succ]
      exact kk R _ _ (fun i hi => by rw [LpP_no hn (Or.inl c)]; exact hR i hi)
    · rw [t2]
      by_cases q : t ≤ m
      · exact lp_X3_inside ha hn (by omega) t1 t2 kk (m + 1 - t) t R (by omega) (Nat.le_refl _) (fun i hi => by
          rw [show (LpP p n m i ∨ (t ≤ i ∧ i < t)) = LpP p n m i from propext ⟨fun z => z.elim id (fun z => by omega), Or.inl⟩]
          exact hR i hi)
      · refine wq_iload 35 dX3_findRates_33 rfl rfl ?_
        refine wq_if_lt 38 59 dX3_findRates_35 rfl (by decide) (fun c35 => absurd c35 (nI_pos (by omega))) (fun c35 => ?_)
        refine wq_iload 40 dX3_findRates_38 rfl rfl ?_
        refine wq_iload_n 41 2 dX3_findRates_40 rfl rfl rfl ?_
        refine wq_ic_gt 44 59 dX3_findRates_41 rfl (by decide) (fun c41 => ?_) (fun c41 => absurd (nI_lt (by omega) (by omega)) c41)
        refine wq_iinc 62 (_ + 1) [_, _, _, _, _] dX3_findRates_59 rfl rfl (inc1 _) rfl (Nat.le_of_ble_eq_true rfl) rfl ?_
        refine wq_goto 10 dX3_findRates_62 (by decide) ?_
        rw [← nI_succ]
        exact kk R _ _ (fun i hi => by rw [LpP_no hn (Or.inr ⟨t, t1, t2, by omega⟩)]; exact hR i hi)
set_option maxRecDepth 20000 in
set_option maxHeartbeats 2000000 in
theorem sp_X3_findRates {g : Gl} {D : Nat} {b : Bool} {I : IM} {L : LM} {a l n B : Nat} {p : Pg} (hD : 2 ≤ D) (ha : IsN a) (hl : IsL l) (h : LR I L l n p) (hw : WfB B p n) : Me g D MX3_findRates [rf g a, rf g l] b I L (fun r b' I' L' => r = none ∧ b' = b ∧ L' = L ∧ ∃ R, I' = va_up I (a + 3) R ∧ RtR R p n n) := by
  have hn := h.1
  refine Me.of [some (rf g a), some (rf g l), none, none, none] 3 rfl pf_X3_findRates (Nat.le_of_ble_eq_true rfl) ?_
  refine wq_bload_n 1 0 dX3_findRates_0 rfl rfl rfl ?_
  refine wq_getR 4 fl_X3_18 dX3_findRates_1 rfl rfl (N_ob ha) (N_rf2 ha) ?_
  refine wq_iconst 5 1 dX3_findRates_4 rfl (by decide) ?_
  refine cSv2 8 (sp_J7_fill_53178 (N_ar2 ha) (by decide) 1) ml_X3_91 mf_J7_fill_53178 dX3_findRates_5 rfl (Nat.le_of_ble_eq_true rfl) (by omega) ?_
  refine wq_iconst 9 0 dX3_findRates_8 rfl (by decide) ?_
  refine wq_istore_n 10 2 [_, _, _, _, _] dX3_findRates_9 rfl rfl rfl (Nat.le_of_ble_eq_true rfl) rfl ?_
  exact lp_X3_rates hD ha hl h hw (fun R hR => ⟨rfl, rfl, rfl, R, rfl, hR⟩) n 0 _ _ _ (by omega) (fun i hi => ⟨fun ⟨j, t, z, _⟩ => by omega, fun _ => if_pos (by omega)⟩)
