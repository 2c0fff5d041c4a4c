/-! Needs.findLive -/
theorem minI_n {n m : Nat} (h : n ≤ m) (hm : m < 2 ^ 31) : minI (nI n) (nI m) = nI n := by
  unfold minI
  rw [if_neg (nI_nlt h hm)]
set_option maxRecDepth 20000 in
theorem sp_X3_pass {g : Gl} {D : Nat} {b : Bool} {I : IM} {L : LM} {a l n B : Nat} {p : Pg} {S : LS2} (hD : 3 ≤ D) (ha : IsN a) (hl : IsL l) (h : LR I L l n p) (hw : WfB B p n) : Md g D MX3_passFromBehind [rf g a, rf g l] b I (lvMem L a S) (some (.int (bI (lvC p n n S)))) b I (lvMem L a (lvP p n n S)) := by
  have hc := h.2.1
  have hn := h.1
  refine Me.of [some (rf g a), some (rf g l), none, none, none, none, none, none, none, none, none] 9 rfl pf_X3_passFromBehind (Nat.le_of_ble_eq_true rfl) ?_
  refine wq_iconst 1 0 dX3_passFromBehind_0 rfl (by decide) ?_
  refine wq_istore_n 2 2 [_, _, _, _, _, _, _, _, _, _, _] dX3_passFromBehind_1 rfl rfl rfl (Nat.le_of_ble_eq_true rfl) rfl ?_
  refine wq_lconst 3 0 dX3_passFromBehind_2 rfl (by decide) ?_
  refine wq_lstore_n 4 3 [_, _, _, _, _, _, _, _, _, _, _] dX3_passFromBehind_3 rfl rfl rfl (Nat.le_of_ble_eq_true rfl) rfl ?_
  refine wq_bload_n 5 1 dX3_passFromBehind_4 rfl rfl rfl ?_
  refine wq_getI 8 fl_X3_51 dX3_passFromBehind_5 rfl rfl (L_ob hl) ?_
  refine wq_bipush 10 90 dX3_passFromBehind_8 rfl (by decide) ?_
  refine cSi2 13 (sp_J9_min_7cf53 _ _) ml_X3_57 mf_J9_min_7cf53 dX3_passFromBehind_10 rfl (Nat.le_of_ble_eq_true rfl) (by omega) ?_
  rw [hc, show (90 : Int32) = nI 90 from rfl, minI_n hn (by decide)]
  refine wq_iconst 14 1 dX3_passFromBehind_13 rfl (by decide) ?_
  refine wq_isub 15 dX3_passFromBehind_14 rfl ?_
  refine wq_istore 17 [_, _, _, _, _, _, _, _, _, _, _] dX3_passFromBehind_15 rfl rfl (Nat.le_of_ble_eq_true rfl) rfl ?_
  have h9 := lp_X3_pass (g := g) (D := D) (b := b) (post := fun r b' I' L' => r = some (.int (bI (lvC p n n S))) ∧ b' = b ∧ I' = I ∧ L' = lvMem L a (lvP p n n S)) (by omega) ha hl h hw n S false none none none none none (Nat.le_refl _) ⟨by rw [Bool.false_or], rfl, rfl, rfl⟩
  rw [if_neg (Nat.lt_irrefl n)] at h9
  exact h9
theorem lvIt_rest {p : Pg} {n k : Nat} (h : lvC p n n (lvIt p n k) = false) : ∀ j, lvIt p n (k + j) = lvIt p n k
  | 0 => rfl
  | j + 1 => by
    rw [show k + (j + 1) = (k + j) + 1 by omega, lvIt, lvIt_rest h j]
    exact (lvC_false n _).mp h
/-- who is needed behind an instruction -/
def Lvb (p : Pg) (n : Nat) : Nat → Int64 := (lvIt p n 5761).2
theorem LvE.eq {p : Pg} {n : Nat} {H : Nat → Int64} (hn : n ≤ 90) (h : LvE p n H) : ∀ i, i < n → H i = Lvb p n i := by
  obtain ⟨k, k1, k2, k3⟩ := lv_ends (p := p) hn
  have hL : LvE p n (Lvb p n) := ⟨k, k2, k3, fun i _ => by
    have := lvIt_rest k2 (5761 - k)
    rw [show k + (5761 - k) = 5761 by omega] at this
    unfold Lvb
    rw [this]⟩
  exact h.uniq hL
set_option maxRecDepth 20000 in
set_option maxHeartbeats 2000000 in
theorem lp_X3_findLive {g : Gl} {D : Nat} {b : Bool} {I : IM} {L : LM} {a l n B K : Nat} {p : Pg} (hD : 4 ≤ D) (ha : IsN a) (hl : IsL l) (h : LR I L l n p) (hw : WfB B p n) (hK : K ≤ 5761) (k1 : lvC p n n (lvIt p n K) = false) (k2 : ∀ j, j < K → lvC p n n (lvIt p n j) = true) {post : Option Value → Bool → IM → LM → Prop} (hp : ∀ S, (∀ i, i < n → S.2 i = Lvb p n i) → post none b I (lvMem L a S)) : ∀ r k S, k + r = K → Ag n S (lvIt p n k) → Wp (Kn g D MX3_findLive post) (Tb b) 20 [some (rf g a), some (rf g l), some (.int (bI true)), some (.int (nI k))] [] I (lvMem L a S) := by
  have hn := h.1
  intro r
  induction r with
  | zero =>
    intro k S hk hS
    have ek : k = K := by omega
    subst ek
    have hg := lvP_ag (p := p) (n := n) (by omega) n (Nat.le_refl n) hS
    refine wq_iload_n 21 3 dX3_findLive_20 rfl rfl rfl ?_
    refine wq_sipush 24 10000 dX3_findLive_21 rfl (by decide) ?_
    refine wq_ic_ge 27 43 dX3_findLive_24 rfl (by decide) (fun c24 => absurd c24 (nI_ge (b := 10000) (by omega) (by decide))) (fun c24 => ?_)
    refine wq_iload_n 28 2 dX3_findLive_27 rfl rfl rfl ?_
    refine wq_if_eq 31 43 dX3_findLive_28 rfl (by decide) (fun c28 => absurd c28 (by decide)) (fun c28 => ?_)
    refine wq_bload_n 32 0 dX3_findLive_31 rfl rfl rfl ?_
    refine wq_bload_n 33 1 dX3_findLive_32 rfl rfl rfl ?_
    refine cVi1 36 (sp_X3_pass (by omega) ha hl h hw) ml_X3_47 mf_X3_passFromBehind dX3_findLive_33 rfl (N_ob ha) (by decide) rfl (Nat.le_of_ble_eq_true rfl) (by omega) ?_
    refine wq_istore_n 37 2 [_, _, _, _] dX3_findLive_36 rfl rfl rfl (Nat.le_of_ble_eq_true rfl) rfl ?_
    refine wq_iinc 40 (_ + 1) [_, _, _, _] dX3_findLive_37 rfl rfl (inc1 _) rfl (Nat.le_of_ble_eq_true rfl) rfl ?_
    refine wq_goto 20 dX3_findLive_40 (by decide) ?_
    rw [hg.2, k1]
    refine wq_iload_n 21 3 dX3_findLive_20 rfl rfl rfl ?_
    refine wq_sipush 24 10000 dX3_findLive_21 rfl (by decide) ?_
    refine wq_ic_ge 27 43 dX3_findLive_24 rfl (by decide) (fun c24 => absurd c24 (by rw [← nI_succ]; exact nI_ge (b := 10000) (by omega) (by decide))) (fun c24 => ?_)
    refine wq_iload_n 28 2 dX3_findLive_27 rfl rfl rfl ?_
    refine wq_if_eq 31 43 dX3_findLive_28 rfl (by decide) (fun c28 => ?_) (fun c28 => absurd (by rfl) c28)
    refine rr dX3_findLive_43 rfl ?_
    refine hp _ (fun i hi => ?_)
    rw [(hg.1 i hi).2, (lvC_false n _).mp k1]
    exact LvE.eq hn ⟨_, k1, k2, fun _ _ => rfl⟩ i hi
  | succ r ih =>
    intro k S hk hS
    have hg := lvP_ag (p := p) (n := n) (by omega) n (Nat.le_refl n) hS
    refine wq_iload_n 21 3 dX3_findLive_20 rfl rfl rfl ?_
    refine wq_sipush 24 10000 dX3_findLive_21 rfl (by decide) ?_
    refine wq_ic_ge 27 43 dX3_findLive_24 rfl (by decide) (fun c24 => absurd c24 (nI_ge (b := 10000) (by omega) (by decide))) (fun c24 => ?_)
    refine wq_iload_n 28 2 dX3_findLive_27 rfl rfl rfl ?_
    refine wq_if_eq 31 43 dX3_findLive_28 rfl (by decide) (fun c28 => absurd c28 (by decide)) (fun c28 => ?_)
    refine wq_bload_n 32 0 dX3_findLive_31 rfl rfl rfl ?_
    refine wq_bload_n 33 1 dX3_findLive_32 rfl rfl rfl ?_
    refine cVi1 36 (sp_X3_pass (by omega) ha hl h hw) ml_X3_47 mf_X3_passFromBehind dX3_findLive_33 rfl (N_ob ha) (by decide) rfl (Nat.le_of_ble_eq_true rfl) (by omega) ?_
    refine wq_istore_n 37 2 [_, _, _, _] dX3_findLive_36 rfl rfl rfl (Nat.le_of_ble_eq_true rfl) rfl ?_
    refine wq_iinc 40 (_ + 1) [_, _, _, _] dX3_findLive_37 rfl rfl (inc1 _) rfl (Nat.le_of_ble_eq_true rfl) rfl ?_
    refine wq_goto 20 dX3_findLive_40 (by decide) ?_
    rw [hg.2, k2 k (by omega), ← nI_succ]
    exact ih (k + 1) _ (by omega) hg.1
set_option maxRecDepth 20000 in
set_option maxHeartbeats 2000000 in
theorem sp_X3_findLive {g : Gl} {D : Nat} {b : Bool} {I : IM} {L : LM} {a l n B : Nat} {p : Pg} (hD : 4 ≤ D) (ha : IsN a) (hl : IsL l) (h : LR I L l n p) (hw : WfB B p n) : Me g D MX3_findLive [rf g a, rf g l] b I L (fun r b' I' L' => r = none ∧ b' = b ∧ I' = I ∧ ∃ S : LS2, L' = lvMem L a S ∧ ∀ i, i < n → S.2 i = Lvb p n i) := by
  have hn := h.1
  obtain ⟨K, k1, k2, k3⟩ := lv_ends (p := p) hn
  refine Me.of [some (rf g a), some (rf g l), none, none] 2 rfl pf_X3_findLive (Nat.le_of_ble_eq_true rfl) ?_
  refine wq_bload_n 1 0 dX3_findLive_0 rfl rfl rfl ?_
  refine wq_getR 4 fl_X3_9 dX3_findLive_1 rfl rfl (N_ob ha) (N_rf0 ha) ?_
  refine wq_lconst 5 0 dX3_findLive_4 rfl (by decide) ?_
  refine cSv2 8 (sp_J7_fill_d0a16 (N_ar0 ha) (by decide) 0) ml_X3_41 mf_J7_fill_d0a16 dX3_findLive_5 rfl (Nat.le_of_ble_eq_true rfl) (by omega) ?_
  refine wq_bload_n 9 0 dX3_findLive_8 rfl rfl rfl ?_
  refine wq_getR 12 fl_X3_15 dX3_findLive_9 rfl rfl (N_ob ha) (N_rf1 ha) ?_
  refine wq_lconst 13 0 dX3_findLive_12 rfl (by decide) ?_
  refine cSv2 16 (sp_J7_fill_d0a16 (N_ar1 ha) (by decide) 0) ml_X3_41 mf_J7_fill_d0a16 dX3_findLive_13 rfl (Nat.le_of_ble_eq_true rfl) (by omega) ?_
  refine wq_iconst 17 1 dX3_findLive_16 rfl (by decide) ?_
  refine wq_istore_n 18 2 [_, _, _, _] dX3_findLive_17 rfl rfl rfl (Nat.le_of_ble_eq_true rfl) rfl ?_
  refine wq_iconst 19 0 dX3_findLive_18 rfl (by decide) ?_
  refine wq_istore_n 20 3 [_, _, _, _] dX3_findLive_19 rfl rfl rfl (Nat.le_of_ble_eq_true rfl) rfl ?_
  exact lp_X3_findLive (by omega) ha hl h hw k1 k2 k3 (fun S hS => ⟨rfl, rfl, rfl, S, rfl, hS⟩) K 0 (fun k => if k < 90 then 0 else _, fun k => if k < 90 then 0 else _) (by omega) (fun i hi => ⟨if_pos (by omega), if_pos (by omega)⟩)
