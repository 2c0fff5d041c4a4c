/-! Round.play -/
def Ag64 (f g : Nat → Int32) : Prop := ∀ n, n < 64 → f n = g n
theorem usB_congr {rg rg' : Nat → Int32} {A : RA} (ga : ∀ n, n < 64 → aA A n ≤ n) (h : Ag64 rg rg') (x r : Nat) : usB rg A x r = usB rg' A x r := anyB_congr (fun n hn => by rw [h _ (rt_lt ga hn)])
theorem bkS_congr {k : Nat} {A : RA} (ga : ∀ n, n < 64 → aA A n ≤ n) {s s' : (Nat → Int32) × Int64} (h : Ag64 s.1 s'.1) (h2 : s.2 = s'.2) (x : Nat) : Ag64 (bkS k A s x).1 (bkS k A s' x).1 ∧ (bkS k A s x).2 = (bkS k A s' x).2 := by
  have e : frA k s.1 A x = frA k s'.1 A x := lf_congr (fun r _ => by rw [usB_congr ga h])
  unfold bkS
  rw [← e, h2]
  by_cases c : frA k s.1 A x < k
  · rw [if_pos c, if_pos c]
    refine ⟨fun n hn => ?_, rfl⟩
    show va_up s.1 x _ n = va_up s'.1 x _ n
    by_cases en : n = x
    · rw [en, va_up_self, va_up_self]
    · rw [va_up_ne _ _ en, va_up_ne _ _ en]; exact h n hn
  · rw [if_neg c, if_neg c]; exact ⟨h, rfl⟩
theorem bkA_congr {k : Nat} {A : RA} (ga : ∀ n, n < 64 → aA A n ≤ n) : ∀ q {s s' : (Nat → Int32) × Int64}, Ag64 s.1 s'.1 → s.2 = s'.2 → Ag64 (bkA k A q s).1 (bkA k A q s').1 ∧ (bkA k A q s).2 = (bkA k A q s').2
  | 0, _, _, h, h2 => ⟨h, h2⟩
  | q + 1, _, _, h, h2 => bkA_congr ga q (bkS_congr ga h h2 _).1 (bkS_congr ga h h2 _).2
/-- a round's end -/
def endA (k w : Nat) (p : Pg) (n : Nat) : RA := runA k w (mvs p n) (mf1 p n) (mf2 p n) 150 (begA p n)
def bckA (k w : Nat) (p : Pg) (n : Nat) : (Nat → Int32) × Int64 := bkA k (endA k w p n) (aK (endA k w p n)) (rg0, 0)
set_option maxRecDepth 20000 in
set_option maxHeartbeats 2000000 in
theorem sp_X5_play {g : Gl} {D : Nat} {b : Bool} {I : IM} {L : LM} {l n B a k w : Nat} {p : Pg} (hD : 7 ≤ D) (hl : IsL l) (ha : IsN a) (h : LR I L l n p) (hw : WfB B p n) (hN : NdR I L a p n) (hk : k ≤ 4) (hwy : w < 3) {i j : Int32} (hi : i = nI k) (hj : j = nI w) : Me g D MX5_play [rf g 21, rf g l, rf g a, .int i, .int j] b I L (fun r b' I' L' => r = none ∧ b' = b ∧ (∃ t, RX I' L' k w (mvs p n) t (mf1 p n) (mf2 p n) (endA k w p n)) ∧ Ag64 (I' 26) (bckA k w p n).1 ∧ L' 21 17 = (bckA k w p n).2 ∧ (∀ x, x ∉ RR → I' x = I x) ∧ ∀ x, x ≠ 21 → x ≠ 22 → L' x = L x) := by
  subst hi hj
  obtain ⟨t, ht⟩ := TN_all p n
  have gs := GS_beg h.1 hw ht
  have hrb : RB t (begA p n) := fun i hi => absurd hi (Nat.not_lt_zero i)
  have hlo : lvA (begA p n) + omA (mvs p n) (begA p n) ≤ 150 := by have := gs.2.1; omega
  obtain ⟨e1, e2, e3⟩ := run_ok (k := k) (w := w) 150 _ gs hrb hlo
  have hl21 : ∀ j, j < 5 → l + j ≠ 21 := fun j hj => by
    rcases hl with rfl | rfl | rfl | rfl | rfl | rfl <;> omega
  have haN : ∀ j, j < 6 → a + j < 21 := fun j hj => by rcases ha with rfl | rfl <;> omega
  refine Me.of [some (rf g 21), some (rf g l), some (rf g a), some (.int (nI k)), some (.int (nI w)), none] 1 rfl pf_X5_play (Nat.le_of_ble_eq_true rfl) ?_
  refine wq_bload_n 1 0 dX5_play_0 rfl rfl rfl ?_
  refine wq_iload_n 2 3 dX5_play_1 rfl rfl rfl ?_
  refine wq_putI 5 fl_X5_70 dX5_play_2 rfl rfl rfl rfl rfl o_21 ?_
  refine wq_bload_n 6 0 dX5_play_5 rfl rfl rfl ?_
  refine wq_iload 8 dX5_play_6 rfl rfl ?_
  refine wq_putI 11 fl_X5_73 dX5_play_8 rfl rfl rfl rfl rfl o_21 ?_
  refine wq_gen (fun I1 L1 eI1 eL1 => ?_)
  rw [eL1]
  clear eL1 L1
  have ix : ∀ x, x ≠ 21 → I1 x = I x := fun x hx => by rw [eI1, va_up_ne _ _ hx, va_up_ne _ _ hx]
  have i18 : I1 21 18 = nI k := by rw [eI1]; simp [va_up]
  have i19 : I1 21 19 = nI w := by rw [eI1]; simp [va_up]
  clear eI1
  have h1 : LR I1 L l n p := LR_keep h (fun j hj => ix _ (hl21 j hj)) (fun _ _ => rfl)
  have hN1 : NdR I1 L a p n := ⟨hN.1, hN.2.1, by rw [ix _ (by have := haN 5 (by omega); omega)]; exact hN.2.2⟩
  refine wq_bload_n 12 0 dX5_play_11 rfl rfl rfl ?_
  refine wq_bload_n 13 1 dX5_play_12 rfl rfl rfl ?_
  refine wq_bload_n 14 2 dX5_play_13 rfl rfl rfl ?_
  refine cVp2 17 (sp_X5_begin (by omega) hl ha h1 hw hN1 ht i18 i19) ml_X5_76 mf_X5_begin dX5_play_14 rfl o_21 (by decide) rfl (Nat.le_of_ble_eq_true rfl) (by omega) ?_
  rintro _ _ I2 L2 ⟨rfl, rfl, hR, hr, l17, j1, m1⟩
  refine wq_iconst 18 0 dX5_play_17 rfl (by decide) ?_
  refine wq_istore 20 [_, _, _, _, _, _] dX5_play_18 rfl rfl (Nat.le_of_ble_eq_true rfl) rfl ?_
  refine lp_X5_play (by omega) (by omega) hwy 150 0 _ I2 L2 hR gs hlo (by omega) (fun I3 L3 l5 hR3 fx => ?_)
  have r26 : I3 26 = I2 26 := fx.1 26 (by decide)
  have hRg : RgB (I3 26) := fun x hx => by
    rw [r26, hr x hx]
    unfold rg0
    by_cases c : x < 4
    · rw [if_pos c]; exact Or.inr ⟨x, c, rfl⟩
    · rw [if_neg c]; exact Or.inl rfl
  have hK : aK (runA k w (mvs p n) (mf1 p n) (mf2 p n) 150 (begA p n)) ≤ 64 := by have := e1.2.2.1; omega
  refine wq_bload_n 67 0 dX5_play_66 rfl rfl rfl ?_
  refine cVv0 70 (sp_X5_back (by omega) hk hR3 e1.1 hK e2 hRg) ml_X5_96 mf_X5_bringBack dX5_play_67 rfl o_21 (by decide) rfl (Nat.le_of_ble_eq_true rfl) (by omega) ?_
  refine rr dX5_play_70 rfl ?_
  have cg := bkA_congr (k := k) (A := endA k w p n) e1.1.1 (aK (endA k w p n)) (s := (I3 26, L3 21 17)) (s' := (rg0, 0)) (fun x hx => by show I3 26 x = _; rw [r26]; exact hr x hx) (by show L3 21 17 = 0; rw [fx.2.2]; exact l17)
  refine ⟨rfl, rfl, ⟨t, RX_back hR3 (fun x hx => va_up_ne _ _ hx) (fun x hx => va_up_ne _ _ hx) (by rw [va_up_self, va_up_ne _ _ (by decide)])⟩, ?_, ?_, fun x hx => ?_, fun x x1 x2 => ?_⟩
  · rw [va_up_self]; exact cg.1
  · rw [va_up_self, va_up_self]; exact cg.2
  · have hx' := hx
    simp [RR] at hx
    rw [va_up_ne _ _ (by omega), fx.1 x (by simp; omega), j1 x hx', ix x (by omega)]
  · rw [va_up_ne _ _ x1, fx.2.1 x (by simp; omega), m1 x x1 x2]
