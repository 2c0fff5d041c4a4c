/-! Round: registersBeside, bringBack -/
theorem onI_b : ∀ r, r < 4 → ∀ i, i < 32 → bt ((1 : Int32) <<< (nI r &&& 31)) i = decide (i = r) := by decide +kernel
theorem low_bit (y : Int32) : y &&& 1 = 0 ↔ bt y 0 = false := by
  have b1 : ∀ i, i < 32 → bt 1 i = decide (i = 0) := by decide +kernel
  constructor
  · intro e
    have := congrArg (fun v => bt v 0) e
    simp only [b_and, b1 0 (by omega), b_0] at this
    simpa using this
  · intro e
    apply b_ext
    intro i hi
    rw [b_and, b1 i hi, b_0]
    by_cases c : i = 0
    · rw [c, e]; rfl
    · simp [c]
def usB (rg : Nat → Int32) (A : RA) (x r : Nat) : Bool := anyB (fun n => tb (aN A x) n && decide (rg (rt (aA A) n) = nI r)) 64
def frA (k : Nat) (rg : Nat → Int32) (A : RA) (x : Nat) : Nat := lf (fun r => !usB rg A x r) k
def bkS (k : Nat) (A : RA) (s : (Nat → Int32) × Int64) (x : Nat) : (Nat → Int32) × Int64 := if frA k s.1 A x < k then (va_up s.1 x (nI (frA k s.1 A x)), s.2) else (s.1, s.2 ||| one (nI x))
/-- all that were taken come back, the last first -/
def bkA (k : Nat) (A : RA) : Nat → (Nat → Int32) × Int64 → (Nat → Int32) × Int64
  | 0, s => s
  | i + 1, s => bkA k A i (bkS k A s (aT A i))
def RgB (rg : Nat → Int32) : Prop := ∀ n, n < 64 → rg n = -6 ∨ ∃ r, r < 4 ∧ rg n = nI r
theorem anyB_cut {f : Nat → Bool} {t : Nat} (h : ∀ j, t ≤ j → f j = false) : ∀ r, anyB f (t + r) = anyB f t
  | 0 => rfl
  | r + 1 => by rw [← Nat.add_assoc, anyB, anyB_cut h r, h (t + r) (by omega), Bool.or_false]
set_option maxRecDepth 20000 in
set_option maxHeartbeats 2000000 in
theorem lp_X5_beside {g : Gl} {D : Nat} {b : Bool} {I : IM} {L : LM} {k w mv t x : Nat} {f1 f2 : Nat → Nat} {A : RA} (hD : 2 ≤ D) (h : RX I L k w mv t f1 f2 A) (ga : ∀ n, n < 64 → aA A n ≤ n) (gt : t ≤ 64) (hx : x < 64) (hr : RgB (I 26)) {post : Option Value → Bool → IM → LM → Prop} (hp : ∀ u, (∀ r, r < 4 → bt u r = anyB (fun n => tb (aN A x) n && decide (I 26 (rt (aA A) n) = nI r)) t) → post (some (.int u)) b I L) : ∀ r q u l4, q + r = t → (∀ r, r < 4 → bt u r = anyB (fun n => tb (aN A x) n && decide (I 26 (rt (aA A) n) = nI r)) q) → Wp (Kn g D MX5_registersBeside post) (Tb b) 4 [some (rf g 21), some (.int (nI x)), some (.int u), some (.int (nI q)), l4] [] I L := by
  have hA := h.2.2.1
  have h10 := h.2.2.2.2.2.2.2.2.2.1
  have h1 := h.1 x hx
  intro r
  induction r with
  | zero =>
    intro q u l4 hq hu
    have eq : q = t := by omega
    subst eq
    refine wq_iload_n 5 3 dX5_registersBeside_4 rfl rfl rfl ?_
    refine wq_bload_n 6 0 dX5_registersBeside_5 rfl rfl rfl ?_
    refine wq_getI 9 fl_X5_44 dX5_registersBeside_6 rfl rfl o_21 ?_
    refine wq_ic_ge 12 55 dX5_registersBeside_9 rfl (by decide) (fun c9 => ?_) (fun c9 => absurd (by rw [h10]; exact nI_le (Nat.le_refl _) (by omega)) c9)
    refine wq_iload_n 56 2 dX5_registersBeside_55 rfl rfl rfl ?_
    refine ri .int dX5_registersBeside_56 rfl rfl ?_
    exact hp u hu
  | succ r ih =>
    intro q u l4 hq hu
    have lq := rt_lt ga (show q < 64 by omega)
    refine wq_iload_n 5 3 dX5_registersBeside_4 rfl rfl rfl ?_
    refine wq_bload_n 6 0 dX5_registersBeside_5 rfl rfl rfl ?_
    refine wq_getI 9 fl_X5_44 dX5_registersBeside_6 rfl rfl o_21 ?_
    refine wq_ic_ge 12 55 dX5_registersBeside_9 rfl (by decide) (fun c9 => absurd c9 (by rw [h10]; exact nI_ge (by omega) (by omega))) (fun c9 => ?_)
    refine wq_bload_n 13 0 dX5_registersBeside_12 rfl rfl rfl ?_
    refine wq_getR 16 fl_X5_9 dX5_registersBeside_13 rfl rfl o_21 (rfl : (Tb _).2.2.2 21 0 = some 22) ?_
    refine wq_iload_n 17 1 dX5_registersBeside_16 rfl rfl rfl ?_
    refine wq_lald 18 dX5_registersBeside_17 rfl a_22 (Ix.nI (by omega) (by decide)) ?_
    refine wq_iload_n 19 3 dX5_registersBeside_18 rfl rfl rfl ?_
    refine cSi2 22 (sp_X7_has _ _) ml_X5_132 mf_X7_has dX5_registersBeside_19 rfl (Nat.le_of_ble_eq_true rfl) (by omega) ?_
    refine wq_if_eq 25 49 dX5_registersBeside_22 rfl (by decide) (fun c22 => ?_) (fun c22 => ?_)
    · skip
      refine wq_iinc 52 (_ + 1) [_, _, _, _, _] dX5_registersBeside_49 rfl rfl (inc1 _) rfl (Nat.le_of_ble_eq_true rfl) rfl ?_
      refine wq_goto 4 dX5_registersBeside_52 (by decide) ?_
      have e : tb (aN A x) q = false := (hasX_eq0 _ (k := q) (by omega)).mp (by rw [← h1]; exact c22)
      rw [← nI_succ]
      exact ih (q + 1) u _ (by omega) (fun r hr' => by rw [anyB, ← hu r hr', e, Bool.false_and, Bool.or_false])
    · skip
      refine wq_bload_n 26 0 dX5_registersBeside_25 rfl rfl rfl ?_
      refine wq_getR 29 fl_X5_25 dX5_registersBeside_26 rfl rfl o_21 (rfl : (Tb _).2.2.2 21 4 = some 26) ?_
      refine wq_bload_n 30 0 dX5_registersBeside_29 rfl rfl rfl ?_
      refine wq_iload_n 31 3 dX5_registersBeside_30 rfl rfl rfl ?_
      refine cVi1 34 (sp_X5_nodeOf (by omega) hA ga q rfl (by omega)) ml_X5_136 mf_X5_nodeOf dX5_registersBeside_31 rfl o_21 (by decide) rfl (Nat.le_of_ble_eq_true rfl) (by omega) ?_
      refine wq_iald 35 dX5_registersBeside_34 rfl a_26 (Ix.nI (by omega) (by decide)) ?_
      refine wq_istore 37 [_, _, _, _, _] dX5_registersBeside_35 rfl rfl (Nat.le_of_ble_eq_true rfl) rfl ?_
      refine wq_iload 39 dX5_registersBeside_37 rfl rfl ?_
      refine wq_if_lt 42 49 dX5_registersBeside_39 rfl (by decide) (fun c39 => ?_) (fun c39 => ?_)
      · skip
        refine wq_iinc 52 (_ + 1) [_, _, _, _, _] dX5_registersBeside_49 rfl rfl (inc1 _) rfl (Nat.le_of_ble_eq_true rfl) rfl ?_
        refine wq_goto 4 dX5_registersBeside_52 (by decide) ?_
        rw [← nI_succ]
        refine ih (q + 1) u _ (by omega) (fun r hr' => ?_)
        rw [anyB, ← hu r hr', decide_eq_false (fun z => by rw [z] at c39; exact nI_pos (n := r) (by omega) c39), Bool.and_false, Bool.or_false]
      · skip
        refine wq_iload_n 43 2 dX5_registersBeside_42 rfl rfl rfl ?_
        refine wq_iconst 44 1 dX5_registersBeside_43 rfl (by decide) ?_
        refine wq_iload 46 dX5_registersBeside_44 rfl rfl ?_
        refine wq_ishl 47 dX5_registersBeside_46 rfl ?_
        refine wq_ior 48 dX5_registersBeside_47 rfl ?_
        refine wq_istore_n 49 2 [_, _, _, _, _] dX5_registersBeside_48 rfl rfl rfl (Nat.le_of_ble_eq_true rfl) rfl ?_
        refine wq_iinc 52 (_ + 1) [_, _, _, _, _] dX5_registersBeside_49 rfl rfl (inc1 _) rfl (Nat.le_of_ble_eq_true rfl) rfl ?_
        refine wq_goto 4 dX5_registersBeside_52 (by decide) ?_
        have e : tb (aN A x) q = true := (hasX_ne0 _ (k := q) (by omega)).mp (by rw [← h1]; exact c22)
        rcases hr _ lq with z | ⟨s, s1, s2⟩
        · exact absurd (by rw [z]; decide) c39
        · rw [← nI_succ, s2]
          refine ih (q + 1) _ _ (by omega) (fun r hr' => ?_)
          rw [b_or, onI_b s s1 r (by omega), anyB, ← hu r hr', e, s2, Bool.true_and]
          rw [decide_eq_decide.mpr (show r = s ↔ nI s = nI r from ⟨fun z => by rw [z], fun z => ((nI_eq (by omega) (by omega)).mp z).symm⟩)]
set_option maxRecDepth 20000 in
theorem sp_X5_beside {g : Gl} {D : Nat} {b : Bool} {I : IM} {L : LM} {k w mv t x : Nat} {f1 f2 : Nat → Nat} {A : RA} (hD : 2 ≤ D) (h : RX I L k w mv t f1 f2 A) (ga : ∀ n, n < 64 → aA A n ≤ n) (gt : t ≤ 64) {i : Int32} (hi : i = nI x) (hx : x < 64) (hrow : ∀ j, tb (aN A x) j = true → j < t) (hr : RgB (I 26)) : Me g D MX5_registersBeside [rf g 21, .int i] b I L (fun r b' I' L' => b' = b ∧ I' = I ∧ L' = L ∧ ∃ u, r = some (.int u) ∧ ∀ r, r < 4 → bt u r = usB (I 26) A x r) := by
  subst hi
  refine Me.of [some (rf g 21), some (.int (nI x)), none, none, none] 3 rfl pf_X5_registersBeside (Nat.le_of_ble_eq_true rfl) ?_
  refine wq_iconst 1 0 dX5_registersBeside_0 rfl (by decide) ?_
  refine wq_istore_n 2 2 [_, _, _, _, _] dX5_registersBeside_1 rfl rfl rfl (Nat.le_of_ble_eq_true rfl) rfl ?_
  refine wq_iconst 3 0 dX5_registersBeside_2 rfl (by decide) ?_
  refine wq_istore_n 4 3 [_, _, _, _, _] dX5_registersBeside_3 rfl rfl rfl (Nat.le_of_ble_eq_true rfl) rfl ?_
  refine lp_X5_beside hD h ga gt hx hr (fun u hu => ⟨rfl, rfl, rfl, u, rfl, fun r hr' => ?_⟩) t 0 0 _ (by omega) (fun r hr' => by rw [b_0]; rfl)
  rw [hu r hr', usB]
  have := anyB_cut (f := fun n => tb (aN A x) n && decide (I 26 (rt (aA A) n) = nI r)) (t := t) (fun j hj => by rw [show tb (aN A x) j = false from Bool.eq_false_iff.mpr (fun z => by have := hrow j z; omega), Bool.false_and]) (64 - t)
  rw [show t + (64 - t) = 64 by omega] at this
  exact this.symm
theorem RX_back {I I' : IM} {L L' : LM} {k w mv t : Nat} {f1 f2 : Nat → Nat} {A : RA} (h : RX I L k w mv t f1 f2 A) (e : ∀ x, x ≠ 26 → I' x = I x) (e2 : ∀ x, x ≠ 21 → L' x = L x) (e3 : L' 21 14 = L 21 14) : RX I' L' k w mv t f1 f2 A := by
  unfold RX
  rw [e 21 (by decide), e 24 (by decide), e 25 (by decide), e 27 (by decide), e 28 (by decide), e 29 (by decide), e 30 (by decide), e 31 (by decide), e2 22 (by decide), e3]
  exact h
theorem RgB_up {rg : Nat → Int32} (h : RgB rg) {x r : Nat} (hr : r < 4) : RgB (va_up rg x (nI r)) := by
  intro n hn
  by_cases e : n = x
  · rw [e, va_up_self]; exact Or.inr ⟨r, hr, rfl⟩
  · rw [va_up_ne _ _ e]; exact h n hn
set_option maxRecDepth 20000 in
set_option maxHeartbeats 2000000 in
theorem lp_X5_back {g : Gl} {D : Nat} {b : Bool} {I : IM} {L : LM} {k w mv t : Nat} {f1 f2 : Nat → Nat} {A : RA} (hD : 3 ≤ D) (hk : k ≤ 4) (h : RX I L k w mv t f1 f2 A) (hg : GA mv t f1 f2 A) (hK : aK A ≤ 64) (hrow : ∀ i, i < aK A → ∀ j, tb (aN A (aT A i)) j = true → j < t) {post : Option Value → Bool → IM → LM → Prop} {F : (Nat → Int32) × Int64} (hp : post none b (va_up I 26 F.1) (va_up L 21 (va_up (L 21) 17 F.2))) : ∀ q s l2 l3 l4, q ≤ aK A → RgB s.1 → bkA k A q s = F → Wp (Kn g D MX5_bringBack post) (Tb b) 7 [some (rf g 21), some (.int (nI q - 1)), l2, l3, l4] [] (va_up I 26 s.1) (va_up L 21 (va_up (L 21) 17 s.2)) := by
  have hR : ∀ (s : (Nat → Int32) × Int64), RX (va_up I 26 s.1) (va_up L 21 (va_up (L 21) 17 s.2)) k w mv t f1 f2 A := fun s => RX_back h (fun x hx => va_up_ne _ _ hx) (fun x hx => va_up_ne _ _ hx) (by rw [va_up_self, va_up_ne _ _ (by decide)])
  have ga := hg.1
  have gt := hg.2.2.1
  intro q
  induction q with
  | zero =>
    intro s l2 l3 l4 hq hs hF
    rw [bkA] at hF
    rw [← hF] at hp
    refine wq_iload_n 8 1 dX5_bringBack_7 rfl rfl rfl ?_
    refine wq_if_lt 11 89 dX5_bringBack_8 rfl (by decide) (fun c8 => ?_) (fun c8 => absurd (by decide) c8)
    refine rr dX5_bringBack_89 rfl ?_
    exact hp
  | succ q ih =>
    intro s l2 l3 l4 hq hs hF
    rw [nI_pred]
    rw [bkA] at hF
    have hT := h.2.2.2.2.2.1 q (by omega)
    have hT2 := (hg.2.2.2.2.2.2.2.2.2.2 q (by omega)).2.1
    have h13 := (hR s).2.2.2.2.2.2.2.2.2.2.2.2.1
    have hr' := hrow q (by omega)
    generalize aT A q = x at *
    have J51 : ∀ (v : Nat) l3, v = frA k s.1 A x → v ≤ 4 → Wp (Kn g D MX5_bringBack post) (Tb b) 51 [some (rf g 21), some (.int (nI q)), some (.int (nI x)), l3, some (.int (nI v))] [] (va_up I 26 s.1) (va_up L 21 (va_up (L 21) 17 s.2)) := by
      intro v l3 hv hv4
      by_cases c : v < k
      · have e : bkS k A s x = (va_up s.1 x (nI v), s.2) := by rw [bkS, ← hv, if_pos c]
        rw [e] at hF
        refine wq_iload 53 dX5_bringBack_51 rfl rfl ?_
        refine wq_bload_n 54 0 dX5_bringBack_53 rfl rfl rfl ?_
        refine wq_getI 57 fl_X5_70 dX5_bringBack_54 rfl rfl o_21 ?_
        refine wq_ic_ge 60 71 dX5_bringBack_57 rfl (by decide) (fun c57 => absurd c57 (by rw [h13]; exact nI_ge c (by omega))) (fun c57 => ?_)
        refine wq_bload_n 61 0 dX5_bringBack_60 rfl rfl rfl ?_
        refine wq_getR 64 fl_X5_25 dX5_bringBack_61 rfl rfl o_21 (rfl : (Tb _).2.2.2 21 4 = some 26) ?_
        refine wq_iload_n 65 2 dX5_bringBack_64 rfl rfl rfl ?_
        refine wq_iload 67 dX5_bringBack_65 rfl rfl ?_
        refine wq_iast 68 dX5_bringBack_67 rfl a_26 (Ix.nI (by omega) (by decide)) ?_
        refine wq_goto 83 dX5_bringBack_68 (by decide) ?_
        refine wq_iinc 86 (nI q - 1) [_, _, _, _, _] dX5_bringBack_83 rfl rfl (pred1 _) rfl (Nat.le_of_ble_eq_true rfl) rfl ?_
        refine wq_goto 7 dX5_bringBack_86 (by decide) ?_
        rw [va_up_self, va_up_up]
        exact ih (va_up s.1 x (nI v), s.2) _ _ _ (by omega) (RgB_up hs (by omega)) hF
      · have e : bkS k A s x = (s.1, s.2 ||| one (nI x)) := by rw [bkS, ← hv, if_neg c]
        rw [e] at hF
        refine wq_iload 53 dX5_bringBack_51 rfl rfl ?_
        refine wq_bload_n 54 0 dX5_bringBack_53 rfl rfl rfl ?_
        refine wq_getI 57 fl_X5_70 dX5_bringBack_54 rfl rfl o_21 ?_
        refine wq_ic_ge 60 71 dX5_bringBack_57 rfl (by decide) (fun c57 => ?_) (fun c57 => absurd (by rw [h13]; exact nI_le (by omega) (by omega)) c57)
        refine wq_bload_n 72 0 dX5_bringBack_71 rfl rfl rfl ?_
        refine wq_dup 73 dX5_bringBack_72 rfl rfl ?_
        refine wq_getL 76 fl_X5_67 dX5_bringBack_73 rfl rfl o_21 ?_
        refine wq_lconst 77 1 dX5_bringBack_76 rfl (by decide) ?_
        refine wq_iload_n 78 2 dX5_bringBack_77 rfl rfl rfl ?_
        refine wq_lshl 79 dX5_bringBack_78 rfl ?_
        refine wq_lor 80 dX5_bringBack_79 rfl ?_
        refine wq_putL 83 fl_X5_67 dX5_bringBack_80 rfl rfl rfl rfl rfl o_21 ?_
        refine wq_iinc 86 (nI q - 1) [_, _, _, _, _] dX5_bringBack_83 rfl rfl (pred1 _) rfl (Nat.le_of_ble_eq_true rfl) rfl ?_
        refine wq_goto 7 dX5_bringBack_86 (by decide) ?_
        rw [va_up_self, va_up_up, va_up_self, va_up_up]
        exact ih (s.1, s.2 ||| one (nI x)) _ _ _ (by omega) hs hF
    have J27 : ∀ u, (∀ r, r < 4 → bt u r = usB s.1 A x r) → ∀ r v, v + r = k → (∀ j, j < v → usB s.1 A x j = true) → Wp (Kn g D MX5_bringBack post) (Tb b) 27 [some (rf g 21), some (.int (nI q)), some (.int (nI x)), some (.int u), some (.int (nI v))] [] (va_up I 26 s.1) (va_up L 21 (va_up (L 21) 17 s.2)) := by
      intro u hu r
      induction r with
      | zero =>
        intro v hv hj
        have ev : v = k := by omega
        refine wq_iload 29 dX5_bringBack_27 rfl rfl ?_
        refine wq_bload_n 30 0 dX5_bringBack_29 rfl rfl rfl ?_
        refine wq_getI 33 fl_X5_70 dX5_bringBack_30 rfl rfl o_21 ?_
        refine wq_ic_ge 36 51 dX5_bringBack_33 rfl (by decide) (fun c33 => ?_) (fun c33 => absurd (by rw [h13, ev]; exact nI_le (Nat.le_refl _) (by omega)) c33)
        refine J51 v _ ?_ (by omega)
        rw [frA, lf_none (fun j hj' => by rw [hj j (by omega)]; rfl), ev]
      | succ r ih2 =>
        intro v hv hj
        refine wq_iload 29 dX5_bringBack_27 rfl rfl ?_
        refine wq_bload_n 30 0 dX5_bringBack_29 rfl rfl rfl ?_
        refine wq_getI 33 fl_X5_70 dX5_bringBack_30 rfl rfl o_21 ?_
        refine wq_ic_ge 36 51 dX5_bringBack_33 rfl (by decide) (fun c33 => absurd c33 (by rw [h13]; exact nI_ge (by omega) (by omega))) (fun c33 => ?_)
        refine wq_iload_n 37 3 dX5_bringBack_36 rfl rfl rfl ?_
        refine wq_iload 39 dX5_bringBack_37 rfl rfl ?_
        refine wq_iushr 40 dX5_bringBack_39 rfl ?_
        refine wq_iconst 41 1 dX5_bringBack_40 rfl (by decide) ?_
        refine wq_iand 42 dX5_bringBack_41 rfl ?_
        refine wq_if_eq 45 51 dX5_bringBack_42 rfl (by decide) (fun c42 => ?_) (fun c42 => ?_)
        · skip
          have e := (low_bit _).mp c42
          rw [b_ushr v (by omega), Nat.add_zero, hu v (by omega)] at e
          refine J51 v _ ?_ (by omega)
          rw [frA]
          exact (lf_found (fun j hj' => by rw [hj j hj']; rfl) (by rw [e]; rfl) (by omega)).symm
        · skip
          refine wq_iinc 48 (_ + 1) [_, _, _, _, _] dX5_bringBack_45 rfl rfl (inc1 _) rfl (Nat.le_of_ble_eq_true rfl) rfl ?_
          refine wq_goto 27 dX5_bringBack_48 (by decide) ?_
          have e : usB s.1 A x v = true := Decidable.byContradiction (fun z => c42 ((low_bit _).mpr (by rw [b_ushr v (by omega), Nat.add_zero, hu v (by omega)]; exact Bool.eq_false_iff.mpr z)))
          rw [← nI_succ]
          refine ih2 (v + 1) (by omega) (fun j hj' => ?_)
          by_cases ej : j = v
          · rw [ej]; exact e
          · exact hj j (by omega)
    refine wq_iload_n 8 1 dX5_bringBack_7 rfl rfl rfl ?_
    refine wq_if_lt 11 89 dX5_bringBack_8 rfl (by decide) (fun c8 => absurd c8 (nI_pos (by omega))) (fun c8 => ?_)
    refine wq_bload_n 12 0 dX5_bringBack_11 rfl rfl rfl ?_
    refine wq_getR 15 fl_X5_38 dX5_bringBack_12 rfl rfl o_21 (rfl : (Tb _).2.2.2 21 8 = some 30) ?_
    refine wq_iload_n 16 1 dX5_bringBack_15 rfl rfl rfl ?_
    refine wq_iald 17 dX5_bringBack_16 rfl a_30 (Ix.nI (by omega) (by decide)) ?_
    rw [va_up_ne _ _ (by decide), hT]
    refine wq_istore_n 18 2 [_, _, _, _, _] dX5_bringBack_17 rfl rfl rfl (Nat.le_of_ble_eq_true rfl) rfl ?_
    refine wq_bload_n 19 0 dX5_bringBack_18 rfl rfl rfl ?_
    refine wq_iload_n 20 2 dX5_bringBack_19 rfl rfl rfl ?_
    refine cVp1 23 (sp_X5_beside (by omega) (hR s) ga gt rfl hT2 hr' (by rw [va_up_self]; exact hs)) ml_X5_172 mf_X5_registersBeside dX5_bringBack_20 rfl o_21 (by decide) rfl (Nat.le_of_ble_eq_true rfl) (by omega) ?_
    rintro _ _ _ _ ⟨rfl, rfl, rfl, u, rfl, hu⟩
    rw [va_up_self] at hu
    refine wq_istore_n 24 3 [_, _, _, _, _] dX5_bringBack_23 rfl rfl rfl (Nat.le_of_ble_eq_true rfl) rfl ?_
    refine wq_iconst 25 0 dX5_bringBack_24 rfl (by decide) ?_
    refine wq_istore 27 [_, _, _, _, _] dX5_bringBack_25 rfl rfl (Nat.le_of_ble_eq_true rfl) rfl ?_
    exact J27 u hu k 0 (by omega) (fun j hj => by omega)
set_option maxRecDepth 20000 in
theorem sp_X5_back {g : Gl} {D : Nat} {b : Bool} {I : IM} {L : LM} {k w mv t : Nat} {f1 f2 : Nat → Nat} {A : RA} (hD : 3 ≤ D) (hk : k ≤ 4) (h : RX I L k w mv t f1 f2 A) (hg : GA mv t f1 f2 A) (hK : aK A ≤ 64) (hrow : ∀ i, i < aK A → ∀ j, tb (aN A (aT A i)) j = true → j < t) (hr : RgB (I 26)) : Md g D MX5_bringBack [rf g 21] b I L none b (va_up I 26 (bkA k A (aK A) (I 26, L 21 17)).1) (va_up L 21 (va_up (L 21) 17 (bkA k A (aK A) (I 26, L 21 17)).2)) := by
  refine Me.of [some (rf g 21), none, none, none, none] 4 rfl pf_X5_bringBack (Nat.le_of_ble_eq_true rfl) ?_
  refine wq_bload_n 1 0 dX5_bringBack_0 rfl rfl rfl ?_
  refine wq_getI 4 fl_X5_51 dX5_bringBack_1 rfl rfl o_21 ?_
  rw [h.2.2.2.2.2.2.1]
  refine wq_iconst 5 1 dX5_bringBack_4 rfl (by decide) ?_
  refine wq_isub 6 dX5_bringBack_5 rfl ?_
  refine wq_istore_n 7 1 [_, _, _, _, _] dX5_bringBack_6 rfl rfl rfl (Nat.le_of_ble_eq_true rfl) rfl ?_
  refine wp_eqI (va_up_id I 26) ?_
  refine wp_eqL (L' := va_up L 21 (va_up (L 21) 17 (L 21 17))) (by rw [va_up_id, va_up_id]) ?_
  exact lp_X5_back hD hk h hg hK hrow ⟨rfl, rfl, rfl, rfl⟩ (aK A) (I 26, L 21 17) _ _ _ (Nat.le_refl _) hr rfl
