/-! Round's steps -/
def FX (I : IM) (L : LM) (I' : IM) (L' : LM) : Prop := (∀ x, x ∉ [21, 23, 24, 25, 29, 30, 31] → I' x = I x) ∧ (∀ x, x ∉ [21, 22] → L' x = L x) ∧ L' 21 17 = L 21 17
theorem FX.refl (I : IM) (L : LM) : FX I L I L := ⟨fun _ _ => rfl, fun _ _ => rfl, rfl⟩
theorem FX.trans {I I' I'' : IM} {L L' L'' : LM} (h : FX I L I' L') (h' : FX I' L' I'' L'') : FX I L I'' L'' := ⟨fun x hx => (h'.1 x hx).trans (h.1 x hx), fun x hx => (h'.2.1 x hx).trans (h.2.1 x hx), h'.2.2.trans h.2.2⟩
theorem RX_note {I : IM} {L : LM} {k w mv t c : Nat} {f1 f2 : Nat → Nat} {A : RA} (h : RX I L k w mv t f1 f2 A) : RX (va_up (va_up I 31 (va_up (I 31) (aQ A) (nI c))) 21 (va_up (I 21) 13 (nI (aQ A + 1)))) L k w mv t f1 f2 (noteA A c) := by
  obtain ⟨h1, h2, h3, h4, h5, h6, h7, h8, h9, h10, h11, h12, h13, h14⟩ := h
  have i21 : va_up (va_up I 31 (va_up (I 31) (aQ A) (nI c))) 21 (va_up (I 21) 13 (nI (aQ A + 1))) 21 = va_up (I 21) 13 (nI (aQ A + 1)) := va_up_self _ _ _
  have i31 : va_up (va_up I 31 (va_up (I 31) (aQ A) (nI c))) 21 (va_up (I 21) 13 (nI (aQ A + 1))) 31 = va_up (I 31) (aQ A) (nI c) := by rw [va_up_ne _ _ (by decide), va_up_self]
  have ix : ∀ z, z ≠ 21 → z ≠ 31 → va_up (va_up I 31 (va_up (I 31) (aQ A) (nI c))) 21 (va_up (I 21) 13 (nI (aQ A + 1))) z = I z := fun z z1 z2 => by rw [va_up_ne _ _ z1, va_up_ne _ _ z2]
  refine ⟨h1, h2, fun n hn => ?_, fun n hn n4 hl => ?_, fun m hm => ?_, fun i hi => ?_, ?_, fun i hi => ?_, ?_, ?_, ?_, fun m hm => ?_, ?_, ?_⟩
  · rw [ix 25 (by decide) (by decide)]; exact h3 n hn
  · rw [ix 24 (by decide) (by decide)]; exact h4 n hn n4 hl
  · rw [ix 29 (by decide) (by decide)]; exact h5 m hm
  · rw [ix 30 (by decide) (by decide)]; exact h6 i hi
  · rw [i21, va_up_ne _ _ (by decide)]; exact h7
  · have hi' : i < aQ A + 1 := hi
    rw [i31]
    show _ = nI (va_up (aS A) (aQ A) c i)
    by_cases e : i = aQ A
    · rw [e, va_up_self, va_up_self]
    · rw [va_up_ne _ _ e, va_up_ne _ _ e]; exact h8 i (by omega)
  · rw [i21, va_up_self]; rfl
  · rw [i21, va_up_ne _ _ (by decide)]; exact h10
  · rw [i21, va_up_ne _ _ (by decide)]; exact h11
  · rw [ix 27 (by decide) (by decide), ix 28 (by decide) (by decide)]; exact h12 m hm
  · rw [i21, va_up_ne _ _ (by decide)]; exact h13
  · rw [i21, va_up_ne _ _ (by decide)]; exact h14
theorem FX_note (I : IM) (L : LM) (u : Nat → Int32) (v : Nat → Int32) : FX I L (va_up (va_up I 31 u) 21 v) L := ⟨fun x hx => by
  simp at hx
  rw [va_up_ne _ _ hx.1, va_up_ne _ _ hx.2.2.2.2.2.2], fun _ _ => rfl, rfl⟩
theorem lf_cut {f : Nat → Bool} {t : Nat} (ht : t ≤ 64) (h : ∀ j, t ≤ j → j < 64 → f j = false) : (lf f t < t ∧ lf f 64 = lf f t) ∨ (¬ lf f t < t ∧ lf f 64 = 64) := by
  rcases lf_is f t with ⟨h1, h2⟩ | ⟨h1, h2, h3⟩
  · refine Or.inr ⟨by omega, lf_none (fun j hj => ?_)⟩
    by_cases c : j < t
    · exact h2 j c
    · exact h j (by omega) hj
  · exact Or.inl ⟨h1, lf_found h3 h2 (by omega)⟩
theorem lf_congr {f g : Nat → Bool} : ∀ {n}, (∀ j, j < n → f j = g j) → lf f n = lf g n
  | 0, _ => rfl
  | n + 1, h => by rw [lf, lf, lf_congr (fun j hj => h j (by omega)), h n (by omega)]
theorem cntF_cut {f : Nat → Bool} {t : Nat} (h : ∀ j, t ≤ j → f j = false) : ∀ r, cntF f (t + r) = cntF f t
  | 0 => rfl
  | r + 1 => by rw [← Nat.add_assoc, cntF, cntF_cut h r, h (t + r) (by omega)]; simp
theorem zero_any {s : Int64} {f : Nat → Bool} (h : ∀ j, j < 64 → tb s j = f j) : s = 0 ↔ anyB f 64 = false := by
  constructor
  · intro e
    refine Bool.eq_false_iff.mpr (fun z => ?_)
    obtain ⟨j, h1, h2⟩ := (anyB_iff _ 64).mp z
    rw [← h j h1, e, tb_0] at h2
    cases h2
  · intro e
    apply tb_ext
    intro j hj
    rw [tb_0]
    refine Bool.eq_false_iff.mpr (fun z => ?_)
    rw [Bool.eq_false_iff] at e
    exact e ((anyB_iff _ 64).mpr ⟨j, hj, by rw [← h j hj]; exact z⟩)
theorem sub_lt {c f k : Nat} (hc : c < 2 ^ 30) (hf : f < 2 ^ 30) (hk : k < 2 ^ 30) : nI c - nI f < nI k ↔ ¬ k + f ≤ c := by
  rw [fa_lt, pk_sub_toInt hc hf, nI_toInt (by omega)]
  omega
set_option maxRecDepth 20000 in
set_option maxHeartbeats 2000000 in
theorem lp_X5_crowd {g : Gl} {D : Nat} {b : Bool} {I : IM} {L : LM} {k w mv t x y : Nat} {f1 f2 : Nat → Nat} {A : RA} (hD : 1 ≤ D) (hk : k < 2 ^ 30) (h : RX I L k w mv t f1 f2 A) (hg : GA mv t f1 f2 A) (hs : SX I L k mv t f1 f2 A) {post : Option Value → Bool → IM → LM → Prop} (hp : post (some (.int (bI (decide (cntF (crowd k A x y) t < k))))) b I L) : ∀ r q k9, q + r = t → Wp (Kn g D MX5_isSafe post) (Tb b) 103 [some (rf g 21), some (.int (nI x)), some (.int (nI y)), some (.long (aN A x ||| aN A y)), none, some (.long (aN A x &&& aN A y)), none, some (.int (nI (cntF (crowd k A x y) q))), some (.int (nI q)), k9] [] I L := by
  obtain ⟨-, -, -, -, -, -, -, -, -, h10, -, -, h13, -⟩ := h
  have gt := hg.2.2.1
  have hdg := hs.2.2
  intro r
  induction r with
  | zero =>
    intro q k9 hq
    have eq : q = t := by omega
    subst eq
    have hcl := cntF_le (crowd k A x y) q
    refine wq_iload 105 dX5_isSafe_103 rfl rfl ?_
    refine wq_bload_n 106 0 dX5_isSafe_105 rfl rfl rfl ?_
    refine wq_getI 109 fl_X5_44 dX5_isSafe_106 rfl rfl o_21 ?_
    refine wq_ic_ge 112 170 dX5_isSafe_109 rfl (by decide) (fun c109 => ?_) (fun c109 => absurd (by rw [h10]; exact nI_le (Nat.le_refl _) (by omega)) c109)
    refine wq_iload 172 dX5_isSafe_170 rfl rfl ?_
    refine wq_bload_n 173 0 dX5_isSafe_172 rfl rfl rfl ?_
    refine wq_getI 176 fl_X5_70 dX5_isSafe_173 rfl rfl o_21 ?_
    refine wq_ic_ge 179 183 dX5_isSafe_176 rfl (by decide) (fun c176 => ?_) (fun c176 => ?_)
    · skip
      refine wq_iconst 184 0 dX5_isSafe_183 rfl (by decide) ?_
      refine ri .boolean dX5_isSafe_184 rfl rfl ?_
      rw [h13] at c176
      rw [decide_eq_false (fun z => nI_ge z (by omega) c176)] at hp
      exact hp
    · skip
      refine wq_iconst 180 1 dX5_isSafe_179 rfl (by decide) ?_
      refine wq_goto 184 dX5_isSafe_180 (by decide) ?_
      refine ri .boolean dX5_isSafe_184 rfl rfl ?_
      rw [h13] at c176
      rw [decide_eq_true (Decidable.byContradiction (fun z => c176 (nI_le (by omega) (by omega))))] at hp
      exact hp
  | succ r ih =>
    intro q k9 hq
    have hcl := cntF_le (crowd k A x y) q
    have hcn := cnt_le (aN A q)
    have yes : crowd k A x y q = true → cntF (crowd k A x y) q + 1 = cntF (crowd k A x y) (q + 1) := fun z => by rw [cntF, if_pos z]
    have no : crowd k A x y q = false → cntF (crowd k A x y) q = cntF (crowd k A x y) (q + 1) := fun z => by rw [cntF, if_neg (by rw [z]; decide), Nat.add_zero]
    have J136 : ∀ (f : Nat) k9, f = (if (tb (aN A x) q && tb (aN A y) q) = true then 1 else 0) → (tb (aN A x) q || tb (aN A y) q) = true → Wp (Kn g D MX5_isSafe post) (Tb b) 136 [some (rf g 21), some (.int (nI x)), some (.int (nI y)), some (.long (aN A x ||| aN A y)), none, some (.long (aN A x &&& aN A y)), none, some (.int (nI (cntF (crowd k A x y) q))), some (.int (nI q)), k9] [.int (nI f)] I L := by
      intro f k9 hf he
      have hf1 : f ≤ 1 := by rw [hf]; split <;> omega
      have cr : crowd k A x y q = (decide (q < 4) || decide (k + f ≤ cnt (aN A q))) := by
        rw [crowd, he, Bool.true_and, ← hf]
      refine wq_istore 138 [_, _, _, _, _, _, _, _, _, _] dX5_isSafe_136 rfl rfl (Nat.le_of_ble_eq_true rfl) rfl ?_
      refine wq_iload 140 dX5_isSafe_138 rfl rfl ?_
      refine wq_iconst 141 4 dX5_isSafe_140 rfl (by decide) ?_
      refine wq_ic_lt 144 161 dX5_isSafe_141 rfl (by decide) (fun c141 => ?_) (fun c141 => ?_)
      · skip
        refine wq_iinc 164 (_ + 1) [_, _, _, _, _, _, _, _, _, _] dX5_isSafe_161 rfl rfl (inc1 _) rfl (Nat.le_of_ble_eq_true rfl) rfl ?_
        refine wq_iinc 167 (_ + 1) [_, _, _, _, _, _, _, _, _, _] dX5_isSafe_164 rfl rfl (inc1 _) rfl (Nat.le_of_ble_eq_true rfl) rfl ?_
        refine wq_goto 103 dX5_isSafe_167 (by decide) ?_
        have e : q < 4 := (nI_ltI (b := 4) (by omega) (by decide)).mp c141
        rw [← nI_succ, ← nI_succ, yes (by rw [cr, decide_eq_true e]; rfl)]
        exact ih (q + 1) _ (by omega)
      · skip
        refine wq_bload_n 145 0 dX5_isSafe_144 rfl rfl rfl ?_
        refine wq_getR 148 fl_X5_15 dX5_isSafe_145 rfl rfl o_21 (rfl : (Tb _).2.2.2 21 1 = some 23) ?_
        refine wq_iload 150 dX5_isSafe_148 rfl rfl ?_
        refine wq_iald 151 dX5_isSafe_150 rfl a_23 (Ix.nI (by omega) (by decide)) ?_
        refine wq_iload 153 dX5_isSafe_151 rfl rfl ?_
        refine wq_isub 154 dX5_isSafe_153 rfl ?_
        refine wq_bload_n 155 0 dX5_isSafe_154 rfl rfl rfl ?_
        refine wq_getI 158 fl_X5_70 dX5_isSafe_155 rfl rfl o_21 ?_
        refine wq_ic_lt 161 164 dX5_isSafe_158 rfl (by decide) (fun c158 => ?_) (fun c158 => ?_)
        · skip
          refine wq_iinc 167 (_ + 1) [_, _, _, _, _, _, _, _, _, _] dX5_isSafe_164 rfl rfl (inc1 _) rfl (Nat.le_of_ble_eq_true rfl) rfl ?_
          refine wq_goto 103 dX5_isSafe_167 (by decide) ?_
          have e : ¬ q < 4 := fun z => c141 (nI_lt (b := 4) z (by decide))
          rw [hdg q (by omega) (by omega), h13] at c158
          rw [← nI_succ, no (by rw [cr, decide_eq_false e, decide_eq_false ((sub_lt (by omega) (by omega) hk).mp c158)]; rfl)]
          exact ih (q + 1) _ (by omega)
        · skip
          refine wq_iinc 164 (_ + 1) [_, _, _, _, _, _, _, _, _, _] dX5_isSafe_161 rfl rfl (inc1 _) rfl (Nat.le_of_ble_eq_true rfl) rfl ?_
          refine wq_iinc 167 (_ + 1) [_, _, _, _, _, _, _, _, _, _] dX5_isSafe_164 rfl rfl (inc1 _) rfl (Nat.le_of_ble_eq_true rfl) rfl ?_
          refine wq_goto 103 dX5_isSafe_167 (by decide) ?_
          have e : ¬ q < 4 := fun z => c141 (nI_lt (b := 4) z (by decide))
          rw [hdg q (by omega) (by omega), h13] at c158
          rw [← nI_succ, ← nI_succ, yes (by rw [cr, decide_eq_true (Decidable.byContradiction (fun z => c158 ((sub_lt (by omega) (by omega) hk).mpr z))), Bool.or_true])]
          exact ih (q + 1) _ (by omega)
    refine wq_iload 105 dX5_isSafe_103 rfl rfl ?_
    refine wq_bload_n 106 0 dX5_isSafe_105 rfl rfl rfl ?_
    refine wq_getI 109 fl_X5_44 dX5_isSafe_106 rfl rfl o_21 ?_
    refine wq_ic_ge 112 170 dX5_isSafe_109 rfl (by decide) (fun c109 => absurd c109 (by rw [h10]; exact nI_ge (by omega) (by omega))) (fun c109 => ?_)
    refine wq_lload_n 113 3 dX5_isSafe_112 rfl rfl rfl ?_
    refine wq_iload 115 dX5_isSafe_113 rfl rfl ?_
    refine cSi2 118 (sp_X7_has _ _) ml_X5_132 mf_X7_has dX5_isSafe_115 rfl (Nat.le_of_ble_eq_true rfl) (by omega) ?_
    refine wq_if_eq 121 164 dX5_isSafe_118 rfl (by decide) (fun c118 => ?_) (fun c118 => ?_)
    · skip
      refine wq_iinc 167 (_ + 1) [_, _, _, _, _, _, _, _, _, _] dX5_isSafe_164 rfl rfl (inc1 _) rfl (Nat.le_of_ble_eq_true rfl) rfl ?_
      refine wq_goto 103 dX5_isSafe_167 (by decide) ?_
      have e := (hasX_eq0 (aN A x ||| aN A y) (k := q) (by omega)).mp c118
      rw [tb_or] at e
      rw [← nI_succ, no (by rw [crowd, e, Bool.false_and])]
      exact ih (q + 1) _ (by omega)
    · skip
      refine wq_lload 123 dX5_isSafe_121 rfl rfl ?_
      refine wq_iload 125 dX5_isSafe_123 rfl rfl ?_
      refine cSi2 128 (sp_X7_has _ _) ml_X5_132 mf_X7_has dX5_isSafe_125 rfl (Nat.le_of_ble_eq_true rfl) (by omega) ?_
      refine wq_if_eq 131 135 dX5_isSafe_128 rfl (by decide) (fun c128 => ?_) (fun c128 => ?_)
      · skip
        refine wq_iconst 136 0 dX5_isSafe_135 rfl (by decide) ?_
        have e := (hasX_ne0 (aN A x ||| aN A y) (k := q) (by omega)).mp c118
        have e2 := (hasX_eq0 (aN A x &&& aN A y) (k := q) (by omega)).mp c128
        rw [tb_or] at e
        rw [tb_and] at e2
        exact J136 0 _ (by rw [e2]; rfl) e
      · skip
        refine wq_iconst 132 1 dX5_isSafe_131 rfl (by decide) ?_
        refine wq_goto 136 dX5_isSafe_132 (by decide) ?_
        have e := (hasX_ne0 (aN A x ||| aN A y) (k := q) (by omega)).mp c118
        have e2 := (hasX_ne0 (aN A x &&& aN A y) (k := q) (by omega)).mp c128
        rw [tb_or] at e
        rw [tb_and] at e2
        exact J136 1 _ (by rw [if_pos e2]) e
theorem row_out {mv t : Nat} {f1 f2 : Nat → Nat} {A : RA} (hg : GA mv t f1 f2 A) {x : Nat} (hx : x < 64) (hl : tb (aL A) x = true) {j : Nat} (hj : t ≤ j) : tb (aN A x) j = false := by
  by_cases c : j < 64
  · refine Bool.eq_false_iff.mpr (fun z => ?_)
    have := hg.2.2.2.1 j c (hg.2.2.2.2.2.1 x hx hl j c z).1
    omega
  · exact tb_big (by omega)
set_option maxRecDepth 20000 in
set_option maxHeartbeats 2000000 in
theorem sp_X5_isSafe {g : Gl} {D : Nat} {b : Bool} {I : IM} {L : LM} {k w mv t x y : Nat} {f1 f2 : Nat → Nat} {A : RA} (hD : 1 ≤ D) (hk : k < 2 ^ 30) (h : RX I L k w mv t f1 f2 A) (hg : GA mv t f1 f2 A) (hs : SX I L k mv t f1 f2 A) {i j : Int32} (hi : i = nI x) (hj : j = nI y) (hx : x < 64) (hy : y < 64) (hxl : tb (aL A) x = true) (hyl : tb (aL A) y = true) : Md g D MX5_isSafe [rf g 21, .int i, .int j] b I L (some (.int (bI (safeA k A x y)))) b I L := by
  subst hi hj
  have h1 := h.1
  have hlo := hs.1
  refine Me.of [some (rf g 21), some (.int (nI x)), some (.int (nI y)), none, none, none, none, none, none, none] 7 rfl pf_X5_isSafe (Nat.le_of_ble_eq_true rfl) ?_
  have za : (((aN A y &&& (L 21 15 ^^^ (-1))) &&& (-16)) &&& (aN A x ^^^ (-1)) = 0) ↔ anyB (fun t => tb (aN A y) t && !lowA k A t && decide (4 ≤ t) && !tb (aN A x) t) 64 = false := zero_any (fun j hj => by
    rw [bit_not _ _ hj, tb_and, bit_not _ _ hj, m16 j hj, hlo j hj])
  refine wq_iload_n 1 1 dX5_isSafe_0 rfl rfl rfl ?_
  refine wq_if_lt 4 20 dX5_isSafe_1 rfl (by decide) (fun c1 => absurd c1 (nI_pos (by omega))) (fun c1 => ?_)
  refine wq_iload_n 5 2 dX5_isSafe_4 rfl rfl rfl ?_
  refine wq_if_lt 8 20 dX5_isSafe_5 rfl (by decide) (fun c5 => absurd c5 (nI_pos (by omega))) (fun c5 => ?_)
  refine wq_iload_n 9 1 dX5_isSafe_8 rfl rfl rfl ?_
  refine wq_bipush 11 64 dX5_isSafe_9 rfl (by decide) ?_
  refine wq_ic_ge 14 20 dX5_isSafe_11 rfl (by decide) (fun c11 => absurd c11 (nI_ge (b := 64) hx (by decide))) (fun c11 => ?_)
  refine wq_iload_n 15 2 dX5_isSafe_14 rfl rfl rfl ?_
  refine wq_bipush 17 64 dX5_isSafe_15 rfl (by decide) ?_
  refine wq_ic_lt 20 22 dX5_isSafe_17 rfl (by decide) (fun c17 => ?_) (fun c17 => absurd (nI_lt (b := 64) hy (by decide)) c17)
  refine wq_iload_n 23 1 dX5_isSafe_22 rfl rfl rfl ?_
  refine wq_iconst 24 4 dX5_isSafe_23 rfl (by decide) ?_
  refine wq_ic_ge 27 68 dX5_isSafe_24 rfl (by decide) (fun c24 => ?_) (fun c24 => ?_)
  · skip
    refine wq_bload_n 69 0 dX5_isSafe_68 rfl rfl rfl ?_
    refine wq_getR 72 fl_X5_9 dX5_isSafe_69 rfl rfl o_21 (rfl : (Tb _).2.2.2 21 0 = some 22) ?_
    refine wq_iload_n 73 1 dX5_isSafe_72 rfl rfl rfl ?_
    refine wq_lald 74 dX5_isSafe_73 rfl a_22 (Ix.nI (by omega) (by decide)) ?_
    rw [h1 x hx]
    refine wq_bload_n 75 0 dX5_isSafe_74 rfl rfl rfl ?_
    refine wq_getR 78 fl_X5_9 dX5_isSafe_75 rfl rfl o_21 (rfl : (Tb _).2.2.2 21 0 = some 22) ?_
    refine wq_iload_n 79 2 dX5_isSafe_78 rfl rfl rfl ?_
    refine wq_lald 80 dX5_isSafe_79 rfl a_22 (Ix.nI (by omega) (by decide)) ?_
    rw [h1 y hy]
    refine wq_lor 81 dX5_isSafe_80 rfl ?_
    refine wq_lstore_n 82 3 [_, _, _, _, _, _, _, _, _, _] dX5_isSafe_81 rfl rfl rfl (Nat.le_of_ble_eq_true rfl) rfl ?_
    refine wq_bload_n 83 0 dX5_isSafe_82 rfl rfl rfl ?_
    refine wq_getR 86 fl_X5_9 dX5_isSafe_83 rfl rfl o_21 (rfl : (Tb _).2.2.2 21 0 = some 22) ?_
    refine wq_iload_n 87 1 dX5_isSafe_86 rfl rfl rfl ?_
    refine wq_lald 88 dX5_isSafe_87 rfl a_22 (Ix.nI (by omega) (by decide)) ?_
    rw [h1 x hx]
    refine wq_bload_n 89 0 dX5_isSafe_88 rfl rfl rfl ?_
    refine wq_getR 92 fl_X5_9 dX5_isSafe_89 rfl rfl o_21 (rfl : (Tb _).2.2.2 21 0 = some 22) ?_
    refine wq_iload_n 93 2 dX5_isSafe_92 rfl rfl rfl ?_
    refine wq_lald 94 dX5_isSafe_93 rfl a_22 (Ix.nI (by omega) (by decide)) ?_
    rw [h1 y hy]
    refine wq_land 95 dX5_isSafe_94 rfl ?_
    refine wq_lstore 97 [_, _, _, _, _, _, _, _, _, _] dX5_isSafe_95 rfl rfl (Nat.le_of_ble_eq_true rfl) rfl ?_
    refine wq_iconst 98 0 dX5_isSafe_97 rfl (by decide) ?_
    refine wq_istore 100 [_, _, _, _, _, _, _, _, _, _] dX5_isSafe_98 rfl rfl (Nat.le_of_ble_eq_true rfl) rfl ?_
    refine wq_iconst 101 0 dX5_isSafe_100 rfl (by decide) ?_
    refine wq_istore 103 [_, _, _, _, _, _, _, _, _, _] dX5_isSafe_101 rfl rfl (Nat.le_of_ble_eq_true rfl) rfl ?_
    have e : ¬ x < 4 := fun z => nI_ge (a := x) (b := 4) z (by decide) c24
    have gt := hg.2.2.1
    have ec : cntF (crowd k A x y) 64 = cntF (crowd k A x y) t := by
      have := cntF_cut (f := crowd k A x y) (t := t) (fun j hj => by rw [crowd, row_out hg hx hxl hj, row_out hg hy hyl hj]; rfl) (64 - t)
      rwa [show t + (64 - t) = 64 by omega] at this
    exact lp_X5_crowd hD hk h hg hs ⟨by rw [safeA, if_neg e, safeV, ec], rfl, rfl, rfl⟩ t 0 _ (by omega)
  · skip
    refine wq_bload_n 28 0 dX5_isSafe_27 rfl rfl rfl ?_
    refine wq_getR 31 fl_X5_9 dX5_isSafe_28 rfl rfl o_21 (rfl : (Tb _).2.2.2 21 0 = some 22) ?_
    refine wq_iload_n 32 2 dX5_isSafe_31 rfl rfl rfl ?_
    refine wq_lald 33 dX5_isSafe_32 rfl a_22 (Ix.nI (by omega) (by decide)) ?_
    rw [h1 y hy]
    refine wq_bload_n 34 0 dX5_isSafe_33 rfl rfl rfl ?_
    refine wq_getL 37 fl_X5_61 dX5_isSafe_34 rfl rfl o_21 ?_
    refine wq_ldc2 40 (-1) dX5_isSafe_37 rfl kc_X5_142 ?_
    refine wq_lxor 41 dX5_isSafe_40 rfl ?_
    refine wq_land 42 dX5_isSafe_41 rfl ?_
    refine wq_ldc2 45 (-16) dX5_isSafe_42 rfl kc_X5_140 ?_
    refine wq_land 46 dX5_isSafe_45 rfl ?_
    refine wq_bload_n 47 0 dX5_isSafe_46 rfl rfl rfl ?_
    refine wq_getR 50 fl_X5_9 dX5_isSafe_47 rfl rfl o_21 (rfl : (Tb _).2.2.2 21 0 = some 22) ?_
    refine wq_iload_n 51 1 dX5_isSafe_50 rfl rfl rfl ?_
    refine wq_lald 52 dX5_isSafe_51 rfl a_22 (Ix.nI (by omega) (by decide)) ?_
    rw [h1 x hx]
    refine wq_ldc2 55 (-1) dX5_isSafe_52 rfl kc_X5_142 ?_
    refine wq_lxor 56 dX5_isSafe_55 rfl ?_
    refine wq_land 57 dX5_isSafe_56 rfl ?_
    refine wq_lconst 58 0 dX5_isSafe_57 rfl (by decide) ?_
    refine wq_lcmp 59 dX5_isSafe_58 rfl ?_
    refine wq_if_ne 62 66 dX5_isSafe_59 rfl (by decide) (fun c59 => ?_) (fun c59 => ?_)
    · skip
      refine wq_iconst 67 0 dX5_isSafe_66 rfl (by decide) ?_
      refine ri .boolean dX5_isSafe_67 rfl rfl ?_
      have e : x < 4 := Decidable.byContradiction (fun z => c24 (nI_le (a := 4) (by omega) (by omega)))
      have e2 : anyB (fun t => tb (aN A y) t && !lowA k A t && decide (4 ≤ t) && !tb (aN A x) t) 64 = true := Decidable.byContradiction (fun z => c59 (lcmp0.mpr (za.mpr (Bool.eq_false_iff.mpr z))))
      exact ⟨by rw [safeA, if_pos e, safeR, e2]; rfl, rfl, rfl, rfl⟩
    · skip
      refine wq_iconst 63 1 dX5_isSafe_62 rfl (by decide) ?_
      refine wq_goto 67 dX5_isSafe_63 (by decide) ?_
      refine ri .boolean dX5_isSafe_67 rfl rfl ?_
      have e : x < 4 := Decidable.byContradiction (fun z => c24 (nI_le (a := 4) (by omega) (by omega)))
      have e2 := za.mp (lcmp0.mp c59)
      exact ⟨by rw [safeA, if_pos e, safeR, e2]; rfl, rfl, rfl, rfl⟩
