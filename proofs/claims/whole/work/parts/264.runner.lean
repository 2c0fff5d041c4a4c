/-! A RUN as mathematics; the class's Runner -/
abbrev RS : Type := (Nat → Nat) × (Nat → Nat) × (Nat → Nat) × Nat × Nat × Nat × Nat
def uV (s : RS) : Nat → Nat := s.1
def uS (s : RS) : Nat → Nat := s.2.1
def uT (s : RS) : Nat → Nat := s.2.2.1
def uC (s : RS) : Nat := s.2.2.2.1
def uD (s : RS) : Nat := s.2.2.2.2.1
def uL (s : RS) : Nat := s.2.2.2.2.2.1
def uZ (s : RS) : Nat := s.2.2.2.2.2.2
def puS (s : RS) (x v : Nat) : RS := (va_up (uV s) x v, uS s, uT s, uC s, uD s, uL s, uZ s)
def teS (s : RS) (v : Nat) : RS := (uV s, uS s, va_up (uT s) (uC s) v, uC s + 1, (31 * uD s + v) % 1000003, uL s, uZ s)
def ldS (s : RS) (x y : Nat) : RS := (va_up (uV s) x (uS s y), uS s, uT s, uC s, uD s, uL s + 1, uZ s)
def kpS (s : RS) (x y : Nat) : RS := (uV s, va_up (uS s) y (uV s x), uT s, uC s, uD s, uL s, uZ s + 1)
def cN (v : Int32) : Nat := v.toNatClampNeg
def rnS (p : Pg) (i : Nat) (s : RS) : RS :=
  if p i 0 = 0 then puS s (cN (p i 1)) (cN (p i 2))
  else if p i 0 = 1 then puS s (cN (p i 1)) (uV s (cN (p i 2)))
  else if p i 0 = 2 then puS s (cN (p i 1)) ((uV s (cN (p i 2)) + uV s (cN (p i 3))) % 1000)
  else if p i 0 = 3 then puS s (cN (p i 1)) (uV s (cN (p i 2)) - 1)
  else if p i 0 = 4 then teS s (uV s (cN (p i 1)))
  else if p i 0 = 7 then ldS s (cN (p i 1)) (cN (p i 2))
  else if p i 0 = 8 then kpS s (cN (p i 1)) (cN (p i 2))
  else s
def rnN (p : Pg) (n i : Nat) (s : RS) : Nat := if p i 0 = 6 ∧ ¬ uV s (cN (p i 1)) = 0 then (if Lb p (cN (p i 2)) n < 0 then n else cN (Lb p (cN (p i 2)) n)) else i + 1
def rnF (p : Pg) (n : Nat) : Nat → Nat → Nat → RS → Nat × Nat × RS
  | 0, c, i, s => (c, i, s)
  | f + 1, c, i, s => if i < n then rnF p n f (c + 1) (rnN p n i s) (rnS p i s) else (c, i, s)
def rs0 : RS := (fun _ => 0, fun _ => 0, fun _ => 0, 0, 0, 0, 0)
def OKR (s : RS) : Prop := (∀ x, x < 64 → uV s x < 1000) ∧ (∀ x, x < 64 → uS s x < 1000) ∧ uD s < 1000003
theorem cN_n {x : Nat} (hx : x < 64) : cN (nI x) = x := nI_clamp (by omega)
theorem OKR_pu {s : RS} (h : OKR s) {x v : Nat} (hv : v < 1000) : OKR (puS s x v) := ⟨fun u hu => by
  show va_up (uV s) x v u < 1000
  by_cases e : u = x
  · rw [e, va_up_self]; exact hv
  · rw [va_up_ne _ _ e]; exact h.1 u hu, h.2⟩
theorem OKR_step {B : Nat} {p : Pg} {i k x y z : Nat} (hF : RF B p i k x y z) {s : RS} (h : OKR s) : OKR (rnS p i s) := by
  obtain ⟨k9, e0, e1, x64, -, -, f1, f2, -, f5, f3, -, -, -⟩ := hF
  unfold rnS
  split
  · rename_i c
    have hk : k = 0 := (nI_eq (by omega) (by decide)).mp (by rw [← e0]; exact c)
    obtain ⟨g1, g2⟩ := f2 (by omega)
    rw [g1, cN_n g2]
    exact OKR_pu h (by have := f5 (Or.inl hk); omega)
  · split
    · rename_i c
      have hk : k = 1 := (nI_eq (a := k) (b := 1) (by omega) (by decide)).mp (by rw [← e0]; exact c)
      obtain ⟨g1, g2⟩ := f2 (by omega)
      rw [g1, cN_n g2]
      exact OKR_pu h (h.1 y g2)
    · split
      · exact OKR_pu h (Nat.mod_lt _ (by decide))
      · split
        · rename_i c
          have hk : k = 3 := (nI_eq (a := k) (b := 3) (by omega) (by decide)).mp (by rw [← e0]; exact c)
          obtain ⟨g1, g2⟩ := f2 (by omega)
          rw [g1, cN_n g2]
          exact OKR_pu h (by have := h.1 y g2; omega)
        · split
          · exact ⟨h.1, h.2.1, Nat.mod_lt _ (by decide)⟩
          · split
            · rename_i c
              have hk : k = 7 := (nI_eq (a := k) (b := 7) (by omega) (by decide)).mp (by rw [← e0]; exact c)
              obtain ⟨g1, g2⟩ := f2 (by omega)
              rw [g1, cN_n g2]
              exact ⟨(OKR_pu (x := cN (p i 1)) h (h.2.1 y g2)).1, h.2.1, h.2.2⟩
            · split
              · rw [e1, cN_n x64]
                refine ⟨h.1, fun u hu => ?_, h.2.2⟩
                show va_up (uS s) _ (uV s x) u < 1000
                by_cases e : u = cN (p i 2)
                · rw [e, va_up_self]; exact h.1 x x64
                · rw [va_up_ne _ _ e]; exact h.2.1 u hu
              · exact h
/-- what a Runner holds -/
def UR (I : IM) (a : Nat) (s : RS) : Prop := (∀ x, x < 64 → I (a + 1) x = nI (uV s x)) ∧ (∀ x, x < 64 → I (a + 2) x = nI (uS s x)) ∧ (∀ j, j < uC s → j < 500 → I (a + 3) j = nI (uT s j)) ∧ I a 3 = nI (uC s) ∧ I a 4 = nI (uD s) ∧ I a 6 = nI (uL s) ∧ I a 7 = nI (uZ s)
def FU (a : Nat) (I I' : IM) : Prop := (∀ x, x ≠ a → x ≠ a + 1 → x ≠ a + 2 → x ≠ a + 3 → I' x = I x) ∧ ∀ z, z ≠ 3 → z ≠ 4 → z ≠ 6 → z ≠ 7 → I' a z = I a z
theorem FU.refl (a : Nat) (I : IM) : FU a I I := ⟨fun _ _ _ _ _ => rfl, fun _ _ _ _ _ => rfl⟩
theorem FU.trans {a : Nat} {I I' I'' : IM} (h : FU a I I') (h' : FU a I' I'') : FU a I I'' := ⟨fun x x1 x2 x3 x4 => (h'.1 x x1 x2 x3 x4).trans (h.1 x x1 x2 x3 x4), fun z z1 z2 z3 z4 => (h'.2 z z1 z2 z3 z4).trans (h.2 z z1 z2 z3 z4)⟩
section Runner
variable {g : Gl} {D : Nat} {b : Bool} {I : IM} {L : LM} {a : Nat}
set_option maxRecDepth 20000 in
theorem sp_X6_valueOf (ha : IsU a) {i : Int32} (x : Nat) (hi : i = nI x) (hx : x < 64) : Md g D MX6_valueOf [rf g a, .int i] b I L (some (.int (I (a + 1) x))) b I L := by
  subst hi
  refine Me.of [some (rf g a), some (.int (nI x))] 0 rfl pf_X6_valueOf (Nat.le_of_ble_eq_true rfl) ?_
  refine wq_iload_n 1 1 dX6_valueOf_0 rfl rfl rfl ?_
  refine wq_if_lt 4 19 dX6_valueOf_1 rfl (by decide) (fun c1 => absurd c1 (nI_pos (by omega))) (fun c1 => ?_)
  refine wq_iload_n 5 1 dX6_valueOf_4 rfl rfl rfl ?_
  refine wq_bipush 7 64 dX6_valueOf_5 rfl (by decide) ?_
  refine wq_ic_ge 10 19 dX6_valueOf_7 rfl (by decide) (fun c7 => absurd c7 (nI_ge (b := 64) hx (by decide))) (fun c7 => ?_)
  refine wq_bload_n 11 0 dX6_valueOf_10 rfl rfl rfl ?_
  refine wq_getR 14 fl_X6_9 dX6_valueOf_11 rfl rfl (U_ob ha) (U_rf0 ha) ?_
  refine wq_iload_n 15 1 dX6_valueOf_14 rfl rfl rfl ?_
  refine wq_iald 16 dX6_valueOf_15 rfl (U_ar0 ha) (Ix.nI (by omega) (by decide)) ?_
  refine wq_goto 20 dX6_valueOf_16 (by decide) ?_
  refine ri .int dX6_valueOf_20 rfl rfl ?_
  exact ⟨rfl, rfl, rfl, rfl⟩
set_option maxRecDepth 20000 in
theorem sp_X6_put (ha : IsU a) {i : Int32} (x : Nat) (hi : i = nI x) (hx : x < 64) (v : Int32) : Md g D MX6_put [rf g a, .int i, .int v] b I L none b (va_up I (a + 1) (va_up (I (a + 1)) x v)) L := by
  subst hi
  refine Me.of [some (rf g a), some (.int (nI x)), some (.int v)] 0 rfl pf_X6_put (Nat.le_of_ble_eq_true rfl) ?_
  refine wq_iload_n 1 1 dX6_put_0 rfl rfl rfl ?_
  refine wq_if_lt 4 17 dX6_put_1 rfl (by decide) (fun c1 => absurd c1 (nI_pos (by omega))) (fun c1 => ?_)
  refine wq_iload_n 5 1 dX6_put_4 rfl rfl rfl ?_
  refine wq_bipush 7 64 dX6_put_5 rfl (by decide) ?_
  refine wq_ic_ge 10 17 dX6_put_7 rfl (by decide) (fun c7 => absurd c7 (nI_ge (b := 64) hx (by decide))) (fun c7 => ?_)
  refine wq_bload_n 11 0 dX6_put_10 rfl rfl rfl ?_
  refine wq_getR 14 fl_X6_9 dX6_put_11 rfl rfl (U_ob ha) (U_rf0 ha) ?_
  refine wq_iload_n 15 1 dX6_put_14 rfl rfl rfl ?_
  refine wq_iload_n 16 2 dX6_put_15 rfl rfl rfl ?_
  refine wq_iast 17 dX6_put_16 rfl (U_ar0 ha) (Ix.nI (by omega) (by decide)) ?_
  refine rr dX6_put_17 rfl ?_
  exact ⟨rfl, rfl, rfl, rfl⟩
theorem UR_pu {s : RS} {x v : Nat} (h : UR I a s) : UR (va_up I (a + 1) (va_up (I (a + 1)) x (nI v))) a (puS s x v) ∧ FU a I (va_up I (a + 1) (va_up (I (a + 1)) x (nI v))) := by
  obtain ⟨h1, h2, h3, h4, h5, h6, h7⟩ := h
  have n0 : ∀ z, z ≠ a + 1 → va_up I (a + 1) (va_up (I (a + 1)) x (nI v)) z = I z := fun z hz => va_up_ne _ _ hz
  refine ⟨⟨fun u hu => ?_, fun u hu => by rw [n0 _ (by omega)]; exact h2 u hu, fun j hj hj2 => by rw [n0 _ (by omega)]; exact h3 j hj hj2, by rw [n0 _ (by omega)]; exact h4, by rw [n0 _ (by omega)]; exact h5, by rw [n0 _ (by omega)]; exact h6, by rw [n0 _ (by omega)]; exact h7⟩, fun z _ z2 _ _ => n0 z z2, fun z _ _ _ _ => by rw [n0 a (by omega)]⟩
  rw [va_up_self]
  show va_up (I (a + 1)) x (nI v) u = nI (va_up (uV s) x v u)
  by_cases e : u = x
  · rw [e, va_up_self, va_up_self]
  · rw [va_up_ne _ _ e, va_up_ne _ _ e]; exact h1 u hu
set_option maxRecDepth 20000 in
set_option maxHeartbeats 2000000 in
theorem sp_X6_tell {s : RS} (ha : IsU a) (h : UR I a s) (hC : uC s < 2 ^ 30) (hD : uD s < 1000003) {i : Int32} (v : Nat) (hi : i = nI v) (hv : v < 1000) : Me g D MX6_tell [rf g a, .int i] b I L (fun r b' I' L' => r = none ∧ b' = b ∧ L' = L ∧ UR I' a (teS s v) ∧ FU a I I') := by
  subst hi
  obtain ⟨h1, h2, h3, h4, h5, h6, h7⟩ := h
  refine Me.of [some (rf g a), some (.int (nI v))] 0 rfl pf_X6_tell (Nat.le_of_ble_eq_true rfl) ?_
  have ed : (nI 31 : Int32) = 31 := rfl
  have em : (nI 1000003 : Int32) = 1000003 := rfl
  have fin : ∀ I1 : IM, (∀ x, x ≠ a → x ≠ a + 3 → I1 x = I x) → I1 a = va_up (va_up (I a) 3 (nI (uC s + 1))) 4 (nI ((31 * uD s + v) % 1000003)) → (∀ j, j < uC s + 1 → j < 500 → I1 (a + 3) j = nI (va_up (uT s) (uC s) v j)) → UR I1 a (teS s v) ∧ FU a I I1 := by
    intro I1 ix ia i3
    refine ⟨⟨fun u hu => by rw [ix _ (by omega) (by omega)]; exact h1 u hu, fun u hu => by rw [ix _ (by omega) (by omega)]; exact h2 u hu, i3, ?_, ?_, ?_, ?_⟩, fun x x1 _ _ x4 => ix x x1 x4, fun z z1 z2 _ _ => by rw [ia, va_up_ne _ _ z2, va_up_ne _ _ z1]⟩
    · rw [ia, va_up_ne _ _ (by decide), va_up_self]; rfl
    · rw [ia, va_up_self]; rfl
    · rw [ia, va_up_ne _ _ (by decide), va_up_ne _ _ (by decide)]; exact h6
    · rw [ia, va_up_ne _ _ (by decide), va_up_ne _ _ (by decide)]; exact h7
  have dg : ∀ d : Int32, d = nI (uD s) → 31 * d + nI v - (31 * d + nI v) / 1000003 * 1000003 = nI ((31 * uD s + v) % 1000003) := fun d hd => by
    rw [hd, ← ed, ← em, pk_mul, nI_add, pk_rem (by omega) (by decide) (by decide)]
  by_cases c : uC s < 500
  · skip
    refine wq_bload_n 1 0 dX6_tell_0 rfl rfl rfl ?_
    refine wq_getI 4 fl_X6_21 dX6_tell_1 rfl rfl (U_ob ha) ?_
    refine wq_if_lt 7 27 dX6_tell_4 rfl (by decide) (fun c4 => absurd c4 (by rw [h4]; exact nI_pos (by omega))) (fun c4 => ?_)
    refine wq_bload_n 8 0 dX6_tell_7 rfl rfl rfl ?_
    refine wq_getI 11 fl_X6_21 dX6_tell_8 rfl rfl (U_ob ha) ?_
    refine wq_sipush 14 500 dX6_tell_11 rfl (by decide) ?_
    refine wq_ic_ge 17 27 dX6_tell_14 rfl (by decide) (fun c14 => absurd c14 (by rw [h4]; exact nI_ge (b := 500) c (by decide))) (fun c14 => ?_)
    refine wq_bload_n 18 0 dX6_tell_17 rfl rfl rfl ?_
    refine wq_getR 21 fl_X6_18 dX6_tell_18 rfl rfl (U_ob ha) (U_rf2 ha) ?_
    refine wq_bload_n 22 0 dX6_tell_21 rfl rfl rfl ?_
    refine wq_getI 25 fl_X6_21 dX6_tell_22 rfl rfl (U_ob ha) ?_
    refine wq_iload_n 26 1 dX6_tell_25 rfl rfl rfl ?_
    refine wq_iast 27 dX6_tell_26 rfl (U_ar2 ha) (by rw [h4]; exact Ix.nI (by omega) (by decide)) ?_
    refine wq_bload_n 28 0 dX6_tell_27 rfl rfl rfl ?_
    refine wq_dup 29 dX6_tell_28 rfl rfl ?_
    refine wq_getI 32 fl_X6_21 dX6_tell_29 rfl rfl (U_ob ha) ?_
    refine wq_iconst 33 1 dX6_tell_32 rfl (by decide) ?_
    refine wq_iadd 34 dX6_tell_33 rfl ?_
    refine wq_putI 37 fl_X6_21 dX6_tell_34 rfl rfl rfl rfl rfl (U_ob ha) ?_
    refine wq_bload_n 38 0 dX6_tell_37 rfl rfl rfl ?_
    refine wq_bipush 40 31 dX6_tell_38 rfl (by decide) ?_
    refine wq_bload_n 41 0 dX6_tell_40 rfl rfl rfl ?_
    refine wq_getI 44 fl_X6_25 dX6_tell_41 rfl rfl (U_ob ha) ?_
    refine wq_imul 45 dX6_tell_44 rfl ?_
    refine wq_iload_n 46 1 dX6_tell_45 rfl rfl rfl ?_
    refine wq_iadd 47 dX6_tell_46 rfl ?_
    refine wq_ldc 49 (1000003) dX6_tell_47 rfl kc_X6_86 ?_
    refine wq_irem 50 dX6_tell_49 rfl (by decide) ?_
    refine wq_putI 53 fl_X6_25 dX6_tell_50 rfl rfl rfl rfl rfl (U_ob ha) ?_
    refine wq_gen (fun I1 L1 eI1 eL1 => ?_)
    refine rr dX6_tell_53 rfl ?_
    refine ⟨rfl, rfl, eL1, ?_⟩
    have f := fin I1 (fun x x1 x2 => by rw [eI1]; simp [va_up, x1, x2]) (by
      rw [eI1, va_up_self, va_up_self]
      rw [va_up_ne _ _ (show a ≠ a + 3 by omega)]
      rw [h4, nI_succ]
      rw [dg _ (by rw [va_up_ne _ _ (by decide)]; exact h5)]) ?_
    · exact f
    intro j hj hj2
    have e3 : I1 (a + 3) = va_up (I (a + 3)) (uC s) (nI v) := by rw [eI1, va_up_ne _ _ (by omega), va_up_ne _ _ (by omega), va_up_self]
    rw [e3]
    by_cases e : j = uC s
    · rw [e, va_up_self, va_up_self]
    · rw [va_up_ne _ _ e, va_up_ne _ _ e]; exact h3 j (by omega) hj2
  · skip
    refine wq_bload_n 1 0 dX6_tell_0 rfl rfl rfl ?_
    refine wq_getI 4 fl_X6_21 dX6_tell_1 rfl rfl (U_ob ha) ?_
    refine wq_if_lt 7 27 dX6_tell_4 rfl (by decide) (fun c4 => absurd c4 (by rw [h4]; exact nI_pos (by omega))) (fun c4 => ?_)
    refine wq_bload_n 8 0 dX6_tell_7 rfl rfl rfl ?_
    refine wq_getI 11 fl_X6_21 dX6_tell_8 rfl rfl (U_ob ha) ?_
    refine wq_sipush 14 500 dX6_tell_11 rfl (by decide) ?_
    refine wq_ic_ge 17 27 dX6_tell_14 rfl (by decide) (fun c14 => ?_) (fun c14 => absurd (by rw [h4]; exact nI_le (a := 500) (by omega) (by omega)) c14)
    refine wq_bload_n 28 0 dX6_tell_27 rfl rfl rfl ?_
    refine wq_dup 29 dX6_tell_28 rfl rfl ?_
    refine wq_getI 32 fl_X6_21 dX6_tell_29 rfl rfl (U_ob ha) ?_
    refine wq_iconst 33 1 dX6_tell_32 rfl (by decide) ?_
    refine wq_iadd 34 dX6_tell_33 rfl ?_
    refine wq_putI 37 fl_X6_21 dX6_tell_34 rfl rfl rfl rfl rfl (U_ob ha) ?_
    refine wq_bload_n 38 0 dX6_tell_37 rfl rfl rfl ?_
    refine wq_bipush 40 31 dX6_tell_38 rfl (by decide) ?_
    refine wq_bload_n 41 0 dX6_tell_40 rfl rfl rfl ?_
    refine wq_getI 44 fl_X6_25 dX6_tell_41 rfl rfl (U_ob ha) ?_
    refine wq_imul 45 dX6_tell_44 rfl ?_
    refine wq_iload_n 46 1 dX6_tell_45 rfl rfl rfl ?_
    refine wq_iadd 47 dX6_tell_46 rfl ?_
    refine wq_ldc 49 (1000003) dX6_tell_47 rfl kc_X6_86 ?_
    refine wq_irem 50 dX6_tell_49 rfl (by decide) ?_
    refine wq_putI 53 fl_X6_25 dX6_tell_50 rfl rfl rfl rfl rfl (U_ob ha) ?_
    refine wq_gen (fun I1 L1 eI1 eL1 => ?_)
    refine rr dX6_tell_53 rfl ?_
    refine ⟨rfl, rfl, eL1, ?_⟩
    have f := fin I1 (fun x x1 x2 => by rw [eI1]; simp [va_up, x1, x2]) (by
      rw [eI1, va_up_self, va_up_self]
      skip
      rw [h4, nI_succ]
      rw [dg _ (by rw [va_up_ne _ _ (by decide)]; exact h5)]) ?_
    · exact f
    intro j hj hj2
    have e3 : I1 (a + 3) = I (a + 3) := by rw [eI1, va_up_ne _ _ (by omega), va_up_ne _ _ (by omega)]
    rw [e3, va_up_ne _ _ (by omega)]; exact h3 j (by omega) hj2
set_option maxRecDepth 20000 in
theorem sp_X6_fetch {s : RS} (hD : 1 ≤ D) (ha : IsU a) (h : UR I a s) {i j : Int32} (x y : Nat) (hi : i = nI x) (hx : x < 64) (hj : j = nI y) (hy : y < 64) : Me g D MX6_fetch [rf g a, .int i, .int j] b I L (fun r b' I' L' => r = none ∧ b' = b ∧ L' = L ∧ UR I' a (ldS s x y) ∧ FU a I I') := by
  subst hi hj
  obtain ⟨h1, h2, h3, h4, h5, h6, h7⟩ := h
  refine Me.of [some (rf g a), some (.int (nI x)), some (.int (nI y))] 0 rfl pf_X6_fetch (Nat.le_of_ble_eq_true rfl) ?_
  refine wq_bload_n 1 0 dX6_fetch_0 rfl rfl rfl ?_
  refine wq_dup 2 dX6_fetch_1 rfl rfl ?_
  refine wq_getI 5 fl_X6_31 dX6_fetch_2 rfl rfl (U_ob ha) ?_
  refine wq_iconst 6 1 dX6_fetch_5 rfl (by decide) ?_
  refine wq_iadd 7 dX6_fetch_6 rfl ?_
  rw [h6, ← nI_succ]
  refine wq_putI 10 fl_X6_31 dX6_fetch_7 rfl rfl rfl rfl rfl (U_ob ha) ?_
  refine wq_iload_n 11 2 dX6_fetch_10 rfl rfl rfl ?_
  refine wq_if_lt 14 31 dX6_fetch_11 rfl (by decide) (fun c11 => absurd c11 (nI_pos (by omega))) (fun c11 => ?_)
  refine wq_iload_n 15 2 dX6_fetch_14 rfl rfl rfl ?_
  refine wq_bipush 17 64 dX6_fetch_15 rfl (by decide) ?_
  refine wq_ic_ge 20 31 dX6_fetch_17 rfl (by decide) (fun c17 => absurd c17 (nI_ge (b := 64) hy (by decide))) (fun c17 => ?_)
  refine wq_bload_n 21 0 dX6_fetch_20 rfl rfl rfl ?_
  refine wq_iload_n 22 1 dX6_fetch_21 rfl rfl rfl ?_
  refine wq_bload_n 23 0 dX6_fetch_22 rfl rfl rfl ?_
  refine wq_getR 26 fl_X6_15 dX6_fetch_23 rfl rfl (U_ob ha) (U_rf1 ha) ?_
  refine wq_iload_n 27 2 dX6_fetch_26 rfl rfl rfl ?_
  refine wq_iald 28 dX6_fetch_27 rfl (U_ar1 ha) (Ix.nI (by omega) (by decide)) ?_
  rw [va_up_ne _ _ (show a + 2 ≠ a by omega), h2 y hy]
  refine cVv2 31 (sp_X6_put ha x rfl hx _) ml_X6_60 mf_X6_put dX6_fetch_28 rfl (U_ob ha) (by decide) rfl (Nat.le_of_ble_eq_true rfl) (by omega) ?_
  refine rr dX6_fetch_31 rfl ?_
  have hU : UR (va_up I a (va_up (I a) 6 (nI (uL s + 1)))) a (uV s, uS s, uT s, uC s, uD s, uL s + 1, uZ s) := ⟨fun u hu => by rw [va_up_ne _ _ (by omega)]; exact h1 u hu, fun u hu => by rw [va_up_ne _ _ (by omega)]; exact h2 u hu, fun j hj hj2 => by rw [va_up_ne _ _ (by omega)]; exact h3 j hj hj2, by rw [va_up_self, va_up_ne _ _ (by decide)]; exact h4, by rw [va_up_self, va_up_ne _ _ (by decide)]; exact h5, by rw [va_up_self, va_up_self]; rfl, by rw [va_up_self, va_up_ne _ _ (by decide)]; exact h7⟩
  have := UR_pu (x := x) (v := uS s y) hU
  exact ⟨rfl, rfl, rfl, this.1, FU.trans ⟨fun z z1 _ _ _ => va_up_ne _ _ z1, fun z _ _ z3 _ => by rw [va_up_self, va_up_ne _ _ z3]⟩ this.2⟩
set_option maxRecDepth 20000 in
theorem sp_X6_keep {s : RS} (hD : 1 ≤ D) (ha : IsU a) (h : UR I a s) {i j : Int32} (x y : Nat) (hi : i = nI x) (hx : x < 64) (hj : j = nI y) (hy : y < 64) : Me g D MX6_keep [rf g a, .int i, .int j] b I L (fun r b' I' L' => r = none ∧ b' = b ∧ L' = L ∧ UR I' a (kpS s x y) ∧ FU a I I') := by
  subst hi hj
  obtain ⟨h1, h2, h3, h4, h5, h6, h7⟩ := h
  refine Me.of [some (rf g a), some (.int (nI x)), some (.int (nI y))] 0 rfl pf_X6_keep (Nat.le_of_ble_eq_true rfl) ?_
  refine wq_bload_n 1 0 dX6_keep_0 rfl rfl rfl ?_
  refine wq_dup 2 dX6_keep_1 rfl rfl ?_
  refine wq_getI 5 fl_X6_34 dX6_keep_2 rfl rfl (U_ob ha) ?_
  refine wq_iconst 6 1 dX6_keep_5 rfl (by decide) ?_
  refine wq_iadd 7 dX6_keep_6 rfl ?_
  rw [h7, ← nI_succ]
  refine wq_putI 10 fl_X6_34 dX6_keep_7 rfl rfl rfl rfl rfl (U_ob ha) ?_
  refine wq_iload_n 11 2 dX6_keep_10 rfl rfl rfl ?_
  refine wq_if_lt 14 31 dX6_keep_11 rfl (by decide) (fun c11 => absurd c11 (nI_pos (by omega))) (fun c11 => ?_)
  refine wq_iload_n 15 2 dX6_keep_14 rfl rfl rfl ?_
  refine wq_bipush 17 64 dX6_keep_15 rfl (by decide) ?_
  refine wq_ic_ge 20 31 dX6_keep_17 rfl (by decide) (fun c17 => absurd c17 (nI_ge (b := 64) hy (by decide))) (fun c17 => ?_)
  refine wq_bload_n 21 0 dX6_keep_20 rfl rfl rfl ?_
  refine wq_getR 24 fl_X6_15 dX6_keep_21 rfl rfl (U_ob ha) (U_rf1 ha) ?_
  refine wq_iload_n 25 2 dX6_keep_24 rfl rfl rfl ?_
  refine wq_bload_n 26 0 dX6_keep_25 rfl rfl rfl ?_
  refine wq_iload_n 27 1 dX6_keep_26 rfl rfl rfl ?_
  refine cVi1 30 (sp_X6_valueOf ha x rfl hx) ml_X6_64 mf_X6_valueOf dX6_keep_27 rfl (U_ob ha) (by decide) rfl (Nat.le_of_ble_eq_true rfl) (by omega) ?_
  rw [va_up_ne _ _ (show a + 1 ≠ a by omega), h1 x hx]
  refine wq_iast 31 dX6_keep_30 rfl (U_ar1 ha) (Ix.nI (by omega) (by decide)) ?_
  refine wq_gen (fun I1 L1 eI1 eL1 => ?_)
  refine rr dX6_keep_31 rfl ?_
  have ia : I1 a = va_up (I a) 7 (nI (uZ s + 1)) := by rw [eI1, va_up_ne _ _ (by omega), va_up_self]
  have i2 : I1 (a + 2) = va_up (I (a + 2)) y (nI (uV s x)) := by rw [eI1, va_up_self, va_up_ne _ _ (by omega)]
  have ix : ∀ z, z ≠ a → z ≠ a + 2 → I1 z = I z := fun z z1 z2 => by rw [eI1, va_up_ne _ _ z2, va_up_ne _ _ z1]
  refine ⟨rfl, rfl, eL1, ⟨fun u hu => by rw [ix _ (by omega) (by omega)]; exact h1 u hu, fun u hu => ?_, fun j hj hj2 => by rw [ix _ (by omega) (by omega)]; exact h3 j hj hj2, by rw [ia, va_up_ne _ _ (by decide)]; exact h4, by rw [ia, va_up_ne _ _ (by decide)]; exact h5, by rw [ia, va_up_ne _ _ (by decide)]; exact h6, by rw [ia, va_up_self]; rfl⟩, fun z z1 _ z3 _ => ix z z1 z3, fun z _ _ _ z4 => by rw [ia, va_up_ne _ _ z4]⟩
  rw [i2]
  show va_up (I (a + 2)) y (nI (uV s x)) u = nI (va_up (uS s) y (uV s x) u)
  by_cases e : u = y
  · rw [e, va_up_self, va_up_self]
  · rw [va_up_ne _ _ e, va_up_ne _ _ e]; exact h2 u hu
end Runner
