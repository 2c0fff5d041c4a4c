/-! the reference: slots and colours of a round -/
theorem rt_le {al : Nat → Nat} (h : ∀ n, n < 64 → al n ≤ n) {n : Nat} (hn : n < 64) : rt al n ≤ n := by
  have : ∀ f x, x < 64 → itr al f x ≤ x := fun f => by
    induction f with
    | zero => intro x _; exact Nat.le_refl _
    | succ f ih =>
      intro x hx
      rw [itr]
      have h1 := h x hx
      have h2 := ih (al x) (by omega)
      omega
  exact this 64 n hn
def bsS (S : Int64) (sl x : Nat) : Int32 := if tb S x = true then nI (sl + cntF (tb S) x) else -6
def S1 (I I1 : IM) (S : Int64) (sl q : Nat) : Prop := (∀ x, x < 64 → I1 96 x = if x < q then bsS S sl x else -6) ∧ I1 71 36 = nI (sl + cntF (tb S) q) ∧ (∀ z, z ≠ 36 → I1 71 z = I 71 z) ∧ ∀ x, x ≠ 71 → x ≠ 96 → I1 x = I x
section Slots
variable {g : Gl} {D : Nat} {b : Bool} {I : IM} {L : LM} {k w n sl : Nat} {p : Pg} {l1 : Int32} {post : Option Value → Bool → IM → LM → Prop}
set_option maxRecDepth 20000 in
theorem lp_X8_fill (kk : ∀ I1 l4, (∀ x, x < 64 → I1 96 x = -6) → (∀ x, x ≠ 96 → I1 x = I x) → Wp (Kn g D MX8_goRounds post) (Tb b) 156 [some (rf g 71), some (.int l1), some (.long (Nms p n)), none, l4] [] I1 L) : ∀ r q I1, q + r = 64 → (∀ x, x < q → I1 96 x = -6) → (∀ x, x ≠ 96 → I1 x = I x) → Wp (Kn g D MX8_goRounds post) (Tb b) 134 [some (rf g 71), some (.int l1), some (.long (Nms p n)), none, some (.int (nI q))] [] I1 L := by
  intro r
  induction r with
  | zero =>
    intro q I1 hq h1 h2
    have eq : q = 64 := by omega
    subst eq
    refine wq_iload 136 dX8_goRounds_134 rfl rfl ?_
    refine wq_bipush 138 64 dX8_goRounds_136 rfl (by decide) ?_
    refine wq_ic_ge 141 156 dX8_goRounds_138 rfl (by decide) (fun c138 => ?_) (fun c138 => absurd (by decide) c138)
    exact kk I1 _ h1 h2
  | succ r ih =>
    intro q I1 hq h1 h2
    refine wq_iload 136 dX8_goRounds_134 rfl rfl ?_
    refine wq_bipush 138 64 dX8_goRounds_136 rfl (by decide) ?_
    refine wq_ic_ge 141 156 dX8_goRounds_138 rfl (by decide) (fun c138 => absurd c138 (nI_ge (b := 64) (by omega) (by decide))) (fun c138 => ?_)
    refine wq_bload_n 142 0 dX8_goRounds_141 rfl rfl rfl ?_
    refine wq_getR 145 fl_X8_88 dX8_goRounds_142 rfl rfl o_71 (rfl : (Tb _).2.2.2 71 38 = some 96) ?_
    refine wq_iload 147 dX8_goRounds_145 rfl rfl ?_
    refine wq_bipush 149 (-6) dX8_goRounds_147 rfl (by decide) ?_
    refine wq_iast 150 dX8_goRounds_149 rfl a_96 (Ix.nI (by omega) (by decide)) ?_
    refine wq_iinc 153 (_ + 1) [_, _, _, _, _] dX8_goRounds_150 rfl rfl (inc1 _) rfl (Nat.le_of_ble_eq_true rfl) rfl ?_
    refine wq_goto 134 dX8_goRounds_153 (by decide) ?_
    rw [← nI_succ]
    refine ih (q + 1) _ (by omega) (fun x hx => ?_) (fun x hx => by rw [va_up_ne _ _ hx]; exact h2 x hx)
    rw [va_up_self]
    by_cases e : x = q
    · rw [e, va_up_self]
    · rw [va_up_ne _ _ e]; exact h1 x (by omega)
set_option maxRecDepth 20000 in
set_option maxHeartbeats 2000000 in
theorem lp_X8_slot1 {B : Nat} (hD : 1 ≤ D) (hk : k ≤ 4) (hn : n ≤ 90) (hw : WfB B p n) (hA : ∀ x, x < 64 → I 88 x = nI (aA (endA k w p n) x)) (hG : Ag64 (I 94) (bckA k w p n).1) (kk : ∀ I1 l4, S1 I I1 (spS k w p n) sl 64 → Wp (Kn g D MX8_goRounds post) (Tb b) 223 [some (rf g 71), some (.int l1), some (.long (Nms p n)), none, l4] [] I1 L) : ∀ r q I1, q + r = 64 → 4 ≤ q → S1 I I1 (spS k w p n) sl q → Wp (Kn g D MX8_goRounds post) (Tb b) 159 [some (rf g 71), some (.int l1), some (.long (Nms p n)), none, some (.int (nI q))] [] I1 L := by
  obtain ⟨f0, f1, f2, f3, f4, f5, f6, f7, f8, f9⟩ := round_facts (w := w) hk hn hw
  intro r
  induction r with
  | zero =>
    intro q I1 hq h4 h
    have eq : q = 64 := by omega
    subst eq
    refine wq_iload 161 dX8_goRounds_159 rfl rfl ?_
    refine wq_bipush 163 64 dX8_goRounds_161 rfl (by decide) ?_
    refine wq_ic_ge 166 223 dX8_goRounds_163 rfl (by decide) (fun c163 => ?_) (fun c163 => absurd (by decide) c163)
    exact kk I1 _ h
  | succ r ih =>
    intro q I1 hq h4 h
    have q64 : q < 64 := by omega
    obtain ⟨h1, h2, h3, h5⟩ := h
    have hA1 : ∀ x, x < 64 → I1 88 x = nI (aA (endA k w p n) x) := fun x hx => by rw [h5 88 (by decide) (by decide)]; exact hA x hx
    have hG1 : I1 94 q = rgA k w p n q := by rw [h5 94 (by decide) (by decide), hG q q64]; rfl
    have lq : rt (aA (endA k w p n)) q < 64 := rt_lt f0 q64
    have no : ¬ tb (spS k w p n) q = true → Wp (Kn g D MX8_goRounds post) (Tb b) 159 [some (rf g 71), some (.int l1), some (.long (Nms p n)), none, some (.int (nI q + 1))] [] I1 L := by
      intro hc
      rw [← nI_succ]
      refine ih (q + 1) I1 (by omega) (by omega) ⟨fun x hx => ?_, by rw [cntF, if_neg hc]; exact h2, h3, h5⟩
      rw [h1 x hx]
      by_cases e : x = q
      · rw [e, if_neg (Nat.lt_irrefl q), if_pos (by omega), bsS, if_neg hc]
      · by_cases c : x < q
        · rw [if_pos c, if_pos (by omega)]
        · rw [if_neg c, if_neg (by omega)]
    refine wq_iload 161 dX8_goRounds_159 rfl rfl ?_
    refine wq_bipush 163 64 dX8_goRounds_161 rfl (by decide) ?_
    refine wq_ic_ge 166 223 dX8_goRounds_163 rfl (by decide) (fun c163 => absurd c163 (nI_ge (b := 64) (by omega) (by decide))) (fun c163 => ?_)
    refine wq_lload_n 167 2 dX8_goRounds_166 rfl rfl rfl ?_
    refine wq_iload 169 dX8_goRounds_167 rfl rfl ?_
    refine cSi2 172 (sp_X8_has _ _) ml_X8_109 mf_X8_has dX8_goRounds_169 rfl (Nat.le_of_ble_eq_true rfl) (by omega) ?_
    refine wq_if_eq 175 217 dX8_goRounds_172 rfl (by decide) (fun c172 => ?_) (fun c172 => ?_)
    · skip
      refine wq_iinc 220 (_ + 1) [_, _, _, _, _] dX8_goRounds_217 rfl rfl (inc1 _) rfl (Nat.le_of_ble_eq_true rfl) rfl ?_
      refine wq_goto 159 dX8_goRounds_220 (by decide) ?_
      exact no (fun z => by have := ((f7 q q64).mp z).2.1; rw [(hasM_eq0 _ q64).mp c172] at this; cases this)
    · skip
      refine wq_bload_n 176 0 dX8_goRounds_175 rfl rfl rfl ?_
      refine wq_iload 178 dX8_goRounds_176 rfl rfl ?_
      refine cVi1 181 (sp_X8_stands hA1 f0 q rfl q64) ml_X8_221 mf_X8_standsFor dX8_goRounds_178 rfl o_71 (by decide) rfl (Nat.le_of_ble_eq_true rfl) (by omega) ?_
      refine wq_iload 183 dX8_goRounds_181 rfl rfl ?_
      refine wq_ic_ne 186 217 dX8_goRounds_183 rfl (by decide) (fun c183 => ?_) (fun c183 => ?_)
      · skip
        refine wq_iinc 220 (_ + 1) [_, _, _, _, _] dX8_goRounds_217 rfl rfl (inc1 _) rfl (Nat.le_of_ble_eq_true rfl) rfl ?_
        refine wq_goto 159 dX8_goRounds_220 (by decide) ?_
        exact no (fun z => c183 (by rw [show rt (aA (endA k w p n)) q = q from ((f7 q q64).mp z).2.2.1]))
      · skip
        refine wq_bload_n 187 0 dX8_goRounds_186 rfl rfl rfl ?_
        refine wq_getR 190 fl_X8_82 dX8_goRounds_187 rfl rfl o_71 (rfl : (Tb _).2.2.2 71 31 = some 94) ?_
        refine wq_iload 192 dX8_goRounds_190 rfl rfl ?_
        refine wq_iald 193 dX8_goRounds_192 rfl a_94 (Ix.nI (by omega) (by decide)) ?_
        refine wq_if_ge 196 217 dX8_goRounds_193 rfl (by decide) (fun c193 => ?_) (fun c193 => ?_)
        · skip
          refine wq_iinc 220 (_ + 1) [_, _, _, _, _] dX8_goRounds_217 rfl rfl (inc1 _) rfl (Nat.le_of_ble_eq_true rfl) rfl ?_
          refine wq_goto 159 dX8_goRounds_220 (by decide) ?_
          rw [hG1] at c193
          exact no (fun z => by have := ((f7 q q64).mp z).2.2.2; exact absurd c193 (Int32.not_le.mpr this))
        · skip
          refine wq_bload_n 197 0 dX8_goRounds_196 rfl rfl rfl ?_
          refine wq_getR 200 fl_X8_88 dX8_goRounds_197 rfl rfl o_71 (rfl : (Tb _).2.2.2 71 38 = some 96) ?_
          refine wq_iload 202 dX8_goRounds_200 rfl rfl ?_
          refine wq_bload_n 203 0 dX8_goRounds_202 rfl rfl rfl ?_
          refine wq_getI 206 fl_X8_295 dX8_goRounds_203 rfl rfl o_71 ?_
          refine wq_iast 207 dX8_goRounds_206 rfl a_96 (Ix.nI (by omega) (by decide)) ?_
          refine wq_bload_n 208 0 dX8_goRounds_207 rfl rfl rfl ?_
          refine wq_dup 209 dX8_goRounds_208 rfl rfl ?_
          refine wq_getI 212 fl_X8_295 dX8_goRounds_209 rfl rfl o_71 ?_
          refine wq_iconst 213 1 dX8_goRounds_212 rfl (by decide) ?_
          refine wq_iadd 214 dX8_goRounds_213 rfl ?_
          refine wq_putI 217 fl_X8_295 dX8_goRounds_214 rfl rfl rfl rfl rfl o_71 ?_
          refine wq_iinc 220 (_ + 1) [_, _, _, _, _] dX8_goRounds_217 rfl rfl (inc1 _) rfl (Nat.le_of_ble_eq_true rfl) rfl ?_
          refine wq_goto 159 dX8_goRounds_220 (by decide) ?_
          rw [hG1] at c193
          have hS : tb (spS k w p n) q = true := (f7 q q64).mpr ⟨h4, (hasM_ne0 _ q64).mp c172, (nI_eq (a := rt (aA (endA k w p n)) q) (by omega) (by omega)).mp c183, Int32.not_le.mp c193⟩
          rw [← nI_succ]
          refine wq_gen (fun I2 L2 eI2 eL2 => ?_)
          rw [eL2]
          clear eL2
          have i96 : I2 96 = va_up (I1 96) q (nI (sl + cntF (tb (spS k w p n)) q)) := by rw [eI2, va_up_ne _ _ (by decide), va_up_self, h2]
          have i71 : I2 71 = va_up (I1 71) 36 (nI (sl + cntF (tb (spS k w p n)) q + 1)) := by rw [eI2, va_up_self, va_up_ne _ _ (by decide), h2, nI_succ]
          have ix : ∀ x, x ≠ 71 → x ≠ 96 → I2 x = I1 x := fun x x1 x2 => by rw [eI2, va_up_ne _ _ x1, va_up_ne _ _ x2]
          clear eI2
          refine ih (q + 1) I2 (by omega) (by omega) ⟨fun x hx => ?_, by rw [i71, va_up_self, cntF, if_pos hS]; rfl, fun z hz => by rw [i71, va_up_ne _ _ hz]; exact h3 z hz, fun x x1 x2 => by rw [ix x x1 x2]; exact h5 x x1 x2⟩
          rw [i96]
          by_cases e : x = q
          · rw [e, va_up_self, if_pos (by omega), bsS, if_pos hS]
          · rw [va_up_ne _ _ e, h1 x hx]
            by_cases c : x < q
            · rw [if_pos c, if_pos (by omega)]
            · rw [if_neg c, if_neg (by omega)]
def S2 (I I1 : IM) (k w : Nat) (p : Pg) (n sl q : Nat) : Prop := (∀ x, x < 64 → I1 96 x = if x < q then slA k w p n sl x else bsS (spS k w p n) sl x) ∧ (∀ x, x < 16 → I1 97 x = if (decide (x < q) && (decide (4 ≤ x) && isS k w p n x)) = true then 10 + slA k w p n sl x else I 97 x) ∧ ∀ x, x ≠ 96 → x ≠ 97 → I1 x = I x
set_option maxRecDepth 20000 in
set_option maxHeartbeats 2000000 in
theorem lp_X8_slot2 {B : Nat} (hD : 1 ≤ D) (hk : k ≤ 4) (hn : n ≤ 90) (hw : WfB B p n) (hA : ∀ x, x < 64 → I 88 x = nI (aA (endA k w p n) x)) (hG : Ag64 (I 94) (bckA k w p n).1) (kk : ∀ I1 l4, S2 I I1 k w p n sl 64 → Wp (Kn g D MX8_goRounds post) (Tb b) 304 [some (rf g 71), some (.int l1), some (.long (Nms p n)), none, l4] [] I1 L) : ∀ r q I1, q + r = 64 → 4 ≤ q → S2 I I1 k w p n sl q → Wp (Kn g D MX8_goRounds post) (Tb b) 226 [some (rf g 71), some (.int l1), some (.long (Nms p n)), none, some (.int (nI q))] [] I1 L := by
  obtain ⟨f0, f1, f2, f3, f4, f5, f6, f7, f8, f9⟩ := round_facts (w := w) hk hn hw
  have onS : ∀ x, x < 64 → tb (spS k w p n) x = true → slA k w p n sl x = bsS (spS k w p n) sl x := fun x hx hc => by
    obtain ⟨-, g2, g3, -⟩ := (f7 x hx).mp hc
    rw [slA, if_pos (by rw [isS, g2, g3, hc]; rfl), bsS, if_pos hc, g3]
  intro r
  induction r with
  | zero =>
    intro q I1 hq h4 h
    have eq : q = 64 := by omega
    subst eq
    refine wq_iload 228 dX8_goRounds_226 rfl rfl ?_
    refine wq_bipush 230 64 dX8_goRounds_228 rfl (by decide) ?_
    refine wq_ic_ge 233 304 dX8_goRounds_230 rfl (by decide) (fun c230 => ?_) (fun c230 => absurd (by decide) c230)
    exact kk I1 _ h
  | succ r ih =>
    intro q I1 hq h4 h
    have q64 : q < 64 := by omega
    obtain ⟨h1, h2, h3⟩ := h
    have hA1 : ∀ x, x < 64 → I1 88 x = nI (aA (endA k w p n) x) := fun x hx => by rw [h3 88 (by decide) (by decide)]; exact hA x hx
    have lq : rt (aA (endA k w p n)) q < 64 := rt_lt f0 q64
    have lqq : rt (aA (endA k w p n)) q ≤ q := rt_le f0 q64
    have hG1 : I1 94 (rt (aA (endA k w p n)) q) = rgA k w p n (ndA k w p n q) := by rw [h3 94 (by decide) (by decide), hG _ lq]; rfl
    have no : ¬ isS k w p n q = true → Wp (Kn g D MX8_goRounds post) (Tb b) 226 [some (rf g 71), some (.int l1), some (.long (Nms p n)), none, some (.int (nI q + 1))] [] I1 L := by
      intro hc
      rw [← nI_succ]
      refine ih (q + 1) I1 (by omega) (by omega) ⟨fun x hx => ?_, fun x hx => ?_, h3⟩
      · rw [h1 x hx]
        by_cases e : x = q
        · rw [e, if_neg (Nat.lt_irrefl q), if_pos (by omega), slA, if_neg hc, bsS, if_neg]
          intro z
          obtain ⟨-, g2, g3, -⟩ := (f7 q q64).mp z
          exact hc (by rw [isS, g2, g3, z]; rfl)
        · by_cases c : x < q
          · rw [if_pos c, if_pos (by omega)]
          · rw [if_neg c, if_neg (by omega)]
      · rw [h2 x hx]
        by_cases e : x = q
        · rw [e, Bool.eq_false_iff.mpr hc]; simp
        · rw [decide_eq_decide.mpr (show x < q + 1 ↔ x < q by omega)]
    have yes : isS k w p n q = true → ∀ I2 : IM, I2 96 = va_up (I1 96) q (slA k w p n sl q) → (∀ x, x < 16 → I2 97 x = if x = q then 10 + slA k w p n sl q else I1 97 x) → (∀ x, x ≠ 96 → x ≠ 97 → I2 x = I1 x) → Wp (Kn g D MX8_goRounds post) (Tb b) 226 [some (rf g 71), some (.int l1), some (.long (Nms p n)), none, some (.int (nI q + 1))] [] I2 L := by
      intro hc I2 i96 i97 ix
      rw [← nI_succ]
      refine ih (q + 1) I2 (by omega) (by omega) ⟨fun x hx => ?_, fun x hx => ?_, fun x x1 x2 => by rw [ix x x1 x2]; exact h3 x x1 x2⟩
      · rw [i96]
        by_cases e : x = q
        · rw [e, va_up_self, if_pos (by omega)]
        · rw [va_up_ne _ _ e, h1 x hx]
          by_cases c : x < q
          · rw [if_pos c, if_pos (by omega)]
          · rw [if_neg c, if_neg (by omega)]
      · rw [i97 x hx]
        by_cases e : x = q
        · rw [if_pos e, e, hc, decide_eq_true h4, decide_eq_true (show q < q + 1 by omega)]; rfl
        · rw [if_neg e, h2 x hx, decide_eq_decide.mpr (show x < q + 1 ↔ x < q by omega)]
    refine wq_iload 228 dX8_goRounds_226 rfl rfl ?_
    refine wq_bipush 230 64 dX8_goRounds_228 rfl (by decide) ?_
    refine wq_ic_ge 233 304 dX8_goRounds_230 rfl (by decide) (fun c230 => absurd c230 (nI_ge (b := 64) (by omega) (by decide))) (fun c230 => ?_)
    refine wq_lload_n 234 2 dX8_goRounds_233 rfl rfl rfl ?_
    refine wq_iload 236 dX8_goRounds_234 rfl rfl ?_
    refine cSi2 239 (sp_X8_has _ _) ml_X8_109 mf_X8_has dX8_goRounds_236 rfl (Nat.le_of_ble_eq_true rfl) (by omega) ?_
    refine wq_if_eq 242 298 dX8_goRounds_239 rfl (by decide) (fun c239 => ?_) (fun c239 => ?_)
    · skip
      refine wq_iinc 301 (_ + 1) [_, _, _, _, _] dX8_goRounds_298 rfl rfl (inc1 _) rfl (Nat.le_of_ble_eq_true rfl) rfl ?_
      refine wq_goto 226 dX8_goRounds_301 (by decide) ?_
      exact no (fun z => by rw [isS, (hasM_eq0 _ q64).mp c239] at z; cases z)
    · skip
      refine wq_bload_n 243 0 dX8_goRounds_242 rfl rfl rfl ?_
      refine wq_getR 246 fl_X8_82 dX8_goRounds_243 rfl rfl o_71 (rfl : (Tb _).2.2.2 71 31 = some 94) ?_
      refine wq_bload_n 247 0 dX8_goRounds_246 rfl rfl rfl ?_
      refine wq_iload 249 dX8_goRounds_247 rfl rfl ?_
      refine cVi1 252 (sp_X8_stands hA1 f0 q rfl q64) ml_X8_221 mf_X8_standsFor dX8_goRounds_249 rfl o_71 (by decide) rfl (Nat.le_of_ble_eq_true rfl) (by omega) ?_
      refine wq_iald 253 dX8_goRounds_252 rfl a_94 (Ix.nI (by omega) (by decide)) ?_
      refine wq_if_ge 256 298 dX8_goRounds_253 rfl (by decide) (fun c253 => ?_) (fun c253 => ?_)
      · skip
        refine wq_iinc 301 (_ + 1) [_, _, _, _, _] dX8_goRounds_298 rfl rfl (inc1 _) rfl (Nat.le_of_ble_eq_true rfl) rfl ?_
        refine wq_goto 226 dX8_goRounds_301 (by decide) ?_
        rw [hG1] at c253
        exact no (fun z => by
          rw [isS, Bool.and_eq_true] at z
          rw [f9 _ (f1 q q64) z.2] at c253
          exact absurd c253 (by decide))
      · skip
        refine wq_bload_n 257 0 dX8_goRounds_256 rfl rfl rfl ?_
        refine wq_getR 260 fl_X8_88 dX8_goRounds_257 rfl rfl o_71 (rfl : (Tb _).2.2.2 71 38 = some 96) ?_
        refine wq_iload 262 dX8_goRounds_260 rfl rfl ?_
        refine wq_bload_n 263 0 dX8_goRounds_262 rfl rfl rfl ?_
        refine wq_getR 266 fl_X8_88 dX8_goRounds_263 rfl rfl o_71 (rfl : (Tb _).2.2.2 71 38 = some 96) ?_
        refine wq_bload_n 267 0 dX8_goRounds_266 rfl rfl rfl ?_
        refine wq_iload 269 dX8_goRounds_267 rfl rfl ?_
        refine cVi1 272 (sp_X8_stands hA1 f0 q rfl q64) ml_X8_221 mf_X8_standsFor dX8_goRounds_269 rfl o_71 (by decide) rfl (Nat.le_of_ble_eq_true rfl) (by omega) ?_
        refine wq_iald 273 dX8_goRounds_272 rfl a_96 (Ix.nI (by omega) (by decide)) ?_
        refine wq_iast 274 dX8_goRounds_273 rfl a_96 (Ix.nI (by omega) (by decide)) ?_
        refine wq_iload 276 dX8_goRounds_274 rfl rfl ?_
        refine wq_bipush 278 16 dX8_goRounds_276 rfl (by decide) ?_
        refine wq_ic_ge 281 298 dX8_goRounds_278 rfl (by decide) (fun c278 => ?_) (fun c278 => ?_)
        · skip
          refine wq_iinc 301 (_ + 1) [_, _, _, _, _] dX8_goRounds_298 rfl rfl (inc1 _) rfl (Nat.le_of_ble_eq_true rfl) rfl ?_
          refine wq_goto 226 dX8_goRounds_301 (by decide) ?_
          have hnm : tb (Nms p n) q = true := (hasM_ne0 _ q64).mp c239
          rw [hG1] at c253
          have hSn : tb (spS k w p n) (ndA k w p n q) = true := Decidable.byContradiction (fun z => by
            obtain ⟨r, r4, er⟩ := f8 q q64 hnm (Bool.eq_false_iff.mpr z)
            rw [er] at c253
            exact c253 (nI_pos' (by omega)))
          have hc : isS k w p n q = true := by rw [isS, hnm, hSn]; rfl
          have val : I1 96 (rt (aA (endA k w p n)) q) = slA k w p n sl q := by
            rw [h1 _ lq]
            have ev : slA k w p n sl q = bsS (spS k w p n) sl (ndA k w p n q) := by rw [slA, if_pos hc, bsS, if_pos hSn]
            rw [ev]
            by_cases c : rt (aA (endA k w p n)) q < q
            · rw [if_pos c]; exact onS _ lq hSn
            · rw [if_neg c]; rfl
          have g16 : ¬ q < 16 := fun z => nI_ge (b := 16) z (by decide) c278
          rw [val]
          exact yes hc _ (va_up_self _ _ _) (fun x hx => by rw [if_neg (by omega), va_up_ne _ _ (by decide)]) (fun x x1 x2 => va_up_ne _ _ x1)
        · skip
          have g16 : q < 16 := Decidable.byContradiction (fun z => c278 (nI_le (a := 16) (by omega) (by omega)))
          refine wq_bload_n 282 0 dX8_goRounds_281 rfl rfl rfl ?_
          refine wq_getR 285 fl_X8_91 dX8_goRounds_282 rfl rfl o_71 (rfl : (Tb _).2.2.2 71 39 = some 97) ?_
          refine wq_iload 287 dX8_goRounds_285 rfl rfl ?_
          refine wq_bipush 289 10 dX8_goRounds_287 rfl (by decide) ?_
          refine wq_bload_n 290 0 dX8_goRounds_289 rfl rfl rfl ?_
          refine wq_getR 293 fl_X8_88 dX8_goRounds_290 rfl rfl o_71 (rfl : (Tb _).2.2.2 71 38 = some 96) ?_
          refine wq_iload 295 dX8_goRounds_293 rfl rfl ?_
          refine wq_iald 296 dX8_goRounds_295 rfl a_96 (Ix.nI (by omega) (by decide)) ?_
          refine wq_iadd 297 dX8_goRounds_296 rfl ?_
          refine wq_iast 298 dX8_goRounds_297 rfl a_97 (Ix.nI (by omega) (by decide)) ?_
          refine wq_iinc 301 (_ + 1) [_, _, _, _, _] dX8_goRounds_298 rfl rfl (inc1 _) rfl (Nat.le_of_ble_eq_true rfl) rfl ?_
          refine wq_goto 226 dX8_goRounds_301 (by decide) ?_
          have hnm : tb (Nms p n) q = true := (hasM_ne0 _ q64).mp c239
          rw [hG1] at c253
          have hSn : tb (spS k w p n) (ndA k w p n q) = true := Decidable.byContradiction (fun z => by
            obtain ⟨r, r4, er⟩ := f8 q q64 hnm (Bool.eq_false_iff.mpr z)
            rw [er] at c253
            exact c253 (nI_pos' (by omega)))
          have hc : isS k w p n q = true := by rw [isS, hnm, hSn]; rfl
          have val : I1 96 (rt (aA (endA k w p n)) q) = slA k w p n sl q := by
            rw [h1 _ lq]
            have ev : slA k w p n sl q = bsS (spS k w p n) sl (ndA k w p n q) := by rw [slA, if_pos hc, bsS, if_pos hSn]
            rw [ev]
            by_cases c : rt (aA (endA k w p n)) q < q
            · rw [if_pos c]; exact onS _ lq hSn
            · rw [if_neg c]; rfl
          rw [val]
          refine yes hc _ ?_ (fun x hx => ?_) (fun x x1 x2 => by rw [va_up_ne _ _ x2, va_up_ne _ _ x1])
          · rw [va_up_ne _ _ (by decide), va_up_self]
          · rw [va_up_self, va_up_self, va_up_ne _ _ (show 97 ≠ 96 by decide), va_up_self]
            by_cases e : x = q
            · rw [if_pos e, e, va_up_self]
            · rw [if_neg e, va_up_ne _ _ e]
end Slots
