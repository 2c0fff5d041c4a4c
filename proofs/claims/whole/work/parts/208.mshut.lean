/-! the reference's round: shutAll -/
theorem RMx_O {I : IM} {L : LM} {k w mv : Nat} {f1 f2 : Nat → Nat} {tl : Bool} {A : RA} (h : RMx I L k w mv f1 f2 tl A) (O : Nat → Int32) (op : Nat → Bool) (hO : ∀ m, m < mv → O m = bI (op m)) : RMx (va_up I 91 O) L k w mv f1 f2 tl (aN A, aL A, aA A, aC A, op, aT A, aK A, aS A, aQ A) := by
  obtain ⟨h1, h2, h3, h4, h5, h6, h7, h8, h9, h10, h11, h12, h13⟩ := h
  exact ⟨h1, h2, h3, h4, hO, h6, h7, h8, h9, h10, h11, h12, h13⟩
set_option maxRecDepth 20000 in
set_option maxHeartbeats 2000000 in
theorem lp_X8_shut {g : Gl} {D : Nat} {b : Bool} {I : IM} {L : LM} {k w mv t x : Nat} {f1 f2 : Nat → Nat} {tl : Bool} {A : RA} (hD : 2 ≤ D) (h : RMx I L k w mv f1 f2 tl A) (hg : GA mv t f1 f2 A) (hx : x < 64) {post : Option Value → Bool → IM → LM → Prop} (hp : ∀ O, (∀ m, m < mv → O m = bI (aO A m && !inA f1 f2 A m x)) → post none b (va_up I 91 O) L) : ∀ r q O, q + r = mv → (∀ m, m < mv → O m = bI (if m < q then aO A m && !inA f1 f2 A m x else aO A m)) → Wp (Kn g D MX8_shutAll post) (Tb b) 2 [some (rf g 71), some (.int (nI x)), some (.int (nI q))] [] (va_up I 91 O) L := by
  have hm := h.2.2.2.2.2.2.2.1
  have gm := hg.2.2.2.2.2.2.2.1
  intro r
  induction r with
  | zero =>
    intro q O hq hO
    have eq : q = mv := by omega
    subst eq
    refine wq_iload_n 3 2 dX8_shutAll_2 rfl rfl rfl ?_
    refine wq_bload_n 4 0 dX8_shutAll_3 rfl rfl rfl ?_
    refine wq_getI 7 fl_X8_224 dX8_shutAll_4 rfl rfl o_71 ?_
    refine wq_ic_ge 10 45 dX8_shutAll_7 rfl (by decide) (fun c7 => ?_) (fun c7 => absurd (by rw [va_up_ne _ _ (by decide), hm]; exact nI_le (Nat.le_refl _) (by omega)) c7)
    refine rr dX8_shutAll_45 rfl ?_
    exact hp O (fun m hm => by rw [hO m hm, if_pos hm])
  | succ r ih =>
    intro q O hq hO
    have hOq : O q = bI (aO A q) := by rw [hO q (by omega), if_neg (by omega)]
    have hR := RMx_O h O (fun m => if m < q then aO A m && !inA f1 f2 A m x else aO A m) hO
    have step : ∀ v, v = bI (aO A q && !inA f1 f2 A q x) → ∀ m, m < mv → va_up O q v m = bI (if m < q + 1 then aO A m && !inA f1 f2 A m x else aO A m) := by
      intro v hv m hm'
      by_cases e : m = q
      · rw [e, va_up_self, if_pos (by omega)]; exact hv
      · rw [va_up_ne _ _ e, hO m hm']
        have : (m < q + 1) = (m < q) := propext (by omega)
        simp only [this]
    refine wq_iload_n 3 2 dX8_shutAll_2 rfl rfl rfl ?_
    refine wq_bload_n 4 0 dX8_shutAll_3 rfl rfl rfl ?_
    refine wq_getI 7 fl_X8_224 dX8_shutAll_4 rfl rfl o_71 ?_
    refine wq_ic_ge 10 45 dX8_shutAll_7 rfl (by decide) (fun c7 => absurd c7 (by rw [va_up_ne _ _ (by decide), hm]; exact nI_ge (by omega) (by omega))) (fun c7 => ?_)
    refine wq_bload_n 11 0 dX8_shutAll_10 rfl rfl rfl ?_
    refine wq_getR 14 fl_X8_72 dX8_shutAll_11 rfl rfl o_71 (rfl : (Tb _).2.2.2 71 26 = some 91) ?_
    refine wq_iload_n 15 2 dX8_shutAll_14 rfl rfl rfl ?_
    refine wq_bload_n 16 0 dX8_shutAll_15 rfl rfl rfl ?_
    refine wq_getR 19 fl_X8_72 dX8_shutAll_16 rfl rfl o_71 (rfl : (Tb _).2.2.2 71 26 = some 91) ?_
    refine wq_iload_n 20 2 dX8_shutAll_19 rfl rfl rfl ?_
    refine wq_zald 21 dX8_shutAll_20 rfl a_91 (Ix.nI (by omega) (by decide)) ?_
    rw [va_up_self, hOq]
    refine wq_if_eq 24 37 dX8_shutAll_21 rfl (by decide) (fun c21 => ?_) (fun c21 => ?_)
    · skip
      refine wq_iconst 38 0 dX8_shutAll_37 rfl (by decide) ?_
      refine wq_zast 39 dX8_shutAll_38 rfl a_91 (Ix.nI (by omega) (by decide)) rfl ?_
      refine wq_iinc 42 (_ + 1) [_, _, _] dX8_shutAll_39 rfl rfl (inc1 _) rfl (Nat.le_of_ble_eq_true rfl) rfl ?_
      refine wq_goto 2 dX8_shutAll_42 (by decide) ?_
      rw [← nI_succ, va_up_self, va_up_up]
      exact ih (q + 1) _ (by omega) (step _ (by
        rw [bI_eq.mp c21]; rfl))
    · skip
      refine wq_bload_n 25 0 dX8_shutAll_24 rfl rfl rfl ?_
      refine wq_iload_n 26 2 dX8_shutAll_25 rfl rfl rfl ?_
      refine wq_iload_n 27 1 dX8_shutAll_26 rfl rfl rfl ?_
      refine cVi2 30 (sp_X8_isIn (by omega) hR hg.1 q x rfl rfl (by omega) gm (hg.2.2.2.2.2.2.2.2.1 q (by omega)) hx) ml_X8_227 mf_X8_isIn dX8_shutAll_27 rfl o_71 (by decide) rfl (Nat.le_of_ble_eq_true rfl) (by omega) ?_
      refine wq_if_ne 33 37 dX8_shutAll_30 rfl (by decide) (fun c30 => ?_) (fun c30 => ?_)
      · skip
        refine wq_iconst 38 0 dX8_shutAll_37 rfl (by decide) ?_
        refine wq_zast 39 dX8_shutAll_38 rfl a_91 (Ix.nI (by omega) (by decide)) rfl ?_
        refine wq_iinc 42 (_ + 1) [_, _, _] dX8_shutAll_39 rfl rfl (inc1 _) rfl (Nat.le_of_ble_eq_true rfl) rfl ?_
        refine wq_goto 2 dX8_shutAll_42 (by decide) ?_
        rw [← nI_succ, va_up_self, va_up_up]
        exact ih (q + 1) _ (by omega) (step _ (by
          have z : inA f1 f2 A q x = true := bI_ne.mp c30
          rw [z, Bool.not_true, Bool.and_false]; rfl))
      · skip
        refine wq_iconst 34 1 dX8_shutAll_33 rfl (by decide) ?_
        refine wq_goto 38 dX8_shutAll_34 (by decide) ?_
        refine wq_zast 39 dX8_shutAll_38 rfl a_91 (Ix.nI (by omega) (by decide)) rfl ?_
        refine wq_iinc 42 (_ + 1) [_, _, _] dX8_shutAll_39 rfl rfl (inc1 _) rfl (Nat.le_of_ble_eq_true rfl) rfl ?_
        refine wq_goto 2 dX8_shutAll_42 (by decide) ?_
        rw [← nI_succ, va_up_self, va_up_up]
        exact ih (q + 1) _ (by omega) (step _ (by
          have z : inA f1 f2 A q x = false := bI_eq.mp c30
          rw [z, bI_ne.mp c21]; rfl))
set_option maxRecDepth 20000 in
theorem sp_X8_shut {g : Gl} {D : Nat} {b : Bool} {I : IM} {L : LM} {k w mv t : Nat} {f1 f2 : Nat → Nat} {tl : Bool} {A : RA} (hD : 2 ≤ D) (h : RMx I L k w mv f1 f2 tl A) (hg : GA mv t f1 f2 A) {i : Int32} (x : Nat) (hi : i = nI x) (hx : x < 64) : Me g D MX8_shutAll [rf g 71, .int i] b I L (fun r b' I' L' => r = none ∧ b' = b ∧ L' = L ∧ RMx I' L k w mv f1 f2 tl (shutA f1 f2 A x) ∧ ∀ z, z ≠ 91 → I' z = I z) := by
  subst hi
  refine Me.of [some (rf g 71), some (.int (nI x)), none] 1 rfl pf_X8_shutAll (Nat.le_of_ble_eq_true rfl) ?_
  refine wq_iconst 1 0 dX8_shutAll_0 rfl (by decide) ?_
  refine wq_istore_n 2 2 [_, _, _] dX8_shutAll_1 rfl rfl rfl (Nat.le_of_ble_eq_true rfl) rfl ?_
  refine wp_eqI (va_up_id I 91) ?_
  exact lp_X8_shut hD h hg hx (fun O hO => ⟨rfl, rfl, rfl, RMx_O h O _ hO, fun z hz => va_up_ne _ _ hz⟩) mv 0 _ (by omega) (fun m hm => by rw [if_neg (by omega)]; exact h.2.2.2.2.1 m hm)
