/-! the reference's round: isMoved -/
set_option maxRecDepth 20000 in
set_option maxHeartbeats 2000000 in
theorem lp_X8_isMoved {g : Gl} {D : Nat} {b : Bool} {I : IM} {L : LM} {k w mv t x : Nat} {f1 f2 : Nat → Nat} {tl : Bool} {A : RA} (hD : 2 ≤ D) (h : RMx I L k w mv f1 f2 tl A) (hg : GA mv t f1 f2 A) (hx : x < 64) {post : Option Value → Bool → IM → LM → Prop} (hp : post (some (.int (bI (movA mv f1 f2 A x)))) b I L) : ∀ r q, q + r = mv → (∀ m, m < q → (aO A m && inA f1 f2 A m x) = false) → Wp (Kn g D MX8_isMoved post) (Tb b) 2 [some (rf g 71), some (.int (nI x)), some (.int (nI q))] [] I L := by
  have hm := h.2.2.2.2.2.2.2.1
  have gm := hg.2.2.2.2.2.2.2.1
  intro r
  induction r with
  | zero =>
    intro q hq hn
    have eq : q = mv := by omega
    subst eq
    have e : movA q f1 f2 A x = false := Bool.eq_false_iff.mpr (fun z => by
      obtain ⟨j, j1, j2⟩ := (anyB_iff _ q).mp z
      rw [hn j j1] at j2
      cases j2)
    rw [e] at hp
    refine wq_iload_n 3 2 dX8_isMoved_2 rfl rfl rfl ?_
    refine wq_bload_n 4 0 dX8_isMoved_3 rfl rfl rfl ?_
    refine wq_getI 7 fl_X8_224 dX8_isMoved_4 rfl rfl o_71 ?_
    refine wq_ic_ge 10 36 dX8_isMoved_7 rfl (by decide) (fun c7 => ?_) (fun c7 => absurd (by rw [hm]; exact nI_le (Nat.le_refl _) (by omega)) c7)
    refine wq_iconst 37 0 dX8_isMoved_36 rfl (by decide) ?_
    refine ri .boolean dX8_isMoved_37 rfl rfl ?_
    exact hp
  | succ r ih =>
    intro q hq hn
    have hO := h.2.2.2.2.1 q (by omega)
    have next : (aO A q && inA f1 f2 A q x) = false → ∀ m, m < q + 1 → (aO A m && inA f1 f2 A m x) = false := by
      intro z m hm'
      by_cases e : m = q
      · rw [e]; exact z
      · exact hn m (by omega)
    refine wq_iload_n 3 2 dX8_isMoved_2 rfl rfl rfl ?_
    refine wq_bload_n 4 0 dX8_isMoved_3 rfl rfl rfl ?_
    refine wq_getI 7 fl_X8_224 dX8_isMoved_4 rfl rfl o_71 ?_
    refine wq_ic_ge 10 36 dX8_isMoved_7 rfl (by decide) (fun c7 => absurd c7 (by rw [hm]; exact nI_ge (by omega) (by omega))) (fun c7 => ?_)
    refine wq_bload_n 11 0 dX8_isMoved_10 rfl rfl rfl ?_
    refine wq_getR 14 fl_X8_72 dX8_isMoved_11 rfl rfl o_71 (rfl : (Tb _).2.2.2 71 26 = some 91) ?_
    refine wq_iload_n 15 2 dX8_isMoved_14 rfl rfl rfl ?_
    refine wq_zald 16 dX8_isMoved_15 rfl a_91 (Ix.nI (by omega) (by decide)) ?_
    refine wq_if_eq 19 30 dX8_isMoved_16 rfl (by decide) (fun c16 => ?_) (fun c16 => ?_)
    · skip
      refine wq_iinc 33 (_ + 1) [_, _, _] dX8_isMoved_30 rfl rfl (inc1 _) rfl (Nat.le_of_ble_eq_true rfl) rfl ?_
      refine wq_goto 2 dX8_isMoved_33 (by decide) ?_
      have ho : aO A q = false := bI_eq.mp (by rw [← hO]; exact c16)
      rw [← nI_succ]
      exact ih (q + 1) (by omega) (next (by rw [ho]; rfl))
    · skip
      refine wq_bload_n 20 0 dX8_isMoved_19 rfl rfl rfl ?_
      refine wq_iload_n 21 2 dX8_isMoved_20 rfl rfl rfl ?_
      refine wq_iload_n 22 1 dX8_isMoved_21 rfl rfl rfl ?_
      refine cVi2 25 (sp_X8_isIn (by omega) h hg.1 q x rfl rfl (by omega) gm (hg.2.2.2.2.2.2.2.2.1 q (by omega)) hx) ml_X8_227 mf_X8_isIn dX8_isMoved_22 rfl o_71 (by decide) rfl (Nat.le_of_ble_eq_true rfl) (by omega) ?_
      refine wq_if_eq 28 30 dX8_isMoved_25 rfl (by decide) (fun c25 => ?_) (fun c25 => ?_)
      · skip
        refine wq_iinc 33 (_ + 1) [_, _, _] dX8_isMoved_30 rfl rfl (inc1 _) rfl (Nat.le_of_ble_eq_true rfl) rfl ?_
        refine wq_goto 2 dX8_isMoved_33 (by decide) ?_
        have hi := bI_eq.mp c25
        rw [← nI_succ]
        exact ih (q + 1) (by omega) (next (by rw [hi, Bool.and_false]))
      · skip
        refine wq_iconst 29 1 dX8_isMoved_28 rfl (by decide) ?_
        refine ri .boolean dX8_isMoved_29 rfl rfl ?_
        have ho : aO A q = true := bI_ne.mp (by rw [← hO]; exact c16)
        have hi := bI_ne.mp c25
        have e : movA mv f1 f2 A x = true := (anyB_iff _ mv).mpr ⟨q, by omega, by rw [ho, hi]; rfl⟩
        rw [e] at hp
        exact hp
set_option maxRecDepth 20000 in
theorem sp_X8_isMoved {g : Gl} {D : Nat} {b : Bool} {I : IM} {L : LM} {k w mv t : Nat} {f1 f2 : Nat → Nat} {tl : Bool} {A : RA} (hD : 2 ≤ D) (h : RMx I L k w mv f1 f2 tl A) (hg : GA mv t f1 f2 A) {i : Int32} (x : Nat) (hi : i = nI x) (hx : x < 64) : Md g D MX8_isMoved [rf g 71, .int i] b I L (some (.int (bI (movA mv f1 f2 A x)))) b I L := by
  subst hi
  refine Me.of [some (rf g 71), some (.int (nI x)), none] 1 rfl pf_X8_isMoved (Nat.le_of_ble_eq_true rfl) ?_
  refine wq_iconst 1 0 dX8_isMoved_0 rfl (by decide) ?_
  refine wq_istore_n 2 2 [_, _, _] dX8_isMoved_1 rfl rfl rfl (Nat.le_of_ble_eq_true rfl) rfl ?_
  exact lp_X8_isMoved hD h hg hx ⟨rfl, rfl, rfl, rfl⟩ mv 0 (by omega) (fun m hm => by omega)
