/-! the class's calls: needs, allotment, runs -/
section Calls2
variable {g : Gl} {D : Nat} {b : Bool} {I : IM} {L : LM} {t : TS}
/-- cells u to v may have changed, and flag z is set -/
theorem InvX_set {I' : IM} {L' : LM} (h : InvX I L t) (z u v : Nat) (hz : z = 9 ∨ z = 10 ∨ z = 11 ∨ z = 12) (e0 : I' 0 = va_up (I 0) z 1) (e : ∀ x, x ≠ 0 → ¬ (u ≤ x ∧ x < v) → I' x = I x ∧ L' x = L x) (hu : 8 ≤ u) (hv : v ≤ 59) (h9 : z = 9 → NdR I' L' 8 (tP t) (tN t)) (h9' : z ≠ 9 → 14 ≤ u) (h10 : z = 10 → AlR I' L' (tK t) (tW t) (tP t) (tN t)) (h10' : z ≠ 10 → v ≤ 14 ∨ 50 ≤ u) (h11 : z = 11 → UX I' 50 (tP t) (tN t) 500) (h11' : z ≠ 11 → v ≤ 50 ∨ 54 ≤ u) (h12 : z = 12 → ∀ r s, goA (tK t) (tW t) 6 0 (bgA (tP t) (tN t)) = some (r, s) → UX I' 54 (tCd t s).1 (tCd t s).2.1 2000) (h12' : z ≠ 12 → v ≤ 54) : InvX I' L' t := by
  obtain ⟨k1, k2, k3, k4, k5, k6, k7, k8, k9⟩ := h
  have sm : ∀ a c, 0 < a → (c ≤ u ∨ v ≤ a) → Sm a c I L I' L' := fun a c ha hc x x1 x2 => e x (by omega) (by omega)
  have y : ∀ q, q ≠ z → I' 0 q = I 0 q := fun q hq => by rw [e0, va_up_ne _ _ hq]
  have yz : I' 0 z = 1 := by rw [e0, va_up_self]
  refine ⟨⟨by rw [y 7 (by omega)]; exact k1.1, by rw [y 8 (by omega)]; exact k1.2⟩, PdX_keep k2 (sm _ _ (by omega) (by omega)), LR_sm k3 (sm _ _ (by omega) (by omega)), ?_, ?_, ?_, ?_, XI_keep k8 (sm _ _ (by omega) (by omega)), XI_keep k9 (sm _ _ (by omega) (by omega))⟩
  · by_cases c : z = 9
    · subst c; exact Or.inr ⟨yz, h9 rfl⟩
    · have := h9' c
      exact fl_keep k4 (y 9 (by omega)) (fun q => NdR_keep q (sm _ _ (by omega) (by omega)))
  · by_cases c : z = 10
    · subst c; exact Or.inr ⟨yz, h10 rfl⟩
    · have := h10' c
      exact fl_keep k5 (y 10 (by omega)) (fun q => AlR_keep q (sm _ _ (by omega) (by omega)))
  · by_cases c : z = 11
    · subst c; exact Or.inr ⟨yz, h11 rfl⟩
    · have := h11' c
      exact fl_keep k6 (y 11 (by omega)) (fun q => UX_keep q (sm _ _ (by omega) (by omega)))
  · by_cases c : z = 12
    · subst c; exact Or.inr ⟨yz, h12 rfl⟩
    · have := h12' c
      exact fl_keep k7 (y 12 (by omega)) (fun q r s w => UX_keep (q r s w) (sm _ _ (by omega) (by omega)))
set_option maxRecDepth 20000 in
theorem sp_X7_findNeeds (hD : 8 ≤ D) (h : InvX I L t) (hv : VT t) : Me g D MX7_findNeeds [rf g 0] b I L (fun r b' I' L' => r = none ∧ b' = b ∧ InvX I' L' t ∧ NdR I' L' 8 (tP t) (tN t) ∧ Sm 71 103 I L I' L') := by
  have h3 : IsL 3 := Or.inl rfl
  have h8 : IsN 8 := Or.inl rfl
  refine Me.of [some (rf g 0)] 0 rfl pf_X7_findNeeds (Nat.le_of_ble_eq_true rfl) ?_
  rcases h.2.2.2.1 with q | ⟨q, nd⟩
  · skip
    refine wq_bload_n 1 0 dX7_findNeeds_0 rfl rfl rfl ?_
    refine wq_getI 4 fl_X7_60 dX7_findNeeds_1 rfl rfl o_0 ?_
    refine wq_if_ne 7 23 dX7_findNeeds_4 rfl (by decide) (fun c4 => absurd c4 (by rw [q]; exact fun z => z rfl)) (fun c4 => ?_)
    refine wq_bload_n 8 0 dX7_findNeeds_7 rfl rfl rfl ?_
    refine wq_getR 11 fl_X7_26 dX7_findNeeds_8 rfl rfl o_0 (rfl : (Tb _).2.2.2 0 2 = some 8) ?_
    refine wq_bload_n 12 0 dX7_findNeeds_11 rfl rfl rfl ?_
    refine wq_getR 15 fl_X7_19 dX7_findNeeds_12 rfl rfl o_0 (rfl : (Tb _).2.2.2 0 1 = some 3) ?_
    refine cVp1 18 (sp_X3_find (by omega) h8 h3 h.2.2.1 hv.1.2.2.2.2) ml_X7_197 mf_X3_find dX7_findNeeds_15 rfl o_8 (by decide) rfl (Nat.le_of_ble_eq_true rfl) (by omega) ?_
    rintro _ b I1 L1 ⟨rfl, rfl, nd, off⟩
    refine wq_bload_n 19 0 dX7_findNeeds_18 rfl rfl rfl ?_
    refine wq_iconst 20 1 dX7_findNeeds_19 rfl (by decide) ?_
    refine wq_putI 23 fl_X7_60 dX7_findNeeds_20 rfl rfl rfl rfl rfl o_0 ?_
    refine rr dX7_findNeeds_23 rfl ?_
    have nx : ∀ z, z ≠ 0 → va_up I1 0 (va_up (I1 0) 9 1) z = I1 z := fun z hz => va_up_ne _ _ hz
    have nd' : NdR (va_up I1 0 (va_up (I1 0) 9 1)) L1 8 (tP t) (tN t) := NdR_keep nd (fun x x1 _ => ⟨nx x (by omega), rfl⟩)
    have off' : ∀ x, ¬ (9 ≤ x ∧ x < 14) → I1 x = I x ∧ L1 x = L x := fun x hx => off x (by simp; omega)
    refine ⟨rfl, rfl, InvX_set h 9 8 14 (Or.inl rfl) (by rw [va_up_self, (off' 0 (by omega)).1]) (fun x x0 hx => by rw [nx x x0]; exact off' x (by omega)) (by omega) (by omega) (fun _ => nd') (fun z => absurd rfl z) (fun z => by omega) (fun _ => Or.inl (by omega)) (fun z => by omega) (fun _ => Or.inl (by omega)) (fun z => by omega) (fun _ => by omega), nd', fun x x1 _ => by rw [nx x (by omega)]; exact off' x (by omega)⟩
  · skip
    refine wq_bload_n 1 0 dX7_findNeeds_0 rfl rfl rfl ?_
    refine wq_getI 4 fl_X7_60 dX7_findNeeds_1 rfl rfl o_0 ?_
    refine wq_if_ne 7 23 dX7_findNeeds_4 rfl (by decide) (fun c4 => ?_) (fun c4 => absurd c4 (by rw [q]; decide))
    refine rr dX7_findNeeds_23 rfl ?_
    exact ⟨rfl, rfl, h, nd, fun _ _ _ => ⟨rfl, rfl⟩⟩
set_option maxRecDepth 20000 in
theorem sp_X7_findAllotment (hD : 10 ≤ D) (h : InvX I L t) (hv : VT t) : Me g D MX7_findAllotment [rf g 0] b I L (fun r _ I' L' => r = none ∧ InvX I' L' t ∧ AlR I' L' (tK t) (tW t) (tP t) (tN t) ∧ Sm 71 103 I L I' L') := by
  obtain ⟨v1, v2, v3, v4, v5⟩ := hv.1
  refine Me.of [some (rf g 0)] 0 rfl pf_X7_findAllotment (Nat.le_of_ble_eq_true rfl) ?_
  rcases h.2.2.2.2.1 with q | ⟨q, al⟩
  · skip
    refine wq_bload_n 1 0 dX7_findAllotment_0 rfl rfl rfl ?_
    refine wq_getI 4 fl_X7_64 dX7_findAllotment_1 rfl rfl o_0 ?_
    refine wq_if_ne 7 31 dX7_findAllotment_4 rfl (by decide) (fun c4 => absurd c4 (by rw [q]; exact fun z => z rfl)) (fun c4 => ?_)
    refine wq_bload_n 8 0 dX7_findAllotment_7 rfl rfl rfl ?_
    refine wq_getR 11 fl_X7_33 dX7_findAllotment_8 rfl rfl o_0 (rfl : (Tb _).2.2.2 0 3 = some 14) ?_
    refine wq_bload_n 12 0 dX7_findAllotment_11 rfl rfl rfl ?_
    refine wq_getR 15 fl_X7_19 dX7_findAllotment_12 rfl rfl o_0 (rfl : (Tb _).2.2.2 0 1 = some 3) ?_
    refine wq_bload_n 16 0 dX7_findAllotment_15 rfl rfl rfl ?_
    refine wq_getI 19 fl_X7_53 dX7_findAllotment_16 rfl rfl o_0 ?_
    refine wq_bload_n 20 0 dX7_findAllotment_19 rfl rfl rfl ?_
    refine wq_getI 23 fl_X7_57 dX7_findAllotment_20 rfl rfl o_0 ?_
    refine cVp3 26 (sp_X0_allot (by omega) v2 v3 h.2.2.1 v5 h.1.1 h.1.2) ml_X7_200 mf_X0_allot dX7_findAllotment_23 rfl o_14 (by decide) rfl (Nat.le_of_ble_eq_true rfl) (by omega) ?_
    rintro _ b I1 L1 ⟨rfl, al, fa⟩
    refine wq_bload_n 27 0 dX7_findAllotment_26 rfl rfl rfl ?_
    refine wq_iconst 28 1 dX7_findAllotment_27 rfl (by decide) ?_
    refine wq_putI 31 fl_X7_64 dX7_findAllotment_28 rfl rfl rfl rfl rfl o_0 ?_
    refine rr dX7_findAllotment_31 rfl ?_
    have nx : ∀ z, z ≠ 0 → va_up I1 0 (va_up (I1 0) 10 1) z = I1 z := fun z hz => va_up_ne _ _ hz
    have al' : AlR (va_up I1 0 (va_up (I1 0) 10 1)) L1 (tK t) (tW t) (tP t) (tN t) := AlR_keep al (fun x x1 _ => ⟨nx x (by omega), rfl⟩)
    refine ⟨rfl, InvX_set h 10 14 50 (Or.inr (Or.inl rfl)) (by rw [va_up_self, (fa 0 (by omega)).1]) (fun x x0 hx => by rw [nx x x0]; exact fa x (by omega)) (by omega) (by omega) (fun z => by omega) (fun _ => by omega) (fun _ => al') (fun z => absurd rfl z) (fun z => by omega) (fun _ => Or.inl (by omega)) (fun z => by omega) (fun _ => by omega), al', fun x x1 _ => by rw [nx x (by omega)]; exact fa x (by omega)⟩
  · skip
    refine wq_bload_n 1 0 dX7_findAllotment_0 rfl rfl rfl ?_
    refine wq_getI 4 fl_X7_64 dX7_findAllotment_1 rfl rfl o_0 ?_
    refine wq_if_ne 7 31 dX7_findAllotment_4 rfl (by decide) (fun c4 => ?_) (fun c4 => absurd c4 (by rw [q]; decide))
    refine rr dX7_findAllotment_31 rfl ?_
    exact ⟨rfl, h, al, fun _ _ _ => ⟨rfl, rfl⟩⟩
set_option maxRecDepth 20000 in
theorem sp_X7_runProgram (hD : 5 ≤ D) (h : InvX I L t) (hv : VT t) : Me g D MX7_runProgram [rf g 0] b I L (fun r b' I' L' => r = none ∧ b' = b ∧ InvX I' L' t ∧ UX I' 50 (tP t) (tN t) 500 ∧ Sm 71 103 I L I' L') := by
  have h3 : IsL 3 := Or.inl rfl
  have h50 : IsU 50 := Or.inl rfl
  refine Me.of [some (rf g 0)] 0 rfl pf_X7_runProgram (Nat.le_of_ble_eq_true rfl) ?_
  rcases h.2.2.2.2.2.1 with q | ⟨q, ux⟩
  · skip
    refine wq_bload_n 1 0 dX7_runProgram_0 rfl rfl rfl ?_
    refine wq_getI 4 fl_X7_67 dX7_runProgram_1 rfl rfl o_0 ?_
    refine wq_if_ne 7 26 dX7_runProgram_4 rfl (by decide) (fun c4 => absurd c4 (by rw [q]; exact fun z => z rfl)) (fun c4 => ?_)
    refine wq_bload_n 8 0 dX7_runProgram_7 rfl rfl rfl ?_
    refine wq_getR 11 fl_X7_40 dX7_runProgram_8 rfl rfl o_0 (rfl : (Tb _).2.2.2 0 4 = some 50) ?_
    refine wq_bload_n 12 0 dX7_runProgram_11 rfl rfl rfl ?_
    refine wq_getR 15 fl_X7_19 dX7_runProgram_12 rfl rfl o_0 (rfl : (Tb _).2.2.2 0 1 = some 3) ?_
    refine wq_sipush 18 500 dX7_runProgram_15 rfl (by decide) ?_
    refine cVp2 21 (sp_X6_follow (by omega) h50 h3 h.2.2.1 hv.1.2.2.2.2 500 rfl (by omega)) ml_X7_181 mf_X6_follow dX7_runProgram_18 rfl o_50 (by decide) rfl (Nat.le_of_ble_eq_true rfl) (by omega) ?_
    rintro _ b I1 L ⟨rfl, rfl, rfl, ux, fv⟩
    refine wq_bload_n 22 0 dX7_runProgram_21 rfl rfl rfl ?_
    refine wq_iconst 23 1 dX7_runProgram_22 rfl (by decide) ?_
    refine wq_putI 26 fl_X7_67 dX7_runProgram_23 rfl rfl rfl rfl rfl o_0 ?_
    refine rr dX7_runProgram_26 rfl ?_
    have nx : ∀ z, z ≠ 0 → va_up I1 0 (va_up (I1 0) 11 1) z = I1 z := fun z hz => va_up_ne _ _ hz
    have fv' : ∀ x, ¬ (50 ≤ x ∧ x < 54) → I1 x = I x := fun x hx => fv x (by omega) (by omega) (by omega) (by omega)
    have ux' : UX (va_up I1 0 (va_up (I1 0) 11 1)) 50 (tP t) (tN t) 500 := UX_keep (L := L) (L' := L) ux (fun x x1 _ => ⟨nx x (by omega), rfl⟩)
    refine ⟨rfl, rfl, InvX_set h 11 50 54 (Or.inr (Or.inr (Or.inl rfl))) (by rw [va_up_self, fv' 0 (by omega)]) (fun x x0 hx => by rw [nx x x0, fv' x hx]; exact ⟨rfl, rfl⟩) (by omega) (by omega) (fun z => by omega) (fun _ => by omega) (fun z => by omega) (fun _ => Or.inr (by omega)) (fun _ => ux') (fun z => absurd rfl z) (fun z => by omega) (fun _ => by omega), ux', fun x x1 _ => by rw [nx x (by omega), fv' x (by omega)]; exact ⟨rfl, rfl⟩⟩
  · skip
    refine wq_bload_n 1 0 dX7_runProgram_0 rfl rfl rfl ?_
    refine wq_getI 4 fl_X7_67 dX7_runProgram_1 rfl rfl o_0 ?_
    refine wq_if_ne 7 26 dX7_runProgram_4 rfl (by decide) (fun c4 => ?_) (fun c4 => absurd c4 (by rw [q]; decide))
    refine rr dX7_runProgram_26 rfl ?_
    exact ⟨rfl, rfl, h, ux, fun _ _ _ => ⟨rfl, rfl⟩⟩
set_option maxRecDepth 20000 in
theorem cx_live (hD : 9 ≤ D) (h : InvX I L t) (hv : VT t) (i : Int32) : CX g D MX7_live [rf g 0, .int i] b I L (anLive t i) t := by
  have hL := h.2.2.1
  have hn := hL.1
  have h8 : IsN 8 := Or.inl rfl
  refine Me.of [some (rf g 0), some (.int i)] 0 rfl pf_X7_live (Nat.le_of_ble_eq_true rfl) ?_
  refine wq_iload_n 1 1 dX7_live_0 rfl rfl rfl ?_
  refine wq_if_lt 4 15 dX7_live_1 rfl (by decide) (fun c1 => ?_) (fun c1 => ?_)
  · skip
    refine wq_iconst 16 (-1) dX7_live_15 rfl (by decide) ?_
    refine ri .int dX7_live_16 rfl rfl ?_
    exact ⟨by rw [anLive, if_pos (Or.inl c1)], h, fun _ _ _ => ⟨rfl, rfl⟩⟩
  · skip
    refine wq_iload_n 5 1 dX7_live_4 rfl rfl rfl ?_
    refine wq_bload_n 6 0 dX7_live_5 rfl rfl rfl ?_
    refine wq_getR 9 fl_X7_19 dX7_live_6 rfl rfl o_0 (rfl : (Tb _).2.2.2 0 1 = some 3) ?_
    refine wq_getI 12 fl_X7_95 dX7_live_9 rfl rfl o_3 ?_
    refine wq_ic_lt 15 17 dX7_live_12 rfl (by decide) (fun c12 => ?_) (fun c12 => ?_)
    · skip
      rw [hL.2.1] at c12
      have ni : ¬ (i < 0 ∨ nI (tN t) ≤ i) := fun z => z.elim c1 (fun z => absurd c12 (Int32.not_lt.mpr z))
      obtain ⟨x, xn, ex⟩ := in_ix (by omega) c1 c12
      subst ex
      refine wq_bload_n 18 0 dX7_live_17 rfl rfl rfl ?_
      refine cVp0 21 (sp_X7_findNeeds (by omega) h hv) ml_X7_100 mf_X7_findNeeds dX7_live_18 rfl o_0 (by decide) rfl (Nat.le_of_ble_eq_true rfl) (by omega) ?_
      rintro _ b I1 L1 ⟨rfl, rfl, i1, nd, i2⟩
      refine wq_bload_n 22 0 dX7_live_21 rfl rfl rfl ?_
      refine wq_getR 25 fl_X7_26 dX7_live_22 rfl rfl o_0 (rfl : (Tb _).2.2.2 0 2 = some 8) ?_
      refine wq_getR 28 fl_X7_103 dX7_live_25 rfl rfl o_8 (rfl : (Tb _).2.2.2 8 1 = some 10) ?_
      refine wq_iload_n 29 1 dX7_live_28 rfl rfl rfl ?_
      refine wq_lald 30 dX7_live_29 rfl a_10 (Ix.nI (by omega) (by decide)) ?_
      rw [nd.1 x xn]
      refine wq_l2i 31 dX7_live_30 rfl ?_
      refine ri .int dX7_live_31 rfl rfl ?_
      exact ⟨by rw [anLive, if_neg ni, show cN (nI x) = x from nI_clamp (by omega)], i1, i2⟩
    · skip
      refine wq_iconst 16 (-1) dX7_live_15 rfl (by decide) ?_
      refine ri .int dX7_live_16 rfl rfl ?_
      rw [hL.2.1] at c12
      exact ⟨by rw [anLive, if_pos (Or.inr (Int32.not_lt.mp c12))], h, fun _ _ _ => ⟨rfl, rfl⟩⟩
set_option maxRecDepth 20000 in
theorem cx_edges (hD : 9 ≤ D) (h : InvX I L t) (hv : VT t) (i : Int32) : CX g D MX7_edges [rf g 0, .int i] b I L (anEdges t i) t := by
  have h8 : IsN 8 := Or.inl rfl
  refine Me.of [some (rf g 0), some (.int i)] 0 rfl pf_X7_edges (Nat.le_of_ble_eq_true rfl) ?_
  refine wq_iload_n 1 1 dX7_edges_0 rfl rfl rfl ?_
  refine wq_if_lt 4 10 dX7_edges_1 rfl (by decide) (fun c1 => ?_) (fun c1 => ?_)
  · skip
    refine wq_iconst 11 (-1) dX7_edges_10 rfl (by decide) ?_
    refine ri .int dX7_edges_11 rfl rfl ?_
    exact ⟨by rw [anEdges, if_pos (inM_lt c1)], h, fun _ _ _ => ⟨rfl, rfl⟩⟩
  · skip
    refine wq_iload_n 5 1 dX7_edges_4 rfl rfl rfl ?_
    refine wq_bipush 7 16 dX7_edges_5 rfl (by decide) ?_
    refine wq_ic_lt 10 12 dX7_edges_7 rfl (by decide) (fun c7 => ?_) (fun c7 => ?_)
    · skip
      obtain ⟨x, xn, ex⟩ := in_ix (n := 16) (by decide) c1 c7
      subst ex
      have ni : ¬ inM (nI x) 0 15 = 0 := by rw [inM_in c1 (show ¬ (15 : Int32) < nI x from nI_nlt (a := 15) (b := x) (by omega) (by decide))]; decide
      refine wq_bload_n 13 0 dX7_edges_12 rfl rfl rfl ?_
      refine cVp0 16 (sp_X7_findNeeds (by omega) h hv) ml_X7_100 mf_X7_findNeeds dX7_edges_13 rfl o_0 (by decide) rfl (Nat.le_of_ble_eq_true rfl) (by omega) ?_
      rintro _ b I1 L1 ⟨rfl, rfl, i1, nd, i2⟩
      refine wq_bload_n 17 0 dX7_edges_16 rfl rfl rfl ?_
      refine wq_getR 20 fl_X7_26 dX7_edges_17 rfl rfl o_0 (rfl : (Tb _).2.2.2 0 2 = some 8) ?_
      refine wq_getR 23 fl_X7_107 dX7_edges_20 rfl rfl o_8 (rfl : (Tb _).2.2.2 8 3 = some 12) ?_
      refine wq_iload_n 24 1 dX7_edges_23 rfl rfl rfl ?_
      refine wq_lald 25 dX7_edges_24 rfl a_12 (Ix.nI (by omega) (by decide)) ?_
      rw [EdR_set nd.2.1 (by omega)]
      refine wq_l2i 26 dX7_edges_25 rfl ?_
      refine ri .int dX7_edges_26 rfl rfl ?_
      exact ⟨by rw [anEdges, if_neg ni, show cN (nI x) = x from nI_clamp (by omega)]; rfl, i1, i2⟩
    · skip
      refine wq_iconst 11 (-1) dX7_edges_10 rfl (by decide) ?_
      refine ri .int dX7_edges_11 rfl rfl ?_
      exact ⟨by rw [anEdges, if_pos (inM_gt (Int32.lt_of_lt_of_le (by decide) (Int32.not_lt.mp c7)))], h, fun _ _ _ => ⟨rfl, rfl⟩⟩
set_option maxRecDepth 20000 in
theorem sp_X7_isTold (i : Int32) : Md g D MX7_isToldValue [.int i] b I L (some (.int (inM i 4 15))) b I L := by
  refine Me.of [some (.int i)] 0 rfl pf_X7_isToldValue (Nat.le_of_ble_eq_true rfl) ?_
  refine wq_iload_n 1 0 dX7_isToldValue_0 rfl rfl rfl ?_
  refine wq_iconst 2 4 dX7_isToldValue_1 rfl (by decide) ?_
  refine wq_ic_lt 5 15 dX7_isToldValue_2 rfl (by decide) (fun c2 => ?_) (fun c2 => ?_)
  · skip
    refine wq_iconst 16 0 dX7_isToldValue_15 rfl (by decide) ?_
    refine ri .boolean dX7_isToldValue_16 rfl rfl ?_
    exact ⟨by rw [inM_lt c2], rfl, rfl, rfl⟩
  · skip
    refine wq_iload_n 6 0 dX7_isToldValue_5 rfl rfl rfl ?_
    refine wq_bipush 8 16 dX7_isToldValue_6 rfl (by decide) ?_
    refine wq_ic_ge 11 15 dX7_isToldValue_8 rfl (by decide) (fun c8 => ?_) (fun c8 => ?_)
    · skip
      refine wq_iconst 16 0 dX7_isToldValue_15 rfl (by decide) ?_
      refine ri .boolean dX7_isToldValue_16 rfl rfl ?_
      exact ⟨by rw [inM_gt (Int32.lt_of_lt_of_le (by decide) c8)], rfl, rfl, rfl⟩
    · skip
      refine wq_iconst 12 1 dX7_isToldValue_11 rfl (by decide) ?_
      refine wq_goto 16 dX7_isToldValue_12 (by decide) ?_
      refine ri .boolean dX7_isToldValue_16 rfl rfl ?_
      have l0 : ¬ i < 0 := fun z => c2 (Int32.lt_trans z (by decide))
      obtain ⟨x, xn, ex⟩ := in_ix (n := 16) (by decide) l0 (Int32.not_le.mp c8)
      subst ex
      exact ⟨by rw [inM_in c2 (show ¬ (15 : Int32) < nI x from nI_nlt (a := 15) (b := x) (by omega) (by decide))], rfl, rfl, rfl⟩
theorem told_ex {i : Int32} (h : ¬ inM i 4 15 = 0) : ∃ x, 4 ≤ x ∧ x < 16 ∧ i = nI x := by
  have c1 : ¬ i < 4 := fun z => h (inM_lt z)
  have c2 : ¬ 15 < i := fun z => h (inM_gt z)
  obtain ⟨x, x1, rfl⟩ := in_ex (hi := 15) (by decide) (fun z => c1 (Int32.lt_trans z (by decide))) c2
  exact ⟨x, Decidable.byContradiction (fun z => c1 (nI_lt (b := 4) (by omega) (by decide))), by omega, rfl⟩
theorem Ct_low {C : Nat → Int32} {p : Pg} {n x : Nat} (h : CtR C p n n 1) (hx : x < 16) : C x = nI (Ct p n x) := by
  rw [Ct, if_neg (by omega), (h x (by omega)).1 hx, show tmW p n x 1 = 0 by simp [tmW], Nat.zero_mul, Nat.add_zero]
set_option maxRecDepth 20000 in
theorem cx_weight (hD : 9 ≤ D) (h : InvX I L t) (hv : VT t) (i v : Int32) : CX g D MX7_weight [rf g 0, .int i, .int v] b I L (anWeight t i v) t := by
  have h8 : IsN 8 := Or.inl rfl
  have hn := h.2.2.1.1
  refine Me.of [some (rf g 0), some (.int i), some (.int v)] 0 rfl pf_X7_weight (Nat.le_of_ble_eq_true rfl) ?_
  refine wq_iload_n 1 1 dX7_weight_0 rfl rfl rfl ?_
  refine cSi1 4 (sp_X7_isTold _) ml_X7_110 mf_X7_isToldValue dX7_weight_1 rfl (Nat.le_of_ble_eq_true rfl) (by omega) ?_
  refine wq_if_ne 7 9 dX7_weight_4 rfl (by decide) (fun c4 => ?_) (fun c4 => ?_)
  · skip
    refine wq_iload_n 10 2 dX7_weight_9 rfl rfl rfl ?_
    refine wq_if_lt 13 18 dX7_weight_10 rfl (by decide) (fun c10 => ?_) (fun c10 => ?_)
    · skip
      refine wq_bipush 20 (-2) dX7_weight_18 rfl (by decide) ?_
      refine ri .int dX7_weight_20 rfl rfl ?_
      exact ⟨by rw [anWeight, if_neg c4, if_pos (inM_lt c10)], h, fun _ _ _ => ⟨rfl, rfl⟩⟩
    · skip
      refine wq_iload_n 14 2 dX7_weight_13 rfl rfl rfl ?_
      refine wq_iconst 15 1 dX7_weight_14 rfl (by decide) ?_
      refine wq_ic_le 18 21 dX7_weight_15 rfl (by decide) (fun c15 => ?_) (fun c15 => ?_)
      · skip
        obtain ⟨x, x4, x16, ex⟩ := told_ex c4
        subst ex
        have nv : ¬ inM v 0 1 = 0 := by rw [inM_in c10 (Int32.not_lt.mpr c15)]; decide
        have hct := Ct_le (tP t) (tN t) x hn
        refine wq_bload_n 22 0 dX7_weight_21 rfl rfl rfl ?_
        refine cVp0 25 (sp_X7_findNeeds (by omega) h hv) ml_X7_100 mf_X7_findNeeds dX7_weight_22 rfl o_0 (by decide) rfl (Nat.le_of_ble_eq_true rfl) (by omega) ?_
        rintro _ b I1 L1 ⟨rfl, rfl, i1, nd, i2⟩
        refine wq_iload_n 26 2 dX7_weight_25 rfl rfl rfl ?_
        refine wq_if_ne 29 39 dX7_weight_26 rfl (by decide) (fun c26 => ?_) (fun c26 => ?_)
        · skip
          refine wq_bload_n 40 0 dX7_weight_39 rfl rfl rfl ?_
          refine wq_getI 43 fl_X7_57 dX7_weight_40 rfl rfl o_0 ?_
          refine wq_bload_n 44 0 dX7_weight_43 rfl rfl rfl ?_
          refine wq_getR 47 fl_X7_26 dX7_weight_44 rfl rfl o_0 (rfl : (Tb _).2.2.2 0 2 = some 8) ?_
          refine wq_getR 50 fl_X7_113 dX7_weight_47 rfl rfl o_8 (rfl : (Tb _).2.2.2 8 4 = some 13) ?_
          refine wq_iload_n 51 1 dX7_weight_50 rfl rfl rfl ?_
          refine wq_iald 52 dX7_weight_51 rfl a_13 (Ix.nI (by omega) (by decide)) ?_
          refine wq_bload_n 53 0 dX7_weight_52 rfl rfl rfl ?_
          refine wq_getR 56 fl_X7_26 dX7_weight_53 rfl rfl o_0 (rfl : (Tb _).2.2.2 0 2 = some 8) ?_
          refine wq_getR 59 fl_X7_107 dX7_weight_56 rfl rfl o_8 (rfl : (Tb _).2.2.2 8 3 = some 12) ?_
          refine wq_iload_n 60 1 dX7_weight_59 rfl rfl rfl ?_
          refine wq_lald 61 dX7_weight_60 rfl a_12 (Ix.nI (by omega) (by decide)) ?_
          refine cSi1 64 (sp_J13_bitCount _) ml_X7_117 mf_J13_bitCount_95d88 dX7_weight_61 rfl (Nat.le_of_ble_eq_true rfl) (by omega) ?_
          refine cSi3 67 (sp_X7_weightBits (by omega) hv.1.2.2.1 (by omega) (cnt_le (edI t x)) i1.1.2 (Ct_low nd.2.2 x16) (by rw [EdR_set nd.2.1 (by omega)]; rfl)) ml_X7_123 mf_X7_weightBits dX7_weight_64 rfl (Nat.le_of_ble_eq_true rfl) (by omega) ?_
          refine ri .int dX7_weight_67 rfl rfl ?_
          exact ⟨by rw [anWeight, if_neg c4, if_neg nv, if_neg c26, show cN (nI x) = x from nI_clamp (by omega)], i1, i2⟩
        · skip
          refine wq_bload_n 30 0 dX7_weight_29 rfl rfl rfl ?_
          refine wq_getR 33 fl_X7_26 dX7_weight_30 rfl rfl o_0 (rfl : (Tb _).2.2.2 0 2 = some 8) ?_
          refine wq_getR 36 fl_X7_113 dX7_weight_33 rfl rfl o_8 (rfl : (Tb _).2.2.2 8 4 = some 13) ?_
          refine wq_iload_n 37 1 dX7_weight_36 rfl rfl rfl ?_
          refine wq_iald 38 dX7_weight_37 rfl a_13 (Ix.nI (by omega) (by decide)) ?_
          rw [Ct_low nd.2.2 x16]
          refine ri .int dX7_weight_38 rfl rfl ?_
          exact ⟨by rw [anWeight, if_neg c4, if_neg nv, if_pos c26, show cN (nI x) = x from nI_clamp (by omega)], i1, i2⟩
      · skip
        refine wq_bipush 20 (-2) dX7_weight_18 rfl (by decide) ?_
        refine ri .int dX7_weight_20 rfl rfl ?_
        exact ⟨by rw [anWeight, if_neg c4, if_pos (inM_gt (Int32.not_le.mp c15))], h, fun _ _ _ => ⟨rfl, rfl⟩⟩
  · skip
    refine wq_iconst 8 (-1) dX7_weight_7 rfl (by decide) ?_
    refine ri .int dX7_weight_8 rfl rfl ?_
    exact ⟨by rw [anWeight, if_pos c4], h, fun _ _ _ => ⟨rfl, rfl⟩⟩
end Calls2
