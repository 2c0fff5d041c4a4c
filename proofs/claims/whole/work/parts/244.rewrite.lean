/-! Allotment: rewrite -/
def FW (b : Bool) (I : IM) (L : LM) (I' : IM) (L' : LM) : Prop := (∀ x, x ≠ 14 → x ≠ 39 → x ∉ fL (nxA b) → I' x = I x) ∧ (∀ z, z ≠ 12 → I' 14 z = I 14 z) ∧ ∀ x, x ∉ fL (nxA b) → L' x = L x
theorem FW.refl (b : Bool) (I : IM) (L : LM) : FW b I L I L := ⟨fun _ _ _ _ => rfl, fun _ _ => rfl, fun _ _ => rfl⟩
theorem FW.trans {b : Bool} {I I' I'' : IM} {L L' L'' : LM} (h : FW b I L I' L') (h' : FW b I' L' I'' L'') : FW b I L I'' L'' := ⟨fun x x1 x2 x3 => (h'.1 x x1 x2 x3).trans (h.1 x x1 x2 x3), fun z hz => (h'.2.1 z hz).trans (h.2.1 z hz), fun x hx => (h'.2.2 x hx).trans (h.2.2 x hx)⟩
theorem nx_ne (b : Bool) {j : Nat} (hj : j < 5) : nxA b + j ≠ 14 ∧ nxA b + j ≠ 39 ∧ nxA b + j ≠ 37 ∧ nwA b + j ≠ 14 ∧ nwA b + j ≠ 39 ∧ nwA b + j ≠ 37 ∧ nwA b + j ∉ fL (nxA b) := by
  cases b <;> simp [nxA, nwA] <;> omega
theorem n14 (b : Bool) : 14 ∉ fL (nxA b) ∧ 39 ∉ fL (nxA b) ∧ 37 ∉ fL (nxA b) := by cases b <;> simp [nxA]
theorem FW_off {b : Bool} {I : IM} {L : LM} {I' : IM} {L' : LM} (h : Off (fL (nxA b)) I L I' L') : FW b I L I' L' := ⟨fun x _ _ hx => (h x hx).1, fun z _ => by rw [(h 14 (n14 b).1).1], fun x hx => (h x hx).2⟩
theorem FW_39 {b : Bool} {I : IM} {L : LM} {I' : IM} (h : ∀ x, x ≠ 39 → I' x = I x) : FW b I L I' L := ⟨fun x _ h2 _ => h x h2, fun z _ => by rw [h 14 (by decide)], fun _ _ => rfl⟩
theorem FW_14 {b : Bool} {I : IM} {L : LM} (v : Int32) : FW b I L (va_up I 14 (va_up (I 14) 12 v)) L := ⟨fun x x1 _ _ => va_up_ne _ _ x1, fun z hz => by rw [va_up_self, va_up_ne _ _ hz], fun _ _ => rfl⟩
theorem FW_nw {b : Bool} {I : IM} {L : LM} {I' : IM} {L' : LM} {n : Nat} {p : Pg} (h : FW b I L I' L') (hl : LR I L (nwA b) n p) : LR I' L' (nwA b) n p := LR_keep hl (fun j hj => h.1 _ (nx_ne b hj).2.2.2.1 (nx_ne b hj).2.2.2.2.1 (nx_ne b hj).2.2.2.2.2.2) (fun j hj => h.2.2 _ (nx_ne b hj).2.2.2.2.2.2)
theorem LR_nx {b : Bool} {I I' : IM} {L : LM} {n : Nat} {p : Pg} (h : LRc I L (nxA b) n p) (e : ∀ x, x ≠ 14 → x ≠ 39 → I' x = I x) : LRc I' L (nxA b) n p := LRc_keep h (fun j hj => e _ (nx_ne b hj).1 (nx_ne b hj).2.1) (fun _ _ => rfl)
/-- the parts as far as w are done -/
def RwR (b : Bool) (I : IM) (L : LM) (sf : Nat → Int32) (p : Pg) (i : Nat) (s : WS) (w : Nat) (I1 : IM) (L1 : LM) : Prop :=
  LRc I1 L1 (nxA b) (rdN sf p i s (w - 1)).2.1 (rdN sf p i s (w - 1)).1 ∧ I1 14 12 = nI (16 + (rdN sf p i s (w - 1)).2.2) ∧ (∀ v, 1 ≤ v → v < w → I1 39 v = rdV sf p i v (rdN sf p i s (v - 1))) ∧ FW b I L I1 L1 ∧ okS (rdN sf p i s (w - 1))
theorem le_rd3 (sf : Nat → Int32) (p : Pg) (i : Nat) (s : WS) {w : Nat} (hw : w ≤ 3) : leS (rdN sf p i s w) (rowS sf p i s) := by
  have h : w = 0 ∨ w = 1 ∨ w = 2 ∨ w = 3 := by omega
  have a1 : leS (rdN sf p i s 0) (rdN sf p i s 1) := le_rd sf p i 1 _
  have a2 : leS (rdN sf p i s 1) (rdN sf p i s 2) := le_rd sf p i 2 _
  have a3 : leS (rdN sf p i s 2) (rdN sf p i s 3) := le_rd sf p i 3 _
  have a4 := le_row sf p i s
  rcases h with rfl | rfl | rfl | rfl
  · exact a1.trans (a2.trans (a3.trans a4))
  · exact a2.trans (a3.trans a4)
  · exact a3.trans a4
  · exact a4
set_option maxRecDepth 20000 in
set_option maxHeartbeats 4000000 in
theorem lp_X0_rw {g : Gl} {D : Nat} {b : Bool} {I : IM} {L : LM} {n B i : Nat} {p : Pg} {sf : Nat → Int32} {s : WS} (hD : 7 ≤ D) (h : LR I L (nwA b) n p) (hw : WfB B p n) (hi : i < n) (hsl : ∀ x, x < 64 → tb (Nms p n) x = true → I 37 x = sf x) {post : Option Value → Bool → IM → LM → Prop} (hF : ∀ I' L', ¬ okS (rowS sf p i s) → FW b I L I' L' → post (some (.int 0)) b I' L') (kk : ∀ I1 L1 l4, RwR b I L sf p i s 4 I1 L1 → Wp (Kn g D MX0_rewrite post) (Tb b) 111 [some (rf g 14), some (.int (nI i)), some (.int (p i 0)), some (.int (nI 4)), l4] [] I1 L1) : ∀ r w I1 L1 l4, w + r = 4 → 1 ≤ w → RwR b I L sf p i s w I1 L1 → Wp (Kn g D MX0_rewrite post) (Tb b) 12 [some (rf g 14), some (.int (nI i)), some (.int (p i 0)), some (.int (nI w)), l4] [] I1 L1 := by
  intro r
  induction r with
  | zero =>
    intro w I1 L1 l4 hr h1 hR
    have ew : w = 4 := by omega
    subst ew
    refine wq_iload_n 13 3 dX0_rewrite_12 rfl rfl rfl ?_
    refine wq_iconst 14 3 dX0_rewrite_13 rfl (by decide) ?_
    refine wq_ic_gt 17 111 dX0_rewrite_14 rfl (by decide) (fun c14 => ?_) (fun c14 => absurd (by decide) c14)
    exact kk I1 L1 _ hR
  | succ r ih =>
    intro w I1 L1 l4 hr h1 hR
    obtain ⟨R1, R2, R3, R4, R5⟩ := hR
    have w3 : w ≤ 3 := by omega
    have hn := h.1
    have hl1 := FW_nw R4 h
    have n14' := n14 b
    have e37 : I1 37 = I 37 := R4.1 37 (by decide) (by decide) n14'.2.2
    have pE : ∀ v, v < 4 → I1 (nwA b + 1) (4 * i + v) = p i v := fun v hv => hl1.2.2.2.2.2.1 i hi v hv
    have nE := nm_eq hl1 hi (show w < 4 by omega)
    have hrw : RWf B (p i) := hw i hi
    have slE : shp (p i 0) (nI w) = 114 → sln (I 37) (nmP p i w) = slV sf (p i w) := fun z => by
      obtain ⟨x, x1, -, x2⟩ := RWf_name hrw h1 (show w < 4 by omega) (Or.inl z)
      have nm := nmP_of x1 (Or.inl z) x2
      rw [nm, x2, sln_n _ x1, slV_n sf x1]
      exact hsl x x1 (nm_Nms hi h1 (by omega) x1 nm)
    have eN : rdN sf p i s w = rdS sf p i w (rdN sf p i s (w - 1)) := by
      obtain ⟨u, rfl⟩ : ∃ u, w = u + 1 := ⟨w - 1, by omega⟩
      rfl
    have ww : w + 1 - 1 = w := by omega
    have rows : ∀ I2 : IM, (∀ v, 1 ≤ v → v < w → I2 39 v = I1 39 v) → I2 39 w = rdV sf p i w (rdN sf p i s (w - 1)) → ∀ v, 1 ≤ v → v < w + 1 → I2 39 v = rdV sf p i v (rdN sf p i s (v - 1)) := fun I2 q1 q2 v v1 v2 => by
      by_cases e : v = w
      · rw [e]; exact q2
      · rw [q1 v v1 (by omega)]; exact R3 v v1 (by omega)
    have goon : rdC sf p i w = false → ∀ I2 l4, I2 39 = va_up (I1 39) w (p i w) → (∀ x, x ≠ 39 → I2 x = I1 x) → Wp (Kn g D MX0_rewrite post) (Tb b) 12 [some (rf g 14), some (.int (nI i)), some (.int (p i 0)), some (.int (nI w + 1)), l4] [] I2 L1 := by
      intro hc I2 l4 i39 ix
      have e : rdN sf p i s w = rdN sf p i s (w - 1) := by rw [eN, rdS, if_neg (by rw [hc]; decide)]
      rw [← nI_succ]
      refine ih (w + 1) I2 L1 _ (by omega) (by omega) ⟨?_, ?_, rows I2 (fun v _ v2 => by rw [i39, va_up_ne _ _ (by omega)]) (by rw [i39, va_up_self, rdV, if_neg (by rw [hc]; decide)]), R4.trans (FW_39 ix), ?_⟩
      · rw [ww, e]; exact LR_nx R1 (fun x _ x2 => ix x x2)
      · rw [ww, e, ix 14 (by decide)]; exact R2
      · rw [ww, e]; exact R5
    have J62 : rdC sf p i w = true → ∀ I2, I2 39 = va_up (I1 39) w (p i w) → (∀ x, x ≠ 39 → I2 x = I1 x) → Wp (Kn g D MX0_rewrite post) (Tb b) 62 [some (rf g 14), some (.int (nI i)), some (.int (p i 0)), some (.int (nI w)), some (.int (slV sf (p i w)))] [] I2 L1 := by
      intro hc I2 i39 ix
      have e : rdN sf p i s w = putS (newS (rdN sf p i s (w - 1))) 7 (frS (rdN sf p i s (w - 1))) (slV sf (p i w)) (-6) := by rw [eN, rdS, if_pos hc]
      have mo := le_rd3 sf p i s w3
      have j12 : I2 14 12 = nI (16 + (rdN sf p i s (w - 1)).2.2) := by rw [ix 14 (by decide)]; exact R2
      have bad : ¬ okS (rdN sf p i s w) → ¬ okS (rowS sf p i s) := fun z z2 => z (okS_le mo z2)
      have fw2 : FW b I L I2 L1 := R4.trans (FW_39 ix)
      by_cases c48 : (rdN sf p i s (w - 1)).2.2 < 48
      · have i39' : ∀ I3 : IM, I3 = va_up (va_up I2 14 (va_up (I2 14) 12 (nI (16 + ((rdN sf p i s (w - 1)).2.2 + 1))))) 39 (va_up (va_up I2 14 (va_up (I2 14) 12 (nI (16 + ((rdN sf p i s (w - 1)).2.2 + 1)))) 39) w (nI (16 + (rdN sf p i s (w - 1)).2.2))) → I3 39 = va_up (I1 39) w (nI (16 + (rdN sf p i s (w - 1)).2.2)) ∧ I3 14 12 = nI (16 + ((rdN sf p i s (w - 1)).2.2 + 1)) ∧ FW b I L I3 L1 ∧ ∀ x, x ≠ 14 → x ≠ 39 → I3 x = I1 x := fun I3 e3 => by
          refine ⟨by rw [e3, va_up_self, va_up_ne _ _ (by decide), i39, va_up_up], by rw [e3, va_up_ne _ _ (by decide), va_up_self, va_up_self], fw2.trans ((FW_14 (nI (16 + ((rdN sf p i s (w - 1)).2.2 + 1)))).trans (FW_39 (fun x hx => by rw [e3, va_up_ne _ _ hx]))), fun x x1 x2 => by rw [e3, va_up_ne _ _ x2, va_up_ne _ _ x1]; exact ix x x2⟩
        by_cases c90 : (rdN sf p i s (w - 1)).2.1 < 90
        · skip
          refine wq_bload_n 63 0 dX0_rewrite_62 rfl rfl rfl ?_
          refine wq_getR 66 fl_X0_39 dX0_rewrite_63 rfl rfl o_14 (rfl : (Tb _).2.2.2 14 5 = some 39) ?_
          refine wq_iload_n 67 3 dX0_rewrite_66 rfl rfl rfl ?_
          refine wq_bload_n 68 0 dX0_rewrite_67 rfl rfl rfl ?_
          refine cVi0 71 (sp_X0_makeName j12 c48) ml_X0_155 mf_X0_makeName dX0_rewrite_68 rfl o_14 (by decide) rfl (Nat.le_of_ble_eq_true rfl) (by omega) ?_
          refine wq_iast 72 dX0_rewrite_71 rfl a_39 (Ix.nI (by omega) (by decide)) ?_
          refine wq_gen (fun I3 L3 eI3 eL3 => ?_)
          rw [eL3]
          clear eL3
          obtain ⟨k39, k12, kfw, kx⟩ := i39' I3 eI3
          clear eI3
          have hv : I3 39 w = nI (16 + (rdN sf p i s (w - 1)).2.2) := by rw [k39, va_up_self]
          have hLx : LRc I3 L1 (nxA b) (rdN sf p i s (w - 1)).2.1 (rdN sf p i s (w - 1)).1 := LR_nx R1 kx
          refine wq_bload_n 73 0 dX0_rewrite_72 rfl rfl rfl ?_
          refine wq_getR 76 fl_X0_39 dX0_rewrite_73 rfl rfl o_14 (rfl : (Tb _).2.2.2 14 5 = some 39) ?_
          refine wq_iload_n 77 3 dX0_rewrite_76 rfl rfl rfl ?_
          refine wq_iald 78 dX0_rewrite_77 rfl a_39 (Ix.nI (by omega) (by decide)) ?_
          rw [hv]
          refine wq_if_lt 81 103 dX0_rewrite_78 rfl (by decide) (fun c78 => absurd c78 (nI_pos (by omega))) (fun c78 => ?_)
          refine wq_bload_n 82 0 dX0_rewrite_81 rfl rfl rfl ?_
          refine wq_getR 85 fl_X0_45 dX0_rewrite_82 rfl rfl o_14 (rfl : (Tb b).2.2.2 14 7 = some (nxA b)) ?_
          refine wq_bipush 87 7 dX0_rewrite_85 rfl (by decide) ?_
          refine wq_bload_n 88 0 dX0_rewrite_87 rfl rfl rfl ?_
          refine wq_getR 91 fl_X0_39 dX0_rewrite_88 rfl rfl o_14 (rfl : (Tb _).2.2.2 14 5 = some 39) ?_
          refine wq_iload_n 92 3 dX0_rewrite_91 rfl rfl rfl ?_
          refine wq_iald 93 dX0_rewrite_92 rfl a_39 (Ix.nI (by omega) (by decide)) ?_
          rw [hv]
          refine wq_iload 95 dX0_rewrite_93 rfl rfl ?_
          refine wq_bipush 97 (-6) dX0_rewrite_95 rfl (by decide) ?_
          refine cVp4 100 (sp_X2_add (by omega) (nxA_l b) hLx c90 _ _ _ _) ml_X0_159 mf_X2_add dX0_rewrite_97 rfl (L_ob (nxA_l b)) (by decide) rfl (Nat.le_of_ble_eq_true rfl) (by omega) ?_
          rintro _ _ I4 L4 ⟨rfl, rfl, hLR, hoff⟩
          refine wq_if_ne 103 105 dX0_rewrite_100 rfl (by decide) (fun c100 => ?_) (fun c100 => absurd c100 (by decide))
          refine wq_iinc 108 (_ + 1) [_, _, _, _, _] dX0_rewrite_105 rfl rfl (inc1 _) rfl (Nat.le_of_ble_eq_true rfl) rfl ?_
          refine wq_goto 12 dX0_rewrite_108 (by decide) ?_
          rw [← nI_succ]
          have k39' : I4 39 = I3 39 := (hoff 39 n14'.2.1).1
          refine ih (w + 1) I4 L4 _ (by omega) (by omega) ⟨?_, ?_, rows I4 (fun v _ v2 => by rw [k39', k39, va_up_ne _ _ (by omega)]) (by rw [k39', hv, rdV, if_pos hc]; rfl), kfw.trans (FW_off hoff), ?_⟩
          · rw [ww, e]; exact hLR
          · rw [ww, e, (hoff 14 n14'.1).1, k12]; rfl
          · rw [ww, e]
            exact ⟨show (rdN sf p i s (w - 1)).2.1 + 1 ≤ 90 by omega, show (rdN sf p i s (w - 1)).2.2 + 1 ≤ 48 by omega⟩
        · have m90 : (rdN sf p i s (w - 1)).2.1 = 90 := by have := R5.1; omega
          refine wq_bload_n 63 0 dX0_rewrite_62 rfl rfl rfl ?_
          refine wq_getR 66 fl_X0_39 dX0_rewrite_63 rfl rfl o_14 (rfl : (Tb _).2.2.2 14 5 = some 39) ?_
          refine wq_iload_n 67 3 dX0_rewrite_66 rfl rfl rfl ?_
          refine wq_bload_n 68 0 dX0_rewrite_67 rfl rfl rfl ?_
          refine cVi0 71 (sp_X0_makeName j12 c48) ml_X0_155 mf_X0_makeName dX0_rewrite_68 rfl o_14 (by decide) rfl (Nat.le_of_ble_eq_true rfl) (by omega) ?_
          refine wq_iast 72 dX0_rewrite_71 rfl a_39 (Ix.nI (by omega) (by decide)) ?_
          refine wq_gen (fun I3 L3 eI3 eL3 => ?_)
          rw [eL3]
          clear eL3
          obtain ⟨k39, k12, kfw, kx⟩ := i39' I3 eI3
          clear eI3
          have hv : I3 39 w = nI (16 + (rdN sf p i s (w - 1)).2.2) := by rw [k39, va_up_self]
          have hLx : LRc I3 L1 (nxA b) (rdN sf p i s (w - 1)).2.1 (rdN sf p i s (w - 1)).1 := LR_nx R1 kx
          refine wq_bload_n 73 0 dX0_rewrite_72 rfl rfl rfl ?_
          refine wq_getR 76 fl_X0_39 dX0_rewrite_73 rfl rfl o_14 (rfl : (Tb _).2.2.2 14 5 = some 39) ?_
          refine wq_iload_n 77 3 dX0_rewrite_76 rfl rfl rfl ?_
          refine wq_iald 78 dX0_rewrite_77 rfl a_39 (Ix.nI (by omega) (by decide)) ?_
          rw [hv]
          refine wq_if_lt 81 103 dX0_rewrite_78 rfl (by decide) (fun c78 => absurd c78 (nI_pos (by omega))) (fun c78 => ?_)
          refine wq_bload_n 82 0 dX0_rewrite_81 rfl rfl rfl ?_
          refine wq_getR 85 fl_X0_45 dX0_rewrite_82 rfl rfl o_14 (rfl : (Tb b).2.2.2 14 7 = some (nxA b)) ?_
          refine wq_bipush 87 7 dX0_rewrite_85 rfl (by decide) ?_
          refine wq_bload_n 88 0 dX0_rewrite_87 rfl rfl rfl ?_
          refine wq_getR 91 fl_X0_39 dX0_rewrite_88 rfl rfl o_14 (rfl : (Tb _).2.2.2 14 5 = some 39) ?_
          refine wq_iload_n 92 3 dX0_rewrite_91 rfl rfl rfl ?_
          refine wq_iald 93 dX0_rewrite_92 rfl a_39 (Ix.nI (by omega) (by decide)) ?_
          refine wq_iload 95 dX0_rewrite_93 rfl rfl ?_
          refine wq_bipush 97 (-6) dX0_rewrite_95 rfl (by decide) ?_
          refine cVi4 100 (sp_X2_addF (nxA_l b) (by rw [hLx.2.1, m90]) _ _ _ _) ml_X0_159 mf_X2_add dX0_rewrite_97 rfl (L_ob (nxA_l b)) (by decide) rfl (Nat.le_of_ble_eq_true rfl) (by omega) ?_
          refine wq_if_ne 103 105 dX0_rewrite_100 rfl (by decide) (fun c100 => absurd c100 (by decide)) (fun c100 => ?_)
          refine wq_iconst 104 0 dX0_rewrite_103 rfl (by decide) ?_
          refine ri .boolean dX0_rewrite_104 rfl rfl ?_
          refine hF _ _ (bad (fun z => ?_)) kfw
          rw [e] at z
          have := z.1
          have : (rdN sf p i s (w - 1)).2.1 + 1 ≤ 90 := this
          omega
      · have m48 : (rdN sf p i s (w - 1)).2.2 = 48 := by have := R5.2; omega
        refine wq_bload_n 63 0 dX0_rewrite_62 rfl rfl rfl ?_
        refine wq_getR 66 fl_X0_39 dX0_rewrite_63 rfl rfl o_14 (rfl : (Tb _).2.2.2 14 5 = some 39) ?_
        refine wq_iload_n 67 3 dX0_rewrite_66 rfl rfl rfl ?_
        refine wq_bload_n 68 0 dX0_rewrite_67 rfl rfl rfl ?_
        refine cVi0 71 (sp_X0_makeNameF (by rw [j12, m48])) ml_X0_155 mf_X0_makeName dX0_rewrite_68 rfl o_14 (by decide) rfl (Nat.le_of_ble_eq_true rfl) (by omega) ?_
        refine wq_iast 72 dX0_rewrite_71 rfl a_39 (Ix.nI (by omega) (by decide)) ?_
        refine wq_bload_n 73 0 dX0_rewrite_72 rfl rfl rfl ?_
        refine wq_getR 76 fl_X0_39 dX0_rewrite_73 rfl rfl o_14 (rfl : (Tb _).2.2.2 14 5 = some 39) ?_
        refine wq_iload_n 77 3 dX0_rewrite_76 rfl rfl rfl ?_
        refine wq_iald 78 dX0_rewrite_77 rfl a_39 (Ix.nI (by omega) (by decide)) ?_
        rw [va_up_self, va_up_self]
        refine wq_if_lt 81 103 dX0_rewrite_78 rfl (by decide) (fun c78 => ?_) (fun c78 => absurd (by decide) c78)
        refine wq_iconst 104 0 dX0_rewrite_103 rfl (by decide) ?_
        refine ri .boolean dX0_rewrite_104 rfl rfl ?_
        refine hF _ _ (bad (fun z => ?_)) (fw2.trans (FW_39 (fun x hx => va_up_ne _ _ hx)))
        rw [e] at z
        have := z.2
        have : (rdN sf p i s (w - 1)).2.2 + 1 ≤ 48 := this
        omega
    refine wq_iload_n 13 3 dX0_rewrite_12 rfl rfl rfl ?_
    refine wq_iconst 14 3 dX0_rewrite_13 rfl (by decide) ?_
    refine wq_ic_gt 17 111 dX0_rewrite_14 rfl (by decide) (fun c14 => absurd c14 (nI_nlt (b := w) (a := 3) (by omega) (by decide))) (fun c14 => ?_)
    refine wq_bload_n 18 0 dX0_rewrite_17 rfl rfl rfl ?_
    refine wq_getR 21 fl_X0_39 dX0_rewrite_18 rfl rfl o_14 (rfl : (Tb _).2.2.2 14 5 = some 39) ?_
    refine wq_iload_n 22 3 dX0_rewrite_21 rfl rfl rfl ?_
    refine wq_bload_n 23 0 dX0_rewrite_22 rfl rfl rfl ?_
    refine wq_getR 26 fl_X0_42 dX0_rewrite_23 rfl rfl o_14 (rfl : (Tb b).2.2.2 14 6 = some (nwA b)) ?_
    refine wq_iload_n 27 1 dX0_rewrite_26 rfl rfl rfl ?_
    refine wq_iload_n 28 3 dX0_rewrite_27 rfl rfl rfl ?_
    refine cVi2 31 (sp_X2_partAt (nwA_l b) hl1.2.1 hn i w rfl rfl (by omega) (by omega)) ml_X0_141 mf_X2_partAt dX0_rewrite_28 rfl (L_ob (nwA_l b)) (by decide) rfl (Nat.le_of_ble_eq_true rfl) (by omega) ?_
    rw [pE w (by omega)]
    refine wq_iast 32 dX0_rewrite_31 rfl a_39 (Ix.nI (by omega) (by decide)) ?_
    refine wq_bload_n 33 0 dX0_rewrite_32 rfl rfl rfl ?_
    refine wq_bload_n 34 0 dX0_rewrite_33 rfl rfl rfl ?_
    refine wq_getR 37 fl_X0_42 dX0_rewrite_34 rfl rfl o_14 (rfl : (Tb b).2.2.2 14 6 = some (nwA b)) ?_
    refine wq_iload_n 38 1 dX0_rewrite_37 rfl rfl rfl ?_
    refine wq_iload_n 39 3 dX0_rewrite_38 rfl rfl rfl ?_
    refine cVi2 42 (sp_X2_nameAt (by omega) (nwA_l b) (by rw [va_up_ne _ _ (by have := (nx_ne b (show 0 < 5 by omega)).2.2.2.2.1; simpa using this)]; exact hl1.2.1) hn i w rfl rfl (by omega) (by omega)) ml_X0_145 mf_X2_nameAt dX0_rewrite_39 rfl (L_ob (nwA_l b)) (by decide) rfl (Nat.le_of_ble_eq_true rfl) (by omega) ?_
    rw [va_up_ne _ _ (nx_ne b (show 1 < 5 by omega)).2.2.2.2.1, nE]
    refine cVi1 45 (sp_X0_slotOfName _) ml_X0_148 mf_X0_slotOfName dX0_rewrite_42 rfl o_14 (by decide) rfl (Nat.le_of_ble_eq_true rfl) (by omega) ?_
    refine wq_istore 47 [_, _, _, _, _] dX0_rewrite_45 rfl rfl (Nat.le_of_ble_eq_true rfl) rfl ?_
    refine wq_iload_n 48 2 dX0_rewrite_47 rfl rfl rfl ?_
    refine wq_iload_n 49 3 dX0_rewrite_48 rfl rfl rfl ?_
    refine cSi2 52 (sp_X7_shapeOf (by omega) _ _) ml_X0_151 mf_X7_shapeOf dX0_rewrite_49 rfl (Nat.le_of_ble_eq_true rfl) (by omega) ?_
    refine wq_bipush 54 114 dX0_rewrite_52 rfl (by decide) ?_
    refine wq_ic_ne 57 105 dX0_rewrite_54 rfl (by decide) (fun c54 => ?_) (fun c54 => ?_)
    · skip
      refine wq_iinc 108 (_ + 1) [_, _, _, _, _] dX0_rewrite_105 rfl rfl (inc1 _) rfl (Nat.le_of_ble_eq_true rfl) rfl ?_
      refine wq_goto 12 dX0_rewrite_108 (by decide) ?_
      refine goon ?_ _ _ (va_up_self _ _ _) (fun x hx => va_up_ne _ _ hx)
      rw [rdC, decide_eq_false c54]; rfl
    · skip
      refine wq_iload 59 dX0_rewrite_57 rfl rfl ?_
      refine wq_if_lt 62 105 dX0_rewrite_59 rfl (by decide) (fun c59 => ?_) (fun c59 => ?_)
      · skip
        refine wq_iinc 108 (_ + 1) [_, _, _, _, _] dX0_rewrite_105 rfl rfl (inc1 _) rfl (Nat.le_of_ble_eq_true rfl) rfl ?_
        refine wq_goto 12 dX0_rewrite_108 (by decide) ?_
        refine goon ?_ _ _ (va_up_self _ _ _) (fun x hx => va_up_ne _ _ hx)
        rw [va_up_ne _ _ (by decide), e37, slE c54] at c59
        rw [rdC, decide_eq_true c59, decide_eq_true c54]; rfl
      · skip
        rw [va_up_ne _ _ (by decide), e37, slE c54] at c59
        rw [va_up_ne _ _ (show 37 ≠ 39 by decide), e37, slE c54]
        refine J62 ?_ _ (va_up_self _ _ _) (fun x hx => va_up_ne _ _ hx)
        rw [rdC, decide_eq_false c59, decide_eq_true c54]; rfl
