/-! Allotment: rewrite, whole -/
set_option maxRecDepth 20000 in
set_option maxHeartbeats 4000000 in
theorem sp_X0_rewrite {g : Gl} {D : Nat} {b : Bool} {I : IM} {L : LM} {n B : Nat} {p : Pg} {sf : Nat → Int32} {s : WS} (hD : 7 ≤ D) (h : LR I L (nwA b) n p) (hw : WfB B p n) (hsl : ∀ x, x < 64 → tb (Nms p n) x = true → I 37 x = sf x) (hx : LRc I L (nxA b) s.2.1 s.1) (h12 : I 14 12 = nI (16 + s.2.2)) (hok : okS s) {j : Int32} (i : Nat) (hj : j = nI i) (hi : i < n) : Me g D MX0_rewrite [rf g 14, .int j] b I L (fun r b' I' L' => b' = b ∧ FW b I L I' L' ∧ ((okS (rowS sf p i s) ∧ r = some (.int 1) ∧ LRc I' L' (nxA b) (rowS sf p i s).2.1 (rowS sf p i s).1 ∧ I' 14 12 = nI (16 + (rowS sf p i s).2.2)) ∨ (¬ okS (rowS sf p i s) ∧ r = some (.int 0)))) := by
  subst hj
  have hn := h.1
  have n14' := n14 b
  have hrw : RWf B (p i) := hw i hi
  have p0 : I (nwA b + 1) (4 * i + 0) = p i 0 := h.2.2.2.2.2.1 i hi 0 (by omega)
  refine Me.of [some (rf g 14), some (.int (nI i)), none, none, none] 3 rfl pf_X0_rewrite (Nat.le_of_ble_eq_true rfl) ?_
  refine wq_bload_n 1 0 dX0_rewrite_0 rfl rfl rfl ?_
  refine wq_getR 4 fl_X0_42 dX0_rewrite_1 rfl rfl o_14 (rfl : (Tb b).2.2.2 14 6 = some (nwA b)) ?_
  refine wq_iload_n 5 1 dX0_rewrite_4 rfl rfl rfl ?_
  refine wq_iconst 6 0 dX0_rewrite_5 rfl (by decide) ?_
  refine cVi2 9 (sp_X2_partAt (nwA_l b) h.2.1 hn i 0 rfl rfl (by omega) (by omega)) ml_X0_141 mf_X2_partAt dX0_rewrite_6 rfl (L_ob (nwA_l b)) (by decide) rfl (Nat.le_of_ble_eq_true rfl) (by omega) ?_
  rw [p0]
  refine wq_istore_n 10 2 [_, _, _, _, _] dX0_rewrite_9 rfl rfl rfl (Nat.le_of_ble_eq_true rfl) rfl ?_
  refine wq_iconst 11 1 dX0_rewrite_10 rfl (by decide) ?_
  refine wq_istore_n 12 3 [_, _, _, _, _] dX0_rewrite_11 rfl rfl rfl (Nat.le_of_ble_eq_true rfl) rfl ?_
  refine lp_X0_rw (sf := sf) (s := s) hD h hw hi hsl (fun I' L' z fw => ⟨rfl, fw, Or.inr ⟨z, rfl⟩⟩) (fun I1 L1 l4 hR => ?_) 3 1 I L _ (by omega) (by omega) ⟨hx, h12, fun v v1 v2 => by omega, FW.refl b I L, hok⟩
  obtain ⟨R1, R2, R3, R4, R5⟩ := hR
  have R1' : LRc I1 L1 (nxA b) (rdN sf p i s 3).2.1 (rdN sf p i s 3).1 := R1
  have R2' : I1 14 12 = nI (16 + (rdN sf p i s 3).2.2) := R2
  have v1 : I1 39 1 = rdV sf p i 1 s := R3 1 (by omega) (by omega)
  have v2 : I1 39 2 = rdV sf p i 2 (rdN sf p i s 1) := R3 2 (by omega) (by omega)
  have v3 : I1 39 3 = rdV sf p i 3 (rdN sf p i s 2) := R3 3 (by omega) (by omega)
  have R5' : okS (rdN sf p i s 3) := R5
  clear R1 R2 R3 R5
  have hl1 := FW_nw R4 h
  have e37 : I1 37 = I 37 := R4.1 37 (by decide) (by decide) n14'.2.2
  have nE := nm_eq hl1 hi (show 1 < 4 by omega)
  have slE : shp (p i 0) (nI 1) = 119 → sln (I1 37) (nmP p i 1) = slV sf (p i 1) := fun z => by
    obtain ⟨x, x1, -, x2⟩ := RWf_name hrw (by omega) (show 1 < 4 by omega) (Or.inr z)
    have nm := nmP_of x1 (Or.inr z) x2
    rw [nm, x2, sln_n _ x1, slV_n sf x1, e37]
    exact hsl x x1 (nm_Nms hi (by omega) (by omega) x1 nm)
  have s119 : shp (p i 0) 1 = shp (p i 0) (nI 1) := rfl
  generalize hs3 : rdN sf p i s 3 = s3 at *
  by_cases hst : stC sf p i = true
  · obtain ⟨c1, c2⟩ := stC_iff.mp hst
    have eR : rowS sf p i s = putS (putS (newS s3) (p i 0) (frS s3) (rdV sf p i 2 (rdN sf p i s 1)) (rdV sf p i 3 (rdN sf p i s 2))) 8 (frS s3) (slV sf (p i 1)) (-6) := by rw [rowS, if_pos hst, hs3]
    have eM : (rowS sf p i s).2.1 = s3.2.1 + 2 := by rw [eR]; rfl
    have eW : (rowS sf p i s).2.2 = s3.2.2 + 1 := by rw [eR]; rfl
    have c1' : shp (p i 0) 1 = 119 := c1
    by_cases c48 : s3.2.2 < 48
    · have key : ∀ I3 : IM, I3 = va_up (va_up I1 14 (va_up (I1 14) 12 (nI (16 + (s3.2.2 + 1))))) 39 (va_up (va_up I1 14 (va_up (I1 14) 12 (nI (16 + (s3.2.2 + 1)))) 39) 1 (nI (16 + s3.2.2))) → I3 39 = va_up (I1 39) 1 (nI (16 + s3.2.2)) ∧ I3 14 12 = nI (16 + (s3.2.2 + 1)) ∧ FW b I L I3 L1 ∧ ∀ x, x ≠ 14 → x ≠ 39 → I3 x = I1 x := fun I3 e3 =>
        ⟨by rw [e3, va_up_self, va_up_ne _ _ (by decide)], by rw [e3, va_up_ne _ _ (by decide), va_up_self, va_up_self], R4.trans ((FW_14 (nI (16 + (s3.2.2 + 1)))).trans (FW_39 (fun x hx => by rw [e3, va_up_ne _ _ hx]))), fun x x1 x2 => by rw [e3, va_up_ne _ _ x2, va_up_ne _ _ x1]⟩
      by_cases c90 : s3.2.1 < 90
      · by_cases c89 : s3.2.1 + 1 < 90
        · skip
          refine wq_bload_n 112 0 dX0_rewrite_111 rfl rfl rfl ?_
          refine wq_bload_n 113 0 dX0_rewrite_112 rfl rfl rfl ?_
          refine wq_getR 116 fl_X0_42 dX0_rewrite_113 rfl rfl o_14 (rfl : (Tb b).2.2.2 14 6 = some (nwA b)) ?_
          refine wq_iload_n 117 1 dX0_rewrite_116 rfl rfl rfl ?_
          refine wq_iconst 118 1 dX0_rewrite_117 rfl (by decide) ?_
          refine cVi2 121 (sp_X2_nameAt (by omega) (nwA_l b) hl1.2.1 hn i 1 rfl rfl (by omega) (by omega)) ml_X0_145 mf_X2_nameAt dX0_rewrite_118 rfl (L_ob (nwA_l b)) (by decide) rfl (Nat.le_of_ble_eq_true rfl) (by omega) ?_
          rw [nE]
          refine cVi1 124 (sp_X0_slotOfName _) ml_X0_148 mf_X0_slotOfName dX0_rewrite_121 rfl o_14 (by decide) rfl (Nat.le_of_ble_eq_true rfl) (by omega) ?_
          refine wq_istore_n 125 3 [_, _, _, _, _] dX0_rewrite_124 rfl rfl rfl (Nat.le_of_ble_eq_true rfl) rfl ?_
          refine wq_iload_n 126 2 dX0_rewrite_125 rfl rfl rfl ?_
          refine wq_iconst 127 1 dX0_rewrite_126 rfl (by decide) ?_
          refine cSi2 130 (sp_X7_shapeOf (by omega) _ _) ml_X0_151 mf_X7_shapeOf dX0_rewrite_127 rfl (Nat.le_of_ble_eq_true rfl) (by omega) ?_
          refine wq_bipush 132 119 dX0_rewrite_130 rfl (by decide) ?_
          refine wq_ic_ne 135 143 dX0_rewrite_132 rfl (by decide) (fun c132 => absurd c132 (fun z => z c1')) (fun c132 => ?_)
          refine wq_iload_n 136 3 dX0_rewrite_135 rfl rfl rfl ?_
          refine wq_if_lt 139 143 dX0_rewrite_136 rfl (by decide) (fun c136 => absurd c136 (by rw [slE c1]; exact c2)) (fun c136 => ?_)
          refine wq_iconst 140 1 dX0_rewrite_139 rfl (by decide) ?_
          refine wq_goto 144 dX0_rewrite_140 (by decide) ?_
          refine wq_istore 146 [_, _, _, _, _] dX0_rewrite_144 rfl rfl (Nat.le_of_ble_eq_true rfl) rfl ?_
          refine wq_iload 148 dX0_rewrite_146 rfl rfl ?_
          refine wq_if_eq 151 172 dX0_rewrite_148 rfl (by decide) (fun c148 => absurd c148 (by decide)) (fun c148 => ?_)
          refine wq_bload_n 152 0 dX0_rewrite_151 rfl rfl rfl ?_
          refine wq_getR 155 fl_X0_39 dX0_rewrite_152 rfl rfl o_14 (rfl : (Tb _).2.2.2 14 5 = some 39) ?_
          refine wq_iconst 156 1 dX0_rewrite_155 rfl (by decide) ?_
          refine wq_bload_n 157 0 dX0_rewrite_156 rfl rfl rfl ?_
          refine cVi0 160 (sp_X0_makeName R2' c48) ml_X0_155 mf_X0_makeName dX0_rewrite_157 rfl o_14 (by decide) rfl (Nat.le_of_ble_eq_true rfl) (by omega) ?_
          refine wq_iast 161 dX0_rewrite_160 rfl a_39 (Ix.nI (j := 1) (by omega) (by decide)) ?_
          refine wq_gen (fun I3 L3 eI3 eL3 => ?_)
          rw [eL3]
          clear eL3
          obtain ⟨k39, k12, kfw, kx⟩ := key I3 eI3
          clear eI3
          have hv1 : I3 39 1 = nI (16 + s3.2.2) := by rw [k39, va_up_self]
          have hv2 : I3 39 2 = rdV sf p i 2 (rdN sf p i s 1) := by rw [k39, va_up_ne _ _ (by decide), v2]
          have hv3 : I3 39 3 = rdV sf p i 3 (rdN sf p i s 2) := by rw [k39, va_up_ne _ _ (by decide), v3]
          have hLx : LRc I3 L1 (nxA b) s3.2.1 s3.1 := LR_nx R1' kx
          refine wq_bload_n 162 0 dX0_rewrite_161 rfl rfl rfl ?_
          refine wq_getR 165 fl_X0_39 dX0_rewrite_162 rfl rfl o_14 (rfl : (Tb _).2.2.2 14 5 = some 39) ?_
          refine wq_iconst 166 1 dX0_rewrite_165 rfl (by decide) ?_
          refine wq_iald 167 dX0_rewrite_166 rfl a_39 (Ix.nI (j := 1) (by omega) (by decide)) ?_
          rw [hv1]
          refine wq_if_ge 170 172 dX0_rewrite_167 rfl (by decide) (fun c167 => ?_) (fun c167 => absurd (nI_pos' (by omega)) c167)
          refine wq_bload_n 173 0 dX0_rewrite_172 rfl rfl rfl ?_
          refine wq_getR 176 fl_X0_45 dX0_rewrite_173 rfl rfl o_14 (rfl : (Tb b).2.2.2 14 7 = some (nxA b)) ?_
          refine wq_iload_n 177 2 dX0_rewrite_176 rfl rfl rfl ?_
          refine wq_bload_n 178 0 dX0_rewrite_177 rfl rfl rfl ?_
          refine wq_getR 181 fl_X0_39 dX0_rewrite_178 rfl rfl o_14 (rfl : (Tb _).2.2.2 14 5 = some 39) ?_
          refine wq_iconst 182 1 dX0_rewrite_181 rfl (by decide) ?_
          refine wq_iald 183 dX0_rewrite_182 rfl a_39 (Ix.nI (j := 1) (by omega) (by decide)) ?_
          rw [hv1]
          refine wq_bload_n 184 0 dX0_rewrite_183 rfl rfl rfl ?_
          refine wq_getR 187 fl_X0_39 dX0_rewrite_184 rfl rfl o_14 (rfl : (Tb _).2.2.2 14 5 = some 39) ?_
          refine wq_iconst 188 2 dX0_rewrite_187 rfl (by decide) ?_
          refine wq_iald 189 dX0_rewrite_188 rfl a_39 (Ix.nI (j := 2) (by omega) (by decide)) ?_
          rw [hv2]
          refine wq_bload_n 190 0 dX0_rewrite_189 rfl rfl rfl ?_
          refine wq_getR 193 fl_X0_39 dX0_rewrite_190 rfl rfl o_14 (rfl : (Tb _).2.2.2 14 5 = some 39) ?_
          refine wq_iconst 194 3 dX0_rewrite_193 rfl (by decide) ?_
          refine wq_iald 195 dX0_rewrite_194 rfl a_39 (Ix.nI (j := 3) (by omega) (by decide)) ?_
          rw [hv3]
          refine cVp4 198 (sp_X2_add (by omega) (nxA_l b) hLx c90 _ _ _ _) ml_X0_159 mf_X2_add dX0_rewrite_195 rfl (L_ob (nxA_l b)) (by decide) rfl (Nat.le_of_ble_eq_true rfl) (by omega) ?_
          rintro _ b I4 L4 ⟨rfl, rfl, hLR, hoff⟩
          have k39' : I4 39 1 = nI (16 + s3.2.2) := by rw [(hoff 39 n14'.2.1).1]; exact hv1
          refine wq_if_eq 201 231 dX0_rewrite_198 rfl (by decide) (fun c198 => absurd c198 (by decide)) (fun c198 => ?_)
          refine wq_iload 203 dX0_rewrite_201 rfl rfl ?_
          refine wq_if_eq 206 227 dX0_rewrite_203 rfl (by decide) (fun c203 => absurd c203 (by decide)) (fun c203 => ?_)
          refine wq_bload_n 207 0 dX0_rewrite_206 rfl rfl rfl ?_
          refine wq_getR 210 fl_X0_45 dX0_rewrite_207 rfl rfl o_14 (rfl : (Tb b).2.2.2 14 7 = some (nxA b)) ?_
          refine wq_bipush 212 8 dX0_rewrite_210 rfl (by decide) ?_
          refine wq_bload_n 213 0 dX0_rewrite_212 rfl rfl rfl ?_
          refine wq_getR 216 fl_X0_39 dX0_rewrite_213 rfl rfl o_14 (rfl : (Tb _).2.2.2 14 5 = some 39) ?_
          refine wq_iconst 217 1 dX0_rewrite_216 rfl (by decide) ?_
          refine wq_iald 218 dX0_rewrite_217 rfl a_39 (Ix.nI (j := 1) (by omega) (by decide)) ?_
          rw [k39', slE c1]
          refine wq_iload_n 219 3 dX0_rewrite_218 rfl rfl rfl ?_
          refine wq_bipush 221 (-6) dX0_rewrite_219 rfl (by decide) ?_
          refine cVp4 224 (sp_X2_add (by omega) (nxA_l b) hLR c89 _ _ _ _) ml_X0_159 mf_X2_add dX0_rewrite_221 rfl (L_ob (nxA_l b)) (by decide) rfl (Nat.le_of_ble_eq_true rfl) (by omega) ?_
          rintro _ b I5 L5 ⟨rfl, rfl, hLR2, hoff2⟩
          refine wq_if_eq 227 231 dX0_rewrite_224 rfl (by decide) (fun c224 => absurd c224 (by decide)) (fun c224 => ?_)
          refine wq_iconst 228 1 dX0_rewrite_227 rfl (by decide) ?_
          refine wq_goto 232 dX0_rewrite_228 (by decide) ?_
          refine ri .boolean dX0_rewrite_232 rfl rfl ?_
          refine ⟨rfl, (kfw.trans (FW_off hoff)).trans (FW_off hoff2), Or.inl ⟨⟨by omega, by omega⟩, rfl, ?_, ?_⟩⟩
          · rw [eR]; exact hLR2
          · rw [(hoff2 14 n14'.1).1, (hoff 14 n14'.1).1, k12, eW]
        · skip
          refine wq_bload_n 112 0 dX0_rewrite_111 rfl rfl rfl ?_
          refine wq_bload_n 113 0 dX0_rewrite_112 rfl rfl rfl ?_
          refine wq_getR 116 fl_X0_42 dX0_rewrite_113 rfl rfl o_14 (rfl : (Tb b).2.2.2 14 6 = some (nwA b)) ?_
          refine wq_iload_n 117 1 dX0_rewrite_116 rfl rfl rfl ?_
          refine wq_iconst 118 1 dX0_rewrite_117 rfl (by decide) ?_
          refine cVi2 121 (sp_X2_nameAt (by omega) (nwA_l b) hl1.2.1 hn i 1 rfl rfl (by omega) (by omega)) ml_X0_145 mf_X2_nameAt dX0_rewrite_118 rfl (L_ob (nwA_l b)) (by decide) rfl (Nat.le_of_ble_eq_true rfl) (by omega) ?_
          rw [nE]
          refine cVi1 124 (sp_X0_slotOfName _) ml_X0_148 mf_X0_slotOfName dX0_rewrite_121 rfl o_14 (by decide) rfl (Nat.le_of_ble_eq_true rfl) (by omega) ?_
          refine wq_istore_n 125 3 [_, _, _, _, _] dX0_rewrite_124 rfl rfl rfl (Nat.le_of_ble_eq_true rfl) rfl ?_
          refine wq_iload_n 126 2 dX0_rewrite_125 rfl rfl rfl ?_
          refine wq_iconst 127 1 dX0_rewrite_126 rfl (by decide) ?_
          refine cSi2 130 (sp_X7_shapeOf (by omega) _ _) ml_X0_151 mf_X7_shapeOf dX0_rewrite_127 rfl (Nat.le_of_ble_eq_true rfl) (by omega) ?_
          refine wq_bipush 132 119 dX0_rewrite_130 rfl (by decide) ?_
          refine wq_ic_ne 135 143 dX0_rewrite_132 rfl (by decide) (fun c132 => absurd c132 (fun z => z c1')) (fun c132 => ?_)
          refine wq_iload_n 136 3 dX0_rewrite_135 rfl rfl rfl ?_
          refine wq_if_lt 139 143 dX0_rewrite_136 rfl (by decide) (fun c136 => absurd c136 (by rw [slE c1]; exact c2)) (fun c136 => ?_)
          refine wq_iconst 140 1 dX0_rewrite_139 rfl (by decide) ?_
          refine wq_goto 144 dX0_rewrite_140 (by decide) ?_
          refine wq_istore 146 [_, _, _, _, _] dX0_rewrite_144 rfl rfl (Nat.le_of_ble_eq_true rfl) rfl ?_
          refine wq_iload 148 dX0_rewrite_146 rfl rfl ?_
          refine wq_if_eq 151 172 dX0_rewrite_148 rfl (by decide) (fun c148 => absurd c148 (by decide)) (fun c148 => ?_)
          refine wq_bload_n 152 0 dX0_rewrite_151 rfl rfl rfl ?_
          refine wq_getR 155 fl_X0_39 dX0_rewrite_152 rfl rfl o_14 (rfl : (Tb _).2.2.2 14 5 = some 39) ?_
          refine wq_iconst 156 1 dX0_rewrite_155 rfl (by decide) ?_
          refine wq_bload_n 157 0 dX0_rewrite_156 rfl rfl rfl ?_
          refine cVi0 160 (sp_X0_makeName R2' c48) ml_X0_155 mf_X0_makeName dX0_rewrite_157 rfl o_14 (by decide) rfl (Nat.le_of_ble_eq_true rfl) (by omega) ?_
          refine wq_iast 161 dX0_rewrite_160 rfl a_39 (Ix.nI (j := 1) (by omega) (by decide)) ?_
          refine wq_gen (fun I3 L3 eI3 eL3 => ?_)
          rw [eL3]
          clear eL3
          obtain ⟨k39, k12, kfw, kx⟩ := key I3 eI3
          clear eI3
          have hv1 : I3 39 1 = nI (16 + s3.2.2) := by rw [k39, va_up_self]
          have hv2 : I3 39 2 = rdV sf p i 2 (rdN sf p i s 1) := by rw [k39, va_up_ne _ _ (by decide), v2]
          have hv3 : I3 39 3 = rdV sf p i 3 (rdN sf p i s 2) := by rw [k39, va_up_ne _ _ (by decide), v3]
          have hLx : LRc I3 L1 (nxA b) s3.2.1 s3.1 := LR_nx R1' kx
          refine wq_bload_n 162 0 dX0_rewrite_161 rfl rfl rfl ?_
          refine wq_getR 165 fl_X0_39 dX0_rewrite_162 rfl rfl o_14 (rfl : (Tb _).2.2.2 14 5 = some 39) ?_
          refine wq_iconst 166 1 dX0_rewrite_165 rfl (by decide) ?_
          refine wq_iald 167 dX0_rewrite_166 rfl a_39 (Ix.nI (j := 1) (by omega) (by decide)) ?_
          rw [hv1]
          refine wq_if_ge 170 172 dX0_rewrite_167 rfl (by decide) (fun c167 => ?_) (fun c167 => absurd (nI_pos' (by omega)) c167)
          refine wq_bload_n 173 0 dX0_rewrite_172 rfl rfl rfl ?_
          refine wq_getR 176 fl_X0_45 dX0_rewrite_173 rfl rfl o_14 (rfl : (Tb b).2.2.2 14 7 = some (nxA b)) ?_
          refine wq_iload_n 177 2 dX0_rewrite_176 rfl rfl rfl ?_
          refine wq_bload_n 178 0 dX0_rewrite_177 rfl rfl rfl ?_
          refine wq_getR 181 fl_X0_39 dX0_rewrite_178 rfl rfl o_14 (rfl : (Tb _).2.2.2 14 5 = some 39) ?_
          refine wq_iconst 182 1 dX0_rewrite_181 rfl (by decide) ?_
          refine wq_iald 183 dX0_rewrite_182 rfl a_39 (Ix.nI (j := 1) (by omega) (by decide)) ?_
          rw [hv1]
          refine wq_bload_n 184 0 dX0_rewrite_183 rfl rfl rfl ?_
          refine wq_getR 187 fl_X0_39 dX0_rewrite_184 rfl rfl o_14 (rfl : (Tb _).2.2.2 14 5 = some 39) ?_
          refine wq_iconst 188 2 dX0_rewrite_187 rfl (by decide) ?_
          refine wq_iald 189 dX0_rewrite_188 rfl a_39 (Ix.nI (j := 2) (by omega) (by decide)) ?_
          rw [hv2]
          refine wq_bload_n 190 0 dX0_rewrite_189 rfl rfl rfl ?_
          refine wq_getR 193 fl_X0_39 dX0_rewrite_190 rfl rfl o_14 (rfl : (Tb _).2.2.2 14 5 = some 39) ?_
          refine wq_iconst 194 3 dX0_rewrite_193 rfl (by decide) ?_
          refine wq_iald 195 dX0_rewrite_194 rfl a_39 (Ix.nI (j := 3) (by omega) (by decide)) ?_
          rw [hv3]
          refine cVp4 198 (sp_X2_add (by omega) (nxA_l b) hLx c90 _ _ _ _) ml_X0_159 mf_X2_add dX0_rewrite_195 rfl (L_ob (nxA_l b)) (by decide) rfl (Nat.le_of_ble_eq_true rfl) (by omega) ?_
          rintro _ b I4 L4 ⟨rfl, rfl, hLR, hoff⟩
          have k39' : I4 39 1 = nI (16 + s3.2.2) := by rw [(hoff 39 n14'.2.1).1]; exact hv1
          refine wq_if_eq 201 231 dX0_rewrite_198 rfl (by decide) (fun c198 => absurd c198 (by decide)) (fun c198 => ?_)
          refine wq_iload 203 dX0_rewrite_201 rfl rfl ?_
          refine wq_if_eq 206 227 dX0_rewrite_203 rfl (by decide) (fun c203 => absurd c203 (by decide)) (fun c203 => ?_)
          refine wq_bload_n 207 0 dX0_rewrite_206 rfl rfl rfl ?_
          refine wq_getR 210 fl_X0_45 dX0_rewrite_207 rfl rfl o_14 (rfl : (Tb b).2.2.2 14 7 = some (nxA b)) ?_
          refine wq_bipush 212 8 dX0_rewrite_210 rfl (by decide) ?_
          refine wq_bload_n 213 0 dX0_rewrite_212 rfl rfl rfl ?_
          refine wq_getR 216 fl_X0_39 dX0_rewrite_213 rfl rfl o_14 (rfl : (Tb _).2.2.2 14 5 = some 39) ?_
          refine wq_iconst 217 1 dX0_rewrite_216 rfl (by decide) ?_
          refine wq_iald 218 dX0_rewrite_217 rfl a_39 (Ix.nI (j := 1) (by omega) (by decide)) ?_
          rw [k39', slE c1]
          refine wq_iload_n 219 3 dX0_rewrite_218 rfl rfl rfl ?_
          refine wq_bipush 221 (-6) dX0_rewrite_219 rfl (by decide) ?_
          refine cVi4 224 (sp_X2_addF (nxA_l b) (by rw [hLR.2.1, show s3.2.1 + 1 = 90 by omega]) _ _ _ _) ml_X0_159 mf_X2_add dX0_rewrite_221 rfl (L_ob (nxA_l b)) (by decide) rfl (Nat.le_of_ble_eq_true rfl) (by omega) ?_
          refine wq_if_eq 227 231 dX0_rewrite_224 rfl (by decide) (fun c224 => ?_) (fun c224 => absurd (by decide) c224)
          refine wq_iconst 232 0 dX0_rewrite_231 rfl (by decide) ?_
          refine ri .boolean dX0_rewrite_232 rfl rfl ?_
          exact ⟨rfl, kfw.trans (FW_off hoff), Or.inr ⟨fun z => by have := z.1; omega, rfl⟩⟩
      · have m90 : s3.2.1 = 90 := by have := R5'.1; omega
        refine wq_bload_n 112 0 dX0_rewrite_111 rfl rfl rfl ?_
        refine wq_bload_n 113 0 dX0_rewrite_112 rfl rfl rfl ?_
        refine wq_getR 116 fl_X0_42 dX0_rewrite_113 rfl rfl o_14 (rfl : (Tb b).2.2.2 14 6 = some (nwA b)) ?_
        refine wq_iload_n 117 1 dX0_rewrite_116 rfl rfl rfl ?_
        refine wq_iconst 118 1 dX0_rewrite_117 rfl (by decide) ?_
        refine cVi2 121 (sp_X2_nameAt (by omega) (nwA_l b) hl1.2.1 hn i 1 rfl rfl (by omega) (by omega)) ml_X0_145 mf_X2_nameAt dX0_rewrite_118 rfl (L_ob (nwA_l b)) (by decide) rfl (Nat.le_of_ble_eq_true rfl) (by omega) ?_
        rw [nE]
        refine cVi1 124 (sp_X0_slotOfName _) ml_X0_148 mf_X0_slotOfName dX0_rewrite_121 rfl o_14 (by decide) rfl (Nat.le_of_ble_eq_true rfl) (by omega) ?_
        refine wq_istore_n 125 3 [_, _, _, _, _] dX0_rewrite_124 rfl rfl rfl (Nat.le_of_ble_eq_true rfl) rfl ?_
        refine wq_iload_n 126 2 dX0_rewrite_125 rfl rfl rfl ?_
        refine wq_iconst 127 1 dX0_rewrite_126 rfl (by decide) ?_
        refine cSi2 130 (sp_X7_shapeOf (by omega) _ _) ml_X0_151 mf_X7_shapeOf dX0_rewrite_127 rfl (Nat.le_of_ble_eq_true rfl) (by omega) ?_
        refine wq_bipush 132 119 dX0_rewrite_130 rfl (by decide) ?_
        refine wq_ic_ne 135 143 dX0_rewrite_132 rfl (by decide) (fun c132 => absurd c132 (fun z => z c1')) (fun c132 => ?_)
        refine wq_iload_n 136 3 dX0_rewrite_135 rfl rfl rfl ?_
        refine wq_if_lt 139 143 dX0_rewrite_136 rfl (by decide) (fun c136 => absurd c136 (by rw [slE c1]; exact c2)) (fun c136 => ?_)
        refine wq_iconst 140 1 dX0_rewrite_139 rfl (by decide) ?_
        refine wq_goto 144 dX0_rewrite_140 (by decide) ?_
        refine wq_istore 146 [_, _, _, _, _] dX0_rewrite_144 rfl rfl (Nat.le_of_ble_eq_true rfl) rfl ?_
        refine wq_iload 148 dX0_rewrite_146 rfl rfl ?_
        refine wq_if_eq 151 172 dX0_rewrite_148 rfl (by decide) (fun c148 => absurd c148 (by decide)) (fun c148 => ?_)
        refine wq_bload_n 152 0 dX0_rewrite_151 rfl rfl rfl ?_
        refine wq_getR 155 fl_X0_39 dX0_rewrite_152 rfl rfl o_14 (rfl : (Tb _).2.2.2 14 5 = some 39) ?_
        refine wq_iconst 156 1 dX0_rewrite_155 rfl (by decide) ?_
        refine wq_bload_n 157 0 dX0_rewrite_156 rfl rfl rfl ?_
        refine cVi0 160 (sp_X0_makeName R2' c48) ml_X0_155 mf_X0_makeName dX0_rewrite_157 rfl o_14 (by decide) rfl (Nat.le_of_ble_eq_true rfl) (by omega) ?_
        refine wq_iast 161 dX0_rewrite_160 rfl a_39 (Ix.nI (j := 1) (by omega) (by decide)) ?_
        refine wq_gen (fun I3 L3 eI3 eL3 => ?_)
        rw [eL3]
        clear eL3
        obtain ⟨k39, k12, kfw, kx⟩ := key I3 eI3
        clear eI3
        have hv1 : I3 39 1 = nI (16 + s3.2.2) := by rw [k39, va_up_self]
        have hv2 : I3 39 2 = rdV sf p i 2 (rdN sf p i s 1) := by rw [k39, va_up_ne _ _ (by decide), v2]
        have hv3 : I3 39 3 = rdV sf p i 3 (rdN sf p i s 2) := by rw [k39, va_up_ne _ _ (by decide), v3]
        have hLx : LRc I3 L1 (nxA b) s3.2.1 s3.1 := LR_nx R1' kx
        refine wq_bload_n 162 0 dX0_rewrite_161 rfl rfl rfl ?_
        refine wq_getR 165 fl_X0_39 dX0_rewrite_162 rfl rfl o_14 (rfl : (Tb _).2.2.2 14 5 = some 39) ?_
        refine wq_iconst 166 1 dX0_rewrite_165 rfl (by decide) ?_
        refine wq_iald 167 dX0_rewrite_166 rfl a_39 (Ix.nI (j := 1) (by omega) (by decide)) ?_
        rw [hv1]
        refine wq_if_ge 170 172 dX0_rewrite_167 rfl (by decide) (fun c167 => ?_) (fun c167 => absurd (nI_pos' (by omega)) c167)
        refine wq_bload_n 173 0 dX0_rewrite_172 rfl rfl rfl ?_
        refine wq_getR 176 fl_X0_45 dX0_rewrite_173 rfl rfl o_14 (rfl : (Tb b).2.2.2 14 7 = some (nxA b)) ?_
        refine wq_iload_n 177 2 dX0_rewrite_176 rfl rfl rfl ?_
        refine wq_bload_n 178 0 dX0_rewrite_177 rfl rfl rfl ?_
        refine wq_getR 181 fl_X0_39 dX0_rewrite_178 rfl rfl o_14 (rfl : (Tb _).2.2.2 14 5 = some 39) ?_
        refine wq_iconst 182 1 dX0_rewrite_181 rfl (by decide) ?_
        refine wq_iald 183 dX0_rewrite_182 rfl a_39 (Ix.nI (j := 1) (by omega) (by decide)) ?_
        rw [hv1]
        refine wq_bload_n 184 0 dX0_rewrite_183 rfl rfl rfl ?_
        refine wq_getR 187 fl_X0_39 dX0_rewrite_184 rfl rfl o_14 (rfl : (Tb _).2.2.2 14 5 = some 39) ?_
        refine wq_iconst 188 2 dX0_rewrite_187 rfl (by decide) ?_
        refine wq_iald 189 dX0_rewrite_188 rfl a_39 (Ix.nI (j := 2) (by omega) (by decide)) ?_
        rw [hv2]
        refine wq_bload_n 190 0 dX0_rewrite_189 rfl rfl rfl ?_
        refine wq_getR 193 fl_X0_39 dX0_rewrite_190 rfl rfl o_14 (rfl : (Tb _).2.2.2 14 5 = some 39) ?_
        refine wq_iconst 194 3 dX0_rewrite_193 rfl (by decide) ?_
        refine wq_iald 195 dX0_rewrite_194 rfl a_39 (Ix.nI (j := 3) (by omega) (by decide)) ?_
        rw [hv3]
        refine cVi4 198 (sp_X2_addF (nxA_l b) (by rw [hLx.2.1, m90]) _ _ _ _) ml_X0_159 mf_X2_add dX0_rewrite_195 rfl (L_ob (nxA_l b)) (by decide) rfl (Nat.le_of_ble_eq_true rfl) (by omega) ?_
        refine wq_if_eq 201 231 dX0_rewrite_198 rfl (by decide) (fun c198 => ?_) (fun c198 => absurd (by decide) c198)
        refine wq_iconst 232 0 dX0_rewrite_231 rfl (by decide) ?_
        refine ri .boolean dX0_rewrite_232 rfl rfl ?_
        exact ⟨rfl, kfw, Or.inr ⟨fun z => by have := z.1; omega, rfl⟩⟩
    · have m48 : s3.2.2 = 48 := by have := R5'.2; omega
      refine wq_bload_n 112 0 dX0_rewrite_111 rfl rfl rfl ?_
      refine wq_bload_n 113 0 dX0_rewrite_112 rfl rfl rfl ?_
      refine wq_getR 116 fl_X0_42 dX0_rewrite_113 rfl rfl o_14 (rfl : (Tb b).2.2.2 14 6 = some (nwA b)) ?_
      refine wq_iload_n 117 1 dX0_rewrite_116 rfl rfl rfl ?_
      refine wq_iconst 118 1 dX0_rewrite_117 rfl (by decide) ?_
      refine cVi2 121 (sp_X2_nameAt (by omega) (nwA_l b) hl1.2.1 hn i 1 rfl rfl (by omega) (by omega)) ml_X0_145 mf_X2_nameAt dX0_rewrite_118 rfl (L_ob (nwA_l b)) (by decide) rfl (Nat.le_of_ble_eq_true rfl) (by omega) ?_
      rw [nE]
      refine cVi1 124 (sp_X0_slotOfName _) ml_X0_148 mf_X0_slotOfName dX0_rewrite_121 rfl o_14 (by decide) rfl (Nat.le_of_ble_eq_true rfl) (by omega) ?_
      refine wq_istore_n 125 3 [_, _, _, _, _] dX0_rewrite_124 rfl rfl rfl (Nat.le_of_ble_eq_true rfl) rfl ?_
      refine wq_iload_n 126 2 dX0_rewrite_125 rfl rfl rfl ?_
      refine wq_iconst 127 1 dX0_rewrite_126 rfl (by decide) ?_
      refine cSi2 130 (sp_X7_shapeOf (by omega) _ _) ml_X0_151 mf_X7_shapeOf dX0_rewrite_127 rfl (Nat.le_of_ble_eq_true rfl) (by omega) ?_
      refine wq_bipush 132 119 dX0_rewrite_130 rfl (by decide) ?_
      refine wq_ic_ne 135 143 dX0_rewrite_132 rfl (by decide) (fun c132 => absurd c132 (fun z => z c1')) (fun c132 => ?_)
      refine wq_iload_n 136 3 dX0_rewrite_135 rfl rfl rfl ?_
      refine wq_if_lt 139 143 dX0_rewrite_136 rfl (by decide) (fun c136 => absurd c136 (by rw [slE c1]; exact c2)) (fun c136 => ?_)
      refine wq_iconst 140 1 dX0_rewrite_139 rfl (by decide) ?_
      refine wq_goto 144 dX0_rewrite_140 (by decide) ?_
      refine wq_istore 146 [_, _, _, _, _] dX0_rewrite_144 rfl rfl (Nat.le_of_ble_eq_true rfl) rfl ?_
      refine wq_iload 148 dX0_rewrite_146 rfl rfl ?_
      refine wq_if_eq 151 172 dX0_rewrite_148 rfl (by decide) (fun c148 => absurd c148 (by decide)) (fun c148 => ?_)
      refine wq_bload_n 152 0 dX0_rewrite_151 rfl rfl rfl ?_
      refine wq_getR 155 fl_X0_39 dX0_rewrite_152 rfl rfl o_14 (rfl : (Tb _).2.2.2 14 5 = some 39) ?_
      refine wq_iconst 156 1 dX0_rewrite_155 rfl (by decide) ?_
      refine wq_bload_n 157 0 dX0_rewrite_156 rfl rfl rfl ?_
      refine cVi0 160 (sp_X0_makeNameF (by rw [R2', m48])) ml_X0_155 mf_X0_makeName dX0_rewrite_157 rfl o_14 (by decide) rfl (Nat.le_of_ble_eq_true rfl) (by omega) ?_
      refine wq_iast 161 dX0_rewrite_160 rfl a_39 (Ix.nI (j := 1) (by omega) (by decide)) ?_
      refine wq_bload_n 162 0 dX0_rewrite_161 rfl rfl rfl ?_
      refine wq_getR 165 fl_X0_39 dX0_rewrite_162 rfl rfl o_14 (rfl : (Tb _).2.2.2 14 5 = some 39) ?_
      refine wq_iconst 166 1 dX0_rewrite_165 rfl (by decide) ?_
      refine wq_iald 167 dX0_rewrite_166 rfl a_39 (Ix.nI (j := 1) (by omega) (by decide)) ?_
      rw [va_up_self, va_up_self]
      refine wq_if_ge 170 172 dX0_rewrite_167 rfl (by decide) (fun c167 => absurd c167 (by decide)) (fun c167 => ?_)
      refine wq_iconst 171 0 dX0_rewrite_170 rfl (by decide) ?_
      refine ri .boolean dX0_rewrite_171 rfl rfl ?_
      exact ⟨rfl, R4.trans (FW_39 (fun x hx => va_up_ne _ _ hx)), Or.inr ⟨fun z => by have := z.2; omega, rfl⟩⟩
  · have eR : rowS sf p i s = putS s3 (p i 0) (rdV sf p i 1 s) (rdV sf p i 2 (rdN sf p i s 1)) (rdV sf p i 3 (rdN sf p i s 2)) := by rw [rowS, if_neg hst, hs3]
    have eM : (rowS sf p i s).2.1 = s3.2.1 + 1 := by rw [eR]; rfl
    have eW : (rowS sf p i s).2.2 = s3.2.2 := by rw [eR]; rfl
    have J172 : ∀ l3, Wp (Kn g D MX0_rewrite (fun r b' I' L' => b' = b ∧ FW b I L I' L' ∧ ((okS (rowS sf p i s) ∧ r = some (.int 1) ∧ LRc I' L' (nxA b) (rowS sf p i s).2.1 (rowS sf p i s).1 ∧ I' 14 12 = nI (16 + (rowS sf p i s).2.2)) ∨ (¬ okS (rowS sf p i s) ∧ r = some (.int 0))))) (Tb b) 172 [some (rf g 14), some (.int (nI i)), some (.int (p i 0)), l3, some (.int 0)] [] I1 L1 := by
      intro l3
      by_cases c90 : s3.2.1 < 90
      · skip
        refine wq_bload_n 173 0 dX0_rewrite_172 rfl rfl rfl ?_
        refine wq_getR 176 fl_X0_45 dX0_rewrite_173 rfl rfl o_14 (rfl : (Tb b).2.2.2 14 7 = some (nxA b)) ?_
        refine wq_iload_n 177 2 dX0_rewrite_176 rfl rfl rfl ?_
        refine wq_bload_n 178 0 dX0_rewrite_177 rfl rfl rfl ?_
        refine wq_getR 181 fl_X0_39 dX0_rewrite_178 rfl rfl o_14 (rfl : (Tb _).2.2.2 14 5 = some 39) ?_
        refine wq_iconst 182 1 dX0_rewrite_181 rfl (by decide) ?_
        refine wq_iald 183 dX0_rewrite_182 rfl a_39 (Ix.nI (j := 1) (by omega) (by decide)) ?_
        rw [v1]
        refine wq_bload_n 184 0 dX0_rewrite_183 rfl rfl rfl ?_
        refine wq_getR 187 fl_X0_39 dX0_rewrite_184 rfl rfl o_14 (rfl : (Tb _).2.2.2 14 5 = some 39) ?_
        refine wq_iconst 188 2 dX0_rewrite_187 rfl (by decide) ?_
        refine wq_iald 189 dX0_rewrite_188 rfl a_39 (Ix.nI (j := 2) (by omega) (by decide)) ?_
        rw [v2]
        refine wq_bload_n 190 0 dX0_rewrite_189 rfl rfl rfl ?_
        refine wq_getR 193 fl_X0_39 dX0_rewrite_190 rfl rfl o_14 (rfl : (Tb _).2.2.2 14 5 = some 39) ?_
        refine wq_iconst 194 3 dX0_rewrite_193 rfl (by decide) ?_
        refine wq_iald 195 dX0_rewrite_194 rfl a_39 (Ix.nI (j := 3) (by omega) (by decide)) ?_
        rw [v3]
        refine cVp4 198 (sp_X2_add (by omega) (nxA_l b) R1' c90 _ _ _ _) ml_X0_159 mf_X2_add dX0_rewrite_195 rfl (L_ob (nxA_l b)) (by decide) rfl (Nat.le_of_ble_eq_true rfl) (by omega) ?_
        rintro _ b I4 L4 ⟨rfl, rfl, hLR, hoff⟩
        refine wq_if_eq 201 231 dX0_rewrite_198 rfl (by decide) (fun c198 => absurd c198 (by decide)) (fun c198 => ?_)
        refine wq_iload 203 dX0_rewrite_201 rfl rfl ?_
        refine wq_if_eq 206 227 dX0_rewrite_203 rfl (by decide) (fun c203 => ?_) (fun c203 => absurd rfl c203)
        refine wq_iconst 228 1 dX0_rewrite_227 rfl (by decide) ?_
        refine wq_goto 232 dX0_rewrite_228 (by decide) ?_
        refine ri .boolean dX0_rewrite_232 rfl rfl ?_
        refine ⟨rfl, R4.trans (FW_off hoff), Or.inl ⟨⟨by omega, by rw [eW]; exact R5'.2⟩, rfl, ?_, ?_⟩⟩
        · rw [eR]; exact hLR
        · rw [(hoff 14 n14'.1).1, R2', eW]
      · have m90 : s3.2.1 = 90 := by have := R5'.1; omega
        refine wq_bload_n 173 0 dX0_rewrite_172 rfl rfl rfl ?_
        refine wq_getR 176 fl_X0_45 dX0_rewrite_173 rfl rfl o_14 (rfl : (Tb b).2.2.2 14 7 = some (nxA b)) ?_
        refine wq_iload_n 177 2 dX0_rewrite_176 rfl rfl rfl ?_
        refine wq_bload_n 178 0 dX0_rewrite_177 rfl rfl rfl ?_
        refine wq_getR 181 fl_X0_39 dX0_rewrite_178 rfl rfl o_14 (rfl : (Tb _).2.2.2 14 5 = some 39) ?_
        refine wq_iconst 182 1 dX0_rewrite_181 rfl (by decide) ?_
        refine wq_iald 183 dX0_rewrite_182 rfl a_39 (Ix.nI (j := 1) (by omega) (by decide)) ?_
        rw [v1]
        refine wq_bload_n 184 0 dX0_rewrite_183 rfl rfl rfl ?_
        refine wq_getR 187 fl_X0_39 dX0_rewrite_184 rfl rfl o_14 (rfl : (Tb _).2.2.2 14 5 = some 39) ?_
        refine wq_iconst 188 2 dX0_rewrite_187 rfl (by decide) ?_
        refine wq_iald 189 dX0_rewrite_188 rfl a_39 (Ix.nI (j := 2) (by omega) (by decide)) ?_
        rw [v2]
        refine wq_bload_n 190 0 dX0_rewrite_189 rfl rfl rfl ?_
        refine wq_getR 193 fl_X0_39 dX0_rewrite_190 rfl rfl o_14 (rfl : (Tb _).2.2.2 14 5 = some 39) ?_
        refine wq_iconst 194 3 dX0_rewrite_193 rfl (by decide) ?_
        refine wq_iald 195 dX0_rewrite_194 rfl a_39 (Ix.nI (j := 3) (by omega) (by decide)) ?_
        rw [v3]
        refine cVi4 198 (sp_X2_addF (nxA_l b) (by rw [R1'.2.1, m90]) _ _ _ _) ml_X0_159 mf_X2_add dX0_rewrite_195 rfl (L_ob (nxA_l b)) (by decide) rfl (Nat.le_of_ble_eq_true rfl) (by omega) ?_
        refine wq_if_eq 201 231 dX0_rewrite_198 rfl (by decide) (fun c198 => ?_) (fun c198 => absurd (by decide) c198)
        refine wq_iconst 232 0 dX0_rewrite_231 rfl (by decide) ?_
        refine ri .boolean dX0_rewrite_232 rfl rfl ?_
        exact ⟨rfl, R4, Or.inr ⟨fun z => by have := z.1; omega, rfl⟩⟩
    refine wq_bload_n 112 0 dX0_rewrite_111 rfl rfl rfl ?_
    refine wq_bload_n 113 0 dX0_rewrite_112 rfl rfl rfl ?_
    refine wq_getR 116 fl_X0_42 dX0_rewrite_113 rfl rfl o_14 (rfl : (Tb b).2.2.2 14 6 = some (nwA b)) ?_
    refine wq_iload_n 117 1 dX0_rewrite_116 rfl rfl rfl ?_
    refine wq_iconst 118 1 dX0_rewrite_117 rfl (by decide) ?_
    refine cVi2 121 (sp_X2_nameAt (by omega) (nwA_l b) hl1.2.1 hn i 1 rfl rfl (by omega) (by omega)) ml_X0_145 mf_X2_nameAt dX0_rewrite_118 rfl (L_ob (nwA_l b)) (by decide) rfl (Nat.le_of_ble_eq_true rfl) (by omega) ?_
    rw [nE]
    refine cVi1 124 (sp_X0_slotOfName _) ml_X0_148 mf_X0_slotOfName dX0_rewrite_121 rfl o_14 (by decide) rfl (Nat.le_of_ble_eq_true rfl) (by omega) ?_
    refine wq_istore_n 125 3 [_, _, _, _, _] dX0_rewrite_124 rfl rfl rfl (Nat.le_of_ble_eq_true rfl) rfl ?_
    refine wq_iload_n 126 2 dX0_rewrite_125 rfl rfl rfl ?_
    refine wq_iconst 127 1 dX0_rewrite_126 rfl (by decide) ?_
    refine cSi2 130 (sp_X7_shapeOf (by omega) _ _) ml_X0_151 mf_X7_shapeOf dX0_rewrite_127 rfl (Nat.le_of_ble_eq_true rfl) (by omega) ?_
    refine wq_bipush 132 119 dX0_rewrite_130 rfl (by decide) ?_
    refine wq_ic_ne 135 143 dX0_rewrite_132 rfl (by decide) (fun c132 => ?_) (fun c132 => ?_)
    · skip
      refine wq_iconst 144 0 dX0_rewrite_143 rfl (by decide) ?_
      refine wq_istore 146 [_, _, _, _, _] dX0_rewrite_144 rfl rfl (Nat.le_of_ble_eq_true rfl) rfl ?_
      refine wq_iload 148 dX0_rewrite_146 rfl rfl ?_
      refine wq_if_eq 151 172 dX0_rewrite_148 rfl (by decide) (fun c148 => ?_) (fun c148 => absurd rfl c148)
      exact J172 _
    · skip
      refine wq_iload_n 136 3 dX0_rewrite_135 rfl rfl rfl ?_
      refine wq_if_lt 139 143 dX0_rewrite_136 rfl (by decide) (fun c136 => ?_) (fun c136 => ?_)
      · skip
        refine wq_iconst 144 0 dX0_rewrite_143 rfl (by decide) ?_
        refine wq_istore 146 [_, _, _, _, _] dX0_rewrite_144 rfl rfl (Nat.le_of_ble_eq_true rfl) rfl ?_
        refine wq_iload 148 dX0_rewrite_146 rfl rfl ?_
        refine wq_if_eq 151 172 dX0_rewrite_148 rfl (by decide) (fun c148 => ?_) (fun c148 => absurd rfl c148)
        exact J172 _
      · skip
        rw [slE c132] at c136
        exact absurd (stC_iff.mpr ⟨c132, c136⟩) hst
