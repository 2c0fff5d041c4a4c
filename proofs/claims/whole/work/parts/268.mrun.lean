/-! the reference: runNow -/
def VR (I : IM) (s : RS) (c : Nat) : Prop := (∀ x, x < 16 → I 98 x = nI (uV s x)) ∧ (∀ x, x < 64 → I 99 x = nI (uS s x)) ∧ (∀ j, j < uC s → I 100 j = nI (uT s j)) ∧ I 71 44 = nI (uC s) ∧ I 71 45 = nI (uD s) ∧ I 71 46 = nI c ∧ I 71 47 = nI (uL s) ∧ I 71 48 = nI (uZ s)
def FN (I I' : IM) : Prop := (∀ x, x ∉ [71, 98, 99, 100] → I' x = I x) ∧ ∀ z, z ∉ [44, 45, 46, 47, 48, 49] → I' 71 z = I 71 z
theorem FN.trans {I I' I'' : IM} (h : FN I I') (h' : FN I' I'') : FN I I'' := ⟨fun x hx => (h'.1 x hx).trans (h.1 x hx), fun z hz => (h'.2 z hz).trans (h.2 z hz)⟩
theorem FN.refl (I : IM) : FN I I := ⟨fun _ _ => rfl, fun _ _ => rfl⟩
theorem FN_NR {I I' : IM} {n : Nat} {p : Pg} (f : FN I I') (h : NR I n p) : NR I' n p := NR_keep h (f.2 13 (by decide)) (f.1 _ (by decide)) (f.1 _ (by decide)) (f.1 _ (by decide)) (f.1 _ (by decide))
theorem VR_pu {I : IM} {s : RS} {c x v : Nat} (h : VR I s c) : VR (va_up I 98 (va_up (I 98) x (nI v))) (puS s x v) c ∧ FN I (va_up I 98 (va_up (I 98) x (nI v))) := by
  obtain ⟨h1, h2, h3, h4, h5, h6, h7, h8⟩ := h
  have n0 : ∀ z, z ≠ 98 → va_up I 98 (va_up (I 98) x (nI v)) z = I z := fun z hz => va_up_ne _ _ hz
  refine ⟨⟨fun u hu => ?_, fun u hu => by rw [n0 99 (by decide)]; exact h2 u hu, fun j hj => by rw [n0 100 (by decide)]; exact h3 j hj, by rw [n0 71 (by decide)]; exact h4, by rw [n0 71 (by decide)]; exact h5, by rw [n0 71 (by decide)]; exact h6, by rw [n0 71 (by decide)]; exact h7, by rw [n0 71 (by decide)]; exact h8⟩, fun z hz => n0 z (by simp at hz; omega), fun z _ => by rw [n0 71 (by decide)]⟩
  rw [va_up_self]
  show va_up (I 98) x (nI v) u = nI (va_up (uV s) x v u)
  by_cases e : u = x
  · rw [e, va_up_self, va_up_self]
  · rw [va_up_ne _ _ e, va_up_ne _ _ e]; exact h1 u hu
/-- the reference has run -/
def VX (I : IM) (p : Pg) (n m : Nat) : Prop := VR I (rnF p n m 0 0 rs0).2.2 (rnF p n m 0 0 rs0).1 ∧ I 71 49 = bI (decide (n ≤ (rnF p n m 0 0 rs0).2.1))
set_option maxRecDepth 20000 in
set_option maxHeartbeats 4000000 in
theorem lp_X8_run {g : Gl} {D : Nat} {b : Bool} {I0 : IM} {L : LM} {n B m : Nat} {p : Pg} (hD : 2 ≤ D) (h0 : NR I0 n p) (hw : WfB B p n) (hB : B ≤ 16) (hm : m ≤ 2000) {post : Option Value → Bool → IM → LM → Prop} (hp : ∀ I', VX I' p n m → FN I0 I' → post none b I' L) : ∀ f c i s I l3 l4 l5 l6, c + f = m → i ≤ n → rnF p n m 0 0 rs0 = rnF p n f c i s → VR I s c → OKR s → uC s ≤ c → FN I0 I → Wp (Kn g D MX8_runNow post) (Tb b) 69 [some (rf g 71), some (.int (nI m)), some (.int (nI i)), l3, l4, l5, l6] [] I L := by
  have hn := h0.1
  intro f
  have fin : ∀ c i s I l3 l4 l5 l6, i ≤ n → rnF p n m 0 0 rs0 = (c, i, s) → VR I s c → FN I0 I → Wp (Kn g D MX8_runNow post) (Tb b) 407 [some (rf g 71), some (.int (nI m)), some (.int (nI i)), l3, l4, l5, l6] [] I L := by
    intro c i s I l3 l4 l5 l6 hin he hU fv
    have h4 := (FN_NR fv h0).2.1
    have done : ∀ v, v = bI (decide (n ≤ i)) → post none b (va_up I 71 (va_up (I 71) 49 v)) L := by
      intro v hv
      have n0 : ∀ z, z ≠ 71 → va_up I 71 (va_up (I 71) 49 v) z = I z := fun z hz => va_up_ne _ _ hz
      refine hp _ ⟨?_, ?_⟩ (fv.trans ⟨fun x hx => n0 x (by simp at hx; omega), fun z hz => by rw [va_up_self, va_up_ne _ _ (by simp at hz; omega)]⟩)
      · rw [he]
        obtain ⟨u1, u2, u3, u4, u5, u6, u7, u8⟩ := hU
        exact ⟨fun x hx => by rw [n0 98 (by decide)]; exact u1 x hx, fun x hx => by rw [n0 99 (by decide)]; exact u2 x hx, fun j hj => by rw [n0 100 (by decide)]; exact u3 j hj, by rw [va_up_self, va_up_ne _ _ (by decide)]; exact u4, by rw [va_up_self, va_up_ne _ _ (by decide)]; exact u5, by rw [va_up_self, va_up_ne _ _ (by decide)]; exact u6, by rw [va_up_self, va_up_ne _ _ (by decide)]; exact u7, by rw [va_up_self, va_up_ne _ _ (by decide)]; exact u8⟩
      · rw [he, va_up_self, va_up_self]; exact hv
    refine wq_bload_n 408 0 dX8_runNow_407 rfl rfl rfl ?_
    refine wq_iload_n 409 2 dX8_runNow_408 rfl rfl rfl ?_
    refine wq_bload_n 410 0 dX8_runNow_409 rfl rfl rfl ?_
    refine wq_getI 413 fl_X8_148 dX8_runNow_410 rfl rfl o_71 ?_
    refine wq_ic_lt 416 420 dX8_runNow_413 rfl (by decide) (fun c413 => ?_) (fun c413 => ?_)
    · skip
      refine wq_iconst 421 0 dX8_runNow_420 rfl (by decide) ?_
      refine wq_putI 424 fl_X8_335 dX8_runNow_421 rfl rfl rfl rfl rfl o_71 ?_
      refine rr dX8_runNow_424 rfl ?_
      rw [h4] at c413
      exact done _ (by rw [decide_eq_false (fun z => nI_nlt (b := n) (a := i) z (by omega) c413)]; rfl)
    · skip
      refine wq_iconst 417 1 dX8_runNow_416 rfl (by decide) ?_
      refine wq_goto 421 dX8_runNow_417 (by decide) ?_
      refine wq_putI 424 fl_X8_335 dX8_runNow_421 rfl rfl rfl rfl rfl o_71 ?_
      refine rr dX8_runNow_424 rfl ?_
      rw [h4] at c413
      exact done _ (by rw [decide_eq_true (Decidable.byContradiction (fun z => c413 (nI_lt (by omega) (by omega))))]; rfl)
  induction f with
  | zero =>
    intro c i s I l3 l4 l5 l6 hc hin he hU hok hC fv
    have ec : c = m := by omega
    subst ec
    have h4 := (FN_NR fv h0).2.1
    have h46 := hU.2.2.2.2.2.1
    by_cases c1 : i < n
    · skip
      refine wq_iload_n 70 2 dX8_runNow_69 rfl rfl rfl ?_
      refine wq_bload_n 71 0 dX8_runNow_70 rfl rfl rfl ?_
      refine wq_getI 74 fl_X8_148 dX8_runNow_71 rfl rfl o_71 ?_
      refine wq_ic_ge 77 407 dX8_runNow_74 rfl (by decide) (fun c74 => absurd c74 (by rw [h4]; exact nI_ge c1 (by omega))) (fun c74 => ?_)
      refine wq_bload_n 78 0 dX8_runNow_77 rfl rfl rfl ?_
      refine wq_getI 81 fl_X8_325 dX8_runNow_78 rfl rfl o_71 ?_
      refine wq_iload_n 82 1 dX8_runNow_81 rfl rfl rfl ?_
      refine wq_ic_ge 85 407 dX8_runNow_82 rfl (by decide) (fun c82 => ?_) (fun c82 => absurd (by rw [h46]; exact nI_le (Nat.le_refl _) (by omega)) c82)
      exact fin c i s I _ _ _ _ hin he hU fv
    · skip
      refine wq_iload_n 70 2 dX8_runNow_69 rfl rfl rfl ?_
      refine wq_bload_n 71 0 dX8_runNow_70 rfl rfl rfl ?_
      refine wq_getI 74 fl_X8_148 dX8_runNow_71 rfl rfl o_71 ?_
      refine wq_ic_ge 77 407 dX8_runNow_74 rfl (by decide) (fun c74 => ?_) (fun c74 => absurd (by rw [h4]; exact nI_le (by omega) (by omega)) c74)
      exact fin c i s I _ _ _ _ hin he hU fv
  | succ f ih =>
    intro c i s I l3 l4 l5 l6 hc hin he hU hok hC fv
    have hNI := FN_NR fv h0
    have h4 := hNI.2.1
    have h46 := hU.2.2.2.2.2.1
    by_cases c1 : i < n
    · obtain ⟨k, x, y, z, hF⟩ := row_form hw c1
      have hokn := OKR_step hF hok
      have hCn := uC_le (p := p) (i := i) (s := s)
      have goon : ∀ I2 l3 l4 l6 nx, nx = nI (rnN p n i s) → VR I2 (rnS p i s) (c + 1) → FN I I2 → Wp (Kn g D MX8_runNow post) (Tb b) 401 [some (rf g 71), some (.int (nI m)), some (.int (nI i)), l3, l4, some (.int nx), l6] [] I2 L := by
        intro I2 l3 l4 l6 nx hnx hV2 fn2
        subst hnx
        refine wq_iload 403 dX8_runNow_401 rfl rfl ?_
        refine wq_istore_n 404 2 [_, _, _, _, _, _, _] dX8_runNow_403 rfl rfl rfl (Nat.le_of_ble_eq_true rfl) rfl ?_
        refine wq_goto 69 dX8_runNow_404 (by decide) ?_
        exact ih (c + 1) (rnN p n i s) (rnS p i s) I2 _ _ _ _ (by omega) (rnN_le hn c1) (by rw [he, rnF, if_pos c1]) hV2 hokn (by omega) (fv.trans fn2)
      obtain ⟨q0, q1, q2, q3⟩ := hNI.2.2 i c1
      obtain ⟨k9, e0, e1, x64, xB, -, f1, f2, yB, f5, f3, -, -, -⟩ := hF
      have hk9 : k = 0 ∨ k = 1 ∨ k = 2 ∨ k = 3 ∨ k = 4 ∨ k = 5 ∨ k = 6 ∨ k = 7 ∨ k = 8 := by omega
      have next : ¬ k = 6 → nI i + 1 = nI (rnN p n i s) := fun hk => by
        rw [rnN, if_neg, nI_succ]
        intro z
        rw [e0] at z
        exact hk ((nI_eq (a := k) (b := 6) (by omega) (by decide)).mp z.1)
      have x16 : k ≠ 5 → x < 16 := fun z => by have := xB z; omega
      have y16 : k = 1 ∨ k = 2 ∨ k = 3 → y < 16 := fun z => by have := yB z; omega
      refine wq_iload_n 70 2 dX8_runNow_69 rfl rfl rfl ?_
      refine wq_bload_n 71 0 dX8_runNow_70 rfl rfl rfl ?_
      refine wq_getI 74 fl_X8_148 dX8_runNow_71 rfl rfl o_71 ?_
      refine wq_ic_ge 77 407 dX8_runNow_74 rfl (by decide) (fun c74 => absurd c74 (by rw [h4]; exact nI_ge c1 (by omega))) (fun c74 => ?_)
      refine wq_bload_n 78 0 dX8_runNow_77 rfl rfl rfl ?_
      refine wq_getI 81 fl_X8_325 dX8_runNow_78 rfl rfl o_71 ?_
      refine wq_iload_n 82 1 dX8_runNow_81 rfl rfl rfl ?_
      refine wq_ic_ge 85 407 dX8_runNow_82 rfl (by decide) (fun c82 => absurd c82 (by rw [h46]; exact nI_ge (by omega) (by omega))) (fun c82 => ?_)
      refine wq_bload_n 86 0 dX8_runNow_85 rfl rfl rfl ?_
      refine wq_dup 87 dX8_runNow_86 rfl rfl ?_
      refine wq_getI 90 fl_X8_325 dX8_runNow_87 rfl rfl o_71 ?_
      refine wq_iconst 91 1 dX8_runNow_90 rfl (by decide) ?_
      refine wq_iadd 92 dX8_runNow_91 rfl ?_
      rw [h46, ← nI_succ]
      refine wq_putI 95 fl_X8_325 dX8_runNow_92 rfl rfl rfl rfl rfl o_71 ?_
      refine wq_gen (fun I1 L1 eI1 eL1 => ?_)
      rw [eL1]
      clear eL1
      have n0 : ∀ z, z ≠ 71 → I1 z = I z := fun z hz => by rw [eI1, va_up_ne _ _ hz]
      have i71 : I1 71 = va_up (I 71) 46 (nI (c + 1)) := by rw [eI1, va_up_self]
      clear eI1
      have hV : VR I1 s (c + 1) := by
        obtain ⟨u1, u2, u3, u4, u5, u6, u7, u8⟩ := hU
        exact ⟨fun x hx => by rw [n0 98 (by decide)]; exact u1 x hx, fun x hx => by rw [n0 99 (by decide)]; exact u2 x hx, fun j hj => by rw [n0 100 (by decide)]; exact u3 j hj, by rw [i71, va_up_ne _ _ (by decide)]; exact u4, by rw [i71, va_up_ne _ _ (by decide)]; exact u5, by rw [i71, va_up_self], by rw [i71, va_up_ne _ _ (by decide)]; exact u7, by rw [i71, va_up_ne _ _ (by decide)]; exact u8⟩
      have fn1 : FN I I1 := ⟨fun x hx => n0 x (by simp at hx; omega), fun z hz => by rw [i71, va_up_ne _ _ (by simp at hz; omega)]⟩
      have hN1 : NR I1 n p := FN_NR fn1 hNI
      rw [← n0 77 (by decide)] at q0
      rw [← n0 78 (by decide)] at q1
      rw [← n0 79 (by decide)] at q2
      rw [← n0 80 (by decide)] at q3
      refine wq_bload_n 96 0 dX8_runNow_95 rfl rfl rfl ?_
      refine wq_getR 99 fl_X8_32 dX8_runNow_96 rfl rfl o_71 (rfl : (Tb _).2.2.2 71 10 = some 78) ?_
      refine wq_iload_n 100 2 dX8_runNow_99 rfl rfl rfl ?_
      refine wq_iald 101 dX8_runNow_100 rfl a_78 (Ix.nI (by omega) (by decide)) ?_
      rw [q1, e1]
      refine wq_istore_n 102 3 [_, _, _, _, _, _, _] dX8_runNow_101 rfl rfl rfl (Nat.le_of_ble_eq_true rfl) rfl ?_
      refine wq_bload_n 103 0 dX8_runNow_102 rfl rfl rfl ?_
      refine wq_getR 106 fl_X8_35 dX8_runNow_103 rfl rfl o_71 (rfl : (Tb _).2.2.2 71 11 = some 79) ?_
      refine wq_iload_n 107 2 dX8_runNow_106 rfl rfl rfl ?_
      refine wq_iald 108 dX8_runNow_107 rfl a_79 (Ix.nI (by omega) (by decide)) ?_
      rw [q2]
      refine wq_istore 110 [_, _, _, _, _, _, _] dX8_runNow_108 rfl rfl (Nat.le_of_ble_eq_true rfl) rfl ?_
      refine wq_iload_n 111 2 dX8_runNow_110 rfl rfl rfl ?_
      refine wq_iconst 112 1 dX8_runNow_111 rfl (by decide) ?_
      refine wq_iadd 113 dX8_runNow_112 rfl ?_
      refine wq_istore 115 [_, _, _, _, _, _, _] dX8_runNow_113 rfl rfl (Nat.le_of_ble_eq_true rfl) rfl ?_
      refine wq_bload_n 116 0 dX8_runNow_115 rfl rfl rfl ?_
      refine wq_getR 119 fl_X8_29 dX8_runNow_116 rfl rfl o_71 (rfl : (Tb _).2.2.2 71 9 = some 77) ?_
      refine wq_iload_n 120 2 dX8_runNow_119 rfl rfl rfl ?_
      refine wq_iald 121 dX8_runNow_120 rfl a_77 (Ix.nI (by omega) (by decide)) ?_
      rw [q0, e0]
      rcases hk9 with rfl | rfl | rfl | rfl | rfl | rfl | rfl | rfl | rfl
      · skip
        have eS : rnS p i s = puS s x y := by rw [rnS, e0, if_pos (by decide), e1, cN_n x64, (f2 (by decide)).1, cN_n (f2 (by decide)).2]
        obtain ⟨e2, y64⟩ := f2 (by decide)
        rw [e2]
        have hx16 := x16 (by decide)
        have vx := hV.1 x hx16
        have bx := hok.1 x x64
        have eN := next (by decide)
        refine wq_tabIn 172 dX8_runNow_121 (by decide) (by decide) rfl (by decide) ?_
        refine wq_bload_n 173 0 dX8_runNow_172 rfl rfl rfl ?_
        refine wq_getR 176 fl_X8_94 dX8_runNow_173 rfl rfl o_71 (rfl : (Tb _).2.2.2 71 41 = some 98) ?_
        refine wq_iload_n 177 3 dX8_runNow_176 rfl rfl rfl ?_
        refine wq_iload 179 dX8_runNow_177 rfl rfl ?_
        refine wq_iast 180 dX8_runNow_179 rfl a_98 (Ix.nI (by omega) (by decide)) ?_
        refine wq_goto 401 dX8_runNow_180 (by decide) ?_
        have q := VR_pu (x := x) (v := y) hV
        exact goon _ _ _ _ _ eN (by rw [eS]; exact q.1) (fn1.trans q.2)
      · skip
        have eS : rnS p i s = puS s x (uV s y) := by rw [rnS, e0, if_neg (by decide), if_pos (by decide), e1, cN_n x64, (f2 (by decide)).1, cN_n (f2 (by decide)).2]
        obtain ⟨e2, y64⟩ := f2 (by decide)
        rw [e2]
        have hx16 := x16 (by decide)
        have vx := hV.1 x hx16
        have bx := hok.1 x x64
        have hy16 := y16 (by decide)
        have vy := hV.1 y hy16
        have by_ := hok.1 y y64
        have eN := next (by decide)
        refine wq_tabIn 183 dX8_runNow_121 (by decide) (by decide) rfl (by decide) ?_
        refine wq_bload_n 184 0 dX8_runNow_183 rfl rfl rfl ?_
        refine wq_getR 187 fl_X8_94 dX8_runNow_184 rfl rfl o_71 (rfl : (Tb _).2.2.2 71 41 = some 98) ?_
        refine wq_iload_n 188 3 dX8_runNow_187 rfl rfl rfl ?_
        refine wq_bload_n 189 0 dX8_runNow_188 rfl rfl rfl ?_
        refine wq_getR 192 fl_X8_94 dX8_runNow_189 rfl rfl o_71 (rfl : (Tb _).2.2.2 71 41 = some 98) ?_
        refine wq_iload 194 dX8_runNow_192 rfl rfl ?_
        refine wq_iald 195 dX8_runNow_194 rfl a_98 (Ix.nI (by omega) (by decide)) ?_
        rw [vy]
        refine wq_iast 196 dX8_runNow_195 rfl a_98 (Ix.nI (by omega) (by decide)) ?_
        refine wq_goto 401 dX8_runNow_196 (by decide) ?_
        have q := VR_pu (x := x) (v := (uV s y)) hV
        exact goon _ _ _ _ _ eN (by rw [eS]; exact q.1) (fn1.trans q.2)
      · skip
        have eS : rnS p i s = puS s x ((uV s y + uV s z) % 1000) := by rw [rnS, e0, if_neg (by decide), if_neg (by decide), if_pos (by decide), e1, cN_n x64, (f2 (by decide)).1, cN_n (f2 (by decide)).2, (f3 rfl).1, cN_n (f3 rfl).2.2]
        obtain ⟨e2, y64⟩ := f2 (by decide)
        rw [e2]
        have hx16 := x16 (by decide)
        have vx := hV.1 x hx16
        have bx := hok.1 x x64
        have hy16 := y16 (by decide)
        have vy := hV.1 y hy16
        have by_ := hok.1 y y64
        obtain ⟨e3, zB, z64⟩ := f3 rfl
        have z16 : z < 16 := by omega
        have vz := hV.1 z z16
        have bz := hok.1 z z64
        have eN := next (by decide)
        refine wq_tabIn 199 dX8_runNow_121 (by decide) (by decide) rfl (by decide) ?_
        refine wq_bload_n 200 0 dX8_runNow_199 rfl rfl rfl ?_
        refine wq_getR 203 fl_X8_94 dX8_runNow_200 rfl rfl o_71 (rfl : (Tb _).2.2.2 71 41 = some 98) ?_
        refine wq_iload_n 204 3 dX8_runNow_203 rfl rfl rfl ?_
        refine wq_bload_n 205 0 dX8_runNow_204 rfl rfl rfl ?_
        refine wq_getR 208 fl_X8_94 dX8_runNow_205 rfl rfl o_71 (rfl : (Tb _).2.2.2 71 41 = some 98) ?_
        refine wq_iload 210 dX8_runNow_208 rfl rfl ?_
        refine wq_iald 211 dX8_runNow_210 rfl a_98 (Ix.nI (by omega) (by decide)) ?_
        rw [vy]
        refine wq_bload_n 212 0 dX8_runNow_211 rfl rfl rfl ?_
        refine wq_getR 215 fl_X8_94 dX8_runNow_212 rfl rfl o_71 (rfl : (Tb _).2.2.2 71 41 = some 98) ?_
        refine wq_bload_n 216 0 dX8_runNow_215 rfl rfl rfl ?_
        refine wq_getR 219 fl_X8_38 dX8_runNow_216 rfl rfl o_71 (rfl : (Tb _).2.2.2 71 12 = some 80) ?_
        refine wq_iload_n 220 2 dX8_runNow_219 rfl rfl rfl ?_
        refine wq_iald 221 dX8_runNow_220 rfl a_80 (Ix.nI (by omega) (by decide)) ?_
        refine wq_iald 222 dX8_runNow_221 rfl a_98 (by rw [q3, e3]; exact Ix.nI (by omega) (by decide)) ?_
        rw [vz]
        refine wq_iadd 223 dX8_runNow_222 rfl ?_
        refine wq_sipush 226 1000 dX8_runNow_223 rfl (by decide) ?_
        refine wq_irem 227 dX8_runNow_226 rfl (by decide) ?_
        rw [nI_add, show (1000 : Int32) = nI 1000 from rfl, pk_rem (by omega) (by decide) (by decide)]
        refine wq_iast 228 dX8_runNow_227 rfl a_98 (Ix.nI (by omega) (by decide)) ?_
        refine wq_goto 401 dX8_runNow_228 (by decide) ?_
        have q := VR_pu (x := x) (v := ((uV s y + uV s z) % 1000)) hV
        exact goon _ _ _ _ _ eN (by rw [eS]; exact q.1) (fn1.trans q.2)
      · skip
        have eS : rnS p i s = puS s x (uV s y - 1) := by rw [rnS, e0, if_neg (by decide), if_neg (by decide), if_neg (by decide), if_pos (by decide), e1, cN_n x64, (f2 (by decide)).1, cN_n (f2 (by decide)).2]
        obtain ⟨e2, y64⟩ := f2 (by decide)
        rw [e2]
        have hx16 := x16 (by decide)
        have vx := hV.1 x hx16
        have bx := hok.1 x x64
        have hy16 := y16 (by decide)
        have vy := hV.1 y hy16
        have by_ := hok.1 y y64
        have eN := next (by decide)
        refine wq_tabIn 231 dX8_runNow_121 (by decide) (by decide) rfl (by decide) ?_
        by_cases v0 : uV s y = 0
        · skip
          refine wq_bload_n 232 0 dX8_runNow_231 rfl rfl rfl ?_
          refine wq_getR 235 fl_X8_94 dX8_runNow_232 rfl rfl o_71 (rfl : (Tb _).2.2.2 71 41 = some 98) ?_
          refine wq_iload_n 236 3 dX8_runNow_235 rfl rfl rfl ?_
          refine wq_bload_n 237 0 dX8_runNow_236 rfl rfl rfl ?_
          refine wq_getR 240 fl_X8_94 dX8_runNow_237 rfl rfl o_71 (rfl : (Tb _).2.2.2 71 41 = some 98) ?_
          refine wq_iload 242 dX8_runNow_240 rfl rfl ?_
          refine wq_iald 243 dX8_runNow_242 rfl a_98 (Ix.nI (by omega) (by decide)) ?_
          refine wq_if_le 246 258 dX8_runNow_243 rfl (by decide) (fun c243 => ?_) (fun c243 => absurd (by rw [vy, v0]; decide) c243)
          refine wq_iconst 259 0 dX8_runNow_258 rfl (by decide) ?_
          refine wq_iast 260 dX8_runNow_259 rfl a_98 (Ix.nI (by omega) (by decide)) ?_
          refine wq_goto 401 dX8_runNow_260 (by decide) ?_
          have q := VR_pu (x := x) (v := (uV s y - 1)) hV
          rw [show (0 : Int32) = nI (uV s y - 1) by rw [v0]; rfl]
          exact goon _ _ _ _ _ eN (by rw [eS]; exact q.1) (fn1.trans q.2)
        · skip
          refine wq_bload_n 232 0 dX8_runNow_231 rfl rfl rfl ?_
          refine wq_getR 235 fl_X8_94 dX8_runNow_232 rfl rfl o_71 (rfl : (Tb _).2.2.2 71 41 = some 98) ?_
          refine wq_iload_n 236 3 dX8_runNow_235 rfl rfl rfl ?_
          refine wq_bload_n 237 0 dX8_runNow_236 rfl rfl rfl ?_
          refine wq_getR 240 fl_X8_94 dX8_runNow_237 rfl rfl o_71 (rfl : (Tb _).2.2.2 71 41 = some 98) ?_
          refine wq_iload 242 dX8_runNow_240 rfl rfl ?_
          refine wq_iald 243 dX8_runNow_242 rfl a_98 (Ix.nI (by omega) (by decide)) ?_
          refine wq_if_le 246 258 dX8_runNow_243 rfl (by decide) (fun c243 => absurd c243 (by rw [vy]; exact nI_ge (a := 0) (b := uV s y) (by omega) (by omega))) (fun c243 => ?_)
          refine wq_bload_n 247 0 dX8_runNow_246 rfl rfl rfl ?_
          refine wq_getR 250 fl_X8_94 dX8_runNow_247 rfl rfl o_71 (rfl : (Tb _).2.2.2 71 41 = some 98) ?_
          refine wq_iload 252 dX8_runNow_250 rfl rfl ?_
          refine wq_iald 253 dX8_runNow_252 rfl a_98 (Ix.nI (by omega) (by decide)) ?_
          rw [vy]
          refine wq_iconst 254 1 dX8_runNow_253 rfl (by decide) ?_
          refine wq_isub 255 dX8_runNow_254 rfl ?_
          refine wq_goto 259 dX8_runNow_255 (by decide) ?_
          rw [show nI (uV s y) - 1 = nI (uV s y - 1) by obtain ⟨u, hu⟩ : ∃ u, uV s y = u + 1 := ⟨uV s y - 1, by omega⟩; rw [hu, nI_pred]; rfl]
          refine wq_iast 260 dX8_runNow_259 rfl a_98 (Ix.nI (by omega) (by decide)) ?_
          refine wq_goto 401 dX8_runNow_260 (by decide) ?_
          have q := VR_pu (x := x) (v := (uV s y - 1)) hV
          exact goon _ _ _ _ _ eN (by rw [eS]; exact q.1) (fn1.trans q.2)
      · skip
        have eS : rnS p i s = teS s (uV s x) := by rw [rnS, e0, if_neg (by decide), if_neg (by decide), if_neg (by decide), if_neg (by decide), if_pos (by decide), e1, cN_n x64]
        have hx16 := x16 (by decide)
        have vx := hV.1 x hx16
        have bx := hok.1 x x64
        have eN := next (by decide)
        refine wq_tabIn 263 dX8_runNow_121 (by decide) (by decide) rfl (by decide) ?_
        refine wq_bload_n 264 0 dX8_runNow_263 rfl rfl rfl ?_
        refine wq_getR 267 fl_X8_100 dX8_runNow_264 rfl rfl o_71 (rfl : (Tb _).2.2.2 71 43 = some 100) ?_
        refine wq_bload_n 268 0 dX8_runNow_267 rfl rfl rfl ?_
        refine wq_getI 271 fl_X8_319 dX8_runNow_268 rfl rfl o_71 ?_
        refine wq_bload_n 272 0 dX8_runNow_271 rfl rfl rfl ?_
        refine wq_getR 275 fl_X8_94 dX8_runNow_272 rfl rfl o_71 (rfl : (Tb _).2.2.2 71 41 = some 98) ?_
        refine wq_iload_n 276 3 dX8_runNow_275 rfl rfl rfl ?_
        refine wq_iald 277 dX8_runNow_276 rfl a_98 (Ix.nI (by omega) (by decide)) ?_
        refine wq_iast 278 dX8_runNow_277 rfl a_100 (by rw [hV.2.2.2.1]; exact Ix.nI (by omega) (by decide)) ?_
        refine wq_bload_n 279 0 dX8_runNow_278 rfl rfl rfl ?_
        refine wq_dup 280 dX8_runNow_279 rfl rfl ?_
        refine wq_getI 283 fl_X8_319 dX8_runNow_280 rfl rfl o_71 ?_
        refine wq_iconst 284 1 dX8_runNow_283 rfl (by decide) ?_
        refine wq_iadd 285 dX8_runNow_284 rfl ?_
        refine wq_putI 288 fl_X8_319 dX8_runNow_285 rfl rfl rfl rfl rfl o_71 ?_
        refine wq_bload_n 289 0 dX8_runNow_288 rfl rfl rfl ?_
        refine wq_bipush 291 31 dX8_runNow_289 rfl (by decide) ?_
        refine wq_bload_n 292 0 dX8_runNow_291 rfl rfl rfl ?_
        refine wq_getI 295 fl_X8_322 dX8_runNow_292 rfl rfl o_71 ?_
        refine wq_imul 296 dX8_runNow_295 rfl ?_
        refine wq_bload_n 297 0 dX8_runNow_296 rfl rfl rfl ?_
        refine wq_getR 300 fl_X8_94 dX8_runNow_297 rfl rfl o_71 (rfl : (Tb _).2.2.2 71 41 = some 98) ?_
        refine wq_iload_n 301 3 dX8_runNow_300 rfl rfl rfl ?_
        refine wq_iald 302 dX8_runNow_301 rfl a_98 (Ix.nI (by omega) (by decide)) ?_
        refine wq_iadd 303 dX8_runNow_302 rfl ?_
        refine wq_ldcw 306 (1000003) dX8_runNow_303 rfl kc_X8_334 ?_
        refine wq_irem 307 dX8_runNow_306 rfl (by decide) ?_
        refine wq_putI 310 fl_X8_322 dX8_runNow_307 rfl rfl rfl rfl rfl o_71 ?_
        refine wq_goto 401 dX8_runNow_310 (by decide) ?_
        refine wq_gen (fun I2 L2 eI2 eL2 => ?_)
        rw [eL2]
        clear eL2
        obtain ⟨u1, u2, u3, u4, u5, u6, u7, u8⟩ := hV
        have uD3 := hok.2.2
        have m71 : I2 71 = va_up (va_up (I1 71) 44 (nI (uC s + 1))) 45 (nI ((31 * uD s + uV s x) % 1000003)) := by
          rw [eI2]
          simp only [va_up_self, va_up_ne _ _ (show 98 ≠ 71 by decide), va_up_ne _ _ (show 98 ≠ 100 by decide), va_up_ne _ _ (show 71 ≠ 100 by decide), va_up_ne _ _ (show (45 : Nat) ≠ 44 by decide)]
          rw [u4, u5, vx, ← nI_succ, show (31 : Int32) = nI 31 from rfl, show (1000003 : Int32) = nI 1000003 from rfl, pk_mul, nI_add, pk_rem (by omega) (by decide) (by decide)]
        have m100 : I2 100 = va_up (I1 100) (uC s) (nI (uV s x)) := by
          rw [eI2]
          simp only [va_up_self, va_up_ne _ _ (show 100 ≠ 71 by decide)]
          rw [vx]
        have mx : ∀ z, z ≠ 71 → z ≠ 100 → I2 z = I1 z := fun z z1 z2 => by rw [eI2]; simp [va_up, z1, z2]
        refine goon _ _ _ _ _ eN ?_ (fn1.trans ⟨fun z hz => mx z (by simp at hz; omega) (by simp at hz; omega), fun z hz => by rw [m71, va_up_ne _ _ (by simp at hz; omega), va_up_ne _ _ (by simp at hz; omega)]⟩)
        rw [eS]
        refine ⟨fun u hu => by rw [mx 98 (by decide) (by decide)]; exact u1 u hu, fun u hu => by rw [mx 99 (by decide) (by decide)]; exact u2 u hu, fun j hj => ?_, by rw [m71, va_up_ne _ _ (by decide), va_up_self]; rfl, by rw [m71, va_up_self]; rfl, by rw [m71, va_up_ne _ _ (by decide), va_up_ne _ _ (by decide)]; exact u6, by rw [m71, va_up_ne _ _ (by decide), va_up_ne _ _ (by decide)]; exact u7, by rw [m71, va_up_ne _ _ (by decide), va_up_ne _ _ (by decide)]; exact u8⟩
        rw [m100]
        show va_up (I1 100) (uC s) (nI (uV s x)) j = nI (va_up (uT s) (uC s) (uV s x) j)
        by_cases e : j = uC s
        · rw [e, va_up_self, va_up_self]
        · have hj' : j < uC s + 1 := hj
          rw [va_up_ne _ _ e, va_up_ne _ _ e]; exact u3 j (by omega)
      · skip
        have eS : rnS p i s = s := by rw [rnS, e0, if_neg (by decide), if_neg (by decide), if_neg (by decide), if_neg (by decide), if_neg (by decide), if_neg (by decide), if_neg (by decide)]
        have eN := next (by decide)
        refine wq_tabIn 401 dX8_runNow_121 (by decide) (by decide) rfl (by decide) ?_
        exact goon _ _ _ _ _ eN (by rw [eS]; exact hV) fn1
      · skip
        have eS : rnS p i s = s := by rw [rnS, e0, if_neg (by decide), if_neg (by decide), if_neg (by decide), if_neg (by decide), if_neg (by decide), if_neg (by decide), if_neg (by decide)]
        obtain ⟨e2, y64⟩ := f2 (by decide)
        rw [e2]
        have hx16 := x16 (by decide)
        have vx := hV.1 x hx16
        have bx := hok.1 x x64
        refine wq_tabIn 313 dX8_runNow_121 (by decide) (by decide) rfl (by decide) ?_
        by_cases c0 : uV s x = 0
        · have eN : rnN p n i s = i + 1 := by rw [rnN, if_neg (fun z => z.2 (by rw [e1, cN_n x64]; exact c0))]
          refine wq_bload_n 314 0 dX8_runNow_313 rfl rfl rfl ?_
          refine wq_getR 317 fl_X8_94 dX8_runNow_314 rfl rfl o_71 (rfl : (Tb _).2.2.2 71 41 = some 98) ?_
          refine wq_iload_n 318 3 dX8_runNow_317 rfl rfl rfl ?_
          refine wq_iald 319 dX8_runNow_318 rfl a_98 (Ix.nI (by omega) (by decide)) ?_
          refine wq_if_eq 322 401 dX8_runNow_319 rfl (by decide) (fun c319 => ?_) (fun c319 => absurd (by rw [vx, c0]; rfl) c319)
          exact goon _ _ _ _ _ (by rw [eN, nI_succ]) (by rw [eS]; exact hV) fn1
        · have c2 : ¬ I1 98 x = 0 := fun z => c0 ((nI_eq (a := uV s x) (b := 0) (by omega) (by decide)).mp (by rw [← vx]; exact z))
          have eN : rnN p n i s = if Lb p y n < 0 then n else cN (Lb p y n) := by rw [rnN, if_pos ⟨by rw [e0]; rfl, by rw [e1, cN_n x64]; exact c0⟩, e2, cN_n y64]
          rcases Lb_N p y n hn with q | ⟨q1', q2', q3'⟩
          · skip
            refine wq_bload_n 314 0 dX8_runNow_313 rfl rfl rfl ?_
            refine wq_getR 317 fl_X8_94 dX8_runNow_314 rfl rfl o_71 (rfl : (Tb _).2.2.2 71 41 = some 98) ?_
            refine wq_iload_n 318 3 dX8_runNow_317 rfl rfl rfl ?_
            refine wq_iald 319 dX8_runNow_318 rfl a_98 (Ix.nI (by omega) (by decide)) ?_
            refine wq_if_eq 322 401 dX8_runNow_319 rfl (by decide) (fun c319 => absurd c319 c2) (fun c319 => ?_)
            refine wq_bload_n 323 0 dX8_runNow_322 rfl rfl rfl ?_
            refine wq_iload 325 dX8_runNow_323 rfl rfl ?_
            refine cVi1 328 (sp_X8_labelOf hN1 y rfl) ml_X8_155 mf_X8_labelOf dX8_runNow_325 rfl o_71 (by decide) rfl (Nat.le_of_ble_eq_true rfl) (by omega) ?_
            refine wq_istore 330 [_, _, _, _, _, _, _] dX8_runNow_328 rfl rfl (Nat.le_of_ble_eq_true rfl) rfl ?_
            refine wq_iload 332 dX8_runNow_330 rfl rfl ?_
            refine wq_if_ge 335 342 dX8_runNow_332 rfl (by decide) (fun c332 => absurd c332 (fun z => absurd q (Int32.not_lt.mpr z))) (fun c332 => ?_)
            refine wq_bload_n 336 0 dX8_runNow_335 rfl rfl rfl ?_
            refine wq_getI 339 fl_X8_148 dX8_runNow_336 rfl rfl o_71 ?_
            refine wq_goto 344 dX8_runNow_339 (by decide) ?_
            refine wq_istore 346 [_, _, _, _, _, _, _] dX8_runNow_344 rfl rfl (Nat.le_of_ble_eq_true rfl) rfl ?_
            refine wq_goto 401 dX8_runNow_346 (by decide) ?_
            exact goon _ _ _ _ _ (by rw [eN, if_pos q, hN1.2.1]) (by rw [eS]; exact hV) fn1
          · skip
            refine wq_bload_n 314 0 dX8_runNow_313 rfl rfl rfl ?_
            refine wq_getR 317 fl_X8_94 dX8_runNow_314 rfl rfl o_71 (rfl : (Tb _).2.2.2 71 41 = some 98) ?_
            refine wq_iload_n 318 3 dX8_runNow_317 rfl rfl rfl ?_
            refine wq_iald 319 dX8_runNow_318 rfl a_98 (Ix.nI (by omega) (by decide)) ?_
            refine wq_if_eq 322 401 dX8_runNow_319 rfl (by decide) (fun c319 => absurd c319 c2) (fun c319 => ?_)
            refine wq_bload_n 323 0 dX8_runNow_322 rfl rfl rfl ?_
            refine wq_iload 325 dX8_runNow_323 rfl rfl ?_
            refine cVi1 328 (sp_X8_labelOf hN1 y rfl) ml_X8_155 mf_X8_labelOf dX8_runNow_325 rfl o_71 (by decide) rfl (Nat.le_of_ble_eq_true rfl) (by omega) ?_
            refine wq_istore 330 [_, _, _, _, _, _, _] dX8_runNow_328 rfl rfl (Nat.le_of_ble_eq_true rfl) rfl ?_
            refine wq_iload 332 dX8_runNow_330 rfl rfl ?_
            refine wq_if_ge 335 342 dX8_runNow_332 rfl (by decide) (fun c332 => ?_) (fun c332 => absurd (Int32.not_lt.mp q3') c332)
            refine wq_iload 344 dX8_runNow_342 rfl rfl ?_
            refine wq_istore 346 [_, _, _, _, _, _, _] dX8_runNow_344 rfl rfl (Nat.le_of_ble_eq_true rfl) rfl ?_
            refine wq_goto 401 dX8_runNow_346 (by decide) ?_
            exact goon _ _ _ _ _ (by rw [eN, if_neg q3', ← q1']) (by rw [eS]; exact hV) fn1
      · skip
        have eS : rnS p i s = ldS s x y := by rw [rnS, e0, if_neg (by decide), if_neg (by decide), if_neg (by decide), if_neg (by decide), if_neg (by decide), if_pos (by decide), e1, cN_n x64, (f2 (by decide)).1, cN_n (f2 (by decide)).2]
        obtain ⟨e2, y64⟩ := f2 (by decide)
        rw [e2]
        have hx16 := x16 (by decide)
        have vx := hV.1 x hx16
        have bx := hok.1 x x64
        have eN := next (by decide)
        refine wq_tabIn 349 dX8_runNow_121 (by decide) (by decide) rfl (by decide) ?_
        have vs := hV.2.1 y y64
        refine wq_bload_n 350 0 dX8_runNow_349 rfl rfl rfl ?_
        refine wq_getR 353 fl_X8_94 dX8_runNow_350 rfl rfl o_71 (rfl : (Tb _).2.2.2 71 41 = some 98) ?_
        refine wq_iload_n 354 3 dX8_runNow_353 rfl rfl rfl ?_
        refine wq_bload_n 355 0 dX8_runNow_354 rfl rfl rfl ?_
        refine wq_getR 358 fl_X8_97 dX8_runNow_355 rfl rfl o_71 (rfl : (Tb _).2.2.2 71 42 = some 99) ?_
        refine wq_iload 360 dX8_runNow_358 rfl rfl ?_
        refine wq_iald 361 dX8_runNow_360 rfl a_99 (Ix.nI (by omega) (by decide)) ?_
        refine wq_iast 362 dX8_runNow_361 rfl a_98 (Ix.nI (by omega) (by decide)) ?_
        refine wq_bload_n 363 0 dX8_runNow_362 rfl rfl rfl ?_
        refine wq_dup 364 dX8_runNow_363 rfl rfl ?_
        refine wq_getI 367 fl_X8_328 dX8_runNow_364 rfl rfl o_71 ?_
        refine wq_iconst 368 1 dX8_runNow_367 rfl (by decide) ?_
        refine wq_iadd 369 dX8_runNow_368 rfl ?_
        refine wq_putI 372 fl_X8_328 dX8_runNow_369 rfl rfl rfl rfl rfl o_71 ?_
        refine wq_goto 401 dX8_runNow_372 (by decide) ?_
        refine wq_gen (fun I2 L2 eI2 eL2 => ?_)
        rw [eL2]
        clear eL2
        obtain ⟨u1, u2, u3, u4, u5, u6, u7, u8⟩ := hV
        have m71 : I2 71 = va_up (I1 71) 47 (nI (uL s + 1)) := by
          rw [eI2]
          simp only [va_up_self, va_up_ne _ _ (show 71 ≠ 98 by decide)]
          rw [u7, ← nI_succ]
        have mr : I2 98 = va_up (I1 98) x (nI (uS s y)) := by
          rw [eI2]
          simp only [va_up_self, va_up_ne _ _ (show 98 ≠ 71 by decide)]
          rw [vs]
        have mx : ∀ z, z ≠ 71 → z ≠ 98 → I2 z = I1 z := fun z z1 z2 => by rw [eI2]; simp [va_up, z1, z2]
        refine goon _ _ _ _ _ eN ?_ (fn1.trans ⟨fun z hz => mx z (by simp at hz; omega) (by simp at hz; omega), fun z hz => by rw [m71, va_up_ne _ _ (by simp at hz; omega)]⟩)
        rw [eS]
        refine ⟨fun u hu => ?_, fun u hu => ?_, fun j hj => by rw [mx 100 (by decide) (by decide)]; exact u3 j hj, by rw [m71, va_up_ne _ _ (by decide)]; exact u4, by rw [m71, va_up_ne _ _ (by decide)]; exact u5, by rw [m71, va_up_ne _ _ (by decide)]; exact u6, by rw [m71, va_up_self]; rfl, by rw [m71, va_up_ne _ _ (by decide)]; exact u8⟩
        · rw [mr]
          show va_up (I1 98) x (nI (uS s y)) u = nI (va_up (uV s) x (uS s y) u)
          by_cases e : u = x
          · rw [e, va_up_self, va_up_self]
          · rw [va_up_ne _ _ e, va_up_ne _ _ e]; exact u1 u hu
        · rw [mx 99 (by decide) (by decide)]; exact u2 u hu
      · skip
        have eS : rnS p i s = kpS s x y := by rw [rnS, e0, if_neg (by decide), if_neg (by decide), if_neg (by decide), if_neg (by decide), if_neg (by decide), if_neg (by decide), if_pos (by decide), e1, cN_n x64, (f2 (by decide)).1, cN_n (f2 (by decide)).2]
        obtain ⟨e2, y64⟩ := f2 (by decide)
        rw [e2]
        have hx16 := x16 (by decide)
        have vx := hV.1 x hx16
        have bx := hok.1 x x64
        have eN := next (by decide)
        refine wq_tabIn 375 dX8_runNow_121 (by decide) (by decide) rfl (by decide) ?_
        have vs := hV.2.1 y y64
        refine wq_bload_n 376 0 dX8_runNow_375 rfl rfl rfl ?_
        refine wq_getR 379 fl_X8_97 dX8_runNow_376 rfl rfl o_71 (rfl : (Tb _).2.2.2 71 42 = some 99) ?_
        refine wq_iload 381 dX8_runNow_379 rfl rfl ?_
        refine wq_bload_n 382 0 dX8_runNow_381 rfl rfl rfl ?_
        refine wq_getR 385 fl_X8_94 dX8_runNow_382 rfl rfl o_71 (rfl : (Tb _).2.2.2 71 41 = some 98) ?_
        refine wq_iload_n 386 3 dX8_runNow_385 rfl rfl rfl ?_
        refine wq_iald 387 dX8_runNow_386 rfl a_98 (Ix.nI (by omega) (by decide)) ?_
        refine wq_iast 388 dX8_runNow_387 rfl a_99 (Ix.nI (by omega) (by decide)) ?_
        refine wq_bload_n 389 0 dX8_runNow_388 rfl rfl rfl ?_
        refine wq_dup 390 dX8_runNow_389 rfl rfl ?_
        refine wq_getI 393 fl_X8_331 dX8_runNow_390 rfl rfl o_71 ?_
        refine wq_iconst 394 1 dX8_runNow_393 rfl (by decide) ?_
        refine wq_iadd 395 dX8_runNow_394 rfl ?_
        refine wq_putI 398 fl_X8_331 dX8_runNow_395 rfl rfl rfl rfl rfl o_71 ?_
        refine wq_goto 401 dX8_runNow_398 (by decide) ?_
        refine wq_gen (fun I2 L2 eI2 eL2 => ?_)
        rw [eL2]
        clear eL2
        obtain ⟨u1, u2, u3, u4, u5, u6, u7, u8⟩ := hV
        have m71 : I2 71 = va_up (I1 71) 48 (nI (uZ s + 1)) := by
          rw [eI2]
          simp only [va_up_self, va_up_ne _ _ (show 71 ≠ 99 by decide)]
          rw [u8, ← nI_succ]
        have mr : I2 99 = va_up (I1 99) y (nI (uV s x)) := by
          rw [eI2]
          simp only [va_up_self, va_up_ne _ _ (show 99 ≠ 71 by decide)]
          rw [vx]
        have mx : ∀ z, z ≠ 71 → z ≠ 99 → I2 z = I1 z := fun z z1 z2 => by rw [eI2]; simp [va_up, z1, z2]
        refine goon _ _ _ _ _ eN ?_ (fn1.trans ⟨fun z hz => mx z (by simp at hz; omega) (by simp at hz; omega), fun z hz => by rw [m71, va_up_ne _ _ (by simp at hz; omega)]⟩)
        rw [eS]
        refine ⟨fun u hu => ?_, fun u hu => ?_, fun j hj => by rw [mx 100 (by decide) (by decide)]; exact u3 j hj, by rw [m71, va_up_ne _ _ (by decide)]; exact u4, by rw [m71, va_up_ne _ _ (by decide)]; exact u5, by rw [m71, va_up_ne _ _ (by decide)]; exact u6, by rw [m71, va_up_ne _ _ (by decide)]; exact u7, by rw [m71, va_up_self]; rfl⟩
        · rw [mx 98 (by decide) (by decide)]; exact u1 u hu
        · rw [mr]
          show va_up (I1 99) y (nI (uV s x)) u = nI (va_up (uS s) y (uV s x) u)
          by_cases e : u = y
          · rw [e, va_up_self, va_up_self]
          · rw [va_up_ne _ _ e, va_up_ne _ _ e]; exact u2 u hu
    · skip
      refine wq_iload_n 70 2 dX8_runNow_69 rfl rfl rfl ?_
      refine wq_bload_n 71 0 dX8_runNow_70 rfl rfl rfl ?_
      refine wq_getI 74 fl_X8_148 dX8_runNow_71 rfl rfl o_71 ?_
      refine wq_ic_ge 77 407 dX8_runNow_74 rfl (by decide) (fun c74 => ?_) (fun c74 => absurd (by rw [h4]; exact nI_le (by omega) (by omega)) c74)
      exact fin c i s I _ _ _ _ hin (by rw [he, rnF, if_neg c1]) hU fv
set_option maxRecDepth 20000 in
set_option maxHeartbeats 2000000 in
theorem sp_X8_runNow {g : Gl} {D : Nat} {b : Bool} {I : IM} {L : LM} {n B : Nat} {p : Pg} (hD : 2 ≤ D) (h : NR I n p) (hw : WfB B p n) (hB : B ≤ 16) {j : Int32} (m : Nat) (hj : j = nI m) (hm : m ≤ 2000) : Me g D MX8_runNow [rf g 71, .int j] b I L (fun r b' I' L' => r = none ∧ b' = b ∧ L' = L ∧ VX I' p n m ∧ FN I I') := by
  subst hj
  have lp2 : ∀ r q I1, q + r = 64 → (∀ x, x < 16 → I1 98 x = 0) → (∀ x, x < q → I1 99 x = 0) → FN I I1 → Wp (Kn g D MX8_runNow (fun r b' I' L' => r = none ∧ b' = b ∧ L' = L ∧ VX I' p n m ∧ FN I I')) (Tb b) 23 [some (rf g 71), some (.int (nI m)), some (.int (nI q)), none, none, none, none] [] I1 L := by
    intro r
    induction r with
    | zero =>
      intro q I1 hq h1 h2 fn
      have eq : q = 64 := by omega
      subst eq
      refine wq_iload_n 24 2 dX8_runNow_23 rfl rfl rfl ?_
      refine wq_bipush 26 64 dX8_runNow_24 rfl (by decide) ?_
      refine wq_ic_ge 29 42 dX8_runNow_26 rfl (by decide) (fun c26 => ?_) (fun c26 => absurd (by decide) c26)
      refine wq_bload_n 43 0 dX8_runNow_42 rfl rfl rfl ?_
      refine wq_iconst 44 0 dX8_runNow_43 rfl (by decide) ?_
      refine wq_putI 47 fl_X8_319 dX8_runNow_44 rfl rfl rfl rfl rfl o_71 ?_
      refine wq_bload_n 48 0 dX8_runNow_47 rfl rfl rfl ?_
      refine wq_iconst 49 0 dX8_runNow_48 rfl (by decide) ?_
      refine wq_putI 52 fl_X8_322 dX8_runNow_49 rfl rfl rfl rfl rfl o_71 ?_
      refine wq_bload_n 53 0 dX8_runNow_52 rfl rfl rfl ?_
      refine wq_iconst 54 0 dX8_runNow_53 rfl (by decide) ?_
      refine wq_putI 57 fl_X8_325 dX8_runNow_54 rfl rfl rfl rfl rfl o_71 ?_
      refine wq_bload_n 58 0 dX8_runNow_57 rfl rfl rfl ?_
      refine wq_iconst 59 0 dX8_runNow_58 rfl (by decide) ?_
      refine wq_putI 62 fl_X8_328 dX8_runNow_59 rfl rfl rfl rfl rfl o_71 ?_
      refine wq_bload_n 63 0 dX8_runNow_62 rfl rfl rfl ?_
      refine wq_iconst 64 0 dX8_runNow_63 rfl (by decide) ?_
      refine wq_putI 67 fl_X8_331 dX8_runNow_64 rfl rfl rfl rfl rfl o_71 ?_
      refine wq_iconst 68 0 dX8_runNow_67 rfl (by decide) ?_
      refine wq_istore_n 69 2 [_, _, _, _, _, _, _] dX8_runNow_68 rfl rfl rfl (Nat.le_of_ble_eq_true rfl) rfl ?_
      refine wq_gen (fun I2 L2 eI2 eL2 => ?_)
      rw [eL2]
      clear eL2
      have n0 : ∀ z, z ≠ 71 → I2 z = I1 z := fun z hz => by rw [eI2]; simp [va_up, hz]
      have fn2 : FN I1 I2 := ⟨fun x hx => n0 x (by simp at hx; omega), fun z hz => by simp at hz; rw [eI2]; simp [va_up, hz]⟩
      refine lp_X8_run hD h hw hB hm (fun I' q f => ⟨rfl, rfl, rfl, q, f⟩) m 0 0 rs0 I2 _ _ _ _ (by omega) (Nat.zero_le _) rfl ⟨fun x hx => by rw [n0 98 (by decide)]; exact h1 x hx, fun x hx => by rw [n0 99 (by decide)]; exact h2 x hx, fun j hj => absurd hj (Nat.not_lt_zero j), ?_, ?_, ?_, ?_, ?_⟩ ⟨fun _ _ => by show 0 < 1000; omega, fun _ _ => by show 0 < 1000; omega, by show 0 < 1000003; omega⟩ (Nat.le_refl _) (fn.trans fn2)
      · rw [eI2]; simp [va_up]; rfl
      · rw [eI2]; simp [va_up]; rfl
      · rw [eI2]; simp [va_up]; rfl
      · rw [eI2]; simp [va_up]; rfl
      · rw [eI2]; simp [va_up]; rfl
    | succ r ih =>
      intro q I1 hq h1 h2 fn
      refine wq_iload_n 24 2 dX8_runNow_23 rfl rfl rfl ?_
      refine wq_bipush 26 64 dX8_runNow_24 rfl (by decide) ?_
      refine wq_ic_ge 29 42 dX8_runNow_26 rfl (by decide) (fun c26 => absurd c26 (nI_ge (b := 64) (by omega) (by decide))) (fun c26 => ?_)
      refine wq_bload_n 30 0 dX8_runNow_29 rfl rfl rfl ?_
      refine wq_getR 33 fl_X8_97 dX8_runNow_30 rfl rfl o_71 (rfl : (Tb _).2.2.2 71 42 = some 99) ?_
      refine wq_iload_n 34 2 dX8_runNow_33 rfl rfl rfl ?_
      refine wq_iconst 35 0 dX8_runNow_34 rfl (by decide) ?_
      refine wq_iast 36 dX8_runNow_35 rfl a_99 (Ix.nI (by omega) (by decide)) ?_
      refine wq_iinc 39 (_ + 1) [_, _, _, _, _, _, _] dX8_runNow_36 rfl rfl (inc1 _) rfl (Nat.le_of_ble_eq_true rfl) rfl ?_
      refine wq_goto 23 dX8_runNow_39 (by decide) ?_
      rw [← nI_succ]
      refine ih (q + 1) _ (by omega) (fun x hx => by rw [va_up_ne _ _ (by decide)]; exact h1 x hx) (fun x hx => ?_) (fn.trans ⟨fun x hx => va_up_ne _ _ (by simp at hx; omega), fun z _ => by rw [va_up_ne _ _ (by decide)]⟩)
      rw [va_up_self]
      by_cases e : x = q
      · rw [e, va_up_self]
      · rw [va_up_ne _ _ e]; exact h2 x (by omega)
  have lp1 : ∀ r q I1, q + r = 16 → (∀ x, x < q → I1 98 x = 0) → FN I I1 → Wp (Kn g D MX8_runNow (fun r b' I' L' => r = none ∧ b' = b ∧ L' = L ∧ VX I' p n m ∧ FN I I')) (Tb b) 2 [some (rf g 71), some (.int (nI m)), some (.int (nI q)), none, none, none, none] [] I1 L := by
    intro r
    induction r with
    | zero =>
      intro q I1 hq h1 fn
      have eq : q = 16 := by omega
      subst eq
      refine wq_iload_n 3 2 dX8_runNow_2 rfl rfl rfl ?_
      refine wq_bipush 5 16 dX8_runNow_3 rfl (by decide) ?_
      refine wq_ic_ge 8 21 dX8_runNow_5 rfl (by decide) (fun c5 => ?_) (fun c5 => absurd (by decide) c5)
      refine wq_iconst 22 0 dX8_runNow_21 rfl (by decide) ?_
      refine wq_istore_n 23 2 [_, _, _, _, _, _, _] dX8_runNow_22 rfl rfl rfl (Nat.le_of_ble_eq_true rfl) rfl ?_
      exact lp2 64 0 I1 (by omega) h1 (fun x hx => by omega) fn
    | succ r ih =>
      intro q I1 hq h1 fn
      refine wq_iload_n 3 2 dX8_runNow_2 rfl rfl rfl ?_
      refine wq_bipush 5 16 dX8_runNow_3 rfl (by decide) ?_
      refine wq_ic_ge 8 21 dX8_runNow_5 rfl (by decide) (fun c5 => absurd c5 (nI_ge (b := 16) (by omega) (by decide))) (fun c5 => ?_)
      refine wq_bload_n 9 0 dX8_runNow_8 rfl rfl rfl ?_
      refine wq_getR 12 fl_X8_94 dX8_runNow_9 rfl rfl o_71 (rfl : (Tb _).2.2.2 71 41 = some 98) ?_
      refine wq_iload_n 13 2 dX8_runNow_12 rfl rfl rfl ?_
      refine wq_iconst 14 0 dX8_runNow_13 rfl (by decide) ?_
      refine wq_iast 15 dX8_runNow_14 rfl a_98 (Ix.nI (by omega) (by decide)) ?_
      refine wq_iinc 18 (_ + 1) [_, _, _, _, _, _, _] dX8_runNow_15 rfl rfl (inc1 _) rfl (Nat.le_of_ble_eq_true rfl) rfl ?_
      refine wq_goto 2 dX8_runNow_18 (by decide) ?_
      rw [← nI_succ]
      refine ih (q + 1) _ (by omega) (fun x hx => ?_) (fn.trans ⟨fun x hx => va_up_ne _ _ (by simp at hx; omega), fun z _ => by rw [va_up_ne _ _ (by decide)]⟩)
      rw [va_up_self]
      by_cases e : x = q
      · rw [e, va_up_self]
      · rw [va_up_ne _ _ e]; exact h1 x (by omega)
  refine Me.of [some (rf g 71), some (.int (nI m)), none, none, none, none, none] 5 rfl pf_X8_runNow (Nat.le_of_ble_eq_true rfl) ?_
  refine wq_iconst 1 0 dX8_runNow_0 rfl (by decide) ?_
  refine wq_istore_n 2 2 [_, _, _, _, _, _, _] dX8_runNow_1 rfl rfl rfl (Nat.le_of_ble_eq_true rfl) rfl ?_
  exact lp1 16 0 I (by omega) (fun x hx => by omega) (FN.refl I)
