/-! the reference: rewrite -/
theorem rd_no {sf : Nat → Int32} {p : Pg} {i w : Nat} (h : ¬ shp (p i 0) (nI w) = 114) (s : WS) : rdS sf p i w s = s ∧ rdV sf p i w s = p i w := by
  have c : ¬ rdC sf p i w = true := fun z => h (rdC_iff.mp z).1
  rw [rdS, rdV, if_neg c, if_neg c]; exact ⟨rfl, rfl⟩
theorem rd_yes {sf : Nat → Int32} {p : Pg} {i w x : Nat} (h : shp (p i 0) (nI w) = 114) (e : p i w = nI x) (hx : x < 64) (s : WS) : rdS sf p i w s = rd1 sf s x ∧ rdV sf p i w s = rv1 sf s x := by
  have es : slV sf (p i w) = sf x := by rw [e, slV_n sf hx]
  unfold rdS rdV rd1 rv1
  by_cases c : sf x < 0
  · have c' : ¬ rdC sf p i w = true := fun z => (rdC_iff.mp z).2 (by rw [es]; exact c)
    rw [if_pos c, if_pos c, if_neg c', if_neg c']; exact ⟨rfl, e⟩
  · have c' : rdC sf p i w = true := rdC_iff.mpr ⟨h, by rw [es]; exact c⟩
    rw [if_neg c, if_neg c, if_pos c', if_pos c', es]; exact ⟨rfl, rfl⟩
/-- the row's last step: a, b, c are its parts -/
def lst2 (sf : Nat → Int32) (s : WS) (k : Int32) (wr : Bool) (x : Nat) (a b c : Int32) : WS := if (wr && !decide (sf x < 0)) = true then putS (putS (newS s) k (frS s) b c) 8 (frS s) (sf x) (-6) else putS s k a b c
theorem row_lst {B : Nat} {sf : Nat → Int32} {p : Pg} {i k x y z : Nat} (h : RF B p i k x y z) (s : WS) : rowS sf p i s = lst2 sf (rdN sf p i s 3) (nI k) (decide (k < 4 ∨ k = 7)) x (rdV sf p i 1 s) (rdV sf p i 2 (rdN sf p i s 1)) (rdV sf p i 3 (rdN sf p i s 2)) := by
  obtain ⟨k9, e0, e1, x64, -⟩ := h
  have es : slV sf (p i 1) = sf x := by rw [e1, slV_n sf x64]
  have hsh : shp (p i 0) (nI 1) = 119 ↔ (k < 4 ∨ k = 7) := by
    rw [e0]
    have : ∀ k, k < 9 → (shp (nI k) (nI 1) = 119 ↔ (k < 4 ∨ k = 7)) := by decide +kernel
    exact this k k9
  have ec : stC sf p i = (decide (k < 4 ∨ k = 7) && !decide (sf x < 0)) := by
    rw [Bool.eq_iff_iff, stC_iff, Bool.and_eq_true, decide_eq_true_eq, Bool.not_eq_true', decide_eq_false_iff_not, hsh, es]
  unfold rowS lst2
  rw [ec, e0, es]
theorem rw_bound (sf : Nat → Int32) (p : Pg) (s : WS) : ∀ i, (rwA sf p i s).2.1 ≤ s.2.1 + 5 * i ∧ (rwA sf p i s).2.2 ≤ s.2.2 + 4 * i
  | 0 => ⟨Nat.le_refl _, Nat.le_refl _⟩
  | i + 1 => by
    obtain ⟨h1, h2⟩ := rw_bound sf p s i
    have a : ∀ w (t : WS), (rdS sf p i w t).2.1 ≤ t.2.1 + 1 := fun w t => by
      unfold rdS
      split
      · exact Nat.le_refl _
      · exact Nat.le_succ _
    have b : (rowS sf p i (rwA sf p i s)).2.1 ≤ (rdN sf p i (rwA sf p i s) 3).2.1 + 2 := by
      unfold rowS
      split
      · exact Nat.le_refl _
      · exact Nat.le_succ _
    have c1 := a 1 (rwA sf p i s)
    have c2 := a 2 (rdS sf p i 1 (rwA sf p i s))
    have c3 := a 3 (rdS sf p i 2 (rdS sf p i 1 (rwA sf p i s)))
    have e : rdN sf p i (rwA sf p i s) 3 = rdS sf p i 3 (rdS sf p i 2 (rdS sf p i 1 (rwA sf p i s))) := rfl
    have d := row_nw sf p i (rwA sf p i s)
    refine ⟨?_, ?_⟩
    · show (rowS sf p i (rwA sf p i s)).2.1 ≤ _
      rw [e] at b
      omega
    · show (rowS sf p i (rwA sf p i s)).2.2 ≤ _
      rw [d]
      split <;> split <;> split <;> split <;> omega
set_option maxRecDepth 20000 in
set_option maxHeartbeats 4000000 in
theorem lp_X8_tail {g : Gl} {D : Nat} {b : Bool} {I : IM} {L : LM} {sf : Nat → Int32} {s : WS} {k x i : Nat} {va vb vc : Int32} {l6 : Option Value} (hD : 3 ≤ D) (hs : ∀ x, x < 64 → I 96 x = sf x) (h4 : ∀ x, x < 4 → sf x < 0) (hW : WSR I s) (hm : s.2.1 < 2 ^ 29) (hk : k < 9) (hx : x < 64) (hva : (k < 4 ∨ k = 7) → va = nI x) {post : Option Value → Bool → IM → LM → Prop} (kk : ∀ I' l6, WSR I' (lst2 sf s (nI k) (decide (k < 4 ∨ k = 7)) x va vb vc) → FQ I I' → Wp (Kn g D MX8_rewrite post) (Tb b) 187 [some (rf g 71), some (.int (nI i)), some (.int (nI k)), some (.int va), some (.int vb), some (.int vc), l6] [] I' L) : Wp (Kn g D MX8_rewrite post) (Tb b) 113 [some (rf g 71), some (.int (nI i)), some (.int (nI k)), some (.int va), some (.int vb), some (.int vc), l6] [] I L := by
  have J177 : ¬ ((decide (k < 4 ∨ k = 7) && !decide (sf x < 0)) = true) → Wp (Kn g D MX8_rewrite post) (Tb b) 177 [some (rf g 71), some (.int (nI i)), some (.int (nI k)), some (.int va), some (.int vb), some (.int vc), l6] [] I L := by
    intro hc
    refine wq_bload_n 178 0 dX8_rewrite_177 rfl rfl rfl ?_
    refine wq_iload_n 179 2 dX8_rewrite_178 rfl rfl rfl ?_
    refine wq_iload_n 180 3 dX8_rewrite_179 rfl rfl rfl ?_
    refine wq_iload 182 dX8_rewrite_180 rfl rfl ?_
    refine wq_iload 184 dX8_rewrite_182 rfl rfl ?_
    refine cVp4 187 (sp_X8_put hW.1 (by omega) _ _ _ _) ml_X8_285 mf_X8_put dX8_rewrite_184 rfl o_71 (by decide) rfl (Nat.le_of_ble_eq_true rfl) (by omega) ?_
    rintro _ b I1 L1 ⟨rfl, rfl, rfl, n1, n2, n3⟩
    refine kk I1 _ ?_ n3
    rw [lst2, if_neg hc]
    exact ⟨n1, by rw [n2 37 (by decide)]; exact hW.2⟩
  by_cases hc : k < 4 ∨ k = 7
  · have ev := hva hc
    subst ev
    have e1 : (if k < 4 ∨ k = 7 then (1 : Int32) else 0) = 1 := if_pos hc
    by_cases hn : sf x < 0
    · skip
      refine wq_iload_n 114 2 dX8_rewrite_113 rfl rfl rfl ?_
      refine cSi1 117 (sp_X8_isWriting k rfl hk) ml_X8_151 mf_X8_isWriting dX8_rewrite_114 rfl (Nat.le_of_ble_eq_true rfl) (by omega) ?_
      rw [e1]
      refine wq_if_eq 120 177 dX8_rewrite_117 rfl (by decide) (fun c117 => absurd c117 (by decide)) (fun c117 => ?_)
      refine wq_bload_n 121 0 dX8_rewrite_120 rfl rfl rfl ?_
      refine wq_iload_n 122 3 dX8_rewrite_121 rfl rfl rfl ?_
      refine cVi1 125 (sp_X8_isSpilled hs h4 x rfl hx) ml_X8_279 mf_X8_isSpilled dX8_rewrite_122 rfl o_71 (by decide) rfl (Nat.le_of_ble_eq_true rfl) (by omega) ?_
      refine wq_if_eq 128 177 dX8_rewrite_125 rfl (by decide) (fun c125 => ?_) (fun c125 => absurd (bI_dn.mpr hn) c125)
      exact J177 (by rw [decide_eq_true hn]; simp)
    · have hI0 : NXr (va_up I 71 (va_up (I 71) 37 (nI (s.2.2 + 1)))) s.1 s.2.1 := ⟨by rw [va_up_self, va_up_ne _ _ (by decide)]; exact hW.1.1, fun j hj hj2 => by rw [va_up_ne _ _ (by decide), va_up_ne _ _ (by decide), va_up_ne _ _ (by decide), va_up_ne _ _ (by decide)]; exact hW.1.2 j hj hj2⟩
      refine wq_iload_n 114 2 dX8_rewrite_113 rfl rfl rfl ?_
      refine cSi1 117 (sp_X8_isWriting k rfl hk) ml_X8_151 mf_X8_isWriting dX8_rewrite_114 rfl (Nat.le_of_ble_eq_true rfl) (by omega) ?_
      rw [e1]
      refine wq_if_eq 120 177 dX8_rewrite_117 rfl (by decide) (fun c117 => absurd c117 (by decide)) (fun c117 => ?_)
      refine wq_bload_n 121 0 dX8_rewrite_120 rfl rfl rfl ?_
      refine wq_iload_n 122 3 dX8_rewrite_121 rfl rfl rfl ?_
      refine cVi1 125 (sp_X8_isSpilled hs h4 x rfl hx) ml_X8_279 mf_X8_isSpilled dX8_rewrite_122 rfl o_71 (by decide) rfl (Nat.le_of_ble_eq_true rfl) (by omega) ?_
      refine wq_if_eq 128 177 dX8_rewrite_125 rfl (by decide) (fun c125 => absurd c125 (fun z => hn (bI_dn.mp z))) (fun c125 => ?_)
      refine wq_bipush 130 16 dX8_rewrite_128 rfl (by decide) ?_
      refine wq_bload_n 131 0 dX8_rewrite_130 rfl rfl rfl ?_
      refine wq_getI 134 fl_X8_282 dX8_rewrite_131 rfl rfl o_71 ?_
      rw [hW.2]
      refine wq_iadd 135 dX8_rewrite_134 rfl ?_
      rw [show (16 : Int32) + nI s.2.2 = frS s from nI_add 16 s.2.2]
      refine wq_istore 137 [_, _, _, _, _, _, _] dX8_rewrite_135 rfl rfl (Nat.le_of_ble_eq_true rfl) rfl ?_
      refine wq_bload_n 138 0 dX8_rewrite_137 rfl rfl rfl ?_
      refine wq_dup 139 dX8_rewrite_138 rfl rfl ?_
      refine wq_getI 142 fl_X8_282 dX8_rewrite_139 rfl rfl o_71 ?_
      refine wq_iconst 143 1 dX8_rewrite_142 rfl (by decide) ?_
      refine wq_iadd 144 dX8_rewrite_143 rfl ?_
      rw [hW.2, ← nI_succ]
      refine wq_putI 147 fl_X8_282 dX8_rewrite_144 rfl rfl rfl rfl rfl o_71 ?_
      refine wq_bload_n 148 0 dX8_rewrite_147 rfl rfl rfl ?_
      refine wq_iload_n 149 2 dX8_rewrite_148 rfl rfl rfl ?_
      refine wq_iload 151 dX8_rewrite_149 rfl rfl ?_
      refine wq_iload 153 dX8_rewrite_151 rfl rfl ?_
      refine wq_iload 155 dX8_rewrite_153 rfl rfl ?_
      refine cVp4 158 (sp_X8_put hI0 (by omega) _ _ _ _) ml_X8_285 mf_X8_put dX8_rewrite_155 rfl o_71 (by decide) rfl (Nat.le_of_ble_eq_true rfl) (by omega) ?_
      rintro _ b I1 L1 ⟨rfl, rfl, rfl, n1, n2, n3⟩
      refine wq_bload_n 159 0 dX8_rewrite_158 rfl rfl rfl ?_
      refine wq_bipush 161 8 dX8_rewrite_159 rfl (by decide) ?_
      refine wq_iload 163 dX8_rewrite_161 rfl rfl ?_
      refine wq_bload_n 164 0 dX8_rewrite_163 rfl rfl rfl ?_
      refine wq_getR 167 fl_X8_88 dX8_rewrite_164 rfl rfl o_71 (rfl : (Tb _).2.2.2 71 38 = some 96) ?_
      refine wq_iload_n 168 3 dX8_rewrite_167 rfl rfl rfl ?_
      refine wq_iald 169 dX8_rewrite_168 rfl a_96 (Ix.nI (by omega) (by decide)) ?_
      rw [n3.1 96 (by decide), va_up_ne _ _ (by decide), hs x hx]
      refine wq_bipush 171 (-6) dX8_rewrite_169 rfl (by decide) ?_
      refine cVp4 174 (sp_X8_put n1 (by omega) _ _ _ _) ml_X8_285 mf_X8_put dX8_rewrite_171 rfl o_71 (by decide) rfl (Nat.le_of_ble_eq_true rfl) (by omega) ?_
      rintro _ b I2 L2 ⟨rfl, rfl, rfl, o1, o2, o3⟩
      refine wq_goto 187 dX8_rewrite_174 (by decide) ?_
      refine kk I2 _ ?_ (FQ.trans (FQ.trans ⟨fun z hz => va_up_ne _ _ (by simp at hz; exact hz.1), fun z _ z2 => by rw [va_up_self, va_up_ne _ _ z2]⟩ n3) o3)
      rw [lst2, if_pos (by rw [decide_eq_true hc, decide_eq_false hn]; rfl)]
      exact ⟨o1, by rw [o2 37 (by decide), n2 37 (by decide), va_up_self, va_up_self]; rfl⟩
  · have e1 : (if k < 4 ∨ k = 7 then (1 : Int32) else 0) = 0 := if_neg hc
    refine wq_iload_n 114 2 dX8_rewrite_113 rfl rfl rfl ?_
    refine cSi1 117 (sp_X8_isWriting k rfl hk) ml_X8_151 mf_X8_isWriting dX8_rewrite_114 rfl (Nat.le_of_ble_eq_true rfl) (by omega) ?_
    rw [e1]
    refine wq_if_eq 120 177 dX8_rewrite_117 rfl (by decide) (fun c117 => ?_) (fun c117 => absurd rfl c117)
    exact J177 (by rw [decide_eq_false hc]; simp)
set_option maxRecDepth 20000 in
set_option maxHeartbeats 4000000 in
theorem sp_X8_rewrite {g : Gl} {D : Nat} {b : Bool} {I : IM} {L : LM} {n B nw : Nat} {p : Pg} {sf : Nat → Int32} (hD : 3 ≤ D) (h : NR I n p) (hw : WfB B p n) (hs : ∀ x, x < 64 → I 96 x = sf x) (h4 : ∀ x, x < 4 → sf x < 0) (hnw : I 71 37 = nI nw) (hn48 : nw ≤ 48) : Me g D MX8_rewrite [rf g 71] b I L (fun r b' I' L' => r = none ∧ b' = b ∧ L' = L ∧ WSR I' (rwA sf p n (fun _ _ => 0, 0, nw)) ∧ FQ I I') := by
  have hn := h.1
  have lp : ∀ r i I1 l2 l3 l4 l5 l6, i + r = n → WSR I1 (rwA sf p i (fun _ _ => 0, 0, nw)) → FQ I I1 → Wp (Kn g D MX8_rewrite (fun r b' I' L' => r = none ∧ b' = b ∧ L' = L ∧ WSR I' (rwA sf p n (fun _ _ => 0, 0, nw)) ∧ FQ I I')) (Tb b) 7 [some (rf g 71), some (.int (nI i)), l2, l3, l4, l5, l6] [] I1 L := by
    intro r
    induction r with
    | zero =>
      intro i I1 l2 l3 l4 l5 l6 hi hW fq
      have ei : i = n := by omega
      subst ei
      have hc : I1 71 13 = nI i := by rw [fq.2 13 (by decide) (by decide)]; exact h.2.1
      refine wq_iload_n 8 1 dX8_rewrite_7 rfl rfl rfl ?_
      refine wq_bload_n 9 0 dX8_rewrite_8 rfl rfl rfl ?_
      refine wq_getI 12 fl_X8_148 dX8_rewrite_9 rfl rfl o_71 ?_
      refine wq_ic_ge 15 193 dX8_rewrite_12 rfl (by decide) (fun c12 => ?_) (fun c12 => absurd (by rw [hc]; exact nI_le (Nat.le_refl _) (by omega)) c12)
      refine rr dX8_rewrite_193 rfl ?_
      exact ⟨rfl, rfl, rfl, hW, fq⟩
    | succ r ih =>
      intro i I1 l2 l3 l4 l5 l6 hi hW fq
      have hin : i < n := by omega
      have hc : I1 71 13 = nI n := by rw [fq.2 13 (by decide) (by decide)]; exact h.2.1
      obtain ⟨k, x, y, z, hF⟩ := row_form hw hin
      have hrow := row_lst (sf := sf) hF (rwA sf p i (fun _ _ => 0, 0, nw))
      obtain ⟨hb1, hb2⟩ := rw_bound sf p (fun _ _ => 0, 0, nw) i
      have hb1' : (rwA sf p i (fun _ _ => 0, 0, nw)).2.1 ≤ 0 + 5 * i := hb1
      have ew : rwA sf p (i + 1) (fun _ _ => 0, 0, nw) = rowS sf p i (rwA sf p i (fun _ _ => 0, 0, nw)) := rfl
      obtain ⟨q0, q1, q2, q3⟩ := h.2.2 i hin
      obtain ⟨k9, e0, e1, x64, -, -, f1, f2, -, -, f3, f4, -, -⟩ := hF
      have i0 : I1 77 i = nI k := by rw [fq.1 77 (by decide), q0, e0]
      have i1 : I1 78 i = nI x := by rw [fq.1 78 (by decide), q1, e1]
      have i2 : I1 79 i = p i 2 := by rw [fq.1 79 (by decide), q2]
      have i3 : I1 80 i = p i 3 := by rw [fq.1 80 (by decide), q3]
      have hs1 : ∀ x, x < 64 → I1 96 x = sf x := fun x hx => by rw [fq.1 96 (by decide)]; exact hs x hx
      have J : ∀ I2 s2 va vb vc l6, WSR I2 s2 → FQ I I2 → s2.2.1 < 2 ^ 29 → ((k < 4 ∨ k = 7) → va = nI x) → lst2 sf s2 (nI k) (decide (k < 4 ∨ k = 7)) x va vb vc = rowS sf p i (rwA sf p i (fun _ _ => 0, 0, nw)) → Wp (Kn g D MX8_rewrite (fun r b' I' L' => r = none ∧ b' = b ∧ L' = L ∧ WSR I' (rwA sf p n (fun _ _ => 0, 0, nw)) ∧ FQ I I')) (Tb b) 113 [some (rf g 71), some (.int (nI i)), some (.int (nI k)), some (.int va), some (.int vb), some (.int vc), l6] [] I2 L := by
        intro I2 s2 va vb vc l6 hW2 fq2 hm2 hva el
        refine lp_X8_tail hD (fun x hx => by rw [fq2.1 96 (by decide)]; exact hs x hx) h4 hW2 hm2 k9 x64 hva (fun I3 l6 hW3 fq3 => ?_)
        refine wq_iinc 190 (_ + 1) [_, _, _, _, _, _, _] dX8_rewrite_187 rfl rfl (inc1 _) rfl (Nat.le_of_ble_eq_true rfl) rfl ?_
        refine wq_goto 7 dX8_rewrite_190 (by decide) ?_
        rw [← nI_succ]
        rw [el, ← ew] at hW3
        exact ih (i + 1) I3 _ _ _ _ _ (by omega) hW3 (fq2.trans fq3)
      have rdb : ∀ (t : WS) x, (rd1 sf t x).2.1 ≤ t.2.1 + 1 := fun t x => by
        unfold rd1
        split
        · exact Nat.le_succ _
        · exact Nat.le_refl _
      have hk9 : k = 0 ∨ k = 1 ∨ k = 2 ∨ k = 3 ∨ k = 4 ∨ k = 5 ∨ k = 6 ∨ k = 7 ∨ k = 8 := by omega
      generalize rwA sf p i (fun _ _ => 0, 0, nw) = s at *
      have n1 : rdN sf p i s 1 = rdS sf p i 1 s := rfl
      have n2 : rdN sf p i s 2 = rdS sf p i 2 (rdS sf p i 1 s) := rfl
      have n3 : rdN sf p i s 3 = rdS sf p i 3 (rdS sf p i 2 (rdS sf p i 1 s)) := rfl
      rw [n1, n2, n3] at hrow
      rcases hk9 with rfl | rfl | rfl | rfl | rfl | rfl | rfl | rfl | rfl
      · skip
        have r1 := rd_no (sf := sf) (w := 1) (show ¬ shp (p i 0) (nI 1) = 114 by rw [e0]; decide) s
        have r2 := rd_no (sf := sf) (w := 2) (show ¬ shp (p i 0) (nI 2) = 114 by rw [e0]; decide) s
        have r3 := rd_no (sf := sf) (w := 3) (show ¬ shp (p i 0) (nI 3) = 114 by rw [e0]; decide) s
        rw [r1.1, r1.2, r2.1, r2.2, r3.1, r3.2] at hrow
        refine wq_iload_n 8 1 dX8_rewrite_7 rfl rfl rfl ?_
        refine wq_bload_n 9 0 dX8_rewrite_8 rfl rfl rfl ?_
        refine wq_getI 12 fl_X8_148 dX8_rewrite_9 rfl rfl o_71 ?_
        refine wq_ic_ge 15 193 dX8_rewrite_12 rfl (by decide) (fun c12 => absurd c12 (by rw [hc]; exact nI_ge (by omega) (by omega))) (fun c12 => ?_)
        refine wq_bload_n 16 0 dX8_rewrite_15 rfl rfl rfl ?_
        refine wq_getR 19 fl_X8_29 dX8_rewrite_16 rfl rfl o_71 (rfl : (Tb _).2.2.2 71 9 = some 77) ?_
        refine wq_iload_n 20 1 dX8_rewrite_19 rfl rfl rfl ?_
        refine wq_iald 21 dX8_rewrite_20 rfl a_77 (Ix.nI (by omega) (by decide)) ?_
        rw [i0]
        refine wq_istore_n 22 2 [_, _, _, _, _, _, _] dX8_rewrite_21 rfl rfl rfl (Nat.le_of_ble_eq_true rfl) rfl ?_
        refine wq_bload_n 23 0 dX8_rewrite_22 rfl rfl rfl ?_
        refine wq_getR 26 fl_X8_32 dX8_rewrite_23 rfl rfl o_71 (rfl : (Tb _).2.2.2 71 10 = some 78) ?_
        refine wq_iload_n 27 1 dX8_rewrite_26 rfl rfl rfl ?_
        refine wq_iald 28 dX8_rewrite_27 rfl a_78 (Ix.nI (by omega) (by decide)) ?_
        rw [i1]
        refine wq_istore_n 29 3 [_, _, _, _, _, _, _] dX8_rewrite_28 rfl rfl rfl (Nat.le_of_ble_eq_true rfl) rfl ?_
        refine wq_bload_n 30 0 dX8_rewrite_29 rfl rfl rfl ?_
        refine wq_getR 33 fl_X8_35 dX8_rewrite_30 rfl rfl o_71 (rfl : (Tb _).2.2.2 71 11 = some 79) ?_
        refine wq_iload_n 34 1 dX8_rewrite_33 rfl rfl rfl ?_
        refine wq_iald 35 dX8_rewrite_34 rfl a_79 (Ix.nI (by omega) (by decide)) ?_
        rw [i2]
        refine wq_istore 37 [_, _, _, _, _, _, _] dX8_rewrite_35 rfl rfl (Nat.le_of_ble_eq_true rfl) rfl ?_
        refine wq_bload_n 38 0 dX8_rewrite_37 rfl rfl rfl ?_
        refine wq_getR 41 fl_X8_38 dX8_rewrite_38 rfl rfl o_71 (rfl : (Tb _).2.2.2 71 12 = some 80) ?_
        refine wq_iload_n 42 1 dX8_rewrite_41 rfl rfl rfl ?_
        refine wq_iald 43 dX8_rewrite_42 rfl a_80 (Ix.nI (by omega) (by decide)) ?_
        rw [i3]
        refine wq_istore 45 [_, _, _, _, _, _, _] dX8_rewrite_43 rfl rfl (Nat.le_of_ble_eq_true rfl) rfl ?_
        refine wq_iload_n 46 2 dX8_rewrite_45 rfl rfl rfl ?_
        refine wq_iconst 47 4 dX8_rewrite_46 rfl (by decide) ?_
        refine wq_ic_eq 50 62 dX8_rewrite_47 rfl (by decide) (fun c47 => absurd c47 (by decide)) (fun c47 => ?_)
        refine wq_iload_n 51 2 dX8_rewrite_50 rfl rfl rfl ?_
        refine wq_bipush 53 6 dX8_rewrite_51 rfl (by decide) ?_
        refine wq_ic_eq 56 62 dX8_rewrite_53 rfl (by decide) (fun c53 => absurd c53 (by decide)) (fun c53 => ?_)
        refine wq_iload_n 57 2 dX8_rewrite_56 rfl rfl rfl ?_
        refine wq_bipush 59 8 dX8_rewrite_57 rfl (by decide) ?_
        refine wq_ic_ne 62 71 dX8_rewrite_59 rfl (by decide) (fun c59 => ?_) (fun c59 => absurd c59 (by decide))
        refine wq_iload_n 72 2 dX8_rewrite_71 rfl rfl rfl ?_
        refine wq_iconst 73 1 dX8_rewrite_72 rfl (by decide) ?_
        refine wq_ic_eq 76 81 dX8_rewrite_73 rfl (by decide) (fun c73 => absurd c73 (by decide)) (fun c73 => ?_)
        refine wq_iload_n 77 2 dX8_rewrite_76 rfl rfl rfl ?_
        refine wq_iconst 78 3 dX8_rewrite_77 rfl (by decide) ?_
        refine wq_ic_ne 81 92 dX8_rewrite_78 rfl (by decide) (fun c78 => ?_) (fun c78 => absurd c78 (by decide))
        refine wq_iload_n 93 2 dX8_rewrite_92 rfl rfl rfl ?_
        refine wq_iconst 94 2 dX8_rewrite_93 rfl (by decide) ?_
        refine wq_ic_ne 97 113 dX8_rewrite_94 rfl (by decide) (fun c94 => ?_) (fun c94 => absurd c94 (by decide))
        exact J I1 s _ _ _ _ hW fq (by omega) (fun _ => rfl) (by rw [hrow, e1])
      · skip
        have r1 := rd_no (sf := sf) (w := 1) (show ¬ shp (p i 0) (nI 1) = 114 by rw [e0]; decide) s
        have r2 := rd_yes (sf := sf) (w := 2) (show shp (p i 0) (nI 2) = 114 by rw [e0]; decide) (f2 (by decide)).1 (f2 (by decide)).2 s
        have r3 := rd_no (sf := sf) (w := 3) (show ¬ shp (p i 0) (nI 3) = 114 by rw [e0]; decide) (rd1 sf s y)
        rw [r1.1, r1.2, r2.1, r2.2, r3.1, r3.2] at hrow
        refine wq_iload_n 8 1 dX8_rewrite_7 rfl rfl rfl ?_
        refine wq_bload_n 9 0 dX8_rewrite_8 rfl rfl rfl ?_
        refine wq_getI 12 fl_X8_148 dX8_rewrite_9 rfl rfl o_71 ?_
        refine wq_ic_ge 15 193 dX8_rewrite_12 rfl (by decide) (fun c12 => absurd c12 (by rw [hc]; exact nI_ge (by omega) (by omega))) (fun c12 => ?_)
        refine wq_bload_n 16 0 dX8_rewrite_15 rfl rfl rfl ?_
        refine wq_getR 19 fl_X8_29 dX8_rewrite_16 rfl rfl o_71 (rfl : (Tb _).2.2.2 71 9 = some 77) ?_
        refine wq_iload_n 20 1 dX8_rewrite_19 rfl rfl rfl ?_
        refine wq_iald 21 dX8_rewrite_20 rfl a_77 (Ix.nI (by omega) (by decide)) ?_
        rw [i0]
        refine wq_istore_n 22 2 [_, _, _, _, _, _, _] dX8_rewrite_21 rfl rfl rfl (Nat.le_of_ble_eq_true rfl) rfl ?_
        refine wq_bload_n 23 0 dX8_rewrite_22 rfl rfl rfl ?_
        refine wq_getR 26 fl_X8_32 dX8_rewrite_23 rfl rfl o_71 (rfl : (Tb _).2.2.2 71 10 = some 78) ?_
        refine wq_iload_n 27 1 dX8_rewrite_26 rfl rfl rfl ?_
        refine wq_iald 28 dX8_rewrite_27 rfl a_78 (Ix.nI (by omega) (by decide)) ?_
        rw [i1]
        refine wq_istore_n 29 3 [_, _, _, _, _, _, _] dX8_rewrite_28 rfl rfl rfl (Nat.le_of_ble_eq_true rfl) rfl ?_
        refine wq_bload_n 30 0 dX8_rewrite_29 rfl rfl rfl ?_
        refine wq_getR 33 fl_X8_35 dX8_rewrite_30 rfl rfl o_71 (rfl : (Tb _).2.2.2 71 11 = some 79) ?_
        refine wq_iload_n 34 1 dX8_rewrite_33 rfl rfl rfl ?_
        refine wq_iald 35 dX8_rewrite_34 rfl a_79 (Ix.nI (by omega) (by decide)) ?_
        rw [i2]
        refine wq_istore 37 [_, _, _, _, _, _, _] dX8_rewrite_35 rfl rfl (Nat.le_of_ble_eq_true rfl) rfl ?_
        refine wq_bload_n 38 0 dX8_rewrite_37 rfl rfl rfl ?_
        refine wq_getR 41 fl_X8_38 dX8_rewrite_38 rfl rfl o_71 (rfl : (Tb _).2.2.2 71 12 = some 80) ?_
        refine wq_iload_n 42 1 dX8_rewrite_41 rfl rfl rfl ?_
        refine wq_iald 43 dX8_rewrite_42 rfl a_80 (Ix.nI (by omega) (by decide)) ?_
        rw [i3]
        refine wq_istore 45 [_, _, _, _, _, _, _] dX8_rewrite_43 rfl rfl (Nat.le_of_ble_eq_true rfl) rfl ?_
        refine wq_iload_n 46 2 dX8_rewrite_45 rfl rfl rfl ?_
        refine wq_iconst 47 4 dX8_rewrite_46 rfl (by decide) ?_
        refine wq_ic_eq 50 62 dX8_rewrite_47 rfl (by decide) (fun c47 => absurd c47 (by decide)) (fun c47 => ?_)
        refine wq_iload_n 51 2 dX8_rewrite_50 rfl rfl rfl ?_
        refine wq_bipush 53 6 dX8_rewrite_51 rfl (by decide) ?_
        refine wq_ic_eq 56 62 dX8_rewrite_53 rfl (by decide) (fun c53 => absurd c53 (by decide)) (fun c53 => ?_)
        refine wq_iload_n 57 2 dX8_rewrite_56 rfl rfl rfl ?_
        refine wq_bipush 59 8 dX8_rewrite_57 rfl (by decide) ?_
        refine wq_ic_ne 62 71 dX8_rewrite_59 rfl (by decide) (fun c59 => ?_) (fun c59 => absurd c59 (by decide))
        refine wq_iload_n 72 2 dX8_rewrite_71 rfl rfl rfl ?_
        refine wq_iconst 73 1 dX8_rewrite_72 rfl (by decide) ?_
        refine wq_ic_eq 76 81 dX8_rewrite_73 rfl (by decide) (fun c73 => ?_) (fun c73 => absurd rfl c73)
        refine wq_bload_n 82 0 dX8_rewrite_81 rfl rfl rfl ?_
        refine wq_iload 84 dX8_rewrite_82 rfl rfl ?_
        refine cVp1 87 (sp_X8_read (by omega) hs1 h4 hW (by omega) y (f2 (by decide)).1 (f2 (by decide)).2) ml_X8_289 mf_X8_read dX8_rewrite_84 rfl o_71 (by decide) rfl (Nat.le_of_ble_eq_true rfl) (by omega) ?_
        rintro _ b I2 L2 ⟨rfl, rfl, rfl, hW2, fq2⟩
        refine wq_istore 89 [_, _, _, _, _, _, _] dX8_rewrite_87 rfl rfl (Nat.le_of_ble_eq_true rfl) rfl ?_
        refine wq_goto 113 dX8_rewrite_89 (by decide) ?_
        exact J I2 (rd1 sf s y) _ _ _ _ hW2 (fq.trans fq2) (by have := rdb s y; omega) (fun _ => rfl) (by rw [hrow, e1])
      · skip
        have r1 := rd_no (sf := sf) (w := 1) (show ¬ shp (p i 0) (nI 1) = 114 by rw [e0]; decide) s
        have r2 := rd_yes (sf := sf) (w := 2) (show shp (p i 0) (nI 2) = 114 by rw [e0]; decide) (f2 (by decide)).1 (f2 (by decide)).2 s
        have r3 := rd_yes (sf := sf) (w := 3) (show shp (p i 0) (nI 3) = 114 by rw [e0]; decide) (f3 rfl).1 (f3 rfl).2.2 (rd1 sf s y)
        rw [r1.1, r1.2, r2.1, r2.2, r3.1, r3.2] at hrow
        refine wq_iload_n 8 1 dX8_rewrite_7 rfl rfl rfl ?_
        refine wq_bload_n 9 0 dX8_rewrite_8 rfl rfl rfl ?_
        refine wq_getI 12 fl_X8_148 dX8_rewrite_9 rfl rfl o_71 ?_
        refine wq_ic_ge 15 193 dX8_rewrite_12 rfl (by decide) (fun c12 => absurd c12 (by rw [hc]; exact nI_ge (by omega) (by omega))) (fun c12 => ?_)
        refine wq_bload_n 16 0 dX8_rewrite_15 rfl rfl rfl ?_
        refine wq_getR 19 fl_X8_29 dX8_rewrite_16 rfl rfl o_71 (rfl : (Tb _).2.2.2 71 9 = some 77) ?_
        refine wq_iload_n 20 1 dX8_rewrite_19 rfl rfl rfl ?_
        refine wq_iald 21 dX8_rewrite_20 rfl a_77 (Ix.nI (by omega) (by decide)) ?_
        rw [i0]
        refine wq_istore_n 22 2 [_, _, _, _, _, _, _] dX8_rewrite_21 rfl rfl rfl (Nat.le_of_ble_eq_true rfl) rfl ?_
        refine wq_bload_n 23 0 dX8_rewrite_22 rfl rfl rfl ?_
        refine wq_getR 26 fl_X8_32 dX8_rewrite_23 rfl rfl o_71 (rfl : (Tb _).2.2.2 71 10 = some 78) ?_
        refine wq_iload_n 27 1 dX8_rewrite_26 rfl rfl rfl ?_
        refine wq_iald 28 dX8_rewrite_27 rfl a_78 (Ix.nI (by omega) (by decide)) ?_
        rw [i1]
        refine wq_istore_n 29 3 [_, _, _, _, _, _, _] dX8_rewrite_28 rfl rfl rfl (Nat.le_of_ble_eq_true rfl) rfl ?_
        refine wq_bload_n 30 0 dX8_rewrite_29 rfl rfl rfl ?_
        refine wq_getR 33 fl_X8_35 dX8_rewrite_30 rfl rfl o_71 (rfl : (Tb _).2.2.2 71 11 = some 79) ?_
        refine wq_iload_n 34 1 dX8_rewrite_33 rfl rfl rfl ?_
        refine wq_iald 35 dX8_rewrite_34 rfl a_79 (Ix.nI (by omega) (by decide)) ?_
        rw [i2]
        refine wq_istore 37 [_, _, _, _, _, _, _] dX8_rewrite_35 rfl rfl (Nat.le_of_ble_eq_true rfl) rfl ?_
        refine wq_bload_n 38 0 dX8_rewrite_37 rfl rfl rfl ?_
        refine wq_getR 41 fl_X8_38 dX8_rewrite_38 rfl rfl o_71 (rfl : (Tb _).2.2.2 71 12 = some 80) ?_
        refine wq_iload_n 42 1 dX8_rewrite_41 rfl rfl rfl ?_
        refine wq_iald 43 dX8_rewrite_42 rfl a_80 (Ix.nI (by omega) (by decide)) ?_
        rw [i3]
        refine wq_istore 45 [_, _, _, _, _, _, _] dX8_rewrite_43 rfl rfl (Nat.le_of_ble_eq_true rfl) rfl ?_
        refine wq_iload_n 46 2 dX8_rewrite_45 rfl rfl rfl ?_
        refine wq_iconst 47 4 dX8_rewrite_46 rfl (by decide) ?_
        refine wq_ic_eq 50 62 dX8_rewrite_47 rfl (by decide) (fun c47 => absurd c47 (by decide)) (fun c47 => ?_)
        refine wq_iload_n 51 2 dX8_rewrite_50 rfl rfl rfl ?_
        refine wq_bipush 53 6 dX8_rewrite_51 rfl (by decide) ?_
        refine wq_ic_eq 56 62 dX8_rewrite_53 rfl (by decide) (fun c53 => absurd c53 (by decide)) (fun c53 => ?_)
        refine wq_iload_n 57 2 dX8_rewrite_56 rfl rfl rfl ?_
        refine wq_bipush 59 8 dX8_rewrite_57 rfl (by decide) ?_
        refine wq_ic_ne 62 71 dX8_rewrite_59 rfl (by decide) (fun c59 => ?_) (fun c59 => absurd c59 (by decide))
        refine wq_iload_n 72 2 dX8_rewrite_71 rfl rfl rfl ?_
        refine wq_iconst 73 1 dX8_rewrite_72 rfl (by decide) ?_
        refine wq_ic_eq 76 81 dX8_rewrite_73 rfl (by decide) (fun c73 => absurd c73 (by decide)) (fun c73 => ?_)
        refine wq_iload_n 77 2 dX8_rewrite_76 rfl rfl rfl ?_
        refine wq_iconst 78 3 dX8_rewrite_77 rfl (by decide) ?_
        refine wq_ic_ne 81 92 dX8_rewrite_78 rfl (by decide) (fun c78 => ?_) (fun c78 => absurd c78 (by decide))
        refine wq_iload_n 93 2 dX8_rewrite_92 rfl rfl rfl ?_
        refine wq_iconst 94 2 dX8_rewrite_93 rfl (by decide) ?_
        refine wq_ic_ne 97 113 dX8_rewrite_94 rfl (by decide) (fun c94 => absurd c94 (fun z => z rfl)) (fun c94 => ?_)
        refine wq_bload_n 98 0 dX8_rewrite_97 rfl rfl rfl ?_
        refine wq_iload 100 dX8_rewrite_98 rfl rfl ?_
        refine cVp1 103 (sp_X8_read (by omega) hs1 h4 hW (by omega) y (f2 (by decide)).1 (f2 (by decide)).2) ml_X8_289 mf_X8_read dX8_rewrite_100 rfl o_71 (by decide) rfl (Nat.le_of_ble_eq_true rfl) (by omega) ?_
        rintro _ b I2 L2 ⟨rfl, rfl, rfl, hW2, fq2⟩
        have rdy := rdb s y
        refine wq_istore 105 [_, _, _, _, _, _, _] dX8_rewrite_103 rfl rfl (Nat.le_of_ble_eq_true rfl) rfl ?_
        refine wq_bload_n 106 0 dX8_rewrite_105 rfl rfl rfl ?_
        refine wq_iload 108 dX8_rewrite_106 rfl rfl ?_
        refine cVp1 111 (sp_X8_read (by omega) (fun x hx => by rw [fq2.1 96 (by decide)]; exact hs1 x hx) h4 hW2 (by omega) z (f3 rfl).1 (f3 rfl).2.2) ml_X8_289 mf_X8_read dX8_rewrite_108 rfl o_71 (by decide) rfl (Nat.le_of_ble_eq_true rfl) (by omega) ?_
        rintro _ b I3 L3 ⟨rfl, rfl, rfl, hW3, fq3⟩
        refine wq_istore 113 [_, _, _, _, _, _, _] dX8_rewrite_111 rfl rfl (Nat.le_of_ble_eq_true rfl) rfl ?_
        exact J I3 (rd1 sf (rd1 sf s y) z) _ _ _ _ hW3 ((fq.trans fq2).trans fq3) (by have := rdb (rd1 sf s y) z; omega) (fun _ => rfl) (by rw [hrow, e1])
      · skip
        have r1 := rd_no (sf := sf) (w := 1) (show ¬ shp (p i 0) (nI 1) = 114 by rw [e0]; decide) s
        have r2 := rd_yes (sf := sf) (w := 2) (show shp (p i 0) (nI 2) = 114 by rw [e0]; decide) (f2 (by decide)).1 (f2 (by decide)).2 s
        have r3 := rd_no (sf := sf) (w := 3) (show ¬ shp (p i 0) (nI 3) = 114 by rw [e0]; decide) (rd1 sf s y)
        rw [r1.1, r1.2, r2.1, r2.2, r3.1, r3.2] at hrow
        refine wq_iload_n 8 1 dX8_rewrite_7 rfl rfl rfl ?_
        refine wq_bload_n 9 0 dX8_rewrite_8 rfl rfl rfl ?_
        refine wq_getI 12 fl_X8_148 dX8_rewrite_9 rfl rfl o_71 ?_
        refine wq_ic_ge 15 193 dX8_rewrite_12 rfl (by decide) (fun c12 => absurd c12 (by rw [hc]; exact nI_ge (by omega) (by omega))) (fun c12 => ?_)
        refine wq_bload_n 16 0 dX8_rewrite_15 rfl rfl rfl ?_
        refine wq_getR 19 fl_X8_29 dX8_rewrite_16 rfl rfl o_71 (rfl : (Tb _).2.2.2 71 9 = some 77) ?_
        refine wq_iload_n 20 1 dX8_rewrite_19 rfl rfl rfl ?_
        refine wq_iald 21 dX8_rewrite_20 rfl a_77 (Ix.nI (by omega) (by decide)) ?_
        rw [i0]
        refine wq_istore_n 22 2 [_, _, _, _, _, _, _] dX8_rewrite_21 rfl rfl rfl (Nat.le_of_ble_eq_true rfl) rfl ?_
        refine wq_bload_n 23 0 dX8_rewrite_22 rfl rfl rfl ?_
        refine wq_getR 26 fl_X8_32 dX8_rewrite_23 rfl rfl o_71 (rfl : (Tb _).2.2.2 71 10 = some 78) ?_
        refine wq_iload_n 27 1 dX8_rewrite_26 rfl rfl rfl ?_
        refine wq_iald 28 dX8_rewrite_27 rfl a_78 (Ix.nI (by omega) (by decide)) ?_
        rw [i1]
        refine wq_istore_n 29 3 [_, _, _, _, _, _, _] dX8_rewrite_28 rfl rfl rfl (Nat.le_of_ble_eq_true rfl) rfl ?_
        refine wq_bload_n 30 0 dX8_rewrite_29 rfl rfl rfl ?_
        refine wq_getR 33 fl_X8_35 dX8_rewrite_30 rfl rfl o_71 (rfl : (Tb _).2.2.2 71 11 = some 79) ?_
        refine wq_iload_n 34 1 dX8_rewrite_33 rfl rfl rfl ?_
        refine wq_iald 35 dX8_rewrite_34 rfl a_79 (Ix.nI (by omega) (by decide)) ?_
        rw [i2]
        refine wq_istore 37 [_, _, _, _, _, _, _] dX8_rewrite_35 rfl rfl (Nat.le_of_ble_eq_true rfl) rfl ?_
        refine wq_bload_n 38 0 dX8_rewrite_37 rfl rfl rfl ?_
        refine wq_getR 41 fl_X8_38 dX8_rewrite_38 rfl rfl o_71 (rfl : (Tb _).2.2.2 71 12 = some 80) ?_
        refine wq_iload_n 42 1 dX8_rewrite_41 rfl rfl rfl ?_
        refine wq_iald 43 dX8_rewrite_42 rfl a_80 (Ix.nI (by omega) (by decide)) ?_
        rw [i3]
        refine wq_istore 45 [_, _, _, _, _, _, _] dX8_rewrite_43 rfl rfl (Nat.le_of_ble_eq_true rfl) rfl ?_
        refine wq_iload_n 46 2 dX8_rewrite_45 rfl rfl rfl ?_
        refine wq_iconst 47 4 dX8_rewrite_46 rfl (by decide) ?_
        refine wq_ic_eq 50 62 dX8_rewrite_47 rfl (by decide) (fun c47 => absurd c47 (by decide)) (fun c47 => ?_)
        refine wq_iload_n 51 2 dX8_rewrite_50 rfl rfl rfl ?_
        refine wq_bipush 53 6 dX8_rewrite_51 rfl (by decide) ?_
        refine wq_ic_eq 56 62 dX8_rewrite_53 rfl (by decide) (fun c53 => absurd c53 (by decide)) (fun c53 => ?_)
        refine wq_iload_n 57 2 dX8_rewrite_56 rfl rfl rfl ?_
        refine wq_bipush 59 8 dX8_rewrite_57 rfl (by decide) ?_
        refine wq_ic_ne 62 71 dX8_rewrite_59 rfl (by decide) (fun c59 => ?_) (fun c59 => absurd c59 (by decide))
        refine wq_iload_n 72 2 dX8_rewrite_71 rfl rfl rfl ?_
        refine wq_iconst 73 1 dX8_rewrite_72 rfl (by decide) ?_
        refine wq_ic_eq 76 81 dX8_rewrite_73 rfl (by decide) (fun c73 => absurd c73 (by decide)) (fun c73 => ?_)
        refine wq_iload_n 77 2 dX8_rewrite_76 rfl rfl rfl ?_
        refine wq_iconst 78 3 dX8_rewrite_77 rfl (by decide) ?_
        refine wq_ic_ne 81 92 dX8_rewrite_78 rfl (by decide) (fun c78 => absurd c78 (fun z => z rfl)) (fun c78 => ?_)
        refine wq_bload_n 82 0 dX8_rewrite_81 rfl rfl rfl ?_
        refine wq_iload 84 dX8_rewrite_82 rfl rfl ?_
        refine cVp1 87 (sp_X8_read (by omega) hs1 h4 hW (by omega) y (f2 (by decide)).1 (f2 (by decide)).2) ml_X8_289 mf_X8_read dX8_rewrite_84 rfl o_71 (by decide) rfl (Nat.le_of_ble_eq_true rfl) (by omega) ?_
        rintro _ b I2 L2 ⟨rfl, rfl, rfl, hW2, fq2⟩
        refine wq_istore 89 [_, _, _, _, _, _, _] dX8_rewrite_87 rfl rfl (Nat.le_of_ble_eq_true rfl) rfl ?_
        refine wq_goto 113 dX8_rewrite_89 (by decide) ?_
        exact J I2 (rd1 sf s y) _ _ _ _ hW2 (fq.trans fq2) (by have := rdb s y; omega) (fun _ => rfl) (by rw [hrow, e1])
      · skip
        have r1 := rd_yes (sf := sf) (w := 1) (show shp (p i 0) (nI 1) = 114 by rw [e0]; decide) e1 x64 s
        have r2 := rd_no (sf := sf) (w := 2) (show ¬ shp (p i 0) (nI 2) = 114 by rw [e0]; decide) (rd1 sf s x)
        have r3 := rd_no (sf := sf) (w := 3) (show ¬ shp (p i 0) (nI 3) = 114 by rw [e0]; decide) (rd1 sf s x)
        rw [r1.1, r1.2, r2.1, r2.2, r3.1, r3.2] at hrow
        refine wq_iload_n 8 1 dX8_rewrite_7 rfl rfl rfl ?_
        refine wq_bload_n 9 0 dX8_rewrite_8 rfl rfl rfl ?_
        refine wq_getI 12 fl_X8_148 dX8_rewrite_9 rfl rfl o_71 ?_
        refine wq_ic_ge 15 193 dX8_rewrite_12 rfl (by decide) (fun c12 => absurd c12 (by rw [hc]; exact nI_ge (by omega) (by omega))) (fun c12 => ?_)
        refine wq_bload_n 16 0 dX8_rewrite_15 rfl rfl rfl ?_
        refine wq_getR 19 fl_X8_29 dX8_rewrite_16 rfl rfl o_71 (rfl : (Tb _).2.2.2 71 9 = some 77) ?_
        refine wq_iload_n 20 1 dX8_rewrite_19 rfl rfl rfl ?_
        refine wq_iald 21 dX8_rewrite_20 rfl a_77 (Ix.nI (by omega) (by decide)) ?_
        rw [i0]
        refine wq_istore_n 22 2 [_, _, _, _, _, _, _] dX8_rewrite_21 rfl rfl rfl (Nat.le_of_ble_eq_true rfl) rfl ?_
        refine wq_bload_n 23 0 dX8_rewrite_22 rfl rfl rfl ?_
        refine wq_getR 26 fl_X8_32 dX8_rewrite_23 rfl rfl o_71 (rfl : (Tb _).2.2.2 71 10 = some 78) ?_
        refine wq_iload_n 27 1 dX8_rewrite_26 rfl rfl rfl ?_
        refine wq_iald 28 dX8_rewrite_27 rfl a_78 (Ix.nI (by omega) (by decide)) ?_
        rw [i1]
        refine wq_istore_n 29 3 [_, _, _, _, _, _, _] dX8_rewrite_28 rfl rfl rfl (Nat.le_of_ble_eq_true rfl) rfl ?_
        refine wq_bload_n 30 0 dX8_rewrite_29 rfl rfl rfl ?_
        refine wq_getR 33 fl_X8_35 dX8_rewrite_30 rfl rfl o_71 (rfl : (Tb _).2.2.2 71 11 = some 79) ?_
        refine wq_iload_n 34 1 dX8_rewrite_33 rfl rfl rfl ?_
        refine wq_iald 35 dX8_rewrite_34 rfl a_79 (Ix.nI (by omega) (by decide)) ?_
        rw [i2]
        refine wq_istore 37 [_, _, _, _, _, _, _] dX8_rewrite_35 rfl rfl (Nat.le_of_ble_eq_true rfl) rfl ?_
        refine wq_bload_n 38 0 dX8_rewrite_37 rfl rfl rfl ?_
        refine wq_getR 41 fl_X8_38 dX8_rewrite_38 rfl rfl o_71 (rfl : (Tb _).2.2.2 71 12 = some 80) ?_
        refine wq_iload_n 42 1 dX8_rewrite_41 rfl rfl rfl ?_
        refine wq_iald 43 dX8_rewrite_42 rfl a_80 (Ix.nI (by omega) (by decide)) ?_
        rw [i3]
        refine wq_istore 45 [_, _, _, _, _, _, _] dX8_rewrite_43 rfl rfl (Nat.le_of_ble_eq_true rfl) rfl ?_
        refine wq_iload_n 46 2 dX8_rewrite_45 rfl rfl rfl ?_
        refine wq_iconst 47 4 dX8_rewrite_46 rfl (by decide) ?_
        refine wq_ic_eq 50 62 dX8_rewrite_47 rfl (by decide) (fun c47 => ?_) (fun c47 => absurd rfl c47)
        refine wq_bload_n 63 0 dX8_rewrite_62 rfl rfl rfl ?_
        refine wq_iload_n 64 3 dX8_rewrite_63 rfl rfl rfl ?_
        refine cVp1 67 (sp_X8_read (by omega) hs1 h4 hW (by omega) x rfl x64) ml_X8_289 mf_X8_read dX8_rewrite_64 rfl o_71 (by decide) rfl (Nat.le_of_ble_eq_true rfl) (by omega) ?_
        rintro _ b I2 L2 ⟨rfl, rfl, rfl, hW2, fq2⟩
        refine wq_istore_n 68 3 [_, _, _, _, _, _, _] dX8_rewrite_67 rfl rfl rfl (Nat.le_of_ble_eq_true rfl) rfl ?_
        refine wq_goto 113 dX8_rewrite_68 (by decide) ?_
        exact J I2 (rd1 sf s x) _ _ _ _ hW2 (fq.trans fq2) (by have := rdb s x; omega) (fun z => absurd z (by decide)) (by rw [hrow])
      · skip
        have r1 := rd_no (sf := sf) (w := 1) (show ¬ shp (p i 0) (nI 1) = 114 by rw [e0]; decide) s
        have r2 := rd_no (sf := sf) (w := 2) (show ¬ shp (p i 0) (nI 2) = 114 by rw [e0]; decide) s
        have r3 := rd_no (sf := sf) (w := 3) (show ¬ shp (p i 0) (nI 3) = 114 by rw [e0]; decide) s
        rw [r1.1, r1.2, r2.1, r2.2, r3.1, r3.2] at hrow
        refine wq_iload_n 8 1 dX8_rewrite_7 rfl rfl rfl ?_
        refine wq_bload_n 9 0 dX8_rewrite_8 rfl rfl rfl ?_
        refine wq_getI 12 fl_X8_148 dX8_rewrite_9 rfl rfl o_71 ?_
        refine wq_ic_ge 15 193 dX8_rewrite_12 rfl (by decide) (fun c12 => absurd c12 (by rw [hc]; exact nI_ge (by omega) (by omega))) (fun c12 => ?_)
        refine wq_bload_n 16 0 dX8_rewrite_15 rfl rfl rfl ?_
        refine wq_getR 19 fl_X8_29 dX8_rewrite_16 rfl rfl o_71 (rfl : (Tb _).2.2.2 71 9 = some 77) ?_
        refine wq_iload_n 20 1 dX8_rewrite_19 rfl rfl rfl ?_
        refine wq_iald 21 dX8_rewrite_20 rfl a_77 (Ix.nI (by omega) (by decide)) ?_
        rw [i0]
        refine wq_istore_n 22 2 [_, _, _, _, _, _, _] dX8_rewrite_21 rfl rfl rfl (Nat.le_of_ble_eq_true rfl) rfl ?_
        refine wq_bload_n 23 0 dX8_rewrite_22 rfl rfl rfl ?_
        refine wq_getR 26 fl_X8_32 dX8_rewrite_23 rfl rfl o_71 (rfl : (Tb _).2.2.2 71 10 = some 78) ?_
        refine wq_iload_n 27 1 dX8_rewrite_26 rfl rfl rfl ?_
        refine wq_iald 28 dX8_rewrite_27 rfl a_78 (Ix.nI (by omega) (by decide)) ?_
        rw [i1]
        refine wq_istore_n 29 3 [_, _, _, _, _, _, _] dX8_rewrite_28 rfl rfl rfl (Nat.le_of_ble_eq_true rfl) rfl ?_
        refine wq_bload_n 30 0 dX8_rewrite_29 rfl rfl rfl ?_
        refine wq_getR 33 fl_X8_35 dX8_rewrite_30 rfl rfl o_71 (rfl : (Tb _).2.2.2 71 11 = some 79) ?_
        refine wq_iload_n 34 1 dX8_rewrite_33 rfl rfl rfl ?_
        refine wq_iald 35 dX8_rewrite_34 rfl a_79 (Ix.nI (by omega) (by decide)) ?_
        rw [i2]
        refine wq_istore 37 [_, _, _, _, _, _, _] dX8_rewrite_35 rfl rfl (Nat.le_of_ble_eq_true rfl) rfl ?_
        refine wq_bload_n 38 0 dX8_rewrite_37 rfl rfl rfl ?_
        refine wq_getR 41 fl_X8_38 dX8_rewrite_38 rfl rfl o_71 (rfl : (Tb _).2.2.2 71 12 = some 80) ?_
        refine wq_iload_n 42 1 dX8_rewrite_41 rfl rfl rfl ?_
        refine wq_iald 43 dX8_rewrite_42 rfl a_80 (Ix.nI (by omega) (by decide)) ?_
        rw [i3]
        refine wq_istore 45 [_, _, _, _, _, _, _] dX8_rewrite_43 rfl rfl (Nat.le_of_ble_eq_true rfl) rfl ?_
        refine wq_iload_n 46 2 dX8_rewrite_45 rfl rfl rfl ?_
        refine wq_iconst 47 4 dX8_rewrite_46 rfl (by decide) ?_
        refine wq_ic_eq 50 62 dX8_rewrite_47 rfl (by decide) (fun c47 => absurd c47 (by decide)) (fun c47 => ?_)
        refine wq_iload_n 51 2 dX8_rewrite_50 rfl rfl rfl ?_
        refine wq_bipush 53 6 dX8_rewrite_51 rfl (by decide) ?_
        refine wq_ic_eq 56 62 dX8_rewrite_53 rfl (by decide) (fun c53 => absurd c53 (by decide)) (fun c53 => ?_)
        refine wq_iload_n 57 2 dX8_rewrite_56 rfl rfl rfl ?_
        refine wq_bipush 59 8 dX8_rewrite_57 rfl (by decide) ?_
        refine wq_ic_ne 62 71 dX8_rewrite_59 rfl (by decide) (fun c59 => ?_) (fun c59 => absurd c59 (by decide))
        refine wq_iload_n 72 2 dX8_rewrite_71 rfl rfl rfl ?_
        refine wq_iconst 73 1 dX8_rewrite_72 rfl (by decide) ?_
        refine wq_ic_eq 76 81 dX8_rewrite_73 rfl (by decide) (fun c73 => absurd c73 (by decide)) (fun c73 => ?_)
        refine wq_iload_n 77 2 dX8_rewrite_76 rfl rfl rfl ?_
        refine wq_iconst 78 3 dX8_rewrite_77 rfl (by decide) ?_
        refine wq_ic_ne 81 92 dX8_rewrite_78 rfl (by decide) (fun c78 => ?_) (fun c78 => absurd c78 (by decide))
        refine wq_iload_n 93 2 dX8_rewrite_92 rfl rfl rfl ?_
        refine wq_iconst 94 2 dX8_rewrite_93 rfl (by decide) ?_
        refine wq_ic_ne 97 113 dX8_rewrite_94 rfl (by decide) (fun c94 => ?_) (fun c94 => absurd c94 (by decide))
        exact J I1 s _ _ _ _ hW fq (by omega) (fun _ => rfl) (by rw [hrow, e1])
      · skip
        have r1 := rd_yes (sf := sf) (w := 1) (show shp (p i 0) (nI 1) = 114 by rw [e0]; decide) e1 x64 s
        have r2 := rd_no (sf := sf) (w := 2) (show ¬ shp (p i 0) (nI 2) = 114 by rw [e0]; decide) (rd1 sf s x)
        have r3 := rd_no (sf := sf) (w := 3) (show ¬ shp (p i 0) (nI 3) = 114 by rw [e0]; decide) (rd1 sf s x)
        rw [r1.1, r1.2, r2.1, r2.2, r3.1, r3.2] at hrow
        refine wq_iload_n 8 1 dX8_rewrite_7 rfl rfl rfl ?_
        refine wq_bload_n 9 0 dX8_rewrite_8 rfl rfl rfl ?_
        refine wq_getI 12 fl_X8_148 dX8_rewrite_9 rfl rfl o_71 ?_
        refine wq_ic_ge 15 193 dX8_rewrite_12 rfl (by decide) (fun c12 => absurd c12 (by rw [hc]; exact nI_ge (by omega) (by omega))) (fun c12 => ?_)
        refine wq_bload_n 16 0 dX8_rewrite_15 rfl rfl rfl ?_
        refine wq_getR 19 fl_X8_29 dX8_rewrite_16 rfl rfl o_71 (rfl : (Tb _).2.2.2 71 9 = some 77) ?_
        refine wq_iload_n 20 1 dX8_rewrite_19 rfl rfl rfl ?_
        refine wq_iald 21 dX8_rewrite_20 rfl a_77 (Ix.nI (by omega) (by decide)) ?_
        rw [i0]
        refine wq_istore_n 22 2 [_, _, _, _, _, _, _] dX8_rewrite_21 rfl rfl rfl (Nat.le_of_ble_eq_true rfl) rfl ?_
        refine wq_bload_n 23 0 dX8_rewrite_22 rfl rfl rfl ?_
        refine wq_getR 26 fl_X8_32 dX8_rewrite_23 rfl rfl o_71 (rfl : (Tb _).2.2.2 71 10 = some 78) ?_
        refine wq_iload_n 27 1 dX8_rewrite_26 rfl rfl rfl ?_
        refine wq_iald 28 dX8_rewrite_27 rfl a_78 (Ix.nI (by omega) (by decide)) ?_
        rw [i1]
        refine wq_istore_n 29 3 [_, _, _, _, _, _, _] dX8_rewrite_28 rfl rfl rfl (Nat.le_of_ble_eq_true rfl) rfl ?_
        refine wq_bload_n 30 0 dX8_rewrite_29 rfl rfl rfl ?_
        refine wq_getR 33 fl_X8_35 dX8_rewrite_30 rfl rfl o_71 (rfl : (Tb _).2.2.2 71 11 = some 79) ?_
        refine wq_iload_n 34 1 dX8_rewrite_33 rfl rfl rfl ?_
        refine wq_iald 35 dX8_rewrite_34 rfl a_79 (Ix.nI (by omega) (by decide)) ?_
        rw [i2]
        refine wq_istore 37 [_, _, _, _, _, _, _] dX8_rewrite_35 rfl rfl (Nat.le_of_ble_eq_true rfl) rfl ?_
        refine wq_bload_n 38 0 dX8_rewrite_37 rfl rfl rfl ?_
        refine wq_getR 41 fl_X8_38 dX8_rewrite_38 rfl rfl o_71 (rfl : (Tb _).2.2.2 71 12 = some 80) ?_
        refine wq_iload_n 42 1 dX8_rewrite_41 rfl rfl rfl ?_
        refine wq_iald 43 dX8_rewrite_42 rfl a_80 (Ix.nI (by omega) (by decide)) ?_
        rw [i3]
        refine wq_istore 45 [_, _, _, _, _, _, _] dX8_rewrite_43 rfl rfl (Nat.le_of_ble_eq_true rfl) rfl ?_
        refine wq_iload_n 46 2 dX8_rewrite_45 rfl rfl rfl ?_
        refine wq_iconst 47 4 dX8_rewrite_46 rfl (by decide) ?_
        refine wq_ic_eq 50 62 dX8_rewrite_47 rfl (by decide) (fun c47 => absurd c47 (by decide)) (fun c47 => ?_)
        refine wq_iload_n 51 2 dX8_rewrite_50 rfl rfl rfl ?_
        refine wq_bipush 53 6 dX8_rewrite_51 rfl (by decide) ?_
        refine wq_ic_eq 56 62 dX8_rewrite_53 rfl (by decide) (fun c53 => ?_) (fun c53 => absurd rfl c53)
        refine wq_bload_n 63 0 dX8_rewrite_62 rfl rfl rfl ?_
        refine wq_iload_n 64 3 dX8_rewrite_63 rfl rfl rfl ?_
        refine cVp1 67 (sp_X8_read (by omega) hs1 h4 hW (by omega) x rfl x64) ml_X8_289 mf_X8_read dX8_rewrite_64 rfl o_71 (by decide) rfl (Nat.le_of_ble_eq_true rfl) (by omega) ?_
        rintro _ b I2 L2 ⟨rfl, rfl, rfl, hW2, fq2⟩
        refine wq_istore_n 68 3 [_, _, _, _, _, _, _] dX8_rewrite_67 rfl rfl rfl (Nat.le_of_ble_eq_true rfl) rfl ?_
        refine wq_goto 113 dX8_rewrite_68 (by decide) ?_
        exact J I2 (rd1 sf s x) _ _ _ _ hW2 (fq.trans fq2) (by have := rdb s x; omega) (fun z => absurd z (by decide)) (by rw [hrow])
      · skip
        have r1 := rd_no (sf := sf) (w := 1) (show ¬ shp (p i 0) (nI 1) = 114 by rw [e0]; decide) s
        have r2 := rd_no (sf := sf) (w := 2) (show ¬ shp (p i 0) (nI 2) = 114 by rw [e0]; decide) s
        have r3 := rd_no (sf := sf) (w := 3) (show ¬ shp (p i 0) (nI 3) = 114 by rw [e0]; decide) s
        rw [r1.1, r1.2, r2.1, r2.2, r3.1, r3.2] at hrow
        refine wq_iload_n 8 1 dX8_rewrite_7 rfl rfl rfl ?_
        refine wq_bload_n 9 0 dX8_rewrite_8 rfl rfl rfl ?_
        refine wq_getI 12 fl_X8_148 dX8_rewrite_9 rfl rfl o_71 ?_
        refine wq_ic_ge 15 193 dX8_rewrite_12 rfl (by decide) (fun c12 => absurd c12 (by rw [hc]; exact nI_ge (by omega) (by omega))) (fun c12 => ?_)
        refine wq_bload_n 16 0 dX8_rewrite_15 rfl rfl rfl ?_
        refine wq_getR 19 fl_X8_29 dX8_rewrite_16 rfl rfl o_71 (rfl : (Tb _).2.2.2 71 9 = some 77) ?_
        refine wq_iload_n 20 1 dX8_rewrite_19 rfl rfl rfl ?_
        refine wq_iald 21 dX8_rewrite_20 rfl a_77 (Ix.nI (by omega) (by decide)) ?_
        rw [i0]
        refine wq_istore_n 22 2 [_, _, _, _, _, _, _] dX8_rewrite_21 rfl rfl rfl (Nat.le_of_ble_eq_true rfl) rfl ?_
        refine wq_bload_n 23 0 dX8_rewrite_22 rfl rfl rfl ?_
        refine wq_getR 26 fl_X8_32 dX8_rewrite_23 rfl rfl o_71 (rfl : (Tb _).2.2.2 71 10 = some 78) ?_
        refine wq_iload_n 27 1 dX8_rewrite_26 rfl rfl rfl ?_
        refine wq_iald 28 dX8_rewrite_27 rfl a_78 (Ix.nI (by omega) (by decide)) ?_
        rw [i1]
        refine wq_istore_n 29 3 [_, _, _, _, _, _, _] dX8_rewrite_28 rfl rfl rfl (Nat.le_of_ble_eq_true rfl) rfl ?_
        refine wq_bload_n 30 0 dX8_rewrite_29 rfl rfl rfl ?_
        refine wq_getR 33 fl_X8_35 dX8_rewrite_30 rfl rfl o_71 (rfl : (Tb _).2.2.2 71 11 = some 79) ?_
        refine wq_iload_n 34 1 dX8_rewrite_33 rfl rfl rfl ?_
        refine wq_iald 35 dX8_rewrite_34 rfl a_79 (Ix.nI (by omega) (by decide)) ?_
        rw [i2]
        refine wq_istore 37 [_, _, _, _, _, _, _] dX8_rewrite_35 rfl rfl (Nat.le_of_ble_eq_true rfl) rfl ?_
        refine wq_bload_n 38 0 dX8_rewrite_37 rfl rfl rfl ?_
        refine wq_getR 41 fl_X8_38 dX8_rewrite_38 rfl rfl o_71 (rfl : (Tb _).2.2.2 71 12 = some 80) ?_
        refine wq_iload_n 42 1 dX8_rewrite_41 rfl rfl rfl ?_
        refine wq_iald 43 dX8_rewrite_42 rfl a_80 (Ix.nI (by omega) (by decide)) ?_
        rw [i3]
        refine wq_istore 45 [_, _, _, _, _, _, _] dX8_rewrite_43 rfl rfl (Nat.le_of_ble_eq_true rfl) rfl ?_
        refine wq_iload_n 46 2 dX8_rewrite_45 rfl rfl rfl ?_
        refine wq_iconst 47 4 dX8_rewrite_46 rfl (by decide) ?_
        refine wq_ic_eq 50 62 dX8_rewrite_47 rfl (by decide) (fun c47 => absurd c47 (by decide)) (fun c47 => ?_)
        refine wq_iload_n 51 2 dX8_rewrite_50 rfl rfl rfl ?_
        refine wq_bipush 53 6 dX8_rewrite_51 rfl (by decide) ?_
        refine wq_ic_eq 56 62 dX8_rewrite_53 rfl (by decide) (fun c53 => absurd c53 (by decide)) (fun c53 => ?_)
        refine wq_iload_n 57 2 dX8_rewrite_56 rfl rfl rfl ?_
        refine wq_bipush 59 8 dX8_rewrite_57 rfl (by decide) ?_
        refine wq_ic_ne 62 71 dX8_rewrite_59 rfl (by decide) (fun c59 => ?_) (fun c59 => absurd c59 (by decide))
        refine wq_iload_n 72 2 dX8_rewrite_71 rfl rfl rfl ?_
        refine wq_iconst 73 1 dX8_rewrite_72 rfl (by decide) ?_
        refine wq_ic_eq 76 81 dX8_rewrite_73 rfl (by decide) (fun c73 => absurd c73 (by decide)) (fun c73 => ?_)
        refine wq_iload_n 77 2 dX8_rewrite_76 rfl rfl rfl ?_
        refine wq_iconst 78 3 dX8_rewrite_77 rfl (by decide) ?_
        refine wq_ic_ne 81 92 dX8_rewrite_78 rfl (by decide) (fun c78 => ?_) (fun c78 => absurd c78 (by decide))
        refine wq_iload_n 93 2 dX8_rewrite_92 rfl rfl rfl ?_
        refine wq_iconst 94 2 dX8_rewrite_93 rfl (by decide) ?_
        refine wq_ic_ne 97 113 dX8_rewrite_94 rfl (by decide) (fun c94 => ?_) (fun c94 => absurd c94 (by decide))
        exact J I1 s _ _ _ _ hW fq (by omega) (fun _ => rfl) (by rw [hrow, e1])
      · skip
        have r1 := rd_yes (sf := sf) (w := 1) (show shp (p i 0) (nI 1) = 114 by rw [e0]; decide) e1 x64 s
        have r2 := rd_no (sf := sf) (w := 2) (show ¬ shp (p i 0) (nI 2) = 114 by rw [e0]; decide) (rd1 sf s x)
        have r3 := rd_no (sf := sf) (w := 3) (show ¬ shp (p i 0) (nI 3) = 114 by rw [e0]; decide) (rd1 sf s x)
        rw [r1.1, r1.2, r2.1, r2.2, r3.1, r3.2] at hrow
        refine wq_iload_n 8 1 dX8_rewrite_7 rfl rfl rfl ?_
        refine wq_bload_n 9 0 dX8_rewrite_8 rfl rfl rfl ?_
        refine wq_getI 12 fl_X8_148 dX8_rewrite_9 rfl rfl o_71 ?_
        refine wq_ic_ge 15 193 dX8_rewrite_12 rfl (by decide) (fun c12 => absurd c12 (by rw [hc]; exact nI_ge (by omega) (by omega))) (fun c12 => ?_)
        refine wq_bload_n 16 0 dX8_rewrite_15 rfl rfl rfl ?_
        refine wq_getR 19 fl_X8_29 dX8_rewrite_16 rfl rfl o_71 (rfl : (Tb _).2.2.2 71 9 = some 77) ?_
        refine wq_iload_n 20 1 dX8_rewrite_19 rfl rfl rfl ?_
        refine wq_iald 21 dX8_rewrite_20 rfl a_77 (Ix.nI (by omega) (by decide)) ?_
        rw [i0]
        refine wq_istore_n 22 2 [_, _, _, _, _, _, _] dX8_rewrite_21 rfl rfl rfl (Nat.le_of_ble_eq_true rfl) rfl ?_
        refine wq_bload_n 23 0 dX8_rewrite_22 rfl rfl rfl ?_
        refine wq_getR 26 fl_X8_32 dX8_rewrite_23 rfl rfl o_71 (rfl : (Tb _).2.2.2 71 10 = some 78) ?_
        refine wq_iload_n 27 1 dX8_rewrite_26 rfl rfl rfl ?_
        refine wq_iald 28 dX8_rewrite_27 rfl a_78 (Ix.nI (by omega) (by decide)) ?_
        rw [i1]
        refine wq_istore_n 29 3 [_, _, _, _, _, _, _] dX8_rewrite_28 rfl rfl rfl (Nat.le_of_ble_eq_true rfl) rfl ?_
        refine wq_bload_n 30 0 dX8_rewrite_29 rfl rfl rfl ?_
        refine wq_getR 33 fl_X8_35 dX8_rewrite_30 rfl rfl o_71 (rfl : (Tb _).2.2.2 71 11 = some 79) ?_
        refine wq_iload_n 34 1 dX8_rewrite_33 rfl rfl rfl ?_
        refine wq_iald 35 dX8_rewrite_34 rfl a_79 (Ix.nI (by omega) (by decide)) ?_
        rw [i2]
        refine wq_istore 37 [_, _, _, _, _, _, _] dX8_rewrite_35 rfl rfl (Nat.le_of_ble_eq_true rfl) rfl ?_
        refine wq_bload_n 38 0 dX8_rewrite_37 rfl rfl rfl ?_
        refine wq_getR 41 fl_X8_38 dX8_rewrite_38 rfl rfl o_71 (rfl : (Tb _).2.2.2 71 12 = some 80) ?_
        refine wq_iload_n 42 1 dX8_rewrite_41 rfl rfl rfl ?_
        refine wq_iald 43 dX8_rewrite_42 rfl a_80 (Ix.nI (by omega) (by decide)) ?_
        rw [i3]
        refine wq_istore 45 [_, _, _, _, _, _, _] dX8_rewrite_43 rfl rfl (Nat.le_of_ble_eq_true rfl) rfl ?_
        refine wq_iload_n 46 2 dX8_rewrite_45 rfl rfl rfl ?_
        refine wq_iconst 47 4 dX8_rewrite_46 rfl (by decide) ?_
        refine wq_ic_eq 50 62 dX8_rewrite_47 rfl (by decide) (fun c47 => absurd c47 (by decide)) (fun c47 => ?_)
        refine wq_iload_n 51 2 dX8_rewrite_50 rfl rfl rfl ?_
        refine wq_bipush 53 6 dX8_rewrite_51 rfl (by decide) ?_
        refine wq_ic_eq 56 62 dX8_rewrite_53 rfl (by decide) (fun c53 => absurd c53 (by decide)) (fun c53 => ?_)
        refine wq_iload_n 57 2 dX8_rewrite_56 rfl rfl rfl ?_
        refine wq_bipush 59 8 dX8_rewrite_57 rfl (by decide) ?_
        refine wq_ic_ne 62 71 dX8_rewrite_59 rfl (by decide) (fun c59 => absurd c59 (fun z => z rfl)) (fun c59 => ?_)
        refine wq_bload_n 63 0 dX8_rewrite_62 rfl rfl rfl ?_
        refine wq_iload_n 64 3 dX8_rewrite_63 rfl rfl rfl ?_
        refine cVp1 67 (sp_X8_read (by omega) hs1 h4 hW (by omega) x rfl x64) ml_X8_289 mf_X8_read dX8_rewrite_64 rfl o_71 (by decide) rfl (Nat.le_of_ble_eq_true rfl) (by omega) ?_
        rintro _ b I2 L2 ⟨rfl, rfl, rfl, hW2, fq2⟩
        refine wq_istore_n 68 3 [_, _, _, _, _, _, _] dX8_rewrite_67 rfl rfl rfl (Nat.le_of_ble_eq_true rfl) rfl ?_
        refine wq_goto 113 dX8_rewrite_68 (by decide) ?_
        exact J I2 (rd1 sf s x) _ _ _ _ hW2 (fq.trans fq2) (by have := rdb s x; omega) (fun z => absurd z (by decide)) (by rw [hrow])
  refine Me.of [some (rf g 71), none, none, none, none, none, none] 6 rfl pf_X8_rewrite (Nat.le_of_ble_eq_true rfl) ?_
  refine wq_bload_n 1 0 dX8_rewrite_0 rfl rfl rfl ?_
  refine wq_iconst 2 0 dX8_rewrite_1 rfl (by decide) ?_
  refine wq_putI 5 fl_X8_276 dX8_rewrite_2 rfl rfl rfl rfl rfl o_71 ?_
  refine wq_iconst 6 0 dX8_rewrite_5 rfl (by decide) ?_
  refine wq_istore_n 7 1 [_, _, _, _, _, _, _] dX8_rewrite_6 rfl rfl rfl (Nat.le_of_ble_eq_true rfl) rfl ?_
  exact lp n 0 _ _ _ _ _ _ (by omega) ⟨⟨by rw [va_up_self, va_up_self]; rfl, fun j hj => absurd hj (Nat.not_lt_zero j)⟩, by rw [va_up_self, va_up_ne _ _ (by decide)]; exact hnw⟩ ⟨fun x hx => va_up_ne _ _ (by simp at hx; exact hx.1), fun z z1 _ => by rw [va_up_self, va_up_ne _ _ z1]⟩
