/-! the reference's round: names, the steps -/
theorem nNm_n {x : Nat} (h : x < 64) (ns : Int64) {sh : Int32} (hs : sh = 114 ∨ sh = 119) : nNm ns (nI x) sh = ns ||| one (nI x) := by
  unfold nNm
  rw [if_neg (nI_pos (by omega)), if_neg (show ¬ (64 : Int32) ≤ nI x from nI_ge (b := 64) h (by decide))]
  rcases hs with rfl | rfl
  · rw [if_pos rfl]
  · rw [if_neg (by decide), if_pos rfl]
theorem nNm_o {nm sh : Int32} (h : sh ≠ 114) (h2 : sh ≠ 119) (ns : Int64) : nNm ns nm sh = ns := by
  unfold nNm
  rw [if_neg h, if_neg h2]
  simp
theorem or_0 (x : Int64) : x ||| 0 = x := by
  apply tb_ext; intro i _; rw [tb_or, tb_0, Bool.or_false]
theorem Nms_step {B : Nat} {p : Pg} {i k x y z : Nat} (h : RF B p i k x y z) (N : Int64) : rNm N (p i 0) (p i 1) (p i 2) (p i 3) = N ||| (Rd p i ||| wm p i) := by
  obtain ⟨k9, e0, e1, x64, -, -, f1, f2, -, -, f3, f4, hR, hW⟩ := h
  have o1 : ¬ nI x < 0 := nI_pos (by omega)
  unfold rNm wm
  rw [hR, hW, e0, e1]
  have hk9 : k = 0 ∨ k = 1 ∨ k = 2 ∨ k = 3 ∨ k = 4 ∨ k = 5 ∨ k = 6 ∨ k = 7 ∨ k = 8 := by omega
  rcases hk9 with rfl | rfl | rfl | rfl | rfl | rfl | rfl | rfl | rfl
  · rw [sh01, sh02, sh03, nNm_o (by decide) (by decide), nNm_o (by decide) (by decide), nNm_n x64 _ (Or.inr rfl), if_neg (by decide), if_neg (by decide), if_neg (by decide), if_pos (show 0 < 4 ∨ 0 = 7 by decide), if_neg o1, or0]
  · obtain ⟨g1, g2⟩ := f2 (by decide)
    rw [sh11, sh12, sh13, g1, nNm_o (by decide) (by decide), nNm_n g2 _ (Or.inl rfl), nNm_n x64 _ (Or.inr rfl), if_pos (by decide), if_pos (show 1 < 4 ∨ 1 = 7 by decide), if_neg o1]
    apply tb_ext; intro j _; simp only [tb_or]
    cases tb N j <;> cases tb (one (nI x)) j <;> cases tb (one (nI y)) j <;> rfl
  · obtain ⟨g1, g2⟩ := f2 (by decide)
    obtain ⟨g3, -, g4⟩ := f3 rfl
    rw [sh21, sh22, sh23, g1, g3, nNm_n g4 _ (Or.inl rfl), nNm_n g2 _ (Or.inl rfl), nNm_n x64 _ (Or.inr rfl), if_neg (by decide), if_pos rfl, if_pos (show 2 < 4 ∨ 2 = 7 by decide), if_neg o1]
    apply tb_ext; intro j _; simp only [tb_or]
    cases tb N j <;> cases tb (one (nI x)) j <;> cases tb (one (nI y)) j <;> cases tb (one (nI z)) j <;> rfl
  · obtain ⟨g1, g2⟩ := f2 (by decide)
    rw [sh31, sh32, sh33, g1, nNm_o (by decide) (by decide), nNm_n g2 _ (Or.inl rfl), nNm_n x64 _ (Or.inr rfl), if_pos (by decide), if_pos (show 3 < 4 ∨ 3 = 7 by decide), if_neg o1]
    apply tb_ext; intro j _; simp only [tb_or]
    cases tb N j <;> cases tb (one (nI x)) j <;> cases tb (one (nI y)) j <;> rfl
  · rw [sh41, sh42, sh43, nNm_o (by decide) (by decide), nNm_o (by decide) (by decide), nNm_n x64 _ (Or.inl rfl), if_neg (by decide), if_neg (by decide), if_pos (by decide), if_neg (show ¬ (4 < 4 ∨ 4 = 7) by decide), if_pos (by decide), or_0]
  · rw [sh51, sh52, sh53, nNm_o (by decide) (by decide), nNm_o (by decide) (by decide), nNm_o (by decide) (by decide), if_neg (by decide), if_neg (by decide), if_neg (by decide), if_neg (show ¬ (5 < 4 ∨ 5 = 7) by decide), if_pos (by decide), or_0, or_0]
  · rw [sh61, sh62, sh63, nNm_o (by decide) (by decide), nNm_o (by decide) (by decide), nNm_n x64 _ (Or.inl rfl), if_neg (by decide), if_neg (by decide), if_pos (by decide), if_neg (show ¬ (6 < 4 ∨ 6 = 7) by decide), if_pos (by decide), or_0]
  · rw [sh71, sh72, sh73, nNm_o (by decide) (by decide), nNm_o (by decide) (by decide), nNm_n x64 _ (Or.inr rfl), if_neg (by decide), if_neg (by decide), if_neg (by decide), if_pos (show 7 < 4 ∨ 7 = 7 by decide), if_neg o1, or0]
  · rw [sh81, sh82, sh83, nNm_o (by decide) (by decide), nNm_o (by decide) (by decide), nNm_n x64 _ (Or.inl rfl), if_neg (by decide), if_neg (by decide), if_pos (by decide), if_neg (show ¬ (8 < 4 ∨ 8 = 7) by decide), if_pos (by decide), or_0]
set_option maxRecDepth 20000 in
theorem sp_X8_names {g : Gl} {D : Nat} {b : Bool} {I : IM} {L : LM} {n B : Nat} {p : Pg} (hD : 2 ≤ D) (h : NR I n p) (hw : WfB B p n) : Md g D MX8_names [rf g 71] b I L (some (.long (Nms p n))) b I L := by
  have hn := h.1
  have lp : ∀ r q l2, q + r = n → Wp (Kn g D MX8_names (fun r b' I' L' => r = some (.long (Nms p n)) ∧ b' = b ∧ I' = I ∧ L' = L)) (Tb b) 4 [some (rf g 71), some (.long (Nms p q)), l2, some (.int (nI q))] [] I L := by
    intro r
    induction r with
    | zero =>
      intro q l2 hq
      have eq : q = n := by omega
      subst eq
      refine wq_iload_n 5 3 dX8_names_4 rfl rfl rfl ?_
      refine wq_bload_n 6 0 dX8_names_5 rfl rfl rfl ?_
      refine wq_getI 9 fl_X8_148 dX8_names_6 rfl rfl o_71 ?_
      refine wq_ic_ge 12 32 dX8_names_9 rfl (by decide) (fun c9 => ?_) (fun c9 => absurd (by rw [h.2.1]; exact nI_le (Nat.le_refl _) (by omega)) c9)
      refine wq_lload_n 33 1 dX8_names_32 rfl rfl rfl ?_
      refine rl dX8_names_33 rfl ?_
      exact ⟨rfl, rfl, rfl, rfl⟩
    | succ r ih =>
      intro q l2 hq
      obtain ⟨k, x, y, z, hF⟩ := row_form hw (show q < n by omega)
      have e := Nms_step hF (Nms p q)
      refine wq_iload_n 5 3 dX8_names_4 rfl rfl rfl ?_
      refine wq_bload_n 6 0 dX8_names_5 rfl rfl rfl ?_
      refine wq_getI 9 fl_X8_148 dX8_names_6 rfl rfl o_71 ?_
      refine wq_ic_ge 12 32 dX8_names_9 rfl (by decide) (fun c9 => absurd c9 (by rw [h.2.1]; exact nI_ge (by omega) (by omega))) (fun c9 => ?_)
      refine wq_lload_n 13 1 dX8_names_12 rfl rfl rfl ?_
      refine wq_bload_n 14 0 dX8_names_13 rfl rfl rfl ?_
      refine wq_iload_n 15 3 dX8_names_14 rfl rfl rfl ?_
      refine cVl1 18 (sp_X8_reads h hw q rfl (by omega)) ml_X8_164 mf_X8_reads dX8_names_15 rfl o_71 (by decide) rfl (Nat.le_of_ble_eq_true rfl) (by omega) ?_
      refine wq_bload_n 19 0 dX8_names_18 rfl rfl rfl ?_
      refine wq_iload_n 20 3 dX8_names_19 rfl rfl rfl ?_
      refine cVl1 23 (sp_X8_writes (by omega) h hw q rfl (by omega)) ml_X8_158 mf_X8_writes dX8_names_20 rfl o_71 (by decide) rfl (Nat.le_of_ble_eq_true rfl) (by omega) ?_
      refine wq_lor 24 dX8_names_23 rfl ?_
      refine wq_lor 25 dX8_names_24 rfl ?_
      refine wq_lstore_n 26 1 [_, _, _, _] dX8_names_25 rfl rfl rfl (Nat.le_of_ble_eq_true rfl) rfl ?_
      refine wq_iinc 29 (_ + 1) [_, _, _, _] dX8_names_26 rfl rfl (inc1 _) rfl (Nat.le_of_ble_eq_true rfl) rfl ?_
      refine wq_goto 4 dX8_names_29 (by decide) ?_
      rw [← nI_succ, ← e]
      exact ih (q + 1) _ (by omega)
  refine Me.of [some (rf g 71), none, none, none] 3 rfl pf_X8_names (Nat.le_of_ble_eq_true rfl) ?_
  refine wq_lconst 1 0 dX8_names_0 rfl (by decide) ?_
  refine wq_lstore_n 2 1 [_, _, _, _] dX8_names_1 rfl rfl rfl (Nat.le_of_ble_eq_true rfl) rfl ?_
  refine wq_iconst 3 0 dX8_names_2 rfl (by decide) ?_
  refine wq_istore_n 4 3 [_, _, _, _] dX8_names_3 rfl rfl rfl (Nat.le_of_ble_eq_true rfl) rfl ?_
  exact lp n 0 _ (by omega)
