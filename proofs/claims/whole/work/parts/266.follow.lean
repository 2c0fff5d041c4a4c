/-! Runner: obey, follow -/
theorem less_is : ∀ v, v < 1000 → maxI 0 (nI v - 1) = nI (v - 1) := by decide +kernel
theorem Lb_N (p : Pg) (f n : Nat) (hn : n ≤ 90) : Lb p f n < 0 ∨ (Lb p f n = nI (cN (Lb p f n)) ∧ cN (Lb p f n) < n ∧ ¬ Lb p f n < 0) := by
  rcases Lb_lt p f n with q | ⟨j, j1, j2, -⟩
  · exact Or.inl q
  · have e : cN (Lb p f n) = j := by rw [j2]; exact nI_clamp (by omega)
    rw [e, j2]
    exact Or.inr ⟨rfl, j1, nI_pos (by omega)⟩
theorem rnN_le {p : Pg} {n i : Nat} {s : RS} (hn : n ≤ 90) (hi : i < n) : rnN p n i s ≤ n := by
  unfold rnN
  split
  · split
    · exact Nat.le_refl _
    · rcases Lb_N p (cN (p i 2)) n hn with q | ⟨-, q, -⟩
      · rename_i c; exact absurd q c
      · omega
  · omega
theorem LU_apart {l a : Nat} (hl : IsL l) (ha : IsU a) {i j : Nat} (hi : i < 5) (hj : j < 4) : l + i ≠ a + j := by
  rcases hl with rfl | rfl | rfl | rfl | rfl | rfl <;> rcases ha with rfl | rfl <;> omega
theorem FU_L {l a n : Nat} {I I' : IM} {L : LM} {p : Pg} (hl : IsL l) (ha : IsU a) (h : LR I L l n p) (f : FU a I I') : LR I' L l n p := LR_keep h (fun j hj => f.1 _ (LU_apart hl ha hj (j := 0) (by omega)) (LU_apart hl ha hj (j := 1) (by omega)) (LU_apart hl ha hj (j := 2) (by omega)) (LU_apart hl ha hj (j := 3) (by omega))) (fun _ _ => rfl)
set_option maxRecDepth 20000 in
set_option maxHeartbeats 4000000 in
theorem sp_X6_obey {g : Gl} {D : Nat} {b : Bool} {I : IM} {L : LM} {a l n B : Nat} {p : Pg} {s : RS} (hD : 3 ≤ D) (ha : IsU a) (hl : IsL l) (h : LR I L l n p) (hw : WfB B p n) (hU : UR I a s) (hok : OKR s) (hC : uC s < 2 ^ 30) {j : Int32} (i : Nat) (hj : j = nI i) (hi : i < n) : Me g D MX6_obey [rf g a, rf g l, .int j] b I L (fun r b' I' L' => r = some (.int (nI (rnN p n i s))) ∧ b' = b ∧ L' = L ∧ UR I' a (rnS p i s) ∧ FU a I I') := by
  subst hj
  have hn := h.1
  have tgE := tg_eq h hw hi
  have pE : ∀ v, v < 4 → I (l + 1) (4 * i + v) = p i v := fun v hv => h.2.2.2.2.2.1 i hi v hv
  obtain ⟨k, x, y, z, hF⟩ := row_form hw hi
  obtain ⟨k9, e0, e1, x64, -, -, f1, f2, -, f5, f3, -, -, -⟩ := hF
  have hk9 : k = 0 ∨ k = 1 ∨ k = 2 ∨ k = 3 ∨ k = 4 ∨ k = 5 ∨ k = 6 ∨ k = 7 ∨ k = 8 := by omega
  have next : ¬ k = 6 → rnN p n i s = i + 1 := fun hk => by
    rw [rnN, if_neg]
    intro z
    rw [e0] at z
    exact hk ((nI_eq (a := k) (b := 6) (by omega) (by decide)).mp z.1)
  have vx := hU.1 x x64
  have bx := hok.1 x x64
  refine Me.of [some (rf g a), some (rf g l), some (.int (nI i)), none, none, none] 3 rfl pf_X6_obey (Nat.le_of_ble_eq_true rfl) ?_
  refine wq_bload_n 1 1 dX6_obey_0 rfl rfl rfl ?_
  refine wq_iload_n 2 2 dX6_obey_1 rfl rfl rfl ?_
  refine wq_iconst 3 1 dX6_obey_2 rfl (by decide) ?_
  refine cVi2 6 (sp_X2_partAt hl h.2.1 hn i 1 rfl rfl (by omega) (by omega)) ml_X6_56 mf_X2_partAt dX6_obey_3 rfl (L_ob hl) (by decide) rfl (Nat.le_of_ble_eq_true rfl) (by omega) ?_
  rw [pE 1 (by omega), e1]
  refine wq_istore_n 7 3 [_, _, _, _, _, _] dX6_obey_6 rfl rfl rfl (Nat.le_of_ble_eq_true rfl) rfl ?_
  refine wq_bload_n 8 1 dX6_obey_7 rfl rfl rfl ?_
  refine wq_iload_n 9 2 dX6_obey_8 rfl rfl rfl ?_
  refine wq_iconst 10 2 dX6_obey_9 rfl (by decide) ?_
  refine cVi2 13 (sp_X2_partAt hl h.2.1 hn i 2 rfl rfl (by omega) (by omega)) ml_X6_56 mf_X2_partAt dX6_obey_10 rfl (L_ob hl) (by decide) rfl (Nat.le_of_ble_eq_true rfl) (by omega) ?_
  rw [pE 2 (by omega)]
  refine wq_istore 15 [_, _, _, _, _, _] dX6_obey_13 rfl rfl (Nat.le_of_ble_eq_true rfl) rfl ?_
  refine wq_bload_n 16 1 dX6_obey_15 rfl rfl rfl ?_
  refine wq_iload_n 17 2 dX6_obey_16 rfl rfl rfl ?_
  refine wq_iconst 18 0 dX6_obey_17 rfl (by decide) ?_
  refine cVi2 21 (sp_X2_partAt hl h.2.1 hn i 0 rfl rfl (by omega) (by omega)) ml_X6_56 mf_X2_partAt dX6_obey_18 rfl (L_ob hl) (by decide) rfl (Nat.le_of_ble_eq_true rfl) (by omega) ?_
  rw [pE 0 (by omega), e0]
  rcases hk9 with rfl | rfl | rfl | rfl | rfl | rfl | rfl | rfl | rfl
  · skip
    have eS : rnS p i s = puS s x y := by rw [rnS, e0, if_pos (by decide), e1, cN_n x64, (f2 (by decide)).1, cN_n (f2 (by decide)).2]
    obtain ⟨e2, y64⟩ := f2 (by decide)
    rw [e2]
    have eN := next (by decide)
    refine wq_tabIn 72 dX6_obey_21 (by decide) (by decide) rfl (by decide) ?_
    refine wq_bload_n 73 0 dX6_obey_72 rfl rfl rfl ?_
    refine wq_iload_n 74 3 dX6_obey_73 rfl rfl rfl ?_
    refine wq_iload 76 dX6_obey_74 rfl rfl ?_
    refine cVv2 79 (sp_X6_put ha x rfl x64 _) ml_X6_60 mf_X6_put dX6_obey_76 rfl (U_ob ha) (by decide) rfl (Nat.le_of_ble_eq_true rfl) (by omega) ?_
    refine wq_goto 207 dX6_obey_79 (by decide) ?_
    refine wq_iload_n 208 2 dX6_obey_207 rfl rfl rfl ?_
    refine wq_iconst 209 1 dX6_obey_208 rfl (by decide) ?_
    refine wq_iadd 210 dX6_obey_209 rfl ?_
    refine ri .int dX6_obey_210 rfl rfl ?_
    have q := UR_pu (x := x) (v := y) hU
    exact ⟨by rw [eN, nI_succ], rfl, rfl, by rw [eS]; exact q.1, q.2⟩
  · skip
    have eS : rnS p i s = puS s x (uV s y) := by rw [rnS, e0, if_neg (by decide), if_pos (by decide), e1, cN_n x64, (f2 (by decide)).1, cN_n (f2 (by decide)).2]
    obtain ⟨e2, y64⟩ := f2 (by decide)
    rw [e2]
    have eN := next (by decide)
    refine wq_tabIn 82 dX6_obey_21 (by decide) (by decide) rfl (by decide) ?_
    have vy := hU.1 y y64
    have by_ := hok.1 y y64
    refine wq_bload_n 83 0 dX6_obey_82 rfl rfl rfl ?_
    refine wq_iload_n 84 3 dX6_obey_83 rfl rfl rfl ?_
    refine wq_bload_n 85 0 dX6_obey_84 rfl rfl rfl ?_
    refine wq_iload 87 dX6_obey_85 rfl rfl ?_
    refine cVi1 90 (sp_X6_valueOf ha y rfl y64) ml_X6_64 mf_X6_valueOf dX6_obey_87 rfl (U_ob ha) (by decide) rfl (Nat.le_of_ble_eq_true rfl) (by omega) ?_
    rw [vy]
    refine cVv2 93 (sp_X6_put ha x rfl x64 _) ml_X6_60 mf_X6_put dX6_obey_90 rfl (U_ob ha) (by decide) rfl (Nat.le_of_ble_eq_true rfl) (by omega) ?_
    refine wq_goto 207 dX6_obey_93 (by decide) ?_
    refine wq_iload_n 208 2 dX6_obey_207 rfl rfl rfl ?_
    refine wq_iconst 209 1 dX6_obey_208 rfl (by decide) ?_
    refine wq_iadd 210 dX6_obey_209 rfl ?_
    refine ri .int dX6_obey_210 rfl rfl ?_
    have q := UR_pu (x := x) (v := (uV s y)) hU
    exact ⟨by rw [eN, nI_succ], rfl, rfl, by rw [eS]; exact q.1, q.2⟩
  · skip
    have eS : rnS p i s = puS s x ((uV s y + uV s z) % 1000) := by rw [rnS, e0, if_neg (by decide), if_neg (by decide), if_pos (by decide), e1, cN_n x64, (f2 (by decide)).1, cN_n (f2 (by decide)).2, (f3 rfl).1, cN_n (f3 rfl).2.2]
    obtain ⟨e2, y64⟩ := f2 (by decide)
    rw [e2]
    have eN := next (by decide)
    refine wq_tabIn 96 dX6_obey_21 (by decide) (by decide) rfl (by decide) ?_
    have vy := hU.1 y y64
    have by_ := hok.1 y y64
    have vz := hU.1 z (f3 rfl).2.2
    have bz := hok.1 z (f3 rfl).2.2
    refine wq_bload_n 97 0 dX6_obey_96 rfl rfl rfl ?_
    refine wq_iload_n 98 3 dX6_obey_97 rfl rfl rfl ?_
    refine wq_bload_n 99 0 dX6_obey_98 rfl rfl rfl ?_
    refine wq_iload 101 dX6_obey_99 rfl rfl ?_
    refine cVi1 104 (sp_X6_valueOf ha y rfl y64) ml_X6_64 mf_X6_valueOf dX6_obey_101 rfl (U_ob ha) (by decide) rfl (Nat.le_of_ble_eq_true rfl) (by omega) ?_
    rw [vy]
    refine wq_bload_n 105 0 dX6_obey_104 rfl rfl rfl ?_
    refine wq_bload_n 106 1 dX6_obey_105 rfl rfl rfl ?_
    refine wq_iload_n 107 2 dX6_obey_106 rfl rfl rfl ?_
    refine wq_iconst 108 3 dX6_obey_107 rfl (by decide) ?_
    refine cVi2 111 (sp_X2_partAt hl h.2.1 hn i 3 rfl rfl (by omega) (by omega)) ml_X6_56 mf_X2_partAt dX6_obey_108 rfl (L_ob hl) (by decide) rfl (Nat.le_of_ble_eq_true rfl) (by omega) ?_
    refine cVi1 114 (sp_X6_valueOf ha z (by rw [pE 3 (by omega)]; exact (f3 rfl).1) (f3 rfl).2.2) ml_X6_64 mf_X6_valueOf dX6_obey_111 rfl (U_ob ha) (by decide) rfl (Nat.le_of_ble_eq_true rfl) (by omega) ?_
    rw [vz]
    refine wq_iadd 115 dX6_obey_114 rfl ?_
    refine wq_sipush 118 1000 dX6_obey_115 rfl (by decide) ?_
    refine wq_irem 119 dX6_obey_118 rfl (by decide) ?_
    rw [nI_add, show (1000 : Int32) = nI 1000 from rfl, pk_rem (by omega) (by decide) (by decide)]
    refine cVv2 122 (sp_X6_put ha x rfl x64 _) ml_X6_60 mf_X6_put dX6_obey_119 rfl (U_ob ha) (by decide) rfl (Nat.le_of_ble_eq_true rfl) (by omega) ?_
    refine wq_goto 207 dX6_obey_122 (by decide) ?_
    refine wq_iload_n 208 2 dX6_obey_207 rfl rfl rfl ?_
    refine wq_iconst 209 1 dX6_obey_208 rfl (by decide) ?_
    refine wq_iadd 210 dX6_obey_209 rfl ?_
    refine ri .int dX6_obey_210 rfl rfl ?_
    have q := UR_pu (x := x) (v := ((uV s y + uV s z) % 1000)) hU
    exact ⟨by rw [eN, nI_succ], rfl, rfl, by rw [eS]; exact q.1, q.2⟩
  · skip
    have eS : rnS p i s = puS s x (uV s y - 1) := by rw [rnS, e0, if_neg (by decide), if_neg (by decide), if_neg (by decide), if_pos (by decide), e1, cN_n x64, (f2 (by decide)).1, cN_n (f2 (by decide)).2]
    obtain ⟨e2, y64⟩ := f2 (by decide)
    rw [e2]
    have eN := next (by decide)
    refine wq_tabIn 125 dX6_obey_21 (by decide) (by decide) rfl (by decide) ?_
    have vy := hU.1 y y64
    have by_ := hok.1 y y64
    refine wq_bload_n 126 0 dX6_obey_125 rfl rfl rfl ?_
    refine wq_iload_n 127 3 dX6_obey_126 rfl rfl rfl ?_
    refine wq_iconst 128 0 dX6_obey_127 rfl (by decide) ?_
    refine wq_bload_n 129 0 dX6_obey_128 rfl rfl rfl ?_
    refine wq_iload 131 dX6_obey_129 rfl rfl ?_
    refine cVi1 134 (sp_X6_valueOf ha y rfl y64) ml_X6_64 mf_X6_valueOf dX6_obey_131 rfl (U_ob ha) (by decide) rfl (Nat.le_of_ble_eq_true rfl) (by omega) ?_
    rw [vy]
    refine wq_iconst 135 1 dX6_obey_134 rfl (by decide) ?_
    refine wq_isub 136 dX6_obey_135 rfl ?_
    refine cSi2 139 (sp_J9_max_7cf53 _ _) ml_X6_68 mf_J9_max_7cf53 dX6_obey_136 rfl (Nat.le_of_ble_eq_true rfl) (by omega) ?_
    rw [less_is _ by_]
    refine cVv2 142 (sp_X6_put ha x rfl x64 _) ml_X6_60 mf_X6_put dX6_obey_139 rfl (U_ob ha) (by decide) rfl (Nat.le_of_ble_eq_true rfl) (by omega) ?_
    refine wq_goto 207 dX6_obey_142 (by decide) ?_
    refine wq_iload_n 208 2 dX6_obey_207 rfl rfl rfl ?_
    refine wq_iconst 209 1 dX6_obey_208 rfl (by decide) ?_
    refine wq_iadd 210 dX6_obey_209 rfl ?_
    refine ri .int dX6_obey_210 rfl rfl ?_
    have q := UR_pu (x := x) (v := (uV s y - 1)) hU
    exact ⟨by rw [eN, nI_succ], rfl, rfl, by rw [eS]; exact q.1, q.2⟩
  · skip
    have eS : rnS p i s = teS s (uV s x) := by rw [rnS, e0, if_neg (by decide), if_neg (by decide), if_neg (by decide), if_neg (by decide), if_pos (by decide), e1, cN_n x64]
    have eN := next (by decide)
    refine wq_tabIn 145 dX6_obey_21 (by decide) (by decide) rfl (by decide) ?_
    refine wq_bload_n 146 0 dX6_obey_145 rfl rfl rfl ?_
    refine wq_bload_n 147 0 dX6_obey_146 rfl rfl rfl ?_
    refine wq_iload_n 148 3 dX6_obey_147 rfl rfl rfl ?_
    refine cVi1 151 (sp_X6_valueOf ha x rfl x64) ml_X6_64 mf_X6_valueOf dX6_obey_148 rfl (U_ob ha) (by decide) rfl (Nat.le_of_ble_eq_true rfl) (by omega) ?_
    refine cVp1 154 (sp_X6_tell ha hU hC hok.2.2 (uV s x) vx bx) ml_X6_73 mf_X6_tell dX6_obey_151 rfl (U_ob ha) (by decide) rfl (Nat.le_of_ble_eq_true rfl) (by omega) ?_
    rintro _ b I1 L ⟨rfl, rfl, rfl, q1, q2⟩
    refine wq_goto 207 dX6_obey_154 (by decide) ?_
    refine wq_iload_n 208 2 dX6_obey_207 rfl rfl rfl ?_
    refine wq_iconst 209 1 dX6_obey_208 rfl (by decide) ?_
    refine wq_iadd 210 dX6_obey_209 rfl ?_
    refine ri .int dX6_obey_210 rfl rfl ?_
    exact ⟨by rw [eN, nI_succ], rfl, rfl, by rw [eS]; exact q1, q2⟩
  · skip
    have eS : rnS p i s = s := by rw [rnS, e0, if_neg (by decide), if_neg (by decide), if_neg (by decide), if_neg (by decide), if_neg (by decide), if_neg (by decide), if_neg (by decide)]
    have eN := next (by decide)
    refine wq_tabIn 207 dX6_obey_21 (by decide) (by decide) rfl (by decide) ?_
    refine wq_iload_n 208 2 dX6_obey_207 rfl rfl rfl ?_
    refine wq_iconst 209 1 dX6_obey_208 rfl (by decide) ?_
    refine wq_iadd 210 dX6_obey_209 rfl ?_
    refine ri .int dX6_obey_210 rfl rfl ?_
    exact ⟨by rw [eN, nI_succ], rfl, rfl, by rw [eS]; exact hU, FU.refl a I⟩
  · skip
    have eS : rnS p i s = s := by rw [rnS, e0, if_neg (by decide), if_neg (by decide), if_neg (by decide), if_neg (by decide), if_neg (by decide), if_neg (by decide), if_neg (by decide)]
    obtain ⟨e2, y64⟩ := f2 (by decide)
    rw [e2]
    refine wq_tabIn 157 dX6_obey_21 (by decide) (by decide) rfl (by decide) ?_
    have eT : Tg p n i = Lb p (cN (p i 2)) n := by rw [Tg, e0, if_pos (by decide)]; rfl
    by_cases c0 : uV s x = 0
    · have eN : rnN p n i s = i + 1 := by rw [rnN, if_neg (fun z => z.2 (by rw [e1, cN_n x64]; exact c0))]
      refine wq_bload_n 158 0 dX6_obey_157 rfl rfl rfl ?_
      refine wq_iload_n 159 3 dX6_obey_158 rfl rfl rfl ?_
      refine cVi1 162 (sp_X6_valueOf ha x rfl x64) ml_X6_64 mf_X6_valueOf dX6_obey_159 rfl (U_ob ha) (by decide) rfl (Nat.le_of_ble_eq_true rfl) (by omega) ?_
      refine wq_if_eq 165 207 dX6_obey_162 rfl (by decide) (fun c162 => ?_) (fun c162 => absurd (by rw [vx, c0]; rfl) c162)
      refine wq_iload_n 208 2 dX6_obey_207 rfl rfl rfl ?_
      refine wq_iconst 209 1 dX6_obey_208 rfl (by decide) ?_
      refine wq_iadd 210 dX6_obey_209 rfl ?_
      refine ri .int dX6_obey_210 rfl rfl ?_
      exact ⟨by rw [eN, nI_succ], rfl, rfl, by rw [eS]; exact hU, FU.refl a I⟩
    · have c1 : ¬ I (a + 1) x = 0 := fun z => c0 ((nI_eq (a := uV s x) (b := 0) (by omega) (by decide)).mp (by rw [← vx]; exact z))
      have eN : rnN p n i s = if Lb p (cN (p i 2)) n < 0 then n else cN (Lb p (cN (p i 2)) n) := by rw [rnN, if_pos ⟨by rw [e0]; rfl, by rw [e1, cN_n x64]; exact c0⟩]
      rcases Lb_N p (cN (p i 2)) n hn with q | ⟨q1, q2, q3⟩
      · skip
        refine wq_bload_n 158 0 dX6_obey_157 rfl rfl rfl ?_
        refine wq_iload_n 159 3 dX6_obey_158 rfl rfl rfl ?_
        refine cVi1 162 (sp_X6_valueOf ha x rfl x64) ml_X6_64 mf_X6_valueOf dX6_obey_159 rfl (U_ob ha) (by decide) rfl (Nat.le_of_ble_eq_true rfl) (by omega) ?_
        refine wq_if_eq 165 207 dX6_obey_162 rfl (by decide) (fun c162 => absurd c162 c1) (fun c162 => ?_)
        refine wq_bload_n 166 1 dX6_obey_165 rfl rfl rfl ?_
        refine wq_iload_n 167 2 dX6_obey_166 rfl rfl rfl ?_
        refine cVi1 170 (sp_X2_targetOf (by omega) hl h.2.1 hn i rfl hi) ml_X6_77 mf_X2_targetOf dX6_obey_167 rfl (L_ob hl) (by decide) rfl (Nat.le_of_ble_eq_true rfl) (by omega) ?_
        rw [tgE, eT]
        refine wq_istore 172 [_, _, _, _, _, _] dX6_obey_170 rfl rfl (Nat.le_of_ble_eq_true rfl) rfl ?_
        refine wq_iload 174 dX6_obey_172 rfl rfl ?_
        refine wq_if_lt 177 182 dX6_obey_174 rfl (by decide) (fun c174 => ?_) (fun c174 => absurd q c174)
        refine wq_bload_n 183 1 dX6_obey_182 rfl rfl rfl ?_
        refine wq_getI 186 fl_X6_47 dX6_obey_183 rfl rfl (L_ob hl) ?_
        refine ri .int dX6_obey_186 rfl rfl ?_
        exact ⟨by rw [eN, if_pos q, h.2.1], rfl, rfl, by rw [eS]; exact hU, FU.refl a I⟩
      · skip
        refine wq_bload_n 158 0 dX6_obey_157 rfl rfl rfl ?_
        refine wq_iload_n 159 3 dX6_obey_158 rfl rfl rfl ?_
        refine cVi1 162 (sp_X6_valueOf ha x rfl x64) ml_X6_64 mf_X6_valueOf dX6_obey_159 rfl (U_ob ha) (by decide) rfl (Nat.le_of_ble_eq_true rfl) (by omega) ?_
        refine wq_if_eq 165 207 dX6_obey_162 rfl (by decide) (fun c162 => absurd c162 c1) (fun c162 => ?_)
        refine wq_bload_n 166 1 dX6_obey_165 rfl rfl rfl ?_
        refine wq_iload_n 167 2 dX6_obey_166 rfl rfl rfl ?_
        refine cVi1 170 (sp_X2_targetOf (by omega) hl h.2.1 hn i rfl hi) ml_X6_77 mf_X2_targetOf dX6_obey_167 rfl (L_ob hl) (by decide) rfl (Nat.le_of_ble_eq_true rfl) (by omega) ?_
        rw [tgE, eT]
        refine wq_istore 172 [_, _, _, _, _, _] dX6_obey_170 rfl rfl (Nat.le_of_ble_eq_true rfl) rfl ?_
        refine wq_iload 174 dX6_obey_172 rfl rfl ?_
        refine wq_if_lt 177 182 dX6_obey_174 rfl (by decide) (fun c174 => absurd c174 q3) (fun c174 => ?_)
        refine wq_iload 179 dX6_obey_177 rfl rfl ?_
        refine wq_goto 186 dX6_obey_179 (by decide) ?_
        refine ri .int dX6_obey_186 rfl rfl ?_
        exact ⟨by rw [eN, if_neg q3, ← q1], rfl, rfl, by rw [eS]; exact hU, FU.refl a I⟩
  · skip
    have eS : rnS p i s = ldS s x y := by rw [rnS, e0, if_neg (by decide), if_neg (by decide), if_neg (by decide), if_neg (by decide), if_neg (by decide), if_pos (by decide), e1, cN_n x64, (f2 (by decide)).1, cN_n (f2 (by decide)).2]
    obtain ⟨e2, y64⟩ := f2 (by decide)
    rw [e2]
    have eN := next (by decide)
    refine wq_tabIn 187 dX6_obey_21 (by decide) (by decide) rfl (by decide) ?_
    refine wq_bload_n 188 0 dX6_obey_187 rfl rfl rfl ?_
    refine wq_iload_n 189 3 dX6_obey_188 rfl rfl rfl ?_
    refine wq_iload 191 dX6_obey_189 rfl rfl ?_
    refine cVp2 194 (sp_X6_fetch (by omega) ha hU x y rfl x64 rfl y64) ml_X6_80 mf_X6_fetch dX6_obey_191 rfl (U_ob ha) (by decide) rfl (Nat.le_of_ble_eq_true rfl) (by omega) ?_
    rintro _ b I1 L ⟨rfl, rfl, rfl, q1, q2⟩
    refine wq_goto 207 dX6_obey_194 (by decide) ?_
    refine wq_iload_n 208 2 dX6_obey_207 rfl rfl rfl ?_
    refine wq_iconst 209 1 dX6_obey_208 rfl (by decide) ?_
    refine wq_iadd 210 dX6_obey_209 rfl ?_
    refine ri .int dX6_obey_210 rfl rfl ?_
    exact ⟨by rw [eN, nI_succ], rfl, rfl, by rw [eS]; exact q1, q2⟩
  · skip
    have eS : rnS p i s = kpS s x y := by rw [rnS, e0, if_neg (by decide), if_neg (by decide), if_neg (by decide), if_neg (by decide), if_neg (by decide), if_neg (by decide), if_pos (by decide), e1, cN_n x64, (f2 (by decide)).1, cN_n (f2 (by decide)).2]
    obtain ⟨e2, y64⟩ := f2 (by decide)
    rw [e2]
    have eN := next (by decide)
    refine wq_tabIn 197 dX6_obey_21 (by decide) (by decide) rfl (by decide) ?_
    refine wq_bload_n 198 0 dX6_obey_197 rfl rfl rfl ?_
    refine wq_iload_n 199 3 dX6_obey_198 rfl rfl rfl ?_
    refine wq_iload 201 dX6_obey_199 rfl rfl ?_
    refine cVp2 204 (sp_X6_keep (by omega) ha hU x y rfl x64 rfl y64) ml_X6_83 mf_X6_keep dX6_obey_201 rfl (U_ob ha) (by decide) rfl (Nat.le_of_ble_eq_true rfl) (by omega) ?_
    rintro _ b I1 L ⟨rfl, rfl, rfl, q1, q2⟩
    refine wq_goto 207 dX6_obey_204 (by decide) ?_
    refine wq_iload_n 208 2 dX6_obey_207 rfl rfl rfl ?_
    refine wq_iconst 209 1 dX6_obey_208 rfl (by decide) ?_
    refine wq_iadd 210 dX6_obey_209 rfl ?_
    refine ri .int dX6_obey_210 rfl rfl ?_
    exact ⟨by rw [eN, nI_succ], rfl, rfl, by rw [eS]; exact q1, q2⟩
theorem uC_le {p : Pg} {i : Nat} {s : RS} : uC (rnS p i s) ≤ uC s + 1 := by
  unfold rnS
  split
  · exact Nat.le_succ _
  · split
    · exact Nat.le_succ _
    · split
      · exact Nat.le_succ _
      · split
        · exact Nat.le_succ _
        · split
          · exact Nat.le_refl _
          · split
            · exact Nat.le_succ _
            · split
              · exact Nat.le_succ _
              · exact Nat.le_succ _
/-- what a run may change -/
def FV (a : Nat) (I I' : IM) : Prop := ∀ x, x ≠ a → x ≠ a + 1 → x ≠ a + 2 → x ≠ a + 3 → I' x = I x
/-- a Runner that has run -/
def UX (I : IM) (a : Nat) (p : Pg) (n m : Nat) : Prop := UR I a (rnF p n m 0 0 rs0).2.2 ∧ I a 5 = nI (rnF p n m 0 0 rs0).1 ∧ I a 8 = bI (decide (n ≤ (rnF p n m 0 0 rs0).2.1))
set_option maxRecDepth 20000 in
set_option maxHeartbeats 2000000 in
theorem lp_X6_follow {g : Gl} {D : Nat} {b : Bool} {I0 : IM} {L : LM} {a l n B m : Nat} {p : Pg} (hD : 4 ≤ D) (ha : IsU a) (hl : IsL l) (h0 : LR I0 L l n p) (hw : WfB B p n) (hm : m ≤ 2000) {post : Option Value → Bool → IM → LM → Prop} (hp : ∀ I', UX I' a p n m → FV a I0 I' → post none b I' L) : ∀ f c i s I, c + f = m → i ≤ n → rnF p n m 0 0 rs0 = rnF p n f c i s → UR I a s → OKR s → uC s ≤ c → I a 5 = nI c → FV a I0 I → Wp (Kn g D MX6_follow post) (Tb b) 43 [some (rf g a), some (rf g l), some (.int (nI m)), some (.int (nI i))] [] I L := by
  have hn := h0.1
  intro f
  have fin : ∀ c i s I, i ≤ n → rnF p n m 0 0 rs0 = (c, i, s) → UR I a s → I a 5 = nI c → FV a I0 I → Wp (Kn g D MX6_follow post) (Tb b) 79 [some (rf g a), some (rf g l), some (.int (nI m)), some (.int (nI i))] [] I L := by
    intro c i s I hin he hU h5 fv
    have hlI : LR I L l n p := LR_keep h0 (fun j hj => fv _ (LU_apart hl ha hj (j := 0) (by omega)) (LU_apart hl ha hj (j := 1) (by omega)) (LU_apart hl ha hj (j := 2) (by omega)) (LU_apart hl ha hj (j := 3) (by omega))) (fun _ _ => rfl)
    have h4 := hlI.2.1
    have done : ∀ v, v = bI (decide (n ≤ i)) → post none b (va_up I a (va_up (I a) 8 v)) L := by
      intro v hv
      have n0 : ∀ z, z ≠ a → va_up I a (va_up (I a) 8 v) z = I z := fun z hz => va_up_ne _ _ hz
      refine hp _ ⟨?_, ?_, ?_⟩ (fun x x1 x2 x3 x4 => by rw [n0 x x1]; exact fv x x1 x2 x3 x4)
      · rw [he]
        obtain ⟨u1, u2, u3, u4, u5, u6, u7⟩ := hU
        exact ⟨fun x hx => by rw [n0 _ (by omega)]; exact u1 x hx, fun x hx => by rw [n0 _ (by omega)]; exact u2 x hx, fun j hj hj2 => by rw [n0 _ (by omega)]; exact u3 j hj hj2, by rw [va_up_self, va_up_ne _ _ (by decide)]; exact u4, by rw [va_up_self, va_up_ne _ _ (by decide)]; exact u5, by rw [va_up_self, va_up_ne _ _ (by decide)]; exact u6, by rw [va_up_self, va_up_ne _ _ (by decide)]; exact u7⟩
      · rw [he, va_up_self, va_up_ne _ _ (by decide)]; exact h5
      · rw [he, va_up_self, va_up_self]; exact hv
    refine wq_bload_n 80 0 dX6_follow_79 rfl rfl rfl ?_
    refine wq_iload_n 81 3 dX6_follow_80 rfl rfl rfl ?_
    refine wq_bload_n 82 1 dX6_follow_81 rfl rfl rfl ?_
    refine wq_getI 85 fl_X6_47 dX6_follow_82 rfl rfl (L_ob hl) ?_
    refine wq_ic_lt 88 92 dX6_follow_85 rfl (by decide) (fun c85 => ?_) (fun c85 => ?_)
    · skip
      refine wq_iconst 93 0 dX6_follow_92 rfl (by decide) ?_
      refine wq_putI 96 fl_X6_37 dX6_follow_93 rfl rfl rfl rfl rfl (U_ob ha) ?_
      refine rr dX6_follow_96 rfl ?_
      rw [h4] at c85
      exact done _ (by rw [decide_eq_false (fun z => nI_nlt (b := n) (a := i) z (by omega) c85)]; rfl)
    · skip
      refine wq_iconst 89 1 dX6_follow_88 rfl (by decide) ?_
      refine wq_goto 93 dX6_follow_89 (by decide) ?_
      refine wq_putI 96 fl_X6_37 dX6_follow_93 rfl rfl rfl rfl rfl (U_ob ha) ?_
      refine rr dX6_follow_96 rfl ?_
      rw [h4] at c85
      exact done _ (by rw [decide_eq_true (Decidable.byContradiction (fun z => c85 (nI_lt (by omega) (by omega))))]; rfl)
  induction f with
  | zero =>
    intro c i s I hc hin he hU hok hC h5 fv
    have ec : c = m := by omega
    subst ec
    refine wq_bload_n 44 0 dX6_follow_43 rfl rfl rfl ?_
    refine wq_getI 47 fl_X6_28 dX6_follow_44 rfl rfl (U_ob ha) ?_
    refine wq_iload_n 48 2 dX6_follow_47 rfl rfl rfl ?_
    refine wq_ic_ge 51 79 dX6_follow_48 rfl (by decide) (fun c48 => ?_) (fun c48 => absurd (by rw [h5]; exact nI_le (Nat.le_refl _) (by omega)) c48)
    exact fin c i s I hin he hU h5 fv
  | succ f ih =>
    intro c i s I hc hin he hU hok hC h5 fv
    have hlI : LR I L l n p := LR_keep h0 (fun j hj => fv _ (LU_apart hl ha hj (j := 0) (by omega)) (LU_apart hl ha hj (j := 1) (by omega)) (LU_apart hl ha hj (j := 2) (by omega)) (LU_apart hl ha hj (j := 3) (by omega))) (fun _ _ => rfl)
    have h4 := hlI.2.1
    by_cases c1 : i < n
    · obtain ⟨k, x, y, z, hF⟩ := row_form hw c1
      have n0 : ∀ z, z ≠ a → va_up I a (va_up (I a) 5 (nI (c + 1))) z = I z := fun z hz => va_up_ne _ _ hz
      have hU1 : UR (va_up I a (va_up (I a) 5 (nI (c + 1)))) a s := by
        obtain ⟨u1, u2, u3, u4, u5, u6, u7⟩ := hU
        exact ⟨fun x hx => by rw [n0 _ (by omega)]; exact u1 x hx, fun x hx => by rw [n0 _ (by omega)]; exact u2 x hx, fun j hj hj2 => by rw [n0 _ (by omega)]; exact u3 j hj hj2, by rw [va_up_self, va_up_ne _ _ (by decide)]; exact u4, by rw [va_up_self, va_up_ne _ _ (by decide)]; exact u5, by rw [va_up_self, va_up_ne _ _ (by decide)]; exact u6, by rw [va_up_self, va_up_ne _ _ (by decide)]; exact u7⟩
      have hl1 : LR (va_up I a (va_up (I a) 5 (nI (c + 1)))) L l n p := LR_keep hlI (fun j hj => n0 _ (LU_apart hl ha hj (j := 0) (by omega))) (fun _ _ => rfl)
      refine wq_bload_n 44 0 dX6_follow_43 rfl rfl rfl ?_
      refine wq_getI 47 fl_X6_28 dX6_follow_44 rfl rfl (U_ob ha) ?_
      refine wq_iload_n 48 2 dX6_follow_47 rfl rfl rfl ?_
      refine wq_ic_ge 51 79 dX6_follow_48 rfl (by decide) (fun c48 => absurd c48 (by rw [h5]; exact nI_ge (by omega) (by omega))) (fun c48 => ?_)
      refine wq_iload_n 52 3 dX6_follow_51 rfl rfl rfl ?_
      refine wq_bload_n 53 1 dX6_follow_52 rfl rfl rfl ?_
      refine wq_getI 56 fl_X6_47 dX6_follow_53 rfl rfl (L_ob hl) ?_
      refine wq_ic_ge 59 79 dX6_follow_56 rfl (by decide) (fun c56 => absurd c56 (by rw [h4]; exact nI_ge c1 (by omega))) (fun c56 => ?_)
      refine wq_bload_n 60 0 dX6_follow_59 rfl rfl rfl ?_
      refine wq_dup 61 dX6_follow_60 rfl rfl ?_
      refine wq_getI 64 fl_X6_28 dX6_follow_61 rfl rfl (U_ob ha) ?_
      refine wq_iconst 65 1 dX6_follow_64 rfl (by decide) ?_
      refine wq_iadd 66 dX6_follow_65 rfl ?_
      rw [h5, ← nI_succ]
      refine wq_putI 69 fl_X6_28 dX6_follow_66 rfl rfl rfl rfl rfl (U_ob ha) ?_
      refine wq_bload_n 70 0 dX6_follow_69 rfl rfl rfl ?_
      refine wq_bload_n 71 1 dX6_follow_70 rfl rfl rfl ?_
      refine wq_iload_n 72 3 dX6_follow_71 rfl rfl rfl ?_
      refine cVp2 75 (sp_X6_obey (by omega) ha hl hl1 hw hU1 hok (by omega) i rfl c1) ml_X6_52 mf_X6_obey dX6_follow_72 rfl (U_ob ha) (by decide) rfl (Nat.le_of_ble_eq_true rfl) (by omega) ?_
      rintro _ b I2 L ⟨rfl, rfl, rfl, q1, q2⟩
      refine wq_istore_n 76 3 [_, _, _, _] dX6_follow_75 rfl rfl rfl (Nat.le_of_ble_eq_true rfl) rfl ?_
      refine wq_goto 43 dX6_follow_76 (by decide) ?_
      refine ih (c + 1) (rnN p n i s) (rnS p i s) I2 (by omega) (rnN_le hn c1) (by rw [he, rnF, if_pos c1]) q1 (OKR_step hF hok) (by have := uC_le (p := p) (i := i) (s := s); omega) ?_ (fun x x1 x2 x3 x4 => by rw [q2.1 x x1 x2 x3 x4, n0 x x1]; exact fv x x1 x2 x3 x4)
      rw [q2.2 5 (by decide) (by decide) (by decide) (by decide), va_up_self, va_up_self]
    · skip
      refine wq_bload_n 44 0 dX6_follow_43 rfl rfl rfl ?_
      refine wq_getI 47 fl_X6_28 dX6_follow_44 rfl rfl (U_ob ha) ?_
      refine wq_iload_n 48 2 dX6_follow_47 rfl rfl rfl ?_
      refine wq_ic_ge 51 79 dX6_follow_48 rfl (by decide) (fun c48 => absurd c48 (by rw [h5]; exact nI_ge (by omega) (by omega))) (fun c48 => ?_)
      refine wq_iload_n 52 3 dX6_follow_51 rfl rfl rfl ?_
      refine wq_bload_n 53 1 dX6_follow_52 rfl rfl rfl ?_
      refine wq_getI 56 fl_X6_47 dX6_follow_53 rfl rfl (L_ob hl) ?_
      refine wq_ic_ge 59 79 dX6_follow_56 rfl (by decide) (fun c56 => ?_) (fun c56 => absurd (by rw [h4]; exact nI_le (by omega) (by omega)) c56)
      exact fin c i s I hin (by rw [he, rnF, if_neg c1]) hU h5 fv
set_option maxRecDepth 20000 in
theorem sp_X6_follow {g : Gl} {D : Nat} {b : Bool} {I : IM} {L : LM} {a l n B : Nat} {p : Pg} (hD : 4 ≤ D) (ha : IsU a) (hl : IsL l) (h : LR I L l n p) (hw : WfB B p n) {j : Int32} (m : Nat) (hj : j = nI m) (hm : m ≤ 2000) : Me g D MX6_follow [rf g a, rf g l, .int j] b I L (fun r b' I' L' => r = none ∧ b' = b ∧ L' = L ∧ UX I' a p n m ∧ FV a I I') := by
  subst hj
  refine Me.of [some (rf g a), some (rf g l), some (.int (nI m)), none] 1 rfl pf_X6_follow (Nat.le_of_ble_eq_true rfl) ?_
  refine wq_bload_n 1 0 dX6_follow_0 rfl rfl rfl ?_
  refine wq_getR 4 fl_X6_9 dX6_follow_1 rfl rfl (U_ob ha) (U_rf0 ha) ?_
  refine wq_iconst 5 0 dX6_follow_4 rfl (by decide) ?_
  refine cSv2 8 (sp_J7_fill_53178 (U_ar0 ha) (by decide) _) ml_X6_41 mf_J7_fill_53178 dX6_follow_5 rfl (Nat.le_of_ble_eq_true rfl) (by omega) ?_
  refine wq_bload_n 9 0 dX6_follow_8 rfl rfl rfl ?_
  refine wq_getR 12 fl_X6_15 dX6_follow_9 rfl rfl (U_ob ha) (U_rf1 ha) ?_
  refine wq_iconst 13 0 dX6_follow_12 rfl (by decide) ?_
  refine cSv2 16 (sp_J7_fill_53178 (U_ar1 ha) (by decide) _) ml_X6_41 mf_J7_fill_53178 dX6_follow_13 rfl (Nat.le_of_ble_eq_true rfl) (by omega) ?_
  refine wq_bload_n 17 0 dX6_follow_16 rfl rfl rfl ?_
  refine wq_iconst 18 0 dX6_follow_17 rfl (by decide) ?_
  refine wq_putI 21 fl_X6_21 dX6_follow_18 rfl rfl rfl rfl rfl (U_ob ha) ?_
  refine wq_bload_n 22 0 dX6_follow_21 rfl rfl rfl ?_
  refine wq_iconst 23 0 dX6_follow_22 rfl (by decide) ?_
  refine wq_putI 26 fl_X6_25 dX6_follow_23 rfl rfl rfl rfl rfl (U_ob ha) ?_
  refine wq_bload_n 27 0 dX6_follow_26 rfl rfl rfl ?_
  refine wq_iconst 28 0 dX6_follow_27 rfl (by decide) ?_
  refine wq_putI 31 fl_X6_31 dX6_follow_28 rfl rfl rfl rfl rfl (U_ob ha) ?_
  refine wq_bload_n 32 0 dX6_follow_31 rfl rfl rfl ?_
  refine wq_iconst 33 0 dX6_follow_32 rfl (by decide) ?_
  refine wq_putI 36 fl_X6_34 dX6_follow_33 rfl rfl rfl rfl rfl (U_ob ha) ?_
  refine wq_iconst 37 0 dX6_follow_36 rfl (by decide) ?_
  refine wq_istore_n 38 3 [_, _, _, _] dX6_follow_37 rfl rfl rfl (Nat.le_of_ble_eq_true rfl) rfl ?_
  refine wq_bload_n 39 0 dX6_follow_38 rfl rfl rfl ?_
  refine wq_iconst 40 0 dX6_follow_39 rfl (by decide) ?_
  refine wq_putI 43 fl_X6_28 dX6_follow_40 rfl rfl rfl rfl rfl (U_ob ha) ?_
  refine wq_gen (fun I1 L1 eI1 eL1 => ?_)
  rw [eL1]
  clear eL1
  refine lp_X6_follow hD ha hl h hw hm (fun I' q f => ⟨rfl, rfl, rfl, q, f⟩) m 0 0 rs0 I1 (by omega) (Nat.zero_le _) rfl ⟨fun x hx => ?_, fun x hx => ?_, fun j hj => absurd hj (Nat.not_lt_zero j), ?_, ?_, ?_, ?_⟩ ⟨fun _ _ => by show 0 < 1000; omega, fun _ _ => by show 0 < 1000; omega, by show 0 < 1000003; omega⟩ (Nat.le_refl _) ?_ (fun x x1 x2 x3 x4 => ?_)
  · rw [eI1]; simp [va_up, hx]; rfl
  · rw [eI1]; simp [va_up, hx]; rfl
  · rw [eI1]; simp [va_up]; rfl
  · rw [eI1]; simp [va_up]; rfl
  · rw [eI1]; simp [va_up]; rfl
  · rw [eI1]; simp [va_up]; rfl
  · rw [eI1]; simp [va_up]; rfl
  · rw [eI1]; simp [va_up, x1, x2, x3, x4]
