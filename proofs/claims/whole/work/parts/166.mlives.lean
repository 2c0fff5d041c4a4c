/-! the reference: layLives -/
theorem tg_m {B n : Nat} {p : Pg} (hw : WfB B p n) {j : Nat} (hj : j < n) (h6 : p j 0 = 6) : ∃ y, p j 2 = nI y ∧ y < 10 ∧ Tg p n j = Lb p y n := by
  obtain ⟨k, x, y, z, hk, e0, -, -, -, -, -, e2, -, e4, -, -, -, -⟩ := row_form hw hj
  have hk6 : k = 6 := (nI_eq (a := k) (b := 6) (by omega) (by decide)).mp (by rw [← e0]; exact h6)
  have h2 := e2 (by omega)
  refine ⟨y, h2.1, e4 (by omega), ?_⟩
  unfold Tg
  rw [if_pos h6, h2.1, nI_clamp (by omega)]
set_option maxRecDepth 20000 in
set_option maxHeartbeats 2000000 in
theorem lp_X8_lives {g : Gl} {D : Nat} {b : Bool} {I : IM} {L : LM} {n B : Nat} {p : Pg} {post : Option Value → Bool → IM → LM → Prop} (hD : 2 ≤ D) (h : NR I n p) (hw : WfB B p n) (S0 : LS2) (kk : ∀ k2 k3 k4 k5 k6 k7, Wp (Kn g D MX8_layLives post) (Tb b) 32 [some (rf g 71), some (.int (bI (lvC p n n S0))), k2, k3, k4, k5, k6, k7] [] I (lvMem L 84 (lvP p n n S0))) : ∀ m S (ch : Bool) k3 k4 k5 k6 k7, m ≤ n → (ch || lvC p n m S) = lvC p n n S0 → lvP p n m S = lvP p n n S0 → Wp (Kn g D MX8_layLives post) (Tb b) 45 [some (rf g 71), some (.int (bI ch)), some (.int (nI m - 1)), k3, k4, k5, k6, k7] [] I (lvMem L 84 S) := by
  have hn := h.1
  have hc := h.2.1
  intro m
  induction m with
  | zero =>
    intro S ch k3 k4 k5 k6 k7 hm h1 h2
    rw [lvC, Bool.or_false] at h1
    rw [lvP] at h2
    refine wq_iload_n 46 2 dX8_layLives_45 rfl rfl rfl ?_
    refine wq_if_lt 49 192 dX8_layLives_46 rfl (by decide) (fun c46 => ?_) (fun c46 => absurd (by decide) c46)
    refine wq_goto 32 dX8_layLives_192 (by decide) ?_
    rw [h1, h2]; exact kk _ _ _ _ _ _
  | succ m ih =>
    intro S ch k3 k4 k5 k6 k7 hm h1 h2
    rw [nI_pred]
    obtain ⟨q0, q1, q2, q3⟩ := h.2.2 m (by omega)
    have eO : lvO p n S.1 m = (if m + 1 < n then S.1 (m + 1) else 0) ||| (if Tg p n m < 0 then 0 else S.1 (Tg p n m).toNatClampNeg) := rfl
    have J170 : ∀ (t5 x : Int32), x = bI (ch || (decide (lvN p n S.1 m ≠ S.1 m) || decide (lvO p n S.1 m ≠ S.2 m))) → Wp (Kn g D MX8_layLives post) (Tb b) 170 [some (rf g 71), some (.int (bI ch)), some (.int (nI m)), some (.long (lvO p n S.1 m)), none, some (.int t5), some (.long (lvN p n S.1 m)), none] [.int x] I (lvMem L 84 S) := by
      intro t5 x hx
      rw [hx]
      refine wq_istore_n 171 1 [_, _, _, _, _, _, _, _] dX8_layLives_170 rfl rfl rfl (Nat.le_of_ble_eq_true rfl) rfl ?_
      refine wq_bload_n 172 0 dX8_layLives_171 rfl rfl rfl ?_
      refine wq_getR 175 fl_X8_57 dX8_layLives_172 rfl rfl o_71 (rfl : (Tb _).2.2.2 71 20 = some 86) ?_
      refine wq_iload_n 176 2 dX8_layLives_175 rfl rfl rfl ?_
      refine wq_lload_n 177 3 dX8_layLives_176 rfl rfl rfl ?_
      refine wq_last 178 dX8_layLives_177 rfl a_86 (Ix.nI (by omega) (by decide)) ?_
      refine wq_bload_n 179 0 dX8_layLives_178 rfl rfl rfl ?_
      refine wq_getR 182 fl_X8_53 dX8_layLives_179 rfl rfl o_71 (rfl : (Tb _).2.2.2 71 19 = some 85) ?_
      refine wq_iload_n 183 2 dX8_layLives_182 rfl rfl rfl ?_
      refine wq_lload 185 dX8_layLives_183 rfl rfl ?_
      refine wq_last 186 dX8_layLives_185 rfl a_85 (Ix.nI (by omega) (by decide)) ?_
      rw [lvMem_st L 84]
      refine wq_iinc 189 (nI m - 1) [_, _, _, _, _, _, _, _] dX8_layLives_186 rfl rfl (pred1 _) rfl (Nat.le_of_ble_eq_true rfl) rfl ?_
      refine wq_goto 45 dX8_layLives_189 (by decide) ?_
      exact ih (lvS p n S m) (ch || (decide (lvN p n S.1 m ≠ S.1 m) || decide (lvO p n S.1 m ≠ S.2 m))) _ _ _ _ _ (by omega) (by rw [← h1, lvC]; simp only [Bool.or_assoc]) (by rw [← h2, lvP])
    have J119 : ∀ (t5 : Int32) (k6 k7 : Option Value), Wp (Kn g D MX8_layLives post) (Tb b) 119 [some (rf g 71), some (.int (bI ch)), some (.int (nI m)), some (.long (lvO p n S.1 m)), none, some (.int t5), k6, k7] [] I (lvMem L 84 S) := by
      intro t5 k6 k7
      refine wq_lload_n 120 3 dX8_layLives_119 rfl rfl rfl ?_
      refine wq_bload_n 121 0 dX8_layLives_120 rfl rfl rfl ?_
      refine wq_iload_n 122 2 dX8_layLives_121 rfl rfl rfl ?_
      refine cVl1 125 (sp_X8_writes (by omega) h hw m rfl (by omega)) ml_X8_158 mf_X8_writes dX8_layLives_122 rfl o_71 (by decide) rfl (Nat.le_of_ble_eq_true rfl) (by omega) ?_
      refine wq_ldc2 128 (-1) dX8_layLives_125 rfl kc_X8_162 ?_
      refine wq_lxor 129 dX8_layLives_128 rfl ?_
      refine wq_land 130 dX8_layLives_129 rfl ?_
      refine wq_bload_n 131 0 dX8_layLives_130 rfl rfl rfl ?_
      refine wq_iload_n 132 2 dX8_layLives_131 rfl rfl rfl ?_
      refine cVl1 135 (sp_X8_reads h hw m rfl (by omega)) ml_X8_164 mf_X8_reads dX8_layLives_132 rfl o_71 (by decide) rfl (Nat.le_of_ble_eq_true rfl) (by omega) ?_
      refine wq_lor 136 dX8_layLives_135 rfl ?_
      rw [show (lvO p n S.1 m &&& (wm p m ^^^ (-1))) ||| Rd p m = lvN p n S.1 m from rfl]
      refine wq_lstore 138 [_, _, _, _, _, _, _, _] dX8_layLives_136 rfl rfl (Nat.le_of_ble_eq_true rfl) rfl ?_
      refine wq_iload_n 139 1 dX8_layLives_138 rfl rfl rfl ?_
      refine wq_if_ne 142 165 dX8_layLives_139 rfl (by decide) (fun c139 => ?_) (fun c139 => ?_)
      · skip
        refine wq_iconst 166 1 dX8_layLives_165 rfl (by decide) ?_
        refine wq_goto 170 dX8_layLives_166 (by decide) ?_
        exact J170 t5 1 (by rw [bI_ne.mp c139]; rfl)
      · skip
        refine wq_lload_n 143 3 dX8_layLives_142 rfl rfl rfl ?_
        refine wq_bload_n 144 0 dX8_layLives_143 rfl rfl rfl ?_
        refine wq_getR 147 fl_X8_57 dX8_layLives_144 rfl rfl o_71 (rfl : (Tb _).2.2.2 71 20 = some 86) ?_
        refine wq_iload_n 148 2 dX8_layLives_147 rfl rfl rfl ?_
        refine wq_lald 149 dX8_layLives_148 rfl a_86 (Ix.nI (by omega) (by decide)) ?_
        refine wq_lcmp 150 dX8_layLives_149 rfl ?_
        refine wq_if_ne 153 165 dX8_layLives_150 rfl (by decide) (fun c150 => ?_) (fun c150 => ?_)
        · skip
          refine wq_iconst 166 1 dX8_layLives_165 rfl (by decide) ?_
          refine wq_goto 170 dX8_layLives_166 (by decide) ?_
          have hch := bI_eq.mp c139
          have q1 : lvO p n S.1 m ≠ S.2 m := fun e => c150 (lcmp0.mpr (by rw [lvMem_2 L 84]; exact e))
          exact J170 t5 1 (by rw [hch, decide_eq_true q1, Bool.or_true]; rfl)
        · skip
          refine wq_lload 155 dX8_layLives_153 rfl rfl ?_
          refine wq_bload_n 156 0 dX8_layLives_155 rfl rfl rfl ?_
          refine wq_getR 159 fl_X8_53 dX8_layLives_156 rfl rfl o_71 (rfl : (Tb _).2.2.2 71 19 = some 85) ?_
          refine wq_iload_n 160 2 dX8_layLives_159 rfl rfl rfl ?_
          refine wq_lald 161 dX8_layLives_160 rfl a_85 (Ix.nI (by omega) (by decide)) ?_
          refine wq_lcmp 162 dX8_layLives_161 rfl ?_
          refine wq_if_eq 165 169 dX8_layLives_162 rfl (by decide) (fun c162 => ?_) (fun c162 => ?_)
          · skip
            refine wq_iconst 170 0 dX8_layLives_169 rfl (by decide) ?_
            have hch := bI_eq.mp c139
            have q1 : lvO p n S.1 m = S.2 m := by have := lcmp0.mp c150; rw [lvMem_2 L 84] at this; exact this
            have q2 : lvN p n S.1 m = S.1 m := by have := lcmp0.mp c162; rw [lvMem_1 L 84] at this; exact this
            exact J170 t5 0 (by rw [hch, decide_eq_false (fun z => z q2), decide_eq_false (fun z => z q1)]; rfl)
          · skip
            refine wq_iconst 166 1 dX8_layLives_165 rfl (by decide) ?_
            refine wq_goto 170 dX8_layLives_166 (by decide) ?_
            have hch := bI_eq.mp c139
            have q1 : lvO p n S.1 m = S.2 m := by have := lcmp0.mp c150; rw [lvMem_2 L 84] at this; exact this
            have q2 : lvN p n S.1 m ≠ S.1 m := fun e => c162 (lcmp0.mpr (by rw [lvMem_1 L 84]; exact e))
            exact J170 t5 1 (by rw [hch, decide_eq_true q2]; rfl)
    have J98 : ∀ (t : Int32) (y : Int64) k5 k6 k7, t = Tg p n m → y = (if m + 1 < n then S.1 (m + 1) else 0) → Wp (Kn g D MX8_layLives post) (Tb b) 98 [some (rf g 71), some (.int (bI ch)), some (.int (nI m)), some (.long y), none, k5, k6, k7] [.int t] I (lvMem L 84 S) := by
      intro t y k5 k6 k7 ht hy
      subst ht
      subst hy
      rcases Tg_lt p n m with c | ⟨t, t1, t2, -⟩
      · rw [if_pos c] at eO
        skip
        refine wq_istore 100 [_, _, _, _, _, _, _, _] dX8_layLives_98 rfl rfl (Nat.le_of_ble_eq_true rfl) rfl ?_
        refine wq_lload_n 101 3 dX8_layLives_100 rfl rfl rfl ?_
        refine wq_iload 103 dX8_layLives_101 rfl rfl ?_
        refine wq_if_lt 106 116 dX8_layLives_103 rfl (by decide) (fun c103 => ?_) (fun c103 => absurd c c103)
        refine wq_lconst 117 0 dX8_layLives_116 rfl (by decide) ?_
        refine wq_lor 118 dX8_layLives_117 rfl ?_
        refine wq_lstore_n 119 3 [_, _, _, _, _, _, _, _] dX8_layLives_118 rfl rfl rfl (Nat.le_of_ble_eq_true rfl) rfl ?_
        rw [← eO]; exact J119 _ _ _
      · rw [t2] at eO
        rw [if_neg (nI_pos (by omega)), nI_clamp (by omega)] at eO
        rw [t2]
        refine wq_istore 100 [_, _, _, _, _, _, _, _] dX8_layLives_98 rfl rfl (Nat.le_of_ble_eq_true rfl) rfl ?_
        refine wq_lload_n 101 3 dX8_layLives_100 rfl rfl rfl ?_
        refine wq_iload 103 dX8_layLives_101 rfl rfl ?_
        refine wq_if_lt 106 116 dX8_layLives_103 rfl (by decide) (fun c103 => absurd c103 (nI_pos (by omega))) (fun c103 => ?_)
        refine wq_bload_n 107 0 dX8_layLives_106 rfl rfl rfl ?_
        refine wq_getR 110 fl_X8_53 dX8_layLives_107 rfl rfl o_71 (rfl : (Tb _).2.2.2 71 19 = some 85) ?_
        refine wq_iload 112 dX8_layLives_110 rfl rfl ?_
        refine wq_lald 113 dX8_layLives_112 rfl a_85 (Ix.nI (by omega) (by decide)) ?_
        refine wq_goto 117 dX8_layLives_113 (by decide) ?_
        refine wq_lor 118 dX8_layLives_117 rfl ?_
        refine wq_lstore_n 119 3 [_, _, _, _, _, _, _, _] dX8_layLives_118 rfl rfl rfl (Nat.le_of_ble_eq_true rfl) rfl ?_
        rw [lvMem_1 L 84, ← eO]; exact J119 _ _ _
    have J71 : ∀ (y : Int64) k3 k4 k5 k6 k7, y = (if m + 1 < n then S.1 (m + 1) else 0) → Wp (Kn g D MX8_layLives post) (Tb b) 71 [some (rf g 71), some (.int (bI ch)), some (.int (nI m)), k3, k4, k5, k6, k7] [.long y] I (lvMem L 84 S) := by
      intro y k3 k4 k5 k6 k7 hy
      refine wq_lstore_n 72 3 [_, _, _, _, _, _, _, _] dX8_layLives_71 rfl rfl rfl (Nat.le_of_ble_eq_true rfl) rfl ?_
      refine wq_bload_n 73 0 dX8_layLives_72 rfl rfl rfl ?_
      refine wq_getR 76 fl_X8_29 dX8_layLives_73 rfl rfl o_71 (rfl : (Tb _).2.2.2 71 9 = some 77) ?_
      refine wq_iload_n 77 2 dX8_layLives_76 rfl rfl rfl ?_
      refine wq_iald 78 dX8_layLives_77 rfl a_77 (Ix.nI (by omega) (by decide)) ?_
      rw [q0]
      refine wq_bipush 80 6 dX8_layLives_78 rfl (by decide) ?_
      refine wq_ic_ne 83 96 dX8_layLives_80 rfl (by decide) (fun c80 => ?_) (fun c80 => ?_)
      · skip
        refine wq_bipush 98 (-6) dX8_layLives_96 rfl (by decide) ?_
        exact J98 _ _ _ _ _ (by rw [Tg, if_neg c80]) hy
      · skip
        obtain ⟨y2, w1, w2, w3⟩ := tg_m hw (show m < n by omega) c80
        refine wq_bload_n 84 0 dX8_layLives_83 rfl rfl rfl ?_
        refine wq_bload_n 85 0 dX8_layLives_84 rfl rfl rfl ?_
        refine wq_getR 88 fl_X8_35 dX8_layLives_85 rfl rfl o_71 (rfl : (Tb _).2.2.2 71 11 = some 79) ?_
        refine wq_iload_n 89 2 dX8_layLives_88 rfl rfl rfl ?_
        refine wq_iald 90 dX8_layLives_89 rfl a_79 (Ix.nI (by omega) (by decide)) ?_
        refine cVi1 93 (sp_X8_labelOf h y2 (by rw [q2, w1])) ml_X8_155 mf_X8_labelOf dX8_layLives_90 rfl o_71 (by decide) rfl (Nat.le_of_ble_eq_true rfl) (by omega) ?_
        refine wq_goto 98 dX8_layLives_93 (by decide) ?_
        exact J98 _ _ _ _ _ w3.symm hy
    refine wq_iload_n 46 2 dX8_layLives_45 rfl rfl rfl ?_
    refine wq_if_lt 49 192 dX8_layLives_46 rfl (by decide) (fun c46 => absurd c46 (nI_pos (by omega))) (fun c46 => ?_)
    refine wq_iload_n 50 2 dX8_layLives_49 rfl rfl rfl ?_
    refine wq_iconst 51 1 dX8_layLives_50 rfl (by decide) ?_
    refine wq_iadd 52 dX8_layLives_51 rfl ?_
    refine wq_bload_n 53 0 dX8_layLives_52 rfl rfl rfl ?_
    refine wq_getI 56 fl_X8_148 dX8_layLives_53 rfl rfl o_71 ?_
    refine wq_ic_ge 59 70 dX8_layLives_56 rfl (by decide) (fun c56 => ?_) (fun c56 => ?_)
    · skip
      refine wq_lconst 71 0 dX8_layLives_70 rfl (by decide) ?_
      exact J71 _ _ _ _ _ _ (by rw [hc, ← nI_succ] at c56; rw [if_neg (fun z => nI_ge z (by omega) c56)])
    · skip
      refine wq_bload_n 60 0 dX8_layLives_59 rfl rfl rfl ?_
      refine wq_getR 63 fl_X8_53 dX8_layLives_60 rfl rfl o_71 (rfl : (Tb _).2.2.2 71 19 = some 85) ?_
      refine wq_iload_n 64 2 dX8_layLives_63 rfl rfl rfl ?_
      refine wq_iconst 65 1 dX8_layLives_64 rfl (by decide) ?_
      refine wq_iadd 66 dX8_layLives_65 rfl ?_
      refine wq_lald 67 dX8_layLives_66 rfl a_85 (by rw [← nI_succ]; exact Ix.nI (by omega) (by decide)) ?_
      refine wq_goto 71 dX8_layLives_67 (by decide) ?_
      have z : m + 1 < n := by
        rw [hc, ← nI_succ] at c56
        exact Decidable.byContradiction (fun z => c56 (nI_le (by omega) (by omega)))
      exact J71 _ _ _ _ _ _ (by rw [if_pos z, lvMem_1 L 84])
theorem lvMem_id (L : LM) (a : Nat) : lvMem L a (L (a + 1), L (a + 2)) = L := by
  unfold lvMem
  funext x
  by_cases h2 : x = a + 2
  · rw [h2, va_up_self]
  · rw [va_up_ne _ _ h2]
    by_cases h1 : x = a + 1
    · rw [h1, va_up_self]
    · rw [va_up_ne _ _ h1]
theorem lvMem_st2 (L : LM) (a : Nat) (S : LS2) (i : Nat) (u v : Int64) : va_up (va_up (lvMem L a S) (a + 1) (va_up (lvMem L a S (a + 1)) i v)) (a + 2) (va_up (va_up (lvMem L a S) (a + 1) (va_up (lvMem L a S (a + 1)) i v) (a + 2)) i u) = lvMem L a (va_up S.1 i v, va_up S.2 i u) := by
  rw [lvMem_1, va_up_ne _ _ (show a + 2 ≠ a + 1 by omega), lvMem_2]
  funext x
  unfold lvMem
  by_cases h1 : x = a + 1
  · subst h1; rw [va_up_ne _ _ (by omega), va_up_self, va_up_ne _ _ (by omega), va_up_self]
  · by_cases h2 : x = a + 2
    · subst h2; rw [va_up_self, va_up_self]
    · rw [va_up_ne _ _ h2, va_up_ne _ _ h1, va_up_ne _ _ h2, va_up_ne _ _ h1, va_up_ne _ _ h2, va_up_ne _ _ h1]
set_option maxRecDepth 20000 in
set_option maxHeartbeats 2000000 in
theorem lp_X8_more {g : Gl} {D : Nat} {b : Bool} {I : IM} {L : LM} {n B K : Nat} {p : Pg} {post : Option Value → Bool → IM → LM → Prop} (hD : 2 ≤ D) (h : NR I n p) (hw : WfB B p n) (k1 : lvC p n n (lvIt p n K) = false) (k2 : ∀ j, j < K → lvC p n n (lvIt p n j) = true) (hp : ∀ S : LS2, (∀ i, i < n → S.2 i = Lvb p n i) → post none b I (lvMem L 84 S)) : ∀ r k S l2 l3 l4 l5 l6 l7, k + r = K → Ag n S (lvIt p n k) → Wp (Kn g D MX8_layLives post) (Tb b) 32 [some (rf g 71), some (.int (bI true)), l2, l3, l4, l5, l6, l7] [] I (lvMem L 84 S) := by
  have hn := h.1
  have hc := h.2.1
  intro r
  induction r with
  | zero =>
    intro k S l2 l3 l4 l5 l6 l7 hk hS
    have ek : k = K := by omega
    subst ek
    have hg := lvP_ag (p := p) (n := n) (by omega) n (Nat.le_refl n) hS
    have kk : ∀ k2 k3 k4 k5 k6 k7, Wp (Kn g D MX8_layLives post) (Tb b) 32 [some (rf g 71), some (.int (bI (lvC p n n S))), k2, k3, k4, k5, k6, k7] [] I (lvMem L 84 (lvP p n n S)) := by
      intro l2 l3 l4 l5 l6 l7
      rw [hg.2, k1]
      refine wq_iload_n 33 1 dX8_layLives_32 rfl rfl rfl ?_
      refine wq_if_eq 36 195 dX8_layLives_33 rfl (by decide) (fun c33 => ?_) (fun c33 => absurd rfl c33)
      refine rr dX8_layLives_195 rfl ?_
      refine hp _ (fun i hi => ?_)
      rw [(hg.1 i hi).2, (lvC_false n _).mp k1]
      exact LvE.eq hn ⟨_, k1, k2, fun _ _ => rfl⟩ i hi
    refine wq_iload_n 33 1 dX8_layLives_32 rfl rfl rfl ?_
    refine wq_if_eq 36 195 dX8_layLives_33 rfl (by decide) (fun c33 => absurd c33 (by decide)) (fun c33 => ?_)
    refine wq_iconst 37 0 dX8_layLives_36 rfl (by decide) ?_
    refine wq_istore_n 38 1 [_, _, _, _, _, _, _, _] dX8_layLives_37 rfl rfl rfl (Nat.le_of_ble_eq_true rfl) rfl ?_
    refine wq_bload_n 39 0 dX8_layLives_38 rfl rfl rfl ?_
    refine wq_getI 42 fl_X8_148 dX8_layLives_39 rfl rfl o_71 ?_
    rw [hc]
    refine wq_iconst 43 1 dX8_layLives_42 rfl (by decide) ?_
    refine wq_isub 44 dX8_layLives_43 rfl ?_
    refine wq_istore_n 45 2 [_, _, _, _, _, _, _, _] dX8_layLives_44 rfl rfl rfl (Nat.le_of_ble_eq_true rfl) rfl ?_
    exact lp_X8_lives hD h hw S kk n S false _ _ _ _ _ (Nat.le_refl n) (Bool.false_or _) rfl
  | succ r ih =>
    intro k S l2 l3 l4 l5 l6 l7 hk hS
    have hg := lvP_ag (p := p) (n := n) (by omega) n (Nat.le_refl n) hS
    have kk : ∀ k2 k3 k4 k5 k6 k7, Wp (Kn g D MX8_layLives post) (Tb b) 32 [some (rf g 71), some (.int (bI (lvC p n n S))), k2, k3, k4, k5, k6, k7] [] I (lvMem L 84 (lvP p n n S)) := by
      intro l2 l3 l4 l5 l6 l7
      rw [hg.2, k2 k (by omega)]
      exact ih (k + 1) _ _ _ _ _ _ _ (by omega) hg.1
    refine wq_iload_n 33 1 dX8_layLives_32 rfl rfl rfl ?_
    refine wq_if_eq 36 195 dX8_layLives_33 rfl (by decide) (fun c33 => absurd c33 (by decide)) (fun c33 => ?_)
    refine wq_iconst 37 0 dX8_layLives_36 rfl (by decide) ?_
    refine wq_istore_n 38 1 [_, _, _, _, _, _, _, _] dX8_layLives_37 rfl rfl rfl (Nat.le_of_ble_eq_true rfl) rfl ?_
    refine wq_bload_n 39 0 dX8_layLives_38 rfl rfl rfl ?_
    refine wq_getI 42 fl_X8_148 dX8_layLives_39 rfl rfl o_71 ?_
    rw [hc]
    refine wq_iconst 43 1 dX8_layLives_42 rfl (by decide) ?_
    refine wq_isub 44 dX8_layLives_43 rfl ?_
    refine wq_istore_n 45 2 [_, _, _, _, _, _, _, _] dX8_layLives_44 rfl rfl rfl (Nat.le_of_ble_eq_true rfl) rfl ?_
    exact lp_X8_lives hD h hw S kk n S false _ _ _ _ _ (Nat.le_refl n) (Bool.false_or _) rfl
set_option maxRecDepth 20000 in
set_option maxHeartbeats 2000000 in
theorem lp_X8_zero {g : Gl} {D : Nat} {b : Bool} {I : IM} {L : LM} {n B K : Nat} {p : Pg} {post : Option Value → Bool → IM → LM → Prop} (hD : 2 ≤ D) (h : NR I n p) (hw : WfB B p n) (k1 : lvC p n n (lvIt p n K) = false) (k2 : ∀ j, j < K → lvC p n n (lvIt p n j) = true) (hp : ∀ S : LS2, (∀ i, i < n → S.2 i = Lvb p n i) → post none b I (lvMem L 84 S)) : ∀ r k S, k + r = n → (∀ i, i < k → S.1 i = 0 ∧ S.2 i = 0) → Wp (Kn g D MX8_layLives post) (Tb b) 2 [some (rf g 71), some (.int (nI k)), none, none, none, none, none, none] [] I (lvMem L 84 S) := by
  have hn := h.1
  have hc := h.2.1
  intro r
  induction r with
  | zero =>
    intro k S hk hS
    have ek : k = n := by omega
    subst ek
    refine wq_iload_n 3 1 dX8_layLives_2 rfl rfl rfl ?_
    refine wq_bload_n 4 0 dX8_layLives_3 rfl rfl rfl ?_
    refine wq_getI 7 fl_X8_148 dX8_layLives_4 rfl rfl o_71 ?_
    refine wq_ic_ge 10 30 dX8_layLives_7 rfl (by decide) (fun c7 => ?_) (fun c7 => absurd (by rw [hc]; exact nI_le (Nat.le_refl _) (by omega)) c7)
    refine wq_iconst 31 1 dX8_layLives_30 rfl (by decide) ?_
    refine wq_istore_n 32 1 [_, _, _, _, _, _, _, _] dX8_layLives_31 rfl rfl rfl (Nat.le_of_ble_eq_true rfl) rfl ?_
    exact lp_X8_more hD h hw k1 k2 hp K 0 S _ _ _ _ _ _ (by omega) hS
  | succ r ih =>
    intro k S hk hS
    refine wq_iload_n 3 1 dX8_layLives_2 rfl rfl rfl ?_
    refine wq_bload_n 4 0 dX8_layLives_3 rfl rfl rfl ?_
    refine wq_getI 7 fl_X8_148 dX8_layLives_4 rfl rfl o_71 ?_
    refine wq_ic_ge 10 30 dX8_layLives_7 rfl (by decide) (fun c7 => absurd c7 (by rw [hc]; exact nI_ge (by omega) (by omega))) (fun c7 => ?_)
    refine wq_bload_n 11 0 dX8_layLives_10 rfl rfl rfl ?_
    refine wq_getR 14 fl_X8_53 dX8_layLives_11 rfl rfl o_71 (rfl : (Tb _).2.2.2 71 19 = some 85) ?_
    refine wq_iload_n 15 1 dX8_layLives_14 rfl rfl rfl ?_
    refine wq_lconst 16 0 dX8_layLives_15 rfl (by decide) ?_
    refine wq_last 17 dX8_layLives_16 rfl a_85 (Ix.nI (by omega) (by decide)) ?_
    refine wq_bload_n 18 0 dX8_layLives_17 rfl rfl rfl ?_
    refine wq_getR 21 fl_X8_57 dX8_layLives_18 rfl rfl o_71 (rfl : (Tb _).2.2.2 71 20 = some 86) ?_
    refine wq_iload_n 22 1 dX8_layLives_21 rfl rfl rfl ?_
    refine wq_lconst 23 0 dX8_layLives_22 rfl (by decide) ?_
    refine wq_last 24 dX8_layLives_23 rfl a_86 (Ix.nI (by omega) (by decide)) ?_
    refine wq_iinc 27 (_ + 1) [_, _, _, _, _, _, _, _] dX8_layLives_24 rfl rfl (inc1 _) rfl (Nat.le_of_ble_eq_true rfl) rfl ?_
    refine wq_goto 2 dX8_layLives_27 (by decide) ?_
    rw [lvMem_st2 L 84, ← nI_succ]
    refine ih (k + 1) _ (by omega) (fun i hi => ?_)
    by_cases e : i = k
    · rw [e]; exact ⟨va_up_self _ _ _, va_up_self _ _ _⟩
    · exact ⟨(va_up_ne _ _ e).trans (hS i (by omega)).1, (va_up_ne _ _ e).trans (hS i (by omega)).2⟩
set_option maxRecDepth 20000 in
theorem sp_X8_layLives {g : Gl} {D : Nat} {b : Bool} {I : IM} {L : LM} {n B : Nat} {p : Pg} (hD : 2 ≤ D) (h : NR I n p) (hw : WfB B p n) : Me g D MX8_layLives [rf g 71] b I L (fun r b' I' L' => r = none ∧ b' = b ∧ I' = I ∧ ∃ S : LS2, L' = lvMem L 84 S ∧ ∀ i, i < n → S.2 i = Lvb p n i) := by
  obtain ⟨K, -, k2, k3⟩ := lv_ends (p := p) h.1
  refine Me.of [some (rf g 71), none, none, none, none, none, none, none] 7 rfl pf_X8_layLives (Nat.le_of_ble_eq_true rfl) ?_
  refine wq_iconst 1 0 dX8_layLives_0 rfl (by decide) ?_
  refine wq_istore_n 2 1 [_, _, _, _, _, _, _, _] dX8_layLives_1 rfl rfl rfl (Nat.le_of_ble_eq_true rfl) rfl ?_
  have h9 := lp_X8_zero (g := g) (L := L) hD h hw k2 k3 (post := fun r b' I' L' => r = none ∧ b' = b ∧ I' = I ∧ ∃ S : LS2, L' = lvMem L 84 S ∧ ∀ i, i < n → S.2 i = Lvb p n i) (fun S hS => ⟨rfl, rfl, rfl, S, rfl, hS⟩) n 0 (L 85, L 86) (by omega) (fun i hi => by omega)
  rw [lvMem_id L 84] at h9
  exact h9
