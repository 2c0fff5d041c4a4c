/-! THE LAW's body over the flat memory -/
abbrev ML (nm : String) : Mt := (⟨RL, nm, "([I)Z"⟩, code, 4, ret)
/-- what is known of the script -/
def XS (g : Gl) (b L : Nat) (xs : Nat → Int32) (args : Array Value) (s : State) : Prop := args = #[Value.ref b] ∧ va_X b L xs s s.heap ∧ b < s.heap.size ∧ s.heap = g.2.1
abbrev KL (g : Gl) (b L : Nat) (xs : Nat → Int32) (nm : String) : Kx := (g, room_1, ML nm, fun below args s t => XS g b L xs args s → lw_Z below args s t)
theorem wl_assume {g : Gl} {b L : Nat} {xs : Nat → Int32} {p : Program} {l : Launch} {e : Env} {R : Room} {s : State} {m : MethodId} {args : Array Value} {below : List Frame} {meth : Method} {c : Code} {H : Heap} {locs : List Loc} {u v : Nat} {f : JFrame} (h : XS g b L xs args s → W p l e R s m args below meth c H locs u v (fun t => XS g b L xs args s → lw_Z below args s t) f) : W p l e R s m args below meth c H locs u v (fun t => XS g b L xs args s → lw_Z below args s t) f := by
  by_cases c : XS g b L xs args s
  · exact h c
  · intro T hT X
    exact ⟨_, Steps.refl _, fun q => absurd q c⟩
theorem xs_S {g : Gl} {n : Nat} {R : RM} {I : IM} {L : LM} {H : Heap} {s : State} {locs : List Loc} (hP : HP g n R I L H) (hs : s.heap = g.2.1) (hF : ∀ q ∈ locs, gB g ≤ q.base) : va_S (fun q : Nat => s.heap.size ≤ q) s.heap H locs := by
  have hb : gB g = s.heap.size := by rw [hs]; rfl
  refine ⟨by rw [hP.1, hb]; omega, fun q h1 h2 => ?_, fun q hq => by have := hF q hq; show s.heap.size ≤ q.base; omega⟩
  rw [hs]
  exact hP.2.1 q (by omega)
section LawRules
variable {g : Gl} {b L : Nat} {xs : Nat → Int32} {nm : String} {T : Tx} {pc : Nat} {lv : List (Option Value)} {st : List Value} {I : IM} {M : LM}
theorem wl_sld (q : Nat) {i : Int32} (hin : vp_in i L) (hd : decode code pc = .ok (.iaload, 1)) (hq : pc + 1 = q) (kk : Wp (KL g b L xs nm) T q lv (.int (xs i.toNatClampNeg) :: st) I M) : Wp (KL g b L xs nm) T pc lv (.int i :: .ref b :: st) I M := by
  subst hq
  intro p e s m args below meth c H locs ls C hP hF hl
  refine wl_assume (fun hX => ?_)
  obtain ⟨-, x2, x3, x4⟩ := id hX
  exact va_sld C.1 C.2.1 x2 x3 (Nat.not_le.mpr x3) (xs_S hP x4 hF) hin hd (kk p e s m args below meth c H locs ls C hP hF hl)
theorem wl_slen (q : Nat) (hd : decode code pc = .ok (.arraylength, 1)) (hq : pc + 1 = q) (kk : Wp (KL g b L xs nm) T q lv (.int (nI L) :: st) I M) : Wp (KL g b L xs nm) T pc lv (.ref b :: st) I M := by
  subst hq
  intro p e s m args below meth c H locs ls C hP hF hl
  refine wl_assume (fun hX => ?_)
  obtain ⟨-, x2, x3, x4⟩ := id hX
  exact va_slen C.1 C.2.1 x2 x3 (Nat.not_le.mpr x3) (xs_S hP x4 hF) hd (kk p e s m args below meth c H locs ls C hP hF hl)
theorem wl_ret (hd : decode code pc = .ok (.ireturn, 1)) (hu : T.1 ≤ 600000) (hv : T.2.1 ≤ 7302250) : Wp (KL g b L xs nm) T pc lv [.int 1] I M := by
  intro p e s m args below meth c H locs ls C hP hF hl
  refine wl_assume (fun hX => ?_)
  obtain ⟨rfl, x2, x3, x4⟩ := id hX
  have hb : gB g = s.heap.size := by rw [x4]; rfl
  refine va_forget (fun q hq => by have h9 : gB g ≤ q.base := hF q hq; omega) ?_
  refine W.widen (k := 600000) (n := 7302250) hu hv ?_
  intro T' hT' X'
  obtain ⟨t, a1, a2⟩ := lw_ret C.1 C.2.1 C.2.2.2.2.2.2.1 C.2.2.2.2.2.2.2.1 hd T' hT' X'
  exact ⟨t, a1, fun _ => a2⟩
end LawRules
theorem m31 (x : Int32) : ∃ k, k < 32 ∧ x &&& 31 = nI k := by
  refine ⟨(x &&& 31).toBitVec.toNat, ?_, ?_⟩
  · rw [Int32.toBitVec_and, BitVec.toNat_and]
    have : x.toBitVec.toNat &&& (31 : Int32).toBitVec.toNat ≤ (31 : Int32).toBitVec.toNat := Nat.and_le_right
    have e : (31 : Int32).toBitVec.toNat = 31 := by decide
    omega
  · apply Int32.toBitVec_inj.mp
    show _ = BitVec.ofNat 32 _
    rw [BitVec.ofNat_toNat]
    simp
theorem law_ix {L i : Nat} (hL : L ≤ 1536) (hi : i ≤ 1600) (h : ¬ nI L - 3 < nI i) : i + 3 ≤ L := by
  by_cases c : 3 ≤ L
  · obtain ⟨m, rfl⟩ : ∃ m, L = m + 3 := ⟨L - 3, by omega⟩
    have e : nI (m + 3) - 3 = nI m := by rw [← nI_add]; exact Int32.add_sub_cancel _ _
    rw [e] at h
    have : ¬ m < i := fun z => h (nI_lt z (by omega))
    omega
  · exfalso
    have hl : L = 0 ∨ L = 1 ∨ L = 2 := by omega
    have h0 : (0 : Int32) ≤ nI i := nI_pos' (by omega)
    rcases hl with rfl | rfl | rfl
    · exact h (Int32.lt_of_lt_of_le (by decide) h0)
    · exact h (Int32.lt_of_lt_of_le (by decide) h0)
    · exact h (Int32.lt_of_lt_of_le (by decide) h0)
theorem InvM_sm {I I' : IM} {L L' : LM} {t : TS} (h : InvM I t) (e : Sm 71 103 I L I' L') : InvM I' t := InvM_keep h (fun x x1 x2 => (e x (by omega) (by omega)).1) (by rw [(e 71 (by omega) (by omega)).1]) (by rw [(e 71 (by omega) (by omega)).1]) (by rw [(e 71 (by omega) (by omega)).1]) (by rw [(e 71 (by omega) (by omega)).1]) (by rw [(e 71 (by omega) (by omega)).1]) (e 101 (by omega) (by omega)).1 (e 102 (by omega) (by omega)).1
theorem VT_colours {t : TS} (h : VT t) (v : Int32) : VT (nxColours t v) := by
  unfold nxColours
  by_cases c : inM v 2 4 = 0
  · rw [if_pos c]; exact h
  · rw [if_neg c]
    have c1 : ¬ v < 2 := fun z => c (inM_lt z)
    obtain ⟨x, x1, ex⟩ := in_ex (v := v) (hi := 4) (by decide) (fun z => c (inM_lt (Int32.lt_trans z (by decide)))) (fun z => c (inM_gt z))
    subst ex
    rw [show cN (nI x) = x from nI_clamp (by omega)]
    exact ⟨⟨Decidable.byContradiction (fun z => c1 (nI_lt (b := 2) (show x < 2 from Nat.not_le.mp z) (by decide))), x1, h.1.2.2⟩, h.2⟩
theorem VT_way {t : TS} (h : VT t) (v : Int32) : VT (nxWay t v) := by
  unfold nxWay
  by_cases c : inM v 0 2 = 0
  · rw [if_pos c]; exact h
  · rw [if_neg c]
    obtain ⟨x, x1, ex⟩ := in_ex (v := v) (hi := 2) (by decide) (fun z => c (inM_lt z)) (fun z => c (inM_gt z))
    subst ex
    rw [show cN (nI x) = x from nI_clamp (by omega)]
    exact ⟨⟨h.1.1, h.1.2.1, show x < 3 by omega, h.1.2.2.2⟩, h.2⟩
theorem VT_say {t : TS} (h : VT t) (v : Int32) : VT (nxSay t v) := by
  unfold nxSay
  by_cases c : inM v 33 126 = 0
  · rw [if_pos c]; exact h
  · rw [if_neg c]
    by_cases d : tC t = 60
    · rw [if_pos d]; exact h
    · rw [if_neg d]; exact h
theorem VT_image {t : TS} (h : VT t) (v : Int32) : VT (nxImage t v) := by
  unfold nxImage
  by_cases c : inM v 0 1 = 0
  · rw [if_pos c]; exact h
  · rw [if_neg c]
    by_cases d : v = 0
    · rw [if_pos d]; exact ⟨h.1, fun _ => h.1, h.2.2⟩
    · rw [if_neg d]; exact ⟨h.1, h.2.1, fun _ => h.1⟩
theorem VT_restore {t : TS} (h : VT t) (v : Int32) : VT (nxRestore t v) := by
  unfold nxRestore
  by_cases c : inM v 0 1 = 0
  · rw [if_pos c]; exact h
  · rw [if_neg c]
    by_cases d : (tIm t v).1 = true
    · rw [if_pos d]
      have hv : VI (tIm t v) := by
        unfold tIm
        by_cases e : v = 0
        · rw [if_pos e]; exact h.2.1
        · rw [if_neg e]; exact h.2.2
      exact ⟨hv d, h.2⟩
    · rw [if_neg d]; exact h
theorem VT_loadM {I : IM} {t : TS} (h : VT t) (hm : InvM I t) : VT (nxLoad t) := VT_load h ⟨hm.2.2.2.1.1, fun j hj => by have := (hm.2.2.2.1.2.2.2 j hj).2; omega⟩
/-- at the head of the law's loop -/
def LpI (g : Gl) (b L : Nat) (xs : Nat → Int32) (nm : String) (u v : Nat) (f : Nat) : Prop := ∀ (i : Nat) (bb : Bool) (I : IM) (M : LM) (t : TS), L ≤ i + f → i ≤ L + 3 → InvX I M t → InvM I t → VT t → Wp (KL g b L xs nm) (u, v, 103, Rl bb) 18 [some (.ref b), some (rf g 0), some (rf g 71), some (.int (nI i))] [] I M
set_option maxRecDepth 20000 in
set_option maxHeartbeats 2000000 in
theorem lw_op0 {g : Gl} {b L : Nat} {xs : Nat → Int32} {nm : String} {u v i : Nat} {bb : Bool} {I : IM} {M : LM} {t : TS} (hL : L ≤ 1536) (hi : i + 3 ≤ L) (hu : u ≤ room_1.cells) (hvv : v ≤ room_1.slots) (h : InvX I M t) (hm : InvM I t) (hv : VT t) (kk : ∀ bb I M t, InvX I M t → InvM I t → VT t → Wp (KL g b L xs nm) (u, v, 103, Rl bb) 615 [some (.ref b), some (rf g 0), some (rf g 71), some (.int (nI i))] [] I M) : Wp (KL g b L xs nm) (u, v, 103, Rl bb) 132 [some (.ref b), some (rf g 0), some (rf g 71), some (.int (nI i))] [] I M := by
  refine wq_bload_n 133 1 dL_law_132 rfl rfl rfl ?_
  refine wq_aload_n 134 0 dL_law_133 rfl rfl rfl ?_
  refine wq_iload_n 135 3 dL_law_134 rfl rfl rfl ?_
  refine wq_iconst 136 1 dL_law_135 rfl (by decide) ?_
  refine wq_iadd 137 dL_law_136 rfl ?_
  rw [show nI i + (1 : Int32) = nI (i + 1) from nI_add i 1]
  refine wl_sld 138 (vp_in_nI (by omega) (by omega)) dL_law_137 rfl ?_
  rw [nI_clamp (show i + 1 < 2 ^ 31 by omega)]
  refine wq_callV 141 (As := [.int (xs (i + 1))]) (cx_colours (D := 13) (by omega) h (xs (i + 1))) ml_L_13 mf_X7_colours dL_law_138 rfl o_0 (by decide) rfl rfl (Nat.le_of_ble_eq_true rfl) (Nat.le_of_ble_eq_true rfl) (Nat.le_of_ble_eq_true rfl) (show u + 0 ≤ _ from hu) (show v + 0 ≤ _ from hvv) (fun r1 n1 R1 I1 M1 hr1 => ?_)
  obtain ⟨rfl, b1, rfl, rfl, hx1, sm1⟩ := hr1
  have hm1 := InvM_sm hm sm1
  refine wq_bload_n 142 2 dL_law_141 rfl rfl rfl ?_
  refine wq_aload_n 143 0 dL_law_142 rfl rfl rfl ?_
  refine wq_iload_n 144 3 dL_law_143 rfl rfl rfl ?_
  refine wq_iconst 145 1 dL_law_144 rfl (by decide) ?_
  refine wq_iadd 146 dL_law_145 rfl ?_
  rw [show nI i + (1 : Int32) = nI (i + 1) from nI_add i 1]
  refine wl_sld 147 (vp_in_nI (by omega) (by omega)) dL_law_146 rfl ?_
  rw [nI_clamp (show i + 1 < 2 ^ 31 by omega)]
  refine wq_callV 150 (As := [.int (xs (i + 1))]) (cm_colours (D := 13) (by omega) hm1 (xs (i + 1))) ml_L_17 mf_X8_colours dL_law_147 rfl o_71 (by decide) rfl rfl (Nat.le_of_ble_eq_true rfl) (Nat.le_of_ble_eq_true rfl) (Nat.le_of_ble_eq_true rfl) (show u + 0 + 0 ≤ _ from hu) (show v + 0 + 0 ≤ _ from hvv) (fun r2 n2 R2 I2 M2 hr2 => ?_)
  obtain ⟨rfl, b2, rfl, rfl, rfl, hm2, sm2⟩ := hr2
  have hx2 := InvX_keep hx1 sm2
  refine wq_ic_eq 153 615 dL_law_150 rfl (by decide) (fun _ => ?_) (fun c => absurd rfl c)
  exact kk _ I2 M2 (nxColours t (xs (i + 1))) hx2 hm2 (VT_colours hv _)
set_option maxRecDepth 20000 in
set_option maxHeartbeats 2000000 in
theorem lw_op1 {g : Gl} {b L : Nat} {xs : Nat → Int32} {nm : String} {u v i : Nat} {bb : Bool} {I : IM} {M : LM} {t : TS} (hL : L ≤ 1536) (hi : i + 3 ≤ L) (hu : u ≤ room_1.cells) (hvv : v ≤ room_1.slots) (h : InvX I M t) (hm : InvM I t) (hv : VT t) (kk : ∀ bb I M t, InvX I M t → InvM I t → VT t → Wp (KL g b L xs nm) (u, v, 103, Rl bb) 615 [some (.ref b), some (rf g 0), some (rf g 71), some (.int (nI i))] [] I M) : Wp (KL g b L xs nm) (u, v, 103, Rl bb) 155 [some (.ref b), some (rf g 0), some (rf g 71), some (.int (nI i))] [] I M := by
  refine wq_bload_n 156 1 dL_law_155 rfl rfl rfl ?_
  refine wq_aload_n 157 0 dL_law_156 rfl rfl rfl ?_
  refine wq_iload_n 158 3 dL_law_157 rfl rfl rfl ?_
  refine wq_iconst 159 1 dL_law_158 rfl (by decide) ?_
  refine wq_iadd 160 dL_law_159 rfl ?_
  rw [show nI i + (1 : Int32) = nI (i + 1) from nI_add i 1]
  refine wl_sld 161 (vp_in_nI (by omega) (by omega)) dL_law_160 rfl ?_
  rw [nI_clamp (show i + 1 < 2 ^ 31 by omega)]
  refine wq_callV 164 (As := [.int (xs (i + 1))]) (cx_way (D := 13) (by omega) h (xs (i + 1))) ml_L_18 mf_X7_way dL_law_161 rfl o_0 (by decide) rfl rfl (Nat.le_of_ble_eq_true rfl) (Nat.le_of_ble_eq_true rfl) (Nat.le_of_ble_eq_true rfl) (show u + 0 ≤ _ from hu) (show v + 0 ≤ _ from hvv) (fun r1 n1 R1 I1 M1 hr1 => ?_)
  obtain ⟨rfl, b1, rfl, rfl, hx1, sm1⟩ := hr1
  have hm1 := InvM_sm hm sm1
  refine wq_bload_n 165 2 dL_law_164 rfl rfl rfl ?_
  refine wq_aload_n 166 0 dL_law_165 rfl rfl rfl ?_
  refine wq_iload_n 167 3 dL_law_166 rfl rfl rfl ?_
  refine wq_iconst 168 1 dL_law_167 rfl (by decide) ?_
  refine wq_iadd 169 dL_law_168 rfl ?_
  rw [show nI i + (1 : Int32) = nI (i + 1) from nI_add i 1]
  refine wl_sld 170 (vp_in_nI (by omega) (by omega)) dL_law_169 rfl ?_
  rw [nI_clamp (show i + 1 < 2 ^ 31 by omega)]
  refine wq_callV 173 (As := [.int (xs (i + 1))]) (cm_way (D := 13) (by omega) hm1 (xs (i + 1))) ml_L_21 mf_X8_way dL_law_170 rfl o_71 (by decide) rfl rfl (Nat.le_of_ble_eq_true rfl) (Nat.le_of_ble_eq_true rfl) (Nat.le_of_ble_eq_true rfl) (show u + 0 + 0 ≤ _ from hu) (show v + 0 + 0 ≤ _ from hvv) (fun r2 n2 R2 I2 M2 hr2 => ?_)
  obtain ⟨rfl, b2, rfl, rfl, rfl, hm2, sm2⟩ := hr2
  have hx2 := InvX_keep hx1 sm2
  refine wq_ic_eq 176 615 dL_law_173 rfl (by decide) (fun _ => ?_) (fun c => absurd rfl c)
  exact kk _ I2 M2 (nxWay t (xs (i + 1))) hx2 hm2 (VT_way hv _)
set_option maxRecDepth 20000 in
set_option maxHeartbeats 2000000 in
theorem lw_op2 {g : Gl} {b L : Nat} {xs : Nat → Int32} {nm : String} {u v i : Nat} {bb : Bool} {I : IM} {M : LM} {t : TS} (hL : L ≤ 1536) (hi : i + 3 ≤ L) (hu : u ≤ room_1.cells) (hvv : v ≤ room_1.slots) (h : InvX I M t) (hm : InvM I t) (hv : VT t) (kk : ∀ bb I M t, InvX I M t → InvM I t → VT t → Wp (KL g b L xs nm) (u, v, 103, Rl bb) 615 [some (.ref b), some (rf g 0), some (rf g 71), some (.int (nI i))] [] I M) : Wp (KL g b L xs nm) (u, v, 103, Rl bb) 178 [some (.ref b), some (rf g 0), some (rf g 71), some (.int (nI i))] [] I M := by
  refine wq_bload_n 179 1 dL_law_178 rfl rfl rfl ?_
  refine wq_aload_n 180 0 dL_law_179 rfl rfl rfl ?_
  refine wq_iload_n 181 3 dL_law_180 rfl rfl rfl ?_
  refine wq_iconst 182 1 dL_law_181 rfl (by decide) ?_
  refine wq_iadd 183 dL_law_182 rfl ?_
  rw [show nI i + (1 : Int32) = nI (i + 1) from nI_add i 1]
  refine wl_sld 184 (vp_in_nI (by omega) (by omega)) dL_law_183 rfl ?_
  rw [nI_clamp (show i + 1 < 2 ^ 31 by omega)]
  refine wq_callV 187 (As := [.int (xs (i + 1))]) (cx_say (D := 13) (by omega) h (xs (i + 1))) ml_L_22 mf_X7_say dL_law_184 rfl o_0 (by decide) rfl rfl (Nat.le_of_ble_eq_true rfl) (Nat.le_of_ble_eq_true rfl) (Nat.le_of_ble_eq_true rfl) (show u + 0 ≤ _ from hu) (show v + 0 ≤ _ from hvv) (fun r1 n1 R1 I1 M1 hr1 => ?_)
  obtain ⟨rfl, b1, rfl, rfl, hx1, sm1⟩ := hr1
  have hm1 := InvM_sm hm sm1
  refine wq_bload_n 188 2 dL_law_187 rfl rfl rfl ?_
  refine wq_aload_n 189 0 dL_law_188 rfl rfl rfl ?_
  refine wq_iload_n 190 3 dL_law_189 rfl rfl rfl ?_
  refine wq_iconst 191 1 dL_law_190 rfl (by decide) ?_
  refine wq_iadd 192 dL_law_191 rfl ?_
  rw [show nI i + (1 : Int32) = nI (i + 1) from nI_add i 1]
  refine wl_sld 193 (vp_in_nI (by omega) (by omega)) dL_law_192 rfl ?_
  rw [nI_clamp (show i + 1 < 2 ^ 31 by omega)]
  refine wq_callV 196 (As := [.int (xs (i + 1))]) (cm_say (D := 13) (by omega) hm1 (xs (i + 1))) ml_L_25 mf_X8_say dL_law_193 rfl o_71 (by decide) rfl rfl (Nat.le_of_ble_eq_true rfl) (Nat.le_of_ble_eq_true rfl) (Nat.le_of_ble_eq_true rfl) (show u + 0 + 0 ≤ _ from hu) (show v + 0 + 0 ≤ _ from hvv) (fun r2 n2 R2 I2 M2 hr2 => ?_)
  obtain ⟨rfl, b2, rfl, rfl, rfl, hm2, sm2⟩ := hr2
  have hx2 := InvX_keep hx1 sm2
  refine wq_ic_eq 199 615 dL_law_196 rfl (by decide) (fun _ => ?_) (fun c => absurd rfl c)
  exact kk _ I2 M2 (nxSay t (xs (i + 1))) hx2 hm2 (VT_say hv _)
set_option maxRecDepth 20000 in
set_option maxHeartbeats 2000000 in
theorem lw_op3 {g : Gl} {b L : Nat} {xs : Nat → Int32} {nm : String} {u v i : Nat} {bb : Bool} {I : IM} {M : LM} {t : TS} (hL : L ≤ 1536) (hi : i + 3 ≤ L) (hu : u ≤ room_1.cells) (hvv : v ≤ room_1.slots) (h : InvX I M t) (hm : InvM I t) (hv : VT t) (kk : ∀ bb I M t, InvX I M t → InvM I t → VT t → Wp (KL g b L xs nm) (u, v, 103, Rl bb) 615 [some (.ref b), some (rf g 0), some (rf g 71), some (.int (nI i))] [] I M) : Wp (KL g b L xs nm) (u, v, 103, Rl bb) 201 [some (.ref b), some (rf g 0), some (rf g 71), some (.int (nI i))] [] I M := by
  refine wq_bload_n 202 1 dL_law_201 rfl rfl rfl ?_
  refine wq_callV 205 (As := []) (cx_wipe (D := 13) h) ml_L_26 mf_X7_wipe dL_law_202 rfl o_0 (by decide) rfl rfl (Nat.le_of_ble_eq_true rfl) (Nat.le_of_ble_eq_true rfl) (Nat.le_of_ble_eq_true rfl) (show u + 0 ≤ _ from hu) (show v + 0 ≤ _ from hvv) (fun r1 n1 R1 I1 M1 hr1 => ?_)
  obtain ⟨rfl, b1, rfl, rfl, hx1, sm1⟩ := hr1
  have hm1 := InvM_sm hm sm1
  refine wq_bload_n 206 2 dL_law_205 rfl rfl rfl ?_
  refine wq_callV 209 (As := []) (cm_wipe (D := 13) hm1) ml_L_30 mf_X8_wipe dL_law_206 rfl o_71 (by decide) rfl rfl (Nat.le_of_ble_eq_true rfl) (Nat.le_of_ble_eq_true rfl) (Nat.le_of_ble_eq_true rfl) (show u + 0 + 0 ≤ _ from hu) (show v + 0 + 0 ≤ _ from hvv) (fun r2 n2 R2 I2 M2 hr2 => ?_)
  obtain ⟨rfl, b2, rfl, rfl, rfl, hm2, sm2⟩ := hr2
  have hx2 := InvX_keep hx1 sm2
  refine wq_ic_eq 212 615 dL_law_209 rfl (by decide) (fun _ => ?_) (fun c => absurd rfl c)
  exact kk _ I2 M2 (nxWipe t) hx2 hm2 (hv)
set_option maxRecDepth 20000 in
set_option maxHeartbeats 2000000 in
theorem lw_op4 {g : Gl} {b L : Nat} {xs : Nat → Int32} {nm : String} {u v i : Nat} {bb : Bool} {I : IM} {M : LM} {t : TS} (hL : L ≤ 1536) (hi : i + 3 ≤ L) (hu : u ≤ room_1.cells) (hvv : v ≤ room_1.slots) (h : InvX I M t) (hm : InvM I t) (hv : VT t) (kk : ∀ bb I M t, InvX I M t → InvM I t → VT t → Wp (KL g b L xs nm) (u, v, 103, Rl bb) 615 [some (.ref b), some (rf g 0), some (rf g 71), some (.int (nI i))] [] I M) : Wp (KL g b L xs nm) (u, v, 103, Rl bb) 214 [some (.ref b), some (rf g 0), some (rf g 71), some (.int (nI i))] [] I M := by
  refine wq_bload_n 215 1 dL_law_214 rfl rfl rfl ?_
  refine wq_callV 218 (As := []) (cx_fault (D := 13) (by omega) h) ml_L_31 mf_X7_fault dL_law_215 rfl o_0 (by decide) rfl rfl (Nat.le_of_ble_eq_true rfl) (Nat.le_of_ble_eq_true rfl) (Nat.le_of_ble_eq_true rfl) (show u + 0 ≤ _ from hu) (show v + 0 ≤ _ from hvv) (fun r1 n1 R1 I1 M1 hr1 => ?_)
  obtain ⟨rfl, b1, rfl, rfl, hx1, sm1⟩ := hr1
  have hm1 := InvM_sm hm sm1
  refine wq_bload_n 219 2 dL_law_218 rfl rfl rfl ?_
  refine wq_callV 222 (As := []) (cm_fault (D := 13) (by omega) hm1) ml_L_34 mf_X8_fault dL_law_219 rfl o_71 (by decide) rfl rfl (Nat.le_of_ble_eq_true rfl) (Nat.le_of_ble_eq_true rfl) (Nat.le_of_ble_eq_true rfl) (show u + 0 + 0 ≤ _ from hu) (show v + 0 + 0 ≤ _ from hvv) (fun r2 n2 R2 I2 M2 hr2 => ?_)
  obtain ⟨rfl, b2, rfl, rfl, rfl, hm2, sm2⟩ := hr2
  have hx2 := InvX_keep hx1 sm2
  refine wq_ic_eq 225 615 dL_law_222 rfl (by decide) (fun _ => ?_) (fun c => absurd rfl c)
  exact kk _ I2 M2 (t) hx2 hm2 (hv)
set_option maxRecDepth 20000 in
set_option maxHeartbeats 2000000 in
theorem lw_op5 {g : Gl} {b L : Nat} {xs : Nat → Int32} {nm : String} {u v i : Nat} {bb : Bool} {I : IM} {M : LM} {t : TS} (hL : L ≤ 1536) (hi : i + 3 ≤ L) (hu : u ≤ room_1.cells) (hvv : v ≤ room_1.slots) (h : InvX I M t) (hm : InvM I t) (hv : VT t) (kk : ∀ bb I M t, InvX I M t → InvM I t → VT t → Wp (KL g b L xs nm) (u, v, 103, Rl bb) 615 [some (.ref b), some (rf g 0), some (rf g 71), some (.int (nI i))] [] I M) : Wp (KL g b L xs nm) (u, v, 103, Rl bb) 227 [some (.ref b), some (rf g 0), some (rf g 71), some (.int (nI i))] [] I M := by
  refine wq_bload_n 228 1 dL_law_227 rfl rfl rfl ?_
  refine wq_callV 231 (As := []) (cx_load (D := 13) (by omega) h) ml_L_35 mf_X7_load dL_law_228 rfl o_0 (by decide) rfl rfl (Nat.le_of_ble_eq_true rfl) (Nat.le_of_ble_eq_true rfl) (Nat.le_of_ble_eq_true rfl) (show u + 0 ≤ _ from hu) (show v + 0 ≤ _ from hvv) (fun r1 n1 R1 I1 M1 hr1 => ?_)
  obtain ⟨rfl, b1, rfl, rfl, hx1, sm1⟩ := hr1
  have hm1 := InvM_sm hm sm1
  refine wq_bload_n 232 2 dL_law_231 rfl rfl rfl ?_
  refine wq_callV 235 (As := []) (cm_load (D := 13) (by omega) hm1) ml_L_38 mf_X8_load dL_law_232 rfl o_71 (by decide) rfl rfl (Nat.le_of_ble_eq_true rfl) (Nat.le_of_ble_eq_true rfl) (Nat.le_of_ble_eq_true rfl) (show u + 0 + 0 ≤ _ from hu) (show v + 0 + 0 ≤ _ from hvv) (fun r2 n2 R2 I2 M2 hr2 => ?_)
  obtain ⟨rfl, b2, rfl, rfl, rfl, hm2, sm2⟩ := hr2
  have hx2 := InvX_keep hx1 sm2
  refine wq_ic_eq 238 615 dL_law_235 rfl (by decide) (fun _ => ?_) (fun c => absurd rfl c)
  exact kk _ I2 M2 (nxLoad t) hx2 hm2 (VT_loadM hv hm)
set_option maxRecDepth 20000 in
set_option maxHeartbeats 2000000 in
theorem lw_op6 {g : Gl} {b L : Nat} {xs : Nat → Int32} {nm : String} {u v i : Nat} {bb : Bool} {I : IM} {M : LM} {t : TS} (hL : L ≤ 1536) (hi : i + 3 ≤ L) (hu : u ≤ room_1.cells) (hvv : v ≤ room_1.slots) (h : InvX I M t) (hm : InvM I t) (hv : VT t) (kk : ∀ bb I M t, InvX I M t → InvM I t → VT t → Wp (KL g b L xs nm) (u, v, 103, Rl bb) 615 [some (.ref b), some (rf g 0), some (rf g 71), some (.int (nI i))] [] I M) : Wp (KL g b L xs nm) (u, v, 103, Rl bb) 240 [some (.ref b), some (rf g 0), some (rf g 71), some (.int (nI i))] [] I M := by
  refine wq_bload_n 241 1 dL_law_240 rfl rfl rfl ?_
  refine wq_aload_n 242 0 dL_law_241 rfl rfl rfl ?_
  refine wq_iload_n 243 3 dL_law_242 rfl rfl rfl ?_
  refine wq_iconst 244 1 dL_law_243 rfl (by decide) ?_
  refine wq_iadd 245 dL_law_244 rfl ?_
  rw [show nI i + (1 : Int32) = nI (i + 1) from nI_add i 1]
  refine wl_sld 246 (vp_in_nI (by omega) (by omega)) dL_law_245 rfl ?_
  rw [nI_clamp (show i + 1 < 2 ^ 31 by omega)]
  refine wq_aload_n 247 0 dL_law_246 rfl rfl rfl ?_
  refine wq_iload_n 248 3 dL_law_247 rfl rfl rfl ?_
  refine wq_iconst 249 2 dL_law_248 rfl (by decide) ?_
  refine wq_iadd 250 dL_law_249 rfl ?_
  rw [show nI i + (2 : Int32) = nI (i + 2) from nI_add i 2]
  refine wl_sld 251 (vp_in_nI (by omega) (by omega)) dL_law_250 rfl ?_
  rw [nI_clamp (show i + 2 < 2 ^ 31 by omega)]
  refine wq_callV 254 (As := [.int (xs (i + 1)), .int (xs (i + 2))]) (cx_instruction (D := 13) (by omega) h (xs (i + 1)) (xs (i + 2))) ml_L_39 mf_X7_instruction dL_law_251 rfl o_0 (by decide) rfl rfl (Nat.le_of_ble_eq_true rfl) (Nat.le_of_ble_eq_true rfl) (Nat.le_of_ble_eq_true rfl) (show u + 0 ≤ _ from hu) (show v + 0 ≤ _ from hvv) (fun r1 n1 R1 I1 M1 hr1 => ?_)
  obtain ⟨rfl, b1, rfl, rfl, hx1, sm1⟩ := hr1
  have hm1 := InvM_sm hm sm1
  refine wq_bload_n 255 2 dL_law_254 rfl rfl rfl ?_
  refine wq_aload_n 256 0 dL_law_255 rfl rfl rfl ?_
  refine wq_iload_n 257 3 dL_law_256 rfl rfl rfl ?_
  refine wq_iconst 258 1 dL_law_257 rfl (by decide) ?_
  refine wq_iadd 259 dL_law_258 rfl ?_
  rw [show nI i + (1 : Int32) = nI (i + 1) from nI_add i 1]
  refine wl_sld 260 (vp_in_nI (by omega) (by omega)) dL_law_259 rfl ?_
  rw [nI_clamp (show i + 1 < 2 ^ 31 by omega)]
  refine wq_aload_n 261 0 dL_law_260 rfl rfl rfl ?_
  refine wq_iload_n 262 3 dL_law_261 rfl rfl rfl ?_
  refine wq_iconst 263 2 dL_law_262 rfl (by decide) ?_
  refine wq_iadd 264 dL_law_263 rfl ?_
  rw [show nI i + (2 : Int32) = nI (i + 2) from nI_add i 2]
  refine wl_sld 265 (vp_in_nI (by omega) (by omega)) dL_law_264 rfl ?_
  rw [nI_clamp (show i + 2 < 2 ^ 31 by omega)]
  refine wq_callV 268 (As := [.int (xs (i + 1)), .int (xs (i + 2))]) (cm_instruction (D := 13) (by omega) hm1 (xs (i + 1)) (xs (i + 2))) ml_L_43 mf_X8_instruction dL_law_265 rfl o_71 (by decide) rfl rfl (Nat.le_of_ble_eq_true rfl) (Nat.le_of_ble_eq_true rfl) (Nat.le_of_ble_eq_true rfl) (show u + 0 + 0 ≤ _ from hu) (show v + 0 + 0 ≤ _ from hvv) (fun r2 n2 R2 I2 M2 hr2 => ?_)
  obtain ⟨rfl, b2, rfl, rfl, rfl, hm2, sm2⟩ := hr2
  have hx2 := InvX_keep hx1 sm2
  refine wq_ic_eq 271 615 dL_law_268 rfl (by decide) (fun _ => ?_) (fun c => absurd rfl c)
  exact kk _ I2 M2 (t) hx2 hm2 (hv)
set_option maxRecDepth 20000 in
set_option maxHeartbeats 2000000 in
theorem lw_op7 {g : Gl} {b L : Nat} {xs : Nat → Int32} {nm : String} {u v i : Nat} {bb : Bool} {I : IM} {M : LM} {t : TS} (hL : L ≤ 1536) (hi : i + 3 ≤ L) (hu : u ≤ room_1.cells) (hvv : v ≤ room_1.slots) (h : InvX I M t) (hm : InvM I t) (hv : VT t) (kk : ∀ bb I M t, InvX I M t → InvM I t → VT t → Wp (KL g b L xs nm) (u, v, 103, Rl bb) 615 [some (.ref b), some (rf g 0), some (rf g 71), some (.int (nI i))] [] I M) : Wp (KL g b L xs nm) (u, v, 103, Rl bb) 273 [some (.ref b), some (rf g 0), some (rf g 71), some (.int (nI i))] [] I M := by
  refine wq_bload_n 274 1 dL_law_273 rfl rfl rfl ?_
  refine wq_aload_n 275 0 dL_law_274 rfl rfl rfl ?_
  refine wq_iload_n 276 3 dL_law_275 rfl rfl rfl ?_
  refine wq_iconst 277 1 dL_law_276 rfl (by decide) ?_
  refine wq_iadd 278 dL_law_277 rfl ?_
  rw [show nI i + (1 : Int32) = nI (i + 1) from nI_add i 1]
  refine wl_sld 279 (vp_in_nI (by omega) (by omega)) dL_law_278 rfl ?_
  rw [nI_clamp (show i + 1 < 2 ^ 31 by omega)]
  refine wq_callV 282 (As := [.int (xs (i + 1))]) (cx_live (D := 13) (by omega) h hv (xs (i + 1))) ml_L_44 mf_X7_live dL_law_279 rfl o_0 (by decide) rfl rfl (Nat.le_of_ble_eq_true rfl) (Nat.le_of_ble_eq_true rfl) (Nat.le_of_ble_eq_true rfl) (show u + 0 ≤ _ from hu) (show v + 0 ≤ _ from hvv) (fun r1 n1 R1 I1 M1 hr1 => ?_)
  obtain ⟨rfl, b1, rfl, rfl, hx1, sm1⟩ := hr1
  have hm1 := InvM_sm hm sm1
  refine wq_bload_n 283 2 dL_law_282 rfl rfl rfl ?_
  refine wq_aload_n 284 0 dL_law_283 rfl rfl rfl ?_
  refine wq_iload_n 285 3 dL_law_284 rfl rfl rfl ?_
  refine wq_iconst 286 1 dL_law_285 rfl (by decide) ?_
  refine wq_iadd 287 dL_law_286 rfl ?_
  rw [show nI i + (1 : Int32) = nI (i + 1) from nI_add i 1]
  refine wl_sld 288 (vp_in_nI (by omega) (by omega)) dL_law_287 rfl ?_
  rw [nI_clamp (show i + 1 < 2 ^ 31 by omega)]
  refine wq_callV 291 (As := [.int (xs (i + 1))]) (cm_live (D := 13) (by omega) hm1 hv (xs (i + 1))) ml_L_47 mf_X8_live dL_law_288 rfl o_71 (by decide) rfl rfl (Nat.le_of_ble_eq_true rfl) (Nat.le_of_ble_eq_true rfl) (Nat.le_of_ble_eq_true rfl) (show u + 0 + 0 ≤ _ from hu) (show v + 0 + 0 ≤ _ from hvv) (fun r2 n2 R2 I2 M2 hr2 => ?_)
  obtain ⟨rfl, b2, rfl, rfl, rfl, hm2, sm2⟩ := hr2
  have hx2 := InvX_keep hx1 sm2
  refine wq_ic_eq 294 615 dL_law_291 rfl (by decide) (fun _ => ?_) (fun c => absurd rfl c)
  exact kk _ I2 M2 (t) hx2 hm2 (hv)
set_option maxRecDepth 20000 in
set_option maxHeartbeats 2000000 in
theorem lw_op8 {g : Gl} {b L : Nat} {xs : Nat → Int32} {nm : String} {u v i : Nat} {bb : Bool} {I : IM} {M : LM} {t : TS} (hL : L ≤ 1536) (hi : i + 3 ≤ L) (hu : u ≤ room_1.cells) (hvv : v ≤ room_1.slots) (h : InvX I M t) (hm : InvM I t) (hv : VT t) (kk : ∀ bb I M t, InvX I M t → InvM I t → VT t → Wp (KL g b L xs nm) (u, v, 103, Rl bb) 615 [some (.ref b), some (rf g 0), some (rf g 71), some (.int (nI i))] [] I M) : Wp (KL g b L xs nm) (u, v, 103, Rl bb) 296 [some (.ref b), some (rf g 0), some (rf g 71), some (.int (nI i))] [] I M := by
  refine wq_bload_n 297 1 dL_law_296 rfl rfl rfl ?_
  refine wq_aload_n 298 0 dL_law_297 rfl rfl rfl ?_
  refine wq_iload_n 299 3 dL_law_298 rfl rfl rfl ?_
  refine wq_iconst 300 1 dL_law_299 rfl (by decide) ?_
  refine wq_iadd 301 dL_law_300 rfl ?_
  rw [show nI i + (1 : Int32) = nI (i + 1) from nI_add i 1]
  refine wl_sld 302 (vp_in_nI (by omega) (by omega)) dL_law_301 rfl ?_
  rw [nI_clamp (show i + 1 < 2 ^ 31 by omega)]
  refine wq_callV 305 (As := [.int (xs (i + 1))]) (cx_edges (D := 13) (by omega) h hv (xs (i + 1))) ml_L_48 mf_X7_edges dL_law_302 rfl o_0 (by decide) rfl rfl (Nat.le_of_ble_eq_true rfl) (Nat.le_of_ble_eq_true rfl) (Nat.le_of_ble_eq_true rfl) (show u + 0 ≤ _ from hu) (show v + 0 ≤ _ from hvv) (fun r1 n1 R1 I1 M1 hr1 => ?_)
  obtain ⟨rfl, b1, rfl, rfl, hx1, sm1⟩ := hr1
  have hm1 := InvM_sm hm sm1
  refine wq_bload_n 306 2 dL_law_305 rfl rfl rfl ?_
  refine wq_aload_n 307 0 dL_law_306 rfl rfl rfl ?_
  refine wq_iload_n 308 3 dL_law_307 rfl rfl rfl ?_
  refine wq_iconst 309 1 dL_law_308 rfl (by decide) ?_
  refine wq_iadd 310 dL_law_309 rfl ?_
  rw [show nI i + (1 : Int32) = nI (i + 1) from nI_add i 1]
  refine wl_sld 311 (vp_in_nI (by omega) (by omega)) dL_law_310 rfl ?_
  rw [nI_clamp (show i + 1 < 2 ^ 31 by omega)]
  refine wq_callV 314 (As := [.int (xs (i + 1))]) (cm_edges (D := 13) (by omega) hm1 hv (xs (i + 1))) ml_L_51 mf_X8_edges dL_law_311 rfl o_71 (by decide) rfl rfl (Nat.le_of_ble_eq_true rfl) (Nat.le_of_ble_eq_true rfl) (Nat.le_of_ble_eq_true rfl) (show u + 0 + 0 ≤ _ from hu) (show v + 0 + 0 ≤ _ from hvv) (fun r2 n2 R2 I2 M2 hr2 => ?_)
  obtain ⟨rfl, b2, rfl, rfl, rfl, hm2, sm2⟩ := hr2
  have hx2 := InvX_keep hx1 sm2
  refine wq_ic_eq 317 615 dL_law_314 rfl (by decide) (fun _ => ?_) (fun c => absurd rfl c)
  exact kk _ I2 M2 (t) hx2 hm2 (hv)
set_option maxRecDepth 20000 in
set_option maxHeartbeats 2000000 in
theorem lw_op9 {g : Gl} {b L : Nat} {xs : Nat → Int32} {nm : String} {u v i : Nat} {bb : Bool} {I : IM} {M : LM} {t : TS} (hL : L ≤ 1536) (hi : i + 3 ≤ L) (hu : u ≤ room_1.cells) (hvv : v ≤ room_1.slots) (h : InvX I M t) (hm : InvM I t) (hv : VT t) (kk : ∀ bb I M t, InvX I M t → InvM I t → VT t → Wp (KL g b L xs nm) (u, v, 103, Rl bb) 615 [some (.ref b), some (rf g 0), some (rf g 71), some (.int (nI i))] [] I M) : Wp (KL g b L xs nm) (u, v, 103, Rl bb) 319 [some (.ref b), some (rf g 0), some (rf g 71), some (.int (nI i))] [] I M := by
  refine wq_bload_n 320 1 dL_law_319 rfl rfl rfl ?_
  refine wq_aload_n 321 0 dL_law_320 rfl rfl rfl ?_
  refine wq_iload_n 322 3 dL_law_321 rfl rfl rfl ?_
  refine wq_iconst 323 1 dL_law_322 rfl (by decide) ?_
  refine wq_iadd 324 dL_law_323 rfl ?_
  rw [show nI i + (1 : Int32) = nI (i + 1) from nI_add i 1]
  refine wl_sld 325 (vp_in_nI (by omega) (by omega)) dL_law_324 rfl ?_
  rw [nI_clamp (show i + 1 < 2 ^ 31 by omega)]
  refine wq_aload_n 326 0 dL_law_325 rfl rfl rfl ?_
  refine wq_iload_n 327 3 dL_law_326 rfl rfl rfl ?_
  refine wq_iconst 328 2 dL_law_327 rfl (by decide) ?_
  refine wq_iadd 329 dL_law_328 rfl ?_
  rw [show nI i + (2 : Int32) = nI (i + 2) from nI_add i 2]
  refine wl_sld 330 (vp_in_nI (by omega) (by omega)) dL_law_329 rfl ?_
  rw [nI_clamp (show i + 2 < 2 ^ 31 by omega)]
  refine wq_callV 333 (As := [.int (xs (i + 1)), .int (xs (i + 2))]) (cx_weight (D := 13) (by omega) h hv (xs (i + 1)) (xs (i + 2))) ml_L_52 mf_X7_weight dL_law_330 rfl o_0 (by decide) rfl rfl (Nat.le_of_ble_eq_true rfl) (Nat.le_of_ble_eq_true rfl) (Nat.le_of_ble_eq_true rfl) (show u + 0 ≤ _ from hu) (show v + 0 ≤ _ from hvv) (fun r1 n1 R1 I1 M1 hr1 => ?_)
  obtain ⟨rfl, b1, rfl, rfl, hx1, sm1⟩ := hr1
  have hm1 := InvM_sm hm sm1
  refine wq_bload_n 334 2 dL_law_333 rfl rfl rfl ?_
  refine wq_aload_n 335 0 dL_law_334 rfl rfl rfl ?_
  refine wq_iload_n 336 3 dL_law_335 rfl rfl rfl ?_
  refine wq_iconst 337 1 dL_law_336 rfl (by decide) ?_
  refine wq_iadd 338 dL_law_337 rfl ?_
  rw [show nI i + (1 : Int32) = nI (i + 1) from nI_add i 1]
  refine wl_sld 339 (vp_in_nI (by omega) (by omega)) dL_law_338 rfl ?_
  rw [nI_clamp (show i + 1 < 2 ^ 31 by omega)]
  refine wq_aload_n 340 0 dL_law_339 rfl rfl rfl ?_
  refine wq_iload_n 341 3 dL_law_340 rfl rfl rfl ?_
  refine wq_iconst 342 2 dL_law_341 rfl (by decide) ?_
  refine wq_iadd 343 dL_law_342 rfl ?_
  rw [show nI i + (2 : Int32) = nI (i + 2) from nI_add i 2]
  refine wl_sld 344 (vp_in_nI (by omega) (by omega)) dL_law_343 rfl ?_
  rw [nI_clamp (show i + 2 < 2 ^ 31 by omega)]
  refine wq_callV 347 (As := [.int (xs (i + 1)), .int (xs (i + 2))]) (cm_weight (D := 13) (by omega) hm1 hv (xs (i + 1)) (xs (i + 2))) ml_L_55 mf_X8_weight dL_law_344 rfl o_71 (by decide) rfl rfl (Nat.le_of_ble_eq_true rfl) (Nat.le_of_ble_eq_true rfl) (Nat.le_of_ble_eq_true rfl) (show u + 0 + 0 ≤ _ from hu) (show v + 0 + 0 ≤ _ from hvv) (fun r2 n2 R2 I2 M2 hr2 => ?_)
  obtain ⟨rfl, b2, rfl, rfl, rfl, hm2, sm2⟩ := hr2
  have hx2 := InvX_keep hx1 sm2
  refine wq_ic_eq 350 615 dL_law_347 rfl (by decide) (fun _ => ?_) (fun c => absurd rfl c)
  exact kk _ I2 M2 (t) hx2 hm2 (hv)
set_option maxRecDepth 20000 in
set_option maxHeartbeats 2000000 in
theorem lw_op10 {g : Gl} {b L : Nat} {xs : Nat → Int32} {nm : String} {u v i : Nat} {bb : Bool} {I : IM} {M : LM} {t : TS} (hL : L ≤ 1536) (hi : i + 3 ≤ L) (hu : u ≤ room_1.cells) (hvv : v ≤ room_1.slots) (h : InvX I M t) (hm : InvM I t) (hv : VT t) (kk : ∀ bb I M t, InvX I M t → InvM I t → VT t → Wp (KL g b L xs nm) (u, v, 103, Rl bb) 615 [some (.ref b), some (rf g 0), some (rf g 71), some (.int (nI i))] [] I M) : Wp (KL g b L xs nm) (u, v, 103, Rl bb) 352 [some (.ref b), some (rf g 0), some (rf g 71), some (.int (nI i))] [] I M := by
  refine wq_bload_n 353 1 dL_law_352 rfl rfl rfl ?_
  refine wq_aload_n 354 0 dL_law_353 rfl rfl rfl ?_
  refine wq_iload_n 355 3 dL_law_354 rfl rfl rfl ?_
  refine wq_iconst 356 1 dL_law_355 rfl (by decide) ?_
  refine wq_iadd 357 dL_law_356 rfl ?_
  rw [show nI i + (1 : Int32) = nI (i + 1) from nI_add i 1]
  refine wl_sld 358 (vp_in_nI (by omega) (by omega)) dL_law_357 rfl ?_
  rw [nI_clamp (show i + 1 < 2 ^ 31 by omega)]
  refine wq_callV 361 (As := [.int (xs (i + 1))]) (cx_step (D := 13) (by omega) h hv (xs (i + 1))) ml_L_56 mf_X7_step dL_law_358 rfl o_0 (by decide) rfl rfl (Nat.le_of_ble_eq_true rfl) (Nat.le_of_ble_eq_true rfl) (Nat.le_of_ble_eq_true rfl) (show u + 0 ≤ _ from hu) (show v + 0 ≤ _ from hvv) (fun r1 n1 R1 I1 M1 hr1 => ?_)
  obtain ⟨rfl, b1, rfl, rfl, hx1, sm1⟩ := hr1
  have hm1 := InvM_sm hm sm1
  refine wq_bload_n 362 2 dL_law_361 rfl rfl rfl ?_
  refine wq_aload_n 363 0 dL_law_362 rfl rfl rfl ?_
  refine wq_iload_n 364 3 dL_law_363 rfl rfl rfl ?_
  refine wq_iconst 365 1 dL_law_364 rfl (by decide) ?_
  refine wq_iadd 366 dL_law_365 rfl ?_
  rw [show nI i + (1 : Int32) = nI (i + 1) from nI_add i 1]
  refine wl_sld 367 (vp_in_nI (by omega) (by omega)) dL_law_366 rfl ?_
  rw [nI_clamp (show i + 1 < 2 ^ 31 by omega)]
  refine wq_callV 370 (As := [.int (xs (i + 1))]) (cm_step (D := 13) (by omega) hm1 hv (xs (i + 1))) ml_L_59 mf_X8_step dL_law_367 rfl o_71 (by decide) rfl rfl (Nat.le_of_ble_eq_true rfl) (Nat.le_of_ble_eq_true rfl) (Nat.le_of_ble_eq_true rfl) (show u + 0 + 0 ≤ _ from hu) (show v + 0 + 0 ≤ _ from hvv) (fun r2 n2 R2 I2 M2 hr2 => ?_)
  obtain ⟨rfl, b2, rfl, rfl, rfl, hm2, sm2⟩ := hr2
  have hx2 := InvX_keep hx1 sm2
  refine wq_ic_eq 373 615 dL_law_370 rfl (by decide) (fun _ => ?_) (fun c => absurd rfl c)
  exact kk _ I2 M2 (t) hx2 hm2 (hv)
set_option maxRecDepth 20000 in
set_option maxHeartbeats 2000000 in
theorem lw_op11 {g : Gl} {b L : Nat} {xs : Nat → Int32} {nm : String} {u v i : Nat} {bb : Bool} {I : IM} {M : LM} {t : TS} (hL : L ≤ 1536) (hi : i + 3 ≤ L) (hu : u ≤ room_1.cells) (hvv : v ≤ room_1.slots) (h : InvX I M t) (hm : InvM I t) (hv : VT t) (kk : ∀ bb I M t, InvX I M t → InvM I t → VT t → Wp (KL g b L xs nm) (u, v, 103, Rl bb) 615 [some (.ref b), some (rf g 0), some (rf g 71), some (.int (nI i))] [] I M) : Wp (KL g b L xs nm) (u, v, 103, Rl bb) 375 [some (.ref b), some (rf g 0), some (rf g 71), some (.int (nI i))] [] I M := by
  refine wq_bload_n 376 1 dL_law_375 rfl rfl rfl ?_
  refine wq_aload_n 377 0 dL_law_376 rfl rfl rfl ?_
  refine wq_iload_n 378 3 dL_law_377 rfl rfl rfl ?_
  refine wq_iconst 379 1 dL_law_378 rfl (by decide) ?_
  refine wq_iadd 380 dL_law_379 rfl ?_
  rw [show nI i + (1 : Int32) = nI (i + 1) from nI_add i 1]
  refine wl_sld 381 (vp_in_nI (by omega) (by omega)) dL_law_380 rfl ?_
  rw [nI_clamp (show i + 1 < 2 ^ 31 by omega)]
  refine wq_callV 384 (As := [.int (xs (i + 1))]) (cx_spilled (D := 13) (by omega) h hv (xs (i + 1))) ml_L_60 mf_X7_spilled dL_law_381 rfl o_0 (by decide) rfl rfl (Nat.le_of_ble_eq_true rfl) (Nat.le_of_ble_eq_true rfl) (Nat.le_of_ble_eq_true rfl) (show u + 0 ≤ _ from hu) (show v + 0 ≤ _ from hvv) (fun r1 n1 R1 I1 M1 hr1 => ?_)
  obtain ⟨rfl, b1, rfl, rfl, hx1, sm1⟩ := hr1
  have hm1 := InvM_sm hm sm1
  refine wq_bload_n 385 2 dL_law_384 rfl rfl rfl ?_
  refine wq_aload_n 386 0 dL_law_385 rfl rfl rfl ?_
  refine wq_iload_n 387 3 dL_law_386 rfl rfl rfl ?_
  refine wq_iconst 388 1 dL_law_387 rfl (by decide) ?_
  refine wq_iadd 389 dL_law_388 rfl ?_
  rw [show nI i + (1 : Int32) = nI (i + 1) from nI_add i 1]
  refine wl_sld 390 (vp_in_nI (by omega) (by omega)) dL_law_389 rfl ?_
  rw [nI_clamp (show i + 1 < 2 ^ 31 by omega)]
  refine wq_callV 393 (As := [.int (xs (i + 1))]) (cm_spilled (D := 13) (by omega) hm1 hv (xs (i + 1))) ml_L_63 mf_X8_spilled dL_law_390 rfl o_71 (by decide) rfl rfl (Nat.le_of_ble_eq_true rfl) (Nat.le_of_ble_eq_true rfl) (Nat.le_of_ble_eq_true rfl) (show u + 0 + 0 ≤ _ from hu) (show v + 0 + 0 ≤ _ from hvv) (fun r2 n2 R2 I2 M2 hr2 => ?_)
  obtain ⟨rfl, b2, rfl, rfl, rfl, hm2, sm2⟩ := hr2
  have hx2 := InvX_keep hx1 sm2
  refine wq_ic_eq 396 615 dL_law_393 rfl (by decide) (fun _ => ?_) (fun c => absurd rfl c)
  exact kk _ I2 M2 (t) hx2 hm2 (hv)
set_option maxRecDepth 20000 in
set_option maxHeartbeats 2000000 in
theorem lw_op12 {g : Gl} {b L : Nat} {xs : Nat → Int32} {nm : String} {u v i : Nat} {bb : Bool} {I : IM} {M : LM} {t : TS} (hL : L ≤ 1536) (hi : i + 3 ≤ L) (hu : u ≤ room_1.cells) (hvv : v ≤ room_1.slots) (h : InvX I M t) (hm : InvM I t) (hv : VT t) (kk : ∀ bb I M t, InvX I M t → InvM I t → VT t → Wp (KL g b L xs nm) (u, v, 103, Rl bb) 615 [some (.ref b), some (rf g 0), some (rf g 71), some (.int (nI i))] [] I M) : Wp (KL g b L xs nm) (u, v, 103, Rl bb) 398 [some (.ref b), some (rf g 0), some (rf g 71), some (.int (nI i))] [] I M := by
  refine wq_bload_n 399 1 dL_law_398 rfl rfl rfl ?_
  refine wq_aload_n 400 0 dL_law_399 rfl rfl rfl ?_
  refine wq_iload_n 401 3 dL_law_400 rfl rfl rfl ?_
  refine wq_iconst 402 1 dL_law_401 rfl (by decide) ?_
  refine wq_iadd 403 dL_law_402 rfl ?_
  rw [show nI i + (1 : Int32) = nI (i + 1) from nI_add i 1]
  refine wl_sld 404 (vp_in_nI (by omega) (by omega)) dL_law_403 rfl ?_
  rw [nI_clamp (show i + 1 < 2 ^ 31 by omega)]
  refine wq_callV 407 (As := [.int (xs (i + 1))]) (cx_rounds (D := 13) (by omega) h hv (xs (i + 1))) ml_L_64 mf_X7_rounds dL_law_404 rfl o_0 (by decide) rfl rfl (Nat.le_of_ble_eq_true rfl) (Nat.le_of_ble_eq_true rfl) (Nat.le_of_ble_eq_true rfl) (show u + 0 ≤ _ from hu) (show v + 0 ≤ _ from hvv) (fun r1 n1 R1 I1 M1 hr1 => ?_)
  obtain ⟨rfl, b1, rfl, rfl, hx1, sm1⟩ := hr1
  have hm1 := InvM_sm hm sm1
  refine wq_bload_n 408 2 dL_law_407 rfl rfl rfl ?_
  refine wq_aload_n 409 0 dL_law_408 rfl rfl rfl ?_
  refine wq_iload_n 410 3 dL_law_409 rfl rfl rfl ?_
  refine wq_iconst 411 1 dL_law_410 rfl (by decide) ?_
  refine wq_iadd 412 dL_law_411 rfl ?_
  rw [show nI i + (1 : Int32) = nI (i + 1) from nI_add i 1]
  refine wl_sld 413 (vp_in_nI (by omega) (by omega)) dL_law_412 rfl ?_
  rw [nI_clamp (show i + 1 < 2 ^ 31 by omega)]
  refine wq_callV 416 (As := [.int (xs (i + 1))]) (cm_rounds (D := 13) (by omega) hm1 hv (xs (i + 1))) ml_L_67 mf_X8_rounds dL_law_413 rfl o_71 (by decide) rfl rfl (Nat.le_of_ble_eq_true rfl) (Nat.le_of_ble_eq_true rfl) (Nat.le_of_ble_eq_true rfl) (show u + 0 + 0 ≤ _ from hu) (show v + 0 + 0 ≤ _ from hvv) (fun r2 n2 R2 I2 M2 hr2 => ?_)
  obtain ⟨rfl, b2, rfl, rfl, rfl, hm2, sm2⟩ := hr2
  have hx2 := InvX_keep hx1 sm2
  refine wq_ic_eq 419 615 dL_law_416 rfl (by decide) (fun _ => ?_) (fun c => absurd rfl c)
  exact kk _ I2 M2 (t) hx2 hm2 (hv)
set_option maxRecDepth 20000 in
set_option maxHeartbeats 2000000 in
theorem lw_op13 {g : Gl} {b L : Nat} {xs : Nat → Int32} {nm : String} {u v i : Nat} {bb : Bool} {I : IM} {M : LM} {t : TS} (hL : L ≤ 1536) (hi : i + 3 ≤ L) (hu : u ≤ room_1.cells) (hvv : v ≤ room_1.slots) (h : InvX I M t) (hm : InvM I t) (hv : VT t) (kk : ∀ bb I M t, InvX I M t → InvM I t → VT t → Wp (KL g b L xs nm) (u, v, 103, Rl bb) 615 [some (.ref b), some (rf g 0), some (rf g 71), some (.int (nI i))] [] I M) : Wp (KL g b L xs nm) (u, v, 103, Rl bb) 421 [some (.ref b), some (rf g 0), some (rf g 71), some (.int (nI i))] [] I M := by
  refine wq_bload_n 422 1 dL_law_421 rfl rfl rfl ?_
  refine wq_aload_n 423 0 dL_law_422 rfl rfl rfl ?_
  refine wq_iload_n 424 3 dL_law_423 rfl rfl rfl ?_
  refine wq_iconst 425 1 dL_law_424 rfl (by decide) ?_
  refine wq_iadd 426 dL_law_425 rfl ?_
  rw [show nI i + (1 : Int32) = nI (i + 1) from nI_add i 1]
  refine wl_sld 427 (vp_in_nI (by omega) (by omega)) dL_law_426 rfl ?_
  rw [nI_clamp (show i + 1 < 2 ^ 31 by omega)]
  refine wq_callV 430 (As := [.int (xs (i + 1))]) (cx_colour (D := 13) (by omega) h hv (xs (i + 1))) ml_L_68 mf_X7_colour dL_law_427 rfl o_0 (by decide) rfl rfl (Nat.le_of_ble_eq_true rfl) (Nat.le_of_ble_eq_true rfl) (Nat.le_of_ble_eq_true rfl) (show u + 0 ≤ _ from hu) (show v + 0 ≤ _ from hvv) (fun r1 n1 R1 I1 M1 hr1 => ?_)
  obtain ⟨rfl, b1, rfl, rfl, hx1, sm1⟩ := hr1
  have hm1 := InvM_sm hm sm1
  refine wq_bload_n 431 2 dL_law_430 rfl rfl rfl ?_
  refine wq_aload_n 432 0 dL_law_431 rfl rfl rfl ?_
  refine wq_iload_n 433 3 dL_law_432 rfl rfl rfl ?_
  refine wq_iconst 434 1 dL_law_433 rfl (by decide) ?_
  refine wq_iadd 435 dL_law_434 rfl ?_
  rw [show nI i + (1 : Int32) = nI (i + 1) from nI_add i 1]
  refine wl_sld 436 (vp_in_nI (by omega) (by omega)) dL_law_435 rfl ?_
  rw [nI_clamp (show i + 1 < 2 ^ 31 by omega)]
  refine wq_callV 439 (As := [.int (xs (i + 1))]) (cm_colour (D := 13) (by omega) hm1 hv (xs (i + 1))) ml_L_71 mf_X8_colour dL_law_436 rfl o_71 (by decide) rfl rfl (Nat.le_of_ble_eq_true rfl) (Nat.le_of_ble_eq_true rfl) (Nat.le_of_ble_eq_true rfl) (show u + 0 + 0 ≤ _ from hu) (show v + 0 + 0 ≤ _ from hvv) (fun r2 n2 R2 I2 M2 hr2 => ?_)
  obtain ⟨rfl, b2, rfl, rfl, rfl, hm2, sm2⟩ := hr2
  have hx2 := InvX_keep hx1 sm2
  refine wq_ic_eq 442 615 dL_law_439 rfl (by decide) (fun _ => ?_) (fun c => absurd rfl c)
  exact kk _ I2 M2 (t) hx2 hm2 (hv)
set_option maxRecDepth 20000 in
set_option maxHeartbeats 2000000 in
theorem lw_op14 {g : Gl} {b L : Nat} {xs : Nat → Int32} {nm : String} {u v i : Nat} {bb : Bool} {I : IM} {M : LM} {t : TS} (hL : L ≤ 1536) (hi : i + 3 ≤ L) (hu : u ≤ room_1.cells) (hvv : v ≤ room_1.slots) (h : InvX I M t) (hm : InvM I t) (hv : VT t) (kk : ∀ bb I M t, InvX I M t → InvM I t → VT t → Wp (KL g b L xs nm) (u, v, 103, Rl bb) 615 [some (.ref b), some (rf g 0), some (rf g 71), some (.int (nI i))] [] I M) : Wp (KL g b L xs nm) (u, v, 103, Rl bb) 444 [some (.ref b), some (rf g 0), some (rf g 71), some (.int (nI i))] [] I M := by
  refine wq_bload_n 445 1 dL_law_444 rfl rfl rfl ?_
  refine wq_aload_n 446 0 dL_law_445 rfl rfl rfl ?_
  refine wq_iload_n 447 3 dL_law_446 rfl rfl rfl ?_
  refine wq_iconst 448 1 dL_law_447 rfl (by decide) ?_
  refine wq_iadd 449 dL_law_448 rfl ?_
  rw [show nI i + (1 : Int32) = nI (i + 1) from nI_add i 1]
  refine wl_sld 450 (vp_in_nI (by omega) (by omega)) dL_law_449 rfl ?_
  rw [nI_clamp (show i + 1 < 2 ^ 31 by omega)]
  refine wq_aload_n 451 0 dL_law_450 rfl rfl rfl ?_
  refine wq_iload_n 452 3 dL_law_451 rfl rfl rfl ?_
  refine wq_iconst 453 2 dL_law_452 rfl (by decide) ?_
  refine wq_iadd 454 dL_law_453 rfl ?_
  rw [show nI i + (2 : Int32) = nI (i + 2) from nI_add i 2]
  refine wl_sld 455 (vp_in_nI (by omega) (by omega)) dL_law_454 rfl ?_
  rw [nI_clamp (show i + 2 < 2 ^ 31 by omega)]
  refine wq_callV 458 (As := [.int (xs (i + 1)), .int (xs (i + 2))]) (cx_code (D := 13) (by omega) h hv (xs (i + 1)) (xs (i + 2))) ml_L_72 mf_X7_code dL_law_455 rfl o_0 (by decide) rfl rfl (Nat.le_of_ble_eq_true rfl) (Nat.le_of_ble_eq_true rfl) (Nat.le_of_ble_eq_true rfl) (show u + 0 ≤ _ from hu) (show v + 0 ≤ _ from hvv) (fun r1 n1 R1 I1 M1 hr1 => ?_)
  obtain ⟨rfl, b1, rfl, rfl, hx1, sm1⟩ := hr1
  have hm1 := InvM_sm hm sm1
  refine wq_bload_n 459 2 dL_law_458 rfl rfl rfl ?_
  refine wq_aload_n 460 0 dL_law_459 rfl rfl rfl ?_
  refine wq_iload_n 461 3 dL_law_460 rfl rfl rfl ?_
  refine wq_iconst 462 1 dL_law_461 rfl (by decide) ?_
  refine wq_iadd 463 dL_law_462 rfl ?_
  rw [show nI i + (1 : Int32) = nI (i + 1) from nI_add i 1]
  refine wl_sld 464 (vp_in_nI (by omega) (by omega)) dL_law_463 rfl ?_
  rw [nI_clamp (show i + 1 < 2 ^ 31 by omega)]
  refine wq_aload_n 465 0 dL_law_464 rfl rfl rfl ?_
  refine wq_iload_n 466 3 dL_law_465 rfl rfl rfl ?_
  refine wq_iconst 467 2 dL_law_466 rfl (by decide) ?_
  refine wq_iadd 468 dL_law_467 rfl ?_
  rw [show nI i + (2 : Int32) = nI (i + 2) from nI_add i 2]
  refine wl_sld 469 (vp_in_nI (by omega) (by omega)) dL_law_468 rfl ?_
  rw [nI_clamp (show i + 2 < 2 ^ 31 by omega)]
  refine wq_callV 472 (As := [.int (xs (i + 1)), .int (xs (i + 2))]) (cm_code (D := 13) (by omega) hm1 hv (xs (i + 1)) (xs (i + 2))) ml_L_75 mf_X8_code dL_law_469 rfl o_71 (by decide) rfl rfl (Nat.le_of_ble_eq_true rfl) (Nat.le_of_ble_eq_true rfl) (Nat.le_of_ble_eq_true rfl) (show u + 0 + 0 ≤ _ from hu) (show v + 0 + 0 ≤ _ from hvv) (fun r2 n2 R2 I2 M2 hr2 => ?_)
  obtain ⟨rfl, b2, rfl, rfl, rfl, hm2, sm2⟩ := hr2
  have hx2 := InvX_keep hx1 sm2
  refine wq_ic_eq 475 615 dL_law_472 rfl (by decide) (fun _ => ?_) (fun c => absurd rfl c)
  exact kk _ I2 M2 (t) hx2 hm2 (hv)
set_option maxRecDepth 20000 in
set_option maxHeartbeats 2000000 in
theorem lw_op15 {g : Gl} {b L : Nat} {xs : Nat → Int32} {nm : String} {u v i : Nat} {bb : Bool} {I : IM} {M : LM} {t : TS} (hL : L ≤ 1536) (hi : i + 3 ≤ L) (hu : u ≤ room_1.cells) (hvv : v ≤ room_1.slots) (h : InvX I M t) (hm : InvM I t) (hv : VT t) (kk : ∀ bb I M t, InvX I M t → InvM I t → VT t → Wp (KL g b L xs nm) (u, v, 103, Rl bb) 615 [some (.ref b), some (rf g 0), some (rf g 71), some (.int (nI i))] [] I M) : Wp (KL g b L xs nm) (u, v, 103, Rl bb) 477 [some (.ref b), some (rf g 0), some (rf g 71), some (.int (nI i))] [] I M := by
  refine wq_bload_n 478 1 dL_law_477 rfl rfl rfl ?_
  refine wq_aload_n 479 0 dL_law_478 rfl rfl rfl ?_
  refine wq_iload_n 480 3 dL_law_479 rfl rfl rfl ?_
  refine wq_iconst 481 1 dL_law_480 rfl (by decide) ?_
  refine wq_iadd 482 dL_law_481 rfl ?_
  rw [show nI i + (1 : Int32) = nI (i + 1) from nI_add i 1]
  refine wl_sld 483 (vp_in_nI (by omega) (by omega)) dL_law_482 rfl ?_
  rw [nI_clamp (show i + 1 < 2 ^ 31 by omega)]
  refine wq_callV 486 (As := [.int (xs (i + 1))]) (cx_run (D := 13) (by omega) h hv (xs (i + 1))) ml_L_76 mf_X7_run dL_law_483 rfl o_0 (by decide) rfl rfl (Nat.le_of_ble_eq_true rfl) (Nat.le_of_ble_eq_true rfl) (Nat.le_of_ble_eq_true rfl) (show u + 0 ≤ _ from hu) (show v + 0 ≤ _ from hvv) (fun r1 n1 R1 I1 M1 hr1 => ?_)
  obtain ⟨rfl, b1, rfl, rfl, hx1, sm1⟩ := hr1
  have hm1 := InvM_sm hm sm1
  refine wq_bload_n 487 2 dL_law_486 rfl rfl rfl ?_
  refine wq_aload_n 488 0 dL_law_487 rfl rfl rfl ?_
  refine wq_iload_n 489 3 dL_law_488 rfl rfl rfl ?_
  refine wq_iconst 490 1 dL_law_489 rfl (by decide) ?_
  refine wq_iadd 491 dL_law_490 rfl ?_
  rw [show nI i + (1 : Int32) = nI (i + 1) from nI_add i 1]
  refine wl_sld 492 (vp_in_nI (by omega) (by omega)) dL_law_491 rfl ?_
  rw [nI_clamp (show i + 1 < 2 ^ 31 by omega)]
  refine wq_callV 495 (As := [.int (xs (i + 1))]) (cm_run (D := 13) (by omega) hm1 hv (xs (i + 1))) ml_L_79 mf_X8_run dL_law_492 rfl o_71 (by decide) rfl rfl (Nat.le_of_ble_eq_true rfl) (Nat.le_of_ble_eq_true rfl) (Nat.le_of_ble_eq_true rfl) (show u + 0 + 0 ≤ _ from hu) (show v + 0 + 0 ≤ _ from hvv) (fun r2 n2 R2 I2 M2 hr2 => ?_)
  obtain ⟨rfl, b2, rfl, rfl, rfl, hm2, sm2⟩ := hr2
  have hx2 := InvX_keep hx1 sm2
  refine wq_ic_eq 498 615 dL_law_495 rfl (by decide) (fun _ => ?_) (fun c => absurd rfl c)
  exact kk _ I2 M2 (t) hx2 hm2 (hv)
set_option maxRecDepth 20000 in
set_option maxHeartbeats 2000000 in
theorem lw_op16 {g : Gl} {b L : Nat} {xs : Nat → Int32} {nm : String} {u v i : Nat} {bb : Bool} {I : IM} {M : LM} {t : TS} (hL : L ≤ 1536) (hi : i + 3 ≤ L) (hu : u ≤ room_1.cells) (hvv : v ≤ room_1.slots) (h : InvX I M t) (hm : InvM I t) (hv : VT t) (kk : ∀ bb I M t, InvX I M t → InvM I t → VT t → Wp (KL g b L xs nm) (u, v, 103, Rl bb) 615 [some (.ref b), some (rf g 0), some (rf g 71), some (.int (nI i))] [] I M) : Wp (KL g b L xs nm) (u, v, 103, Rl bb) 500 [some (.ref b), some (rf g 0), some (rf g 71), some (.int (nI i))] [] I M := by
  refine wq_bload_n 501 1 dL_law_500 rfl rfl rfl ?_
  refine wq_aload_n 502 0 dL_law_501 rfl rfl rfl ?_
  refine wq_iload_n 503 3 dL_law_502 rfl rfl rfl ?_
  refine wq_iconst 504 1 dL_law_503 rfl (by decide) ?_
  refine wq_iadd 505 dL_law_504 rfl ?_
  rw [show nI i + (1 : Int32) = nI (i + 1) from nI_add i 1]
  refine wl_sld 506 (vp_in_nI (by omega) (by omega)) dL_law_505 rfl ?_
  rw [nI_clamp (show i + 1 < 2 ^ 31 by omega)]
  refine wq_callV 509 (As := [.int (xs (i + 1))]) (cx_out (D := 13) (by omega) h hv (xs (i + 1))) ml_L_80 mf_X7_out dL_law_506 rfl o_0 (by decide) rfl rfl (Nat.le_of_ble_eq_true rfl) (Nat.le_of_ble_eq_true rfl) (Nat.le_of_ble_eq_true rfl) (show u + 0 ≤ _ from hu) (show v + 0 ≤ _ from hvv) (fun r1 n1 R1 I1 M1 hr1 => ?_)
  obtain ⟨rfl, b1, rfl, rfl, hx1, sm1⟩ := hr1
  have hm1 := InvM_sm hm sm1
  refine wq_bload_n 510 2 dL_law_509 rfl rfl rfl ?_
  refine wq_aload_n 511 0 dL_law_510 rfl rfl rfl ?_
  refine wq_iload_n 512 3 dL_law_511 rfl rfl rfl ?_
  refine wq_iconst 513 1 dL_law_512 rfl (by decide) ?_
  refine wq_iadd 514 dL_law_513 rfl ?_
  rw [show nI i + (1 : Int32) = nI (i + 1) from nI_add i 1]
  refine wl_sld 515 (vp_in_nI (by omega) (by omega)) dL_law_514 rfl ?_
  rw [nI_clamp (show i + 1 < 2 ^ 31 by omega)]
  refine wq_callV 518 (As := [.int (xs (i + 1))]) (cm_out (D := 13) (by omega) hm1 hv (xs (i + 1))) ml_L_83 mf_X8_out dL_law_515 rfl o_71 (by decide) rfl rfl (Nat.le_of_ble_eq_true rfl) (Nat.le_of_ble_eq_true rfl) (Nat.le_of_ble_eq_true rfl) (show u + 0 + 0 ≤ _ from hu) (show v + 0 + 0 ≤ _ from hvv) (fun r2 n2 R2 I2 M2 hr2 => ?_)
  obtain ⟨rfl, b2, rfl, rfl, rfl, hm2, sm2⟩ := hr2
  have hx2 := InvX_keep hx1 sm2
  refine wq_ic_eq 521 615 dL_law_518 rfl (by decide) (fun _ => ?_) (fun c => absurd rfl c)
  exact kk _ I2 M2 (t) hx2 hm2 (hv)
set_option maxRecDepth 20000 in
set_option maxHeartbeats 2000000 in
theorem lw_op17 {g : Gl} {b L : Nat} {xs : Nat → Int32} {nm : String} {u v i : Nat} {bb : Bool} {I : IM} {M : LM} {t : TS} (hL : L ≤ 1536) (hi : i + 3 ≤ L) (hu : u ≤ room_1.cells) (hvv : v ≤ room_1.slots) (h : InvX I M t) (hm : InvM I t) (hv : VT t) (kk : ∀ bb I M t, InvX I M t → InvM I t → VT t → Wp (KL g b L xs nm) (u, v, 103, Rl bb) 615 [some (.ref b), some (rf g 0), some (rf g 71), some (.int (nI i))] [] I M) : Wp (KL g b L xs nm) (u, v, 103, Rl bb) 523 [some (.ref b), some (rf g 0), some (rf g 71), some (.int (nI i))] [] I M := by
  refine wq_bload_n 524 1 dL_law_523 rfl rfl rfl ?_
  refine wq_aload_n 525 0 dL_law_524 rfl rfl rfl ?_
  refine wq_iload_n 526 3 dL_law_525 rfl rfl rfl ?_
  refine wq_iconst 527 1 dL_law_526 rfl (by decide) ?_
  refine wq_iadd 528 dL_law_527 rfl ?_
  rw [show nI i + (1 : Int32) = nI (i + 1) from nI_add i 1]
  refine wl_sld 529 (vp_in_nI (by omega) (by omega)) dL_law_528 rfl ?_
  rw [nI_clamp (show i + 1 < 2 ^ 31 by omega)]
  refine wq_callV 532 (As := [.int (xs (i + 1))]) (cx_spent (D := 13) (by omega) h hv (xs (i + 1))) ml_L_84 mf_X7_spent dL_law_529 rfl o_0 (by decide) rfl rfl (Nat.le_of_ble_eq_true rfl) (Nat.le_of_ble_eq_true rfl) (Nat.le_of_ble_eq_true rfl) (show u + 0 ≤ _ from hu) (show v + 0 ≤ _ from hvv) (fun r1 n1 R1 I1 M1 hr1 => ?_)
  obtain ⟨rfl, b1, rfl, rfl, hx1, sm1⟩ := hr1
  have hm1 := InvM_sm hm sm1
  refine wq_bload_n 533 2 dL_law_532 rfl rfl rfl ?_
  refine wq_aload_n 534 0 dL_law_533 rfl rfl rfl ?_
  refine wq_iload_n 535 3 dL_law_534 rfl rfl rfl ?_
  refine wq_iconst 536 1 dL_law_535 rfl (by decide) ?_
  refine wq_iadd 537 dL_law_536 rfl ?_
  rw [show nI i + (1 : Int32) = nI (i + 1) from nI_add i 1]
  refine wl_sld 538 (vp_in_nI (by omega) (by omega)) dL_law_537 rfl ?_
  rw [nI_clamp (show i + 1 < 2 ^ 31 by omega)]
  refine wq_callV 541 (As := [.int (xs (i + 1))]) (cm_spent (D := 13) (by omega) hm1 hv (xs (i + 1))) ml_L_87 mf_X8_spent dL_law_538 rfl o_71 (by decide) rfl rfl (Nat.le_of_ble_eq_true rfl) (Nat.le_of_ble_eq_true rfl) (Nat.le_of_ble_eq_true rfl) (show u + 0 + 0 ≤ _ from hu) (show v + 0 + 0 ≤ _ from hvv) (fun r2 n2 R2 I2 M2 hr2 => ?_)
  obtain ⟨rfl, b2, rfl, rfl, rfl, hm2, sm2⟩ := hr2
  have hx2 := InvX_keep hx1 sm2
  refine wq_ic_eq 544 615 dL_law_541 rfl (by decide) (fun _ => ?_) (fun c => absurd rfl c)
  exact kk _ I2 M2 (t) hx2 hm2 (hv)
set_option maxRecDepth 20000 in
set_option maxHeartbeats 2000000 in
theorem lw_op18 {g : Gl} {b L : Nat} {xs : Nat → Int32} {nm : String} {u v i : Nat} {bb : Bool} {I : IM} {M : LM} {t : TS} (hL : L ≤ 1536) (hi : i + 3 ≤ L) (hu : u ≤ room_1.cells) (hvv : v ≤ room_1.slots) (h : InvX I M t) (hm : InvM I t) (hv : VT t) (kk : ∀ bb I M t, InvX I M t → InvM I t → VT t → Wp (KL g b L xs nm) (u, v, 103, Rl bb) 615 [some (.ref b), some (rf g 0), some (rf g 71), some (.int (nI i))] [] I M) : Wp (KL g b L xs nm) (u, v, 103, Rl bb) 546 [some (.ref b), some (rf g 0), some (rf g 71), some (.int (nI i))] [] I M := by
  refine wq_bload_n 547 1 dL_law_546 rfl rfl rfl ?_
  refine wq_aload_n 548 0 dL_law_547 rfl rfl rfl ?_
  refine wq_iload_n 549 3 dL_law_548 rfl rfl rfl ?_
  refine wq_iconst 550 1 dL_law_549 rfl (by decide) ?_
  refine wq_iadd 551 dL_law_550 rfl ?_
  rw [show nI i + (1 : Int32) = nI (i + 1) from nI_add i 1]
  refine wl_sld 552 (vp_in_nI (by omega) (by omega)) dL_law_551 rfl ?_
  rw [nI_clamp (show i + 1 < 2 ^ 31 by omega)]
  refine wq_callV 555 (As := [.int (xs (i + 1))]) (cx_image (D := 13) (by omega) h (xs (i + 1))) ml_L_88 mf_X7_image dL_law_552 rfl o_0 (by decide) rfl rfl (Nat.le_of_ble_eq_true rfl) (Nat.le_of_ble_eq_true rfl) (Nat.le_of_ble_eq_true rfl) (show u + 0 ≤ _ from hu) (show v + 0 ≤ _ from hvv) (fun r1 n1 R1 I1 M1 hr1 => ?_)
  obtain ⟨rfl, b1, rfl, rfl, hx1, sm1⟩ := hr1
  have hm1 := InvM_sm hm sm1
  refine wq_bload_n 556 2 dL_law_555 rfl rfl rfl ?_
  refine wq_aload_n 557 0 dL_law_556 rfl rfl rfl ?_
  refine wq_iload_n 558 3 dL_law_557 rfl rfl rfl ?_
  refine wq_iconst 559 1 dL_law_558 rfl (by decide) ?_
  refine wq_iadd 560 dL_law_559 rfl ?_
  rw [show nI i + (1 : Int32) = nI (i + 1) from nI_add i 1]
  refine wl_sld 561 (vp_in_nI (by omega) (by omega)) dL_law_560 rfl ?_
  rw [nI_clamp (show i + 1 < 2 ^ 31 by omega)]
  refine wq_callV 564 (As := [.int (xs (i + 1))]) (cm_image (D := 13) (by omega) hm1 hv (xs (i + 1))) ml_L_91 mf_X8_image dL_law_561 rfl o_71 (by decide) rfl rfl (Nat.le_of_ble_eq_true rfl) (Nat.le_of_ble_eq_true rfl) (Nat.le_of_ble_eq_true rfl) (show u + 0 + 0 ≤ _ from hu) (show v + 0 + 0 ≤ _ from hvv) (fun r2 n2 R2 I2 M2 hr2 => ?_)
  obtain ⟨rfl, b2, rfl, rfl, rfl, hm2, sm2⟩ := hr2
  have hx2 := InvX_keep hx1 sm2
  refine wq_ic_eq 567 615 dL_law_564 rfl (by decide) (fun _ => ?_) (fun c => absurd rfl c)
  exact kk _ I2 M2 (nxImage t (xs (i + 1))) hx2 hm2 (VT_image hv _)
set_option maxRecDepth 20000 in
set_option maxHeartbeats 2000000 in
theorem lw_op19 {g : Gl} {b L : Nat} {xs : Nat → Int32} {nm : String} {u v i : Nat} {bb : Bool} {I : IM} {M : LM} {t : TS} (hL : L ≤ 1536) (hi : i + 3 ≤ L) (hu : u ≤ room_1.cells) (hvv : v ≤ room_1.slots) (h : InvX I M t) (hm : InvM I t) (hv : VT t) (kk : ∀ bb I M t, InvX I M t → InvM I t → VT t → Wp (KL g b L xs nm) (u, v, 103, Rl bb) 615 [some (.ref b), some (rf g 0), some (rf g 71), some (.int (nI i))] [] I M) : Wp (KL g b L xs nm) (u, v, 103, Rl bb) 569 [some (.ref b), some (rf g 0), some (rf g 71), some (.int (nI i))] [] I M := by
  refine wq_bload_n 570 1 dL_law_569 rfl rfl rfl ?_
  refine wq_aload_n 571 0 dL_law_570 rfl rfl rfl ?_
  refine wq_iload_n 572 3 dL_law_571 rfl rfl rfl ?_
  refine wq_iconst 573 1 dL_law_572 rfl (by decide) ?_
  refine wq_iadd 574 dL_law_573 rfl ?_
  rw [show nI i + (1 : Int32) = nI (i + 1) from nI_add i 1]
  refine wl_sld 575 (vp_in_nI (by omega) (by omega)) dL_law_574 rfl ?_
  rw [nI_clamp (show i + 1 < 2 ^ 31 by omega)]
  refine wq_callV 578 (As := [.int (xs (i + 1))]) (cx_restore (D := 13) (by omega) h (xs (i + 1))) ml_L_92 mf_X7_restore dL_law_575 rfl o_0 (by decide) rfl rfl (Nat.le_of_ble_eq_true rfl) (Nat.le_of_ble_eq_true rfl) (Nat.le_of_ble_eq_true rfl) (show u + 0 ≤ _ from hu) (show v + 0 ≤ _ from hvv) (fun r1 n1 R1 I1 M1 hr1 => ?_)
  obtain ⟨rfl, b1, rfl, rfl, hx1, sm1⟩ := hr1
  have hm1 := InvM_sm hm sm1
  refine wq_bload_n 579 2 dL_law_578 rfl rfl rfl ?_
  refine wq_aload_n 580 0 dL_law_579 rfl rfl rfl ?_
  refine wq_iload_n 581 3 dL_law_580 rfl rfl rfl ?_
  refine wq_iconst 582 1 dL_law_581 rfl (by decide) ?_
  refine wq_iadd 583 dL_law_582 rfl ?_
  rw [show nI i + (1 : Int32) = nI (i + 1) from nI_add i 1]
  refine wl_sld 584 (vp_in_nI (by omega) (by omega)) dL_law_583 rfl ?_
  rw [nI_clamp (show i + 1 < 2 ^ 31 by omega)]
  refine wq_callV 587 (As := [.int (xs (i + 1))]) (cm_restore (D := 13) (by omega) hm1 hv (xs (i + 1))) ml_L_95 mf_X8_restore dL_law_584 rfl o_71 (by decide) rfl rfl (Nat.le_of_ble_eq_true rfl) (Nat.le_of_ble_eq_true rfl) (Nat.le_of_ble_eq_true rfl) (show u + 0 + 0 ≤ _ from hu) (show v + 0 + 0 ≤ _ from hvv) (fun r2 n2 R2 I2 M2 hr2 => ?_)
  obtain ⟨rfl, b2, rfl, rfl, rfl, hm2, sm2⟩ := hr2
  have hx2 := InvX_keep hx1 sm2
  refine wq_ic_eq 590 615 dL_law_587 rfl (by decide) (fun _ => ?_) (fun c => absurd rfl c)
  exact kk _ I2 M2 (nxRestore t (xs (i + 1))) hx2 hm2 (VT_restore hv _)
set_option maxRecDepth 20000 in
set_option maxHeartbeats 2000000 in
theorem lw_op20 {g : Gl} {b L : Nat} {xs : Nat → Int32} {nm : String} {u v i : Nat} {bb : Bool} {I : IM} {M : LM} {t : TS} (hL : L ≤ 1536) (hi : i + 3 ≤ L) (hu : u ≤ room_1.cells) (hvv : v ≤ room_1.slots) (h : InvX I M t) (hm : InvM I t) (hv : VT t) (kk : ∀ bb I M t, InvX I M t → InvM I t → VT t → Wp (KL g b L xs nm) (u, v, 103, Rl bb) 615 [some (.ref b), some (rf g 0), some (rf g 71), some (.int (nI i))] [] I M) : Wp (KL g b L xs nm) (u, v, 103, Rl bb) 592 [some (.ref b), some (rf g 0), some (rf g 71), some (.int (nI i))] [] I M := by
  refine wq_bload_n 593 1 dL_law_592 rfl rfl rfl ?_
  refine wq_aload_n 594 0 dL_law_593 rfl rfl rfl ?_
  refine wq_iload_n 595 3 dL_law_594 rfl rfl rfl ?_
  refine wq_iconst 596 1 dL_law_595 rfl (by decide) ?_
  refine wq_iadd 597 dL_law_596 rfl ?_
  rw [show nI i + (1 : Int32) = nI (i + 1) from nI_add i 1]
  refine wl_sld 598 (vp_in_nI (by omega) (by omega)) dL_law_597 rfl ?_
  rw [nI_clamp (show i + 1 < 2 ^ 31 by omega)]
  refine wq_callV 601 (As := [.int (xs (i + 1))]) (cx_told (D := 13) h (xs (i + 1))) ml_L_96 mf_X7_told dL_law_598 rfl o_0 (by decide) rfl rfl (Nat.le_of_ble_eq_true rfl) (Nat.le_of_ble_eq_true rfl) (Nat.le_of_ble_eq_true rfl) (show u + 0 ≤ _ from hu) (show v + 0 ≤ _ from hvv) (fun r1 n1 R1 I1 M1 hr1 => ?_)
  obtain ⟨rfl, b1, rfl, rfl, hx1, sm1⟩ := hr1
  have hm1 := InvM_sm hm sm1
  refine wq_bload_n 602 2 dL_law_601 rfl rfl rfl ?_
  refine wq_aload_n 603 0 dL_law_602 rfl rfl rfl ?_
  refine wq_iload_n 604 3 dL_law_603 rfl rfl rfl ?_
  refine wq_iconst 605 1 dL_law_604 rfl (by decide) ?_
  refine wq_iadd 606 dL_law_605 rfl ?_
  rw [show nI i + (1 : Int32) = nI (i + 1) from nI_add i 1]
  refine wl_sld 607 (vp_in_nI (by omega) (by omega)) dL_law_606 rfl ?_
  rw [nI_clamp (show i + 1 < 2 ^ 31 by omega)]
  refine wq_callV 610 (As := [.int (xs (i + 1))]) (cm_told (D := 13) (by omega) hm1 hv (xs (i + 1))) ml_L_99 mf_X8_told dL_law_607 rfl o_71 (by decide) rfl rfl (Nat.le_of_ble_eq_true rfl) (Nat.le_of_ble_eq_true rfl) (Nat.le_of_ble_eq_true rfl) (show u + 0 + 0 ≤ _ from hu) (show v + 0 + 0 ≤ _ from hvv) (fun r2 n2 R2 I2 M2 hr2 => ?_)
  obtain ⟨rfl, b2, rfl, rfl, rfl, hm2, sm2⟩ := hr2
  have hx2 := InvX_keep hx1 sm2
  refine wq_ic_eq 613 615 dL_law_610 rfl (by decide) (fun _ => ?_) (fun c => absurd rfl c)
  exact kk _ I2 M2 (t) hx2 hm2 (hv)
