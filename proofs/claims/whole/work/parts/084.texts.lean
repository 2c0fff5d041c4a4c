/-! THE TWO TEXTS: cells that stood before the law began -/
section Texts
variable {K : Kx} {T : Tx} {pc : Nat} {lv : List (Option Value)} {st : List Value} {I : IM} {L : LM} {D mc ms : Nat} {Z : Mt} {post : Pt5}
theorem old_at {g : Gl} {n : Nat} {R : RM} {H : Heap} (hP : HP g n R I L H) {q : Nat} (hq : ¬ gB g ≤ q) : H[q]? = g.2.1[q]? := hP.2.1 q (by omega)
theorem wq_ldcS (q i : Nat) (hi : i < 2) (hown : K.2.2.1.1.cls = sOwn i) (hd : decode K.2.2.1.2.1 pc = .ok (.ldc (sIdx i), 2)) (hq : pc + 2 = q) (kk : Wp K T q lv (.ref (gK K.1 i) :: st) I L) : Wp K T pc lv st I L := by
  subst hq
  intro p e s m args below meth c H locs ls C hP hF hl
  have ho := C.2.2.2.1
  rw [hown] at ho
  exact va_ldcS C.1 C.2.1 ho (C.2.2.2.2.2.1.2.2.1 i hi) hd (kk p e s m args below meth c H locs ls C hP hF hl)
theorem of_get {p : Program} {e : Env} {s : State} {m : MethodId} {args : Array Value} {below : List Frame} {meth : Method} {c : Code} {H : Heap} {locs : List Loc} {u v : Nat} {Q : State → Prop} {ls : Array Slot} {nm dd : String} {x : Value} {t idx : Nat} {n : Nat} {R : RM} (C : Cx K p s m args meth c) (hP : HP K.1 n R I L H) (hE : va_OF "java/lang/String" nm dd x t (fun q => gB K.1 ≤ q) s K.1.2.1) (hl : Cond.fieldLink K.2.2.1.1.cls idx "java/lang/String" nm dd ∈ gw) (hd : decode K.2.2.1.2.1 pc = .ok (.getfield idx, 3))
    (kk : W p K.1.1 e K.2.1 s m args below meth c H locs u v Q (F0 m (pc + 3) ls (x :: st))) : W p K.1.1 e K.2.1 s m args below meth c H locs u v Q (F0 m pc ls (.ref t :: st)) := by
  obtain ⟨cf, k, fi, f, cell, h1, h2, h3, h4, h5, h6⟩ := hE
  exact W.getf C.1 C.2.1 C.2.2.2.1 (C.2.2.2.2.1 _ hl) h1 h2 (by rw [old_at hP h6]; exact h3) h4 (v := x) h5 rfl rfl hd kk
theorem wq_sval (q i : Nat) {idx : Nat} (hi : i < 2) (hl : Cond.fieldLink K.2.2.1.1.cls idx "java/lang/String" "value" "[B" ∈ gw) (hd : decode K.2.2.1.2.1 pc = .ok (.getfield idx, 3)) (hq : pc + 3 = q) (kk : Wp K T q lv (.ref (gV K.1 i) :: st) I L) : Wp K T pc lv (.ref (gK K.1 i) :: st) I L := by
  subst hq
  intro p e s m args below meth c H locs ls C hP hF hlv
  exact of_get C hP (C.2.2.2.2.2.1.2.2.2.1.1 i hi).2.2.1 hl hd (kk p e s m args below meth c H locs ls C hP hF hlv)
theorem wq_scod (q i : Nat) {idx : Nat} (hi : i < 2) (hl : Cond.fieldLink K.2.2.1.1.cls idx "java/lang/String" "coder" "B" ∈ gw) (hd : decode K.2.2.1.2.1 pc = .ok (.getfield idx, 3)) (hq : pc + 3 = q) (kk : Wp K T q lv (.int 0 :: st) I L) : Wp K T pc lv (.ref (gK K.1 i) :: st) I L := by
  subst hq
  intro p e s m args below meth c H locs ls C hP hF hlv
  exact of_get C hP (C.2.2.2.2.2.1.2.2.2.1.1 i hi).2.1 hl hd (kk p e s m args below meth c H locs ls C hP hF hlv)
theorem wq_compact (q : Nat) {idx : Nat} (hl : Cond.fieldLink K.2.2.1.1.cls idx "java/lang/String" "COMPACT_STRINGS" "Z" ∈ gw) (hd : decode K.2.2.1.2.1 pc = .ok (.getstatic idx, 3)) (hq : pc + 3 = q) (kk : Wp K T q lv (.int 1 :: st) I L) : Wp K T pc lv st I L := by
  subst hq
  intro p e s m args below meth c H locs ls C hP hF hlv
  obtain ⟨cf, kf, fi, f, a, cell, h1, h2, h3, h4, h5, h6, h7, h8⟩ := C.2.2.2.2.2.1.2.2.2.2.1
  exact W.gets C.1 C.2.1 C.2.2.2.1 (C.2.2.2.2.1 _ hl) h1 h2 h3 h4 (by rw [old_at hP h8]; exact h5) (fun e => by rw [e] at h6; cases h6) h7 rfl hd (kk p e s m args below meth c H locs ls C hP hF hlv)
theorem wq_sioobe (q : Nat) {idx : Nat} (hl : Cond.fieldLink K.2.2.1.1.cls idx "jdk/internal/util/Preconditions" "SIOOBE_FORMATTER" "Ljava/util/function/BiFunction;" ∈ gw) (hd : decode K.2.2.1.2.1 pc = .ok (.getstatic idx, 3)) (hq : pc + 3 = q) (kk : ∀ w : Value, w.category = 1 → Wp K T q lv (w :: st) I L) : Wp K T pc lv st I L := by
  subst hq
  intro p e s m args below meth c H locs ls C hP hF hlv
  have key : ∀ w : Value, w.category = 1 → va_Z "jdk/internal/util/Preconditions" "SIOOBE_FORMATTER" "Ljava/util/function/BiFunction;" w (fun q => gB K.1 ≤ q) s K.1.2.1 → W p K.1.1 e K.2.1 s m args below meth c H locs T.1 T.2.1 (K.2.2.2 below args s) (F0 m pc ls st) := by
    intro w hw hz
    obtain ⟨cf, kf, fi, f, a, cell, h1, h2, h3, h4, h5, h6, h7, h8⟩ := hz
    exact W.gets C.1 C.2.1 C.2.2.2.1 (C.2.2.2.2.1 _ hl) h1 h2 h3 h4 (by rw [old_at hP h8]; exact h5) (fun e => by rw [e] at h6; cases h6) h7 rfl hd (kk w hw p e s m args below meth c H locs ls C hP hF hlv)
  rcases C.2.2.2.2.2.1.2.2.2.2.2.1 with h | ⟨t, h⟩
  · exact key _ rfl h
  · exact key _ rfl h
theorem wq_sbald (q i : Nat) {j : Nat} {x : Int32} (hi : i < 2) (hd : decode K.2.2.1.2.1 pc = .ok (.baload, 1)) (hq : pc + 1 = q) (hx : Ix x j (sLen.getD i 0)) (kk : Wp K T q lv (.int ((sByt.getD i []).getD j 0) :: st) I L) : Wp K T pc lv (.int x :: .ref (gV K.1 i) :: st) I L := by
  subst hq
  intro p e s m args below meth c H locs ls C hP hF hlv
  obtain ⟨cell, h1, h2, h3, h4, h5, h6, h7⟩ := (C.2.2.2.2.2.1.2.2.2.1.1 i hi).2.2.2
  have hlt : x.toNatClampNeg < sLen.getD i 0 := Nat.not_le.mp fun q => hx.1 (Or.inr q)
  have hin' : ¬ (x < 0 ∨ cell.slots.size ≤ x.toNatClampNeg) := by
    intro q
    rcases q with q | q
    · exact hx.1 (Or.inl q)
    · omega
  have hv := h6 _ hlt
  rw [hx.2] at hv
  exact W.bald (v := .int ((sByt.getD i []).getD j 0)) C.1 C.2.1 (by rw [old_at hP h7]; exact h1) h2 h3 hin' (by rw [hx.2]; exact hv) rfl rfl hd (kk p e s m args below meth c H locs ls C hP hF hlv)
theorem wq_salen (q i : Nat) (hi : i < 2) (hd : decode K.2.2.1.2.1 pc = .ok (.arraylength, 1)) (hq : pc + 1 = q) (kk : Wp K T q lv (.int (nI (sLen.getD i 0)) :: st) I L) : Wp K T pc lv (.ref (gV K.1 i) :: st) I L := by
  subst hq
  intro p e s m args below meth c H locs ls C hP hF hlv
  obtain ⟨cell, h1, h2, h3, h4, h5, h6, h7⟩ := (C.2.2.2.2.2.1.2.2.2.1.1 i hi).2.2.2
  exact W.alen (n := nI (sLen.getD i 0)) C.1 C.2.1 (by rw [old_at hP h7]; exact h1) h2 h5 rfl rfl hd (kk p e s m args below meth c H locs ls C hP hF hlv)
/-- a call on a text -/
theorem wq_callT (q i : Nat) {idx np : Nat} {As : List Value} (hi : i < 2) (hM : Mp K.1 D mc ms Z (.ref (gK K.1 i) :: As) T.2.2.1 T.2.2.2 I L post) (hl : Cond.methodLink K.2.2.1.1.cls idx Z.1 ∈ gw) (hz : MfV Z np) (hd : decode K.2.2.1.2.1 pc = .ok (.invokevirtual idx, 3)) (hq : pc + 3 = q) (hcl : Z.1.cls = "java/lang/String") (hn : As.length = np) (hst : (st.map fun v => v.category).sum ≤ 8) (hfr : D + 1 ≤ K.2.1.frames) (hlo : 38 * D + 38 ≤ K.2.1.locals) (hc : T.1 + mc ≤ K.2.1.cells) (hs : T.2.1 + ms ≤ K.2.1.slots)
    (kk : ∀ r n' R' I' L', post r n' R' I' L' → Wp K (T.1 + mc, T.2.1 + ms, n', R') q lv (r.toList ++ st) I' L') : Wp K T pc lv (As.reverse ++ .ref (gK K.1 i) :: st) I L := by
  intro p e s m args below meth c H locs ls C hP hF hlv
  have hts := C.2.2.2.2.1
  have hlen := hz.1.len
  have hloc : 8 + (Z.2.2.1 + 11) + (rm D mc ms).locals ≤ K.2.1.locals := by have := hz.1.2.2.2.2; show 8 + (Z.2.2.1 + 11) + 38 * D ≤ _; omega
  obtain ⟨cell, g1, g2, g3, g4⟩ := (C.2.2.2.2.2.1.2.2.2.1.1 i hi).1
  have hrc : ∃ cellB : Cell, H[gK K.1 i]? = some cellB ∧ cellB.vm.isStatics = false ∧ s.vm.findClass Z.1.cls = some cellB.cls := ⟨cell, by rw [old_at hP g4]; exact g1, g2, by rw [hcl]; exact g3⟩
  have hPre : PreV s H Z.1.cls (gK K.1 i) (va_Pc (.ref (gK K.1 i) :: As) (fun U => HP K.1 T.2.2.1 T.2.2.2 I L U.heap ∧ KW K.1 U)) As := ⟨pc_blind, hrc, fun U hU hW => ⟨rfl, by rw [hU]; exact hP, KW.warm hW C.2.2.2.2.2.1⟩⟩
  refine call_end (post := post) (mc := mc) (ms := ms) hq C hF hlv (a := (.ref (gK K.1 i) :: As).toArray) ?_ kk
  exact va_runV ⟨C.1, C.2.1, C.2.2.1, C.2.2.2.1, hts⟩ hM ⟨⟨rfl, rfl, hfr, hloc, gw_in hz.1 hts, List.mem_cons_self, hts _ hz.1.1, hts _ hz.1.2.1, hz.1.2.2.1, hlen, hts _ hl⟩, hts _ hz.2.1, hts _ hz.2.2⟩ hPre rfl hn hlv.1 rfl (by simpa using hst) hd ⟨hc, hs⟩
end Texts
