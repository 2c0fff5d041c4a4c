/-! CONTRACTS AND CALLS of the flat memory -/
def rm (D mc ms : Nat) : Room := { frames := D, cells := mc, slots := ms, locals := 38 * D }
abbrev Pt5 : Type := Option Value → Nat → RM → IM → LM → Prop
def Qp (g : Gl) (post : Pt5) : Array Value → State → Outcome → State → Prop := fun _ _ oc t => ∃ (r : Option Value) (n : Nat) (R : RM) (I : IM) (L : LM), oc = .returned r ∧ post r n R I L ∧ HP g n R I L t.heap
abbrev wsOf (Y : Mt) : List Cond := Cond.code Y.1 Y.2.1 Y.2.2.1 Y.2.2.2 :: gw
/-- method Y, at height D, with room for mc cells of ms slots: from this memory, with these arguments, it returns, and post holds -/
def Mp (g : Gl) (D mc ms : Nat) (Y : Mt) (av : List Value) (n : Nat) (R : RM) (I : IM) (L : LM) (post : Pt5) : Prop :=
  Met g.1 Y.1 (wsOf Y) (rm D mc ms) (va_Pc av (fun U => HP g n R I L U.heap ∧ KW g U)) (Qp g post) mc ms (fun q => gB g ≤ q)
/-- the method's own context -/
abbrev Km (g : Gl) (D mc ms : Nat) (Y : Mt) (post : Pt5) : Kx := (g, rm D mc ms, Y, fun below args s => MQ below (Qp g post) args s mc ms (fun q => gB g ≤ q))
def ena : List Value → List (Option Value)
  | [] => []
  | v :: t => if v.category = 2 then some v :: none :: ena t else some v :: ena t
theorem ena_args : ∀ (vs : List Value) (i : Nat) (pad : List (Option Value)), (∀ x ∈ pad, x = none) → ∀ q ∈ en i (ena vs ++ pad), q ∈ lv_args i vs
  | [], i, pad, hp, q, hq => by
    obtain ⟨j, -, h2⟩ := (mem_en _ _ _).mp hq
    have := hp _ (List.mem_of_getElem? (by simpa [ena] using h2))
    cases this
  | v :: t, i, pad, hp, q, hq => by
    by_cases hc : v.category = 2
    · rw [ena, if_pos hc, List.cons_append, List.cons_append, en, en] at hq
      rw [lv_args, if_pos hc]
      rcases List.mem_cons.mp hq with h | h
      · exact List.mem_cons.mpr (Or.inl h)
      · exact List.mem_cons.mpr (Or.inr (ena_args t (i + 2) pad hp q h))
    · rw [ena, if_neg hc, List.cons_append, en] at hq
      rw [lv_args, if_neg hc]
      rcases List.mem_cons.mp hq with h | h
      · exact List.mem_cons.mpr (Or.inl h)
      · exact List.mem_cons.mpr (Or.inr (ena_args t (i + 1) pad hp q h))
/-- the contract out of a walk of the body -/
theorem Mp.of {g : Gl} {D mc ms : Nat} {Y : Mt} {av : List Value} {n : Nat} {R : RM} {I : IM} {L : LM} {post : Pt5} (k : Nat) (hy : plainFor Y.1 = true) (hk : (lg_sl av).length ≤ Y.2.2.1)
    (h : Wp (Km g D mc ms Y post) (0, 0, n, R) 0 (ena av ++ List.replicate k none) [] I L) : Mp g D mc ms Y av n R I L post := by
  have body : ∀ p e s m args below meth c s₁, BodyLoose p g.1 Y.1 (headSpec (wsOf Y) (rm D mc ms)) Y.2.1 Y.2.2.1 Y.2.2.2 e s m args below meth c s₁ → c.maxLocals = Y.2.2.1 → va_Pc av (fun U => HP g n R I L U.heap ∧ KW g U) args s →
      W p g.1 e (headSpec (wsOf Y) (rm D mc ms)).room s m args below meth c s.heap [] 0 0 (MQ below (Qp g post) args s mc ms (fun q => gB g ≤ q)) (entryFrame m args Y.2.2.1) := by
    intro p e s m args below meth c s₁ B hml hv
    obtain ⟨rfl, hP, hK⟩ := hv
    have hts := atoms_spec (ws := wsOf Y) B.pre
    have hl := lv_entry av (n := Y.2.2.1) hk
    rw [lg_entry_eq]
    refine h p e s m _ below meth c s.heap [] _ ⟨B.exec, B.bytes, hml, findClass_of_methodNamed B.named, fun w hw => hts w (List.mem_cons_of_mem _ hw), hK, B.returns, B.notSynchronized, (name_of_methodNamed B.named B.method).1⟩ hP (fun q hq => by cases hq) ?_
    exact ⟨hl.1, hl.2.1, fun q hq => hl.2.2 q (ena_args av 0 _ (fun x hx => (List.mem_replicate.mp hx).2) q hq)⟩
  unfold Mp Met
  refine MetFree.of_bodySF (code := Y.2.1) (maxLocals := Y.2.2.1) (ret := Y.2.2.2) hy ?_ ?_
  · intro args s m h hn
    obtain ⟨meth, c, h1, h2, h3, h4, h5, h6, -, -⟩ := Cond.code_spec hn (atoms_spec (ws := wsOf Y) h _ List.mem_cons_self)
    exact ⟨meth, c, h1, h2, h3, h4, h5, h6⟩
  · intro p e s m args below meth c s₁ B hml hP _
    have hh0 : s₁.heap = s.heap := by rw [B.state]; rfl
    obtain ⟨t, a1, o, b1, b2, b3⟩ := body p e s m args below meth c s₁ B hml hP s₁ hh0 (Stand.of_body B)
    exact ⟨t, o, a1, b1, b2, ⟨b3.1, b3.2⟩⟩
theorem Mp.mono {g : Gl} {D mc ms : Nat} {Y : Mt} {av : List Value} {n : Nat} {R : RM} {I : IM} {L : LM} {post post' : Pt5} (h : Mp g D mc ms Y av n R I L post) (hp : ∀ r n' R' I' L', post r n' R' I' L' → post' r n' R' I' L') : Mp g D mc ms Y av n R I L post' := by
  intro p e ha hc hk s m args below hf hpre hP hK
  obtain ⟨k, o, h1, h2, h3, ⟨r, n', R', I', L', q1, q2, q3⟩, h5⟩ := h p e ha hc hk s m args below hf hpre hP hK
  exact ⟨k, o, h1, h2, h3, ⟨r, n', R', I', L', q1, hp _ _ _ _ _ q2, q3⟩, h5⟩
section Ends
variable {g : Gl} {D mc ms : Nat} {Y : Mt} {post : Pt5} {pc : Nat} {lv : List (Option Value)} {u v n : Nat} {R : RM} {I : IM} {L : LM}
theorem wq_iret {x : Int32} (ty : FieldType) (hd : decode Y.2.1 pc = .ok (.ireturn, 1)) (hr : Y.2.2.2 = some ty) (hn : narrow ty (.int x) = .int x) (hu : u ≤ mc) (hv : v ≤ ms) (h : post (some (.int x)) n R I L) : Wp (Km g D mc ms Y post) (u, v, n, R) pc lv [.int x] I L := by
  intro p e s m args below meth c H locs ls C hP hF hl
  refine W.widen (k := mc) (n := ms) hu hv ?_
  exact W.zret C.1 C.2.1 (C.2.2.2.2.2.2.1.trans hr) hn (fun t ht _ => ⟨_, n, R, I, L, rfl, h, by rw [ht]; exact hP⟩) hF hd C.2.2.2.2.2.2.2.1
theorem wq_lret {x : Int64} (hd : decode Y.2.1 pc = .ok (.lreturn, 1)) (hr : Y.2.2.2 = some .long) (hu : u ≤ mc) (hv : v ≤ ms) (h : post (some (.long x)) n R I L) : Wp (Km g D mc ms Y post) (u, v, n, R) pc lv [.long x] I L := by
  intro p e s m args below meth c H locs ls C hP hF hl
  refine W.widen (k := mc) (n := ms) hu hv ?_
  exact W.lret C.1 C.2.1 (C.2.2.2.2.2.2.1.trans hr) (fun t ht _ => ⟨_, n, R, I, L, rfl, h, by rw [ht]; exact hP⟩) hF hd C.2.2.2.2.2.2.2.1
theorem wq_vret (hd : decode Y.2.1 pc = .ok (.return_, 1)) (hr : Y.2.2.2 = none) (hu : u ≤ mc) (hv : v ≤ ms) (h : post none n R I L) : Wp (Km g D mc ms Y post) (u, v, n, R) pc lv [] I L := by
  intro p e s m args below meth c H locs ls C hP hF hl
  refine W.widen (k := mc) (n := ms) hu hv ?_
  exact W.vret C.1 C.2.1 (C.2.2.2.2.2.2.1.trans hr) (fun t ht _ => ⟨_, n, R, I, L, rfl, h, by rw [ht]; exact hP⟩) hF hd C.2.2.2.2.2.2.2.1
end Ends
/-- the pool's entry idx of class own is method Z -/
def Ml (own : String) (idx : Nat) (Z : Mt) : Prop := (Cond.methodLink own idx Z.1 ∈ gw) ∨ ∃ host, Cond.methodLinkNest own idx Z.1 host ∈ nw
/-- what a call asks of method Z, of np parameters -/
def Mf (Z : Mt) (np : Nat) : Prop := Cond.code Z.1 Z.2.1 Z.2.2.1 Z.2.2.2 ∈ gw ∧ Cond.initialized Z.1.cls ∈ gw ∧ (Z.1.cls ≠ "java/lang/invoke/MethodHandle" ∧ Z.1.cls ≠ "java/lang/invoke/VarHandle") ∧ (parseMethodDescriptor Z.1.desc).map (fun d => d.parameters.length) = some np ∧ Z.2.2.1 ≤ 19
def MfV (Z : Mt) (np : Nat) : Prop := Mf Z np ∧ Cond.instanceMethod Z.1 ∈ gw ∧ Cond.selects Z.1.cls Z.1 Z.1 ∈ gw
def MfS (Z : Mt) (np : Nat) : Prop := Mf Z np ∧ Cond.static Z.1 ∈ gw
def MfI (Z : Mt) (np : Nat) : Prop := Mf Z np ∧ Cond.instanceMethod Z.1 ∈ gw ∧ Z.1.name = "<init>" ∧ Z.2.2.2 = none
theorem Mf.len {Z : Mt} {np : Nat} (h : Mf Z np) : ∀ sig, parseMethodDescriptor Z.1.desc = some sig → np = sig.parameters.length := fun sig hs => by
  have h2 := h.2.2.2.1
  rw [hs] at h2
  exact (Option.some.inj h2).symm
section CallsW
variable {K : Kx} {T : Tx} {pc : Nat} {lv : List (Option Value)} {st : List Value} {I : IM} {L : LM} {D mc ms : Nat} {Z : Mt} {post : Pt5}
theorem gw_in {Z : Mt} {np : Nat} {s : State} {args : Array Value} (h : Mf Z np) (hts : ∀ w ∈ gw, w.before args s = true) : ∀ w ∈ wsOf Z, ∀ (a' : Array Value) (U : State), s.WarmedH U.vm → w.before a' U = true := by
  intro w hw a' U hW
  have hg : w ∈ gw := by
    rcases List.mem_cons.mp hw with rfl | hw
    · exact h.1
    · exact hw
  exact word_at hW (gw_good hg) (hts w hg)
/-- behind a call -/
theorem call_end {p : Program} {e : Env} {s : State} {m : MethodId} {args : Array Value} {below : List Frame} {meth : Method} {c : Code} {H : Heap} {locs : List Loc} {u v : Nat} {ls : Array Slot} {st0 : List Value} {a : Array Value} {q : Nat} (hq : pc + 3 = q) (C : Cx K p s m args meth c) (hF : ∀ q ∈ locs, gB K.1 ≤ q.base) (hl : Lv ls K.2.2.1.2.2.1 lv)
    (hr : va_Run p K.1.1 e K.2.1 s m args below meth c H locs u v mc ms (F0 m pc ls st0) st (Qp K.1 post a) (fun q => gB K.1 ≤ q))
    (kk : ∀ r n' R' I' L', post r n' R' I' L' → Wp K (u + mc, v + ms, n', R') q lv (r.toList ++ st) I' L') : W p K.1.1 e K.2.1 s m args below meth c H locs u v (K.2.2.2 below args s) (F0 m pc ls st0) := by
  subst hq
  intro T hT X
  obtain ⟨r, st₀, t, T', L', h0, X', hL, e1, e2, ⟨r', n', R', I', L1, q1, q2, q3⟩, stp⟩ := hr T hT X
  cases q1
  obtain ⟨t2, a1, b1⟩ := kk r n' R' I' L1 q2 p e s m args below meth c T'.heap (locs ++ L') ls C (by rw [e1]; exact q3) (fun q hq => by
    rcases List.mem_append.mp hq with h | h
    · exact hF q h
    · exact hL q h) hl T' rfl X'
  exact ⟨t2, stp t2 a1, b1⟩
theorem pc_blind {g : Gl} {av : List Value} {n : Nat} {R : RM} {I : IM} {L : LM} : FrameBlind (va_Pc av (fun U => HP g n R I L U.heap ∧ KW g U)) := by
  intro a U fr mk h
  exact ⟨h.1, h.2.1, KW.same (u := U) (U := U.calling fr mk a) rfl h.2.2⟩
theorem wq_callS (q : Nat) {idx np : Nat} {As : List Value} (hM : Mp K.1 D mc ms Z As T.2.2.1 T.2.2.2 I L post) (hl : Ml K.2.2.1.1.cls idx Z) (hz : MfS Z np) (hd : decode K.2.2.1.2.1 pc = .ok (.invokestatic idx, 3)) (hq : pc + 3 = q) (hn : As.length = np) (hst : (st.map fun v => v.category).sum ≤ 8) (hfr : D + 1 ≤ K.2.1.frames) (hlo : 38 * D + 38 ≤ K.2.1.locals) (hc : T.1 + mc ≤ K.2.1.cells) (hs : T.2.1 + ms ≤ K.2.1.slots)
    (kk : ∀ r n' R' I' L', post r n' R' I' L' → Wp K (T.1 + mc, T.2.1 + ms, n', R') q lv (r.toList ++ st) I' L') : Wp K T pc lv (As.reverse ++ st) I L := by
  intro p e s m args below meth c H locs ls C hP hF hlv
  have hts := C.2.2.2.2.1
  have hlen := hz.1.len
  have hloc : 8 + (Z.2.2.1 + 11) + (rm D mc ms).locals ≤ K.2.1.locals := by have := hz.1.2.2.2.2; show 8 + (Z.2.2.1 + 11) + 38 * D ≤ _; omega
  have hPre : PreS s H (va_Pc As (fun U => HP K.1 T.2.2.1 T.2.2.2 I L U.heap ∧ KW K.1 U)) As := ⟨pc_blind, fun U hU hW => ⟨rfl, by rw [hU]; exact hP, KW.warm hW C.2.2.2.2.2.1⟩⟩
  refine call_end (post := post) (mc := mc) (ms := ms) hq C hF hlv (a := As.toArray) ?_ kk
  rcases hl with hl | ⟨host, hl⟩
  · exact va_runS ⟨C.1, C.2.1, C.2.2.1, C.2.2.2.1, hts⟩ hM ⟨⟨rfl, rfl, hfr, hloc, gw_in hz.1 hts, List.mem_cons_self, hts _ hz.1.1, hts _ hz.1.2.1, hz.1.2.2.1, hlen, hts _ hl⟩, hts _ hz.2⟩ hPre rfl hn hlv.1 rfl (by simpa using hst) hd ⟨hc, hs⟩
  · exact va_runSN ⟨C.1, C.2.1, C.2.2.1, C.2.2.2.1, hts⟩ hM ⟨⟨⟨rfl, rfl, hfr, hloc, gw_in hz.1 hts, List.mem_cons_self⟩, hts _ hz.1.1, hts _ hz.1.2.1, hz.1.2.2.1, hlen, va_Nw.use rfl (C.2.2.2.2.2.1.2.1 _ hl)⟩, hts _ hz.2, trivial⟩ hPre rfl hn hlv.1 rfl (by simpa using hst) hd ⟨hc, hs⟩
theorem rcv_of {K : Kx} {s : State} {H : Heap} {n : Nat} {R : RM} {a ci : Nat} (hK : KW K.1 s) (hP : HP K.1 n R I L H) (ha : a < n) (hk : kd a = .inl ci) (hc : ci < 9) : ∃ cell : Cell, H[gB K.1 + a]? = some cell ∧ cell.vm.isStatics = false ∧ s.vm.findClass (clsOf ci) = some cell.cls :=
  va_recv hK.1 (one_P hP ha (ent_obj hk)) (cl9 hc) (q0 := 0) rfl
theorem wq_callV (q : Nat) {idx np a ci : Nat} {As : List Value} (hM : Mp K.1 D mc ms Z (rf K.1 a :: As) T.2.2.1 T.2.2.2 I L post) (hl : Ml K.2.2.1.1.cls idx Z) (hz : MfV Z np) (hd : decode K.2.2.1.2.1 pc = .ok (.invokevirtual idx, 3)) (hq : pc + 3 = q) (ha : Ob T a ci) (hci : ci < 9) (hcl : Z.1.cls = clsOf ci) (hn : As.length = np) (hst : (st.map fun v => v.category).sum ≤ 8) (hfr : D + 1 ≤ K.2.1.frames) (hlo : 38 * D + 38 ≤ K.2.1.locals) (hc : T.1 + mc ≤ K.2.1.cells) (hs : T.2.1 + ms ≤ K.2.1.slots)
    (kk : ∀ r n' R' I' L', post r n' R' I' L' → Wp K (T.1 + mc, T.2.1 + ms, n', R') q lv (r.toList ++ st) I' L') : Wp K T pc lv (As.reverse ++ rf K.1 a :: st) I L := by
  intro p e s m args below meth c H locs ls C hP hF hlv
  have hts := C.2.2.2.2.1
  have hlen := hz.1.len
  have hloc : 8 + (Z.2.2.1 + 11) + (rm D mc ms).locals ≤ K.2.1.locals := by have := hz.1.2.2.2.2; show 8 + (Z.2.2.1 + 11) + 38 * D ≤ _; omega
  have hrc := rcv_of C.2.2.2.2.2.1 hP ha.1 ha.2 hci
  rw [← hcl] at hrc
  have hPre : PreV s H Z.1.cls (gB K.1 + a) (va_Pc (rf K.1 a :: As) (fun U => HP K.1 T.2.2.1 T.2.2.2 I L U.heap ∧ KW K.1 U)) As := ⟨pc_blind, hrc, fun U hU hW => ⟨rfl, by rw [hU]; exact hP, KW.warm hW C.2.2.2.2.2.1⟩⟩
  refine call_end (post := post) (mc := mc) (ms := ms) hq C hF hlv (a := (rf K.1 a :: As).toArray) ?_ kk
  rcases hl with hl | ⟨host, hl⟩
  · exact va_runV ⟨C.1, C.2.1, C.2.2.1, C.2.2.2.1, hts⟩ hM ⟨⟨rfl, rfl, hfr, hloc, gw_in hz.1 hts, List.mem_cons_self, hts _ hz.1.1, hts _ hz.1.2.1, hz.1.2.2.1, hlen, hts _ hl⟩, hts _ hz.2.1, hts _ hz.2.2⟩ hPre rfl hn hlv.1 rfl (by simpa using hst) hd ⟨hc, hs⟩
  · exact va_runVN ⟨C.1, C.2.1, C.2.2.1, C.2.2.2.1, hts⟩ hM ⟨⟨⟨rfl, rfl, hfr, hloc, gw_in hz.1 hts, List.mem_cons_self⟩, hts _ hz.1.1, hts _ hz.1.2.1, hz.1.2.2.1, hlen, va_Nw.use rfl (C.2.2.2.2.2.1.2.1 _ hl)⟩, hts _ hz.2.1, hts _ hz.2.2⟩ hPre rfl hn hlv.1 rfl (by simpa using hst) hd ⟨hc, hs⟩
theorem wq_callI (q : Nat) {idx np a : Nat} {As : List Value} (hM : Mp K.1 D mc ms Z (rf K.1 a :: As) T.2.2.1 T.2.2.2 I L post) (hl : Ml K.2.2.1.1.cls idx Z) (hz : MfI Z np) (hd : decode K.2.2.1.2.1 pc = .ok (.invokespecial idx, 3)) (hq : pc + 3 = q) (hn : As.length = np) (hst : (st.map fun v => v.category).sum ≤ 8) (hfr : D + 1 ≤ K.2.1.frames) (hlo : 38 * D + 38 ≤ K.2.1.locals) (hc : T.1 + mc ≤ K.2.1.cells) (hs : T.2.1 + ms ≤ K.2.1.slots)
    (kk : ∀ r n' R' I' L', post r n' R' I' L' → Wp K (T.1 + mc, T.2.1 + ms, n', R') q lv (r.toList ++ st) I' L') : Wp K T pc lv (As.reverse ++ rf K.1 a :: st) I L := by
  intro p e s m args below meth c H locs ls C hP hF hlv
  have hts := C.2.2.2.2.1
  have hlen := hz.1.len
  have hloc : 8 + (Z.2.2.1 + 11) + (rm D mc ms).locals ≤ K.2.1.locals := by have := hz.1.2.2.2.2; show 8 + (Z.2.2.1 + 11) + 38 * D ≤ _; omega
  have hPre : PreS s H (va_Pc (rf K.1 a :: As) (fun U => HP K.1 T.2.2.1 T.2.2.2 I L U.heap ∧ KW K.1 U)) (rf K.1 a :: As) := ⟨pc_blind, fun U hU hW => ⟨rfl, by rw [hU]; exact hP, KW.warm hW C.2.2.2.2.2.1⟩⟩
  have hcode : Cond.code Z.1 Z.2.1 Z.2.2.1 none ∈ gw := by have := hz.1.1; rw [hz.2.2.2] at this; exact this
  have hcode2 : Cond.code Z.1 Z.2.1 Z.2.2.1 none ∈ wsOf Z := List.mem_cons_of_mem _ hcode
  refine call_end (post := post) (mc := mc) (ms := ms) hq C hF hlv (a := (rf K.1 a :: As).toArray) ?_ kk
  rcases hl with hl | ⟨host, hl⟩
  · exact va_runI ⟨C.1, C.2.1, C.2.2.1, C.2.2.2.1, hts⟩ hM ⟨⟨rfl, rfl, hfr, hloc, gw_in hz.1 hts, hcode2, hts _ hcode, hts _ hz.1.2.1, hz.1.2.2.1, hlen, hts _ hl⟩, hz.2.2.1, hts _ hz.2.1⟩ hPre rfl hn hlv.1 rfl (by simpa using hst) hd ⟨hc, hs⟩
  · exact va_runIN ⟨C.1, C.2.1, C.2.2.1, C.2.2.2.1, hts⟩ hM ⟨⟨⟨rfl, rfl, hfr, hloc, gw_in hz.1 hts, hcode2⟩, hts _ hcode, hts _ hz.1.2.1, hz.1.2.2.1, hlen, va_Nw.use rfl (C.2.2.2.2.2.1.2.1 _ hl)⟩, hz.2.2.1, hts _ hz.2.1⟩ hPre rfl hn hlv.1 rfl (by simpa using hst) hd ⟨hc, hs⟩
end CallsW
