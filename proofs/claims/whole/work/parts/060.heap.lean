/-! FIELDS AND ARRAYS of the flat memory -/
/-- the cell a stands, and is an object of class ci -/
def Ob (T : Tx) (a ci : Nat) : Prop := a < T.2.2.1 ∧ kd a = .inl ci
/-- the cell a stands, and is an array of sort s and length n -/
def Ar (T : Tx) (a s n : Nat) : Prop := a < T.2.2.1 ∧ kd a = .inr (s, n)
/-- in class own, the pool's entry idx is field k of class ci -/
def Fl (own : String) (idx ci k : Nat) : Prop := ci < 9 ∧ k < nFs ci ∧ ((Cond.fieldLink own idx (clsOf ci) (TOf ci k).2.1 (TOf ci k).2.2.1 ∈ gw) ∨ ∃ host, Cond.fieldLinkNest own idx (clsOf ci) (TOf ci k).2.1 (TOf ci k).2.2.1 host ∈ nw)
def Ix (i : Int32) (j n : Nat) : Prop := vp_in i n ∧ i.toNatClampNeg = j
theorem Ix.nI {j n : Nat} (h : j < n) (hn : n < 2 ^ 31) : Ix (nI j) j n := ⟨vp_in_nI h hn, nI_clamp (by omega)⟩
theorem Ix.self {i : Int32} {n : Nat} (h : vp_in i n) : Ix i i.toNatClampNeg n := ⟨h, rfl⟩
theorem range_at {α : Type} {f : Nat → α} {N k : Nat} (h : k < N) : ((List.range N).map f)[k]? = some (f k) := by simp [h]
section HeapW
variable {K : Kx} {p : Program} {e : Env} {s : State} {m : MethodId} {args : Array Value} {below : List Frame} {meth : Method} {c : Code} {H : Heap} {locs : List Loc} {u v n : Nat} {Q : State → Prop} {R : RM} {I : IM} {L : LM} {pc : Nat} {ls : Array Slot} {rest : List Value}
theorem wg_get {idx ci k a : Nat} (C : Cx K p s m args meth c) (hP : HP K.1 n R I L H) (hf : Fl K.2.2.1.1.cls idx ci k) (ha : a < n) (hk : kd a = .inl ci) (hd : decode K.2.2.1.2.1 pc = .ok (.getfield idx, 3)) (kk : W p K.1.1 e K.2.1 s m args below meth c H locs u v Q (F0 m (pc + 3) ls (fv K.1 R I L a ci k :: rest))) : W p K.1.1 e K.2.1 s m args below meth c H locs u v Q (F0 m pc ls (rf K.1 a :: rest)) := by
  obtain ⟨hc, hkN, hl⟩ := hf
  have hat := hP.2.2 a ha
  rw [ent_obj hk] at hat
  have hP1 : va_P (gD K.1) vwCl [(gB K.1 + a, .inr (ci, (List.range (nFs ci)).map (fv K.1 R I L a ci)))] H := by
    intro j x hx
    cases j with
    | zero => cases hx; exact hat
    | succ j => simp at hx
  have hsame : ∀ x, s.fieldFound? (TOf ci k).1 (TOf ci k).2.1 (TOf ci k).2.2.1 = some x → s.fieldFound? (clsOf ci) (TOf ci k).2.1 (TOf ci k).2.2.1 = some x := fun x h => by rw [own9 hc k hkN] at h; exact h
  rcases hl with hl | ⟨host, hl⟩
  · exact va_get C.1 C.2.1 C.2.2.2.2.1 (in9 hc) C.2.2.2.1 C.2.2.2.2.2.1.1 hP1 0 rfl (cl9 hc) k hkN (C.2.2.2.2.1 _ hl) hsame (range_at hkN) hd kk
  · exact va_getN C.1 C.2.1 C.2.2.2.2.1 (in9 hc) C.2.2.2.1 C.2.2.2.2.2.1.1 hP1 0 rfl (cl9 hc) k hkN (va_Nw.use rfl (C.2.2.2.2.2.1.2.1 _ hl)) hsame (range_at hkN) hd kk
theorem wg_put {idx ci k a : Nat} {x : Value} {R' : RM} {I' : IM} {L' : LM} (C : Cx K p s m args meth c) (hP : HP K.1 n R I L H) (hF : ∀ q ∈ locs, gB K.1 ≤ q.base) (hf : Fl K.2.2.1.1.cls idx ci k) (ha : a < n) (hk : kd a = .inl ci) (hfin : (TOf ci k).2.2.2 = false ∨ (K.2.2.1.1.name = "<init>" ∧ K.2.2.1.1.cls = clsOf ci ∧ (TOf ci k).2.2.2 = true)) (hn : narrow (tyOf ci k) x = x) (hfit : fits (tyOf ci k) x = true)
    (hs : ∀ b, b ≠ a → R' b = R b ∧ I' b = I b ∧ L' b = L b) (hv : ∀ j, j < nFs ci → fv K.1 R' I' L' a ci j = updV (fv K.1 R I L a ci) k x j) (hd : decode K.2.2.1.2.1 pc = .ok (.putfield idx, 3))
    (kk : ∀ (H1 : Heap) (locs1 : List Loc), HP K.1 n R' I' L' H1 → (∀ q ∈ locs1, gB K.1 ≤ q.base) → W p K.1.1 e K.2.1 s m args below meth c H1 locs1 u v Q (F0 m (pc + 3) ls rest)) : W p K.1.1 e K.2.1 s m args below meth c H locs u v Q (F0 m pc ls (x :: rf K.1 a :: rest)) := by
  obtain ⟨hc, hkN, hl⟩ := hf
  have hat := hP.2.2 a ha
  rw [ent_obj hk] at hat
  obtain ⟨r, h1, cell, q1, q2, q3, q4⟩ := hat
  have hr : r = (clsOf ci, TOf ci, nFs ci) := Option.some.inj (h1.symm.trans (cl9 hc))
  subst hr
  have hK := C.2.2.2.2.2.1.1
  have hts := C.2.2.2.2.1
  have hown := C.2.2.2.1
  have hap := va_apart (own := K.2.2.1.1.cls) hts (in9 hc) (tyOf ci) (ty9 hc) (nm9 hc) hK (cl9 hc)
  obtain ⟨hS, hfc, kC, hkC, hkind⟩ := hK.1 ci _ (cl9 hc)
  obtain ⟨cf, kf, fi, f, hi, hsl⟩ := hS k hkN
  have hi2 : s.fieldFound? (clsOf ci) (TOf ci k).2.1 (TOf ci k).2.2.1 = some (cf, kf, fi, f) := by rw [← own9 hc k hkN]; exact hi
  have hst := (u_facts hfc hkC (u_lays hts (in9 hc) hkN) hi).1
  have hlay := hts _ (in9 hc _ (u_in_lay hkN))
  have q4' : ∀ j, j < nFs ci → cell.slots[(gD K.1).2 ci j]? = some (fv K.1 R I L a ci j) := fun j hj => by
    rw [q4 j hj]
    simp [vp_V, hj]
  have fin : ∀ (H1 : Heap), H1[gB K.1 + a]? = some (cell.setSlot f.slot x) → H1.size = H.size → (∀ q, q ≠ gB K.1 + a → H1[q]? = H[q]?) → W p K.1.1 e K.2.1 s m args below meth c H1 (locs ++ [⟨gB K.1 + a, f.slot⟩]) u v Q (F0 m (pc + 3) ls rest) := by
    intro H1 e1 e2 e3
    refine kk H1 _ (hP.set hs e2 e3 ?_) (fun q hq => ?_)
    · rw [ent_obj hk]
      refine ⟨_, cl9 hc, _, e1, q2, q3, fun j hj => ?_⟩
      rw [hsl, t_set q4' hap hkN x j hj, ← hv j hj]
      simp [vp_V, hj]
    · rcases List.mem_append.mp hq with h | h
      · exact hF q h
      · rw [List.mem_singleton.mp h]
        exact Nat.le_add_right _ _
  have hsz : f.slot < cell.slots.size := by rw [hsl]; exact k2_hasslot (q4 k hkN)
  rcases hfin with hfin | ⟨hin, hcls, hfin⟩
  · unfold u_lay at hlay
    rw [if_neg (by rw [hfin]; decide)] at hlay
    have h6 := u_store hfc hkC hkind hlay hi (ty9 hc k hkN) hn hfit
    rcases hl with hl | ⟨host, hl⟩
    · exact W.putK C.1 C.2.1 (f := f) ⟨hown, hts _ hl, ⟨_, _, _, hi2⟩, hst⟩ (by rw [q2]; exact h6) q1 q3 hsz rfl rfl hd fin
    · exact va_WputK C.1 C.2.1 (f := f) hown (va_Nw.use rfl (C.2.2.2.2.2.1.2.1 _ hl)) hi2 hst (by rw [q2]; exact h6) q1 q3 hsz rfl rfl hd fin
  · unfold u_lay at hlay
    rw [if_pos hfin] at hlay
    have hcf : m.cls = cf := by
      obtain ⟨_, _, c', _, _, _, -, -, hf', -, -, -, hown2, -⟩ := Cond.laysFinal_spec hlay
      have e1 : c' = cf := by have := hi.symm.trans hf'; simp at this; exact this.1.symm
      rw [own9 hc k hkN] at hown2
      rw [← e1]; rw [hcls] at hown; exact Option.some.inj (hown.symm.trans hown2)
    have h6 := u_fits hfc hkC hkind (Or.inr hlay) hi (ty9 hc k hkN) hn hfit
    have hmn : meth.name = "<init>" := C.2.2.2.2.2.2.2.2.trans hin
    rcases hl with hl | ⟨host, hl⟩
    · exact W.putFinK C.1 C.2.1 hown (hts _ hl) hi2 hst hcf hmn (by rw [q2]; exact h6) q1 q3 hsz rfl rfl hd fin
    · refine va_Wputf C.1 C.2.1 hown (va_Nw.use rfl (C.2.2.2.2.2.1.2.1 _ hl)) hi2 hst (Or.inr ⟨hcf, hmn⟩) q1 (by rw [q3]; exact fun h => by cases h) hsz (by exact h6.1) (by rw [q2, q3]; exact h6.2) rfl rfl hd ?_
      have hlt : gB K.1 + a < H.size := (Array.getElem?_eq_some_iff.mp q1).1
      exact fin _ (by simp [hlt]) (by simp) (fun q hq => by simp [Array.getElem?_setIfInBounds, Ne.symm hq])
end HeapW
