/-! WHAT IS KNOWN at the law's start -/
theorem ar_known {s : State} {args : Array Value} {ty : FieldType} (h : (Cond.arrayClass ty).before args s = true) : ∃ cA : ClassId, ArrOfT s cA ty ∧ s.vm.findClass ("[" ++ ty.toString) = some cA := by
  obtain ⟨cA, kA, comp, h1, h2, h3⟩ := Cond.arrayClass_spec h
  exact ⟨cA, fun n z => ⟨fun k h => (by cases h), kA, h2, comp, h3⟩, h1⟩
theorem in9w {s : State} {args : Array Value} (hgw : ∀ w ∈ gw, w.before args s = true) {ci : Nat} (h : ci < 9) : (Cond.instantiable (clsOf ci) (nFs ci)).before args s = true := lt9 (P := fun ci => (Cond.instantiable (clsOf ci) (nFs ci)).before args s = true) h (hgw _ in_X0) (hgw _ in_X1) (hgw _ in_X2) (hgw _ in_X3) (hgw _ in_X4) (hgw _ in_X5) (hgw _ in_X6) (hgw _ in_X7) (hgw _ in_X8)
def sTm (i : Nat) : Term := .string (sOwn i) (sIdx i)
theorem lt2 {i : Nat} (h : i < 2) : i = 0 ∨ i = 1 := by omega
set_option maxRecDepth 100000 in
theorem start_K (l : Launch) {s : State} {args : Array Value} (hts : ∀ w ∈ lw_tbl, w.before args s = true) (hgv : (Jvm.Cond.and given_1 narrow_1).before args s = true) : ∃ g : Gl, g.1 = l ∧ g.2.1 = s.heap ∧ KW g s := by
  have hgw : ∀ w ∈ gw, w.before args s = true := fun w hw => hts w (List.mem_filter.mp hw).1
  have hnw : ∀ w ∈ nw, w.before args s = true := fun w hw => hts w (List.mem_filter.mp hw).1
  have fl := flat_of_before _ hgv
  have hA : ∀ a : Nat, a < s.heap.size → ¬ (fun q : Nat => s.heap.size ≤ q) a := fun a h => Nat.not_le.mpr h
  have h0 : ∀ c : Nat, ∃ q : ClassId × (Nat → Nat), c < 9 → u_Kn s (clsOf c) (TOf c) (nFs c) q.1 q.2 := by
    intro c
    by_cases hc : c < 9
    · obtain ⟨cC, iS, h⟩ := u_known hgw (in9 hc) (in9w hgw hc)
      exact ⟨(cC, iS), fun _ => h⟩
    · exact ⟨((0 : Nat), fun _ => 0), fun h => absurd h hc⟩
  obtain ⟨q, hq⟩ := Classical.axiomOfChoice h0
  obtain ⟨c0, a0, b0⟩ := ar_known (hgw _ ac_int)
  obtain ⟨c1, a1, b1⟩ := ar_known (hgw _ ac_long)
  obtain ⟨c2, a2, b2⟩ := ar_known (hgw _ ac_boolean)
  have hov : (Cond.arrayOver (.object RX1)).before args s = true := hts _ (by decide +kernel)
  obtain ⟨comp, c3, k3, o1, o2, o3, o4, o5⟩ := Cond.arrayOver_spec hov
  obtain ⟨adK, adV, hS, hev⟩ := vk_Sof (N := 2) (tm := sTm) (len := sLen) (byt := sByt) (A := fun q : Nat => s.heap.size ≤ q) (args := args) (s := s) (by decide) (fun i hi => fl _ (by revert i; decide +kernel)) (fun i hi => fl _ (by revert i; decide +kernel)) (fun i hi => fl _ (by revert i; decide +kernel)) (fun i hi => fl _ (by revert i; decide +kernel)) (fun i hi j hj => fl _ (by revert j; revert i; decide +kernel)) (fun i j hi hj hne => by
    rcases lt2 hi with rfl | rfl <;> rcases lt2 hj with rfl | rfl
    · exact absurd rfl hne
    · exact Or.inl (fl _ (by decide +kernel))
    · exact Or.inr (fl _ (by decide +kernel))
    · exact absurd rfl hne) hA
  refine ⟨(l, s.heap, (fun c => (q c).1, fun c => (q c).2), fun k => if k = 0 then c0 else if k = 1 then c1 else if k = 2 then c2 else c3, adK, adV), rfl, rfl, ⟨fun c r hr => ?_, fun k r hr => ?_⟩, fun w hw => ?_, fun i hi => ?_, hS, ?_, ?_, va_AO.of hov⟩
  · have hc : c < 9 := (List.getElem?_eq_some_iff.mp hr).1
    have e : r = (clsOf c, TOf c, nFs c) := Option.some.inj (hr.symm.trans (cl9 hc))
    subst e
    exact hq c hc
  · match k, hr with
    | 0, hr => cases hr; exact ⟨a0, b0⟩
    | 1, hr => cases hr; exact ⟨a1, b1⟩
    | 2, hr => cases hr; exact ⟨a2, b2⟩
    | 3, hr => cases hr; exact ⟨fun n z => ⟨fun k h => (by cases h), k3, o3, comp, o4⟩, k3, comp, o3, o4, o1, o5⟩
    | k + 4, hr => simp [tys4] at hr
  · rcases nest_cases (List.mem_filter.mp hw).2 with ⟨a, i, b, n, d, ho, rfl⟩ | ⟨a, i, x, ho, rfl⟩
    · exact va_Nw.of rfl (hnw _ hw)
    · exact va_Nw.of rfl (hnw _ hw)
  · exact vk_R.of (hts _ (by revert i; decide +kernel)) (hev i hi)
  · exact va_Zof (hts _ (by decide +kernel)) (hts _ (by decide +kernel)) (va_eqt (fl _ (by decide +kernel))) hA
  · exact va_Zqof (hts _ (by decide +kernel)) (hts _ (by decide +kernel)) (fl _ (by decide +kernel)) hA
/-- THE LAW, from its entry -/
theorem whole_start {p : Program} {e : Env} {s : State} {m : MethodId} {below : List Frame} {meth : Method} {c : Code} (l : Launch) (hflags : l.flags = flags0) {b L : Nat} {xs : Nat → Int32} (hL : L ≤ 1536) (C0 : lw_At p s m meth c b L xs) : W p l e room_1 s m #[Value.ref b] below meth c s.heap [] 0 0 (lw_Z below #[Value.ref b] s) (entryFrame m ([Value.ref b] : List Value).toArray 4) := by
  obtain ⟨a1, a2, a3, a4, a5, a6, a7, a8, a9, a10⟩ := C0
  have hgw : ∀ w ∈ gw, w.before #[Value.ref b] s = true := fun w hw => a6 w (List.mem_filter.mp hw).1
  obtain ⟨g, g1, g2, hK⟩ := start_K l a6 a10
  subst g1
  have hl := lv_entry [Value.ref b] (n := 4) (Nat.le_of_ble_eq_true rfl)
  rw [lg_entry_eq]
  have h := law_begin (g := g) (b := b) (L := L) (xs := xs) (nm := meth.name) hL p e s m #[Value.ref b] below meth c s.heap [] _ ⟨a1, a2, a4, a5, hgw, hK, a3, a9, rfl⟩ ⟨by rw [← g2]; rfl, fun q _ => by rw [g2], fun a ha => absurd ha (Nat.not_lt_zero a)⟩ (fun q hq => by cases hq) ⟨hl.1, hl.2.1, fun q hq => hl.2.2 q (ena_args [Value.ref b] 0 [none, none, none] (fun x hx => (List.mem_replicate (n := 3)).mp hx |>.2) q hq)⟩
  intro T hT X
  obtain ⟨t, t1, t2⟩ := h T hT X
  exact ⟨t, t1, t2 ⟨rfl, a7, a8, g2.symm⟩⟩
