theorem nfw : nativeFrameWords "java/lang/System" "arraycopy" 5 + 11 ≤ 38 := by decide +kernel
section Copies
variable {K : Kx} {T : Tx} {pc : Nat} {lv : List (Option Value)} {st : List Value} {I : IM} {L : LM}
theorem wq_copyI (q : Nat) {idx a a0 n0 n1 i j k : Nat} {sp dp z : Int32} (hl : Cond.methodLink K.2.2.1.1.cls idx arraycopyName ∈ gw) (hnat : Cond.native arraycopyName ∈ gw) (hstat : Cond.static arraycopyName ∈ gw) (hini : Cond.initialized "java/lang/System" ∈ gw) (hd : decode K.2.2.1.2.1 pc = .ok (.invokestatic idx, 3)) (hq : pc + 3 = q) (ha0 : Ar T a0 0 n0) (ha : Ar T a 0 n1) (hsp : sp = nI i) (hdp : dp = nI j) (hz : z = nI k) (h4 : i + k ≤ n0) (h5 : j + k ≤ n1) (hn0 : n0 < 2 ^ 30) (hn1 : n1 < 2 ^ 30) (hfr : 1 ≤ K.2.1.frames) (hlo : (st.map fun v => v.category).sum + 38 ≤ K.2.1.locals)
    (kk : Wp K T q lv st (va_up I a (va_cpy (I a0) (I a) i j k)) L) : Wp K T pc lv (.int z :: .int dp :: rf K.1 a :: .int sp :: rf K.1 a0 :: st) I L := by
  subst hq
  have c1 : sp.toNatClampNeg = i := by rw [hsp]; exact nI_clamp (by omega)
  have c2 : dp.toNatClampNeg = j := by rw [hdp]; exact nI_clamp (by omega)
  have c3 : z.toNatClampNeg = k := by rw [hz]; exact nI_clamp (by omega)
  have h1 : ¬ sp < 0 := by rw [hsp]; exact nI_pos (by omega)
  have h2 : ¬ dp < 0 := by rw [hdp]; exact nI_pos (by omega)
  have h3 : ¬ z < 0 := by rw [hz]; exact nI_pos (by omega)
  intro p e s m args below meth c H locs ls C hP hF hlv Ts hT X
  have hts := C.2.2.2.2.1
  have hat0 := hP.2.2 a0 ha0.1
  have hat1 := hP.2.2 a ha.1
  rw [ent_int ha0.2] at hat0
  rw [ent_int ha.2] at hat1
  have hc0 : H[gB K.1 + a0]? = some (vp_cell (gA K.1 0) (n0, .inl (I a0))) := hat0
  have hc1 : H[gB K.1 + a]? = some (vp_cell (gA K.1 0) (n1, .inl (I a))) := hat1
  obtain ⟨-, k0, hk0, cm0, hkk0⟩ := (C.2.2.2.2.2.1.1.2 0 _ rfl).1 n0 (fun j => .int (I a0 j))
  obtain ⟨-, k1, hk1, cm1, hkk1⟩ := (C.2.2.2.2.2.1.1.2 0 _ rfl).1 n1 (fun j => .int (I a j))
  obtain ⟨vm', X', step⟩ := X.arraycopy C.1 C.2.2.2.1 (hts _ hl) (hts _ hnat) (hts _ hstat) (hts _ hini) (src := gB K.1 + a0) (dst := gB K.1 + a) (cs := (vp_cell (gA K.1 0) (n0, .inl (I a0)))) (cd := (vp_cell (gA K.1 0) (n1, .inl (I a)))) (srcPos := sp) (destPos := dp) (n := z) (by rw [hT]; exact hc0) (by rw [hT]; exact hc1)
    (fun _ h => by cases h) (fun _ h => by cases h) (fun h => by cases h) (fun h => by cases h) hk0 hk1 hkk0 hkk1 (by simp [refKind]) h1 h2 h3
    (by rw [nn_of h1, nn_of h3]; show ¬ _ > ((arrV (gA K.1 0) n0 (fun j => .int (I a0 j))).slots.size : Int); rw [arrV_size]; omega)
    (by rw [nn_of h2, nn_of h3]; show ¬ _ > ((arrV (gA K.1 0) n1 (fun j => .int (I a j))).slots.size : Int); rw [arrV_size]; omega)
    (fun vm₁ _ i hi => by
      have e : (vp_cell (gA K.1 0) (n0, .inl (I a0))).slots.getD (sp.toNatClampNeg + i) .null = .int (I a0 (sp.toNatClampNeg + i)) := by
        show (arrV (gA K.1 0) n0 (fun j => .int (I a0 j))).slots.getD _ _ = _
        rw [Array.getD_eq_getD_getElem?, arrV_read _ _ (by omega)]
        rfl
      refine ⟨?_, ?_⟩
      · rw [e]
        rfl
      · rw [e]
        exact trivial)
    (g := F0 m pc ls (.int z :: .int dp :: rf K.1 a :: .int sp :: rf K.1 a0 :: st)) rfl (by rw [C.2.2.1]; exact hlv.1) (rest := st) rfl (by rw [C.2.1]; exact hd) hfr (Nat.le_trans (Nat.add_le_add (Nat.le_of_eq (Nat.zero_add _)) nfw) hlo)
  have e1 : copied (vp_cell (gA K.1 0) (n0, .inl (I a0))) (vp_cell (gA K.1 0) (n1, .inl (I a))) sp dp z = (vp_cell (gA K.1 0) (n1, .inl (va_cpy (I a0) (I a) sp.toNatClampNeg dp.toNatClampNeg z.toNatClampNeg))) := va_copied (fun z => .int z) (gA K.1 0) (gA K.1 0) (I a0) (I a) (by omega)
  rw [e1] at X' step
  rw [c1, c2, c3] at X' step
  have hlt : gB K.1 + a < H.size := (Array.getElem?_eq_some_iff.mp hc1).1
  have hheap : ((Ts.setVm vm').setCell (gB K.1 + a) (vp_cell (gA K.1 0) (n1, .inl (va_cpy (I a0) (I a) i j k)))).heap = H.setIfInBounds (gB K.1 + a) (vp_cell (gA K.1 0) (n1, .inl (va_cpy (I a0) (I a) i j k))) := by rw [← hT]; rfl
  obtain ⟨t, a1, b1⟩ := kk p e s m args below meth c _ _ ls C (hP.set (a := a) (H1 := H.setIfInBounds (gB K.1 + a) (vp_cell (gA K.1 0) (n1, .inl (va_cpy (I a0) (I a) i j k)))) (fun b hb => ⟨rfl, va_up_ne _ _ hb, rfl⟩) (by simp) (fun q hq => by simp [Array.getElem?_setIfInBounds, Ne.symm hq]) (by
      rw [ent_int ha.2, va_up_self]
      show (H.setIfInBounds (gB K.1 + a) _)[gB K.1 + a]? = some _
      simp [Array.getElem?_setIfInBounds, hlt])) (fun q hq => by
      rcases List.mem_append.mp hq with h | h
      · exact hF q h
      · obtain ⟨z, -, hz⟩ := List.mem_map.mp h
        rw [← hz]
        exact Nat.le_add_right _ _) hlv _ hheap X'
  exact ⟨t, step t a1, b1⟩
theorem wq_copyL (q : Nat) {idx a a0 n0 n1 i j k : Nat} {sp dp z : Int32} (hl : Cond.methodLink K.2.2.1.1.cls idx arraycopyName ∈ gw) (hnat : Cond.native arraycopyName ∈ gw) (hstat : Cond.static arraycopyName ∈ gw) (hini : Cond.initialized "java/lang/System" ∈ gw) (hd : decode K.2.2.1.2.1 pc = .ok (.invokestatic idx, 3)) (hq : pc + 3 = q) (ha0 : Ar T a0 1 n0) (ha : Ar T a 1 n1) (hsp : sp = nI i) (hdp : dp = nI j) (hz : z = nI k) (h4 : i + k ≤ n0) (h5 : j + k ≤ n1) (hn0 : n0 < 2 ^ 30) (hn1 : n1 < 2 ^ 30) (hfr : 1 ≤ K.2.1.frames) (hlo : (st.map fun v => v.category).sum + 38 ≤ K.2.1.locals)
    (kk : Wp K T q lv st I (va_up L a (va_cpy (L a0) (L a) i j k))) : Wp K T pc lv (.int z :: .int dp :: rf K.1 a :: .int sp :: rf K.1 a0 :: st) I L := by
  subst hq
  have c1 : sp.toNatClampNeg = i := by rw [hsp]; exact nI_clamp (by omega)
  have c2 : dp.toNatClampNeg = j := by rw [hdp]; exact nI_clamp (by omega)
  have c3 : z.toNatClampNeg = k := by rw [hz]; exact nI_clamp (by omega)
  have h1 : ¬ sp < 0 := by rw [hsp]; exact nI_pos (by omega)
  have h2 : ¬ dp < 0 := by rw [hdp]; exact nI_pos (by omega)
  have h3 : ¬ z < 0 := by rw [hz]; exact nI_pos (by omega)
  intro p e s m args below meth c H locs ls C hP hF hlv Ts hT X
  have hts := C.2.2.2.2.1
  have hat0 := hP.2.2 a0 ha0.1
  have hat1 := hP.2.2 a ha.1
  rw [ent_long ha0.2] at hat0
  rw [ent_long ha.2] at hat1
  have hc0 : H[gB K.1 + a0]? = some (vp_cell (gA K.1 1) (n0, .inr (.inl (L a0)))) := hat0
  have hc1 : H[gB K.1 + a]? = some (vp_cell (gA K.1 1) (n1, .inr (.inl (L a)))) := hat1
  obtain ⟨-, k0, hk0, cm0, hkk0⟩ := (C.2.2.2.2.2.1.1.2 1 _ rfl).1 n0 (fun j => .long (L a0 j))
  obtain ⟨-, k1, hk1, cm1, hkk1⟩ := (C.2.2.2.2.2.1.1.2 1 _ rfl).1 n1 (fun j => .long (L a j))
  obtain ⟨vm', X', step⟩ := X.arraycopy C.1 C.2.2.2.1 (hts _ hl) (hts _ hnat) (hts _ hstat) (hts _ hini) (src := gB K.1 + a0) (dst := gB K.1 + a) (cs := (vp_cell (gA K.1 1) (n0, .inr (.inl (L a0))))) (cd := (vp_cell (gA K.1 1) (n1, .inr (.inl (L a))))) (srcPos := sp) (destPos := dp) (n := z) (by rw [hT]; exact hc0) (by rw [hT]; exact hc1)
    (fun _ h => by cases h) (fun _ h => by cases h) (fun h => by cases h) (fun h => by cases h) hk0 hk1 hkk0 hkk1 (by simp [refKind]) h1 h2 h3
    (by rw [nn_of h1, nn_of h3]; show ¬ _ > ((arrV (gA K.1 1) n0 (fun j => .long (L a0 j))).slots.size : Int); rw [arrV_size]; omega)
    (by rw [nn_of h2, nn_of h3]; show ¬ _ > ((arrV (gA K.1 1) n1 (fun j => .long (L a j))).slots.size : Int); rw [arrV_size]; omega)
    (fun vm₁ _ i hi => by
      have e : (vp_cell (gA K.1 1) (n0, .inr (.inl (L a0)))).slots.getD (sp.toNatClampNeg + i) .null = .long (L a0 (sp.toNatClampNeg + i)) := by
        show (arrV (gA K.1 1) n0 (fun j => .long (L a0 j))).slots.getD _ _ = _
        rw [Array.getD_eq_getD_getElem?, arrV_read _ _ (by omega)]
        rfl
      refine ⟨?_, ?_⟩
      · rw [e]
        rfl
      · rw [e]
        exact trivial)
    (g := F0 m pc ls (.int z :: .int dp :: rf K.1 a :: .int sp :: rf K.1 a0 :: st)) rfl (by rw [C.2.2.1]; exact hlv.1) (rest := st) rfl (by rw [C.2.1]; exact hd) hfr (Nat.le_trans (Nat.add_le_add (Nat.le_of_eq (Nat.zero_add _)) nfw) hlo)
  have e1 : copied (vp_cell (gA K.1 1) (n0, .inr (.inl (L a0)))) (vp_cell (gA K.1 1) (n1, .inr (.inl (L a)))) sp dp z = (vp_cell (gA K.1 1) (n1, .inr (.inl (va_cpy (L a0) (L a) sp.toNatClampNeg dp.toNatClampNeg z.toNatClampNeg)))) := va_copied (fun z => .long z) (gA K.1 1) (gA K.1 1) (L a0) (L a) (by omega)
  rw [e1] at X' step
  rw [c1, c2, c3] at X' step
  have hlt : gB K.1 + a < H.size := (Array.getElem?_eq_some_iff.mp hc1).1
  have hheap : ((Ts.setVm vm').setCell (gB K.1 + a) (vp_cell (gA K.1 1) (n1, .inr (.inl (va_cpy (L a0) (L a) i j k))))).heap = H.setIfInBounds (gB K.1 + a) (vp_cell (gA K.1 1) (n1, .inr (.inl (va_cpy (L a0) (L a) i j k)))) := by rw [← hT]; rfl
  obtain ⟨t, a1, b1⟩ := kk p e s m args below meth c _ _ ls C (hP.set (a := a) (H1 := H.setIfInBounds (gB K.1 + a) (vp_cell (gA K.1 1) (n1, .inr (.inl (va_cpy (L a0) (L a) i j k))))) (fun b hb => ⟨rfl, rfl, va_up_ne _ _ hb⟩) (by simp) (fun q hq => by simp [Array.getElem?_setIfInBounds, Ne.symm hq]) (by
      rw [ent_long ha.2, va_up_self]
      show (H.setIfInBounds (gB K.1 + a) _)[gB K.1 + a]? = some _
      simp [Array.getElem?_setIfInBounds, hlt])) (fun q hq => by
      rcases List.mem_append.mp hq with h | h
      · exact hF q h
      · obtain ⟨z, -, hz⟩ := List.mem_map.mp h
        rw [← hz]
        exact Nat.le_add_right _ _) hlv _ hheap X'
  exact ⟨t, step t a1, b1⟩
end Copies
