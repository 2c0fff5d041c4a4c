/-! NEW CELLS; copies of arrays; the two texts -/
theorem HP.push {g : Gl} {n : Nat} {R : RM} {I : IM} {L : LM} {H H1 : Heap} (h : HP g n R I L H) (hz : H1.size = gB g + n + 1) (ho : ∀ q, q < gB g + n → H1[q]? = H[q]?) (ha : va_at (gD g) vwCl (gB g + n, ent g R I L n) H1) : HP g (n + 1) R I L H1 := by
  refine ⟨by omega, fun q hq => (ho q (by omega)).trans (h.2.1 q hq), fun a han => ?_⟩
  by_cases hx : a = n
  · subst hx; exact ha
  · exact (h.2.2 a (by omega)).kept (ho _ (by simp only; omega))
def okTy : FieldType → Bool
  | .float => false
  | .double => false
  | _ => true
theorem okTy9 {ci : Nat} (h : ci < 9) : ∀ k, k < nFs ci → okTy (tyOf ci k) = true := lt9 (P := fun ci => ∀ k, k < nFs ci → okTy (tyOf ci k) = true) h (by decide +kernel) (by decide +kernel) (by decide +kernel) (by decide +kernel) (by decide +kernel) (by decide +kernel) (by decide +kernel) (by decide +kernel) (by decide +kernel)
theorem fv_zero {g : Gl} {R : RM} {I : IM} {L : LM} {n ci k : Nat} (hR : R n = fun _ => none) (hI : I n = fun _ => 0) (hL : L n = fun _ => 0) (hok : okTy (tyOf ci k) = true) : defaultValue (tyOf ci k) = fv g R I L n ci k := by
  simp only [fv, hR, hI, hL]
  cases hty : tyOf ci k <;> first | rfl | (rw [hty] at hok; cases hok)
section Alloc
variable {K : Kx} {u v n : Nat} {R : RM} {T : Tx} {pc : Nat} {lv : List (Option Value)} {st : List Value} {I : IM} {L : LM}
theorem wq_new (q ci : Nat) {idx : Nat} (hl : Cond.classLink K.2.2.1.1.cls idx (clsOf ci) ∈ gw) (hin : Cond.instantiable (clsOf ci) (nFs ci) ∈ gw) (hini : Cond.initialized (clsOf ci) ∈ gw) (hd : decode K.2.2.1.2.1 pc = .ok (.new idx, 3)) (hq : pc + 3 = q) (hci : ci < 9) (hk : kd n = .inl ci) (hc : u + 1 ≤ K.2.1.cells) (hs : v + nFs ci ≤ K.2.1.slots) (hR : R n = fun _ => none) (hI : I n = fun _ => 0) (hL : L n = fun _ => 0)
    (kk : Wp K (u + 1, v + nFs ci, n + 1, R) q lv (rf K.1 n :: st) I L) : Wp K (u, v, n, R) pc lv st I L := by
  subst hq
  intro p e s m args below meth c H locs ls C hP hF hlv
  have hts := C.2.2.2.2.1
  have hKn := C.2.2.2.2.2.1.1.1 ci _ (cl9 hci)
  refine W.newcK C.1 C.2.1 C.2.2.2.1 (hts _ hl) (hts _ hin) (hts _ hini) rfl hd hc hs hKn.2.1 hP.1 fun H1 kC hkC e1 z1 o1 => ?_
  refine kk p e s m args below meth c H1 locs ls C (HP.push hP z1 o1 ?_) hF hlv
  rw [ent_obj hk]
  refine ⟨_, cl9 hci, (u_born (tyOf ci) hts (in9 hci) hKn hkC e1 (ty9 hci)).to (fun j hj => ?_)⟩
  rw [fv_zero (g := K.1) hR hI hL (okTy9 hci j hj)]
  simp [vp_V, hj]
theorem wq_newaI (q len : Nat) {z : Int32} (hw : Cond.arrayClass .int ∈ gw) (hd : decode K.2.2.1.2.1 pc = .ok (.newarray .int, 2)) (hq : pc + 2 = q) (hk : kd n = .inr (0, len)) (hz : z = nI len) (hlen : len < 100000) (hc : u + 1 ≤ K.2.1.cells) (hs : v + len ≤ K.2.1.slots) (hI : I n = fun _ => 0)
    (kk : Wp K (u + 1, v + len, n + 1, R) q lv (rf K.1 n :: st) I L) : Wp K (u, v, n, R) pc lv (.int z :: st) I L := by
  subst hq
  subst hz
  intro p e s m args below meth c H locs ls C hP hF hlv
  have hts := C.2.2.2.2.1
  refine va_newaK (atype := .int) C.1 C.2.1 (hts _ hw) rfl hd rfl (nI_pos (by omega)) (nI_clamp (by omega)) (Nat.le_trans (Nat.mul_le_mul (Nat.le_of_lt hlen) (show componentBytes (newarray.typeOf .int) ≤ 8 by decide)) (by decide)) hc hs hP.1 fun H1 cA e1 z1 o1 hAr hNm => ?_
  have hcA : cA = gA K.1 0 := Option.some.inj (hNm.symm.trans (C.2.2.2.2.2.1.1.2 0 _ rfl).2)
  subst hcA
  refine kk p e s m args below meth c H1 locs ls C (HP.push hP z1 o1 ?_) hF hlv
  rw [ent_int hk, hI]
  show H1[gB K.1 + n]? = some (vp_cell _ _)
  rw [e1, vp_cell_i]
  rfl
theorem wq_newaL (q len : Nat) {z : Int32} (hw : Cond.arrayClass .long ∈ gw) (hd : decode K.2.2.1.2.1 pc = .ok (.newarray .long, 2)) (hq : pc + 2 = q) (hk : kd n = .inr (1, len)) (hz : z = nI len) (hlen : len < 100000) (hc : u + 1 ≤ K.2.1.cells) (hs : v + len ≤ K.2.1.slots) (hL : L n = fun _ => 0)
    (kk : Wp K (u + 1, v + len, n + 1, R) q lv (rf K.1 n :: st) I L) : Wp K (u, v, n, R) pc lv (.int z :: st) I L := by
  subst hq
  subst hz
  intro p e s m args below meth c H locs ls C hP hF hlv
  have hts := C.2.2.2.2.1
  refine va_newaK (atype := .long) C.1 C.2.1 (hts _ hw) rfl hd rfl (nI_pos (by omega)) (nI_clamp (by omega)) (Nat.le_trans (Nat.mul_le_mul (Nat.le_of_lt hlen) (show componentBytes (newarray.typeOf .long) ≤ 8 by decide)) (by decide)) hc hs hP.1 fun H1 cA e1 z1 o1 hAr hNm => ?_
  have hcA : cA = gA K.1 1 := Option.some.inj (hNm.symm.trans (C.2.2.2.2.2.1.1.2 1 _ rfl).2)
  subst hcA
  refine kk p e s m args below meth c H1 locs ls C (HP.push hP z1 o1 ?_) hF hlv
  rw [ent_long hk, hL]
  show H1[gB K.1 + n]? = some (vp_cell _ _)
  rw [e1, vp_cell_l]
  rfl
theorem wq_newaZ (q len : Nat) {z : Int32} (hw : Cond.arrayClass .boolean ∈ gw) (hd : decode K.2.2.1.2.1 pc = .ok (.newarray .boolean, 2)) (hq : pc + 2 = q) (hk : kd n = .inr (2, len)) (hz : z = nI len) (hlen : len < 100000) (hc : u + 1 ≤ K.2.1.cells) (hs : v + len ≤ K.2.1.slots) (hI : I n = fun _ => 0)
    (kk : Wp K (u + 1, v + len, n + 1, R) q lv (rf K.1 n :: st) I L) : Wp K (u, v, n, R) pc lv (.int z :: st) I L := by
  subst hq
  subst hz
  intro p e s m args below meth c H locs ls C hP hF hlv
  have hts := C.2.2.2.2.1
  refine va_newaK (atype := .boolean) C.1 C.2.1 (hts _ hw) rfl hd rfl (nI_pos (by omega)) (nI_clamp (by omega)) (Nat.le_trans (Nat.mul_le_mul (Nat.le_of_lt hlen) (show componentBytes (newarray.typeOf .boolean) ≤ 8 by decide)) (by decide)) hc hs hP.1 fun H1 cA e1 z1 o1 hAr hNm => ?_
  have hcA : cA = gA K.1 2 := Option.some.inj (hNm.symm.trans (C.2.2.2.2.2.1.1.2 2 _ rfl).2)
  subst hcA
  refine kk p e s m args below meth c H1 locs ls C (HP.push hP z1 o1 ?_) hF hlv
  rw [ent_bool hk, hI]
  show H1[gB K.1 + n]? = some (vp_cell _ _)
  rw [e1, vp_cell_i]
  rfl
theorem wq_newaQ (q len idx : Nat) {z : Int32} (hl : Cond.classLink K.2.2.1.1.cls idx RX1 ∈ gw) (hd : decode K.2.2.1.2.1 pc = .ok (.anewarray idx, 3)) (hq : pc + 3 = q) (hk : kd n = .inr (3, len)) (hz : z = nI len) (hlen : len < 100000) (hc : u + 1 ≤ K.2.1.cells) (hs : v + len ≤ K.2.1.slots) (hR : R n = fun _ => none)
    (kk : Wp K (u + 1, v + len, n + 1, R) q lv (rf K.1 n :: st) I L) : Wp K (u, v, n, R) pc lv (.int z :: st) I L := by
  subst hq
  subst hz
  intro p e s m args below meth c H locs ls C hP hF hlv
  have hts := C.2.2.2.2.1
  have hcl : (nI len).toNatClampNeg = len := nI_clamp (by omega)
  have hP : HP K.1 n R I L H := hP
  refine W.anew C.1 C.2.1 C.2.2.2.1 (hts _ hl) (va_AO.use C.2.2.2.2.2.1.2.2.2.2.2.2) rfl hd rfl (nI_pos (by omega)) (by rw [hcl]; omega) hc (by rw [hcl]; exact hs) fun cA kA comp f1 f2 f3 f4 => ?_
  rw [hcl]
  obtain ⟨kA', comp', k1, k2, k3, k4⟩ := (C.2.2.2.2.2.1.1.2 3 _ rfl).2
  have hcA : cA = gA K.1 3 := Option.some.inj (f1.symm.trans k4)
  subst hcA
  have e1 : (H.push { cls := gA K.1 3, slots := Array.replicate len .null, vm := .none })[gB K.1 + n]? = some (arrV (gA K.1 3) len (fun _ => .null)) := by rw [← hP.1, Array.getElem?_push_size, ← arrV_new]
  rw [hP.1]
  have h9 : HP K.1 (n + 1) R I L (H.push { cls := gA K.1 3, slots := Array.replicate len .null, vm := .none }) := by
    refine HP.push hP (by rw [Array.size_push, hP.1]) (fun q hq => by rw [Array.getElem?_push, if_neg (by rw [hP.1]; omega)]) ?_
    rw [ent_refs hk, hR]
    show (H.push _)[gB K.1 + n]? = some (vp_cell _ _)
    rw [e1, vp_cell_q]
    rfl
  exact kk p e s m args below meth c _ locs ls C h9 hF hlv
theorem wq_objInit (q idx : Nat) {a : Nat} (hl : Cond.methodLink K.2.2.1.1.cls idx Lib.objectInit ∈ gw) (hin : Cond.instanceMethod Lib.objectInit ∈ gw) (hcd : Cond.code Lib.objectInit ⟨#[0xb1]⟩ 1 none ∈ gw) (hd : decode K.2.2.1.2.1 pc = .ok (.invokespecial idx, 3)) (hq : pc + 3 = q) (hfr : 1 ≤ K.2.1.frames) (hlo : (st.map fun v => v.category).sum + 12 ≤ K.2.1.locals) (kk : Wp K T q lv st I L) : Wp K T pc lv (rf K.1 a :: st) I L := by
  subst hq
  intro p e s m args below meth c H locs ls C hP hF hlv
  have hts := C.2.2.2.2.1
  exact W.objInit C.1 C.2.1 C.2.2.2.1 (hts _ hl) (hts _ hin) (hts _ hcd) rfl (by rw [C.2.2.1]; exact hlv.1) rfl hd hfr (by show 2 * 0 + _ + 12 ≤ _; omega) (kk p e s m args below meth c H locs ls C hP hF hlv)
theorem nn_of {z : Int32} (hz : ¬ z < 0) : z.toInt = (z.toNatClampNeg : Int) := by
  have hz0 : (0 : Int) ≤ z.toInt := by
    have := Int32.not_lt.mp hz
    simpa using Int32.le_iff_toInt_le.mp this
  show z.toInt = ((z.toInt.toNat : Nat) : Int)
  omega
end Alloc
