section Access
variable {K : Kx} {T : Tx} {pc : Nat} {lv : List (Option Value)} {st : List Value} {I : IM} {L : LM}
theorem fv0 {g : Gl} {R : RM} {a ci k : Nat} (h : fcode (tyOf ci k) = 0) : fv g R I L a ci k = .int (I a k) := by simp only [fv, h]
theorem fv1 {g : Gl} {R : RM} {a ci k : Nat} (h : fcode (tyOf ci k) = 1) : fv g R I L a ci k = .long (L a k) := by simp only [fv, h]
theorem fv2 {g : Gl} {R : RM} {a ci k : Nat} (h : fcode (tyOf ci k) = 2) : fv g R I L a ci k = rv g (R a k) := by simp only [fv, h]
theorem wq_getI (q : Nat) {idx a : Nat} {ci k : Nat} (hf : Fl K.2.2.1.1.cls idx ci k) (hd : decode K.2.2.1.2.1 pc = .ok (.getfield idx, 3)) (hq : pc + 3 = q) (ht : fcode (tyOf ci k) = 0) (ha : Ob T a ci) (kk : Wp K T q lv (.int (I a k) :: st) I L) : Wp K T pc lv (rf K.1 a :: st) I L := by
  subst hq
  intro p e s m args below meth c H locs ls C hP hF hl
  refine wg_get C hP hf ha.1 ha.2 hd ?_
  rw [fv0 ht]
  exact kk p e s m args below meth c H locs ls C hP hF hl
theorem wq_getL (q : Nat) {idx a : Nat} {ci k : Nat} (hf : Fl K.2.2.1.1.cls idx ci k) (hd : decode K.2.2.1.2.1 pc = .ok (.getfield idx, 3)) (hq : pc + 3 = q) (ht : fcode (tyOf ci k) = 1) (ha : Ob T a ci) (kk : Wp K T q lv (.long (L a k) :: st) I L) : Wp K T pc lv (rf K.1 a :: st) I L := by
  subst hq
  intro p e s m args below meth c H locs ls C hP hF hl
  refine wg_get C hP hf ha.1 ha.2 hd ?_
  rw [fv1 ht]
  exact kk p e s m args below meth c H locs ls C hP hF hl
theorem wq_getR (q : Nat) {idx a : Nat} {ci k b : Nat} (hf : Fl K.2.2.1.1.cls idx ci k) (hd : decode K.2.2.1.2.1 pc = .ok (.getfield idx, 3)) (hq : pc + 3 = q) (ht : fcode (tyOf ci k) = 2) (ha : Ob T a ci) (hr : T.2.2.2 a k = some b) (kk : Wp K T q lv (rf K.1 b :: st) I L) : Wp K T pc lv (rf K.1 a :: st) I L := by
  subst hq
  intro p e s m args below meth c H locs ls C hP hF hl
  refine wg_get C hP hf ha.1 ha.2 hd ?_
  rw [fv2 ht, hr, rv_some]
  exact kk p e s m args below meth c H locs ls C hP hF hl
/-- a number into a field: it must be one that the field's type holds -/
theorem wq_putI (q : Nat) {idx a : Nat} {ci k : Nat} {x : Int32} (hf : Fl K.2.2.1.1.cls idx ci k) (hd : decode K.2.2.1.2.1 pc = .ok (.putfield idx, 3)) (hq : pc + 3 = q) (ht : fcode (tyOf ci k) = 0) (hfin : (TOf ci k).2.2.2 = false) (hn : narrow (tyOf ci k) (.int x) = .int x) (hfit : fits (tyOf ci k) (.int x) = true) (ha : Ob T a ci) (kk : Wp K T q lv st (va_up I a (va_up (I a) k x)) L) : Wp K T pc lv (.int x :: rf K.1 a :: st) I L := by
  subst hq
  intro p e s m args below meth c H locs ls C hP hF hl
  refine wg_put C hP hF hf ha.1 ha.2 (Or.inl hfin) hn hfit (R' := T.2.2.2) (I' := va_up I a (va_up (I a) k x)) (L' := L) (fun b hb => ⟨rfl, va_up_ne _ _ hb, rfl⟩) (fun j hj => ?_) hd (fun H1 locs1 hP1 hF1 => kk p e s m args below meth c H1 locs1 ls C hP1 hF1 hl)
  by_cases hjk : j = k
  · subst hjk
    rw [fv0 ht]
    simp [updV, va_up]
  · simp only [updV, if_neg hjk]
    simp only [fv, va_up_self, va_up_ne _ _ hjk]
theorem wq_putL (q : Nat) {idx a : Nat} {ci k : Nat} {x : Int64} (hf : Fl K.2.2.1.1.cls idx ci k) (hd : decode K.2.2.1.2.1 pc = .ok (.putfield idx, 3)) (hq : pc + 3 = q) (ht : fcode (tyOf ci k) = 1) (hfin : (TOf ci k).2.2.2 = false) (hn : narrow (tyOf ci k) (.long x) = .long x) (hfit : fits (tyOf ci k) (.long x) = true) (ha : Ob T a ci) (kk : Wp K T q lv st I (va_up L a (va_up (L a) k x))) : Wp K T pc lv (.long x :: rf K.1 a :: st) I L := by
  subst hq
  intro p e s m args below meth c H locs ls C hP hF hl
  refine wg_put C hP hF hf ha.1 ha.2 (Or.inl hfin) hn hfit (R' := T.2.2.2) (I' := I) (L' := va_up L a (va_up (L a) k x)) (fun b hb => ⟨rfl, rfl, va_up_ne _ _ hb⟩) (fun j hj => ?_) hd (fun H1 locs1 hP1 hF1 => kk p e s m args below meth c H1 locs1 ls C hP1 hF1 hl)
  by_cases hjk : j = k
  · subst hjk
    rw [fv1 ht]
    simp [updV, va_up]
  · simp only [updV, if_neg hjk]
    simp only [fv, va_up_self, va_up_ne _ _ hjk]
theorem wq_putR {u v n : Nat} {R : RM} (q : Nat) {idx a : Nat} {ci k x : Nat} (hf : Fl K.2.2.1.1.cls idx ci k) (hd : decode K.2.2.1.2.1 pc = .ok (.putfield idx, 3)) (hq : pc + 3 = q) (ht : fcode (tyOf ci k) = 2) (hfin : (TOf ci k).2.2.2 = false ∨ (K.2.2.1.1.name = "<init>" ∧ K.2.2.1.1.cls = clsOf ci ∧ (TOf ci k).2.2.2 = true)) (hfit : ∀ x : Nat, narrow (tyOf ci k) (.ref x) = .ref x ∧ fits (tyOf ci k) (.ref x) = true) (ha : Ob (u, v, n, R) a ci) (kk : Wp K (u, v, n, va_up R a (va_up (R a) k (some x))) q lv st I L) : Wp K (u, v, n, R) pc lv (rf K.1 x :: rf K.1 a :: st) I L := by
  subst hq
  intro p e s m args below meth c H locs ls C hP hF hl
  refine wg_put C hP hF hf ha.1 ha.2 hfin (hfit _).1 (hfit _).2 (R' := va_up R a (va_up (R a) k (some x))) (I' := I) (L' := L) (fun b hb => ⟨va_up_ne _ _ hb, rfl, rfl⟩) (fun j hj => ?_) hd (fun H1 locs1 hP1 hF1 => kk p e s m args below meth c H1 locs1 ls C hP1 hF1 hl)
  by_cases hjk : j = k
  · subst hjk
    rw [fv2 ht]
    simp [updV, va_up, rv_some]
  · simp only [updV, if_neg hjk]
    simp only [fv, va_up_self, va_up_ne _ _ hjk]
theorem one_P {g : Gl} {n : Nat} {R : RM} {H : Heap} (hP : HP g n R I L H) {a : Nat} (ha : a < n) {x : va_E} (hx : ent g R I L a = x) : va_P (gD g) vwCl [(gB g + a, x)] H := by
  intro j y hy
  subst hx
  cases j with
  | zero => cases hy; exact hP.2.2 a ha
  | succ j => simp at hy
theorem wq_iald (q : Nat) {a len j : Nat} {i : Int32} (hd : decode K.2.2.1.2.1 pc = .ok (.iaload, 1)) (hq : pc + 1 = q) (ha : Ar T a 0 len) (hi : Ix i j len) (kk : Wp K T q lv (.int (I a j) :: st) I L) : Wp K T pc lv (.int i :: rf K.1 a :: st) I L := by
  subst hq
  intro p e s m args below meth c H locs ls C hP hF hl
  refine va_iald C.1 C.2.1 C.2.2.2.2.2.1.1 (one_P hP ha.1 (ent_int ha.2)) 0 0 rfl rfl hi.1 hd ?_
  rw [hi.2]
  exact kk p e s m args below meth c H locs ls C hP hF hl
theorem wq_lald (q : Nat) {a len j : Nat} {i : Int32} (hd : decode K.2.2.1.2.1 pc = .ok (.laload, 1)) (hq : pc + 1 = q) (ha : Ar T a 1 len) (hi : Ix i j len) (kk : Wp K T q lv (.long (L a j) :: st) I L) : Wp K T pc lv (.int i :: rf K.1 a :: st) I L := by
  subst hq
  intro p e s m args below meth c H locs ls C hP hF hl
  refine va_lald C.1 C.2.1 C.2.2.2.2.2.1.1 (one_P hP ha.1 (ent_long ha.2)) 0 1 rfl rfl hi.1 hd ?_
  rw [hi.2]
  exact kk p e s m args below meth c H locs ls C hP hF hl
theorem wq_zald (q : Nat) {a len j : Nat} {i : Int32} (hd : decode K.2.2.1.2.1 pc = .ok (.baload, 1)) (hq : pc + 1 = q) (ha : Ar T a 2 len) (hi : Ix i j len) (kk : Wp K T q lv (.int (I a j) :: st) I L) : Wp K T pc lv (.int i :: rf K.1 a :: st) I L := by
  subst hq
  intro p e s m args below meth c H locs ls C hP hF hl
  refine va_zald C.1 C.2.1 C.2.2.2.2.2.1.1 (one_P hP ha.1 (ent_bool ha.2)) 0 2 rfl rfl hi.1 hd ?_
  rw [hi.2]
  exact kk p e s m args below meth c H locs ls C hP hF hl
theorem wq_aald (q : Nat) {a len j b : Nat} {i : Int32} (hd : decode K.2.2.1.2.1 pc = .ok (.aaload, 1)) (hq : pc + 1 = q) (ha : Ar T a 3 len) (hi : Ix i j len) (hr : T.2.2.2 a j = some b) (kk : Wp K T q lv (rf K.1 b :: st) I L) : Wp K T pc lv (.int i :: rf K.1 a :: st) I L := by
  subst hq
  intro p e s m args below meth c H locs ls C hP hF hl
  refine va_aldq C.1 C.2.1 C.2.2.2.2.2.1.1 (one_P hP ha.1 (ent_refs ha.2)) 0 3 rfl rfl hi.1 hd ?_
  rw [hi.2, hr]
  exact kk p e s m args below meth c H locs ls C hP hF hl
theorem wq_alen (q : Nat) {a s0 len : Nat} (v : Int32) (hd : decode K.2.2.1.2.1 pc = .ok (.arraylength, 1)) (hq : pc + 1 = q) (ha : Ar T a s0 len) (hs : s0 < 4) (hv : Int32.ofNat len = v) (kk : Wp K T q lv (.int v :: st) I L) : Wp K T pc lv (rf K.1 a :: st) I L := by
  subst hq
  intro p e s m args below meth c H locs ls C hP hF hl
  have k2 := kk p e s m args below meth c H locs ls C hP hF hl
  match s0, hs with
  | 0, _ => exact va_alen C.1 C.2.1 C.2.2.2.2.2.1.1 (one_P hP ha.1 (ent_int ha.2)) 0 0 rfl rfl hv hd k2
  | 1, _ => exact va_alen C.1 C.2.1 C.2.2.2.2.2.1.1 (one_P hP ha.1 (ent_long ha.2)) 0 1 rfl rfl hv hd k2
  | 2, _ => exact va_alen C.1 C.2.1 C.2.2.2.2.2.1.1 (one_P hP ha.1 (ent_bool ha.2)) 0 2 rfl rfl hv hd k2
  | 3, _ => exact va_alen C.1 C.2.1 C.2.2.2.2.2.1.1 (one_P hP ha.1 (ent_refs ha.2)) 0 3 rfl rfl hv hd k2
  | n + 4, h => exact absurd h (by omega)
theorem locs_app {g : Gl} {locs : List Loc} {a j : Nat} (hF : ∀ q ∈ locs, gB g ≤ q.base) : ∀ q ∈ locs ++ [(⟨gB g + a, j⟩ : Loc)], gB g ≤ q.base := by
  intro q hq
  rcases List.mem_append.mp hq with h | h
  · exact hF q h
  · rw [List.mem_singleton.mp h]
    exact Nat.le_add_right _ _
theorem updV_int {f : Nat → Int32} {j : Nat} {x : Int32} : updV (fun k => Value.int (f k)) j (.int x) = fun k => Value.int (va_up f j x k) := by
  funext k
  by_cases h : k = j <;> simp [updV, va_up, h]
theorem updV_long {f : Nat → Int64} {j : Nat} {x : Int64} : updV (fun k => Value.long (f k)) j (.long x) = fun k => Value.long (va_up f j x k) := by
  funext k
  by_cases h : k = j <;> simp [updV, va_up, h]
theorem wq_iast (q : Nat) {a len j : Nat} {i x : Int32} (hd : decode K.2.2.1.2.1 pc = .ok (.iastore, 1)) (hq : pc + 1 = q) (ha : Ar T a 0 len) (hi : Ix i j len) (kk : Wp K T q lv st (va_up I a (va_up (I a) j x)) L) : Wp K T pc lv (.int x :: .int i :: rf K.1 a :: st) I L := by
  subst hq
  intro p e s m args below meth c H locs ls C hP hF hl
  have hat := hP.2.2 a ha.1
  rw [ent_int ha.2] at hat
  refine W.iast C.1 C.2.1 hat ((C.2.2.2.2.2.1.1.2 0 _ rfl).1 len (fun j => .int (I a j))) (fun q => by cases q) (by show ¬ (i < 0 ∨ (arrV _ _ _).slots.size ≤ _); rw [arrV_size]; exact hi.1) rfl rfl hd fun H1 e1 z oq => ?_
  refine kk p e s m args below meth c H1 _ ls C (hP.set (a := a) (fun b hb => ⟨rfl, va_up_ne _ _ hb, rfl⟩) z oq ?_) (locs_app hF) hl
  rw [ent_int ha.2]
  show H1[gB K.1 + a]? = some (vp_cell _ _)
  rw [e1, vp_cell_i, vp_cell_i, arrV_store, hi.2, updV_int, va_up_self]
theorem wq_last (q : Nat) {a len j : Nat} {i : Int32} {x : Int64} (hd : decode K.2.2.1.2.1 pc = .ok (.lastore, 1)) (hq : pc + 1 = q) (ha : Ar T a 1 len) (hi : Ix i j len) (kk : Wp K T q lv st I (va_up L a (va_up (L a) j x))) : Wp K T pc lv (.long x :: .int i :: rf K.1 a :: st) I L := by
  subst hq
  intro p e s m args below meth c H locs ls C hP hF hl
  have hat := hP.2.2 a ha.1
  rw [ent_long ha.2] at hat
  refine W.last C.1 C.2.1 hat ((C.2.2.2.2.2.1.1.2 1 _ rfl).1 len (fun j => .long (L a j))) (fun q => by cases q) (by show ¬ (i < 0 ∨ (arrV _ _ _).slots.size ≤ _); rw [arrV_size]; exact hi.1) rfl rfl hd fun H1 e1 z oq => ?_
  refine kk p e s m args below meth c H1 _ ls C (hP.set (a := a) (fun b hb => ⟨rfl, rfl, va_up_ne _ _ hb⟩) z oq ?_) (locs_app hF) hl
  rw [ent_long ha.2]
  show H1[gB K.1 + a]? = some (vp_cell _ _)
  rw [e1, vp_cell_l, vp_cell_l, arrV_store, hi.2, updV_long, va_up_self]
theorem wq_zast (q : Nat) {a len j : Nat} {i x : Int32} (hd : decode K.2.2.1.2.1 pc = .ok (.bastore, 1)) (hq : pc + 1 = q) (ha : Ar T a 2 len) (hi : Ix i j len) (hx : narrow .boolean (.int x) = .int x) (kk : Wp K T q lv st (va_up I a (va_up (I a) j x)) L) : Wp K T pc lv (.int x :: .int i :: rf K.1 a :: st) I L := by
  subst hq
  intro p e s m args below meth c H locs ls C hP hF hl
  have hat := hP.2.2 a ha.1
  rw [ent_bool ha.2] at hat
  refine W.zast C.1 C.2.1 hat ((C.2.2.2.2.2.1.1.2 2 _ rfl).1 len (fun j => .int (I a j))) (fun q => by cases q) (by show ¬ (i < 0 ∨ (arrV _ _ _).slots.size ≤ _); rw [arrV_size]; exact hi.1) rfl rfl hd fun H1 e1 z oq => ?_
  refine kk p e s m args below meth c H1 _ ls C (hP.set (a := a) (fun b hb => ⟨rfl, va_up_ne _ _ hb, rfl⟩) z oq ?_) (locs_app hF) hl
  rw [ent_bool ha.2]
  show H1[gB K.1 + a]? = some (vp_cell _ _)
  rw [e1, hx, vp_cell_i, vp_cell_i, arrV_store, hi.2, updV_int, va_up_self]
theorem wq_aast {u v n : Nat} {R : RM} (q : Nat) {a len j b : Nat} {i : Int32} (hd : decode K.2.2.1.2.1 pc = .ok (.aastore, 1)) (hq : pc + 1 = q) (ha : Ar (u, v, n, R) a 3 len) (hb : Ob (u, v, n, R) b 1) (hi : Ix i j len) (kk : Wp K (u, v, n, va_up R a (va_up (R a) j (some b))) q lv st I L) : Wp K (u, v, n, R) pc lv (rf K.1 b :: .int i :: rf K.1 a :: st) I L := by
  subst hq
  intro p e s m args below meth c H locs ls C hP hF hl
  have hat := hP.2.2 a ha.1
  rw [ent_refs ha.2] at hat
  have hbt := hP.2.2 b hb.1
  rw [ent_obj hb.2] at hbt
  have hK := C.2.2.2.2.2.1.1
  have hlt : i.toNatClampNeg < len := Nat.not_le.mp fun q => hi.1 (Or.inr q)
  have h0 : ¬ i < 0 := fun q => hi.1 (Or.inl q)
  obtain ⟨r', hr', cellV, g1, g2, g3, -⟩ := hbt
  have hcls := (hK.1 1 _ (cl9 (ci := 1) (by omega))).2
  obtain ⟨kA, comp, k1, k2, k3, -⟩ := (hK.2 3 _ rfl).2
  have hcomp : comp = (gD K.1).1 1 := Option.some.inj (k3.symm.trans hcls.1)
  subst hcomp
  obtain ⟨kC, hkC, -⟩ := hcls.2
  refine W.aast C.1 C.2.1 hat (fun q h => by cases h) (fun h => by cases h) k1 k2 rfl hkC ⟨h0, by show _ < (arrV _ _ _).slots.size; rw [arrV_size]; exact hlt⟩ g1 (fun q h => by rw [g3] at h; cases h) (by rw [g2]; exact hkC) (by rw [g2]; exact va_assign hcls) rfl rfl hd fun H1 e1 z oq => ?_
  refine kk p e s m args below meth c H1 _ ls C (hP.set (a := a) (R' := va_up R a (va_up (R a) j (some b))) (fun b hb => ⟨va_up_ne _ _ hb, rfl, rfl⟩) z oq ?_) (locs_app hF) hl
  rw [ent_refs ha.2]
  show H1[gB K.1 + a]? = some (vp_cell _ _)
  rw [e1, vp_cell_q, vp_cell_q, arrV_store, hi.2, va_up_self]
  congr 2
  funext k
  by_cases hk : k = j
  · subst hk; simp [updV, va_up, va_rf]
  · simp [updV, va_up, hk]
end Access
