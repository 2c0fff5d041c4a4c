/-! THE JUDGEMENT Wp, AND A RULE FOR EACH INSTRUCTION. K: globals, room, method, end; T: cells and slots made, cells that stand, references. -/
def en : Nat → List (Option Value) → List (Nat × Value)
  | _, [] => []
  | i, none :: t => en (i + 1) t
  | i, some v :: t => (i, v) :: en (i + 1) t
theorem mem_en : ∀ (lv : List (Option Value)) (i : Nat) (q : Nat × Value), q ∈ en i lv ↔ ∃ j, q.1 = i + j ∧ lv[j]? = some (some q.2)
  | [], i, q => by simp [en]
  | none :: t, i, q => by
    rw [en, mem_en t (i + 1) q]
    constructor
    · rintro ⟨j, h1, h2⟩; exact ⟨j + 1, by omega, by simpa using h2⟩
    · rintro ⟨j, h1, h2⟩
      cases j with
      | zero => simp at h2
      | succ j => exact ⟨j, by omega, by simpa using h2⟩
  | some v :: t, i, q => by
    rw [en, List.mem_cons, mem_en t (i + 1) q]
    constructor
    · rintro (rfl | ⟨j, h1, h2⟩)
      · exact ⟨0, by simp, by simp⟩
      · exact ⟨j + 1, by omega, by simpa using h2⟩
    · rintro ⟨j, h1, h2⟩
      cases j with
      | zero =>
        left
        obtain ⟨q1, q2⟩ := q
        simp at h1 h2
        rw [h1, h2]
      | succ j => exact Or.inr ⟨j, by omega, by simpa using h2⟩
/-- the locals: those that are listed hold what is said -/
def Lv (ls : Array Slot) (nL : Nat) (lv : List (Option Value)) : Prop := lv_has ls nL (en 0 lv)
theorem Lv.at {ls : Array Slot} {nL : Nat} {lv : List (Option Value)} (h : Lv ls nL lv) {i : Nat} {v : Value} (hv : lv[i]? = some (some v)) : ls[i]? = some (.val v) := h.2.2 (i, v) ((mem_en lv 0 (i, v)).mpr ⟨i, by simp, hv⟩)
def nol (lv : List (Option Value)) : Nat → Bool
  | 0 => true
  | i + 1 => match lv[i]? with
    | some (some v) => v.category == 1
    | _ => true
theorem Lv.set1 {ls : Array Slot} {nL : Nat} {lv : List (Option Value)} {i : Nat} {v : Value} (hn : nol lv i = true) (h : lv_has ls nL ((i, v) :: (en 0 lv).filter (fun q => !(q.1 == i) && !(q.1 + 1 == i && q.2.category == 2)))) : Lv ls nL (lv.set i (some v)) := by
  refine ⟨h.1, h.2.1, fun q hq => h.2.2 q ?_⟩
  obtain ⟨j, h1, h2⟩ := (mem_en _ _ _).mp hq
  rw [Nat.zero_add] at h1
  subst h1
  by_cases hj : q.1 = i
  · have h3 := h2
    rw [hj] at h3
    by_cases hl : i < lv.length
    · rw [List.getElem?_set_self hl] at h3
      refine List.mem_cons.mpr (Or.inl ?_)
      obtain ⟨q1, q2⟩ := q
      simp at h3 hj
      rw [hj, h3]
    · rw [List.getElem?_eq_none (by simp; omega)] at h3
      cases h3
  · rw [List.getElem?_set_ne (Ne.symm hj)] at h2
    refine List.mem_cons.mpr (Or.inr (List.mem_filter.mpr ⟨(mem_en _ _ _).mpr ⟨q.1, by simp, h2⟩, ?_⟩))
    simp only [Bool.and_eq_true, Bool.not_eq_true', beq_eq_false_iff_ne, ne_eq, hj, not_false_iff, true_and]
    cases i with
    | zero => simp
    | succ i =>
      by_cases hji : q.1 = i
      · rw [hji] at h2
        simp only [nol, h2] at hn
        simp at hn
        simp [hn]
      · simp [hji]
theorem Lv.set2 {ls : Array Slot} {nL : Nat} {lv : List (Option Value)} {i : Nat} {v : Value} (hn : nol lv i = true) (h : lv_has ls nL ((i, v) :: (en 0 lv).filter (fun q => !(q.1 == i) && (!(q.1 == i + 1) && !(q.1 + 1 == i && q.2.category == 2))))) : Lv ls nL ((lv.set i (some v)).set (i + 1) none) := by
  refine ⟨h.1, h.2.1, fun q hq => h.2.2 q ?_⟩
  obtain ⟨j, h1, h2⟩ := (mem_en _ _ _).mp hq
  rw [Nat.zero_add] at h1
  subst h1
  by_cases hj1 : q.1 = i + 1
  · rw [hj1] at h2
    by_cases hl : i + 1 < lv.length
    · rw [List.getElem?_set_self (by simpa using hl)] at h2
      cases h2
    · rw [List.getElem?_eq_none (by simp; omega)] at h2
      cases h2
  · rw [List.getElem?_set_ne (Ne.symm hj1)] at h2
    by_cases hj : q.1 = i
    · have h3 := h2
      rw [hj] at h3
      by_cases hl : i < lv.length
      · rw [List.getElem?_set_self hl] at h3
        refine List.mem_cons.mpr (Or.inl ?_)
        obtain ⟨q1, q2⟩ := q
        simp at h3 hj
        rw [hj, h3]
      · rw [List.getElem?_eq_none (by simp; omega)] at h3
        cases h3
    · rw [List.getElem?_set_ne (Ne.symm hj)] at h2
      refine List.mem_cons.mpr (Or.inr (List.mem_filter.mpr ⟨(mem_en _ _ _).mpr ⟨q.1, by simp, h2⟩, ?_⟩))
      simp only [Bool.and_eq_true, Bool.not_eq_true', beq_eq_false_iff_ne, ne_eq, hj, hj1, not_false_iff, true_and]
      cases i with
      | zero => simp
      | succ i =>
        by_cases hji : q.1 = i
        · rw [hji] at h2
          simp only [nol, h2] at hn
          simp at hn
          simp [hn]
        · simp [hji]
abbrev QBt : Type := List Frame → Array Value → State → State → Prop
abbrev Kx : Type := Gl × Room × Mt × QBt
abbrev Tx : Type := Nat × Nat × Nat × RM
/-- what is known of the method that runs -/
def Cx (K : Kx) (p : Program) (s : State) (m : MethodId) (args : Array Value) (meth : Method) (c : Code) : Prop :=
  p.tables.exec = Jvm.exec ∧ c.code = K.2.2.1.2.1 ∧ c.maxLocals = K.2.2.1.2.2.1 ∧ s.vm.findClass K.2.2.1.1.cls = some m.cls ∧ (∀ w ∈ gw, w.before args s = true) ∧ KW K.1 s ∧ meth.sig.returnType = K.2.2.1.2.2.2 ∧ meth.locks = false ∧ meth.name = K.2.2.1.1.name
def Wp (K : Kx) (T : Tx) (pc : Nat) (lv : List (Option Value)) (st : List Value) (I : IM) (L : LM) : Prop :=
  ∀ (p : Program) (e : Env) (s : State) (m : MethodId) (args : Array Value) (below : List Frame) (meth : Method) (c : Code) (H : Heap) (locs : List Loc) (ls : Array Slot),
    Cx K p s m args meth c → HP K.1 T.2.2.1 T.2.2.2 I L H → (∀ q ∈ locs, gB K.1 ≤ q.base) → Lv ls K.2.2.1.2.2.1 lv →
    W p K.1.1 e K.2.1 s m args below meth c H locs T.1 T.2.1 (K.2.2.2 below args s) (F0 m pc ls st)
section Rules
variable {K : Kx} {T : Tx} {pc : Nat} {lv : List (Option Value)} {st : List Value} {I : IM} {L : LM}
theorem wq_iconst (q : Nat) {n : Int} (v : Int32) (hd : decode K.2.2.1.2.1 pc = .ok (.iconst n, 1)) (hq : pc + 1 = q) (hv : Int32.ofInt n = v) (kk : Wp K T q lv (.int v :: st) I L) : Wp K T pc lv (st) I L := by
  subst hq
  intro p e s m args below meth c H locs ls C hP hF hl
  exact lv_iconst C.1 C.2.1 hd hv (kk p e s m args below meth c H locs ls C hP hF hl)
theorem wq_bipush (q : Nat) {n : Int} (v : Int32) (hd : decode K.2.2.1.2.1 pc = .ok (.bipush n, 2)) (hq : pc + 2 = q) (hv : (Int8.ofInt n).toInt32 = v) (kk : Wp K T q lv (.int v :: st) I L) : Wp K T pc lv (st) I L := by
  subst hq
  intro p e s m args below meth c H locs ls C hP hF hl
  exact lv_bipush C.1 C.2.1 hd hv (kk p e s m args below meth c H locs ls C hP hF hl)
theorem wq_sipush (q : Nat) {n : Int} (v : Int32) (hd : decode K.2.2.1.2.1 pc = .ok (.sipush n, 3)) (hq : pc + 3 = q) (hv : (Int16.ofInt n).toInt32 = v) (kk : Wp K T q lv (.int v :: st) I L) : Wp K T pc lv (st) I L := by
  subst hq
  intro p e s m args below meth c H locs ls C hP hF hl
  exact lv_sipush C.1 C.2.1 hd hv (kk p e s m args below meth c H locs ls C hP hF hl)
theorem wq_lconst (q : Nat) {n : Fin 2} (v : Int64) (hd : decode K.2.2.1.2.1 pc = .ok (.lconst n, 1)) (hq : pc + 1 = q) (hv : Int64.ofNat (n : Nat) = v) (kk : Wp K T q lv (.long v :: st) I L) : Wp K T pc lv (st) I L := by
  subst hq
  intro p e s m args below meth c H locs ls C hP hF hl
  exact lv_lconst C.1 C.2.1 hd hv (kk p e s m args below meth c H locs ls C hP hF hl)
theorem wq_iload_n (q : Nat) (i : Nat) {k : Fin 4} {x : Int32} (hd : decode K.2.2.1.2.1 pc = .ok (.iload_n k, 1)) (hq : pc + 1 = q) (hi : (k : Nat) = i) (hv : lv[i]? = some (some (.int x))) (kk : Wp K T q lv (.int x :: st) I L) : Wp K T pc lv (st) I L := by
  subst hq
  intro p e s m args below meth c H locs ls C hP hF hl
  exact lv_iload_n C.1 C.2.1 hd hi (hl.at hv) (kk p e s m args below meth c H locs ls C hP hF hl)
theorem wq_iload (q : Nat) {i : Nat} {x : Int32} (hd : decode K.2.2.1.2.1 pc = .ok (.iload i, 2)) (hq : pc + 2 = q) (hv : lv[i]? = some (some (.int x))) (kk : Wp K T q lv (.int x :: st) I L) : Wp K T pc lv (st) I L := by
  subst hq
  intro p e s m args below meth c H locs ls C hP hF hl
  exact lv_iload C.1 C.2.1 hd (hl.at hv) (kk p e s m args below meth c H locs ls C hP hF hl)
theorem wq_lload_n (q : Nat) (i : Nat) {k : Fin 4} {x : Int64} (hd : decode K.2.2.1.2.1 pc = .ok (.lload_n k, 1)) (hq : pc + 1 = q) (hi : (k : Nat) = i) (hv : lv[i]? = some (some (.long x))) (kk : Wp K T q lv (.long x :: st) I L) : Wp K T pc lv (st) I L := by
  subst hq
  intro p e s m args below meth c H locs ls C hP hF hl
  exact lv_lload_n C.1 C.2.1 hd hi (hl.at hv) (kk p e s m args below meth c H locs ls C hP hF hl)
theorem wq_lload (q : Nat) {i : Nat} {x : Int64} (hd : decode K.2.2.1.2.1 pc = .ok (.lload i, 2)) (hq : pc + 2 = q) (hv : lv[i]? = some (some (.long x))) (kk : Wp K T q lv (.long x :: st) I L) : Wp K T pc lv (st) I L := by
  subst hq
  intro p e s m args below meth c H locs ls C hP hF hl
  exact lv_lload C.1 C.2.1 hd (hl.at hv) (kk p e s m args below meth c H locs ls C hP hF hl)
theorem wq_aload_n (q : Nat) (i : Nat) {k : Fin 4} {x : Nat} (hd : decode K.2.2.1.2.1 pc = .ok (.aload_n k, 1)) (hq : pc + 1 = q) (hi : (k : Nat) = i) (hv : lv[i]? = some (some (.ref x))) (kk : Wp K T q lv (.ref x :: st) I L) : Wp K T pc lv (st) I L := by
  subst hq
  intro p e s m args below meth c H locs ls C hP hF hl
  exact lv_aload_n C.1 C.2.1 hd hi (hl.at hv) (kk p e s m args below meth c H locs ls C hP hF hl)
theorem wq_aload (q : Nat) {i : Nat} {x : Nat} (hd : decode K.2.2.1.2.1 pc = .ok (.aload i, 2)) (hq : pc + 2 = q) (hv : lv[i]? = some (some (.ref x))) (kk : Wp K T q lv (.ref x :: st) I L) : Wp K T pc lv (st) I L := by
  subst hq
  intro p e s m args below meth c H locs ls C hP hF hl
  exact lv_aload C.1 C.2.1 hd (hl.at hv) (kk p e s m args below meth c H locs ls C hP hF hl)
theorem wq_bload_n (q : Nat) (i : Nat) {k : Fin 4} {x : Nat} (hd : decode K.2.2.1.2.1 pc = .ok (.aload_n k, 1)) (hq : pc + 1 = q) (hi : (k : Nat) = i) (hv : lv[i]? = some (some (rf K.1 x))) (kk : Wp K T q lv (rf K.1 x :: st) I L) : Wp K T pc lv (st) I L := by
  subst hq
  intro p e s m args below meth c H locs ls C hP hF hl
  exact lv_aload_n C.1 C.2.1 hd hi (hl.at hv) (kk p e s m args below meth c H locs ls C hP hF hl)
theorem wq_bload (q : Nat) {i : Nat} {x : Nat} (hd : decode K.2.2.1.2.1 pc = .ok (.aload i, 2)) (hq : pc + 2 = q) (hv : lv[i]? = some (some (rf K.1 x))) (kk : Wp K T q lv (rf K.1 x :: st) I L) : Wp K T pc lv (st) I L := by
  subst hq
  intro p e s m args below meth c H locs ls C hP hF hl
  exact lv_aload C.1 C.2.1 hd (hl.at hv) (kk p e s m args below meth c H locs ls C hP hF hl)
theorem wq_istore_n (q : Nat) (i : Nat) {k : Fin 4} {x : Int32} (lv' : List (Option Value)) (hd : decode K.2.2.1.2.1 pc = .ok (.istore_n k, 1)) (hq : pc + 1 = q) (hi : (k : Nat) = i) (hn : nol lv i = true) (hs : i < K.2.2.1.2.2.1) (hv : lv.set i (some (.int x)) = lv') (kk : Wp K T q lv' st I L) : Wp K T pc lv (.int x :: st) I L := by
  subst hq
  intro p e s m args below meth c H locs ls C hP hF hl
  subst hv
  exact lv_istore_n C.1 C.2.1 hd hi hl hs rfl (fun ls1 hl1 => kk p e s m args below meth c H locs ls1 C hP hF (Lv.set1 hn hl1))
theorem wq_istore (q : Nat) {i : Nat} {x : Int32} (lv' : List (Option Value)) (hd : decode K.2.2.1.2.1 pc = .ok (.istore i, 2)) (hq : pc + 2 = q) (hn : nol lv i = true) (hs : i < K.2.2.1.2.2.1) (hv : lv.set i (some (.int x)) = lv') (kk : Wp K T q lv' st I L) : Wp K T pc lv (.int x :: st) I L := by
  subst hq
  intro p e s m args below meth c H locs ls C hP hF hl
  subst hv
  exact lv_istore C.1 C.2.1 hd hl hs rfl (fun ls1 hl1 => kk p e s m args below meth c H locs ls1 C hP hF (Lv.set1 hn hl1))
theorem wq_lstore_n (q : Nat) (i : Nat) {k : Fin 4} {x : Int64} (lv' : List (Option Value)) (hd : decode K.2.2.1.2.1 pc = .ok (.lstore_n k, 1)) (hq : pc + 1 = q) (hi : (k : Nat) = i) (hn : nol lv i = true) (hs : i + 1 < K.2.2.1.2.2.1) (hv : (lv.set i (some (.long x))).set (i + 1) none = lv') (kk : Wp K T q lv' st I L) : Wp K T pc lv (.long x :: st) I L := by
  subst hq
  intro p e s m args below meth c H locs ls C hP hF hl
  subst hv
  exact lv_lstore_n C.1 C.2.1 hd hi hl hs rfl (fun ls1 hl1 => kk p e s m args below meth c H locs ls1 C hP hF (Lv.set2 hn hl1))
theorem wq_lstore (q : Nat) {i : Nat} {x : Int64} (lv' : List (Option Value)) (hd : decode K.2.2.1.2.1 pc = .ok (.lstore i, 2)) (hq : pc + 2 = q) (hn : nol lv i = true) (hs : i + 1 < K.2.2.1.2.2.1) (hv : (lv.set i (some (.long x))).set (i + 1) none = lv') (kk : Wp K T q lv' st I L) : Wp K T pc lv (.long x :: st) I L := by
  subst hq
  intro p e s m args below meth c H locs ls C hP hF hl
  subst hv
  exact lv_lstore C.1 C.2.1 hd hl hs rfl (fun ls1 hl1 => kk p e s m args below meth c H locs ls1 C hP hF (Lv.set2 hn hl1))
theorem wq_astore_n (q : Nat) (i : Nat) {k : Fin 4} {x : Nat} (lv' : List (Option Value)) (hd : decode K.2.2.1.2.1 pc = .ok (.astore_n k, 1)) (hq : pc + 1 = q) (hi : (k : Nat) = i) (hn : nol lv i = true) (hs : i < K.2.2.1.2.2.1) (hv : lv.set i (some (.ref x)) = lv') (kk : Wp K T q lv' st I L) : Wp K T pc lv (.ref x :: st) I L := by
  subst hq
  intro p e s m args below meth c H locs ls C hP hF hl
  subst hv
  exact lv_astore_n C.1 C.2.1 hd hi hl hs rfl (fun ls1 hl1 => kk p e s m args below meth c H locs ls1 C hP hF (Lv.set1 hn hl1))
theorem wq_astore (q : Nat) {i : Nat} {x : Nat} (lv' : List (Option Value)) (hd : decode K.2.2.1.2.1 pc = .ok (.astore i, 2)) (hq : pc + 2 = q) (hn : nol lv i = true) (hs : i < K.2.2.1.2.2.1) (hv : lv.set i (some (.ref x)) = lv') (kk : Wp K T q lv' st I L) : Wp K T pc lv (.ref x :: st) I L := by
  subst hq
  intro p e s m args below meth c H locs ls C hP hF hl
  subst hv
  exact lv_astore C.1 C.2.1 hd hl hs rfl (fun ls1 hl1 => kk p e s m args below meth c H locs ls1 C hP hF (Lv.set1 hn hl1))
theorem wq_bstore_n (q : Nat) (i : Nat) {k : Fin 4} {x : Nat} (lv' : List (Option Value)) (hd : decode K.2.2.1.2.1 pc = .ok (.astore_n k, 1)) (hq : pc + 1 = q) (hi : (k : Nat) = i) (hn : nol lv i = true) (hs : i < K.2.2.1.2.2.1) (hv : lv.set i (some (rf K.1 x)) = lv') (kk : Wp K T q lv' st I L) : Wp K T pc lv (rf K.1 x :: st) I L := by
  subst hq
  intro p e s m args below meth c H locs ls C hP hF hl
  subst hv
  exact lv_astore_n C.1 C.2.1 hd hi hl hs rfl (fun ls1 hl1 => kk p e s m args below meth c H locs ls1 C hP hF (Lv.set1 hn hl1))
theorem wq_bstore (q : Nat) {i : Nat} {x : Nat} (lv' : List (Option Value)) (hd : decode K.2.2.1.2.1 pc = .ok (.astore i, 2)) (hq : pc + 2 = q) (hn : nol lv i = true) (hs : i < K.2.2.1.2.2.1) (hv : lv.set i (some (rf K.1 x)) = lv') (kk : Wp K T q lv' st I L) : Wp K T pc lv (rf K.1 x :: st) I L := by
  subst hq
  intro p e s m args below meth c H locs ls C hP hF hl
  subst hv
  exact lv_astore C.1 C.2.1 hd hl hs rfl (fun ls1 hl1 => kk p e s m args below meth c H locs ls1 C hP hF (Lv.set1 hn hl1))
theorem wq_iinc (q : Nat) {i : Nat} {n : Int} {x : Int32} (v : Int32) (lv' : List (Option Value)) (hd : decode K.2.2.1.2.1 pc = .ok (.iinc i n, 3)) (hq : pc + 3 = q) (hx : lv[i]? = some (some (.int x))) (hv : x + Int32.ofInt n = v) (hn : nol lv i = true) (hs : i < K.2.2.1.2.2.1) (hw : lv.set i (some (.int v)) = lv') (kk : Wp K T q lv' st I L) : Wp K T pc lv st I L := by
  subst hq
  intro p e s m args below meth c H locs ls C hP hF hl
  subst hw
  obtain ⟨k, hk⟩ := List.getElem?_of_mem ((mem_en lv 0 (i, .int x)).mpr ⟨i, by simp, hx⟩)
  exact lv_iinc C.1 C.2.1 hd hl hk hv hs rfl (fun ls1 hl1 => kk p e s m args below meth c H locs ls1 C hP hF (Lv.set1 hn hl1))
theorem wq_iadd (q : Nat) {x y : Int32} (hd : decode K.2.2.1.2.1 pc = .ok (.iadd, 1)) (hq : pc + 1 = q)  (kk : Wp K T q lv (.int (x + y) :: st) I L) : Wp K T pc lv (.int y :: .int x :: st) I L := by
  subst hq
  intro p e s m args below meth c H locs ls C hP hF hl
  exact lv_iadd C.1 C.2.1 hd  (kk p e s m args below meth c H locs ls C hP hF hl)
theorem wq_isub (q : Nat) {x y : Int32} (hd : decode K.2.2.1.2.1 pc = .ok (.isub, 1)) (hq : pc + 1 = q)  (kk : Wp K T q lv (.int (x - y) :: st) I L) : Wp K T pc lv (.int y :: .int x :: st) I L := by
  subst hq
  intro p e s m args below meth c H locs ls C hP hF hl
  exact lv_isub C.1 C.2.1 hd  (kk p e s m args below meth c H locs ls C hP hF hl)
theorem wq_imul (q : Nat) {x y : Int32} (hd : decode K.2.2.1.2.1 pc = .ok (.imul, 1)) (hq : pc + 1 = q)  (kk : Wp K T q lv (.int (x * y) :: st) I L) : Wp K T pc lv (.int y :: .int x :: st) I L := by
  subst hq
  intro p e s m args below meth c H locs ls C hP hF hl
  exact lv_imul C.1 C.2.1 hd  (kk p e s m args below meth c H locs ls C hP hF hl)
theorem wq_iand (q : Nat) {x y : Int32} (hd : decode K.2.2.1.2.1 pc = .ok (.iand, 1)) (hq : pc + 1 = q)  (kk : Wp K T q lv (.int (x &&& y) :: st) I L) : Wp K T pc lv (.int y :: .int x :: st) I L := by
  subst hq
  intro p e s m args below meth c H locs ls C hP hF hl
  exact lv_iand C.1 C.2.1 hd  (kk p e s m args below meth c H locs ls C hP hF hl)
theorem wq_ior (q : Nat) {x y : Int32} (hd : decode K.2.2.1.2.1 pc = .ok (.ior, 1)) (hq : pc + 1 = q)  (kk : Wp K T q lv (.int (x ||| y) :: st) I L) : Wp K T pc lv (.int y :: .int x :: st) I L := by
  subst hq
  intro p e s m args below meth c H locs ls C hP hF hl
  exact lv_ior C.1 C.2.1 hd  (kk p e s m args below meth c H locs ls C hP hF hl)
theorem wq_ishl (q : Nat) {x y : Int32} (hd : decode K.2.2.1.2.1 pc = .ok (.ishl, 1)) (hq : pc + 1 = q)  (kk : Wp K T q lv (.int (x <<< (y &&& 31)) :: st) I L) : Wp K T pc lv (.int y :: .int x :: st) I L := by
  subst hq
  intro p e s m args below meth c H locs ls C hP hF hl
  exact lv_ishl C.1 C.2.1 hd  (kk p e s m args below meth c H locs ls C hP hF hl)
theorem wq_ishr (q : Nat) {x y : Int32} (hd : decode K.2.2.1.2.1 pc = .ok (.ishr, 1)) (hq : pc + 1 = q)  (kk : Wp K T q lv (.int (x >>> (y &&& 31)) :: st) I L) : Wp K T pc lv (.int y :: .int x :: st) I L := by
  subst hq
  intro p e s m args below meth c H locs ls C hP hF hl
  exact lv_ishr C.1 C.2.1 hd  (kk p e s m args below meth c H locs ls C hP hF hl)
theorem wq_idiv (q : Nat) {x y : Int32} (hd : decode K.2.2.1.2.1 pc = .ok (.idiv, 1)) (hq : pc + 1 = q) (hne : ¬ y = 0) (kk : Wp K T q lv (.int (x / y) :: st) I L) : Wp K T pc lv (.int y :: .int x :: st) I L := by
  subst hq
  intro p e s m args below meth c H locs ls C hP hF hl
  exact lv_idiv C.1 C.2.1 hd hne (kk p e s m args below meth c H locs ls C hP hF hl)
theorem wq_irem (q : Nat) {x y : Int32} (hd : decode K.2.2.1.2.1 pc = .ok (.irem, 1)) (hq : pc + 1 = q) (hne : ¬ y = 0) (kk : Wp K T q lv (.int (x - x / y * y) :: st) I L) : Wp K T pc lv (.int y :: .int x :: st) I L := by
  subst hq
  intro p e s m args below meth c H locs ls C hP hF hl
  exact lv_irem C.1 C.2.1 hd hne (kk p e s m args below meth c H locs ls C hP hF hl)
theorem wq_iushr (q : Nat) {x y : Int32} (hd : decode K.2.2.1.2.1 pc = .ok (.iushr, 1)) (hq : pc + 1 = q)  (kk : Wp K T q lv (.int ((x.toUInt32 >>> (y.toUInt32 &&& Int32.toUInt32 31)).toInt32) :: st) I L) : Wp K T pc lv (.int y :: .int x :: st) I L := by
  subst hq
  intro p e s m args below meth c H locs ls C hP hF hl
  exact lv_iushr C.1 C.2.1 hd rfl (kk p e s m args below meth c H locs ls C hP hF hl)
theorem wq_ladd (q : Nat) {x y : Int64} (hd : decode K.2.2.1.2.1 pc = .ok (.ladd, 1)) (hq : pc + 1 = q)  (kk : Wp K T q lv (.long (x + y) :: st) I L) : Wp K T pc lv (.long y :: .long x :: st) I L := by
  subst hq
  intro p e s m args below meth c H locs ls C hP hF hl
  exact lv_ladd C.1 C.2.1 hd  (kk p e s m args below meth c H locs ls C hP hF hl)
theorem wq_lsub (q : Nat) {x y : Int64} (hd : decode K.2.2.1.2.1 pc = .ok (.lsub, 1)) (hq : pc + 1 = q)  (kk : Wp K T q lv (.long (x - y) :: st) I L) : Wp K T pc lv (.long y :: .long x :: st) I L := by
  subst hq
  intro p e s m args below meth c H locs ls C hP hF hl
  exact lv_lsub C.1 C.2.1 hd  (kk p e s m args below meth c H locs ls C hP hF hl)
theorem wq_lmul (q : Nat) {x y : Int64} (hd : decode K.2.2.1.2.1 pc = .ok (.lmul, 1)) (hq : pc + 1 = q)  (kk : Wp K T q lv (.long (x * y) :: st) I L) : Wp K T pc lv (.long y :: .long x :: st) I L := by
  subst hq
  intro p e s m args below meth c H locs ls C hP hF hl
  exact lv_lmul C.1 C.2.1 hd  (kk p e s m args below meth c H locs ls C hP hF hl)
theorem wq_land (q : Nat) {x y : Int64} (hd : decode K.2.2.1.2.1 pc = .ok (.land, 1)) (hq : pc + 1 = q)  (kk : Wp K T q lv (.long (x &&& y) :: st) I L) : Wp K T pc lv (.long y :: .long x :: st) I L := by
  subst hq
  intro p e s m args below meth c H locs ls C hP hF hl
  exact lv_land C.1 C.2.1 hd  (kk p e s m args below meth c H locs ls C hP hF hl)
theorem wq_lor (q : Nat) {x y : Int64} (hd : decode K.2.2.1.2.1 pc = .ok (.lor, 1)) (hq : pc + 1 = q)  (kk : Wp K T q lv (.long (x ||| y) :: st) I L) : Wp K T pc lv (.long y :: .long x :: st) I L := by
  subst hq
  intro p e s m args below meth c H locs ls C hP hF hl
  exact lv_lor C.1 C.2.1 hd  (kk p e s m args below meth c H locs ls C hP hF hl)
theorem wq_lxor (q : Nat) {x y : Int64} (hd : decode K.2.2.1.2.1 pc = .ok (.lxor, 1)) (hq : pc + 1 = q)  (kk : Wp K T q lv (.long (x ^^^ y) :: st) I L) : Wp K T pc lv (.long y :: .long x :: st) I L := by
  subst hq
  intro p e s m args below meth c H locs ls C hP hF hl
  exact lv_lxor C.1 C.2.1 hd  (kk p e s m args below meth c H locs ls C hP hF hl)
theorem wq_ldiv (q : Nat) {x y : Int64} (hd : decode K.2.2.1.2.1 pc = .ok (.ldiv, 1)) (hq : pc + 1 = q) (hne : ¬ y = 0) (kk : Wp K T q lv (.long (x / y) :: st) I L) : Wp K T pc lv (.long y :: .long x :: st) I L := by
  subst hq
  intro p e s m args below meth c H locs ls C hP hF hl
  exact lv_ldiv C.1 C.2.1 hd hne (kk p e s m args below meth c H locs ls C hP hF hl)
theorem wq_lrem (q : Nat) {x y : Int64} (hd : decode K.2.2.1.2.1 pc = .ok (.lrem, 1)) (hq : pc + 1 = q) (hne : ¬ y = 0) (kk : Wp K T q lv (.long (x - x / y * y) :: st) I L) : Wp K T pc lv (.long y :: .long x :: st) I L := by
  subst hq
  intro p e s m args below meth c H locs ls C hP hF hl
  exact lv_lrem C.1 C.2.1 hd hne (kk p e s m args below meth c H locs ls C hP hF hl)
theorem wq_lshl (q : Nat) {x : Int64} {y : Int32} (hd : decode K.2.2.1.2.1 pc = .ok (.lshl, 1)) (hq : pc + 1 = q)  (kk : Wp K T q lv (.long (x <<< (y.toInt64 &&& 63)) :: st) I L) : Wp K T pc lv (.int y :: .long x :: st) I L := by
  subst hq
  intro p e s m args below meth c H locs ls C hP hF hl
  exact lv_lshl C.1 C.2.1 hd rfl (kk p e s m args below meth c H locs ls C hP hF hl)
theorem wq_lshr (q : Nat) {x : Int64} {y : Int32} (hd : decode K.2.2.1.2.1 pc = .ok (.lshr, 1)) (hq : pc + 1 = q)  (kk : Wp K T q lv (.long (x >>> (y.toInt64 &&& 63)) :: st) I L) : Wp K T pc lv (.int y :: .long x :: st) I L := by
  subst hq
  intro p e s m args below meth c H locs ls C hP hF hl
  exact lv_lshr C.1 C.2.1 hd rfl (kk p e s m args below meth c H locs ls C hP hF hl)
theorem wq_lushr (q : Nat) {x : Int64} {y : Int32} (hd : decode K.2.2.1.2.1 pc = .ok (.lushr, 1)) (hq : pc + 1 = q)  (kk : Wp K T q lv (.long ((x.toUInt64 >>> (y.toInt64.toUInt64 &&& Int64.toUInt64 63)).toInt64) :: st) I L) : Wp K T pc lv (.int y :: .long x :: st) I L := by
  subst hq
  intro p e s m args below meth c H locs ls C hP hF hl
  exact lv_lushr C.1 C.2.1 hd rfl (kk p e s m args below meth c H locs ls C hP hF hl)
theorem wq_i2l (q : Nat) {x : Int32} (hd : decode K.2.2.1.2.1 pc = .ok (.i2l, 1)) (hq : pc + 1 = q)  (kk : Wp K T q lv (.long x.toInt64 :: st) I L) : Wp K T pc lv (.int x :: st) I L := by
  subst hq
  intro p e s m args below meth c H locs ls C hP hF hl
  exact lv_i2l C.1 C.2.1 hd rfl (kk p e s m args below meth c H locs ls C hP hF hl)
theorem wq_l2i (q : Nat) {x : Int64} (hd : decode K.2.2.1.2.1 pc = .ok (.l2i, 1)) (hq : pc + 1 = q)  (kk : Wp K T q lv (.int x.toInt32 :: st) I L) : Wp K T pc lv (.long x :: st) I L := by
  subst hq
  intro p e s m args below meth c H locs ls C hP hF hl
  exact lv_l2i C.1 C.2.1 hd rfl (kk p e s m args below meth c H locs ls C hP hF hl)
theorem wq_i2c (q : Nat) {x : Int32} (hd : decode K.2.2.1.2.1 pc = .ok (.i2c, 1)) (hq : pc + 1 = q)  (kk : Wp K T q lv (.int (x.toUInt32 % 65536).toInt32 :: st) I L) : Wp K T pc lv (.int x :: st) I L := by
  subst hq
  intro p e s m args below meth c H locs ls C hP hF hl
  exact lv_i2c C.1 C.2.1 hd rfl (kk p e s m args below meth c H locs ls C hP hF hl)
theorem wq_i2b (q : Nat) {x : Int32} (hd : decode K.2.2.1.2.1 pc = .ok (.i2b, 1)) (hq : pc + 1 = q)  (kk : Wp K T q lv (.int x.toInt8.toInt32 :: st) I L) : Wp K T pc lv (.int x :: st) I L := by
  subst hq
  intro p e s m args below meth c H locs ls C hP hF hl
  exact lv_i2b C.1 C.2.1 hd rfl (kk p e s m args below meth c H locs ls C hP hF hl)
theorem wq_lcmp (q : Nat) {x y : Int64} (hd : decode K.2.2.1.2.1 pc = .ok (.lcmp, 1)) (hq : pc + 1 = q)  (kk : Wp K T q lv (.int (lg_cmp x y) :: st) I L) : Wp K T pc lv (.long y :: .long x :: st) I L := by
  subst hq
  intro p e s m args below meth c H locs ls C hP hF hl
  exact W.lcmp C.1 C.2.1 hd  (kk p e s m args below meth c H locs ls C hP hF hl)
theorem wq_dup (q : Nat) {va : Value} (hd : decode K.2.2.1.2.1 pc = .ok (.dup, 1)) (hq : pc + 1 = q) (hv : va.category = 1) (kk : Wp K T q lv (va :: va :: st) I L) : Wp K T pc lv (va :: st) I L := by
  subst hq
  intro p e s m args below meth c H locs ls C hP hF hl
  exact lv_dup C.1 C.2.1 hd hv (kk p e s m args below meth c H locs ls C hP hF hl)
theorem wq_pop (q : Nat) {va : Value} (hd : decode K.2.2.1.2.1 pc = .ok (.pop, 1)) (hq : pc + 1 = q) (hv : va.category = 1) (kk : Wp K T q lv (st) I L) : Wp K T pc lv (va :: st) I L := by
  subst hq
  intro p e s m args below meth c H locs ls C hP hF hl
  exact lv_pop C.1 C.2.1 hd hv (kk p e s m args below meth c H locs ls C hP hF hl)
theorem wq_dup2 (q : Nat) {va vb : Value} (hd : decode K.2.2.1.2.1 pc = .ok (.dup2, 1)) (hq : pc + 1 = q) (hv : va.category = 1) (hw : vb.category = 1) (kk : Wp K T q lv (va :: vb :: va :: vb :: st) I L) : Wp K T pc lv (va :: vb :: st) I L := by
  subst hq
  intro p e s m args below meth c H locs ls C hP hF hl
  exact lv_dup2_11 C.1 C.2.1 hd hv hw (kk p e s m args below meth c H locs ls C hP hF hl)
theorem wq_dup2l (q : Nat) {va : Value} (hd : decode K.2.2.1.2.1 pc = .ok (.dup2, 1)) (hq : pc + 1 = q) (hv : va.category = 2) (kk : Wp K T q lv (va :: va :: st) I L) : Wp K T pc lv (va :: st) I L := by
  subst hq
  intro p e s m args below meth c H locs ls C hP hF hl
  exact lv_dup2_2 C.1 C.2.1 hd hv (kk p e s m args below meth c H locs ls C hP hF hl)
theorem wq_dup_x1 (q : Nat) {va vb : Value} (hd : decode K.2.2.1.2.1 pc = .ok (.dup_x1, 1)) (hq : pc + 1 = q) (hv : va.category = 1) (hw : vb.category = 1) (kk : Wp K T q lv (va :: vb :: va :: st) I L) : Wp K T pc lv (va :: vb :: st) I L := by
  subst hq
  intro p e s m args below meth c H locs ls C hP hF hl
  exact lv_dup_x1 C.1 C.2.1 hd hv hw (kk p e s m args below meth c H locs ls C hP hF hl)
theorem wq_if_eq (q t : Nat) {x : Int32} {off : Int} (hd : decode K.2.2.1.2.1 pc = .ok (.ifCond .eq off, 3)) (hq : pc + 3 = q) (ht : (pc : Int) + off = (t : Int)) (kt : x = 0 → Wp K T t lv st I L) (kf : ¬ x = 0 → Wp K T q lv st I L) : Wp K T pc lv (.int x :: st) I L := by
  subst hq
  intro p e s m args below meth c H locs ls C hP hF hl
  exact lv_if_eq C.1 C.2.1 hd ht (fun h => kt h p e s m args below meth c H locs ls C hP hF hl) (fun h => kf h p e s m args below meth c H locs ls C hP hF hl)
theorem wq_ic_eq (q t : Nat) {x y : Int32} {off : Int} (hd : decode K.2.2.1.2.1 pc = .ok (.if_icmp .eq off, 3)) (hq : pc + 3 = q) (ht : (pc : Int) + off = (t : Int)) (kt : x = y → Wp K T t lv st I L) (kf : ¬ x = y → Wp K T q lv st I L) : Wp K T pc lv (.int y :: .int x :: st) I L := by
  subst hq
  intro p e s m args below meth c H locs ls C hP hF hl
  exact lv_icmp_eq C.1 C.2.1 hd ht (fun h => kt h p e s m args below meth c H locs ls C hP hF hl) (fun h => kf h p e s m args below meth c H locs ls C hP hF hl)
theorem wq_if_ne (q t : Nat) {x : Int32} {off : Int} (hd : decode K.2.2.1.2.1 pc = .ok (.ifCond .ne off, 3)) (hq : pc + 3 = q) (ht : (pc : Int) + off = (t : Int)) (kt : ¬ x = 0 → Wp K T t lv st I L) (kf : x = 0 → Wp K T q lv st I L) : Wp K T pc lv (.int x :: st) I L := by
  subst hq
  intro p e s m args below meth c H locs ls C hP hF hl
  exact lv_if_ne C.1 C.2.1 hd ht (fun h => kt h p e s m args below meth c H locs ls C hP hF hl) (fun h => kf h p e s m args below meth c H locs ls C hP hF hl)
theorem wq_ic_ne (q t : Nat) {x y : Int32} {off : Int} (hd : decode K.2.2.1.2.1 pc = .ok (.if_icmp .ne off, 3)) (hq : pc + 3 = q) (ht : (pc : Int) + off = (t : Int)) (kt : ¬ x = y → Wp K T t lv st I L) (kf : x = y → Wp K T q lv st I L) : Wp K T pc lv (.int y :: .int x :: st) I L := by
  subst hq
  intro p e s m args below meth c H locs ls C hP hF hl
  exact lv_icmp_ne C.1 C.2.1 hd ht (fun h => kt h p e s m args below meth c H locs ls C hP hF hl) (fun h => kf h p e s m args below meth c H locs ls C hP hF hl)
theorem wq_if_lt (q t : Nat) {x : Int32} {off : Int} (hd : decode K.2.2.1.2.1 pc = .ok (.ifCond .lt off, 3)) (hq : pc + 3 = q) (ht : (pc : Int) + off = (t : Int)) (kt : x < 0 → Wp K T t lv st I L) (kf : ¬ x < 0 → Wp K T q lv st I L) : Wp K T pc lv (.int x :: st) I L := by
  subst hq
  intro p e s m args below meth c H locs ls C hP hF hl
  exact lv_if_lt C.1 C.2.1 hd ht (fun h => kt h p e s m args below meth c H locs ls C hP hF hl) (fun h => kf h p e s m args below meth c H locs ls C hP hF hl)
theorem wq_ic_lt (q t : Nat) {x y : Int32} {off : Int} (hd : decode K.2.2.1.2.1 pc = .ok (.if_icmp .lt off, 3)) (hq : pc + 3 = q) (ht : (pc : Int) + off = (t : Int)) (kt : x < y → Wp K T t lv st I L) (kf : ¬ x < y → Wp K T q lv st I L) : Wp K T pc lv (.int y :: .int x :: st) I L := by
  subst hq
  intro p e s m args below meth c H locs ls C hP hF hl
  exact lv_icmp_lt C.1 C.2.1 hd ht (fun h => kt h p e s m args below meth c H locs ls C hP hF hl) (fun h => kf h p e s m args below meth c H locs ls C hP hF hl)
theorem wq_if_ge (q t : Nat) {x : Int32} {off : Int} (hd : decode K.2.2.1.2.1 pc = .ok (.ifCond .ge off, 3)) (hq : pc + 3 = q) (ht : (pc : Int) + off = (t : Int)) (kt : 0 ≤ x → Wp K T t lv st I L) (kf : ¬ 0 ≤ x → Wp K T q lv st I L) : Wp K T pc lv (.int x :: st) I L := by
  subst hq
  intro p e s m args below meth c H locs ls C hP hF hl
  exact lv_if_ge C.1 C.2.1 hd ht (fun h => kt h p e s m args below meth c H locs ls C hP hF hl) (fun h => kf h p e s m args below meth c H locs ls C hP hF hl)
theorem wq_ic_ge (q t : Nat) {x y : Int32} {off : Int} (hd : decode K.2.2.1.2.1 pc = .ok (.if_icmp .ge off, 3)) (hq : pc + 3 = q) (ht : (pc : Int) + off = (t : Int)) (kt : y ≤ x → Wp K T t lv st I L) (kf : ¬ y ≤ x → Wp K T q lv st I L) : Wp K T pc lv (.int y :: .int x :: st) I L := by
  subst hq
  intro p e s m args below meth c H locs ls C hP hF hl
  exact lv_icmp_ge C.1 C.2.1 hd ht (fun h => kt h p e s m args below meth c H locs ls C hP hF hl) (fun h => kf h p e s m args below meth c H locs ls C hP hF hl)
theorem wq_if_gt (q t : Nat) {x : Int32} {off : Int} (hd : decode K.2.2.1.2.1 pc = .ok (.ifCond .gt off, 3)) (hq : pc + 3 = q) (ht : (pc : Int) + off = (t : Int)) (kt : 0 < x → Wp K T t lv st I L) (kf : ¬ 0 < x → Wp K T q lv st I L) : Wp K T pc lv (.int x :: st) I L := by
  subst hq
  intro p e s m args below meth c H locs ls C hP hF hl
  exact lv_if_gt C.1 C.2.1 hd ht (fun h => kt h p e s m args below meth c H locs ls C hP hF hl) (fun h => kf h p e s m args below meth c H locs ls C hP hF hl)
theorem wq_ic_gt (q t : Nat) {x y : Int32} {off : Int} (hd : decode K.2.2.1.2.1 pc = .ok (.if_icmp .gt off, 3)) (hq : pc + 3 = q) (ht : (pc : Int) + off = (t : Int)) (kt : y < x → Wp K T t lv st I L) (kf : ¬ y < x → Wp K T q lv st I L) : Wp K T pc lv (.int y :: .int x :: st) I L := by
  subst hq
  intro p e s m args below meth c H locs ls C hP hF hl
  exact lv_icmp_gt C.1 C.2.1 hd ht (fun h => kt h p e s m args below meth c H locs ls C hP hF hl) (fun h => kf h p e s m args below meth c H locs ls C hP hF hl)
theorem wq_if_le (q t : Nat) {x : Int32} {off : Int} (hd : decode K.2.2.1.2.1 pc = .ok (.ifCond .le off, 3)) (hq : pc + 3 = q) (ht : (pc : Int) + off = (t : Int)) (kt : x ≤ 0 → Wp K T t lv st I L) (kf : ¬ x ≤ 0 → Wp K T q lv st I L) : Wp K T pc lv (.int x :: st) I L := by
  subst hq
  intro p e s m args below meth c H locs ls C hP hF hl
  exact lv_if_le C.1 C.2.1 hd ht (fun h => kt h p e s m args below meth c H locs ls C hP hF hl) (fun h => kf h p e s m args below meth c H locs ls C hP hF hl)
theorem wq_ic_le (q t : Nat) {x y : Int32} {off : Int} (hd : decode K.2.2.1.2.1 pc = .ok (.if_icmp .le off, 3)) (hq : pc + 3 = q) (ht : (pc : Int) + off = (t : Int)) (kt : x ≤ y → Wp K T t lv st I L) (kf : ¬ x ≤ y → Wp K T q lv st I L) : Wp K T pc lv (.int y :: .int x :: st) I L := by
  subst hq
  intro p e s m args below meth c H locs ls C hP hF hl
  exact lv_icmp_le C.1 C.2.1 hd ht (fun h => kt h p e s m args below meth c H locs ls C hP hF hl) (fun h => kf h p e s m args below meth c H locs ls C hP hF hl)
theorem wq_goto (t : Nat) {off : Int} (hd : decode K.2.2.1.2.1 pc = .ok (.goto off, 3)) (ht : (pc : Int) + off = (t : Int)) (kk : Wp K T t lv st I L) : Wp K T pc lv st I L := by
  intro p e s m args below meth c H locs ls C hP hF hl
  exact lv_goto C.1 C.2.1 hd ht (kk p e s m args below meth c H locs ls C hP hF hl)
theorem wq_ldc (q : Nat) {i : Nat} (v : Int32) (hd : decode K.2.2.1.2.1 pc = .ok (.ldc i, 2)) (hq : pc + 2 = q) (hw : Cond.constant K.2.2.1.1.cls i v ∈ gw) (kk : Wp K T q lv (.int v :: st) I L) : Wp K T pc lv st I L := by
  subst hq
  intro p e s m args below meth c H locs ls C hP hF hl
  exact lv_ldc C.1 C.2.1 C.2.2.2.1 (C.2.2.2.2.1 _ hw) hd (kk p e s m args below meth c H locs ls C hP hF hl)
theorem wq_ldcw (q : Nat) {i : Nat} (v : Int32) (hd : decode K.2.2.1.2.1 pc = .ok (.ldc_w i, 3)) (hq : pc + 3 = q) (hw : Cond.constant K.2.2.1.1.cls i v ∈ gw) (kk : Wp K T q lv (.int v :: st) I L) : Wp K T pc lv st I L := by
  subst hq
  intro p e s m args below meth c H locs ls C hP hF hl
  exact lv_ldcw C.1 C.2.1 C.2.2.2.1 (C.2.2.2.2.1 _ hw) hd (kk p e s m args below meth c H locs ls C hP hF hl)
theorem wq_ldc2 (q : Nat) {i : Nat} (v : Int64) (hd : decode K.2.2.1.2.1 pc = .ok (.ldc2_w i, 3)) (hq : pc + 3 = q) (hw : Cond.constantLong K.2.2.1.1.cls i v ∈ gw) (kk : Wp K T q lv (.long v :: st) I L) : Wp K T pc lv st I L := by
  subst hq
  intro p e s m args below meth c H locs ls C hP hF hl
  exact lv_ldc2 C.1 C.2.1 C.2.2.2.1 (C.2.2.2.2.1 _ hw) hd (kk p e s m args below meth c H locs ls C hP hF hl)
theorem wq_tabIn (t : Nat) {dflt lo hi : Int} {offs : Array Int} {len : Nat} {x : Int32} {off : Int} (hd : decode K.2.2.1.2.1 pc = .ok (.tableswitch dflt lo hi offs, len)) (h1 : ¬ x.toInt < lo) (h2 : ¬ hi < x.toInt) (ho : offs[(x.toInt - lo).toNat]? = some off) (ht : (pc : Int) + off = (t : Int)) (kk : Wp K T t lv st I L) : Wp K T pc lv (.int x :: st) I L := by
  intro p e s m args below meth c H locs ls C hP hF hl
  exact lv_tableIn C.1 C.2.1 hd h1 h2 ho ht (kk p e s m args below meth c H locs ls C hP hF hl)
theorem wq_tabOut (t : Nat) {dflt lo hi : Int} {offs : Array Int} {len : Nat} {x : Int32} (hd : decode K.2.2.1.2.1 pc = .ok (.tableswitch dflt lo hi offs, len)) (h : x.toInt < lo ∨ hi < x.toInt) (ht : (pc : Int) + dflt = (t : Int)) (kk : Wp K T t lv st I L) : Wp K T pc lv (.int x :: st) I L := by
  intro p e s m args below meth c H locs ls C hP hF hl
  exact lv_tableOut C.1 C.2.1 hd h ht (kk p e s m args below meth c H locs ls C hP hF hl)
theorem wq_look (t : Nat) {dflt : Int} {ps : Array (Int × Int)} {len : Nat} {x : Int32} {off : Int} (hd : decode K.2.2.1.2.1 pc = .ok (.lookupswitch dflt ps, len)) (hp : (ps.toList.zip (ps.toList.drop 1)).all (fun (a, next) => a.1 < next.1) = true) (ho : Op.lookupswitch.offset ps.toList dflt x.toInt = off) (ht : (pc : Int) + off = (t : Int)) (kk : Wp K T t lv st I L) : Wp K T pc lv (.int x :: st) I L := by
  intro p e s m args below meth c H locs ls C hP hF hl
  exact lv_lookup C.1 C.2.1 hd hp ho ht (kk p e s m args below meth c H locs ls C hP hF hl)
end Rules
