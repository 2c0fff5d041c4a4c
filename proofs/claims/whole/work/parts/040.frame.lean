/-! THE FLAT MEMORY: every cell that the law makes has a number a (its address is the heap's size at the law's start, and a); what it holds stands in three tables of rows: numbers (I), longs (L), references (R). -/
abbrev Gl : Type := Launch × Heap × va_G × (Nat → ClassId) × (Nat → Nat) × (Nat → Nat)
def gB (g : Gl) : Nat := g.2.1.size
abbrev gD (g : Gl) : va_G := g.2.2.1
abbrev gA (g : Gl) : Nat → ClassId := g.2.2.2.1
abbrev gK (g : Gl) : Nat → Nat := g.2.2.2.2.1
abbrev gV (g : Gl) : Nat → Nat := g.2.2.2.2.2
abbrev RM : Type := Nat → Nat → Option Nat
abbrev IM : Type := Nat → Nat → Int32
abbrev LM : Type := Nat → Nat → Int64
def isNest : Cond → Bool
  | .fieldLinkNest _ _ _ _ _ _ => true
  | .methodLinkNest _ _ _ _ => true
  | _ => false
def gw : List Cond := lw_tbl.filter goodWord
def nw : List Cond := lw_tbl.filter isNest
theorem gw_at {w : Cond} (i : Nat) (h : lw_tbl[i]? = some w) (hg : goodWord w = true) : w ∈ gw := List.mem_filter.mpr ⟨List.mem_of_getElem? h, hg⟩
theorem nw_at {w : Cond} (i : Nat) (h : lw_tbl[i]? = some w) (hg : isNest w = true) : w ∈ nw := List.mem_filter.mpr ⟨List.mem_of_getElem? h, hg⟩
theorem gw_in1 {w : Cond} (h : w ∈ tables_1) (hg : goodWord w = true) : w ∈ gw := List.mem_filter.mpr ⟨List.mem_append_right _ h, hg⟩
theorem nw_in1 {w : Cond} (h : w ∈ tables_1) (hg : isNest w = true) : w ∈ nw := List.mem_filter.mpr ⟨List.mem_append_right _ h, hg⟩
theorem tb_1 {w : Cond} (i : Nat) (h : tables_1_1[i]? = some w) : w ∈ tables_1 := List.mem_append_left _ (List.mem_of_getElem? h)
theorem tb_2 {w : Cond} (i : Nat) (h : tables_1_2[i]? = some w) : w ∈ tables_1 := List.mem_append_right _ (List.mem_append_left _ (List.mem_of_getElem? h))
theorem tb_3 {w : Cond} (i : Nat) (h : tables_1_3[i]? = some w) : w ∈ tables_1 := List.mem_append_right _ (List.mem_append_right _ (List.mem_append_left _ (List.mem_of_getElem? h)))
theorem tb_4 {w : Cond} (i : Nat) (h : tables_1_4[i]? = some w) : w ∈ tables_1 := List.mem_append_right _ (List.mem_append_right _ (List.mem_append_right _ (List.mem_append_left _ (List.mem_of_getElem? h))))
theorem tb_5 {w : Cond} (i : Nat) (h : tables_1_5[i]? = some w) : w ∈ tables_1 := List.mem_append_right _ (List.mem_append_right _ (List.mem_append_right _ (List.mem_append_right _ (List.mem_append_left _ (List.mem_of_getElem? h)))))
theorem tb_6 {w : Cond} (i : Nat) (h : tables_1_6[i]? = some w) : w ∈ tables_1 := List.mem_append_right _ (List.mem_append_right _ (List.mem_append_right _ (List.mem_append_right _ (List.mem_append_right _ (List.mem_of_getElem? h)))))
theorem gw_sel {q : MethodName × Nat} (h : q ∈ lw_privs) : Cond.selects q.1.cls q.1 q.1 ∈ gw := List.mem_filter.mpr ⟨List.mem_append_left _ (List.mem_map.mpr ⟨q, h, rfl⟩), rfl⟩
theorem gw_good {w : Cond} (h : w ∈ gw) : (w.onTables && w.keeps) = true ∨ ∃ ty, w = .arrayClass ty := good_of_word (List.mem_filter.mp h).2
def rf (g : Gl) (a : Nat) : Value := .ref (gB g + a)
def rv (g : Gl) (o : Option Nat) : Value := va_rf (o.map (gB g + ·))
theorem rv_some (g : Gl) (a : Nat) : rv g (some a) = rf g a := rfl
def tyOf : Nat → Nat → FieldType
  | 0 => tyX0
  | 1 => tyX1
  | 2 => tyX2
  | 3 => tyX3
  | 4 => tyX4
  | 5 => tyX5
  | 6 => tyX6
  | 7 => tyX7
  | _ => tyX8
def TOf : Nat → u_T
  | 0 => TX0
  | 1 => TX1
  | 2 => TX2
  | 3 => TX3
  | 4 => TX4
  | 5 => TX5
  | 6 => TX6
  | 7 => TX7
  | _ => TX8
def clsOf : Nat → String
  | 0 => RX0
  | 1 => RX1
  | 2 => RX2
  | 3 => RX3
  | 4 => RX4
  | 5 => RX5
  | 6 => RX6
  | 7 => RX7
  | _ => RX8
def nFs : Nat → Nat
  | 0 => 15
  | 1 => 4
  | 2 => 8
  | 3 => 5
  | 4 => 2
  | 5 => 20
  | 6 => 9
  | 7 => 13
  | _ => 52
theorem lt9 {ci : Nat} {P : Nat → Prop} (h : ci < 9) (h0 : P 0) (h1 : P 1) (h2 : P 2) (h3 : P 3) (h4 : P 4) (h5 : P 5) (h6 : P 6) (h7 : P 7) (h8 : P 8) : P ci := by
  match ci, h with
  | 0, _ => exact h0
  | 1, _ => exact h1
  | 2, _ => exact h2
  | 3, _ => exact h3
  | 4, _ => exact h4
  | 5, _ => exact h5
  | 6, _ => exact h6
  | 7, _ => exact h7
  | 8, _ => exact h8
  | n + 9, h => exact absurd h (by omega)
theorem cl9 {ci : Nat} (h : ci < 9) : vwCl[ci]? = some (clsOf ci, TOf ci, nFs ci) := lt9 (P := fun ci => vwCl[ci]? = some (clsOf ci, TOf ci, nFs ci)) h rfl rfl rfl rfl rfl rfl rfl rfl rfl
theorem nm9 {ci : Nat} (h : ci < 9) : ∀ a, a < nFs ci → ∀ b, b < nFs ci → a ≠ b → (TOf ci a).2.1 ≠ (TOf ci b).2.1 := lt9 (P := fun ci => ∀ a, a < nFs ci → ∀ b, b < nFs ci → a ≠ b → (TOf ci a).2.1 ≠ (TOf ci b).2.1) h nmX0 nmX1 nmX2 nmX3 nmX4 nmX5 nmX6 nmX7 nmX8
theorem ty9 {ci : Nat} (h : ci < 9) : ∀ k, k < nFs ci → parseFieldDescriptor (TOf ci k).2.2.1 = some (tyOf ci k) := lt9 (P := fun ci => ∀ k, k < nFs ci → parseFieldDescriptor (TOf ci k).2.2.1 = some (tyOf ci k)) h tyX0_ok tyX1_ok tyX2_ok tyX3_ok tyX4_ok tyX5_ok tyX6_ok tyX7_ok tyX8_ok
theorem own9 {ci : Nat} (h : ci < 9) : ∀ k, k < nFs ci → (TOf ci k).1 = clsOf ci := lt9 (P := fun ci => ∀ k, k < nFs ci → (TOf ci k).1 = clsOf ci) h (by decide +kernel) (by decide +kernel) (by decide +kernel) (by decide +kernel) (by decide +kernel) (by decide +kernel) (by decide +kernel) (by decide +kernel) (by decide +kernel)
theorem in9 {ci : Nat} (h : ci < 9) : ∀ w ∈ u_ws (clsOf ci) (TOf ci) (nFs ci), w ∈ gw := lt9 (P := fun ci => ∀ w ∈ u_ws (clsOf ci) (TOf ci) (nFs ci), w ∈ gw) h (by decide +kernel) (by decide +kernel) (by decide +kernel) (by decide +kernel) (by decide +kernel) (by decide +kernel) (by decide +kernel) (by decide +kernel) (by decide +kernel)
/-- a field's sort: 0 a number, 1 a long, 2 a reference -/
def fcode : FieldType → Nat
  | .long => 1
  | .object _ => 2
  | .array _ => 2
  | _ => 0
def fv (g : Gl) (R : RM) (I : IM) (L : LM) (a ci k : Nat) : Value := match fcode (tyOf ci k) with
  | 0 => .int (I a k)
  | 1 => .long (L a k)
  | _ => rv g (R a k)
/-- what each cell is: an object of class ci, or an array (0 int, 1 long, 2 boolean, 3 Image) and its length -/
def kdL : List (Nat ⊕ (Nat × Nat)) := [
  .inl 7, .inl 4, .inr (0, 60),
  .inl 2, .inr (0, 360), .inr (1, 90), .inr (0, 90), .inr (0, 10),
  .inl 3, .inr (1, 90), .inr (1, 90), .inr (0, 90), .inr (1, 64), .inr (0, 64),
  .inl 0,
  .inl 3, .inr (1, 90), .inr (1, 90), .inr (0, 90), .inr (1, 64), .inr (0, 64),
  .inl 5, .inr (1, 64), .inr (0, 64), .inr (0, 64), .inr (0, 64), .inr (0, 64), .inr (0, 90), .inr (0, 90), .inr (2, 90), .inr (0, 64), .inr (0, 154),
  .inl 2, .inr (0, 360), .inr (1, 90), .inr (0, 90), .inr (0, 10),
  .inr (0, 64), .inr (0, 154), .inr (0, 4),
  .inl 2, .inr (0, 360), .inr (1, 90), .inr (0, 90), .inr (0, 10),
  .inl 2, .inr (0, 360), .inr (1, 90), .inr (0, 90), .inr (0, 10),
  .inl 6, .inr (0, 64), .inr (0, 64), .inr (0, 500),
  .inl 6, .inr (0, 64), .inr (0, 64), .inr (0, 500),
  .inr (3, 2),
  .inl 1, .inl 2, .inr (0, 360), .inr (1, 90), .inr (0, 90), .inr (0, 10),
  .inl 1, .inl 2, .inr (0, 360), .inr (1, 90), .inr (0, 90), .inr (0, 10),
  .inl 8, .inr (0, 30), .inr (0, 30), .inr (0, 30), .inr (0, 30), .inr (0, 60),
  .inr (0, 91), .inr (0, 91), .inr (0, 91), .inr (0, 91), .inr (0, 91), .inr (0, 91), .inr (0, 91), .inr (0, 91),
  .inr (1, 91), .inr (1, 91), .inr (1, 64), .inr (0, 64), .inr (0, 64), .inr (0, 91), .inr (2, 91), .inr (0, 64), .inr (1, 64), .inr (0, 64), .inr (0, 200),
  .inr (0, 64), .inr (0, 16), .inr (0, 16), .inr (0, 64), .inr (0, 2000), .inr (0, 260), .inr (2, 2)]
def kd (a : Nat) : Nat ⊕ (Nat × Nat) := kdL.getD a (.inl 9)
def ent (g : Gl) (R : RM) (I : IM) (L : LM) (a : Nat) : va_E := match kd a with
  | .inl ci => .inr (ci, (List.range (nFs ci)).map (fv g R I L a ci))
  | .inr (0, n) => .inl (gA g 0, n, .inl (I a))
  | .inr (1, n) => .inl (gA g 1, n, .inr (.inl (L a)))
  | .inr (2, n) => .inl (gA g 2, n, .inl (I a))
  | .inr (_, n) => .inl (gA g 3, n, .inr (.inr (.inr (.inr (fun j => (R a j).map (gB g + ·))))))
theorem ent_obj {g : Gl} {R : RM} {I : IM} {L : LM} {a ci : Nat} (h : kd a = .inl ci) : ent g R I L a = .inr (ci, (List.range (nFs ci)).map (fv g R I L a ci)) := by simp only [ent, h]
theorem ent_int {g : Gl} {R : RM} {I : IM} {L : LM} {a n : Nat} (h : kd a = .inr (0, n)) : ent g R I L a = .inl (gA g 0, n, .inl (I a)) := by simp only [ent, h]
theorem ent_long {g : Gl} {R : RM} {I : IM} {L : LM} {a n : Nat} (h : kd a = .inr (1, n)) : ent g R I L a = .inl (gA g 1, n, .inr (.inl (L a))) := by simp only [ent, h]
theorem ent_bool {g : Gl} {R : RM} {I : IM} {L : LM} {a n : Nat} (h : kd a = .inr (2, n)) : ent g R I L a = .inl (gA g 2, n, .inl (I a)) := by simp only [ent, h]
theorem ent_refs {g : Gl} {R : RM} {I : IM} {L : LM} {a n : Nat} (h : kd a = .inr (3, n)) : ent g R I L a = .inl (gA g 3, n, .inr (.inr (.inr (.inr (fun j => (R a j).map (gB g + ·)))))) := by simp only [ent, h]
theorem ent_same {g : Gl} {R R' : RM} {I I' : IM} {L L' : LM} {a : Nat} (h1 : R' a = R a) (h2 : I' a = I a) (h3 : L' a = L a) : ent g R' I' L' a = ent g R I L a := by
  have hf : ∀ ci, fv g R' I' L' a ci = fv g R I L a ci := fun ci => by
    funext k
    simp only [fv, h1, h2, h3]
  simp only [ent, h1, h2, h3, hf]
/-- the heap holds the memory: n cells, and all that was there before -/
def HP (g : Gl) (n : Nat) (R : RM) (I : IM) (L : LM) (H : Heap) : Prop := H.size = gB g + n ∧ (∀ q : Nat, q < gB g → H[q]? = g.2.1[q]?) ∧ ∀ a : Nat, a < n → va_at (gD g) vwCl (gB g + a, ent g R I L a) H
theorem HP.set {g : Gl} {n : Nat} {R R' : RM} {I I' : IM} {L L' : LM} {H H1 : Heap} {a : Nat} (h : HP g n R I L H) (hs : ∀ b, b ≠ a → R' b = R b ∧ I' b = I b ∧ L' b = L b) (hz : H1.size = H.size) (ho : ∀ q, q ≠ gB g + a → H1[q]? = H[q]?) (ha : va_at (gD g) vwCl (gB g + a, ent g R' I' L' a) H1) : HP g n R' I' L' H1 := by
  refine ⟨hz.trans h.1, fun q hq => (ho q (by omega)).trans (h.2.1 q hq), fun b hb => ?_⟩
  by_cases hba : b = a
  · subst hba; exact ha
  · obtain ⟨e1, e2, e3⟩ := hs b hba
    rw [ent_same e1 e2 e3]
    exact (h.2.2 b hb).kept (ho _ (by omega))
def tys4 (g : Gl) : List (ClassId × FieldType) := [(gA g 0, .int), (gA g 1, .long), (gA g 2, .boolean), (gA g 3, .object RX1)]
def sOwn : Nat → String
  | 0 => RX4
  | _ => RX7
def sIdx : Nat → Nat
  | 0 => 44
  | _ => 204
def sTxt : Nat → String
  | 0 => "#=+-.@^"
  | _ => "w0-wr-wrrwr-r--0--r0-w0-r0-"
def sByt : List (List Int32) := [[35, 61, 43, 45, 46, 64, 94], [119, 48, 45, 119, 114, 45, 119, 114, 114, 119, 114, 45, 114, 45, 45, 48, 45, 45, 114, 48, 45, 119, 48, 45, 114, 48, 45]]
def sLen : List Nat := [7, 27]
/-- what the two texts are, and the statics that the JDK's text methods read -/
def KS (g : Gl) (U : State) : Prop := (∀ i, i < 2 → vk_R (sOwn i) (sIdx i) (sTxt i) (gK g i) U) ∧ vk_S 2 sLen sByt (gK g) (gV g) (fun q => gB g ≤ q) U g.2.1 ∧ va_Z "java/lang/String" "COMPACT_STRINGS" "Z" (.int 1) (fun q => gB g ≤ q) U g.2.1 ∧ va_Zq "jdk/internal/util/Preconditions" "SIOOBE_FORMATTER" "Ljava/util/function/BiFunction;" (fun q => gB g ≤ q) U g.2.1 ∧ va_AO RX1 U
def KW (g : Gl) (U : State) : Prop := va_K (gD g) vwCl (tys4 g) U ∧ (∀ w ∈ nw, va_Nw w U) ∧ KS g U
theorem nest_cases {w : Cond} (h : isNest w = true) : (∃ a i b n d ho, w = .fieldLinkNest a i b n d ho) ∨ ∃ a i x ho, w = .methodLinkNest a i x ho := by
  cases w <;> first | (exact Or.inl ⟨_, _, _, _, _, _, rfl⟩) | (exact Or.inr ⟨_, _, _, _, rfl⟩) | (cases h)
theorem KW.warm {g : Gl} {s U : State} (hW : s.WarmedH U.vm) (h : KW g s) : KW g U := by
  obtain ⟨h1, h2, h3, h4, h5, h6, h7⟩ := h
  refine ⟨va_K.moved hW.alike h1, fun w hw => ?_, fun i hi => vk_R.warm hW (h3 i hi), vk_S.moved hW.alike h4, va_Z.moved hW.alike h5, va_Zq.moved hW.alike h6, va_AO.moved hW.alike h7⟩
  have hn := h2 w hw
  rcases nest_cases (List.mem_filter.mp hw).2 with ⟨a, i, b, n, d, ho, rfl⟩ | ⟨a, i, x, ho, rfl⟩
  · exact va_Nw.warmF hW hn
  · exact va_Nw.warmM hW hn
theorem KW.same {g : Gl} {u U : State} (hv : U.vm = u.vm) (h : KW g u) : KW g U := by
  have hal : u.vm.Alike U.vm := by rw [hv]; exact Vm.Alike.refl _
  obtain ⟨h1, h2, h3, h4, h5, h6, h7⟩ := h
  refine ⟨va_K.moved hal h1, fun w hw => ?_, fun i hi => vk_R.same hv (h3 i hi), vk_S.moved hal h4, va_Z.moved hal h5, va_Zq.moved hal h6, va_AO.moved hal h7⟩
  have hn := h2 w hw
  rcases nest_cases (List.mem_filter.mp hw).2 with ⟨a, i, b, n, d, ho, rfl⟩ | ⟨a, i, x, ho, rfl⟩
  · exact va_Nw.same rfl hv.symm hn
  · exact va_Nw.same rfl hv.symm hn
