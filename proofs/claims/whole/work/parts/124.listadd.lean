/-! WHAT A LISTING STANDS FOR: n rows of four numbers, and what is derived of them -/
abbrev Pg : Type := Nat → Nat → Int32
def rRd (k f s t : Int32) : Int64 := nRd (nRd (nRd 0 f (shp k 1)) s (shp k 2)) t (shp k 3)
def rWr (k f s t : Int32) : Int32 := nWr (nWr (nWr (-6) f (shp k 1)) s (shp k 2)) t (shp k 3)
def rNm (x : Int64) (k f s t : Int32) : Int64 := nNm (nNm (nNm x f (shp k 1)) s (shp k 2)) t (shp k 3)
def rTp (x k f s t : Int32) : Int32 := nTp (nTp (nTp x f (shp k 1)) s (shp k 2)) t (shp k 3)
def Rd (p : Pg) (i : Nat) : Int64 := rRd (p i 0) (p i 1) (p i 2) (p i 3)
def Wr (p : Pg) (i : Nat) : Int32 := rWr (p i 0) (p i 1) (p i 2) (p i 3)
def Nms (p : Pg) : Nat → Int64
  | 0 => 0
  | n + 1 => rNm (Nms p n) (p n 0) (p n 1) (p n 2) (p n 3)
def Tp (p : Pg) : Nat → Int32
  | 0 => 4
  | n + 1 => rTp (Tp p n) (p n 0) (p n 1) (p n 2) (p n 3)
def Mv (p : Pg) : Nat → Int32
  | 0 => 0
  | n + 1 => if p n 0 = 1 then Mv p n + 1 else Mv p n
def Lb (p : Pg) (f : Nat) : Nat → Int32
  | 0 => -6
  | n + 1 => if p n 0 = 5 ∧ p n 1 = nI f ∧ Lb p f n < 0 then nI n else Lb p f n
def LRc (I : IM) (L : LM) (a n : Nat) (p : Pg) : Prop := n ≤ 90 ∧ I a 4 = nI n ∧ I a 5 = Mv p n ∧ L a 6 = Nms p n ∧ I a 7 = Tp p n ∧ (∀ i, i < n → ∀ w, w < 4 → I (a + 1) (4 * i + w) = p i w) ∧ (∀ i, i < n → L (a + 2) i = Rd p i) ∧ (∀ i, i < n → I (a + 3) i = Wr p i) ∧ ∀ f, f < 10 → I (a + 4) f = Lb p f n
def LR (I : IM) (L : LM) (a n : Nat) (p : Pg) : Prop := n ≤ 90 ∧ I a 4 = nI n ∧ I a 5 = Mv p n ∧ L a 6 = Nms p n ∧ I a 7 = Tp p n ∧ (∀ i, i < n → ∀ w, w < 4 → I (a + 1) (4 * i + w) = p i w) ∧ (∀ i, i < n → L (a + 2) i = Rd p i) ∧ (∀ i, i < n → I (a + 3) i = Wr p i) ∧ ∀ f, f < 10 → 0 < n → I (a + 4) f = Lb p f n
theorem LRc.w {I : IM} {L : LM} {a n : Nat} {p : Pg} (h : LRc I L a n p) : LR I L a n p := ⟨h.1, h.2.1, h.2.2.1, h.2.2.2.1, h.2.2.2.2.1, h.2.2.2.2.2.1, h.2.2.2.2.2.2.1, h.2.2.2.2.2.2.2.1, fun f hf _ => h.2.2.2.2.2.2.2.2 f hf⟩
def pX (p : Pg) (n : Nat) (k f s t : Int32) : Pg := fun i w => if i = n then (match w with | 0 => k | 1 => f | 2 => s | _ => t) else p i w
theorem pX_lt {p : Pg} {n i : Nat} {k f s t : Int32} (h : i < n) : pX p n k f s t i = p i := by
  funext w
  unfold pX
  rw [if_neg (by omega)]
theorem derived_congr {p q : Pg} : ∀ (n : Nat), (∀ i, i < n → p i = q i) → Mv p n = Mv q n ∧ Nms p n = Nms q n ∧ Tp p n = Tp q n ∧ ∀ f, Lb p f n = Lb q f n
  | 0, _ => ⟨rfl, rfl, rfl, fun _ => rfl⟩
  | n + 1, h => by
    obtain ⟨h1, h2, h3, h4⟩ := derived_congr n (fun i hi => h i (by omega))
    have hn := h n (by omega)
    refine ⟨?_, ?_, ?_, fun f => ?_⟩
    · rw [Mv, Mv, hn, h1]
    · rw [Nms, Nms, hn, h2]
    · rw [Tp, Tp, hn, h3]
    · rw [Lb, Lb, hn, h4 f]
/-- rows that stay as they were -/
def Off (S : List Nat) (I : IM) (L : LM) (I' : IM) (L' : LM) : Prop := ∀ x, x ∉ S → I' x = I x ∧ L' x = L x
abbrev fL (a : Nat) : List Nat := [a, a + 1, a + 2, a + 3, a + 4]
set_option maxRecDepth 20000 in
/-- one turn of add's loop -/
theorem add_it {g : Gl} {D : Nat} {b : Bool} {I : IM} {L : LM} {a n w : Nat} {post : Option Value → Bool → IM → LM → Prop} {k f s t : Int32} (hD : 6 ≤ D) (ha : IsL a) (hc : I a 4 = nI n) (hn : n < 90) (h1 : 1 ≤ w) (hw : w < 4) (kk : Wp (Kn g D MX2_add post) (Tb b) 89 [some (rf g a), some (.int k), some (.int f), some (.int s), some (.int t), some (.int (nI (4 * n))), some (.int (nI (w + 1)))] [] (ntI I a n (I (a + 1) (4 * n + w)) (shp k (nI w))) (ntL L a n (I (a + 1) (4 * n + w)) (shp k (nI w)))) : Wp (Kn g D MX2_add post) (Tb b) 89 [some (rf g a), some (.int k), some (.int f), some (.int s), some (.int t), some (.int (nI (4 * n))), some (.int (nI w))] [] I L := by
  skip
  refine wq_iload 91 dX2_add_89 rfl rfl ?_
  refine wq_iconst 92 3 dX2_add_91 rfl (by decide) ?_
  refine wq_ic_gt 95 121 dX2_add_92 rfl (by decide) (fun c92 => absurd c92 (nI_nlt (b := w) (a := 3) (by omega) (by decide))) (fun c92 => ?_)
  refine wq_bload_n 96 0 dX2_add_95 rfl rfl rfl ?_
  refine wq_bload_n 97 0 dX2_add_96 rfl rfl rfl ?_
  refine wq_getR 100 fl_X2_9 dX2_add_97 rfl rfl (L_ob ha) (L_rf0 ha) ?_
  refine wq_iload 102 dX2_add_100 rfl rfl ?_
  refine wq_iload 104 dX2_add_102 rfl rfl ?_
  refine wq_iadd 105 dX2_add_104 rfl ?_
  rw [nI_add]
  refine wq_iald 106 dX2_add_105 rfl (L_ar0 ha) (Ix.nI (by omega) (by decide)) ?_
  refine wq_iload_n 107 1 dX2_add_106 rfl rfl rfl ?_
  refine wq_iload 109 dX2_add_107 rfl rfl ?_
  refine cSi2 112 (sp_X7_shapeOf (by omega) _ _) ml_X2_39 mf_X7_shapeOf dX2_add_109 rfl (Nat.le_of_ble_eq_true rfl) (by omega) ?_
  refine cVv2 115 (sp_X2_noteName (by omega) ha hc hn _ _) ml_X2_43 mf_X2_noteName dX2_add_112 rfl (L_ob ha) (by decide) rfl (Nat.le_of_ble_eq_true rfl) (by omega) ?_
  refine wq_iinc 118 (nI (w + 1)) [_, _, _, _, _, _, _] dX2_add_115 rfl rfl (nI_1 w) rfl (Nat.le_of_ble_eq_true rfl) rfl ?_
  refine wq_goto 89 dX2_add_118 (by decide) ?_
  exact kk
theorem nt_a1 (I : IM) (a n : Nat) (nm sh : Int32) : ntI I a n nm sh (a + 1) = I (a + 1) := by
  unfold ntI
  rw [va_up_ne _ _ (by omega), va_up_ne _ _ (by omega)]
theorem nt_4 (I : IM) (a n : Nat) (nm sh : Int32) : ntI I a n nm sh a 4 = I a 4 := by
  unfold ntI
  rw [va_up_self, va_up_ne _ _ (by omega)]
def nt3I (I : IM) (a n : Nat) (k f s t : Int32) : IM := va_up (va_up I (a + 3) (va_up (I (a + 3)) n (nWr (nWr (nWr (I (a + 3) n) f (shp k 1)) s (shp k 2)) t (shp k 3)))) a (va_up (I a) 7 (nTp (nTp (nTp (I a 7) f (shp k 1)) s (shp k 2)) t (shp k 3)))
def nt3L (L : LM) (a n : Nat) (k f s t : Int32) : LM := va_up (va_up L (a + 2) (va_up (L (a + 2)) n (nRd (nRd (nRd (L (a + 2) n) f (shp k 1)) s (shp k 2)) t (shp k 3)))) a (va_up (L a) 6 (nNm (nNm (nNm (L a 6) f (shp k 1)) s (shp k 2)) t (shp k 3)))
theorem nt3I_eq (I : IM) (a n : Nat) (k f s t : Int32) : ntI (ntI (ntI I a n f (shp k 1)) a n s (shp k 2)) a n t (shp k 3) = nt3I I a n k f s t := by
  funext x
  unfold ntI nt3I
  by_cases hx : x = a
  · subst hx
    simp [va_up_self, va_up_up, va_up_ne]
  · by_cases h3 : x = a + 3
    · subst h3
      simp [va_up_self, va_up_up, va_up_ne]
    · simp [va_up_ne, hx, h3]
theorem nt3L_eq (L : LM) (a n : Nat) (k f s t : Int32) : ntL (ntL (ntL L a n f (shp k 1)) a n s (shp k 2)) a n t (shp k 3) = nt3L L a n k f s t := by
  funext x
  unfold ntL nt3L
  by_cases hx : x = a
  · subst hx
    simp [va_up_self, va_up_up, va_up_ne]
  · by_cases h3 : x = a + 2
    · subst h3
      simp [va_up_self, va_up_up, va_up_ne]
    · simp [va_up_ne, hx, h3]
set_option maxRecDepth 20000 in
/-- the loop of add -/
theorem add_lp {g : Gl} {D : Nat} {b : Bool} {I : IM} {L : LM} {a n : Nat} {post : Option Value → Bool → IM → LM → Prop} {k f s t : Int32} (hD : 6 ≤ D) (ha : IsL a) (hc : I a 4 = nI n) (hn : n < 90) (hf : I (a + 1) (4 * n + 1) = f) (hs : I (a + 1) (4 * n + 2) = s) (ht : I (a + 1) (4 * n + 3) = t) (kk : Wp (Kn g D MX2_add post) (Tb b) 121 [some (rf g a), some (.int k), some (.int f), some (.int s), some (.int t), some (.int (nI (4 * n))), some (.int (nI 4))] [] (nt3I I a n k f s t) (nt3L L a n k f s t)) : Wp (Kn g D MX2_add post) (Tb b) 89 [some (rf g a), some (.int k), some (.int f), some (.int s), some (.int t), some (.int (nI (4 * n))), some (.int (nI 1))] [] I L := by
  refine add_it hD ha hc hn (by omega) (by omega) ?_
  refine add_it hD ha (by rw [nt_4]; exact hc) hn (by omega) (by omega) ?_
  refine add_it hD ha (by rw [nt_4, nt_4]; exact hc) hn (by omega) (by omega) ?_
  rw [nt_a1, nt_a1, nt_a1, hf, hs, ht]
  rw [show nI 1 = 1 from rfl, show nI (1 + 1) = 2 from rfl, show nI (1 + 1 + 1) = 3 from rfl, nt3I_eq, nt3L_eq]
  refine wq_iload 91 dX2_add_89 rfl rfl ?_
  refine wq_iconst 92 3 dX2_add_91 rfl (by decide) ?_
  refine wq_ic_gt 95 121 dX2_add_92 rfl (by decide) (fun c92 => ?_) (fun c92 => absurd (by decide) c92)
  exact kk
