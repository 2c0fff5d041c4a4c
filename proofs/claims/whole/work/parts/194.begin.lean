/-! how a round begins -/
def setF (f : Nat → Bool) : Nat → Int64
  | 0 => 0
  | n + 1 => if f n = true then setF f n ||| one (nI n) else setF f n
theorem tb_setF (f : Nat → Bool) : ∀ n, n ≤ 64 → ∀ y, tb (setF f n) y = (decide (y < n) && f y)
  | 0, _, y => by rw [setF, tb_0]; simp
  | n + 1, hn, y => by
    rw [setF, dlt_s]
    by_cases c : f n = true
    · rw [if_pos c, tb_or, tb_one (by omega), tb_setF f n (by omega) y]
      by_cases e : y = n
      · simp [e, c]
      · simp [e]
    · rw [if_neg c, tb_setF f n (by omega) y]
      by_cases e : y = n
      · have : f y = false := by rw [e]; exact Bool.eq_false_iff.mpr c
        simp [this]
      · simp [e]
theorem nNm_has {ns : Int64} {x : Nat} {sh : Int32} (hx : x < 64) (h : sh = 114 ∨ sh = 119) : tb (nNm ns (nI x) sh) x = true := by
  unfold nNm
  rw [if_neg (nI_pos (by omega)), if_neg (show ¬ (64 : Int32) ≤ nI x from nI_ge (b := 64) hx (by decide))]
  have e : tb (ns ||| one (nI x)) x = true := by rw [tb_or, tb_one hx, decide_eq_true rfl, Bool.or_true]
  rcases h with h | h
  · rw [if_pos h]; exact e
  · by_cases c : sh = 114
    · rw [if_pos c]; exact e
    · rw [if_neg c, if_pos h]; exact e
theorem nmP_inv {p : Pg} {i w x : Nat} (hx : x < 64) (h : nmP p i w = nI x) : (shp (p i 0) (nI w) = 114 ∨ shp (p i 0) (nI w) = 119) ∧ p i w = nI x := by
  unfold nmP at h
  by_cases c : shp (p i 0) (nI w) = 114 ∨ shp (p i 0) (nI w) = 119
  · rw [if_pos c] at h
    by_cases c1 : p i w < 0
    · rw [if_pos c1] at h; exact absurd h (neg_ne hx)
    · rw [if_neg c1] at h
      by_cases c2 : 64 ≤ p i w
      · rw [if_pos c2] at h; exact absurd h (neg_ne hx)
      · rw [if_neg c2] at h; exact ⟨c, h⟩
  · rw [if_neg c] at h; exact absurd h (neg_ne hx)
theorem Nms_mono (p : Pg) (n : Nat) : ∀ r, sub (Nms p n) (Nms p (n + r))
  | 0 => sub.refl _
  | r + 1 => (Nms_mono p n r).trans ((nNm_sup _ _ _).trans ((nNm_sup _ _ _).trans (nNm_sup _ _ _)))
theorem nm_Nms {p : Pg} {n i w x : Nat} (hi : i < n) (hw1 : 1 ≤ w) (hw : w < 4) (hx : x < 64) (h : nmP p i w = nI x) : tb (Nms p n) x = true := by
  obtain ⟨h1, h2⟩ := nmP_inv hx h
  have hm := Nms_mono p (i + 1) (n - (i + 1))
  rw [show i + 1 + (n - (i + 1)) = n by omega] at hm
  refine hm x ?_
  show tb (nNm (nNm (nNm (Nms p i) (p i 1) (shp (p i 0) 1)) (p i 2) (shp (p i 0) 2)) (p i 3) (shp (p i 0) 3)) x = true
  have hw3 : w = 1 ∨ w = 2 ∨ w = 3 := by omega
  rcases hw3 with rfl | rfl | rfl
  · exact nNm_sup _ _ _ x (nNm_sup _ _ _ x (by rw [h2]; exact nNm_has hx h1))
  · exact nNm_sup _ _ _ x (by rw [h2]; exact nNm_has hx h1)
  · rw [h2]; exact nNm_has hx h1
theorem Wr_nm {B : Nat} {p : Pg} {n i x : Nat} (hw : WfB B p n) (hi : i < n) (hx : x < 64) (h : Wr p i = nI x) : nmP p i 1 = nI x := by
  obtain ⟨k, u, y, z, hrf⟩ := row_form hw hi
  have n1 := (nmP_row hrf).1
  obtain ⟨hk, -, -, -, -, -, -, -, -, -, -, -, -, hWr⟩ := hrf
  rw [hWr] at h
  by_cases c : k < 4 ∨ k = 7
  · rw [if_pos c] at h
    rw [n1, if_neg (by omega)]
    exact h
  · rw [if_neg c] at h
    exact absurd h (neg_ne hx)
theorem edB_symm (p : Pg) (H : Nat → Int64) : ∀ m x y, edB p H m x y = edB p H m y x
  | 0, x, y => by
    rw [edB, edB]
    exact decide_eq_decide.mpr ⟨fun ⟨a, b, c⟩ => ⟨b, a, fun e => c e.symm⟩, fun ⟨a, b, c⟩ => ⟨b, a, fun e => c e.symm⟩⟩
  | m + 1, x, y => by
    rw [edB, edB, edB_symm p H m x y, Bool.or_assoc, Bool.or_assoc, Bool.or_comm (hitB p H m x y)]
theorem edB_reg (p : Pg) (H : Nat → Int64) {x y : Nat} (hx : x < 4) (hy : y < 4) (h : x ≠ y) : ∀ m, edB p H m x y = true
  | 0 => decide_eq_true ⟨hx, hy, h⟩
  | m + 1 => by rw [edB, edB_reg p H hx hy h m]; rfl
theorem edB_named {B : Nat} {p : Pg} {n : Nat} (hn : n ≤ 90) (hw : WfB B p n) : ∀ m x y, m ≤ n → x < 64 → y < 64 → edB p (Lvb p n) m x y = true → x ≠ y ∧ (y < 4 ∨ tb (Nms p n) y = true)
  | 0, x, y, _, _, _, h => by
    rw [edB, decide_eq_true_eq] at h
    exact ⟨h.2.2, Or.inl h.2.1⟩
  | m + 1, x, y, hm, hx, hy, h => by
    rw [edB, Bool.or_eq_true, Bool.or_eq_true] at h
    rcases h with (h | h) | h
    · exact edB_named hn hw m x y (by omega) hx hy h
    · rw [hitB, Bool.and_eq_true, Bool.and_eq_true, Bool.and_eq_true, decide_eq_true_eq, decide_eq_true_eq] at h
      exact ⟨h.1.2, Or.inr (Lvb_sub (by omega) (show m < n by omega) y h.1.1.2)⟩
    · rw [hitB, Bool.and_eq_true, Bool.and_eq_true, Bool.and_eq_true, decide_eq_true_eq, decide_eq_true_eq] at h
      exact ⟨fun e => h.1.2 e.symm, Or.inr (nm_Nms (show m < n by omega) (Nat.le_refl 1) (by omega) hy (Wr_nm hw (by omega) hy h.1.1.1))⟩
/-- how many moves; which instruction a move is -/
def mvs (p : Pg) : Nat → Nat
  | 0 => 0
  | n + 1 => if p n 0 = 1 then mvs p n + 1 else mvs p n
def mvI (p : Pg) : Nat → Nat → Nat
  | 0, _ => 0
  | n + 1, m => if p n 0 = 1 ∧ m = mvs p n then n else mvI p n m
theorem mvs_le (p : Pg) : ∀ n, mvs p n ≤ n
  | 0 => Nat.le_refl _
  | n + 1 => by
    rw [mvs]
    have := mvs_le p n
    split <;> omega
theorem mvI_is (p : Pg) : ∀ n m, m < mvs p n → mvI p n m < n ∧ p (mvI p n m) 0 = 1
  | 0, m, h => by rw [mvs] at h; omega
  | n + 1, m, h => by
    rw [mvs] at h
    rw [mvI]
    by_cases c : p n 0 = 1
    · rw [if_pos c] at h
      by_cases e : m = mvs p n
      · rw [if_pos ⟨c, e⟩]; exact ⟨by omega, c⟩
      · rw [if_neg (fun z => e z.2)]
        have := mvI_is p n m (by omega)
        exact ⟨by omega, this.2⟩
    · rw [if_neg c] at h
      rw [if_neg (fun z => c z.1)]
      have := mvI_is p n m h
      exact ⟨by omega, this.2⟩
def mf1 (p : Pg) (n m : Nat) : Nat := (p (mvI p n m) 1).toNatClampNeg
def mf2 (p : Pg) (n m : Nat) : Nat := (p (mvI p n m) 2).toNatClampNeg
/-- a move's two names -/
theorem mv_names {B : Nat} {p : Pg} {n i : Nat} (hw : WfB B p n) (hi : i < n) (h : p i 0 = 1) : ∃ x y, x < 64 ∧ y < 64 ∧ p i 1 = nI x ∧ p i 2 = nI y ∧ nmP p i 1 = nI x ∧ nmP p i 2 = nI y := by
  obtain ⟨k, x, y, z, hrf⟩ := row_form hw hi
  obtain ⟨n1, n2, -⟩ := nmP_row hrf
  obtain ⟨hk, e0, e1, x1, -, -, -, e2, -, -, -, -, -, -⟩ := hrf
  have hk1 : k = 1 := (nI_eq (a := k) (b := 1) (by omega) (by decide)).mp (by rw [← e0]; exact h)
  have e2' := e2 (by omega)
  exact ⟨x, y, x1, e2'.2, e1, e2'.1, by rw [n1, if_neg (by omega)], by rw [n2, if_pos (Or.inl hk1)]⟩
theorem mf_is {B : Nat} {p : Pg} {n m : Nat} (hw : WfB B p n) (hm : m < mvs p n) : mf1 p n m < 64 ∧ mf2 p n m < 64 ∧ p (mvI p n m) 1 = nI (mf1 p n m) ∧ p (mvI p n m) 2 = nI (mf2 p n m) ∧ tb (Nms p n) (mf1 p n m) = true ∧ tb (Nms p n) (mf2 p n m) = true := by
  obtain ⟨h1, h2⟩ := mvI_is p n m hm
  obtain ⟨x, y, x1, y1, ex, ey, nx, ny⟩ := mv_names hw h1 h2
  have e1 : mf1 p n m = x := by unfold mf1; rw [ex, nI_clamp (by omega)]
  have e2 : mf2 p n m = y := by unfold mf2; rw [ey, nI_clamp (by omega)]
  rw [e1, e2]
  exact ⟨x1, y1, ex, ey, nm_Nms h1 (by omega) (by omega) x1 nx, nm_Nms h1 (by omega) (by omega) y1 ny⟩
/-- the state before the first step -/
def begA (p : Pg) (n : Nat) : RA := (fun x => setF (edB p (Lvb p n) n x) 64, Nms p n ||| 15, fun x => x, Ct p n, fun _ => true, fun _ => 0, 0, fun _ => 0, 0)
theorem tb_15 : ∀ n, n < 64 → tb 15 n = decide (n < 4) := by decide +kernel
theorem left_beg {p : Pg} {n y : Nat} (hy : y < 64) : tb (aL (begA p n)) y = true ↔ (tb (Nms p n) y = true ∨ y < 4) := by
  rw [show aL (begA p n) = Nms p n ||| 15 from rfl, tb_or, tb_15 y hy, Bool.or_eq_true, decide_eq_true_eq]
theorem Ct_le (p : Pg) (n x : Nat) (hn : n ≤ 90) : Ct p n x ≤ 10000 := by
  unfold Ct
  split
  · omega
  · have := CsN_le p n x n
    omega
theorem sumF_le {f : Nat → Nat} {c : Nat} : ∀ n, (∀ j, j < n → f j ≤ c) → sumF f n ≤ c * n
  | 0, _ => Nat.zero_le _
  | n + 1, h => by
    rw [sumF, Nat.mul_succ]
    have h1 := sumF_le n (fun j hj => h j (by omega))
    have h2 := h n (by omega)
    omega
theorem GS_beg {B : Nat} {p : Pg} {n t : Nat} (hn : n ≤ 90) (hw : WfB B p n) (ht : TN t (Nms p n) (Tp p n)) : GS (mvs p n) t (mf1 p n) (mf2 p n) (begA p n) := by
  obtain ⟨-, t1, t2, t3⟩ := ht
  have eN : ∀ x y, y < 64 → tb (aN (begA p n) x) y = edB p (Lvb p n) n x y := fun x y hy => by
    rw [show aN (begA p n) x = setF (edB p (Lvb p n) n x) 64 from rfl, tb_setF _ 64 (Nat.le_refl _), decide_eq_true hy, Bool.true_and]
  have rt_id : ∀ f x, itr (fun x => x) f x = x := fun f x => itr_fix rfl f
  refine ⟨⟨fun x _ => Nat.le_refl x, t1, t2, fun y hy hl => ?_, fun y hy => (left_beg (by omega)).mpr (Or.inr hy), fun x hx hl y hy h => ?_, fun x hx y hy h => by rw [eN x y (by omega)]; exact edB_reg p _ hx hy h n, by have := mvs_le p n; omega, fun m hm => ⟨(mf_is hw hm).1, (mf_is hw hm).2.1⟩, fun m hm _ => ?_, fun i hi => absurd hi (Nat.not_lt_zero i)⟩, ?_, ?_, ?_⟩
  · rcases (left_beg hy).mp hl with z | z
    · exact t3 y hy z
    · omega
  · rw [eN x y hy] at h
    obtain ⟨q1, q2⟩ := edB_named hn hw n x y (Nat.le_refl n) hx hy h
    refine ⟨(left_beg hy).mpr q2.symm, fun e => q1 e.symm, ?_⟩
    rw [eN y x hx, edB_symm]
    exact h
  · obtain ⟨a1, a2, -, -, a5, a6⟩ := mf_is hw hm
    have r1 : rt (aA (begA p n)) (mf1 p n m) = mf1 p n m := rt_id 64 _
    have r2 : rt (aA (begA p n)) (mf2 p n m) = mf2 p n m := rt_id 64 _
    rw [r1, r2]
    exact ⟨(left_beg a1).mpr (Or.inl a5), (left_beg a2).mpr (Or.inl a6)⟩
  · show 0 + lvA (begA p n) + omA (mvs p n) (begA p n) ≤ 150
    have h1 : lvA (begA p n) ≤ 60 := by
      have := cntF_less (f := fun _ => true) (g := fun x => valA (begA p n) x || decide (1 ≤ x ∧ x < 4)) (x := 0) rfl (by simp [valA]) (n := 64) (by omega) (fun _ _ _ => rfl)
      have e1 := cntF_less (f := fun x => valA (begA p n) x || decide (1 ≤ x ∧ x < 4)) (g := fun x => valA (begA p n) x || decide (2 ≤ x ∧ x < 4)) (x := 1) (by simp) (by simp [valA]) (n := 64) (by omega) (fun j _ z => by
        rw [Bool.or_eq_true, decide_eq_true_eq] at z ⊢
        exact z.imp id (fun z => by omega))
      have e2 := cntF_less (f := fun x => valA (begA p n) x || decide (2 ≤ x ∧ x < 4)) (g := fun x => valA (begA p n) x || decide (3 ≤ x ∧ x < 4)) (x := 2) (by simp) (by simp [valA]) (n := 64) (by omega) (fun j _ z => by
        rw [Bool.or_eq_true, decide_eq_true_eq] at z ⊢
        exact z.imp id (fun z => by omega))
      have e3 := cntF_less (f := fun x => valA (begA p n) x || decide (3 ≤ x ∧ x < 4)) (g := valA (begA p n)) (x := 3) (by simp) (by simp [valA]) (n := 64) (by omega) (fun j _ z => by rw [Bool.or_eq_true]; exact Or.inl z)
      have e4 := cntF_le (fun _ => true) 64
      unfold lvA
      omega
    have h2 : omA (mvs p n) (begA p n) ≤ mvs p n := cntF_le _ _
    have h3 := mvs_le p n
    omega
  · show 0 + lvA (begA p n) ≤ 60
    have := cntF_less (f := fun _ => true) (g := fun x => valA (begA p n) x || decide (1 ≤ x ∧ x < 4)) (x := 0) rfl (by simp [valA]) (n := 64) (by omega) (fun _ _ _ => rfl)
    have e1 := cntF_less (f := fun x => valA (begA p n) x || decide (1 ≤ x ∧ x < 4)) (g := fun x => valA (begA p n) x || decide (2 ≤ x ∧ x < 4)) (x := 1) (by simp) (by simp [valA]) (n := 64) (by omega) (fun j _ z => by
      rw [Bool.or_eq_true, decide_eq_true_eq] at z ⊢
      exact z.imp id (fun z => by omega))
    have e2 := cntF_less (f := fun x => valA (begA p n) x || decide (2 ≤ x ∧ x < 4)) (g := fun x => valA (begA p n) x || decide (3 ≤ x ∧ x < 4)) (x := 2) (by simp) (by simp [valA]) (n := 64) (by omega) (fun j _ z => by
      rw [Bool.or_eq_true, decide_eq_true_eq] at z ⊢
      exact z.imp id (fun z => by omega))
    have e3 := cntF_less (f := fun x => valA (begA p n) x || decide (3 ≤ x ∧ x < 4)) (g := valA (begA p n)) (x := 3) (by simp) (by simp [valA]) (n := 64) (by omega) (fun j _ z => by rw [Bool.or_eq_true]; exact Or.inl z)
    have e4 := cntF_le (fun _ => true) 64
    unfold lvA
    omega
  · show csA (begA p n) ≤ 640000
    unfold csA
    refine Nat.le_trans (sumF_le (c := 10000) 64 (fun j _ => ?_)) (by omega)
    unfold cgA
    split
    · exact Ct_le p n j hn
    · omega
