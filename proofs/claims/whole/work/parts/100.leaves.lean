/-! LEAVES: the JDK's methods, the smallest of ours -/
theorem inc1 (x : Int32) : x + Int32.ofInt 1 = x + 1 := rfl
theorem decm1 (x : Int32) : x + Int32.ofInt (-1) = x + (-1) := rfl
theorem wq_nmL {K : Kx} {T : Tx} {pc : Nat} {lv : List (Option Value)} {st : List Value} {I : IM} {L : LM} {x : Int64} (h : ∀ y, y = x → Wp K T pc lv (.long y :: st) I L) : Wp K T pc lv (.long x :: st) I L := h x rfl
theorem wq_nmI {K : Kx} {T : Tx} {pc : Nat} {lv : List (Option Value)} {st : List Value} {I : IM} {L : LM} {x : Int32} (h : ∀ y, y = x → Wp K T pc lv (.int y :: st) I L) : Wp K T pc lv (.int x :: st) I L := h x rfl
def nwA (b : Bool) : Nat := bif b then 45 else 40
def nxA (b : Bool) : Nat := bif b then 40 else 45
theorem nwA_l (b : Bool) : IsL (nwA b) := by cases b <;> simp [IsL, nwA]
theorem nxA_l (b : Bool) : IsL (nxA b) := by cases b <;> simp [IsL, nxA]
/-- the class's has -/
def hasX (s : Int64) (n : Int32) : Int32 := if (s.toUInt64 >>> (n.toInt64.toUInt64 &&& Int64.toUInt64 63)).toInt64 &&& 1 = 0 then 0 else 1
theorem lcmp0 {x y : Int64} : lg_cmp x y = 0 ↔ x = y := by
  unfold lg_cmp
  split
  · rename_i h; constructor
    · intro h2; exact absurd h2 (by decide)
    · intro h2; subst h2; exact absurd h (by simp)
  · split
    · rename_i h; constructor
      · intro _; exact h
      · intro _; rfl
    · rename_i h; constructor
      · intro h2; exact absurd h2 (by decide)
      · intro h2; exact absurd h2 h
set_option maxRecDepth 20000 in
theorem sp_X7_has {g : Gl} {D : Nat} {b : Bool} {I : IM} {L : LM} (s : Int64) (n : Int32) : Md g D MX7_has [.long s, .int n] b I L (some (.int (hasX s n))) b I L := by
  refine Me.of [some (.long s), none, some (.int n)] 0 rfl pf_X7_has (Nat.le_of_ble_eq_true rfl) ?_
  refine wq_lload_n 1 0 dX7_has_0 rfl rfl rfl ?_
  refine wq_iload_n 2 2 dX7_has_1 rfl rfl rfl ?_
  refine wq_lushr 3 dX7_has_2 rfl ?_
  refine wq_lconst 4 1 dX7_has_3 rfl (by decide) ?_
  refine wq_land 5 dX7_has_4 rfl ?_
  refine wq_lconst 6 0 dX7_has_5 rfl (by decide) ?_
  refine wq_lcmp 7 dX7_has_6 rfl ?_
  refine wq_if_eq 10 14 dX7_has_7 rfl (by decide) (fun c7 => ?_) (fun c7 => ?_)
  · skip
    refine wq_iconst 15 0 dX7_has_14 rfl (by decide) ?_
    refine ri .boolean dX7_has_15 rfl rfl ?_
    exact ⟨by simp_all [hasX, lcmp0], rfl, rfl, rfl⟩
  · skip
    refine wq_iconst 11 1 dX7_has_10 rfl (by decide) ?_
    refine wq_goto 15 dX7_has_11 (by decide) ?_
    refine ri .boolean dX7_has_15 rfl rfl ?_
    exact ⟨by simp_all [hasX, lcmp0], rfl, rfl, rfl⟩
def maxI (x y : Int32) : Int32 := if x < y then y else x
set_option maxRecDepth 20000 in
theorem sp_J9_max_7cf53 {g : Gl} {D : Nat} {b : Bool} {I : IM} {L : LM} (x y : Int32) : Md g D MJ9_max_7cf53 [.int x, .int y] b I L (some (.int (maxI x y))) b I L := by
  refine Me.of [some (.int x), some (.int y)] 0 rfl pf_J9_max_7cf53 (Nat.le_of_ble_eq_true rfl) ?_
  refine wq_iload_n 1 0 dJ9_max_7cf53_0 rfl rfl rfl ?_
  refine wq_iload_n 2 1 dJ9_max_7cf53_1 rfl rfl rfl ?_
  refine wq_ic_lt 5 9 dJ9_max_7cf53_2 rfl (by decide) (fun c2 => ?_) (fun c2 => ?_)
  · skip
    refine wq_iload_n 10 1 dJ9_max_7cf53_9 rfl rfl rfl ?_
    refine ri .int dJ9_max_7cf53_10 rfl rfl ?_
    exact ⟨by simp only [maxI]; first | rw [if_pos (by assumption)] | rw [if_neg (by assumption)], rfl, rfl, rfl⟩
  · skip
    refine wq_iload_n 6 0 dJ9_max_7cf53_5 rfl rfl rfl ?_
    refine wq_goto 10 dJ9_max_7cf53_6 (by decide) ?_
    refine ri .int dJ9_max_7cf53_10 rfl rfl ?_
    exact ⟨by simp only [maxI]; first | rw [if_pos (by assumption)] | rw [if_neg (by assumption)], rfl, rfl, rfl⟩
def minI (x y : Int32) : Int32 := if y < x then y else x
set_option maxRecDepth 20000 in
theorem sp_J9_min_7cf53 {g : Gl} {D : Nat} {b : Bool} {I : IM} {L : LM} (x y : Int32) : Md g D MJ9_min_7cf53 [.int x, .int y] b I L (some (.int (minI x y))) b I L := by
  refine Me.of [some (.int x), some (.int y)] 0 rfl pf_J9_min_7cf53 (Nat.le_of_ble_eq_true rfl) ?_
  refine wq_iload_n 1 0 dJ9_min_7cf53_0 rfl rfl rfl ?_
  refine wq_iload_n 2 1 dJ9_min_7cf53_1 rfl rfl rfl ?_
  refine wq_ic_gt 5 9 dJ9_min_7cf53_2 rfl (by decide) (fun c2 => ?_) (fun c2 => ?_)
  · skip
    refine wq_iload_n 10 1 dJ9_min_7cf53_9 rfl rfl rfl ?_
    refine ri .int dJ9_min_7cf53_10 rfl rfl ?_
    exact ⟨by simp only [minI]; first | rw [if_pos (by assumption)] | rw [if_neg (by assumption)], rfl, rfl, rfl⟩
  · skip
    refine wq_iload_n 6 0 dJ9_min_7cf53_5 rfl rfl rfl ?_
    refine wq_goto 10 dJ9_min_7cf53_6 (by decide) ?_
    refine ri .int dJ9_min_7cf53_10 rfl rfl ?_
    exact ⟨by simp only [minI]; first | rw [if_pos (by assumption)] | rw [if_neg (by assumption)], rfl, rfl, rfl⟩
set_option maxRecDepth 20000 in
theorem lp_J7_fill_53178 {g : Gl} {D : Nat} {b : Bool} {I : IM} {L : LM} {a len : Nat} {post : Option Value → Bool → IM → LM → Prop} (ha : Ar (Tb b) a 0 len) (hlen : len < 100000) (v : Int32) (h : post none b (va_up I a (fun k => if k < len then v else I a k)) L) : ∀ r k, k + r = len → Wp (Kn g D MJ7_fill_53178 post) (Tb b) 5 [some (rf g a), some (.int v), some (.int (nI k)), some (.int (nI len))] [] (va_up I a (fun j => if j < k then v else I a j)) L := by
  intro r
  induction r with
  | zero =>
    intro k hk
    have hk : k = len := by omega
    subst hk
    refine wq_iload_n 6 2 dJ7_fill_53178_5 rfl rfl rfl ?_
    refine wq_iload_n 7 3 dJ7_fill_53178_6 rfl rfl rfl ?_
    refine wq_ic_ge 10 20 dJ7_fill_53178_7 rfl (by decide) (fun c7 => ?_) (fun c7 => absurd (nI_le (Nat.le_refl _) (by omega)) c7)
    refine rr dJ7_fill_53178_20 rfl ?_
    exact h
  | succ r ih =>
    intro k hk
    refine wq_iload_n 6 2 dJ7_fill_53178_5 rfl rfl rfl ?_
    refine wq_iload_n 7 3 dJ7_fill_53178_6 rfl rfl rfl ?_
    refine wq_ic_ge 10 20 dJ7_fill_53178_7 rfl (by decide) (fun c7 => absurd c7 (nI_ge (by omega) (by omega))) (fun c7 => ?_)
    refine wq_bload_n 11 0 dJ7_fill_53178_10 rfl rfl rfl ?_
    refine wq_iload_n 12 2 dJ7_fill_53178_11 rfl rfl rfl ?_
    refine wq_iload_n 13 1 dJ7_fill_53178_12 rfl rfl rfl ?_
    refine wq_iast 14 dJ7_fill_53178_13 rfl ha (Ix.nI (by omega) (by omega)) ?_
    refine wq_iinc 17 (nI (k + 1)) [_, _, _, _] dJ7_fill_53178_14 rfl rfl (nI_1 k) rfl (Nat.le_of_ble_eq_true rfl) rfl ?_
    refine wq_goto 5 dJ7_fill_53178_17 (by decide) ?_
    have e : (va_up (va_up I a (fun j => if j < k then v else I a j)) a (va_up (va_up I a (fun j => if j < k then v else I a j) a) k v)) = va_up I a (fun j => if j < k + 1 then v else I a j) := by
      funext x
      by_cases hx : x = a
      · subst hx
        funext j
        simp only [va_up_self]
        by_cases hj : j = k
        · subst hj; simp [va_up]
        · rw [va_up_ne _ _ hj]
          by_cases h1 : j < k
          · rw [if_pos h1, if_pos (by omega)]
          · rw [if_neg h1, if_neg (by omega)]
      · rw [va_up_ne _ _ hx, va_up_ne _ _ hx, va_up_ne _ _ hx]
    rw [e]
    exact ih (k + 1) (by omega)
set_option maxRecDepth 20000 in
theorem sp_J7_fill_53178 {g : Gl} {D : Nat} {b : Bool} {I : IM} {L : LM} {a len : Nat} (ha : Ar (Tb b) a 0 len) (hlen : len < 100000) (v : Int32) : Md g D MJ7_fill_53178 [rf g a, .int v] b I L none b (va_up I a (fun k => if k < len then v else I a k)) L := by
  refine Me.of [some (rf g a), some (.int v), none, none] 2 rfl pf_J7_fill_53178 (Nat.le_of_ble_eq_true rfl) ?_
  refine wq_iconst 1 0 dJ7_fill_53178_0 rfl (by decide) ?_
  refine wq_istore_n 2 2 [_, _, _, _] dJ7_fill_53178_1 rfl rfl rfl (Nat.le_of_ble_eq_true rfl) rfl ?_
  refine wq_bload_n 3 0 dJ7_fill_53178_2 rfl rfl rfl ?_
  refine wq_alen 4 (nI len) dJ7_fill_53178_3 rfl ha (by decide) rfl ?_
  refine wq_istore_n 5 3 [_, _, _, _] dJ7_fill_53178_4 rfl rfl rfl (Nat.le_of_ble_eq_true rfl) rfl ?_
  have e : I = va_up I a (fun j => if j < 0 then v else I a j) := by
    funext x
    by_cases hx : x = a
    · subst hx; rw [va_up_self]; funext j; simp
    · rw [va_up_ne _ _ hx]
  have h := lp_J7_fill_53178 (g := g) (D := D) (I := I) (L := L) (post := fun r' b' I' L' => r' = none ∧ b' = b ∧ I' = va_up I a (fun k => if k < len then v else I a k) ∧ L' = L) ha hlen v ⟨rfl, rfl, rfl, rfl⟩ len 0 (by omega)
  rw [← e] at h
  exact h
set_option maxRecDepth 20000 in
theorem lp_J7_fill_d0a16 {g : Gl} {D : Nat} {b : Bool} {I : IM} {L : LM} {a len : Nat} {post : Option Value → Bool → IM → LM → Prop} (ha : Ar (Tb b) a 1 len) (hlen : len < 100000) (v : Int64) (h : post none b I (va_up L a (fun k => if k < len then v else L a k))) : ∀ r k, k + r = len → Wp (Kn g D MJ7_fill_d0a16 post) (Tb b) 6 [some (rf g a), some (.long v), none, some (.int (nI k)), some (.int (nI len))] [] I (va_up L a (fun j => if j < k then v else L a j)) := by
  intro r
  induction r with
  | zero =>
    intro k hk
    have hk : k = len := by omega
    subst hk
    refine wq_iload_n 7 3 dJ7_fill_d0a16_6 rfl rfl rfl ?_
    refine wq_iload 9 dJ7_fill_d0a16_7 rfl rfl ?_
    refine wq_ic_ge 12 22 dJ7_fill_d0a16_9 rfl (by decide) (fun c9 => ?_) (fun c9 => absurd (nI_le (Nat.le_refl _) (by omega)) c9)
    refine rr dJ7_fill_d0a16_22 rfl ?_
    exact h
  | succ r ih =>
    intro k hk
    refine wq_iload_n 7 3 dJ7_fill_d0a16_6 rfl rfl rfl ?_
    refine wq_iload 9 dJ7_fill_d0a16_7 rfl rfl ?_
    refine wq_ic_ge 12 22 dJ7_fill_d0a16_9 rfl (by decide) (fun c9 => absurd c9 (nI_ge (by omega) (by omega))) (fun c9 => ?_)
    refine wq_bload_n 13 0 dJ7_fill_d0a16_12 rfl rfl rfl ?_
    refine wq_iload_n 14 3 dJ7_fill_d0a16_13 rfl rfl rfl ?_
    refine wq_lload_n 15 1 dJ7_fill_d0a16_14 rfl rfl rfl ?_
    refine wq_last 16 dJ7_fill_d0a16_15 rfl ha (Ix.nI (by omega) (by omega)) ?_
    refine wq_iinc 19 (nI (k + 1)) [_, _, _, _, _] dJ7_fill_d0a16_16 rfl rfl (nI_1 k) rfl (Nat.le_of_ble_eq_true rfl) rfl ?_
    refine wq_goto 6 dJ7_fill_d0a16_19 (by decide) ?_
    have e : (va_up (va_up L a (fun j => if j < k then v else L a j)) a (va_up (va_up L a (fun j => if j < k then v else L a j) a) k v)) = va_up L a (fun j => if j < k + 1 then v else L a j) := by
      funext x
      by_cases hx : x = a
      · subst hx
        funext j
        simp only [va_up_self]
        by_cases hj : j = k
        · subst hj; simp [va_up]
        · rw [va_up_ne _ _ hj]
          by_cases h1 : j < k
          · rw [if_pos h1, if_pos (by omega)]
          · rw [if_neg h1, if_neg (by omega)]
      · rw [va_up_ne _ _ hx, va_up_ne _ _ hx, va_up_ne _ _ hx]
    rw [e]
    exact ih (k + 1) (by omega)
set_option maxRecDepth 20000 in
theorem sp_J7_fill_d0a16 {g : Gl} {D : Nat} {b : Bool} {I : IM} {L : LM} {a len : Nat} (ha : Ar (Tb b) a 1 len) (hlen : len < 100000) (v : Int64) : Md g D MJ7_fill_d0a16 [rf g a, .long v] b I L none b I (va_up L a (fun k => if k < len then v else L a k)) := by
  refine Me.of [some (rf g a), some (.long v), none, none, none] 2 rfl pf_J7_fill_d0a16 (Nat.le_of_ble_eq_true rfl) ?_
  refine wq_iconst 1 0 dJ7_fill_d0a16_0 rfl (by decide) ?_
  refine wq_istore_n 2 3 [_, _, _, _, _] dJ7_fill_d0a16_1 rfl rfl rfl (Nat.le_of_ble_eq_true rfl) rfl ?_
  refine wq_bload_n 3 0 dJ7_fill_d0a16_2 rfl rfl rfl ?_
  refine wq_alen 4 (nI len) dJ7_fill_d0a16_3 rfl ha (by decide) rfl ?_
  refine wq_istore 6 [_, _, _, _, _] dJ7_fill_d0a16_4 rfl rfl (Nat.le_of_ble_eq_true rfl) rfl ?_
  have e : L = va_up L a (fun j => if j < 0 then v else L a j) := by
    funext x
    by_cases hx : x = a
    · subst hx; rw [va_up_self]; funext j; simp
    · rw [va_up_ne _ _ hx]
  have h := lp_J7_fill_d0a16 (g := g) (D := D) (I := I) (L := L) (post := fun r' b' I' L' => r' = none ∧ b' = b ∧ I' = I ∧ L' = va_up L a (fun k => if k < len then v else L a k)) ha hlen v ⟨rfl, rfl, rfl, rfl⟩ len 0 (by omega)
  rw [← e] at h
  exact h
