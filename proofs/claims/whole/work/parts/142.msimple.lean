/-! THE REFERENCE's simple calls; a program's form -/
/-- each row is as its kind wants; names are below B -/
def WfB (B : Nat) (p : Pg) (n : Nat) : Prop := ∀ i, i < n → ∃ k, k < 9 ∧ p i 0 = nI k ∧ ∀ w, 1 ≤ w → w < 4 → (shp (nI k) (nI w) = 45 ∧ p i w = -6) ∨ (¬ shp (nI k) (nI w) = 45 ∧ ∃ x, x < 64 ∧ p i w = nI x ∧ (shp (nI k) (nI w) = 48 → k < 7 → x < 10) ∧ (¬ shp (nI k) (nI w) = 48 → x < B))
theorem nmS_tab : ∀ n, n < 128 → nmS (nI n) < 0 ∨ ∃ x, x < 16 ∧ nmS (nI n) = nI x := by
  have h : ∀ n, n < 128 → (decide (nmS (nI n) < 0) || (List.range 16).any (fun m => decide (nmS (nI n) = nI m))) = true := by decide +kernel
  intro n hn
  have h1 := h n hn
  simp only [Bool.or_eq_true, decide_eq_true_eq, List.any_eq_true, List.mem_range] at h1
  rcases h1 with h1 | ⟨m, h1, h2⟩
  · exact Or.inl h1
  · exact Or.inr ⟨m, h1, by simpa using h2⟩
theorem fig_tab : ∀ n, n < 128 → mng (nI n) 48 < 0 ∨ ∃ x, x < 10 ∧ mng (nI n) 48 = nI x := by
  have h : ∀ n, n < 128 → (decide (mng (nI n) 48 < 0) || (List.range 10).any (fun m => decide (mng (nI n) 48 = nI m))) = true := by decide +kernel
  intro n hn
  have h1 := h n hn
  simp only [Bool.or_eq_true, decide_eq_true_eq, List.any_eq_true, List.mem_range] at h1
  rcases h1 with h1 | ⟨m, h1, h2⟩
  · exact Or.inl h1
  · exact Or.inr ⟨m, h1, by simpa using h2⟩
theorem wf_pP {sg : Nat → Nat} {c n : Nat} (hc : c ≤ 60) (hs : ∀ j, j < c → sg j < 128) (hf : fltX sg c = -6) (hn : ∀ j, j < n → pos sg j < c) : WfB 16 (pP sg c) n := by
  intro i hi
  obtain ⟨m, hm, em, g1, g2⟩ := nf_row hc hs hf (j := i) (fun x hx => hn x (by omega))
  have hl := lnN_le (nI m)
  refine ⟨m, by omega, by simp [pP, em], fun w w1 hw => ?_⟩
  have hb := kd_b' hm (w := w) (by omega) w1
  have ep : pP sg c i w = ptO sg c (nI m) w (pos sg i) := by
    unfold pP
    rw [if_neg (by omega), em]
  rw [ep]
  by_cases h45 : shp (nI m) (nI w) = 45
  · refine Or.inl ⟨h45, ?_⟩
    unfold ptO
    rw [h45]
    by_cases hx : c ≤ pos sg i + w
    · rw [if_pos hx]
    · rw [if_neg hx, mng, if_pos (by decide), if_neg (fun z => z rfl)]
  · have hwl := hb.mpr h45
    have hg := g2 w w1 hwl
    have hsx := hs (pos sg i + w) (by omega)
    refine Or.inr ⟨h45, ?_⟩
    rw [ptO, if_neg (by omega)]
    by_cases h48 : shp (nI m) (nI w) = 48
    · rw [h48] at hg ⊢
      obtain ⟨x, hx, ex⟩ := (fig_tab _ hsx).resolve_left hg
      exact ⟨x, by omega, ex, fun _ _ => hx, fun z => absurd rfl z⟩
    · rw [mng, if_pos h48, if_pos h45] at hg ⊢
      obtain ⟨x, hx, ex⟩ := (nmS_tab _ hsx).resolve_left hg
      exact ⟨x, by omega, ex, fun z => absurd z h48, fun _ => hx⟩
theorem fpl_val (sg : Nat → Nat) (c : Nat) : ∀ r e k w, fpl sg c r e k w = -6 ∨ ∃ x, x ≤ e + r + c ∧ fpl sg c r e k w = nI x
  | 0, e, k, w => by
    rw [fpl]
    by_cases h : w = 0
    · rw [if_pos h]; exact Or.inl rfl
    · rw [if_neg h]; exact Or.inr ⟨c, by omega, rfl⟩
  | r + 1, e, k, w => by
    rw [fpl]
    by_cases h : w = 0
    · rw [if_pos h]
      by_cases h2 : kopn (sg e) < 0
      · rw [if_pos h2]; exact Or.inr ⟨e, by omega, rfl⟩
      · rw [if_neg h2]
        rcases fpl_val sg c r (e + 1) (kopn (sg e)) (if shp (kopn (sg e)) (nI 1) = 45 then 0 else 1) with h3 | ⟨x, h3, h4⟩
        · exact Or.inl h3
        · exact Or.inr ⟨x, by omega, h4⟩
    · rw [if_neg h]
      by_cases h2 : mng (nI (sg e)) (shp k (nI w)) < 0
      · rw [if_pos h2]; exact Or.inr ⟨e, by omega, rfl⟩
      · rw [if_neg h2]
        rcases fpl_val sg c r (e + 1) k (if shp k (nI (w + 1)) = 45 then 0 else w + 1) with h3 | ⟨x, h3, h4⟩
        · exact Or.inl h3
        · exact Or.inr ⟨x, by omega, h4⟩
theorem flt_neg {sg : Nat → Nat} {c : Nat} (hc : c ≤ 60) : fltX sg c < 0 ↔ fltX sg c = -6 := by
  rcases fpl_val sg c c 0 (-6) 0 with h | ⟨x, h1, h2⟩
  · rw [show fltX sg c = fpl sg c c 0 (-6) 0 from rfl, h]; decide
  · rw [show fltX sg c = fpl sg c c 0 (-6) 0 from rfl, h2]
    exact ⟨fun z => absurd z (nI_pos (by omega)), fun z => absurd z (nI_ne6 (by omega))⟩
set_option maxRecDepth 20000 in
theorem sp_X8_loadF {g : Gl} {D : Nat} {b : Bool} {I : IM} {L : LM} {c : Nat} {sg : Nat → Nat} (hD : 3 ≤ D) (h : PdM I c sg) (hf : ¬ fltX sg c = -6) : Md g D MX8_load [rf g 71] b I L (some (.int (-5))) b I L := by
  refine Me.of [some (rf g 71), none, none] 2 rfl pf_X8_load (Nat.le_of_ble_eq_true rfl) ?_
  refine wq_bload_n 1 0 dX8_load_0 rfl rfl rfl ?_
  refine cVi0 4 (sp_X8_faultOf (by omega) h) ml_X8_137 mf_X8_faultOf dX8_load_1 rfl o_71 (by decide) rfl (Nat.le_of_ble_eq_true rfl) (by omega) ?_
  refine wq_if_lt 7 10 dX8_load_4 rfl (by decide) (fun c4 => absurd c4 (fun z => hf ((flt_neg h.1).mp z))) (fun c4 => ?_)
  refine wq_bipush 9 (-5) dX8_load_7 rfl (by decide) ?_
  refine ri .int dX8_load_9 rfl rfl ?_
  exact ⟨rfl, rfl, rfl, rfl⟩
set_option maxRecDepth 20000 in
theorem sp_X8_load {g : Gl} {D : Nat} {b : Bool} {I : IM} {L : LM} {c : Nat} {sg : Nat → Nat} (hD : 3 ≤ D) (h : PdM I c sg) (hf : fltX sg c = -6) : Me g D MX8_load [rf g 71] b I L (fun r b' I' L' => b' = b ∧ L' = L ∧ ∃ n, r = some (.int (nI n)) ∧ c ≤ pos sg n ∧ (∀ j, j < n → pos sg j < c) ∧ MR I' n (pP sg c) ∧ I' 71 = va_up (va_up (I 71) 6 (nI n)) 7 0 ∧ ∀ x, x ∉ [71, 72, 73, 74, 75] → I' x = I x) := by
  refine Me.of [some (rf g 71), none, none] 2 rfl pf_X8_load (Nat.le_of_ble_eq_true rfl) ?_
  refine wq_bload_n 1 0 dX8_load_0 rfl rfl rfl ?_
  refine cVi0 4 (sp_X8_faultOf (by omega) h) ml_X8_137 mf_X8_faultOf dX8_load_1 rfl o_71 (by decide) rfl (Nat.le_of_ble_eq_true rfl) (by omega) ?_
  refine wq_if_lt 7 10 dX8_load_4 rfl (by decide) (fun c4 => ?_) (fun c4 => absurd ((flt_neg h.1).mpr hf) c4)
  refine wq_bload_n 11 0 dX8_load_10 rfl rfl rfl ?_
  refine wq_iconst 12 0 dX8_load_11 rfl (by decide) ?_
  refine wq_putI 15 fl_X8_141 dX8_load_12 rfl rfl rfl rfl rfl o_71 ?_
  refine wq_iconst 16 0 dX8_load_15 rfl (by decide) ?_
  refine wq_istore_n 17 1 [_, _, _] dX8_load_16 rfl rfl rfl (Nat.le_of_ble_eq_true rfl) rfl ?_
  refine lp_X8_load hD h hf (fun I' n h1 h2 h3 h4 h5 => ⟨rfl, rfl, n, rfl, h1, h2, h3, h4, h5⟩) 31 0 _ rfl (fun j hj => absurd hj (by omega)) rfl (fun x hx => ?_) (fun j hj => absurd hj (by omega)) _
  simp at hx
  rw [va_up_ne _ _ hx.1]
set_option maxRecDepth 20000 in
theorem sp_X8_colours {g : Gl} {D : Nat} {b : Bool} {I : IM} {L : LM} (hD : 1 ≤ D) (v : Int32) : Md g D MX8_colours [rf g 71, .int v] b I L (some (.int (if inM v 2 4 = 0 then -2 else I 71 0))) b (if inM v 2 4 = 0 then I else va_up I 71 (va_up (I 71) 0 v)) L := by
  refine Me.of [some (rf g 71), some (.int v), none] 1 rfl pf_X8_colours (Nat.le_of_ble_eq_true rfl) ?_
  refine wq_iload_n 1 1 dX8_colours_0 rfl rfl rfl ?_
  refine wq_iconst 2 2 dX8_colours_1 rfl (by decide) ?_
  refine wq_iconst 3 4 dX8_colours_2 rfl (by decide) ?_
  refine cSi3 6 (sp_X8_in _ _ _) ml_X8_113 mf_X8_in dX8_colours_3 rfl (Nat.le_of_ble_eq_true rfl) (by omega) ?_
  refine wq_if_ne 9 12 dX8_colours_6 rfl (by decide) (fun c6 => ?_) (fun c6 => ?_)
  · skip
    refine wq_bload_n 13 0 dX8_colours_12 rfl rfl rfl ?_
    refine wq_getI 16 fl_X8_7 dX8_colours_13 rfl rfl o_71 ?_
    refine wq_istore_n 17 2 [_, _, _] dX8_colours_16 rfl rfl rfl (Nat.le_of_ble_eq_true rfl) rfl ?_
    refine wq_bload_n 18 0 dX8_colours_17 rfl rfl rfl ?_
    refine wq_iload_n 19 1 dX8_colours_18 rfl rfl rfl ?_
    refine wq_putI 22 fl_X8_7 dX8_colours_19 rfl rfl rfl rfl rfl o_71 ?_
    refine wq_iload_n 23 2 dX8_colours_22 rfl rfl rfl ?_
    refine ri .int dX8_colours_23 rfl rfl ?_
    exact ⟨by rw [if_neg c6], rfl, by rw [if_neg c6], rfl⟩
  · skip
    refine wq_bipush 11 (-2) dX8_colours_9 rfl (by decide) ?_
    refine ri .int dX8_colours_11 rfl rfl ?_
    exact ⟨by rw [if_pos c6], rfl, by rw [if_pos c6], rfl⟩
set_option maxRecDepth 20000 in
theorem sp_X8_way {g : Gl} {D : Nat} {b : Bool} {I : IM} {L : LM} (hD : 1 ≤ D) (v : Int32) : Md g D MX8_way [rf g 71, .int v] b I L (some (.int (if inM v 0 2 = 0 then -2 else I 71 1))) b (if inM v 0 2 = 0 then I else va_up I 71 (va_up (I 71) 1 v)) L := by
  refine Me.of [some (rf g 71), some (.int v), none] 1 rfl pf_X8_way (Nat.le_of_ble_eq_true rfl) ?_
  refine wq_iload_n 1 1 dX8_way_0 rfl rfl rfl ?_
  refine wq_iconst 2 0 dX8_way_1 rfl (by decide) ?_
  refine wq_iconst 3 2 dX8_way_2 rfl (by decide) ?_
  refine cSi3 6 (sp_X8_in _ _ _) ml_X8_113 mf_X8_in dX8_way_3 rfl (Nat.le_of_ble_eq_true rfl) (by omega) ?_
  refine wq_if_ne 9 12 dX8_way_6 rfl (by decide) (fun c6 => ?_) (fun c6 => ?_)
  · skip
    refine wq_bload_n 13 0 dX8_way_12 rfl rfl rfl ?_
    refine wq_getI 16 fl_X8_117 dX8_way_13 rfl rfl o_71 ?_
    refine wq_istore_n 17 2 [_, _, _] dX8_way_16 rfl rfl rfl (Nat.le_of_ble_eq_true rfl) rfl ?_
    refine wq_bload_n 18 0 dX8_way_17 rfl rfl rfl ?_
    refine wq_iload_n 19 1 dX8_way_18 rfl rfl rfl ?_
    refine wq_putI 22 fl_X8_117 dX8_way_19 rfl rfl rfl rfl rfl o_71 ?_
    refine wq_iload_n 23 2 dX8_way_22 rfl rfl rfl ?_
    refine ri .int dX8_way_23 rfl rfl ?_
    exact ⟨by rw [if_neg c6], rfl, by rw [if_neg c6], rfl⟩
  · skip
    refine wq_bipush 11 (-2) dX8_way_9 rfl (by decide) ?_
    refine ri .int dX8_way_11 rfl rfl ?_
    exact ⟨by rw [if_pos c6], rfl, by rw [if_pos c6], rfl⟩
set_option maxRecDepth 20000 in
theorem sp_X8_wipe {g : Gl} {D : Nat} {b : Bool} {I : IM} {L : LM} : Md g D MX8_wipe [rf g 71] b I L (some (.int (I 71 7))) b (va_up I 71 (va_up (I 71) 7 0)) L := by
  refine Me.of [some (rf g 71), none] 1 rfl pf_X8_wipe (Nat.le_of_ble_eq_true rfl) ?_
  refine wq_bload_n 1 0 dX8_wipe_0 rfl rfl rfl ?_
  refine wq_getI 4 fl_X8_120 dX8_wipe_1 rfl rfl o_71 ?_
  refine wq_istore_n 5 1 [_, _] dX8_wipe_4 rfl rfl rfl (Nat.le_of_ble_eq_true rfl) rfl ?_
  refine wq_bload_n 6 0 dX8_wipe_5 rfl rfl rfl ?_
  refine wq_iconst 7 0 dX8_wipe_6 rfl (by decide) ?_
  refine wq_putI 10 fl_X8_120 dX8_wipe_7 rfl rfl rfl rfl rfl o_71 ?_
  refine wq_iload_n 11 1 dX8_wipe_10 rfl rfl rfl ?_
  refine ri .int dX8_wipe_11 rfl rfl ?_
  exact ⟨rfl, rfl, rfl, rfl⟩
set_option maxRecDepth 20000 in
theorem sp_X8_fault {g : Gl} {D : Nat} {b : Bool} {I : IM} {L : LM} {c : Nat} {sg : Nat → Nat} (hD : 3 ≤ D) (h : PdM I c sg) : Md g D MX8_fault [rf g 71] b I L (some (.int (fltX sg c))) b I L := by
  refine Me.of [some (rf g 71)] 0 rfl pf_X8_fault (Nat.le_of_ble_eq_true rfl) ?_
  refine wq_bload_n 1 0 dX8_fault_0 rfl rfl rfl ?_
  refine cVi0 4 (sp_X8_faultOf (by omega) h) ml_X8_137 mf_X8_faultOf dX8_fault_1 rfl o_71 (by decide) rfl (Nat.le_of_ble_eq_true rfl) (by omega) ?_
  refine ri .int dX8_fault_4 rfl rfl ?_
  exact ⟨rfl, rfl, rfl, rfl⟩
set_option maxRecDepth 20000 in
theorem sp_X8_say {g : Gl} {D : Nat} {b : Bool} {I : IM} {L : LM} {c : Nat} (hD : 1 ≤ D) (h : I 71 7 = nI c) (hc : c ≤ 60) (s : Int32) : Md g D MX8_say [rf g 71, .int s] b I L (some (.int (if inM s 33 126 = 0 then -2 else if c = 60 then -4 else nI (c + 1)))) b (if inM s 33 126 = 0 then I else if c = 60 then I else va_up (va_up I 76 (va_up (I 76) c s)) 71 (va_up (I 71) 7 (nI (c + 1)))) L := by
  refine Me.of [some (rf g 71), some (.int s)] 0 rfl pf_X8_say (Nat.le_of_ble_eq_true rfl) ?_
  refine wq_iload_n 1 1 dX8_say_0 rfl rfl rfl ?_
  refine wq_bipush 3 33 dX8_say_1 rfl (by decide) ?_
  refine wq_bipush 5 126 dX8_say_3 rfl (by decide) ?_
  refine cSi3 8 (sp_X8_in _ _ _) ml_X8_113 mf_X8_in dX8_say_5 rfl (Nat.le_of_ble_eq_true rfl) (by omega) ?_
  refine wq_if_ne 11 14 dX8_say_8 rfl (by decide) (fun c8 => ?_) (fun c8 => ?_)
  · skip
    refine wq_bload_n 15 0 dX8_say_14 rfl rfl rfl ?_
    refine wq_getI 18 fl_X8_120 dX8_say_15 rfl rfl o_71 ?_
    refine wq_bipush 20 60 dX8_say_18 rfl (by decide) ?_
    refine wq_ic_ne 23 26 dX8_say_20 rfl (by decide) (fun c20 => ?_) (fun c20 => ?_)
    · skip
      have c60 : ¬ c = 60 := fun e => c20 (by rw [h, e]; rfl)
      refine wq_bload_n 27 0 dX8_say_26 rfl rfl rfl ?_
      refine wq_getR 30 fl_X8_26 dX8_say_27 rfl rfl o_71 (rfl : (Tb _).2.2.2 71 8 = some 76) ?_
      refine wq_bload_n 31 0 dX8_say_30 rfl rfl rfl ?_
      refine wq_getI 34 fl_X8_120 dX8_say_31 rfl rfl o_71 ?_
      rw [h]
      refine wq_iload_n 35 1 dX8_say_34 rfl rfl rfl ?_
      refine wq_iast 36 dX8_say_35 rfl a_76 (Ix.nI (by omega) (by decide)) ?_
      refine wq_bload_n 37 0 dX8_say_36 rfl rfl rfl ?_
      refine wq_dup 38 dX8_say_37 rfl rfl ?_
      refine wq_getI 41 fl_X8_120 dX8_say_38 rfl rfl o_71 ?_
      refine wq_iconst 42 1 dX8_say_41 rfl (by decide) ?_
      refine wq_iadd 43 dX8_say_42 rfl ?_
      refine wq_putI 46 fl_X8_120 dX8_say_43 rfl rfl rfl rfl rfl o_71 ?_
      refine wq_bload_n 47 0 dX8_say_46 rfl rfl rfl ?_
      refine wq_getI 50 fl_X8_120 dX8_say_47 rfl rfl o_71 ?_
      refine ri .int dX8_say_50 rfl rfl ?_
      refine ⟨?_, rfl, ?_, rfl⟩
      · rw [if_neg c8, if_neg c60]
        simp [va_up, h, nI_1]
      · rw [if_neg c8, if_neg c60]
        simp [va_up_ne, h, nI_1]
    · skip
      refine wq_bipush 25 (-4) dX8_say_23 rfl (by decide) ?_
      refine ri .int dX8_say_25 rfl rfl ?_
      have c60 : c = 60 := (nI_eq (a := c) (b := 60) (by omega) (by decide)).mp (by rw [← h]; exact c20)
      exact ⟨by rw [if_neg c8, if_pos c60], rfl, by rw [if_neg c8, if_pos c60], rfl⟩
  · skip
    refine wq_bipush 13 (-2) dX8_say_11 rfl (by decide) ?_
    refine ri .int dX8_say_13 rfl rfl ?_
    exact ⟨by rw [if_pos c8], rfl, by rw [if_pos c8], rfl⟩
