/-! THE LAW's loop -/
theorem tab_i {k : Nat} (h : k < 32) : (nI k).toInt = (k : Int) := nI_toInt (by omega)
set_option maxRecDepth 20000 in
set_option maxHeartbeats 4000000 in
theorem law_loop {g : Gl} {b L : Nat} {xs : Nat → Int32} {nm : String} {u v : Nat} (hL : L ≤ 1536) (hu : u ≤ 600000) (hvv : v ≤ 7302250) : ∀ f, LpI g b L xs nm u v f := by
  have hu' : u ≤ room_1.cells := Nat.le_trans hu (Nat.le_of_ble_eq_true rfl)
  have hv' : v ≤ room_1.slots := Nat.le_trans hvv (Nat.le_of_ble_eq_true rfl)
  intro f
  induction f with
  | zero =>
    intro i bb I M t h1 h2 hx hm hv
    refine wq_iload_n 19 3 dL_law_18 rfl rfl rfl ?_
    refine wq_aload_n 20 0 dL_law_19 rfl rfl rfl ?_
    refine wl_slen 21 dL_law_20 rfl ?_
    refine wq_iconst 22 3 dL_law_21 rfl (by decide) ?_
    refine wq_isub 23 dL_law_22 rfl ?_
    refine wq_ic_gt 26 621 dL_law_23 rfl (by decide) (fun _ => ?_) (fun c => ?_)
    · refine wq_iconst 622 1 dL_law_621 rfl (by decide) ?_
      exact wl_ret dL_law_622 hu hvv
    have hi := law_ix hL (by omega) c
    omega
  | succ f ih =>
    intro i bb I M t h1 h2 hx hm hv
    refine wq_iload_n 19 3 dL_law_18 rfl rfl rfl ?_
    refine wq_aload_n 20 0 dL_law_19 rfl rfl rfl ?_
    refine wl_slen 21 dL_law_20 rfl ?_
    refine wq_iconst 22 3 dL_law_21 rfl (by decide) ?_
    refine wq_isub 23 dL_law_22 rfl ?_
    refine wq_ic_gt 26 621 dL_law_23 rfl (by decide) (fun _ => ?_) (fun c => ?_)
    · refine wq_iconst 622 1 dL_law_621 rfl (by decide) ?_
      exact wl_ret dL_law_622 hu hvv
    have hi := law_ix hL (by omega) c
    refine wq_aload_n 27 0 dL_law_26 rfl rfl rfl ?_
    refine wq_iload_n 28 3 dL_law_27 rfl rfl rfl ?_
    refine wl_sld 29 (vp_in_nI (by omega) (by omega)) dL_law_28 rfl ?_
    refine wq_bipush 31 31 dL_law_29 rfl (by decide) ?_
    refine wq_iand 32 dL_law_31 rfl ?_
    obtain ⟨k, hk, ek⟩ := m31 (xs (nI i).toNatClampNeg)
    rw [ek]
    have kk : ∀ bb I M t, InvX I M t → InvM I t → VT t → Wp (KL g b L xs nm) (u, v, 103, Rl bb) 615 [some (.ref b), some (rf g 0), some (rf g 71), some (.int (nI i))] [] I M := fun bb I M t hx hm hv => by
      refine wq_iinc 618 (nI (i + 3)) [_, _, _, _] dL_law_615 rfl rfl (nI_add i 3) rfl (Nat.le_of_ble_eq_true rfl) rfl ?_
      refine wq_goto 18 dL_law_618 (by decide) ?_
      exact ih (i + 3) bb I M t (by omega) (by omega) hx hm hv
    by_cases c20 : k ≤ 20
    · have ka := tab_i hk
      have hcs : k = 0 ∨ k = 1 ∨ k = 2 ∨ k = 3 ∨ k = 4 ∨ k = 5 ∨ k = 6 ∨ k = 7 ∨ k = 8 ∨ k = 9 ∨ k = 10 ∨ k = 11 ∨ k = 12 ∨ k = 13 ∨ k = 14 ∨ k = 15 ∨ k = 16 ∨ k = 17 ∨ k = 18 ∨ k = 19 ∨ k = 20 := by omega
      rcases hcs with rfl | rfl | rfl | rfl | rfl | rfl | rfl | rfl | rfl | rfl | rfl | rfl | rfl | rfl | rfl | rfl | rfl | rfl | rfl | rfl | rfl
      · exact wq_tabIn 132 dL_law_32 (by decide) (by decide) rfl (by decide) (lw_op0 hL hi hu' hv' hx hm hv kk)
      · exact wq_tabIn 155 dL_law_32 (by decide) (by decide) rfl (by decide) (lw_op1 hL hi hu' hv' hx hm hv kk)
      · exact wq_tabIn 178 dL_law_32 (by decide) (by decide) rfl (by decide) (lw_op2 hL hi hu' hv' hx hm hv kk)
      · exact wq_tabIn 201 dL_law_32 (by decide) (by decide) rfl (by decide) (lw_op3 hL hi hu' hv' hx hm hv kk)
      · exact wq_tabIn 214 dL_law_32 (by decide) (by decide) rfl (by decide) (lw_op4 hL hi hu' hv' hx hm hv kk)
      · exact wq_tabIn 227 dL_law_32 (by decide) (by decide) rfl (by decide) (lw_op5 hL hi hu' hv' hx hm hv kk)
      · exact wq_tabIn 240 dL_law_32 (by decide) (by decide) rfl (by decide) (lw_op6 hL hi hu' hv' hx hm hv kk)
      · exact wq_tabIn 273 dL_law_32 (by decide) (by decide) rfl (by decide) (lw_op7 hL hi hu' hv' hx hm hv kk)
      · exact wq_tabIn 296 dL_law_32 (by decide) (by decide) rfl (by decide) (lw_op8 hL hi hu' hv' hx hm hv kk)
      · exact wq_tabIn 319 dL_law_32 (by decide) (by decide) rfl (by decide) (lw_op9 hL hi hu' hv' hx hm hv kk)
      · exact wq_tabIn 352 dL_law_32 (by decide) (by decide) rfl (by decide) (lw_op10 hL hi hu' hv' hx hm hv kk)
      · exact wq_tabIn 375 dL_law_32 (by decide) (by decide) rfl (by decide) (lw_op11 hL hi hu' hv' hx hm hv kk)
      · exact wq_tabIn 398 dL_law_32 (by decide) (by decide) rfl (by decide) (lw_op12 hL hi hu' hv' hx hm hv kk)
      · exact wq_tabIn 421 dL_law_32 (by decide) (by decide) rfl (by decide) (lw_op13 hL hi hu' hv' hx hm hv kk)
      · exact wq_tabIn 444 dL_law_32 (by decide) (by decide) rfl (by decide) (lw_op14 hL hi hu' hv' hx hm hv kk)
      · exact wq_tabIn 477 dL_law_32 (by decide) (by decide) rfl (by decide) (lw_op15 hL hi hu' hv' hx hm hv kk)
      · exact wq_tabIn 500 dL_law_32 (by decide) (by decide) rfl (by decide) (lw_op16 hL hi hu' hv' hx hm hv kk)
      · exact wq_tabIn 523 dL_law_32 (by decide) (by decide) rfl (by decide) (lw_op17 hL hi hu' hv' hx hm hv kk)
      · exact wq_tabIn 546 dL_law_32 (by decide) (by decide) rfl (by decide) (lw_op18 hL hi hu' hv' hx hm hv kk)
      · exact wq_tabIn 569 dL_law_32 (by decide) (by decide) rfl (by decide) (lw_op19 hL hi hu' hv' hx hm hv kk)
      · exact wq_tabIn 592 dL_law_32 (by decide) (by decide) rfl (by decide) (lw_op20 hL hi hu' hv' hx hm hv kk)
    · exact wq_tabOut 615 dL_law_32 (Or.inr (by rw [tab_i hk]; omega)) (by decide) (kk bb I M t hx hm hv)
