/-! Round.play: the steps -/
theorem left_pos {mv : Nat} {A : RA} (h : leftV A = true) : 1 ≤ lvA A := by
  obtain ⟨j, j1, j2⟩ := (anyB_iff _ 64).mp h
  have := cntF_less (f := valA A) (g := fun _ => false) (x := j) j2 rfl j1 (fun _ _ z => by cases z)
  unfold lvA
  omega
set_option maxRecDepth 20000 in
set_option maxHeartbeats 2000000 in
theorem lp_X5_play {g : Gl} {D : Nat} {b : Bool} {k w mv t l a : Nat} {f1 f2 : Nat → Nat} {k3 k4 : Int32} (hD : 4 ≤ D) (hk : k < 2 ^ 30) (hw : w < 3) {post : Option Value → Bool → IM → LM → Prop} : ∀ f q A I L, RX I L k w mv t f1 f2 A → GS mv t f1 f2 A → lvA A + omA mv A ≤ f → q + f ≤ 153 → (∀ I' L' l5, RX I' L' k w mv t f1 f2 (runA k w mv f1 f2 f A) → FX I L I' L' → Wp (Kn g D MX5_play post) (Tb b) 66 [some (rf g 21), some (rf g l), some (rf g a), some (.int k3), some (.int k4), l5] [] I' L') → Wp (Kn g D MX5_play post) (Tb b) 20 [some (rf g 21), some (rf g l), some (rf g a), some (.int k3), some (.int k4), some (.int (nI q))] [] I L := by
  intro f
  induction f with
  | zero =>
    intro q A I L h hs hf hq kk
    have hl : leftV A = false := Bool.eq_false_iff.mpr (fun z => by have := left_pos (mv := mv) z; omega)
    refine wq_iload 22 dX5_play_20 rfl rfl ?_
    refine wq_sipush 25 154 dX5_play_22 rfl (by decide) ?_
    refine wq_ic_ge 28 66 dX5_play_25 rfl (by decide) (fun c25 => absurd c25 (nI_ge (b := 154) (by omega) (by decide))) (fun c25 => ?_)
    refine wq_bload_n 29 0 dX5_play_28 rfl rfl rfl ?_
    refine cVp0 32 (sp_X5_look (by omega) (by omega) h hs.1) ml_X5_80 mf_X5_lookAround dX5_play_29 rfl o_21 (by decide) rfl (Nat.le_of_ble_eq_true rfl) (by omega) ?_
    rintro _ _ I1 L1 ⟨rfl, rfl, h1, s1, i1, l1, l2⟩
    have fx : FX I L I1 L1 := ⟨fun z hz => by simp at hz; exact i1 z hz.2.1, fun z hz => by simp at hz; exact l1 z hz.1, l2 17 (by decide) (by decide)⟩
    refine wq_if_eq 35 66 dX5_play_32 rfl (by decide) (fun c32 => ?_) (fun c32 => absurd (by rw [hl]; rfl) c32)
    exact kk I1 L1 _ h1 fx
  | succ f ih =>
    intro q A I L h hs hf hq kk
    by_cases hl : leftV A = true
    · have hst := step_less (k := k) (w := w) hs hl
      have hp := left_pos (mv := mv) hl
      have hQ : aQ A < 154 := by have := hs.2.1; omega
      have hK : aK A < 64 := by have := hs.2.2.1; omega
      have hc := GS_cost hs
      have J60 : ∀ I1 L1, RX I1 L1 k w mv t f1 f2 (stepA k w mv f1 f2 A) → FX I L I1 L1 → Wp (Kn g D MX5_play post) (Tb b) 60 [some (rf g 21), some (rf g l), some (rf g a), some (.int k3), some (.int k4), some (.int (nI q))] [] I1 L1 := by
        intro I1 L1 h1 fx
        refine wq_iinc 63 (_ + 1) [_, _, _, _, _, _] dX5_play_60 rfl rfl (inc1 _) rfl (Nat.le_of_ble_eq_true rfl) rfl ?_
        refine wq_goto 20 dX5_play_63 (by decide) ?_
        rw [← nI_succ]
        refine ih (q + 1) _ I1 L1 h1 hst.1 (by omega) (by omega) (fun I2 L2 l5 h2 fx2 => kk I2 L2 l5 ?_ (fx.trans fx2))
        rw [runA, if_pos hl]
        exact h2
      refine wq_iload 22 dX5_play_20 rfl rfl ?_
      refine wq_sipush 25 154 dX5_play_22 rfl (by decide) ?_
      refine wq_ic_ge 28 66 dX5_play_25 rfl (by decide) (fun c25 => absurd c25 (nI_ge (b := 154) (by omega) (by decide))) (fun c25 => ?_)
      refine wq_bload_n 29 0 dX5_play_28 rfl rfl rfl ?_
      refine cVp0 32 (sp_X5_look (by omega) (by omega) h hs.1) ml_X5_80 mf_X5_lookAround dX5_play_29 rfl o_21 (by decide) rfl (Nat.le_of_ble_eq_true rfl) (by omega) ?_
      rintro _ _ I1 L1 ⟨rfl, rfl, h1, s1, i1, l1, l2⟩
      have fx : FX I L I1 L1 := ⟨fun z hz => by simp at hz; exact i1 z hz.2.1, fun z hz => by simp at hz; exact l1 z hz.1, l2 17 (by decide) (by decide)⟩
      refine wq_if_eq 35 66 dX5_play_32 rfl (by decide) (fun c32 => absurd c32 (by rw [hl]; decide)) (fun c32 => ?_)
      refine wq_bload_n 36 0 dX5_play_35 rfl rfl rfl ?_
      refine cVp0 39 (sp_X5_takeLow (by omega) h1 hs.1 s1 hK hQ rfl) ml_X5_84 mf_X5_takeLow dX5_play_36 rfl o_21 (by decide) rfl (Nat.le_of_ble_eq_true rfl) (by omega) ?_
      rintro _ _ I2 L2 ⟨rfl, ⟨n1, rfl, h2, fx2⟩ | ⟨n1, rfl, rfl, rfl⟩⟩
      · refine wq_if_ne 42 60 dX5_play_39 rfl (by decide) (fun c => ?_) (fun c => absurd c (by decide))
        refine J60 I2 L2 ?_ (fx.trans fx2)
        rw [stepA, if_pos n1]
        exact h2
      refine wq_if_ne 42 60 dX5_play_39 rfl (by decide) (fun c39 => absurd c39 (fun z => z rfl)) (fun c39 => ?_)
      refine wq_bload_n 43 0 dX5_play_42 rfl rfl rfl ?_
      refine cVp0 46 (sp_X5_settle (by omega) hk h1 hs.1 s1 hQ rfl) ml_X5_87 mf_X5_settleMove dX5_play_43 rfl o_21 (by decide) rfl (Nat.le_of_ble_eq_true rfl) (by omega) ?_
      rintro _ _ I2 L2 ⟨rfl, ⟨n2, rfl, h2, fx2⟩ | ⟨n2, rfl, rfl, rfl⟩⟩
      · refine wq_if_ne 49 60 dX5_play_46 rfl (by decide) (fun c => ?_) (fun c => absurd c (by decide))
        refine J60 I2 L2 ?_ (fx.trans fx2)
        rw [stepA, if_neg n1, if_pos n2]
        exact h2
      refine wq_if_ne 49 60 dX5_play_46 rfl (by decide) (fun c46 => absurd c46 (fun z => z rfl)) (fun c46 => ?_)
      refine wq_bload_n 50 0 dX5_play_49 rfl rfl rfl ?_
      refine cVp0 53 (sp_X5_giveUp (by omega) h1 hs.1 s1 hQ rfl) ml_X5_90 mf_X5_giveUpMoves dX5_play_50 rfl o_21 (by decide) rfl (Nat.le_of_ble_eq_true rfl) (by omega) ?_
      rintro _ _ I2 L2 ⟨rfl, ⟨n3, rfl, h2, fx2⟩ | ⟨n3, rfl, rfl, rfl⟩⟩
      · refine wq_if_ne 56 60 dX5_play_53 rfl (by decide) (fun c => ?_) (fun c => absurd c (by decide))
        refine J60 I2 L2 ?_ (fx.trans fx2)
        rw [stepA, if_neg n1, if_neg n2, if_pos n3]
        exact h2
      refine wq_if_ne 56 60 dX5_play_53 rfl (by decide) (fun c53 => absurd c53 (fun z => z rfl)) (fun c53 => ?_)
      refine wq_bload_n 57 0 dX5_play_56 rfl rfl rfl ?_
      refine cVp0 60 (sp_X5_hope (by omega) hw h1 hs.1 s1 hc hK hQ hl) ml_X5_93 mf_X5_takeInHope dX5_play_57 rfl o_21 (by decide) rfl (Nat.le_of_ble_eq_true rfl) (by omega) ?_
      rintro _ _ I2 L2 ⟨rfl, rfl, h2, fx2⟩
      refine J60 I2 L2 ?_ (fx.trans fx2)
      rw [stepA, if_neg n1, if_neg n2, if_neg n3]
      exact h2
    · have hl' : leftV A = false := Bool.eq_false_iff.mpr hl
      refine wq_iload 22 dX5_play_20 rfl rfl ?_
      refine wq_sipush 25 154 dX5_play_22 rfl (by decide) ?_
      refine wq_ic_ge 28 66 dX5_play_25 rfl (by decide) (fun c25 => absurd c25 (nI_ge (b := 154) (by omega) (by decide))) (fun c25 => ?_)
      refine wq_bload_n 29 0 dX5_play_28 rfl rfl rfl ?_
      refine cVp0 32 (sp_X5_look (by omega) (by omega) h hs.1) ml_X5_80 mf_X5_lookAround dX5_play_29 rfl o_21 (by decide) rfl (Nat.le_of_ble_eq_true rfl) (by omega) ?_
      rintro _ _ I1 L1 ⟨rfl, rfl, h1, s1, i1, l1, l2⟩
      have fx : FX I L I1 L1 := ⟨fun z hz => by simp at hz; exact i1 z hz.2.1, fun z hz => by simp at hz; exact l1 z hz.1, l2 17 (by decide) (by decide)⟩
      refine wq_if_eq 35 66 dX5_play_32 rfl (by decide) (fun c32 => ?_) (fun c32 => absurd (by rw [hl']; rfl) c32)
      exact kk I1 L1 _ (by rw [runA_stop hl']; exact h1) fx
