/-! WHERE THE REFERENCES LEAD once both objects are made; b: whether now and next have changed places -/
def RlT (b : Bool) : List (List (Option Nat)) := [
  [some 1, some 3, some 8, some 14, some 50, some 54, some 58],
  [some 2],
  [],
  [some 4, some 5, some 6, some 7],
  [],
  [],
  [],
  [],
  [some 9, some 10, some 11, some 12, some 13],
  [],
  [],
  [],
  [],
  [],
  [some 15, some 21, some 32, some 37, some 38, some 39, some (bif b then 45 else 40), some (bif b then 40 else 45)],
  [some 16, some 17, some 18, some 19, some 20],
  [],
  [],
  [],
  [],
  [],
  [some 22, some 23, some 24, some 25, some 26, some 27, some 28, some 29, some 30, some 31],
  [],
  [],
  [],
  [],
  [],
  [],
  [],
  [],
  [],
  [],
  [some 33, some 34, some 35, some 36],
  [],
  [],
  [],
  [],
  [],
  [],
  [],
  [some 41, some 42, some 43, some 44],
  [],
  [],
  [],
  [],
  [some 46, some 47, some 48, some 49],
  [],
  [],
  [],
  [],
  [some 51, some 52, some 53],
  [],
  [],
  [],
  [some 55, some 56, some 57],
  [],
  [],
  [],
  [some 59, some 65],
  [some 60],
  [some 61, some 62, some 63, some 64],
  [],
  [],
  [],
  [],
  [some 66],
  [some 67, some 68, some 69, some 70],
  [],
  [],
  [],
  [],
  [none, none, some 72, some 73, some 74, some 75, none, none, some 76, some 77, some 78, some 79, some 80, none, some 81, some 82, some 83, some 84, none, some 85, some 86, some 87, some 88, some 89, none, some 90, some 91, none, some 92, some 93, none, some 94, some 95, none, none, none, none, none, some 96, some 97, none, some 98, some 99, some 100, none, none, none, none, none, none, some 101, some 102],
  [],
  [],
  [],
  [],
  [],
  [],
  [],
  [],
  [],
  [],
  [],
  [],
  [],
  [],
  [],
  [],
  [],
  [],
  [],
  [],
  [],
  [],
  [],
  [],
  [],
  [],
  [],
  [],
  [],
  [],
  []]
def Rl (b : Bool) : RM := fun a k => ((RlT b).getD a []).getD k none
abbrev Tb (b : Bool) : Tx := (0, 0, 103, Rl b)
theorem ob_of {b : Bool} {a ci : Nat} (h : a < 103) (hk : kd a = .inl ci) : Ob (Tb b) a ci := ⟨h, hk⟩
theorem ar_of {b : Bool} {a s n : Nat} (h : a < 103) (hk : kd a = .inr (s, n)) : Ar (Tb b) a s n := ⟨h, hk⟩
/-- a Listing -/
def IsL (a : Nat) : Prop := a = 3 ∨ a = 32 ∨ a = 40 ∨ a = 45 ∨ a = 60 ∨ a = 66
theorem IsL.of {P : Nat → Prop} {a : Nat} (h : IsL a) (h1 : P 3) (h2 : P 32) (h3 : P 40) (h4 : P 45) (h5 : P 60) (h6 : P 66) : P a := by
  rcases h with rfl | rfl | rfl | rfl | rfl | rfl <;> assumption
def IsN (a : Nat) : Prop := a = 8 ∨ a = 15
theorem IsN.of {P : Nat → Prop} {a : Nat} (h : IsN a) (h1 : P 8) (h2 : P 15) : P a := by
  rcases h with rfl | rfl <;> assumption
def IsU (a : Nat) : Prop := a = 50 ∨ a = 54
theorem IsU.of {P : Nat → Prop} {a : Nat} (h : IsU a) (h1 : P 50) (h2 : P 54) : P a := by
  rcases h with rfl | rfl <;> assumption
def IsG (a : Nat) : Prop := a = 59 ∨ a = 65
theorem IsG.of {P : Nat → Prop} {a : Nat} (h : IsG a) (h1 : P 59) (h2 : P 65) : P a := by
  rcases h with rfl | rfl <;> assumption
theorem L_ob {b : Bool} {a : Nat} (h : IsL a) : Ob (Tb b) a 2 := h.of (P := fun a => Ob (Tb b) a 2) (ob_of (by decide) rfl) (ob_of (by decide) rfl) (ob_of (by decide) rfl) (ob_of (by decide) rfl) (ob_of (by decide) rfl) (ob_of (by decide) rfl)
theorem L_ar0 {b : Bool} {a : Nat} (h : IsL a) : Ar (Tb b) (a + 1) 0 360 := h.of (P := fun a => Ar (Tb b) (a + 1) 0 360) (ar_of (by decide) rfl) (ar_of (by decide) rfl) (ar_of (by decide) rfl) (ar_of (by decide) rfl) (ar_of (by decide) rfl) (ar_of (by decide) rfl)
theorem L_rf0 {b : Bool} {a : Nat} (h : IsL a) : (Tb b).2.2.2 a 0 = some (a + 1) := h.of (P := fun a => (Tb b).2.2.2 a 0 = some (a + 1)) rfl rfl rfl rfl rfl rfl
theorem L_ar1 {b : Bool} {a : Nat} (h : IsL a) : Ar (Tb b) (a + 2) 1 90 := h.of (P := fun a => Ar (Tb b) (a + 2) 1 90) (ar_of (by decide) rfl) (ar_of (by decide) rfl) (ar_of (by decide) rfl) (ar_of (by decide) rfl) (ar_of (by decide) rfl) (ar_of (by decide) rfl)
theorem L_rf1 {b : Bool} {a : Nat} (h : IsL a) : (Tb b).2.2.2 a 1 = some (a + 2) := h.of (P := fun a => (Tb b).2.2.2 a 1 = some (a + 2)) rfl rfl rfl rfl rfl rfl
theorem L_ar2 {b : Bool} {a : Nat} (h : IsL a) : Ar (Tb b) (a + 3) 0 90 := h.of (P := fun a => Ar (Tb b) (a + 3) 0 90) (ar_of (by decide) rfl) (ar_of (by decide) rfl) (ar_of (by decide) rfl) (ar_of (by decide) rfl) (ar_of (by decide) rfl) (ar_of (by decide) rfl)
theorem L_rf2 {b : Bool} {a : Nat} (h : IsL a) : (Tb b).2.2.2 a 2 = some (a + 3) := h.of (P := fun a => (Tb b).2.2.2 a 2 = some (a + 3)) rfl rfl rfl rfl rfl rfl
theorem L_ar3 {b : Bool} {a : Nat} (h : IsL a) : Ar (Tb b) (a + 4) 0 10 := h.of (P := fun a => Ar (Tb b) (a + 4) 0 10) (ar_of (by decide) rfl) (ar_of (by decide) rfl) (ar_of (by decide) rfl) (ar_of (by decide) rfl) (ar_of (by decide) rfl) (ar_of (by decide) rfl)
theorem L_rf3 {b : Bool} {a : Nat} (h : IsL a) : (Tb b).2.2.2 a 3 = some (a + 4) := h.of (P := fun a => (Tb b).2.2.2 a 3 = some (a + 4)) rfl rfl rfl rfl rfl rfl
theorem N_ob {b : Bool} {a : Nat} (h : IsN a) : Ob (Tb b) a 3 := h.of (P := fun a => Ob (Tb b) a 3) (ob_of (by decide) rfl) (ob_of (by decide) rfl)
theorem N_ar0 {b : Bool} {a : Nat} (h : IsN a) : Ar (Tb b) (a + 1) 1 90 := h.of (P := fun a => Ar (Tb b) (a + 1) 1 90) (ar_of (by decide) rfl) (ar_of (by decide) rfl)
theorem N_rf0 {b : Bool} {a : Nat} (h : IsN a) : (Tb b).2.2.2 a 0 = some (a + 1) := h.of (P := fun a => (Tb b).2.2.2 a 0 = some (a + 1)) rfl rfl
theorem N_ar1 {b : Bool} {a : Nat} (h : IsN a) : Ar (Tb b) (a + 2) 1 90 := h.of (P := fun a => Ar (Tb b) (a + 2) 1 90) (ar_of (by decide) rfl) (ar_of (by decide) rfl)
theorem N_rf1 {b : Bool} {a : Nat} (h : IsN a) : (Tb b).2.2.2 a 1 = some (a + 2) := h.of (P := fun a => (Tb b).2.2.2 a 1 = some (a + 2)) rfl rfl
theorem N_ar2 {b : Bool} {a : Nat} (h : IsN a) : Ar (Tb b) (a + 3) 0 90 := h.of (P := fun a => Ar (Tb b) (a + 3) 0 90) (ar_of (by decide) rfl) (ar_of (by decide) rfl)
theorem N_rf2 {b : Bool} {a : Nat} (h : IsN a) : (Tb b).2.2.2 a 2 = some (a + 3) := h.of (P := fun a => (Tb b).2.2.2 a 2 = some (a + 3)) rfl rfl
theorem N_ar3 {b : Bool} {a : Nat} (h : IsN a) : Ar (Tb b) (a + 4) 1 64 := h.of (P := fun a => Ar (Tb b) (a + 4) 1 64) (ar_of (by decide) rfl) (ar_of (by decide) rfl)
theorem N_rf3 {b : Bool} {a : Nat} (h : IsN a) : (Tb b).2.2.2 a 3 = some (a + 4) := h.of (P := fun a => (Tb b).2.2.2 a 3 = some (a + 4)) rfl rfl
theorem N_ar4 {b : Bool} {a : Nat} (h : IsN a) : Ar (Tb b) (a + 5) 0 64 := h.of (P := fun a => Ar (Tb b) (a + 5) 0 64) (ar_of (by decide) rfl) (ar_of (by decide) rfl)
theorem N_rf4 {b : Bool} {a : Nat} (h : IsN a) : (Tb b).2.2.2 a 4 = some (a + 5) := h.of (P := fun a => (Tb b).2.2.2 a 4 = some (a + 5)) rfl rfl
theorem U_ob {b : Bool} {a : Nat} (h : IsU a) : Ob (Tb b) a 6 := h.of (P := fun a => Ob (Tb b) a 6) (ob_of (by decide) rfl) (ob_of (by decide) rfl)
theorem U_ar0 {b : Bool} {a : Nat} (h : IsU a) : Ar (Tb b) (a + 1) 0 64 := h.of (P := fun a => Ar (Tb b) (a + 1) 0 64) (ar_of (by decide) rfl) (ar_of (by decide) rfl)
theorem U_rf0 {b : Bool} {a : Nat} (h : IsU a) : (Tb b).2.2.2 a 0 = some (a + 1) := h.of (P := fun a => (Tb b).2.2.2 a 0 = some (a + 1)) rfl rfl
theorem U_ar1 {b : Bool} {a : Nat} (h : IsU a) : Ar (Tb b) (a + 2) 0 64 := h.of (P := fun a => Ar (Tb b) (a + 2) 0 64) (ar_of (by decide) rfl) (ar_of (by decide) rfl)
theorem U_rf1 {b : Bool} {a : Nat} (h : IsU a) : (Tb b).2.2.2 a 1 = some (a + 2) := h.of (P := fun a => (Tb b).2.2.2 a 1 = some (a + 2)) rfl rfl
theorem U_ar2 {b : Bool} {a : Nat} (h : IsU a) : Ar (Tb b) (a + 3) 0 500 := h.of (P := fun a => Ar (Tb b) (a + 3) 0 500) (ar_of (by decide) rfl) (ar_of (by decide) rfl)
theorem U_rf2 {b : Bool} {a : Nat} (h : IsU a) : (Tb b).2.2.2 a 2 = some (a + 3) := h.of (P := fun a => (Tb b).2.2.2 a 2 = some (a + 3)) rfl rfl
theorem G_ob {b : Bool} {a : Nat} (h : IsG a) : Ob (Tb b) a 1 := h.of (P := fun a => Ob (Tb b) a 1) (ob_of (by decide) rfl) (ob_of (by decide) rfl)
theorem G_rf0 {b : Bool} {a : Nat} (h : IsG a) : (Tb b).2.2.2 a 0 = some (a + 1) := h.of (P := fun a => (Tb b).2.2.2 a 0 = some (a + 1)) rfl rfl
theorem G_l {a : Nat} (h : IsG a) : IsL (a + 1) := h.of (P := fun a => IsL (a + 1)) (by simp [IsL]) (by simp [IsL])
theorem o_0 {b : Bool} : Ob (Tb b) 0 7 := ob_of (by decide) rfl
theorem o_1 {b : Bool} : Ob (Tb b) 1 4 := ob_of (by decide) rfl
theorem a_2 {b : Bool} : Ar (Tb b) 2 0 60 := ar_of (by decide) rfl
theorem o_3 {b : Bool} : Ob (Tb b) 3 2 := ob_of (by decide) rfl
theorem a_4 {b : Bool} : Ar (Tb b) 4 0 360 := ar_of (by decide) rfl
theorem a_5 {b : Bool} : Ar (Tb b) 5 1 90 := ar_of (by decide) rfl
theorem a_6 {b : Bool} : Ar (Tb b) 6 0 90 := ar_of (by decide) rfl
theorem a_7 {b : Bool} : Ar (Tb b) 7 0 10 := ar_of (by decide) rfl
theorem o_8 {b : Bool} : Ob (Tb b) 8 3 := ob_of (by decide) rfl
theorem a_9 {b : Bool} : Ar (Tb b) 9 1 90 := ar_of (by decide) rfl
theorem a_10 {b : Bool} : Ar (Tb b) 10 1 90 := ar_of (by decide) rfl
theorem a_11 {b : Bool} : Ar (Tb b) 11 0 90 := ar_of (by decide) rfl
theorem a_12 {b : Bool} : Ar (Tb b) 12 1 64 := ar_of (by decide) rfl
theorem a_13 {b : Bool} : Ar (Tb b) 13 0 64 := ar_of (by decide) rfl
theorem o_14 {b : Bool} : Ob (Tb b) 14 0 := ob_of (by decide) rfl
theorem o_15 {b : Bool} : Ob (Tb b) 15 3 := ob_of (by decide) rfl
theorem a_16 {b : Bool} : Ar (Tb b) 16 1 90 := ar_of (by decide) rfl
theorem a_17 {b : Bool} : Ar (Tb b) 17 1 90 := ar_of (by decide) rfl
theorem a_18 {b : Bool} : Ar (Tb b) 18 0 90 := ar_of (by decide) rfl
theorem a_19 {b : Bool} : Ar (Tb b) 19 1 64 := ar_of (by decide) rfl
theorem a_20 {b : Bool} : Ar (Tb b) 20 0 64 := ar_of (by decide) rfl
theorem o_21 {b : Bool} : Ob (Tb b) 21 5 := ob_of (by decide) rfl
theorem a_22 {b : Bool} : Ar (Tb b) 22 1 64 := ar_of (by decide) rfl
theorem a_23 {b : Bool} : Ar (Tb b) 23 0 64 := ar_of (by decide) rfl
theorem a_24 {b : Bool} : Ar (Tb b) 24 0 64 := ar_of (by decide) rfl
theorem a_25 {b : Bool} : Ar (Tb b) 25 0 64 := ar_of (by decide) rfl
theorem a_26 {b : Bool} : Ar (Tb b) 26 0 64 := ar_of (by decide) rfl
theorem a_27 {b : Bool} : Ar (Tb b) 27 0 90 := ar_of (by decide) rfl
theorem a_28 {b : Bool} : Ar (Tb b) 28 0 90 := ar_of (by decide) rfl
theorem a_29 {b : Bool} : Ar (Tb b) 29 2 90 := ar_of (by decide) rfl
theorem a_30 {b : Bool} : Ar (Tb b) 30 0 64 := ar_of (by decide) rfl
theorem a_31 {b : Bool} : Ar (Tb b) 31 0 154 := ar_of (by decide) rfl
theorem o_32 {b : Bool} : Ob (Tb b) 32 2 := ob_of (by decide) rfl
theorem a_33 {b : Bool} : Ar (Tb b) 33 0 360 := ar_of (by decide) rfl
theorem a_34 {b : Bool} : Ar (Tb b) 34 1 90 := ar_of (by decide) rfl
theorem a_35 {b : Bool} : Ar (Tb b) 35 0 90 := ar_of (by decide) rfl
theorem a_36 {b : Bool} : Ar (Tb b) 36 0 10 := ar_of (by decide) rfl
theorem a_37 {b : Bool} : Ar (Tb b) 37 0 64 := ar_of (by decide) rfl
theorem a_38 {b : Bool} : Ar (Tb b) 38 0 154 := ar_of (by decide) rfl
theorem a_39 {b : Bool} : Ar (Tb b) 39 0 4 := ar_of (by decide) rfl
theorem o_40 {b : Bool} : Ob (Tb b) 40 2 := ob_of (by decide) rfl
theorem a_41 {b : Bool} : Ar (Tb b) 41 0 360 := ar_of (by decide) rfl
theorem a_42 {b : Bool} : Ar (Tb b) 42 1 90 := ar_of (by decide) rfl
theorem a_43 {b : Bool} : Ar (Tb b) 43 0 90 := ar_of (by decide) rfl
theorem a_44 {b : Bool} : Ar (Tb b) 44 0 10 := ar_of (by decide) rfl
theorem o_45 {b : Bool} : Ob (Tb b) 45 2 := ob_of (by decide) rfl
theorem a_46 {b : Bool} : Ar (Tb b) 46 0 360 := ar_of (by decide) rfl
theorem a_47 {b : Bool} : Ar (Tb b) 47 1 90 := ar_of (by decide) rfl
theorem a_48 {b : Bool} : Ar (Tb b) 48 0 90 := ar_of (by decide) rfl
theorem a_49 {b : Bool} : Ar (Tb b) 49 0 10 := ar_of (by decide) rfl
theorem o_50 {b : Bool} : Ob (Tb b) 50 6 := ob_of (by decide) rfl
theorem a_51 {b : Bool} : Ar (Tb b) 51 0 64 := ar_of (by decide) rfl
theorem a_52 {b : Bool} : Ar (Tb b) 52 0 64 := ar_of (by decide) rfl
theorem a_53 {b : Bool} : Ar (Tb b) 53 0 500 := ar_of (by decide) rfl
theorem o_54 {b : Bool} : Ob (Tb b) 54 6 := ob_of (by decide) rfl
theorem a_55 {b : Bool} : Ar (Tb b) 55 0 64 := ar_of (by decide) rfl
theorem a_56 {b : Bool} : Ar (Tb b) 56 0 64 := ar_of (by decide) rfl
theorem a_57 {b : Bool} : Ar (Tb b) 57 0 500 := ar_of (by decide) rfl
theorem a_58 {b : Bool} : Ar (Tb b) 58 3 2 := ar_of (by decide) rfl
theorem o_59 {b : Bool} : Ob (Tb b) 59 1 := ob_of (by decide) rfl
theorem o_60 {b : Bool} : Ob (Tb b) 60 2 := ob_of (by decide) rfl
theorem a_61 {b : Bool} : Ar (Tb b) 61 0 360 := ar_of (by decide) rfl
theorem a_62 {b : Bool} : Ar (Tb b) 62 1 90 := ar_of (by decide) rfl
theorem a_63 {b : Bool} : Ar (Tb b) 63 0 90 := ar_of (by decide) rfl
theorem a_64 {b : Bool} : Ar (Tb b) 64 0 10 := ar_of (by decide) rfl
theorem o_65 {b : Bool} : Ob (Tb b) 65 1 := ob_of (by decide) rfl
theorem o_66 {b : Bool} : Ob (Tb b) 66 2 := ob_of (by decide) rfl
theorem a_67 {b : Bool} : Ar (Tb b) 67 0 360 := ar_of (by decide) rfl
theorem a_68 {b : Bool} : Ar (Tb b) 68 1 90 := ar_of (by decide) rfl
theorem a_69 {b : Bool} : Ar (Tb b) 69 0 90 := ar_of (by decide) rfl
theorem a_70 {b : Bool} : Ar (Tb b) 70 0 10 := ar_of (by decide) rfl
theorem o_71 {b : Bool} : Ob (Tb b) 71 8 := ob_of (by decide) rfl
theorem a_72 {b : Bool} : Ar (Tb b) 72 0 30 := ar_of (by decide) rfl
theorem a_73 {b : Bool} : Ar (Tb b) 73 0 30 := ar_of (by decide) rfl
theorem a_74 {b : Bool} : Ar (Tb b) 74 0 30 := ar_of (by decide) rfl
theorem a_75 {b : Bool} : Ar (Tb b) 75 0 30 := ar_of (by decide) rfl
theorem a_76 {b : Bool} : Ar (Tb b) 76 0 60 := ar_of (by decide) rfl
theorem a_77 {b : Bool} : Ar (Tb b) 77 0 91 := ar_of (by decide) rfl
theorem a_78 {b : Bool} : Ar (Tb b) 78 0 91 := ar_of (by decide) rfl
theorem a_79 {b : Bool} : Ar (Tb b) 79 0 91 := ar_of (by decide) rfl
theorem a_80 {b : Bool} : Ar (Tb b) 80 0 91 := ar_of (by decide) rfl
theorem a_81 {b : Bool} : Ar (Tb b) 81 0 91 := ar_of (by decide) rfl
theorem a_82 {b : Bool} : Ar (Tb b) 82 0 91 := ar_of (by decide) rfl
theorem a_83 {b : Bool} : Ar (Tb b) 83 0 91 := ar_of (by decide) rfl
theorem a_84 {b : Bool} : Ar (Tb b) 84 0 91 := ar_of (by decide) rfl
theorem a_85 {b : Bool} : Ar (Tb b) 85 1 91 := ar_of (by decide) rfl
theorem a_86 {b : Bool} : Ar (Tb b) 86 1 91 := ar_of (by decide) rfl
theorem a_87 {b : Bool} : Ar (Tb b) 87 1 64 := ar_of (by decide) rfl
theorem a_88 {b : Bool} : Ar (Tb b) 88 0 64 := ar_of (by decide) rfl
theorem a_89 {b : Bool} : Ar (Tb b) 89 0 64 := ar_of (by decide) rfl
theorem a_90 {b : Bool} : Ar (Tb b) 90 0 91 := ar_of (by decide) rfl
theorem a_91 {b : Bool} : Ar (Tb b) 91 2 91 := ar_of (by decide) rfl
theorem a_92 {b : Bool} : Ar (Tb b) 92 0 64 := ar_of (by decide) rfl
theorem a_93 {b : Bool} : Ar (Tb b) 93 1 64 := ar_of (by decide) rfl
theorem a_94 {b : Bool} : Ar (Tb b) 94 0 64 := ar_of (by decide) rfl
theorem a_95 {b : Bool} : Ar (Tb b) 95 0 200 := ar_of (by decide) rfl
theorem a_96 {b : Bool} : Ar (Tb b) 96 0 64 := ar_of (by decide) rfl
theorem a_97 {b : Bool} : Ar (Tb b) 97 0 16 := ar_of (by decide) rfl
theorem a_98 {b : Bool} : Ar (Tb b) 98 0 16 := ar_of (by decide) rfl
theorem a_99 {b : Bool} : Ar (Tb b) 99 0 64 := ar_of (by decide) rfl
theorem a_100 {b : Bool} : Ar (Tb b) 100 0 2000 := ar_of (by decide) rfl
theorem a_101 {b : Bool} : Ar (Tb b) 101 0 260 := ar_of (by decide) rfl
theorem a_102 {b : Bool} : Ar (Tb b) 102 2 2 := ar_of (by decide) rfl
/-- the contract of a method that makes nothing: what it answers, where now and next stand, the memory behind it -/
def Me (g : Gl) (D : Nat) (Y : Mt) (av : List Value) (b : Bool) (I : IM) (L : LM) (post : Option Value → Bool → IM → LM → Prop) : Prop :=
  Mp g D 0 0 Y av 103 (Rl b) I L (fun r n R I' L' => n = 103 ∧ ∃ b', R = Rl b' ∧ post r b' I' L')
def Md (g : Gl) (D : Nat) (Y : Mt) (av : List Value) (b : Bool) (I : IM) (L : LM) (r : Option Value) (b1 : Bool) (I1 : IM) (L1 : LM) : Prop :=
  Me g D Y av b I L (fun r' b' I' L' => r' = r ∧ b' = b1 ∧ I' = I1 ∧ L' = L1)
abbrev Kn (g : Gl) (D : Nat) (Y : Mt) (post : Option Value → Bool → IM → LM → Prop) : Kx := Km g D 0 0 Y (fun r n R I' L' => n = 103 ∧ ∃ b', R = Rl b' ∧ post r b' I' L')
abbrev Kd (g : Gl) (D : Nat) (Y : Mt) (r : Option Value) (b1 : Bool) (I1 : IM) (L1 : LM) : Kx := Kn g D Y (fun r' b' I' L' => r' = r ∧ b' = b1 ∧ I' = I1 ∧ L' = L1)
theorem Me.of {g : Gl} {D : Nat} {Y : Mt} {av : List Value} {b : Bool} {I : IM} {L : LM} {post : Option Value → Bool → IM → LM → Prop} (lv : List (Option Value)) (k : Nat) (hlv : ena av ++ List.replicate k none = lv) (hy : plainFor Y.1 = true) (hk : (lg_sl av).length ≤ Y.2.2.1) (h : Wp (Kn g D Y post) (Tb b) 0 lv [] I L) : Me g D Y av b I L post := by
  subst hlv
  exact Mp.of k hy hk h
theorem Me.mono {g : Gl} {D : Nat} {Y : Mt} {av : List Value} {b : Bool} {I : IM} {L : LM} {post post' : Option Value → Bool → IM → LM → Prop} (h : Me g D Y av b I L post) (hp : ∀ r b' I' L', post r b' I' L' → post' r b' I' L') : Me g D Y av b I L post' :=
  Mp.mono h (fun _ _ _ _ _ ⟨h1, b', h2, h3⟩ => ⟨h1, b', h2, hp _ _ _ _ h3⟩)
section Ends2
variable {g : Gl} {D : Nat} {Y : Mt} {post : Option Value → Bool → IM → LM → Prop} {pc : Nat} {lv : List (Option Value)} {b : Bool} {I : IM} {L : LM}
theorem ri {x : Int32} (ty : FieldType) (hd : decode Y.2.1 pc = .ok (.ireturn, 1)) (hr : Y.2.2.2 = some ty) (hn : narrow ty (.int x) = .int x) (h : post (some (.int x)) b I L) : Wp (Kn g D Y post) (Tb b) pc lv [.int x] I L := wq_iret ty hd hr hn (Nat.le_refl 0) (Nat.le_refl 0) ⟨rfl, b, rfl, h⟩
theorem rl {x : Int64} (hd : decode Y.2.1 pc = .ok (.lreturn, 1)) (hr : Y.2.2.2 = some .long) (h : post (some (.long x)) b I L) : Wp (Kn g D Y post) (Tb b) pc lv [.long x] I L := wq_lret hd hr (Nat.le_refl 0) (Nat.le_refl 0) ⟨rfl, b, rfl, h⟩
theorem rr (hd : decode Y.2.1 pc = .ok (.return_, 1)) (hr : Y.2.2.2 = none) (h : post none b I L) : Wp (Kn g D Y post) (Tb b) pc lv [] I L := wq_vret hd hr (Nat.le_refl 0) (Nat.le_refl 0) ⟨rfl, b, rfl, h⟩
end Ends2
section Calls2
variable {g : Gl} {D : Nat} {Y Z : Mt} {post : Option Value → Bool → IM → LM → Prop} {pc : Nat} {lv : List (Option Value)} {st : List Value} {b b' : Bool} {I I' : IM} {L L' : LM} {x : Int32} {y : Int64} {v1 v2 v3 v4 : Value} {idx np a ci : Nat} {post' : Option Value → Bool → IM → LM → Prop}
theorem cVp0 (q : Nat) (hM : Me g (D - 1) Z (rf g a :: []) b I L post') (hl : Ml Y.1.cls idx Z) (hz : MfV Z 0) (hd : decode Y.2.1 pc = .ok (.invokevirtual idx, 3)) (hq : pc + 3 = q) (ha : Ob (Tb b) a ci) (hci : ci < 9) (hcl : Z.1.cls = clsOf ci) (hst : (st.map fun v => v.category).sum ≤ 8) (hD : 1 ≤ D) (kk : ∀ r b' I' L', post' r b' I' L' → Wp (Kn g D Y post) (Tb b') q lv (r.toList ++ st) I' L') : Wp (Kn g D Y post) (Tb b) pc lv (rf g a :: st) I L := by
  refine wq_callV q (As := []) hM hl hz hd hq ha hci hcl rfl hst (by show D - 1 + 1 ≤ D; omega) (by show 38 * (D - 1) + 38 ≤ 38 * D; omega) (Nat.le_refl 0) (Nat.le_refl 0) ?_
  rintro r n R I1 L1 ⟨rfl, b1, rfl, h⟩
  exact kk r b1 I1 L1 h
theorem cVi0 (q : Nat) (hM : Md g (D - 1) Z (rf g a :: []) b I L (some (.int x)) b' I' L') (hl : Ml Y.1.cls idx Z) (hz : MfV Z 0) (hd : decode Y.2.1 pc = .ok (.invokevirtual idx, 3)) (hq : pc + 3 = q) (ha : Ob (Tb b) a ci) (hci : ci < 9) (hcl : Z.1.cls = clsOf ci) (hst : (st.map fun v => v.category).sum ≤ 8) (hD : 1 ≤ D) (kk : Wp (Kn g D Y post) (Tb b') q lv (.int x :: st) I' L') : Wp (Kn g D Y post) (Tb b) pc lv (rf g a :: st) I L := by
  refine cVp0 q hM hl hz hd hq ha hci hcl hst hD ?_
  rintro r b1 I1 L1 ⟨rfl, rfl, rfl, rfl⟩
  exact kk
theorem cVl0 (q : Nat) (hM : Md g (D - 1) Z (rf g a :: []) b I L (some (.long y)) b' I' L') (hl : Ml Y.1.cls idx Z) (hz : MfV Z 0) (hd : decode Y.2.1 pc = .ok (.invokevirtual idx, 3)) (hq : pc + 3 = q) (ha : Ob (Tb b) a ci) (hci : ci < 9) (hcl : Z.1.cls = clsOf ci) (hst : (st.map fun v => v.category).sum ≤ 8) (hD : 1 ≤ D) (kk : Wp (Kn g D Y post) (Tb b') q lv (.long y :: st) I' L') : Wp (Kn g D Y post) (Tb b) pc lv (rf g a :: st) I L := by
  refine cVp0 q hM hl hz hd hq ha hci hcl hst hD ?_
  rintro r b1 I1 L1 ⟨rfl, rfl, rfl, rfl⟩
  exact kk
theorem cVv0 (q : Nat) (hM : Md g (D - 1) Z (rf g a :: []) b I L (none) b' I' L') (hl : Ml Y.1.cls idx Z) (hz : MfV Z 0) (hd : decode Y.2.1 pc = .ok (.invokevirtual idx, 3)) (hq : pc + 3 = q) (ha : Ob (Tb b) a ci) (hci : ci < 9) (hcl : Z.1.cls = clsOf ci) (hst : (st.map fun v => v.category).sum ≤ 8) (hD : 1 ≤ D) (kk : Wp (Kn g D Y post) (Tb b') q lv (st) I' L') : Wp (Kn g D Y post) (Tb b) pc lv (rf g a :: st) I L := by
  refine cVp0 q hM hl hz hd hq ha hci hcl hst hD ?_
  rintro r b1 I1 L1 ⟨rfl, rfl, rfl, rfl⟩
  exact kk
theorem cVp1 (q : Nat) (hM : Me g (D - 1) Z (rf g a :: [v1]) b I L post') (hl : Ml Y.1.cls idx Z) (hz : MfV Z 1) (hd : decode Y.2.1 pc = .ok (.invokevirtual idx, 3)) (hq : pc + 3 = q) (ha : Ob (Tb b) a ci) (hci : ci < 9) (hcl : Z.1.cls = clsOf ci) (hst : (st.map fun v => v.category).sum ≤ 8) (hD : 1 ≤ D) (kk : ∀ r b' I' L', post' r b' I' L' → Wp (Kn g D Y post) (Tb b') q lv (r.toList ++ st) I' L') : Wp (Kn g D Y post) (Tb b) pc lv (v1 :: rf g a :: st) I L := by
  refine wq_callV q (As := [v1]) hM hl hz hd hq ha hci hcl rfl hst (by show D - 1 + 1 ≤ D; omega) (by show 38 * (D - 1) + 38 ≤ 38 * D; omega) (Nat.le_refl 0) (Nat.le_refl 0) ?_
  rintro r n R I1 L1 ⟨rfl, b1, rfl, h⟩
  exact kk r b1 I1 L1 h
theorem cVi1 (q : Nat) (hM : Md g (D - 1) Z (rf g a :: [v1]) b I L (some (.int x)) b' I' L') (hl : Ml Y.1.cls idx Z) (hz : MfV Z 1) (hd : decode Y.2.1 pc = .ok (.invokevirtual idx, 3)) (hq : pc + 3 = q) (ha : Ob (Tb b) a ci) (hci : ci < 9) (hcl : Z.1.cls = clsOf ci) (hst : (st.map fun v => v.category).sum ≤ 8) (hD : 1 ≤ D) (kk : Wp (Kn g D Y post) (Tb b') q lv (.int x :: st) I' L') : Wp (Kn g D Y post) (Tb b) pc lv (v1 :: rf g a :: st) I L := by
  refine cVp1 q hM hl hz hd hq ha hci hcl hst hD ?_
  rintro r b1 I1 L1 ⟨rfl, rfl, rfl, rfl⟩
  exact kk
theorem cVl1 (q : Nat) (hM : Md g (D - 1) Z (rf g a :: [v1]) b I L (some (.long y)) b' I' L') (hl : Ml Y.1.cls idx Z) (hz : MfV Z 1) (hd : decode Y.2.1 pc = .ok (.invokevirtual idx, 3)) (hq : pc + 3 = q) (ha : Ob (Tb b) a ci) (hci : ci < 9) (hcl : Z.1.cls = clsOf ci) (hst : (st.map fun v => v.category).sum ≤ 8) (hD : 1 ≤ D) (kk : Wp (Kn g D Y post) (Tb b') q lv (.long y :: st) I' L') : Wp (Kn g D Y post) (Tb b) pc lv (v1 :: rf g a :: st) I L := by
  refine cVp1 q hM hl hz hd hq ha hci hcl hst hD ?_
  rintro r b1 I1 L1 ⟨rfl, rfl, rfl, rfl⟩
  exact kk
theorem cVv1 (q : Nat) (hM : Md g (D - 1) Z (rf g a :: [v1]) b I L (none) b' I' L') (hl : Ml Y.1.cls idx Z) (hz : MfV Z 1) (hd : decode Y.2.1 pc = .ok (.invokevirtual idx, 3)) (hq : pc + 3 = q) (ha : Ob (Tb b) a ci) (hci : ci < 9) (hcl : Z.1.cls = clsOf ci) (hst : (st.map fun v => v.category).sum ≤ 8) (hD : 1 ≤ D) (kk : Wp (Kn g D Y post) (Tb b') q lv (st) I' L') : Wp (Kn g D Y post) (Tb b) pc lv (v1 :: rf g a :: st) I L := by
  refine cVp1 q hM hl hz hd hq ha hci hcl hst hD ?_
  rintro r b1 I1 L1 ⟨rfl, rfl, rfl, rfl⟩
  exact kk
theorem cVp2 (q : Nat) (hM : Me g (D - 1) Z (rf g a :: [v1, v2]) b I L post') (hl : Ml Y.1.cls idx Z) (hz : MfV Z 2) (hd : decode Y.2.1 pc = .ok (.invokevirtual idx, 3)) (hq : pc + 3 = q) (ha : Ob (Tb b) a ci) (hci : ci < 9) (hcl : Z.1.cls = clsOf ci) (hst : (st.map fun v => v.category).sum ≤ 8) (hD : 1 ≤ D) (kk : ∀ r b' I' L', post' r b' I' L' → Wp (Kn g D Y post) (Tb b') q lv (r.toList ++ st) I' L') : Wp (Kn g D Y post) (Tb b) pc lv (v2 :: v1 :: rf g a :: st) I L := by
  refine wq_callV q (As := [v1, v2]) hM hl hz hd hq ha hci hcl rfl hst (by show D - 1 + 1 ≤ D; omega) (by show 38 * (D - 1) + 38 ≤ 38 * D; omega) (Nat.le_refl 0) (Nat.le_refl 0) ?_
  rintro r n R I1 L1 ⟨rfl, b1, rfl, h⟩
  exact kk r b1 I1 L1 h
theorem cVi2 (q : Nat) (hM : Md g (D - 1) Z (rf g a :: [v1, v2]) b I L (some (.int x)) b' I' L') (hl : Ml Y.1.cls idx Z) (hz : MfV Z 2) (hd : decode Y.2.1 pc = .ok (.invokevirtual idx, 3)) (hq : pc + 3 = q) (ha : Ob (Tb b) a ci) (hci : ci < 9) (hcl : Z.1.cls = clsOf ci) (hst : (st.map fun v => v.category).sum ≤ 8) (hD : 1 ≤ D) (kk : Wp (Kn g D Y post) (Tb b') q lv (.int x :: st) I' L') : Wp (Kn g D Y post) (Tb b) pc lv (v2 :: v1 :: rf g a :: st) I L := by
  refine cVp2 q hM hl hz hd hq ha hci hcl hst hD ?_
  rintro r b1 I1 L1 ⟨rfl, rfl, rfl, rfl⟩
  exact kk
theorem cVl2 (q : Nat) (hM : Md g (D - 1) Z (rf g a :: [v1, v2]) b I L (some (.long y)) b' I' L') (hl : Ml Y.1.cls idx Z) (hz : MfV Z 2) (hd : decode Y.2.1 pc = .ok (.invokevirtual idx, 3)) (hq : pc + 3 = q) (ha : Ob (Tb b) a ci) (hci : ci < 9) (hcl : Z.1.cls = clsOf ci) (hst : (st.map fun v => v.category).sum ≤ 8) (hD : 1 ≤ D) (kk : Wp (Kn g D Y post) (Tb b') q lv (.long y :: st) I' L') : Wp (Kn g D Y post) (Tb b) pc lv (v2 :: v1 :: rf g a :: st) I L := by
  refine cVp2 q hM hl hz hd hq ha hci hcl hst hD ?_
  rintro r b1 I1 L1 ⟨rfl, rfl, rfl, rfl⟩
  exact kk
theorem cVv2 (q : Nat) (hM : Md g (D - 1) Z (rf g a :: [v1, v2]) b I L (none) b' I' L') (hl : Ml Y.1.cls idx Z) (hz : MfV Z 2) (hd : decode Y.2.1 pc = .ok (.invokevirtual idx, 3)) (hq : pc + 3 = q) (ha : Ob (Tb b) a ci) (hci : ci < 9) (hcl : Z.1.cls = clsOf ci) (hst : (st.map fun v => v.category).sum ≤ 8) (hD : 1 ≤ D) (kk : Wp (Kn g D Y post) (Tb b') q lv (st) I' L') : Wp (Kn g D Y post) (Tb b) pc lv (v2 :: v1 :: rf g a :: st) I L := by
  refine cVp2 q hM hl hz hd hq ha hci hcl hst hD ?_
  rintro r b1 I1 L1 ⟨rfl, rfl, rfl, rfl⟩
  exact kk
theorem cVp3 (q : Nat) (hM : Me g (D - 1) Z (rf g a :: [v1, v2, v3]) b I L post') (hl : Ml Y.1.cls idx Z) (hz : MfV Z 3) (hd : decode Y.2.1 pc = .ok (.invokevirtual idx, 3)) (hq : pc + 3 = q) (ha : Ob (Tb b) a ci) (hci : ci < 9) (hcl : Z.1.cls = clsOf ci) (hst : (st.map fun v => v.category).sum ≤ 8) (hD : 1 ≤ D) (kk : ∀ r b' I' L', post' r b' I' L' → Wp (Kn g D Y post) (Tb b') q lv (r.toList ++ st) I' L') : Wp (Kn g D Y post) (Tb b) pc lv (v3 :: v2 :: v1 :: rf g a :: st) I L := by
  refine wq_callV q (As := [v1, v2, v3]) hM hl hz hd hq ha hci hcl rfl hst (by show D - 1 + 1 ≤ D; omega) (by show 38 * (D - 1) + 38 ≤ 38 * D; omega) (Nat.le_refl 0) (Nat.le_refl 0) ?_
  rintro r n R I1 L1 ⟨rfl, b1, rfl, h⟩
  exact kk r b1 I1 L1 h
theorem cVi3 (q : Nat) (hM : Md g (D - 1) Z (rf g a :: [v1, v2, v3]) b I L (some (.int x)) b' I' L') (hl : Ml Y.1.cls idx Z) (hz : MfV Z 3) (hd : decode Y.2.1 pc = .ok (.invokevirtual idx, 3)) (hq : pc + 3 = q) (ha : Ob (Tb b) a ci) (hci : ci < 9) (hcl : Z.1.cls = clsOf ci) (hst : (st.map fun v => v.category).sum ≤ 8) (hD : 1 ≤ D) (kk : Wp (Kn g D Y post) (Tb b') q lv (.int x :: st) I' L') : Wp (Kn g D Y post) (Tb b) pc lv (v3 :: v2 :: v1 :: rf g a :: st) I L := by
  refine cVp3 q hM hl hz hd hq ha hci hcl hst hD ?_
  rintro r b1 I1 L1 ⟨rfl, rfl, rfl, rfl⟩
  exact kk
theorem cVl3 (q : Nat) (hM : Md g (D - 1) Z (rf g a :: [v1, v2, v3]) b I L (some (.long y)) b' I' L') (hl : Ml Y.1.cls idx Z) (hz : MfV Z 3) (hd : decode Y.2.1 pc = .ok (.invokevirtual idx, 3)) (hq : pc + 3 = q) (ha : Ob (Tb b) a ci) (hci : ci < 9) (hcl : Z.1.cls = clsOf ci) (hst : (st.map fun v => v.category).sum ≤ 8) (hD : 1 ≤ D) (kk : Wp (Kn g D Y post) (Tb b') q lv (.long y :: st) I' L') : Wp (Kn g D Y post) (Tb b) pc lv (v3 :: v2 :: v1 :: rf g a :: st) I L := by
  refine cVp3 q hM hl hz hd hq ha hci hcl hst hD ?_
  rintro r b1 I1 L1 ⟨rfl, rfl, rfl, rfl⟩
  exact kk
theorem cVv3 (q : Nat) (hM : Md g (D - 1) Z (rf g a :: [v1, v2, v3]) b I L (none) b' I' L') (hl : Ml Y.1.cls idx Z) (hz : MfV Z 3) (hd : decode Y.2.1 pc = .ok (.invokevirtual idx, 3)) (hq : pc + 3 = q) (ha : Ob (Tb b) a ci) (hci : ci < 9) (hcl : Z.1.cls = clsOf ci) (hst : (st.map fun v => v.category).sum ≤ 8) (hD : 1 ≤ D) (kk : Wp (Kn g D Y post) (Tb b') q lv (st) I' L') : Wp (Kn g D Y post) (Tb b) pc lv (v3 :: v2 :: v1 :: rf g a :: st) I L := by
  refine cVp3 q hM hl hz hd hq ha hci hcl hst hD ?_
  rintro r b1 I1 L1 ⟨rfl, rfl, rfl, rfl⟩
  exact kk
theorem cVp4 (q : Nat) (hM : Me g (D - 1) Z (rf g a :: [v1, v2, v3, v4]) b I L post') (hl : Ml Y.1.cls idx Z) (hz : MfV Z 4) (hd : decode Y.2.1 pc = .ok (.invokevirtual idx, 3)) (hq : pc + 3 = q) (ha : Ob (Tb b) a ci) (hci : ci < 9) (hcl : Z.1.cls = clsOf ci) (hst : (st.map fun v => v.category).sum ≤ 8) (hD : 1 ≤ D) (kk : ∀ r b' I' L', post' r b' I' L' → Wp (Kn g D Y post) (Tb b') q lv (r.toList ++ st) I' L') : Wp (Kn g D Y post) (Tb b) pc lv (v4 :: v3 :: v2 :: v1 :: rf g a :: st) I L := by
  refine wq_callV q (As := [v1, v2, v3, v4]) hM hl hz hd hq ha hci hcl rfl hst (by show D - 1 + 1 ≤ D; omega) (by show 38 * (D - 1) + 38 ≤ 38 * D; omega) (Nat.le_refl 0) (Nat.le_refl 0) ?_
  rintro r n R I1 L1 ⟨rfl, b1, rfl, h⟩
  exact kk r b1 I1 L1 h
theorem cVi4 (q : Nat) (hM : Md g (D - 1) Z (rf g a :: [v1, v2, v3, v4]) b I L (some (.int x)) b' I' L') (hl : Ml Y.1.cls idx Z) (hz : MfV Z 4) (hd : decode Y.2.1 pc = .ok (.invokevirtual idx, 3)) (hq : pc + 3 = q) (ha : Ob (Tb b) a ci) (hci : ci < 9) (hcl : Z.1.cls = clsOf ci) (hst : (st.map fun v => v.category).sum ≤ 8) (hD : 1 ≤ D) (kk : Wp (Kn g D Y post) (Tb b') q lv (.int x :: st) I' L') : Wp (Kn g D Y post) (Tb b) pc lv (v4 :: v3 :: v2 :: v1 :: rf g a :: st) I L := by
  refine cVp4 q hM hl hz hd hq ha hci hcl hst hD ?_
  rintro r b1 I1 L1 ⟨rfl, rfl, rfl, rfl⟩
  exact kk
theorem cVl4 (q : Nat) (hM : Md g (D - 1) Z (rf g a :: [v1, v2, v3, v4]) b I L (some (.long y)) b' I' L') (hl : Ml Y.1.cls idx Z) (hz : MfV Z 4) (hd : decode Y.2.1 pc = .ok (.invokevirtual idx, 3)) (hq : pc + 3 = q) (ha : Ob (Tb b) a ci) (hci : ci < 9) (hcl : Z.1.cls = clsOf ci) (hst : (st.map fun v => v.category).sum ≤ 8) (hD : 1 ≤ D) (kk : Wp (Kn g D Y post) (Tb b') q lv (.long y :: st) I' L') : Wp (Kn g D Y post) (Tb b) pc lv (v4 :: v3 :: v2 :: v1 :: rf g a :: st) I L := by
  refine cVp4 q hM hl hz hd hq ha hci hcl hst hD ?_
  rintro r b1 I1 L1 ⟨rfl, rfl, rfl, rfl⟩
  exact kk
theorem cVv4 (q : Nat) (hM : Md g (D - 1) Z (rf g a :: [v1, v2, v3, v4]) b I L (none) b' I' L') (hl : Ml Y.1.cls idx Z) (hz : MfV Z 4) (hd : decode Y.2.1 pc = .ok (.invokevirtual idx, 3)) (hq : pc + 3 = q) (ha : Ob (Tb b) a ci) (hci : ci < 9) (hcl : Z.1.cls = clsOf ci) (hst : (st.map fun v => v.category).sum ≤ 8) (hD : 1 ≤ D) (kk : Wp (Kn g D Y post) (Tb b') q lv (st) I' L') : Wp (Kn g D Y post) (Tb b) pc lv (v4 :: v3 :: v2 :: v1 :: rf g a :: st) I L := by
  refine cVp4 q hM hl hz hd hq ha hci hcl hst hD ?_
  rintro r b1 I1 L1 ⟨rfl, rfl, rfl, rfl⟩
  exact kk
theorem cSp0 (q : Nat) (hM : Me g (D - 1) Z ([]) b I L post') (hl : Ml Y.1.cls idx Z) (hz : MfS Z 0) (hd : decode Y.2.1 pc = .ok (.invokestatic idx, 3)) (hq : pc + 3 = q) (hst : (st.map fun v => v.category).sum ≤ 8) (hD : 1 ≤ D) (kk : ∀ r b' I' L', post' r b' I' L' → Wp (Kn g D Y post) (Tb b') q lv (r.toList ++ st) I' L') : Wp (Kn g D Y post) (Tb b) pc lv (st) I L := by
  refine wq_callS q (As := []) hM hl hz hd hq rfl hst (by show D - 1 + 1 ≤ D; omega) (by show 38 * (D - 1) + 38 ≤ 38 * D; omega) (Nat.le_refl 0) (Nat.le_refl 0) ?_
  rintro r n R I1 L1 ⟨rfl, b1, rfl, h⟩
  exact kk r b1 I1 L1 h
theorem cSi0 (q : Nat) (hM : Md g (D - 1) Z ([]) b I L (some (.int x)) b' I' L') (hl : Ml Y.1.cls idx Z) (hz : MfS Z 0) (hd : decode Y.2.1 pc = .ok (.invokestatic idx, 3)) (hq : pc + 3 = q) (hst : (st.map fun v => v.category).sum ≤ 8) (hD : 1 ≤ D) (kk : Wp (Kn g D Y post) (Tb b') q lv (.int x :: st) I' L') : Wp (Kn g D Y post) (Tb b) pc lv (st) I L := by
  refine cSp0 q hM hl hz hd hq hst hD ?_
  rintro r b1 I1 L1 ⟨rfl, rfl, rfl, rfl⟩
  exact kk
theorem cSl0 (q : Nat) (hM : Md g (D - 1) Z ([]) b I L (some (.long y)) b' I' L') (hl : Ml Y.1.cls idx Z) (hz : MfS Z 0) (hd : decode Y.2.1 pc = .ok (.invokestatic idx, 3)) (hq : pc + 3 = q) (hst : (st.map fun v => v.category).sum ≤ 8) (hD : 1 ≤ D) (kk : Wp (Kn g D Y post) (Tb b') q lv (.long y :: st) I' L') : Wp (Kn g D Y post) (Tb b) pc lv (st) I L := by
  refine cSp0 q hM hl hz hd hq hst hD ?_
  rintro r b1 I1 L1 ⟨rfl, rfl, rfl, rfl⟩
  exact kk
theorem cSv0 (q : Nat) (hM : Md g (D - 1) Z ([]) b I L (none) b' I' L') (hl : Ml Y.1.cls idx Z) (hz : MfS Z 0) (hd : decode Y.2.1 pc = .ok (.invokestatic idx, 3)) (hq : pc + 3 = q) (hst : (st.map fun v => v.category).sum ≤ 8) (hD : 1 ≤ D) (kk : Wp (Kn g D Y post) (Tb b') q lv (st) I' L') : Wp (Kn g D Y post) (Tb b) pc lv (st) I L := by
  refine cSp0 q hM hl hz hd hq hst hD ?_
  rintro r b1 I1 L1 ⟨rfl, rfl, rfl, rfl⟩
  exact kk
theorem cSp1 (q : Nat) (hM : Me g (D - 1) Z ([v1]) b I L post') (hl : Ml Y.1.cls idx Z) (hz : MfS Z 1) (hd : decode Y.2.1 pc = .ok (.invokestatic idx, 3)) (hq : pc + 3 = q) (hst : (st.map fun v => v.category).sum ≤ 8) (hD : 1 ≤ D) (kk : ∀ r b' I' L', post' r b' I' L' → Wp (Kn g D Y post) (Tb b') q lv (r.toList ++ st) I' L') : Wp (Kn g D Y post) (Tb b) pc lv (v1 :: st) I L := by
  refine wq_callS q (As := [v1]) hM hl hz hd hq rfl hst (by show D - 1 + 1 ≤ D; omega) (by show 38 * (D - 1) + 38 ≤ 38 * D; omega) (Nat.le_refl 0) (Nat.le_refl 0) ?_
  rintro r n R I1 L1 ⟨rfl, b1, rfl, h⟩
  exact kk r b1 I1 L1 h
theorem cSi1 (q : Nat) (hM : Md g (D - 1) Z ([v1]) b I L (some (.int x)) b' I' L') (hl : Ml Y.1.cls idx Z) (hz : MfS Z 1) (hd : decode Y.2.1 pc = .ok (.invokestatic idx, 3)) (hq : pc + 3 = q) (hst : (st.map fun v => v.category).sum ≤ 8) (hD : 1 ≤ D) (kk : Wp (Kn g D Y post) (Tb b') q lv (.int x :: st) I' L') : Wp (Kn g D Y post) (Tb b) pc lv (v1 :: st) I L := by
  refine cSp1 q hM hl hz hd hq hst hD ?_
  rintro r b1 I1 L1 ⟨rfl, rfl, rfl, rfl⟩
  exact kk
theorem cSl1 (q : Nat) (hM : Md g (D - 1) Z ([v1]) b I L (some (.long y)) b' I' L') (hl : Ml Y.1.cls idx Z) (hz : MfS Z 1) (hd : decode Y.2.1 pc = .ok (.invokestatic idx, 3)) (hq : pc + 3 = q) (hst : (st.map fun v => v.category).sum ≤ 8) (hD : 1 ≤ D) (kk : Wp (Kn g D Y post) (Tb b') q lv (.long y :: st) I' L') : Wp (Kn g D Y post) (Tb b) pc lv (v1 :: st) I L := by
  refine cSp1 q hM hl hz hd hq hst hD ?_
  rintro r b1 I1 L1 ⟨rfl, rfl, rfl, rfl⟩
  exact kk
theorem cSv1 (q : Nat) (hM : Md g (D - 1) Z ([v1]) b I L (none) b' I' L') (hl : Ml Y.1.cls idx Z) (hz : MfS Z 1) (hd : decode Y.2.1 pc = .ok (.invokestatic idx, 3)) (hq : pc + 3 = q) (hst : (st.map fun v => v.category).sum ≤ 8) (hD : 1 ≤ D) (kk : Wp (Kn g D Y post) (Tb b') q lv (st) I' L') : Wp (Kn g D Y post) (Tb b) pc lv (v1 :: st) I L := by
  refine cSp1 q hM hl hz hd hq hst hD ?_
  rintro r b1 I1 L1 ⟨rfl, rfl, rfl, rfl⟩
  exact kk
theorem cSp2 (q : Nat) (hM : Me g (D - 1) Z ([v1, v2]) b I L post') (hl : Ml Y.1.cls idx Z) (hz : MfS Z 2) (hd : decode Y.2.1 pc = .ok (.invokestatic idx, 3)) (hq : pc + 3 = q) (hst : (st.map fun v => v.category).sum ≤ 8) (hD : 1 ≤ D) (kk : ∀ r b' I' L', post' r b' I' L' → Wp (Kn g D Y post) (Tb b') q lv (r.toList ++ st) I' L') : Wp (Kn g D Y post) (Tb b) pc lv (v2 :: v1 :: st) I L := by
  refine wq_callS q (As := [v1, v2]) hM hl hz hd hq rfl hst (by show D - 1 + 1 ≤ D; omega) (by show 38 * (D - 1) + 38 ≤ 38 * D; omega) (Nat.le_refl 0) (Nat.le_refl 0) ?_
  rintro r n R I1 L1 ⟨rfl, b1, rfl, h⟩
  exact kk r b1 I1 L1 h
theorem cSi2 (q : Nat) (hM : Md g (D - 1) Z ([v1, v2]) b I L (some (.int x)) b' I' L') (hl : Ml Y.1.cls idx Z) (hz : MfS Z 2) (hd : decode Y.2.1 pc = .ok (.invokestatic idx, 3)) (hq : pc + 3 = q) (hst : (st.map fun v => v.category).sum ≤ 8) (hD : 1 ≤ D) (kk : Wp (Kn g D Y post) (Tb b') q lv (.int x :: st) I' L') : Wp (Kn g D Y post) (Tb b) pc lv (v2 :: v1 :: st) I L := by
  refine cSp2 q hM hl hz hd hq hst hD ?_
  rintro r b1 I1 L1 ⟨rfl, rfl, rfl, rfl⟩
  exact kk
theorem cSl2 (q : Nat) (hM : Md g (D - 1) Z ([v1, v2]) b I L (some (.long y)) b' I' L') (hl : Ml Y.1.cls idx Z) (hz : MfS Z 2) (hd : decode Y.2.1 pc = .ok (.invokestatic idx, 3)) (hq : pc + 3 = q) (hst : (st.map fun v => v.category).sum ≤ 8) (hD : 1 ≤ D) (kk : Wp (Kn g D Y post) (Tb b') q lv (.long y :: st) I' L') : Wp (Kn g D Y post) (Tb b) pc lv (v2 :: v1 :: st) I L := by
  refine cSp2 q hM hl hz hd hq hst hD ?_
  rintro r b1 I1 L1 ⟨rfl, rfl, rfl, rfl⟩
  exact kk
theorem cSv2 (q : Nat) (hM : Md g (D - 1) Z ([v1, v2]) b I L (none) b' I' L') (hl : Ml Y.1.cls idx Z) (hz : MfS Z 2) (hd : decode Y.2.1 pc = .ok (.invokestatic idx, 3)) (hq : pc + 3 = q) (hst : (st.map fun v => v.category).sum ≤ 8) (hD : 1 ≤ D) (kk : Wp (Kn g D Y post) (Tb b') q lv (st) I' L') : Wp (Kn g D Y post) (Tb b) pc lv (v2 :: v1 :: st) I L := by
  refine cSp2 q hM hl hz hd hq hst hD ?_
  rintro r b1 I1 L1 ⟨rfl, rfl, rfl, rfl⟩
  exact kk
theorem cSp3 (q : Nat) (hM : Me g (D - 1) Z ([v1, v2, v3]) b I L post') (hl : Ml Y.1.cls idx Z) (hz : MfS Z 3) (hd : decode Y.2.1 pc = .ok (.invokestatic idx, 3)) (hq : pc + 3 = q) (hst : (st.map fun v => v.category).sum ≤ 8) (hD : 1 ≤ D) (kk : ∀ r b' I' L', post' r b' I' L' → Wp (Kn g D Y post) (Tb b') q lv (r.toList ++ st) I' L') : Wp (Kn g D Y post) (Tb b) pc lv (v3 :: v2 :: v1 :: st) I L := by
  refine wq_callS q (As := [v1, v2, v3]) hM hl hz hd hq rfl hst (by show D - 1 + 1 ≤ D; omega) (by show 38 * (D - 1) + 38 ≤ 38 * D; omega) (Nat.le_refl 0) (Nat.le_refl 0) ?_
  rintro r n R I1 L1 ⟨rfl, b1, rfl, h⟩
  exact kk r b1 I1 L1 h
theorem cSi3 (q : Nat) (hM : Md g (D - 1) Z ([v1, v2, v3]) b I L (some (.int x)) b' I' L') (hl : Ml Y.1.cls idx Z) (hz : MfS Z 3) (hd : decode Y.2.1 pc = .ok (.invokestatic idx, 3)) (hq : pc + 3 = q) (hst : (st.map fun v => v.category).sum ≤ 8) (hD : 1 ≤ D) (kk : Wp (Kn g D Y post) (Tb b') q lv (.int x :: st) I' L') : Wp (Kn g D Y post) (Tb b) pc lv (v3 :: v2 :: v1 :: st) I L := by
  refine cSp3 q hM hl hz hd hq hst hD ?_
  rintro r b1 I1 L1 ⟨rfl, rfl, rfl, rfl⟩
  exact kk
theorem cSl3 (q : Nat) (hM : Md g (D - 1) Z ([v1, v2, v3]) b I L (some (.long y)) b' I' L') (hl : Ml Y.1.cls idx Z) (hz : MfS Z 3) (hd : decode Y.2.1 pc = .ok (.invokestatic idx, 3)) (hq : pc + 3 = q) (hst : (st.map fun v => v.category).sum ≤ 8) (hD : 1 ≤ D) (kk : Wp (Kn g D Y post) (Tb b') q lv (.long y :: st) I' L') : Wp (Kn g D Y post) (Tb b) pc lv (v3 :: v2 :: v1 :: st) I L := by
  refine cSp3 q hM hl hz hd hq hst hD ?_
  rintro r b1 I1 L1 ⟨rfl, rfl, rfl, rfl⟩
  exact kk
theorem cSv3 (q : Nat) (hM : Md g (D - 1) Z ([v1, v2, v3]) b I L (none) b' I' L') (hl : Ml Y.1.cls idx Z) (hz : MfS Z 3) (hd : decode Y.2.1 pc = .ok (.invokestatic idx, 3)) (hq : pc + 3 = q) (hst : (st.map fun v => v.category).sum ≤ 8) (hD : 1 ≤ D) (kk : Wp (Kn g D Y post) (Tb b') q lv (st) I' L') : Wp (Kn g D Y post) (Tb b) pc lv (v3 :: v2 :: v1 :: st) I L := by
  refine cSp3 q hM hl hz hd hq hst hD ?_
  rintro r b1 I1 L1 ⟨rfl, rfl, rfl, rfl⟩
  exact kk
theorem cSp4 (q : Nat) (hM : Me g (D - 1) Z ([v1, v2, v3, v4]) b I L post') (hl : Ml Y.1.cls idx Z) (hz : MfS Z 4) (hd : decode Y.2.1 pc = .ok (.invokestatic idx, 3)) (hq : pc + 3 = q) (hst : (st.map fun v => v.category).sum ≤ 8) (hD : 1 ≤ D) (kk : ∀ r b' I' L', post' r b' I' L' → Wp (Kn g D Y post) (Tb b') q lv (r.toList ++ st) I' L') : Wp (Kn g D Y post) (Tb b) pc lv (v4 :: v3 :: v2 :: v1 :: st) I L := by
  refine wq_callS q (As := [v1, v2, v3, v4]) hM hl hz hd hq rfl hst (by show D - 1 + 1 ≤ D; omega) (by show 38 * (D - 1) + 38 ≤ 38 * D; omega) (Nat.le_refl 0) (Nat.le_refl 0) ?_
  rintro r n R I1 L1 ⟨rfl, b1, rfl, h⟩
  exact kk r b1 I1 L1 h
theorem cSi4 (q : Nat) (hM : Md g (D - 1) Z ([v1, v2, v3, v4]) b I L (some (.int x)) b' I' L') (hl : Ml Y.1.cls idx Z) (hz : MfS Z 4) (hd : decode Y.2.1 pc = .ok (.invokestatic idx, 3)) (hq : pc + 3 = q) (hst : (st.map fun v => v.category).sum ≤ 8) (hD : 1 ≤ D) (kk : Wp (Kn g D Y post) (Tb b') q lv (.int x :: st) I' L') : Wp (Kn g D Y post) (Tb b) pc lv (v4 :: v3 :: v2 :: v1 :: st) I L := by
  refine cSp4 q hM hl hz hd hq hst hD ?_
  rintro r b1 I1 L1 ⟨rfl, rfl, rfl, rfl⟩
  exact kk
theorem cSl4 (q : Nat) (hM : Md g (D - 1) Z ([v1, v2, v3, v4]) b I L (some (.long y)) b' I' L') (hl : Ml Y.1.cls idx Z) (hz : MfS Z 4) (hd : decode Y.2.1 pc = .ok (.invokestatic idx, 3)) (hq : pc + 3 = q) (hst : (st.map fun v => v.category).sum ≤ 8) (hD : 1 ≤ D) (kk : Wp (Kn g D Y post) (Tb b') q lv (.long y :: st) I' L') : Wp (Kn g D Y post) (Tb b) pc lv (v4 :: v3 :: v2 :: v1 :: st) I L := by
  refine cSp4 q hM hl hz hd hq hst hD ?_
  rintro r b1 I1 L1 ⟨rfl, rfl, rfl, rfl⟩
  exact kk
theorem cSv4 (q : Nat) (hM : Md g (D - 1) Z ([v1, v2, v3, v4]) b I L (none) b' I' L') (hl : Ml Y.1.cls idx Z) (hz : MfS Z 4) (hd : decode Y.2.1 pc = .ok (.invokestatic idx, 3)) (hq : pc + 3 = q) (hst : (st.map fun v => v.category).sum ≤ 8) (hD : 1 ≤ D) (kk : Wp (Kn g D Y post) (Tb b') q lv (st) I' L') : Wp (Kn g D Y post) (Tb b) pc lv (v4 :: v3 :: v2 :: v1 :: st) I L := by
  refine cSp4 q hM hl hz hd hq hst hD ?_
  rintro r b1 I1 L1 ⟨rfl, rfl, rfl, rfl⟩
  exact kk
theorem cTp0 (q i : Nat) (hi : i < 2) (hM : Me g (D - 1) Z (.ref (gK g i) :: []) b I L post') (hl : Cond.methodLink Y.1.cls idx Z.1 ∈ gw) (hz : MfV Z 0) (hd : decode Y.2.1 pc = .ok (.invokevirtual idx, 3)) (hq : pc + 3 = q) (hcl : Z.1.cls = "java/lang/String") (hst : (st.map fun v => v.category).sum ≤ 8) (hD : 1 ≤ D) (kk : ∀ r b' I' L', post' r b' I' L' → Wp (Kn g D Y post) (Tb b') q lv (r.toList ++ st) I' L') : Wp (Kn g D Y post) (Tb b) pc lv (.ref (gK g i) :: st) I L := by
  refine wq_callT q i (As := []) hi hM hl hz hd hq hcl rfl hst (by show D - 1 + 1 ≤ D; omega) (by show 38 * (D - 1) + 38 ≤ 38 * D; omega) (Nat.le_refl 0) (Nat.le_refl 0) ?_
  rintro r n R I1 L1 ⟨rfl, b1, rfl, h⟩
  exact kk r b1 I1 L1 h
theorem cTi0 (q i : Nat) (hi : i < 2) (hM : Md g (D - 1) Z (.ref (gK g i) :: []) b I L (some (.int x)) b' I' L') (hl : Cond.methodLink Y.1.cls idx Z.1 ∈ gw) (hz : MfV Z 0) (hd : decode Y.2.1 pc = .ok (.invokevirtual idx, 3)) (hq : pc + 3 = q) (hcl : Z.1.cls = "java/lang/String") (hst : (st.map fun v => v.category).sum ≤ 8) (hD : 1 ≤ D) (kk : Wp (Kn g D Y post) (Tb b') q lv (.int x :: st) I' L') : Wp (Kn g D Y post) (Tb b) pc lv (.ref (gK g i) :: st) I L := by
  refine cTp0 q i hi hM hl hz hd hq hcl hst hD ?_
  rintro r b1 I1 L1 ⟨rfl, rfl, rfl, rfl⟩
  exact kk
theorem cTp1 (q i : Nat) (hi : i < 2) (hM : Me g (D - 1) Z (.ref (gK g i) :: [v1]) b I L post') (hl : Cond.methodLink Y.1.cls idx Z.1 ∈ gw) (hz : MfV Z 1) (hd : decode Y.2.1 pc = .ok (.invokevirtual idx, 3)) (hq : pc + 3 = q) (hcl : Z.1.cls = "java/lang/String") (hst : (st.map fun v => v.category).sum ≤ 8) (hD : 1 ≤ D) (kk : ∀ r b' I' L', post' r b' I' L' → Wp (Kn g D Y post) (Tb b') q lv (r.toList ++ st) I' L') : Wp (Kn g D Y post) (Tb b) pc lv (v1 :: .ref (gK g i) :: st) I L := by
  refine wq_callT q i (As := [v1]) hi hM hl hz hd hq hcl rfl hst (by show D - 1 + 1 ≤ D; omega) (by show 38 * (D - 1) + 38 ≤ 38 * D; omega) (Nat.le_refl 0) (Nat.le_refl 0) ?_
  rintro r n R I1 L1 ⟨rfl, b1, rfl, h⟩
  exact kk r b1 I1 L1 h
theorem cTi1 (q i : Nat) (hi : i < 2) (hM : Md g (D - 1) Z (.ref (gK g i) :: [v1]) b I L (some (.int x)) b' I' L') (hl : Cond.methodLink Y.1.cls idx Z.1 ∈ gw) (hz : MfV Z 1) (hd : decode Y.2.1 pc = .ok (.invokevirtual idx, 3)) (hq : pc + 3 = q) (hcl : Z.1.cls = "java/lang/String") (hst : (st.map fun v => v.category).sum ≤ 8) (hD : 1 ≤ D) (kk : Wp (Kn g D Y post) (Tb b') q lv (.int x :: st) I' L') : Wp (Kn g D Y post) (Tb b) pc lv (v1 :: .ref (gK g i) :: st) I L := by
  refine cTp1 q i hi hM hl hz hd hq hcl hst hD ?_
  rintro r b1 I1 L1 ⟨rfl, rfl, rfl, rfl⟩
  exact kk
theorem cTp2 (q i : Nat) (hi : i < 2) (hM : Me g (D - 1) Z (.ref (gK g i) :: [v1, v2]) b I L post') (hl : Cond.methodLink Y.1.cls idx Z.1 ∈ gw) (hz : MfV Z 2) (hd : decode Y.2.1 pc = .ok (.invokevirtual idx, 3)) (hq : pc + 3 = q) (hcl : Z.1.cls = "java/lang/String") (hst : (st.map fun v => v.category).sum ≤ 8) (hD : 1 ≤ D) (kk : ∀ r b' I' L', post' r b' I' L' → Wp (Kn g D Y post) (Tb b') q lv (r.toList ++ st) I' L') : Wp (Kn g D Y post) (Tb b) pc lv (v2 :: v1 :: .ref (gK g i) :: st) I L := by
  refine wq_callT q i (As := [v1, v2]) hi hM hl hz hd hq hcl rfl hst (by show D - 1 + 1 ≤ D; omega) (by show 38 * (D - 1) + 38 ≤ 38 * D; omega) (Nat.le_refl 0) (Nat.le_refl 0) ?_
  rintro r n R I1 L1 ⟨rfl, b1, rfl, h⟩
  exact kk r b1 I1 L1 h
theorem cTi2 (q i : Nat) (hi : i < 2) (hM : Md g (D - 1) Z (.ref (gK g i) :: [v1, v2]) b I L (some (.int x)) b' I' L') (hl : Cond.methodLink Y.1.cls idx Z.1 ∈ gw) (hz : MfV Z 2) (hd : decode Y.2.1 pc = .ok (.invokevirtual idx, 3)) (hq : pc + 3 = q) (hcl : Z.1.cls = "java/lang/String") (hst : (st.map fun v => v.category).sum ≤ 8) (hD : 1 ≤ D) (kk : Wp (Kn g D Y post) (Tb b') q lv (.int x :: st) I' L') : Wp (Kn g D Y post) (Tb b) pc lv (v2 :: v1 :: .ref (gK g i) :: st) I L := by
  refine cTp2 q i hi hM hl hz hd hq hcl hst hD ?_
  rintro r b1 I1 L1 ⟨rfl, rfl, rfl, rfl⟩
  exact kk
end Calls2
