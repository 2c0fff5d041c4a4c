theorem it_L : Cond.initialized RL ∈ gw := gw_in1 (tb_1 0 rfl) rfl
theorem it_X7 : Cond.initialized RX7 ∈ gw := gw_in1 (tb_1 1 rfl) rfl
theorem it_X4 : Cond.initialized RX4 ∈ gw := gw_in1 (tb_1 2 rfl) rfl
theorem it_X2 : Cond.initialized RX2 ∈ gw := gw_in1 (tb_1 3 rfl) rfl
theorem it_X3 : Cond.initialized RX3 ∈ gw := gw_in1 (tb_1 4 rfl) rfl
theorem it_X0 : Cond.initialized RX0 ∈ gw := gw_in1 (tb_1 5 rfl) rfl
theorem it_X5 : Cond.initialized RX5 ∈ gw := gw_in1 (tb_1 6 rfl) rfl
theorem it_X6 : Cond.initialized RX6 ∈ gw := gw_in1 (tb_1 7 rfl) rfl
theorem it_X1 : Cond.initialized RX1 ∈ gw := gw_in1 (tb_1 8 rfl) rfl
theorem it_X8 : Cond.initialized RX8 ∈ gw := gw_in1 (tb_1 9 rfl) rfl
theorem it_J0 : Cond.initialized RJ0 ∈ gw := gw_in1 (tb_1 10 rfl) rfl
theorem it_J1 : Cond.initialized RJ1 ∈ gw := gw_in1 (tb_1 11 rfl) rfl
theorem it_J9 : Cond.initialized RJ9 ∈ gw := gw_in1 (tb_1 12 rfl) rfl
theorem it_J2 : Cond.initialized RJ2 ∈ gw := gw_in1 (tb_1 13 rfl) rfl
theorem it_J3 : Cond.initialized RJ3 ∈ gw := gw_in1 (tb_1 14 rfl) rfl
theorem it_J11 : Cond.initialized RJ11 ∈ gw := gw_in1 (tb_1 15 rfl) rfl
theorem it_J7 : Cond.initialized RJ7 ∈ gw := gw_in1 (tb_1 16 rfl) rfl
theorem it_J13 : Cond.initialized RJ13 ∈ gw := gw_in1 (tb_1 17 rfl) rfl
theorem it_J10 : Cond.initialized RJ10 ∈ gw := gw_in1 (tb_1 18 rfl) rfl
theorem cl_L_7 : Cond.classLink RL 7 RX7 ∈ gw := gw_in1 (tb_1 19 rfl) rfl
theorem in_X7 : Cond.instantiable RX7 13 ∈ gw := gw_in1 (tb_1 20 rfl) rfl
theorem ml_L_9 : Ml RL 9 MX7_init := Or.inl (gw_in1 (tb_1 21 rfl) rfl)
theorem ol_X7_1 : Cond.methodLink RX7 1 Lib.objectInit ∈ gw := gw_in1 (tb_1 24 rfl) rfl
theorem cl_X7_7 : Cond.classLink RX7 7 RX4 ∈ gw := gw_in1 (tb_1 27 rfl) rfl
theorem in_X4 : Cond.instantiable RX4 2 ∈ gw := gw_in1 (tb_1 28 rfl) rfl
theorem ml_X7_9 : Ml RX7 9 MX4_init := Or.inr ⟨"RegisterDesk", nw_in1 (tb_1 29 rfl) rfl⟩
theorem ol_X4_3 : Cond.methodLink RX4 3 Lib.objectInit ∈ gw := gw_in1 (tb_1 32 rfl) rfl
theorem fl_X4_9 : Fl RX4 9 4 0 := ⟨by decide, by decide, Or.inl (gw_in1 (tb_1 33 rfl) rfl)⟩
theorem fl_X4_15 : Fl RX4 15 4 1 := ⟨by decide, by decide, Or.inl (gw_in1 (tb_1 34 rfl) rfl)⟩
theorem fl_X7_81 : Fl RX7 81 4 1 := ⟨by decide, by decide, Or.inr ⟨"RegisterDesk", nw_in1 (tb_1 35 rfl) rfl⟩⟩
theorem ac_int : Cond.arrayClass .int ∈ gw := gw_in1 (tb_1 41 rfl) rfl
theorem cl_X7_16 : Cond.classLink RX7 16 RX2 ∈ gw := gw_in1 (tb_1 42 rfl) rfl
theorem in_X2 : Cond.instantiable RX2 8 ∈ gw := gw_in1 (tb_1 43 rfl) rfl
theorem ml_X7_18 : Ml RX7 18 MX2_init := Or.inr ⟨"RegisterDesk", nw_in1 (tb_1 44 rfl) rfl⟩
theorem ol_X2_3 : Cond.methodLink RX2 3 Lib.objectInit ∈ gw := gw_in1 (tb_1 47 rfl) rfl
theorem fl_X2_9 : Fl RX2 9 2 0 := ⟨by decide, by decide, Or.inl (gw_in1 (tb_1 48 rfl) rfl)⟩
theorem fl_X2_15 : Fl RX2 15 2 1 := ⟨by decide, by decide, Or.inl (gw_in1 (tb_1 49 rfl) rfl)⟩
theorem fl_X3_72 : Fl RX3 72 2 1 := ⟨by decide, by decide, Or.inr ⟨"RegisterDesk", nw_in1 (tb_1 50 rfl) rfl⟩⟩
theorem fl_X2_19 : Fl RX2 19 2 2 := ⟨by decide, by decide, Or.inl (gw_in1 (tb_1 51 rfl) rfl)⟩
theorem fl_X3_67 : Fl RX3 67 2 2 := ⟨by decide, by decide, Or.inr ⟨"RegisterDesk", nw_in1 (tb_1 52 rfl) rfl⟩⟩
theorem fl_X2_22 : Fl RX2 22 2 3 := ⟨by decide, by decide, Or.inl (gw_in1 (tb_1 53 rfl) rfl)⟩
theorem fl_X2_25 : Fl RX2 25 2 4 := ⟨by decide, by decide, Or.inl (gw_in1 (tb_1 54 rfl) rfl)⟩
theorem fl_X6_47 : Fl RX6 47 2 4 := ⟨by decide, by decide, Or.inr ⟨"RegisterDesk", nw_in1 (tb_1 55 rfl) rfl⟩⟩
theorem fl_X5_117 : Fl RX5 117 2 4 := ⟨by decide, by decide, Or.inr ⟨"RegisterDesk", nw_in1 (tb_1 56 rfl) rfl⟩⟩
theorem fl_X3_51 : Fl RX3 51 2 4 := ⟨by decide, by decide, Or.inr ⟨"RegisterDesk", nw_in1 (tb_1 57 rfl) rfl⟩⟩
theorem fl_X0_123 : Fl RX0 123 2 4 := ⟨by decide, by decide, Or.inr ⟨"RegisterDesk", nw_in1 (tb_1 58 rfl) rfl⟩⟩
theorem fl_X7_95 : Fl RX7 95 2 4 := ⟨by decide, by decide, Or.inr ⟨"RegisterDesk", nw_in1 (tb_1 59 rfl) rfl⟩⟩
theorem fl_X2_29 : Fl RX2 29 2 5 := ⟨by decide, by decide, Or.inl (gw_in1 (tb_1 60 rfl) rfl)⟩
theorem fl_X7_194 : Fl RX7 194 2 5 := ⟨by decide, by decide, Or.inr ⟨"RegisterDesk", nw_in1 (tb_1 61 rfl) rfl⟩⟩
theorem fl_X2_32 : Fl RX2 32 2 6 := ⟨by decide, by decide, Or.inl (gw_in1 (tb_1 62 rfl) rfl)⟩
theorem fl_X5_99 : Fl RX5 99 2 6 := ⟨by decide, by decide, Or.inr ⟨"RegisterDesk", nw_in1 (tb_1 63 rfl) rfl⟩⟩
theorem fl_X0_134 : Fl RX0 134 2 6 := ⟨by decide, by decide, Or.inr ⟨"RegisterDesk", nw_in1 (tb_1 64 rfl) rfl⟩⟩
theorem fl_X7_162 : Fl RX7 162 2 6 := ⟨by decide, by decide, Or.inr ⟨"RegisterDesk", nw_in1 (tb_1 65 rfl) rfl⟩⟩
theorem fl_X2_36 : Fl RX2 36 2 7 := ⟨by decide, by decide, Or.inl (gw_in1 (tb_1 66 rfl) rfl)⟩
theorem fl_X5_106 : Fl RX5 106 2 7 := ⟨by decide, by decide, Or.inr ⟨"RegisterDesk", nw_in1 (tb_1 67 rfl) rfl⟩⟩
theorem fl_X3_80 : Fl RX3 80 2 7 := ⟨by decide, by decide, Or.inr ⟨"RegisterDesk", nw_in1 (tb_1 68 rfl) rfl⟩⟩
theorem ac_long : Cond.arrayClass .long ∈ gw := gw_in1 (tb_1 86 rfl) rfl
theorem cl_X7_23 : Cond.classLink RX7 23 RX3 ∈ gw := gw_in1 (tb_1 87 rfl) rfl
theorem in_X3 : Cond.instantiable RX3 5 ∈ gw := gw_in1 (tb_1 88 rfl) rfl
theorem ml_X7_25 : Ml RX7 25 MX3_init := Or.inr ⟨"RegisterDesk", nw_in1 (tb_1 89 rfl) rfl⟩
theorem ol_X3_3 : Cond.methodLink RX3 3 Lib.objectInit ∈ gw := gw_in1 (tb_1 92 rfl) rfl
theorem fl_X3_9 : Fl RX3 9 3 0 := ⟨by decide, by decide, Or.inl (gw_in1 (tb_1 93 rfl) rfl)⟩
theorem fl_X3_15 : Fl RX3 15 3 1 := ⟨by decide, by decide, Or.inl (gw_in1 (tb_1 94 rfl) rfl)⟩
theorem fl_X7_103 : Fl RX7 103 3 1 := ⟨by decide, by decide, Or.inr ⟨"RegisterDesk", nw_in1 (tb_1 95 rfl) rfl⟩⟩
theorem fl_X3_18 : Fl RX3 18 3 2 := ⟨by decide, by decide, Or.inl (gw_in1 (tb_1 96 rfl) rfl)⟩
theorem fl_X3_22 : Fl RX3 22 3 3 := ⟨by decide, by decide, Or.inl (gw_in1 (tb_1 97 rfl) rfl)⟩
theorem fl_X5_113 : Fl RX5 113 3 3 := ⟨by decide, by decide, Or.inr ⟨"RegisterDesk", nw_in1 (tb_1 98 rfl) rfl⟩⟩
theorem fl_X7_107 : Fl RX7 107 3 3 := ⟨by decide, by decide, Or.inr ⟨"RegisterDesk", nw_in1 (tb_1 99 rfl) rfl⟩⟩
theorem fl_X3_25 : Fl RX3 25 3 4 := ⟨by decide, by decide, Or.inl (gw_in1 (tb_1 100 rfl) rfl)⟩
theorem fl_X5_116 : Fl RX5 116 3 4 := ⟨by decide, by decide, Or.inr ⟨"RegisterDesk", nw_in1 (tb_1 101 rfl) rfl⟩⟩
theorem fl_X7_113 : Fl RX7 113 3 4 := ⟨by decide, by decide, Or.inr ⟨"RegisterDesk", nw_in1 (tb_1 102 rfl) rfl⟩⟩
theorem cl_X7_30 : Cond.classLink RX7 30 RX0 ∈ gw := gw_in1 (tb_1 114 rfl) rfl
theorem in_X0 : Cond.instantiable RX0 15 ∈ gw := gw_in1 (tb_1 115 rfl) rfl
theorem ml_X7_32 : Ml RX7 32 MX0_init := Or.inr ⟨"RegisterDesk", nw_in1 (tb_1 116 rfl) rfl⟩
theorem ol_X0_3 : Cond.methodLink RX0 3 Lib.objectInit ∈ gw := gw_in1 (tb_1 119 rfl) rfl
theorem cl_X0_9 : Cond.classLink RX0 9 RX3 ∈ gw := gw_in1 (tb_1 120 rfl) rfl
theorem ml_X0_11 : Ml RX0 11 MX3_init := Or.inr ⟨"RegisterDesk", nw_in1 (tb_1 121 rfl) rfl⟩
theorem cl_X0_18 : Cond.classLink RX0 18 RX5 ∈ gw := gw_in1 (tb_1 122 rfl) rfl
theorem in_X5 : Cond.instantiable RX5 20 ∈ gw := gw_in1 (tb_1 123 rfl) rfl
theorem ml_X0_20 : Ml RX0 20 MX5_init := Or.inr ⟨"RegisterDesk", nw_in1 (tb_1 124 rfl) rfl⟩
theorem ol_X5_3 : Cond.methodLink RX5 3 Lib.objectInit ∈ gw := gw_in1 (tb_1 127 rfl) rfl
theorem fl_X5_9 : Fl RX5 9 5 0 := ⟨by decide, by decide, Or.inl (gw_in1 (tb_1 128 rfl) rfl)⟩
theorem fl_X5_15 : Fl RX5 15 5 1 := ⟨by decide, by decide, Or.inl (gw_in1 (tb_1 129 rfl) rfl)⟩
theorem fl_X5_19 : Fl RX5 19 5 2 := ⟨by decide, by decide, Or.inl (gw_in1 (tb_1 130 rfl) rfl)⟩
theorem fl_X5_22 : Fl RX5 22 5 3 := ⟨by decide, by decide, Or.inl (gw_in1 (tb_1 131 rfl) rfl)⟩
theorem fl_X5_25 : Fl RX5 25 5 4 := ⟨by decide, by decide, Or.inl (gw_in1 (tb_1 132 rfl) rfl)⟩
theorem fl_X0_166 : Fl RX0 166 5 4 := ⟨by decide, by decide, Or.inr ⟨"RegisterDesk", nw_in1 (tb_1 133 rfl) rfl⟩⟩
theorem fl_X5_28 : Fl RX5 28 5 5 := ⟨by decide, by decide, Or.inl (gw_in1 (tb_1 134 rfl) rfl)⟩
theorem fl_X5_31 : Fl RX5 31 5 6 := ⟨by decide, by decide, Or.inl (gw_in1 (tb_1 135 rfl) rfl)⟩
theorem fl_X5_34 : Fl RX5 34 5 7 := ⟨by decide, by decide, Or.inl (gw_in1 (tb_1 136 rfl) rfl)⟩
theorem fl_X5_38 : Fl RX5 38 5 8 := ⟨by decide, by decide, Or.inl (gw_in1 (tb_1 137 rfl) rfl)⟩
theorem fl_X5_41 : Fl RX5 41 5 9 := ⟨by decide, by decide, Or.inl (gw_in1 (tb_1 138 rfl) rfl)⟩
theorem fl_X0_105 : Fl RX0 105 5 9 := ⟨by decide, by decide, Or.inr ⟨"RegisterDesk", nw_in1 (tb_1 139 rfl) rfl⟩⟩
theorem fl_X5_44 : Fl RX5 44 5 10 := ⟨by decide, by decide, Or.inl (gw_in1 (tb_1 140 rfl) rfl)⟩
theorem fl_X5_48 : Fl RX5 48 5 11 := ⟨by decide, by decide, Or.inl (gw_in1 (tb_1 141 rfl) rfl)⟩
theorem fl_X5_51 : Fl RX5 51 5 12 := ⟨by decide, by decide, Or.inl (gw_in1 (tb_1 142 rfl) rfl)⟩
theorem fl_X5_54 : Fl RX5 54 5 13 := ⟨by decide, by decide, Or.inl (gw_in1 (tb_1 143 rfl) rfl)⟩
theorem fl_X0_114 : Fl RX0 114 5 13 := ⟨by decide, by decide, Or.inr ⟨"RegisterDesk", nw_in1 (tb_1 144 rfl) rfl⟩⟩
theorem fl_X5_57 : Fl RX5 57 5 14 := ⟨by decide, by decide, Or.inl (gw_in1 (tb_1 145 rfl) rfl)⟩
theorem fl_X5_61 : Fl RX5 61 5 15 := ⟨by decide, by decide, Or.inl (gw_in1 (tb_1 146 rfl) rfl)⟩
theorem fl_X5_64 : Fl RX5 64 5 16 := ⟨by decide, by decide, Or.inl (gw_in1 (tb_1 147 rfl) rfl)⟩
theorem fl_X5_67 : Fl RX5 67 5 17 := ⟨by decide, by decide, Or.inl (gw_in1 (tb_1 148 rfl) rfl)⟩
theorem fl_X0_86 : Fl RX0 86 5 17 := ⟨by decide, by decide, Or.inr ⟨"RegisterDesk", nw_in1 (tb_1 149 rfl) rfl⟩⟩
theorem fl_X5_70 : Fl RX5 70 5 18 := ⟨by decide, by decide, Or.inl (gw_in1 (tb_1 150 rfl) rfl)⟩
theorem fl_X5_73 : Fl RX5 73 5 19 := ⟨by decide, by decide, Or.inl (gw_in1 (tb_1 151 rfl) rfl)⟩
theorem ac_boolean : Cond.arrayClass .boolean ∈ gw := gw_in1 (tb_1 193 rfl) rfl
theorem cl_X0_25 : Cond.classLink RX0 25 RX2 ∈ gw := gw_in1 (tb_1 194 rfl) rfl
theorem ml_X0_27 : Ml RX0 27 MX2_init := Or.inr ⟨"RegisterDesk", nw_in1 (tb_1 195 rfl) rfl⟩
theorem fl_X0_12 : Fl RX0 12 0 0 := ⟨by decide, by decide, Or.inl (gw_in1 (tb_1 196 rfl) rfl)⟩
theorem fl_X0_21 : Fl RX0 21 0 1 := ⟨by decide, by decide, Or.inl (gw_in1 (tb_1 197 rfl) rfl)⟩
theorem fl_X0_28 : Fl RX0 28 0 2 := ⟨by decide, by decide, Or.inl (gw_in1 (tb_1 198 rfl) rfl)⟩
theorem fl_X7_156 : Fl RX7 156 0 2 := ⟨by decide, by decide, Or.inr ⟨"RegisterDesk", nw_in1 (tb_1 199 rfl) rfl⟩⟩
theorem fl_X0_32 : Fl RX0 32 0 3 := ⟨by decide, by decide, Or.inl (gw_in1 (tb_1 200 rfl) rfl)⟩
theorem fl_X0_36 : Fl RX0 36 0 4 := ⟨by decide, by decide, Or.inl (gw_in1 (tb_1 201 rfl) rfl)⟩
theorem fl_X7_133 : Fl RX7 133 0 4 := ⟨by decide, by decide, Or.inr ⟨"RegisterDesk", nw_in1 (tb_1 202 rfl) rfl⟩⟩
theorem fl_X0_39 : Fl RX0 39 0 5 := ⟨by decide, by decide, Or.inl (gw_in1 (tb_1 203 rfl) rfl)⟩
theorem fl_X0_42 : Fl RX0 42 0 6 := ⟨by decide, by decide, Or.inl (gw_in1 (tb_1 204 rfl) rfl)⟩
theorem fl_X0_45 : Fl RX0 45 0 7 := ⟨by decide, by decide, Or.inl (gw_in1 (tb_1 205 rfl) rfl)⟩
theorem fl_X0_48 : Fl RX0 48 0 8 := ⟨by decide, by decide, Or.inl (gw_in1 (tb_1 206 rfl) rfl)⟩
theorem fl_X7_130 : Fl RX7 130 0 8 := ⟨by decide, by decide, Or.inr ⟨"RegisterDesk", nw_in1 (tb_1 207 rfl) rfl⟩⟩
theorem fl_X0_52 : Fl RX0 52 0 9 := ⟨by decide, by decide, Or.inl (gw_in1 (tb_1 208 rfl) rfl)⟩
theorem fl_X7_136 : Fl RX7 136 0 9 := ⟨by decide, by decide, Or.inr ⟨"RegisterDesk", nw_in1 (tb_1 209 rfl) rfl⟩⟩
theorem fl_X0_56 : Fl RX0 56 0 10 := ⟨by decide, by decide, Or.inl (gw_in1 (tb_1 210 rfl) rfl)⟩
theorem fl_X7_147 : Fl RX7 147 0 10 := ⟨by decide, by decide, Or.inr ⟨"RegisterDesk", nw_in1 (tb_1 211 rfl) rfl⟩⟩
theorem fl_X0_59 : Fl RX0 59 0 11 := ⟨by decide, by decide, Or.inl (gw_in1 (tb_1 212 rfl) rfl)⟩
theorem fl_X7_150 : Fl RX7 150 0 11 := ⟨by decide, by decide, Or.inr ⟨"RegisterDesk", nw_in1 (tb_1 213 rfl) rfl⟩⟩
theorem fl_X0_62 : Fl RX0 62 0 12 := ⟨by decide, by decide, Or.inl (gw_in1 (tb_1 214 rfl) rfl)⟩
theorem fl_X7_153 : Fl RX7 153 0 12 := ⟨by decide, by decide, Or.inr ⟨"RegisterDesk", nw_in1 (tb_1 215 rfl) rfl⟩⟩
theorem fl_X0_65 : Fl RX0 65 0 13 := ⟨by decide, by decide, Or.inl (gw_in1 (tb_1 216 rfl) rfl)⟩
theorem fl_X7_159 : Fl RX7 159 0 13 := ⟨by decide, by decide, Or.inr ⟨"RegisterDesk", nw_in1 (tb_1 217 rfl) rfl⟩⟩
theorem fl_X0_68 : Fl RX0 68 0 14 := ⟨by decide, by decide, Or.inl (gw_in1 (tb_1 218 rfl) rfl)⟩
theorem fl_X7_144 : Fl RX7 144 0 14 := ⟨by decide, by decide, Or.inr ⟨"RegisterDesk", nw_in1 (tb_1 219 rfl) rfl⟩⟩
theorem cl_X7_37 : Cond.classLink RX7 37 RX6 ∈ gw := gw_in1 (tb_2 11 rfl) rfl
theorem in_X6 : Cond.instantiable RX6 9 ∈ gw := gw_in1 (tb_2 12 rfl) rfl
theorem ml_X7_39 : Ml RX7 39 MX6_init := Or.inr ⟨"RegisterDesk", nw_in1 (tb_2 13 rfl) rfl⟩
theorem ol_X6_3 : Cond.methodLink RX6 3 Lib.objectInit ∈ gw := gw_in1 (tb_2 16 rfl) rfl
theorem fl_X6_9 : Fl RX6 9 6 0 := ⟨by decide, by decide, Or.inl (gw_in1 (tb_2 17 rfl) rfl)⟩
theorem fl_X6_15 : Fl RX6 15 6 1 := ⟨by decide, by decide, Or.inl (gw_in1 (tb_2 18 rfl) rfl)⟩
theorem fl_X6_18 : Fl RX6 18 6 2 := ⟨by decide, by decide, Or.inl (gw_in1 (tb_2 19 rfl) rfl)⟩
theorem fl_X7_178 : Fl RX7 178 6 2 := ⟨by decide, by decide, Or.inr ⟨"RegisterDesk", nw_in1 (tb_2 20 rfl) rfl⟩⟩
theorem fl_X6_21 : Fl RX6 21 6 3 := ⟨by decide, by decide, Or.inl (gw_in1 (tb_2 21 rfl) rfl)⟩
theorem fl_X7_175 : Fl RX7 175 6 3 := ⟨by decide, by decide, Or.inr ⟨"RegisterDesk", nw_in1 (tb_2 22 rfl) rfl⟩⟩
theorem fl_X6_25 : Fl RX6 25 6 4 := ⟨by decide, by decide, Or.inl (gw_in1 (tb_2 23 rfl) rfl)⟩
theorem fl_X6_28 : Fl RX6 28 6 5 := ⟨by decide, by decide, Or.inl (gw_in1 (tb_2 24 rfl) rfl)⟩
theorem fl_X6_31 : Fl RX6 31 6 6 := ⟨by decide, by decide, Or.inl (gw_in1 (tb_2 25 rfl) rfl)⟩
theorem fl_X6_34 : Fl RX6 34 6 7 := ⟨by decide, by decide, Or.inl (gw_in1 (tb_2 26 rfl) rfl)⟩
theorem fl_X6_37 : Fl RX6 37 6 8 := ⟨by decide, by decide, Or.inl (gw_in1 (tb_2 27 rfl) rfl)⟩
theorem cl_X7_47 : Cond.classLink RX7 47 RX1 ∈ gw := gw_in1 (tb_2 47 rfl) rfl
theorem in_X1 : Cond.instantiable RX1 4 ∈ gw := gw_in1 (tb_2 49 rfl) rfl
theorem ml_X7_73 : Ml RX7 73 MX1_init := Or.inr ⟨"RegisterDesk", nw_in1 (tb_2 50 rfl) rfl⟩
theorem ol_X1_1 : Cond.methodLink RX1 1 Lib.objectInit ∈ gw := gw_in1 (tb_2 53 rfl) rfl
theorem cl_X1_7 : Cond.classLink RX1 7 RX2 ∈ gw := gw_in1 (tb_2 54 rfl) rfl
theorem ml_X1_9 : Ml RX1 9 MX2_init := Or.inr ⟨"RegisterDesk", nw_in1 (tb_2 55 rfl) rfl⟩
theorem fl_X1_10 : Fl RX1 10 1 0 := ⟨by decide, by decide, Or.inl (gw_in1 (tb_2 56 rfl) rfl)⟩
theorem fl_X7_188 : Fl RX7 188 1 0 := ⟨by decide, by decide, Or.inr ⟨"RegisterDesk", nw_in1 (tb_2 57 rfl) rfl⟩⟩
theorem fl_X1_16 : Fl RX1 16 1 1 := ⟨by decide, by decide, Or.inl (gw_in1 (tb_2 58 rfl) rfl)⟩
theorem fl_X7_192 : Fl RX7 192 1 1 := ⟨by decide, by decide, Or.inr ⟨"RegisterDesk", nw_in1 (tb_2 59 rfl) rfl⟩⟩
theorem fl_X1_20 : Fl RX1 20 1 2 := ⟨by decide, by decide, Or.inl (gw_in1 (tb_2 60 rfl) rfl)⟩
theorem fl_X7_193 : Fl RX7 193 1 2 := ⟨by decide, by decide, Or.inr ⟨"RegisterDesk", nw_in1 (tb_2 61 rfl) rfl⟩⟩
theorem fl_X1_23 : Fl RX1 23 1 3 := ⟨by decide, by decide, Or.inl (gw_in1 (tb_2 62 rfl) rfl)⟩
theorem fl_X7_185 : Fl RX7 185 1 3 := ⟨by decide, by decide, Or.inr ⟨"RegisterDesk", nw_in1 (tb_2 63 rfl) rfl⟩⟩
theorem fl_X7_10 : Fl RX7 10 7 0 := ⟨by decide, by decide, Or.inl (gw_in1 (tb_2 73 rfl) rfl)⟩
theorem fl_X7_19 : Fl RX7 19 7 1 := ⟨by decide, by decide, Or.inl (gw_in1 (tb_2 74 rfl) rfl)⟩
theorem fl_X7_26 : Fl RX7 26 7 2 := ⟨by decide, by decide, Or.inl (gw_in1 (tb_2 75 rfl) rfl)⟩
theorem fl_X7_33 : Fl RX7 33 7 3 := ⟨by decide, by decide, Or.inl (gw_in1 (tb_2 76 rfl) rfl)⟩
theorem fl_X7_40 : Fl RX7 40 7 4 := ⟨by decide, by decide, Or.inl (gw_in1 (tb_2 77 rfl) rfl)⟩
theorem fl_X7_44 : Fl RX7 44 7 5 := ⟨by decide, by decide, Or.inl (gw_in1 (tb_2 78 rfl) rfl)⟩
theorem fl_X7_49 : Fl RX7 49 7 6 := ⟨by decide, by decide, Or.inl (gw_in1 (tb_2 79 rfl) rfl)⟩
theorem fl_X7_53 : Fl RX7 53 7 7 := ⟨by decide, by decide, Or.inl (gw_in1 (tb_2 80 rfl) rfl)⟩
theorem fl_X7_57 : Fl RX7 57 7 8 := ⟨by decide, by decide, Or.inl (gw_in1 (tb_2 81 rfl) rfl)⟩
theorem fl_X7_60 : Fl RX7 60 7 9 := ⟨by decide, by decide, Or.inl (gw_in1 (tb_2 82 rfl) rfl)⟩
theorem fl_X7_64 : Fl RX7 64 7 10 := ⟨by decide, by decide, Or.inl (gw_in1 (tb_2 83 rfl) rfl)⟩
theorem fl_X7_67 : Fl RX7 67 7 11 := ⟨by decide, by decide, Or.inl (gw_in1 (tb_2 84 rfl) rfl)⟩
theorem fl_X7_70 : Fl RX7 70 7 12 := ⟨by decide, by decide, Or.inl (gw_in1 (tb_2 85 rfl) rfl)⟩
theorem ml_L_13 : Ml RL 13 MX7_colours := Or.inl (gw_in1 (tb_2 113 rfl) rfl)
theorem ml_X7_74 : Ml RX7 74 MX7_forgetAllotment := Or.inl (gw_in1 (tb_2 117 rfl) rfl)
theorem ml_L_18 : Ml RL 18 MX7_way := Or.inl (gw_in1 (tb_2 121 rfl) rfl)
theorem ml_L_22 : Ml RL 22 MX7_say := Or.inl (gw_in1 (tb_2 125 rfl) rfl)
theorem ml_X7_77 : Ml RX7 77 MX4_add := Or.inl (gw_in1 (tb_2 129 rfl) rfl)
theorem ml_L_26 : Ml RL 26 MX7_wipe := Or.inl (gw_in1 (tb_2 133 rfl) rfl)
theorem ml_L_31 : Ml RL 31 MX7_fault := Or.inl (gw_in1 (tb_2 137 rfl) rfl)
theorem ml_X7_84 : Ml RX7 84 MX4_faultPlace := Or.inl (gw_in1 (tb_2 141 rfl) rfl)
theorem ml_X4_19 : Ml RX4 19 MX4_kindOf := Or.inl (gw_in1 (tb_2 145 rfl) rfl)
theorem ml_X4_46 : Ml RX4 46 MJ0_indexOf_0f7a4 := Or.inl (gw_in1 (tb_2 149 rfl) rfl)
theorem mj_X4_46 : Cond.methodLink RX4 46 MJ0_indexOf_0f7a4.1 ∈ gw := gw_in1 (tb_2 149 rfl) rfl
theorem ml_J0_633 : Ml RJ0 633 MJ0_indexOf_7cf53 := Or.inl (gw_in1 (tb_2 153 rfl) rfl)
theorem mj_J0_633 : Cond.methodLink RJ0 633 MJ0_indexOf_7cf53.1 ∈ gw := gw_in1 (tb_2 153 rfl) rfl
theorem ml_J0_492 : Ml RJ0 492 MJ0_isLatin1_aae02 := Or.inl (gw_in1 (tb_2 157 rfl) rfl)
theorem mj_J0_492 : Cond.methodLink RJ0 492 MJ0_isLatin1_aae02.1 ∈ gw := gw_in1 (tb_2 157 rfl) rfl
theorem jf_J0_38 : Cond.fieldLink RJ0 38 "java/lang/String" "COMPACT_STRINGS" "Z" ∈ gw := gw_in1 (tb_2 161 rfl) rfl
theorem ml_J0_505 : Ml RJ0 505 MJ0_length_8abf5 := Or.inl (gw_in1 (tb_2 163 rfl) rfl)
theorem mj_J0_505 : Cond.methodLink RJ0 505 MJ0_length_8abf5.1 ∈ gw := gw_in1 (tb_2 163 rfl) rfl
theorem ml_J0_335 : Ml RJ0 335 MJ0_coder_7d493 := Or.inl (gw_in1 (tb_2 167 rfl) rfl)
theorem mj_J0_335 : Cond.methodLink RJ0 335 MJ0_coder_7d493.1 ∈ gw := gw_in1 (tb_2 167 rfl) rfl
theorem ml_J0_637 : Ml RJ0 637 MJ1_indexOf_4cfef := Or.inl (gw_in1 (tb_2 171 rfl) rfl)
theorem mj_J0_637 : Cond.methodLink RJ0 637 MJ1_indexOf_4cfef.1 ∈ gw := gw_in1 (tb_2 171 rfl) rfl
theorem ml_J1_88 : Ml RJ1 88 MJ1_canEncode_9a6ad := Or.inl (gw_in1 (tb_2 174 rfl) rfl)
theorem mj_J1_88 : Cond.methodLink RJ1 88 MJ1_canEncode_9a6ad.1 ∈ gw := gw_in1 (tb_2 174 rfl) rfl
theorem ml_J1_92 : Ml RJ1 92 MJ9_max_7cf53 := Or.inl (gw_in1 (tb_2 177 rfl) rfl)
theorem mj_J1_92 : Cond.methodLink RJ1 92 MJ9_max_7cf53.1 ∈ gw := gw_in1 (tb_2 177 rfl) rfl
theorem ml_J1_38 : Ml RJ1 38 MJ9_min_7cf53 := Or.inl (gw_in1 (tb_2 180 rfl) rfl)
theorem mj_J1_38 : Cond.methodLink RJ1 38 MJ9_min_7cf53.1 ∈ gw := gw_in1 (tb_2 180 rfl) rfl
theorem ml_J1_95 : Ml RJ1 95 MJ1_indexOfChar_4cfef := Or.inl (gw_in1 (tb_2 183 rfl) rfl)
theorem mj_J1_95 : Cond.methodLink RJ1 95 MJ1_indexOfChar_4cfef.1 ∈ gw := gw_in1 (tb_2 183 rfl) rfl
theorem ml_J0_640 : Ml RJ0 640 MJ2_indexOf_4cfef := Or.inl (gw_in1 (tb_2 186 rfl) rfl)
theorem mj_J0_640 : Cond.methodLink RJ0 640 MJ2_indexOf_4cfef.1 ∈ gw := gw_in1 (tb_2 186 rfl) rfl
theorem ml_J2_224 : Ml RJ2 224 MJ9_max_7cf53 := Or.inl (gw_in1 (tb_2 189 rfl) rfl)
theorem mj_J2_224 : Cond.methodLink RJ2 224 MJ9_max_7cf53.1 ∈ gw := gw_in1 (tb_2 189 rfl) rfl
theorem ml_J2_183 : Ml RJ2 183 MJ9_min_7cf53 := Or.inl (gw_in1 (tb_2 190 rfl) rfl)
theorem mj_J2_183 : Cond.methodLink RJ2 183 MJ9_min_7cf53.1 ∈ gw := gw_in1 (tb_2 190 rfl) rfl
theorem kc_J2_227 : Cond.constant RJ2 227 (65536 : Int32) ∈ gw := gw_in1 (tb_2 191 rfl) rfl
theorem ml_J2_228 : Ml RJ2 228 MJ2_indexOfChar_4cfef := Or.inl (gw_in1 (tb_2 192 rfl) rfl)
theorem mj_J2_228 : Cond.methodLink RJ2 228 MJ2_indexOfChar_4cfef.1 ∈ gw := gw_in1 (tb_2 192 rfl) rfl
theorem ml_J2_96 : Ml RJ2 96 MJ2_checkBoundsBeginEnd_d044e := Or.inl (gw_in1 (tb_2 195 rfl) rfl)
theorem mj_J2_96 : Cond.methodLink RJ2 96 MJ2_checkBoundsBeginEnd_d044e.1 ∈ gw := gw_in1 (tb_2 195 rfl) rfl
theorem ml_J2_48 : Ml RJ2 48 MJ2_length_9d52b := Or.inl (gw_in1 (tb_2 198 rfl) rfl)
theorem mj_J2_48 : Cond.methodLink RJ2 48 MJ2_length_9d52b.1 ∈ gw := gw_in1 (tb_2 198 rfl) rfl
theorem ml_J2_241 : Ml RJ2 241 MJ0_checkBoundsBeginEnd_23922 := Or.inl (gw_in1 (tb_2 201 rfl) rfl)
theorem mj_J2_241 : Cond.methodLink RJ2 241 MJ0_checkBoundsBeginEnd_23922.1 ∈ gw := gw_in1 (tb_2 201 rfl) rfl
theorem jf_J0_1053 : Cond.fieldLink RJ0 1053 "jdk/internal/util/Preconditions" "SIOOBE_FORMATTER" "Ljava/util/function/BiFunction;" ∈ gw := gw_in1 (tb_2 204 rfl) rfl
theorem ml_J0_1062 : Ml RJ0 1062 MJ3_checkFromToIndex_8c36e := Or.inl (gw_in1 (tb_2 206 rfl) rfl)
theorem mj_J0_1062 : Cond.methodLink RJ0 1062 MJ3_checkFromToIndex_8c36e.1 ∈ gw := gw_in1 (tb_2 206 rfl) rfl
theorem ml_J2_244 : Ml RJ2 244 MJ2_indexOfCharUnsafe_4cfef := Or.inl (gw_in1 (tb_2 209 rfl) rfl)
theorem mj_J2_244 : Cond.methodLink RJ2 244 MJ2_indexOfCharUnsafe_4cfef.1 ∈ gw := gw_in1 (tb_2 209 rfl) rfl
theorem ml_J2_71 : Ml RJ2 71 MJ2_getChar_3b067 := Or.inl (gw_in1 (tb_2 212 rfl) rfl)
theorem mj_J2_71 : Cond.methodLink RJ2 71 MJ2_getChar_3b067.1 ∈ gw := gw_in1 (tb_2 212 rfl) rfl
theorem jf_J2_44 : Cond.fieldLink RJ2 44 "java/lang/StringUTF16" "$assertionsDisabled" "Z" ∈ gw := gw_in1 (tb_2 215 rfl) rfl
theorem jf_J2_59 : Cond.fieldLink RJ2 59 "java/lang/StringUTF16" "HI_BYTE_SHIFT" "I" ∈ gw := gw_in1 (tb_2 217 rfl) rfl
theorem jf_J2_63 : Cond.fieldLink RJ2 63 "java/lang/StringUTF16" "LO_BYTE_SHIFT" "I" ∈ gw := gw_in1 (tb_2 219 rfl) rfl
theorem ml_J2_232 : Ml RJ2 232 MJ2_indexOfSupplementary_4cfef := Or.inl (gw_in1 (tb_2 221 rfl) rfl)
theorem mj_J2_232 : Cond.methodLink RJ2 232 MJ2_indexOfSupplementary_4cfef.1 ∈ gw := gw_in1 (tb_2 221 rfl) rfl
theorem ml_J2_164 : Ml RJ2 164 MJ11_isValidCodePoint_9a6ad := Or.inl (gw_in1 (tb_2 224 rfl) rfl)
theorem mj_J2_164 : Cond.methodLink RJ2 164 MJ11_isValidCodePoint_9a6ad.1 ∈ gw := gw_in1 (tb_2 224 rfl) rfl
theorem ml_J2_157 : Ml RJ2 157 MJ11_highSurrogate_5068e := Or.inl (gw_in1 (tb_2 227 rfl) rfl)
theorem mj_J2_157 : Cond.methodLink RJ2 157 MJ11_highSurrogate_5068e.1 ∈ gw := gw_in1 (tb_2 227 rfl) rfl
theorem kc_J11_110 : Cond.constant RJ11 110 (55232 : Int32) ∈ gw := gw_in1 (tb_2 230 rfl) rfl
theorem ml_J2_161 : Ml RJ2 161 MJ11_lowSurrogate_5068e := Or.inl (gw_in1 (tb_2 231 rfl) rfl)
theorem mj_J2_161 : Cond.methodLink RJ2 161 MJ11_lowSurrogate_5068e.1 ∈ gw := gw_in1 (tb_2 231 rfl) rfl
theorem kc_J11_76 : Cond.constant RJ11 76 (56320 : Int32) ∈ gw := gw_in1 (tb_2 234 rfl) rfl
theorem ml_X4_23 : Ml RX4 23 MX7_shapeOf := Or.inr ⟨"RegisterDesk", nw_in1 (tb_2 235 rfl) rfl⟩
theorem ml_X7_206 : Ml RX7 206 MJ0_charAt_5068e := Or.inl (gw_in1 (tb_2 239 rfl) rfl)
theorem mj_X7_206 : Cond.methodLink RX7 206 MJ0_charAt_5068e.1 ∈ gw := gw_in1 (tb_2 239 rfl) rfl
theorem ml_J0_495 : Ml RJ0 495 MJ1_charAt_3b067 := Or.inl (gw_in1 (tb_3 3 rfl) rfl)
theorem mj_J0_495 : Cond.methodLink RJ0 495 MJ1_charAt_3b067.1 ∈ gw := gw_in1 (tb_3 3 rfl) rfl
theorem ml_J1_9 : Ml RJ1 9 MJ0_checkIndex_df160 := Or.inl (gw_in1 (tb_3 6 rfl) rfl)
theorem mj_J1_9 : Cond.methodLink RJ1 9 MJ0_checkIndex_df160.1 ∈ gw := gw_in1 (tb_3 6 rfl) rfl
theorem ml_J0_1059 : Ml RJ0 1059 MJ3_checkIndex_8e157 := Or.inl (gw_in1 (tb_3 9 rfl) rfl)
theorem mj_J0_1059 : Cond.methodLink RJ0 1059 MJ3_checkIndex_8e157.1 ∈ gw := gw_in1 (tb_3 9 rfl) rfl
theorem ml_J0_498 : Ml RJ0 498 MJ2_charAt_3b067 := Or.inl (gw_in1 (tb_3 12 rfl) rfl)
theorem mj_J0_498 : Cond.methodLink RJ0 498 MJ2_charAt_3b067.1 ∈ gw := gw_in1 (tb_3 12 rfl) rfl
theorem ml_J2_67 : Ml RJ2 67 MJ2_checkIndex_2214a := Or.inl (gw_in1 (tb_3 15 rfl) rfl)
theorem mj_J2_67 : Cond.methodLink RJ2 67 MJ2_checkIndex_2214a.1 ∈ gw := gw_in1 (tb_3 15 rfl) rfl
theorem ml_J2_414 : Ml RJ2 414 MJ0_checkIndex_df160 := Or.inl (gw_in1 (tb_3 18 rfl) rfl)
theorem mj_J2_414 : Cond.methodLink RJ2 414 MJ0_checkIndex_df160.1 ∈ gw := gw_in1 (tb_3 18 rfl) rfl
theorem ml_X4_27 : Ml RX4 27 MX4_meaningOf := Or.inl (gw_in1 (tb_3 19 rfl) rfl)
theorem ac_byte : Cond.arrayClass .byte ∈ gw := gw_in1 (tb_3 22 rfl) rfl
theorem ml_L_35 : Ml RL 35 MX7_load := Or.inl (gw_in1 (tb_3 23 rfl) rfl)
theorem ml_X7_88 : Ml RX7 88 MX4_tellTo := Or.inl (gw_in1 (tb_3 27 rfl) rfl)
theorem ml_X4_31 : Ml RX4 31 MX2_clear := Or.inl (gw_in1 (tb_3 31 rfl) rfl)
theorem ml_X4_36 : Ml RX4 36 MX4_partOf := Or.inl (gw_in1 (tb_3 35 rfl) rfl)
theorem ml_X4_40 : Ml RX4 40 MX2_add := Or.inl (gw_in1 (tb_3 39 rfl) rfl)
theorem ml_X2_39 : Ml RX2 39 MX7_shapeOf := Or.inr ⟨"RegisterDesk", nw_in1 (tb_3 43 rfl) rfl⟩
theorem ml_X2_43 : Ml RX2 43 MX2_noteName := Or.inl (gw_in1 (tb_3 44 rfl) rfl)
theorem ml_X2_47 : Ml RX2 47 MJ9_max_7cf53 := Or.inl (gw_in1 (tb_3 48 rfl) rfl)
theorem ml_X7_92 : Ml RX7 92 MX7_forgetProgram := Or.inl (gw_in1 (tb_3 49 rfl) rfl)
theorem ml_L_39 : Ml RL 39 MX7_instruction := Or.inl (gw_in1 (tb_3 53 rfl) rfl)
theorem ml_X7_96 : Ml RX7 96 MX2_partAt := Or.inl (gw_in1 (tb_3 57 rfl) rfl)
theorem ml_L_44 : Ml RL 44 MX7_live := Or.inl (gw_in1 (tb_3 61 rfl) rfl)
theorem ml_X7_100 : Ml RX7 100 MX7_findNeeds := Or.inl (gw_in1 (tb_3 65 rfl) rfl)
theorem ml_X7_197 : Ml RX7 197 MX3_find := Or.inl (gw_in1 (tb_3 69 rfl) rfl)
theorem ml_X3_28 : Ml RX3 28 MX3_findLive := Or.inl (gw_in1 (tb_3 73 rfl) rfl)
theorem ml_X3_41 : Ml RX3 41 MJ7_fill_d0a16 := Or.inl (gw_in1 (tb_3 77 rfl) rfl)
theorem ml_X3_47 : Ml RX3 47 MX3_passFromBehind := Or.inl (gw_in1 (tb_3 80 rfl) rfl)
theorem ml_X3_57 : Ml RX3 57 MJ9_min_7cf53 := Or.inl (gw_in1 (tb_3 84 rfl) rfl)
theorem ml_X3_63 : Ml RX3 63 MX2_targetOf := Or.inl (gw_in1 (tb_3 85 rfl) rfl)
theorem ml_X2_53 : Ml RX2 53 MX2_partAt := Or.inl (gw_in1 (tb_3 89 rfl) rfl)
theorem kc_X3_70 : Cond.constantLong RX3 70 (-1 : Int64) ∈ gw := gw_in1 (tb_3 90 rfl) rfl
theorem ml_X3_32 : Ml RX3 32 MX3_findEdges := Or.inl (gw_in1 (tb_3 91 rfl) rfl)
theorem kc_X3_75 : Cond.constantLong RX3 75 (15 : Int64) ∈ gw := gw_in1 (tb_3 95 rfl) rfl
theorem ml_X3_77 : Ml RX3 77 MX2_partAt := Or.inl (gw_in1 (tb_3 96 rfl) rfl)
theorem ml_X3_83 : Ml RX3 83 MX3_putBeside := Or.inl (gw_in1 (tb_3 97 rfl) rfl)
theorem ml_X3_87 : Ml RX3 87 MX7_has := Or.inr ⟨"RegisterDesk", nw_in1 (tb_3 101 rfl) rfl⟩
theorem ml_X3_35 : Ml RX3 35 MX3_findRates := Or.inl (gw_in1 (tb_3 104 rfl) rfl)
theorem ml_X3_91 : Ml RX3 91 MJ7_fill_53178 := Or.inl (gw_in1 (tb_3 108 rfl) rfl)
theorem ml_X3_38 : Ml RX3 38 MX3_findCosts := Or.inl (gw_in1 (tb_3 111 rfl) rfl)
theorem ml_X3_94 : Ml RX3 94 MX2_nameAt := Or.inl (gw_in1 (tb_3 115 rfl) rfl)
theorem ml_L_48 : Ml RL 48 MX7_edges := Or.inl (gw_in1 (tb_3 119 rfl) rfl)
theorem ml_L_52 : Ml RL 52 MX7_weight := Or.inl (gw_in1 (tb_3 123 rfl) rfl)
theorem ml_X7_110 : Ml RX7 110 MX7_isToldValue := Or.inl (gw_in1 (tb_3 127 rfl) rfl)
theorem ml_X7_117 : Ml RX7 117 MJ13_bitCount_95d88 := Or.inl (gw_in1 (tb_3 130 rfl) rfl)
theorem kc_J13_314 : Cond.constantLong RJ13 314 (6148914691236517205 : Int64) ∈ gw := gw_in1 (tb_3 133 rfl) rfl
theorem kc_J13_316 : Cond.constantLong RJ13 316 (3689348814741910323 : Int64) ∈ gw := gw_in1 (tb_3 134 rfl) rfl
theorem kc_J13_318 : Cond.constantLong RJ13 318 (1085102592571150095 : Int64) ∈ gw := gw_in1 (tb_3 135 rfl) rfl
theorem ml_X7_123 : Ml RX7 123 MX7_weightBits := Or.inl (gw_in1 (tb_3 136 rfl) rfl)
theorem ml_X7_212 : Ml RX7 212 MJ9_max_7cf53 := Or.inl (gw_in1 (tb_3 139 rfl) rfl)
theorem ml_X7_217 : Ml RX7 217 MX7_singleBits := Or.inl (gw_in1 (tb_3 140 rfl) rfl)
theorem kc_X7_220 : Cond.constantLong RX7 220 (2 : Int64) ∈ gw := gw_in1 (tb_3 143 rfl) rfl
theorem ml_L_56 : Ml RL 56 MX7_step := Or.inl (gw_in1 (tb_3 144 rfl) rfl)
theorem ml_X7_127 : Ml RX7 127 MX7_findAllotment := Or.inl (gw_in1 (tb_3 148 rfl) rfl)
theorem ml_X7_200 : Ml RX7 200 MX0_allot := Or.inl (gw_in1 (tb_3 152 rfl) rfl)
theorem ml_X0_72 : Ml RX0 72 MX0_begin := Or.inl (gw_in1 (tb_3 156 rfl) rfl)
theorem ml_X0_96 : Ml RX0 96 MX2_copyFrom := Or.inl (gw_in1 (tb_3 160 rfl) rfl)
theorem al_X2_56 : Cond.methodLink RX2 56 arraycopyName ∈ gw := gw_in1 (tb_3 164 rfl) rfl
theorem w_native : Cond.native arraycopyName ∈ gw := gw_in1 (tb_3 166 rfl) rfl
theorem ml_X0_99 : Ml RX0 99 MJ7_fill_53178 := Or.inl (gw_in1 (tb_3 167 rfl) rfl)
theorem ml_X0_76 : Ml RX0 76 MX3_find := Or.inl (gw_in1 (tb_3 168 rfl) rfl)
theorem ml_X0_79 : Ml RX0 79 MX5_play := Or.inl (gw_in1 (tb_3 169 rfl) rfl)
theorem ml_X5_76 : Ml RX5 76 MX5_begin := Or.inl (gw_in1 (tb_3 173 rfl) rfl)
theorem kc_X5_104 : Cond.constantLong RX5 104 (15 : Int64) ∈ gw := gw_in1 (tb_3 177 rfl) rfl
theorem ml_X5_107 : Ml RX5 107 MJ9_min_7cf53 := Or.inl (gw_in1 (tb_3 178 rfl) rfl)
theorem ml_X5_120 : Ml RX5 120 MX2_nameAt := Or.inl (gw_in1 (tb_3 179 rfl) rfl)
theorem ml_X5_123 : Ml RX5 123 MX2_partAt := Or.inl (gw_in1 (tb_3 180 rfl) rfl)
theorem ml_X5_80 : Ml RX5 80 MX5_lookAround := Or.inl (gw_in1 (tb_3 181 rfl) rfl)
theorem ml_X5_126 : Ml RX5 126 MJ13_bitCount_95d88 := Or.inl (gw_in1 (tb_3 185 rfl) rfl)
theorem ml_X5_132 : Ml RX5 132 MX7_has := Or.inr ⟨"RegisterDesk", nw_in1 (tb_3 186 rfl) rfl⟩
theorem ml_X5_136 : Ml RX5 136 MX5_nodeOf := Or.inl (gw_in1 (tb_3 187 rfl) rfl)
theorem ml_X5_155 : Ml RX5 155 MJ9_max_7cf53 := Or.inl (gw_in1 (tb_3 191 rfl) rfl)
theorem kc_X5_140 : Cond.constantLong RX5 140 (-16 : Int64) ∈ gw := gw_in1 (tb_3 192 rfl) rfl
theorem ml_X5_84 : Ml RX5 84 MX5_takeLow := Or.inl (gw_in1 (tb_3 193 rfl) rfl)
theorem kc_X5_142 : Cond.constantLong RX5 142 (-1 : Int64) ∈ gw := gw_in1 (tb_3 197 rfl) rfl
theorem ml_X5_144 : Ml RX5 144 MX5_leastOf := Or.inl (gw_in1 (tb_3 198 rfl) rfl)
theorem ml_X5_147 : Ml RX5 147 MX5_takeAway := Or.inl (gw_in1 (tb_3 202 rfl) rfl)
theorem ml_X5_151 : Ml RX5 151 MX5_note := Or.inl (gw_in1 (tb_3 206 rfl) rfl)
theorem ml_X5_87 : Ml RX5 87 MX5_settleMove := Or.inl (gw_in1 (tb_3 210 rfl) rfl)
theorem ml_X5_158 : Ml RX5 158 MX5_isSafe := Or.inl (gw_in1 (tb_3 214 rfl) rfl)
theorem ml_X5_162 : Ml RX5 162 MX5_makeOne := Or.inl (gw_in1 (tb_3 218 rfl) rfl)
theorem ml_X5_90 : Ml RX5 90 MX5_giveUpMoves := Or.inl (gw_in1 (tb_3 222 rfl) rfl)
theorem ml_X5_165 : Ml RX5 165 MX5_shutMovesOf := Or.inl (gw_in1 (tb_3 226 rfl) rfl)
theorem ml_X5_93 : Ml RX5 93 MX5_takeInHope := Or.inl (gw_in1 (tb_3 230 rfl) rfl)
theorem ml_X5_168 : Ml RX5 168 MX7_weightBits := Or.inr ⟨"RegisterDesk", nw_in1 (tb_3 234 rfl) rfl⟩
theorem ml_X5_96 : Ml RX5 96 MX5_bringBack := Or.inl (gw_in1 (tb_3 235 rfl) rfl)
theorem ml_X5_172 : Ml RX5 172 MX5_registersBeside := Or.inl (gw_in1 (tb_3 239 rfl) rfl)
theorem ml_X0_83 : Ml RX0 83 MX0_keepFirstRound := Or.inl (gw_in1 (tb_4 3 rfl) rfl)
theorem al_X0_108 : Cond.methodLink RX0 108 arraycopyName ∈ gw := gw_in1 (tb_4 7 rfl) rfl
theorem ml_X0_89 : Ml RX0 89 MX0_spill := Or.inl (gw_in1 (tb_4 8 rfl) rfl)
theorem ml_X0_117 : Ml RX0 117 MX0_giveSlots := Or.inl (gw_in1 (tb_4 12 rfl) rfl)
theorem ml_X0_130 : Ml RX0 130 MX7_has := Or.inr ⟨"RegisterDesk", nw_in1 (tb_4 16 rfl) rfl⟩
theorem ml_X0_137 : Ml RX0 137 MX5_nodeOf := Or.inl (gw_in1 (tb_4 17 rfl) rfl)
theorem ml_X0_120 : Ml RX0 120 MX2_clear := Or.inl (gw_in1 (tb_4 18 rfl) rfl)
theorem ml_X0_126 : Ml RX0 126 MX0_rewrite := Or.inl (gw_in1 (tb_4 19 rfl) rfl)
theorem ml_X0_141 : Ml RX0 141 MX2_partAt := Or.inl (gw_in1 (tb_4 23 rfl) rfl)
theorem ml_X0_145 : Ml RX0 145 MX2_nameAt := Or.inl (gw_in1 (tb_4 24 rfl) rfl)
theorem ml_X0_148 : Ml RX0 148 MX0_slotOfName := Or.inl (gw_in1 (tb_4 25 rfl) rfl)
theorem ml_X0_151 : Ml RX0 151 MX7_shapeOf := Or.inr ⟨"RegisterDesk", nw_in1 (tb_4 29 rfl) rfl⟩
theorem ml_X0_155 : Ml RX0 155 MX0_makeName := Or.inl (gw_in1 (tb_4 30 rfl) rfl)
theorem ml_X0_159 : Ml RX0 159 MX2_add := Or.inl (gw_in1 (tb_4 34 rfl) rfl)
theorem ml_X0_93 : Ml RX0 93 MX0_finish := Or.inl (gw_in1 (tb_4 35 rfl) rfl)
theorem ml_X0_163 : Ml RX0 163 MX0_registerOf := Or.inl (gw_in1 (tb_4 39 rfl) rfl)
theorem ml_L_60 : Ml RL 60 MX7_spilled := Or.inl (gw_in1 (tb_4 43 rfl) rfl)
theorem ml_X7_140 : Ml RX7 140 MX7_has := Or.inl (gw_in1 (tb_4 47 rfl) rfl)
theorem ml_L_64 : Ml RL 64 MX7_rounds := Or.inl (gw_in1 (tb_4 48 rfl) rfl)
theorem ml_L_68 : Ml RL 68 MX7_colour := Or.inl (gw_in1 (tb_4 52 rfl) rfl)
theorem ml_X7_165 : Ml RX7 165 MX0_placeOf := Or.inl (gw_in1 (tb_4 56 rfl) rfl)
theorem ml_L_72 : Ml RL 72 MX7_code := Or.inl (gw_in1 (tb_4 60 rfl) rfl)
theorem ml_L_76 : Ml RL 76 MX7_run := Or.inl (gw_in1 (tb_4 64 rfl) rfl)
theorem ml_X7_169 : Ml RX7 169 MX7_runProgram := Or.inl (gw_in1 (tb_4 68 rfl) rfl)
theorem ml_X7_181 : Ml RX7 181 MX6_follow := Or.inl (gw_in1 (tb_4 72 rfl) rfl)
theorem ml_X6_41 : Ml RX6 41 MJ7_fill_53178 := Or.inl (gw_in1 (tb_4 76 rfl) rfl)
theorem ml_X6_52 : Ml RX6 52 MX6_obey := Or.inl (gw_in1 (tb_4 77 rfl) rfl)
theorem ml_X6_56 : Ml RX6 56 MX2_partAt := Or.inl (gw_in1 (tb_4 81 rfl) rfl)
theorem ml_X6_60 : Ml RX6 60 MX6_put := Or.inl (gw_in1 (tb_4 82 rfl) rfl)
theorem ml_X6_64 : Ml RX6 64 MX6_valueOf := Or.inl (gw_in1 (tb_4 86 rfl) rfl)
theorem ml_X6_68 : Ml RX6 68 MJ9_max_7cf53 := Or.inl (gw_in1 (tb_4 90 rfl) rfl)
theorem ml_X6_73 : Ml RX6 73 MX6_tell := Or.inl (gw_in1 (tb_4 91 rfl) rfl)
theorem kc_X6_86 : Cond.constant RX6 86 (1000003 : Int32) ∈ gw := gw_in1 (tb_4 95 rfl) rfl
theorem ml_X6_77 : Ml RX6 77 MX2_targetOf := Or.inl (gw_in1 (tb_4 96 rfl) rfl)
theorem ml_X6_80 : Ml RX6 80 MX6_fetch := Or.inl (gw_in1 (tb_4 97 rfl) rfl)
theorem ml_X6_83 : Ml RX6 83 MX6_keep := Or.inl (gw_in1 (tb_4 101 rfl) rfl)
theorem ml_X7_172 : Ml RX7 172 MX6_answer := Or.inl (gw_in1 (tb_4 105 rfl) rfl)
theorem ml_L_80 : Ml RL 80 MX7_out := Or.inl (gw_in1 (tb_4 109 rfl) rfl)
theorem ml_L_84 : Ml RL 84 MX7_spent := Or.inl (gw_in1 (tb_4 113 rfl) rfl)
theorem ml_L_88 : Ml RL 88 MX7_image := Or.inl (gw_in1 (tb_4 117 rfl) rfl)
theorem ml_X7_189 : Ml RX7 189 MX2_copyFrom := Or.inl (gw_in1 (tb_4 121 rfl) rfl)
theorem ml_L_92 : Ml RL 92 MX7_restore := Or.inl (gw_in1 (tb_4 122 rfl) rfl)
theorem ml_L_96 : Ml RL 96 MX7_told := Or.inl (gw_in1 (tb_4 126 rfl) rfl)
theorem cl_L_10 : Cond.classLink RL 10 RX8 ∈ gw := gw_in1 (tb_4 130 rfl) rfl
theorem in_X8 : Cond.instantiable RX8 52 ∈ gw := gw_in1 (tb_4 131 rfl) rfl
theorem ml_L_12 : Ml RL 12 MX8_init := Or.inl (gw_in1 (tb_4 132 rfl) rfl)
theorem ol_X8_1 : Cond.methodLink RX8 1 Lib.objectInit ∈ gw := gw_in1 (tb_4 135 rfl) rfl
theorem fl_X8_7 : Fl RX8 7 8 0 := ⟨by decide, by decide, Or.inl (gw_in1 (tb_4 136 rfl) rfl)⟩
theorem fl_X8_117 : Fl RX8 117 8 1 := ⟨by decide, by decide, Or.inl (gw_in1 (tb_4 137 rfl) rfl)⟩
theorem fl_X8_13 : Fl RX8 13 8 2 := ⟨by decide, by decide, Or.inl (gw_in1 (tb_4 138 rfl) rfl)⟩
theorem fl_X8_17 : Fl RX8 17 8 3 := ⟨by decide, by decide, Or.inl (gw_in1 (tb_4 139 rfl) rfl)⟩
theorem fl_X8_20 : Fl RX8 20 8 4 := ⟨by decide, by decide, Or.inl (gw_in1 (tb_4 140 rfl) rfl)⟩
theorem fl_X8_23 : Fl RX8 23 8 5 := ⟨by decide, by decide, Or.inl (gw_in1 (tb_4 141 rfl) rfl)⟩
theorem fl_X8_141 : Fl RX8 141 8 6 := ⟨by decide, by decide, Or.inl (gw_in1 (tb_4 142 rfl) rfl)⟩
theorem fl_X8_120 : Fl RX8 120 8 7 := ⟨by decide, by decide, Or.inl (gw_in1 (tb_4 143 rfl) rfl)⟩
theorem fl_X8_26 : Fl RX8 26 8 8 := ⟨by decide, by decide, Or.inl (gw_in1 (tb_4 144 rfl) rfl)⟩
theorem fl_X8_29 : Fl RX8 29 8 9 := ⟨by decide, by decide, Or.inl (gw_in1 (tb_4 145 rfl) rfl)⟩
theorem fl_X8_32 : Fl RX8 32 8 10 := ⟨by decide, by decide, Or.inl (gw_in1 (tb_4 146 rfl) rfl)⟩
theorem fl_X8_35 : Fl RX8 35 8 11 := ⟨by decide, by decide, Or.inl (gw_in1 (tb_4 147 rfl) rfl)⟩
theorem fl_X8_38 : Fl RX8 38 8 12 := ⟨by decide, by decide, Or.inl (gw_in1 (tb_4 148 rfl) rfl)⟩
theorem fl_X8_148 : Fl RX8 148 8 13 := ⟨by decide, by decide, Or.inl (gw_in1 (tb_4 149 rfl) rfl)⟩
theorem fl_X8_41 : Fl RX8 41 8 14 := ⟨by decide, by decide, Or.inl (gw_in1 (tb_4 150 rfl) rfl)⟩
theorem fl_X8_44 : Fl RX8 44 8 15 := ⟨by decide, by decide, Or.inl (gw_in1 (tb_4 151 rfl) rfl)⟩
theorem fl_X8_47 : Fl RX8 47 8 16 := ⟨by decide, by decide, Or.inl (gw_in1 (tb_4 152 rfl) rfl)⟩
theorem fl_X8_50 : Fl RX8 50 8 17 := ⟨by decide, by decide, Or.inl (gw_in1 (tb_4 153 rfl) rfl)⟩
theorem fl_X8_276 : Fl RX8 276 8 18 := ⟨by decide, by decide, Or.inl (gw_in1 (tb_4 154 rfl) rfl)⟩
theorem fl_X8_53 : Fl RX8 53 8 19 := ⟨by decide, by decide, Or.inl (gw_in1 (tb_4 155 rfl) rfl)⟩
theorem fl_X8_57 : Fl RX8 57 8 20 := ⟨by decide, by decide, Or.inl (gw_in1 (tb_4 156 rfl) rfl)⟩
theorem fl_X8_60 : Fl RX8 60 8 21 := ⟨by decide, by decide, Or.inl (gw_in1 (tb_4 157 rfl) rfl)⟩
theorem fl_X8_63 : Fl RX8 63 8 22 := ⟨by decide, by decide, Or.inl (gw_in1 (tb_4 158 rfl) rfl)⟩
theorem fl_X8_66 : Fl RX8 66 8 23 := ⟨by decide, by decide, Or.inl (gw_in1 (tb_4 159 rfl) rfl)⟩
theorem fl_X8_211 : Fl RX8 211 8 24 := ⟨by decide, by decide, Or.inl (gw_in1 (tb_4 160 rfl) rfl)⟩
theorem fl_X8_69 : Fl RX8 69 8 25 := ⟨by decide, by decide, Or.inl (gw_in1 (tb_4 161 rfl) rfl)⟩
theorem fl_X8_72 : Fl RX8 72 8 26 := ⟨by decide, by decide, Or.inl (gw_in1 (tb_4 162 rfl) rfl)⟩
theorem fl_X8_224 : Fl RX8 224 8 27 := ⟨by decide, by decide, Or.inl (gw_in1 (tb_4 163 rfl) rfl)⟩
theorem fl_X8_76 : Fl RX8 76 8 28 := ⟨by decide, by decide, Or.inl (gw_in1 (tb_4 164 rfl) rfl)⟩
theorem fl_X8_79 : Fl RX8 79 8 29 := ⟨by decide, by decide, Or.inl (gw_in1 (tb_4 165 rfl) rfl)⟩
theorem fl_X8_230 : Fl RX8 230 8 30 := ⟨by decide, by decide, Or.inl (gw_in1 (tb_4 166 rfl) rfl)⟩
theorem fl_X8_82 : Fl RX8 82 8 31 := ⟨by decide, by decide, Or.inl (gw_in1 (tb_4 167 rfl) rfl)⟩
theorem fl_X8_85 : Fl RX8 85 8 32 := ⟨by decide, by decide, Or.inl (gw_in1 (tb_4 168 rfl) rfl)⟩
theorem fl_X8_208 : Fl RX8 208 8 33 := ⟨by decide, by decide, Or.inl (gw_in1 (tb_4 169 rfl) rfl)⟩
theorem fl_X8_204 : Fl RX8 204 8 34 := ⟨by decide, by decide, Or.inl (gw_in1 (tb_4 170 rfl) rfl)⟩
theorem fl_X8_292 : Fl RX8 292 8 35 := ⟨by decide, by decide, Or.inl (gw_in1 (tb_4 171 rfl) rfl)⟩
theorem fl_X8_295 : Fl RX8 295 8 36 := ⟨by decide, by decide, Or.inl (gw_in1 (tb_4 172 rfl) rfl)⟩
theorem fl_X8_282 : Fl RX8 282 8 37 := ⟨by decide, by decide, Or.inl (gw_in1 (tb_4 173 rfl) rfl)⟩
theorem fl_X8_88 : Fl RX8 88 8 38 := ⟨by decide, by decide, Or.inl (gw_in1 (tb_4 174 rfl) rfl)⟩
theorem fl_X8_91 : Fl RX8 91 8 39 := ⟨by decide, by decide, Or.inl (gw_in1 (tb_4 175 rfl) rfl)⟩
theorem fl_X8_310 : Fl RX8 310 8 40 := ⟨by decide, by decide, Or.inl (gw_in1 (tb_4 176 rfl) rfl)⟩
theorem fl_X8_94 : Fl RX8 94 8 41 := ⟨by decide, by decide, Or.inl (gw_in1 (tb_4 177 rfl) rfl)⟩
theorem fl_X8_97 : Fl RX8 97 8 42 := ⟨by decide, by decide, Or.inl (gw_in1 (tb_4 178 rfl) rfl)⟩
theorem fl_X8_100 : Fl RX8 100 8 43 := ⟨by decide, by decide, Or.inl (gw_in1 (tb_4 179 rfl) rfl)⟩
theorem fl_X8_319 : Fl RX8 319 8 44 := ⟨by decide, by decide, Or.inl (gw_in1 (tb_4 180 rfl) rfl)⟩
theorem fl_X8_322 : Fl RX8 322 8 45 := ⟨by decide, by decide, Or.inl (gw_in1 (tb_4 181 rfl) rfl)⟩
theorem fl_X8_325 : Fl RX8 325 8 46 := ⟨by decide, by decide, Or.inl (gw_in1 (tb_4 182 rfl) rfl)⟩
theorem fl_X8_328 : Fl RX8 328 8 47 := ⟨by decide, by decide, Or.inl (gw_in1 (tb_4 183 rfl) rfl)⟩
theorem fl_X8_331 : Fl RX8 331 8 48 := ⟨by decide, by decide, Or.inl (gw_in1 (tb_4 184 rfl) rfl)⟩
theorem fl_X8_335 : Fl RX8 335 8 49 := ⟨by decide, by decide, Or.inl (gw_in1 (tb_4 185 rfl) rfl)⟩
theorem fl_X8_103 : Fl RX8 103 8 50 := ⟨by decide, by decide, Or.inl (gw_in1 (tb_4 186 rfl) rfl)⟩
theorem fl_X8_106 : Fl RX8 106 8 51 := ⟨by decide, by decide, Or.inl (gw_in1 (tb_4 187 rfl) rfl)⟩
theorem ml_L_17 : Ml RL 17 MX8_colours := Or.inl (gw_in1 (tb_5 53 rfl) rfl)
theorem ml_X8_113 : Ml RX8 113 MX8_in := Or.inl (gw_in1 (tb_5 57 rfl) rfl)
theorem ml_L_21 : Ml RL 21 MX8_way := Or.inl (gw_in1 (tb_5 60 rfl) rfl)
theorem ml_L_25 : Ml RL 25 MX8_say := Or.inl (gw_in1 (tb_5 64 rfl) rfl)
theorem ml_L_30 : Ml RL 30 MX8_wipe := Or.inl (gw_in1 (tb_5 68 rfl) rfl)
theorem ml_L_34 : Ml RL 34 MX8_fault := Or.inl (gw_in1 (tb_5 72 rfl) rfl)
theorem ml_X8_137 : Ml RX8 137 MX8_faultOf := Or.inl (gw_in1 (tb_5 76 rfl) rfl)
theorem ml_X8_123 : Ml RX8 123 MX8_kindOf := Or.inl (gw_in1 (tb_5 80 rfl) rfl)
theorem ml_X8_127 : Ml RX8 127 MX8_length := Or.inl (gw_in1 (tb_5 83 rfl) rfl)
theorem ml_X8_130 : Ml RX8 130 MX8_wantsFigure := Or.inl (gw_in1 (tb_5 86 rfl) rfl)
theorem ml_X8_134 : Ml RX8 134 MX8_nameOf := Or.inl (gw_in1 (tb_5 89 rfl) rfl)
theorem ml_L_38 : Ml RL 38 MX8_load := Or.inl (gw_in1 (tb_5 92 rfl) rfl)
theorem ml_X8_144 : Ml RX8 144 MX8_numberAt := Or.inl (gw_in1 (tb_5 96 rfl) rfl)
theorem ml_L_43 : Ml RL 43 MX8_instruction := Or.inl (gw_in1 (tb_5 100 rfl) rfl)
theorem ml_L_47 : Ml RL 47 MX8_live := Or.inl (gw_in1 (tb_5 104 rfl) rfl)
theorem ml_X8_174 : Ml RX8 174 MX8_asProgram := Or.inl (gw_in1 (tb_5 108 rfl) rfl)
theorem ml_X8_167 : Ml RX8 167 MX8_layLives := Or.inl (gw_in1 (tb_5 112 rfl) rfl)
theorem ml_X8_155 : Ml RX8 155 MX8_labelOf := Or.inl (gw_in1 (tb_5 116 rfl) rfl)
theorem ml_X8_158 : Ml RX8 158 MX8_writes := Or.inl (gw_in1 (tb_5 120 rfl) rfl)
theorem ml_X8_151 : Ml RX8 151 MX8_isWriting := Or.inl (gw_in1 (tb_5 124 rfl) rfl)
theorem kc_X8_162 : Cond.constantLong RX8 162 (-1 : Int64) ∈ gw := gw_in1 (tb_5 127 rfl) rfl
theorem ml_X8_164 : Ml RX8 164 MX8_reads := Or.inl (gw_in1 (tb_5 128 rfl) rfl)
theorem ml_L_51 : Ml RL 51 MX8_edges := Or.inl (gw_in1 (tb_5 132 rfl) rfl)
theorem ml_X8_177 : Ml RX8 177 MX8_layEdges := Or.inl (gw_in1 (tb_5 136 rfl) rfl)
theorem ml_X8_170 : Ml RX8 170 MX8_join := Or.inl (gw_in1 (tb_5 140 rfl) rfl)
theorem ml_X8_109 : Ml RX8 109 MX8_has := Or.inl (gw_in1 (tb_5 144 rfl) rfl)
theorem ml_L_55 : Ml RL 55 MX8_weight := Or.inl (gw_in1 (tb_5 147 rfl) rfl)
theorem ml_X8_194 : Ml RX8 194 MX8_costOf := Or.inl (gw_in1 (tb_5 151 rfl) rfl)
theorem ml_X8_180 : Ml RX8 180 MX8_isLooped := Or.inl (gw_in1 (tb_5 155 rfl) rfl)
theorem ml_X8_197 : Ml RX8 197 MX8_bits := Or.inl (gw_in1 (tb_5 159 rfl) rfl)
theorem ml_X8_201 : Ml RX8 201 MX8_weigh := Or.inl (gw_in1 (tb_5 162 rfl) rfl)
theorem ml_X8_190 : Ml RX8 190 MX8_single := Or.inl (gw_in1 (tb_5 166 rfl) rfl)
theorem kc_X8_183 : Cond.constantLong RX8 183 (8388608 : Int64) ∈ gw := gw_in1 (tb_5 169 rfl) rfl
theorem kc_X8_185 : Cond.constantLong RX8 185 (2 : Int64) ∈ gw := gw_in1 (tb_5 170 rfl) rfl
theorem kc_X8_187 : Cond.constantLong RX8 187 (16777216 : Int64) ∈ gw := gw_in1 (tb_5 171 rfl) rfl
theorem kc_X8_189 : Cond.constant RX8 189 (8388608 : Int32) ∈ gw := gw_in1 (tb_5 172 rfl) rfl
theorem ml_L_59 : Ml RL 59 MX8_step := Or.inl (gw_in1 (tb_5 173 rfl) rfl)
theorem ml_X8_304 : Ml RX8 304 MX8_firstRound := Or.inl (gw_in1 (tb_5 177 rfl) rfl)
theorem ml_X8_298 : Ml RX8 298 MX8_goRound := Or.inl (gw_in1 (tb_5 181 rfl) rfl)
theorem ml_X8_255 : Ml RX8 255 MX8_names := Or.inl (gw_in1 (tb_5 185 rfl) rfl)
theorem kc_X8_259 : Cond.constantLong RX8 259 (15 : Int64) ∈ gw := gw_in1 (tb_5 189 rfl) rfl
theorem kc_X8_261 : Cond.constantLong RX8 261 (-16 : Int64) ∈ gw := gw_in1 (tb_5 190 rfl) rfl
theorem ml_X8_263 : Ml RX8 263 MX8_takeLow := Or.inl (gw_in1 (tb_5 191 rfl) rfl)
theorem ml_X8_233 : Ml RX8 233 MX8_isLow := Or.inl (gw_in1 (tb_5 195 rfl) rfl)
theorem ml_X8_218 : Ml RX8 218 MX8_degree := Or.inl (gw_in1 (tb_5 199 rfl) rfl)
theorem ml_X8_215 : Ml RX8 215 MX8_near := Or.inl (gw_in1 (tb_5 203 rfl) rfl)
theorem ml_X8_236 : Ml RX8 236 MX8_isMoved := Or.inl (gw_in1 (tb_5 207 rfl) rfl)
theorem ml_X8_227 : Ml RX8 227 MX8_isIn := Or.inl (gw_in1 (tb_5 211 rfl) rfl)
theorem ml_X8_221 : Ml RX8 221 MX8_standsFor := Or.inl (gw_in1 (tb_5 215 rfl) rfl)
theorem ml_X8_239 : Ml RX8 239 MX8_note := Or.inl (gw_in1 (tb_5 219 rfl) rfl)
theorem ml_X8_243 : Ml RX8 243 MX8_take := Or.inl (gw_in1 (tb_5 223 rfl) rfl)
theorem ml_X8_267 : Ml RX8 267 MX8_turnMove := Or.inl (gw_in1 (tb_5 227 rfl) rfl)
theorem ml_X8_246 : Ml RX8 246 MX8_isSafe := Or.inl (gw_in1 (tb_5 231 rfl) rfl)
theorem ml_X8_249 : Ml RX8 249 MX8_merge := Or.inl (gw_in1 (tb_5 235 rfl) rfl)
theorem ml_X8_270 : Ml RX8 270 MX8_giveUp := Or.inl (gw_in1 (tb_5 239 rfl) rfl)
theorem ml_X8_252 : Ml RX8 252 MX8_shutAll := Or.inl (gw_in1 (tb_6 3 rfl) rfl)
theorem ml_X8_273 : Ml RX8 273 MX8_hope := Or.inl (gw_in1 (tb_6 7 rfl) rfl)
theorem ml_L_63 : Ml RL 63 MX8_spilled := Or.inl (gw_in1 (tb_6 11 rfl) rfl)
theorem ml_L_67 : Ml RL 67 MX8_rounds := Or.inl (gw_in1 (tb_6 15 rfl) rfl)
theorem ml_X8_316 : Ml RX8 316 MX8_layCode := Or.inl (gw_in1 (tb_6 19 rfl) rfl)
theorem ml_X8_307 : Ml RX8 307 MX8_goRounds := Or.inl (gw_in1 (tb_6 23 rfl) rfl)
theorem ml_X8_301 : Ml RX8 301 MX8_rewrite := Or.inl (gw_in1 (tb_6 27 rfl) rfl)
theorem ml_X8_289 : Ml RX8 289 MX8_read := Or.inl (gw_in1 (tb_6 31 rfl) rfl)
theorem ml_X8_279 : Ml RX8 279 MX8_isSpilled := Or.inl (gw_in1 (tb_6 35 rfl) rfl)
theorem ml_X8_285 : Ml RX8 285 MX8_put := Or.inl (gw_in1 (tb_6 39 rfl) rfl)
theorem ml_X8_313 : Ml RX8 313 MX8_register := Or.inl (gw_in1 (tb_6 43 rfl) rfl)
theorem ml_L_71 : Ml RL 71 MX8_colour := Or.inl (gw_in1 (tb_6 47 rfl) rfl)
theorem ml_L_75 : Ml RL 75 MX8_code := Or.inl (gw_in1 (tb_6 51 rfl) rfl)
theorem ml_L_79 : Ml RL 79 MX8_run := Or.inl (gw_in1 (tb_6 55 rfl) rfl)
theorem ml_X8_338 : Ml RX8 338 MX8_runNow := Or.inl (gw_in1 (tb_6 59 rfl) rfl)
theorem kc_X8_334 : Cond.constant RX8 334 (1000003 : Int32) ∈ gw := gw_in1 (tb_6 63 rfl) rfl
theorem ml_L_83 : Ml RL 83 MX8_out := Or.inl (gw_in1 (tb_6 64 rfl) rfl)
theorem ml_L_87 : Ml RL 87 MX8_spent := Or.inl (gw_in1 (tb_6 68 rfl) rfl)
theorem ml_L_91 : Ml RL 91 MX8_image := Or.inl (gw_in1 (tb_6 72 rfl) rfl)
theorem ml_L_95 : Ml RL 95 MX8_restore := Or.inl (gw_in1 (tb_6 76 rfl) rfl)
theorem ml_L_99 : Ml RL 99 MX8_told := Or.inl (gw_in1 (tb_6 80 rfl) rfl)
theorem jf_J0_15 : Cond.fieldLink RJ0 15 "java/lang/String" "coder" "B" ∈ gw := gw_in1 (tb_6 84 rfl) rfl
theorem jf_J0_9 : Cond.fieldLink RJ0 9 "java/lang/String" "value" "[B" ∈ gw := gw_in1 (tb_6 85 rfl) rfl
theorem mf_J0_charAt_5068e : MfV MJ0_charAt_5068e 1 := ⟨⟨gw_in1 (tb_3 2 rfl) rfl, gw_in1 (tb_1 10 rfl) rfl, ⟨by decide +kernel, by decide +kernel⟩, by decide +kernel, by decide⟩, gw_in1 (tb_3 0 rfl) rfl, gw_in1 (tb_3 1 rfl) rfl⟩
theorem mf_J0_checkBoundsBeginEnd_23922 : MfS MJ0_checkBoundsBeginEnd_23922 3 := ⟨⟨gw_in1 (tb_2 203 rfl) rfl, gw_in1 (tb_1 10 rfl) rfl, ⟨by decide +kernel, by decide +kernel⟩, by decide +kernel, by decide⟩, gw_in1 (tb_2 202 rfl) rfl⟩
theorem mf_J0_checkIndex_df160 : MfS MJ0_checkIndex_df160 2 := ⟨⟨gw_in1 (tb_3 8 rfl) rfl, gw_in1 (tb_1 10 rfl) rfl, ⟨by decide +kernel, by decide +kernel⟩, by decide +kernel, by decide⟩, gw_in1 (tb_3 7 rfl) rfl⟩
theorem mf_J0_coder_7d493 : MfV MJ0_coder_7d493 0 := ⟨⟨gw_in1 (tb_2 170 rfl) rfl, gw_in1 (tb_1 10 rfl) rfl, ⟨by decide +kernel, by decide +kernel⟩, by decide +kernel, by decide⟩, gw_in1 (tb_2 168 rfl) rfl, gw_in1 (tb_2 169 rfl) rfl⟩
theorem mf_J0_indexOf_0f7a4 : MfV MJ0_indexOf_0f7a4 1 := ⟨⟨gw_in1 (tb_2 152 rfl) rfl, gw_in1 (tb_1 10 rfl) rfl, ⟨by decide +kernel, by decide +kernel⟩, by decide +kernel, by decide⟩, gw_in1 (tb_2 150 rfl) rfl, gw_in1 (tb_2 151 rfl) rfl⟩
theorem mf_J0_indexOf_7cf53 : MfV MJ0_indexOf_7cf53 2 := ⟨⟨gw_in1 (tb_2 156 rfl) rfl, gw_in1 (tb_1 10 rfl) rfl, ⟨by decide +kernel, by decide +kernel⟩, by decide +kernel, by decide⟩, gw_in1 (tb_2 154 rfl) rfl, gw_in1 (tb_2 155 rfl) rfl⟩
theorem mf_J0_isLatin1_aae02 : MfV MJ0_isLatin1_aae02 0 := ⟨⟨gw_in1 (tb_2 160 rfl) rfl, gw_in1 (tb_1 10 rfl) rfl, ⟨by decide +kernel, by decide +kernel⟩, by decide +kernel, by decide⟩, gw_in1 (tb_2 158 rfl) rfl, gw_in1 (tb_2 159 rfl) rfl⟩
theorem mf_J0_length_8abf5 : MfV MJ0_length_8abf5 0 := ⟨⟨gw_in1 (tb_2 166 rfl) rfl, gw_in1 (tb_1 10 rfl) rfl, ⟨by decide +kernel, by decide +kernel⟩, by decide +kernel, by decide⟩, gw_in1 (tb_2 164 rfl) rfl, gw_in1 (tb_2 165 rfl) rfl⟩
theorem mf_J11_highSurrogate_5068e : MfS MJ11_highSurrogate_5068e 1 := ⟨⟨gw_in1 (tb_2 229 rfl) rfl, gw_in1 (tb_1 15 rfl) rfl, ⟨by decide +kernel, by decide +kernel⟩, by decide +kernel, by decide⟩, gw_in1 (tb_2 228 rfl) rfl⟩
theorem mf_J11_isValidCodePoint_9a6ad : MfS MJ11_isValidCodePoint_9a6ad 1 := ⟨⟨gw_in1 (tb_2 226 rfl) rfl, gw_in1 (tb_1 15 rfl) rfl, ⟨by decide +kernel, by decide +kernel⟩, by decide +kernel, by decide⟩, gw_in1 (tb_2 225 rfl) rfl⟩
theorem mf_J11_lowSurrogate_5068e : MfS MJ11_lowSurrogate_5068e 1 := ⟨⟨gw_in1 (tb_2 233 rfl) rfl, gw_in1 (tb_1 15 rfl) rfl, ⟨by decide +kernel, by decide +kernel⟩, by decide +kernel, by decide⟩, gw_in1 (tb_2 232 rfl) rfl⟩
theorem mf_J13_bitCount_95d88 : MfS MJ13_bitCount_95d88 1 := ⟨⟨gw_in1 (tb_3 132 rfl) rfl, gw_in1 (tb_1 17 rfl) rfl, ⟨by decide +kernel, by decide +kernel⟩, by decide +kernel, by decide⟩, gw_in1 (tb_3 131 rfl) rfl⟩
theorem mf_J1_canEncode_9a6ad : MfS MJ1_canEncode_9a6ad 1 := ⟨⟨gw_in1 (tb_2 176 rfl) rfl, gw_in1 (tb_1 11 rfl) rfl, ⟨by decide +kernel, by decide +kernel⟩, by decide +kernel, by decide⟩, gw_in1 (tb_2 175 rfl) rfl⟩
theorem mf_J1_charAt_3b067 : MfS MJ1_charAt_3b067 2 := ⟨⟨gw_in1 (tb_3 5 rfl) rfl, gw_in1 (tb_1 11 rfl) rfl, ⟨by decide +kernel, by decide +kernel⟩, by decide +kernel, by decide⟩, gw_in1 (tb_3 4 rfl) rfl⟩
theorem mf_J1_indexOfChar_4cfef : MfS MJ1_indexOfChar_4cfef 4 := ⟨⟨gw_in1 (tb_2 185 rfl) rfl, gw_in1 (tb_1 11 rfl) rfl, ⟨by decide +kernel, by decide +kernel⟩, by decide +kernel, by decide⟩, gw_in1 (tb_2 184 rfl) rfl⟩
theorem mf_J1_indexOf_4cfef : MfS MJ1_indexOf_4cfef 4 := ⟨⟨gw_in1 (tb_2 173 rfl) rfl, gw_in1 (tb_1 11 rfl) rfl, ⟨by decide +kernel, by decide +kernel⟩, by decide +kernel, by decide⟩, gw_in1 (tb_2 172 rfl) rfl⟩
theorem mf_J2_charAt_3b067 : MfS MJ2_charAt_3b067 2 := ⟨⟨gw_in1 (tb_3 14 rfl) rfl, gw_in1 (tb_1 13 rfl) rfl, ⟨by decide +kernel, by decide +kernel⟩, by decide +kernel, by decide⟩, gw_in1 (tb_3 13 rfl) rfl⟩
theorem mf_J2_checkBoundsBeginEnd_d044e : MfS MJ2_checkBoundsBeginEnd_d044e 3 := ⟨⟨gw_in1 (tb_2 197 rfl) rfl, gw_in1 (tb_1 13 rfl) rfl, ⟨by decide +kernel, by decide +kernel⟩, by decide +kernel, by decide⟩, gw_in1 (tb_2 196 rfl) rfl⟩
theorem mf_J2_checkIndex_2214a : MfS MJ2_checkIndex_2214a 2 := ⟨⟨gw_in1 (tb_3 17 rfl) rfl, gw_in1 (tb_1 13 rfl) rfl, ⟨by decide +kernel, by decide +kernel⟩, by decide +kernel, by decide⟩, gw_in1 (tb_3 16 rfl) rfl⟩
theorem mf_J2_getChar_3b067 : MfS MJ2_getChar_3b067 2 := ⟨⟨gw_in1 (tb_2 214 rfl) rfl, gw_in1 (tb_1 13 rfl) rfl, ⟨by decide +kernel, by decide +kernel⟩, by decide +kernel, by decide⟩, gw_in1 (tb_2 213 rfl) rfl⟩
theorem mf_J2_indexOfCharUnsafe_4cfef : MfS MJ2_indexOfCharUnsafe_4cfef 4 := ⟨⟨gw_in1 (tb_2 211 rfl) rfl, gw_in1 (tb_1 13 rfl) rfl, ⟨by decide +kernel, by decide +kernel⟩, by decide +kernel, by decide⟩, gw_in1 (tb_2 210 rfl) rfl⟩
theorem mf_J2_indexOfChar_4cfef : MfS MJ2_indexOfChar_4cfef 4 := ⟨⟨gw_in1 (tb_2 194 rfl) rfl, gw_in1 (tb_1 13 rfl) rfl, ⟨by decide +kernel, by decide +kernel⟩, by decide +kernel, by decide⟩, gw_in1 (tb_2 193 rfl) rfl⟩
theorem mf_J2_indexOfSupplementary_4cfef : MfS MJ2_indexOfSupplementary_4cfef 4 := ⟨⟨gw_in1 (tb_2 223 rfl) rfl, gw_in1 (tb_1 13 rfl) rfl, ⟨by decide +kernel, by decide +kernel⟩, by decide +kernel, by decide⟩, gw_in1 (tb_2 222 rfl) rfl⟩
theorem mf_J2_indexOf_4cfef : MfS MJ2_indexOf_4cfef 4 := ⟨⟨gw_in1 (tb_2 188 rfl) rfl, gw_in1 (tb_1 13 rfl) rfl, ⟨by decide +kernel, by decide +kernel⟩, by decide +kernel, by decide⟩, gw_in1 (tb_2 187 rfl) rfl⟩
theorem mf_J2_length_9d52b : MfS MJ2_length_9d52b 1 := ⟨⟨gw_in1 (tb_2 200 rfl) rfl, gw_in1 (tb_1 13 rfl) rfl, ⟨by decide +kernel, by decide +kernel⟩, by decide +kernel, by decide⟩, gw_in1 (tb_2 199 rfl) rfl⟩
theorem mf_J3_checkFromToIndex_8c36e : MfS MJ3_checkFromToIndex_8c36e 4 := ⟨⟨gw_in1 (tb_2 208 rfl) rfl, gw_in1 (tb_1 14 rfl) rfl, ⟨by decide +kernel, by decide +kernel⟩, by decide +kernel, by decide⟩, gw_in1 (tb_2 207 rfl) rfl⟩
theorem mf_J3_checkIndex_8e157 : MfS MJ3_checkIndex_8e157 3 := ⟨⟨gw_in1 (tb_3 11 rfl) rfl, gw_in1 (tb_1 14 rfl) rfl, ⟨by decide +kernel, by decide +kernel⟩, by decide +kernel, by decide⟩, gw_in1 (tb_3 10 rfl) rfl⟩
theorem mf_J7_fill_53178 : MfS MJ7_fill_53178 2 := ⟨⟨gw_in1 (tb_3 110 rfl) rfl, gw_in1 (tb_1 16 rfl) rfl, ⟨by decide +kernel, by decide +kernel⟩, by decide +kernel, by decide⟩, gw_in1 (tb_3 109 rfl) rfl⟩
theorem mf_J7_fill_d0a16 : MfS MJ7_fill_d0a16 2 := ⟨⟨gw_in1 (tb_3 79 rfl) rfl, gw_in1 (tb_1 16 rfl) rfl, ⟨by decide +kernel, by decide +kernel⟩, by decide +kernel, by decide⟩, gw_in1 (tb_3 78 rfl) rfl⟩
theorem mf_J9_max_7cf53 : MfS MJ9_max_7cf53 2 := ⟨⟨gw_in1 (tb_2 179 rfl) rfl, gw_in1 (tb_1 12 rfl) rfl, ⟨by decide +kernel, by decide +kernel⟩, by decide +kernel, by decide⟩, gw_in1 (tb_2 178 rfl) rfl⟩
theorem mf_J9_min_7cf53 : MfS MJ9_min_7cf53 2 := ⟨⟨gw_in1 (tb_2 182 rfl) rfl, gw_in1 (tb_1 12 rfl) rfl, ⟨by decide +kernel, by decide +kernel⟩, by decide +kernel, by decide⟩, gw_in1 (tb_2 181 rfl) rfl⟩
theorem mf_X0_allot : MfV MX0_allot 3 := ⟨⟨gw_in1 (tb_3 155 rfl) rfl, gw_in1 (tb_1 5 rfl) rfl, ⟨by decide +kernel, by decide +kernel⟩, by decide +kernel, by decide⟩, gw_in1 (tb_3 153 rfl) rfl, gw_in1 (tb_3 154 rfl) rfl⟩
theorem mf_X0_begin : MfV MX0_begin 1 := ⟨⟨gw_in1 (tb_3 159 rfl) rfl, gw_in1 (tb_1 5 rfl) rfl, ⟨by decide +kernel, by decide +kernel⟩, by decide +kernel, by decide⟩, gw_in1 (tb_3 158 rfl) rfl, gw_sel (q := (MX0_begin.1, _)) (List.mem_append_left _ (List.mem_of_getElem? (i := 12) rfl))⟩
theorem mf_X0_finish : MfV MX0_finish 0 := ⟨⟨gw_in1 (tb_4 38 rfl) rfl, gw_in1 (tb_1 5 rfl) rfl, ⟨by decide +kernel, by decide +kernel⟩, by decide +kernel, by decide⟩, gw_in1 (tb_4 37 rfl) rfl, gw_sel (q := (MX0_finish.1, _)) (List.mem_append_right _ (List.mem_append_right _ (List.mem_append_left _ (List.mem_of_getElem? (i := 1) rfl))))⟩
theorem mf_X0_giveSlots : MfV MX0_giveSlots 0 := ⟨⟨gw_in1 (tb_4 15 rfl) rfl, gw_in1 (tb_1 5 rfl) rfl, ⟨by decide +kernel, by decide +kernel⟩, by decide +kernel, by decide⟩, gw_in1 (tb_4 14 rfl) rfl, gw_sel (q := (MX0_giveSlots.1, _)) (List.mem_append_right _ (List.mem_append_left _ (List.mem_of_getElem? (i := 13) rfl)))⟩
theorem mf_X0_init : MfI MX0_init 0 := ⟨⟨gw_in1 (tb_1 118 rfl) rfl, gw_in1 (tb_1 5 rfl) rfl, ⟨by decide +kernel, by decide +kernel⟩, by decide +kernel, by decide⟩, gw_in1 (tb_1 117 rfl) rfl, rfl, rfl⟩
theorem mf_X0_keepFirstRound : MfV MX0_keepFirstRound 0 := ⟨⟨gw_in1 (tb_4 6 rfl) rfl, gw_in1 (tb_1 5 rfl) rfl, ⟨by decide +kernel, by decide +kernel⟩, by decide +kernel, by decide⟩, gw_in1 (tb_4 5 rfl) rfl, gw_sel (q := (MX0_keepFirstRound.1, _)) (List.mem_append_right _ (List.mem_append_left _ (List.mem_of_getElem? (i := 11) rfl)))⟩
theorem mf_X0_makeName : MfV MX0_makeName 0 := ⟨⟨gw_in1 (tb_4 33 rfl) rfl, gw_in1 (tb_1 5 rfl) rfl, ⟨by decide +kernel, by decide +kernel⟩, by decide +kernel, by decide⟩, gw_in1 (tb_4 32 rfl) rfl, gw_sel (q := (MX0_makeName.1, _)) (List.mem_append_right _ (List.mem_append_right _ (List.mem_append_left _ (List.mem_of_getElem? (i := 0) rfl))))⟩
theorem mf_X0_placeOf : MfV MX0_placeOf 1 := ⟨⟨gw_in1 (tb_4 59 rfl) rfl, gw_in1 (tb_1 5 rfl) rfl, ⟨by decide +kernel, by decide +kernel⟩, by decide +kernel, by decide⟩, gw_in1 (tb_4 57 rfl) rfl, gw_in1 (tb_4 58 rfl) rfl⟩
theorem mf_X0_registerOf : MfV MX0_registerOf 1 := ⟨⟨gw_in1 (tb_4 42 rfl) rfl, gw_in1 (tb_1 5 rfl) rfl, ⟨by decide +kernel, by decide +kernel⟩, by decide +kernel, by decide⟩, gw_in1 (tb_4 41 rfl) rfl, gw_sel (q := (MX0_registerOf.1, _)) (List.mem_append_right _ (List.mem_append_right _ (List.mem_append_left _ (List.mem_of_getElem? (i := 2) rfl))))⟩
theorem mf_X0_rewrite : MfV MX0_rewrite 1 := ⟨⟨gw_in1 (tb_4 22 rfl) rfl, gw_in1 (tb_1 5 rfl) rfl, ⟨by decide +kernel, by decide +kernel⟩, by decide +kernel, by decide⟩, gw_in1 (tb_4 21 rfl) rfl, gw_sel (q := (MX0_rewrite.1, _)) (List.mem_append_right _ (List.mem_append_left _ (List.mem_of_getElem? (i := 14) rfl)))⟩
theorem mf_X0_slotOfName : MfV MX0_slotOfName 1 := ⟨⟨gw_in1 (tb_4 28 rfl) rfl, gw_in1 (tb_1 5 rfl) rfl, ⟨by decide +kernel, by decide +kernel⟩, by decide +kernel, by decide⟩, gw_in1 (tb_4 27 rfl) rfl, gw_sel (q := (MX0_slotOfName.1, _)) (List.mem_append_right _ (List.mem_append_left _ (List.mem_of_getElem? (i := 15) rfl)))⟩
theorem mf_X0_spill : MfV MX0_spill 0 := ⟨⟨gw_in1 (tb_4 11 rfl) rfl, gw_in1 (tb_1 5 rfl) rfl, ⟨by decide +kernel, by decide +kernel⟩, by decide +kernel, by decide⟩, gw_in1 (tb_4 10 rfl) rfl, gw_sel (q := (MX0_spill.1, _)) (List.mem_append_right _ (List.mem_append_left _ (List.mem_of_getElem? (i := 12) rfl)))⟩
theorem mf_X1_init : MfI MX1_init 0 := ⟨⟨gw_in1 (tb_2 52 rfl) rfl, gw_in1 (tb_1 8 rfl) rfl, ⟨by decide +kernel, by decide +kernel⟩, by decide +kernel, by decide⟩, gw_in1 (tb_2 51 rfl) rfl, rfl, rfl⟩
theorem mf_X2_add : MfV MX2_add 4 := ⟨⟨gw_in1 (tb_3 42 rfl) rfl, gw_in1 (tb_1 3 rfl) rfl, ⟨by decide +kernel, by decide +kernel⟩, by decide +kernel, by decide⟩, gw_in1 (tb_3 40 rfl) rfl, gw_in1 (tb_3 41 rfl) rfl⟩
theorem mf_X2_clear : MfV MX2_clear 0 := ⟨⟨gw_in1 (tb_3 34 rfl) rfl, gw_in1 (tb_1 3 rfl) rfl, ⟨by decide +kernel, by decide +kernel⟩, by decide +kernel, by decide⟩, gw_in1 (tb_3 32 rfl) rfl, gw_in1 (tb_3 33 rfl) rfl⟩
theorem mf_X2_copyFrom : MfV MX2_copyFrom 1 := ⟨⟨gw_in1 (tb_3 163 rfl) rfl, gw_in1 (tb_1 3 rfl) rfl, ⟨by decide +kernel, by decide +kernel⟩, by decide +kernel, by decide⟩, gw_in1 (tb_3 161 rfl) rfl, gw_in1 (tb_3 162 rfl) rfl⟩
theorem mf_X2_init : MfI MX2_init 0 := ⟨⟨gw_in1 (tb_1 46 rfl) rfl, gw_in1 (tb_1 3 rfl) rfl, ⟨by decide +kernel, by decide +kernel⟩, by decide +kernel, by decide⟩, gw_in1 (tb_1 45 rfl) rfl, rfl, rfl⟩
theorem mf_X2_nameAt : MfV MX2_nameAt 2 := ⟨⟨gw_in1 (tb_3 118 rfl) rfl, gw_in1 (tb_1 3 rfl) rfl, ⟨by decide +kernel, by decide +kernel⟩, by decide +kernel, by decide⟩, gw_in1 (tb_3 116 rfl) rfl, gw_in1 (tb_3 117 rfl) rfl⟩
theorem mf_X2_noteName : MfV MX2_noteName 2 := ⟨⟨gw_in1 (tb_3 47 rfl) rfl, gw_in1 (tb_1 3 rfl) rfl, ⟨by decide +kernel, by decide +kernel⟩, by decide +kernel, by decide⟩, gw_in1 (tb_3 46 rfl) rfl, gw_sel (q := (MX2_noteName.1, _)) (List.mem_append_left _ (List.mem_of_getElem? (i := 2) rfl))⟩
theorem mf_X2_partAt : MfV MX2_partAt 2 := ⟨⟨gw_in1 (tb_3 60 rfl) rfl, gw_in1 (tb_1 3 rfl) rfl, ⟨by decide +kernel, by decide +kernel⟩, by decide +kernel, by decide⟩, gw_in1 (tb_3 58 rfl) rfl, gw_in1 (tb_3 59 rfl) rfl⟩
theorem mf_X2_targetOf : MfV MX2_targetOf 1 := ⟨⟨gw_in1 (tb_3 88 rfl) rfl, gw_in1 (tb_1 3 rfl) rfl, ⟨by decide +kernel, by decide +kernel⟩, by decide +kernel, by decide⟩, gw_in1 (tb_3 86 rfl) rfl, gw_in1 (tb_3 87 rfl) rfl⟩
theorem mf_X3_find : MfV MX3_find 1 := ⟨⟨gw_in1 (tb_3 72 rfl) rfl, gw_in1 (tb_1 4 rfl) rfl, ⟨by decide +kernel, by decide +kernel⟩, by decide +kernel, by decide⟩, gw_in1 (tb_3 70 rfl) rfl, gw_in1 (tb_3 71 rfl) rfl⟩
theorem mf_X3_findCosts : MfV MX3_findCosts 1 := ⟨⟨gw_in1 (tb_3 114 rfl) rfl, gw_in1 (tb_1 4 rfl) rfl, ⟨by decide +kernel, by decide +kernel⟩, by decide +kernel, by decide⟩, gw_in1 (tb_3 113 rfl) rfl, gw_sel (q := (MX3_findCosts.1, _)) (List.mem_append_left _ (List.mem_of_getElem? (i := 10) rfl))⟩
theorem mf_X3_findEdges : MfV MX3_findEdges 1 := ⟨⟨gw_in1 (tb_3 94 rfl) rfl, gw_in1 (tb_1 4 rfl) rfl, ⟨by decide +kernel, by decide +kernel⟩, by decide +kernel, by decide⟩, gw_in1 (tb_3 93 rfl) rfl, gw_sel (q := (MX3_findEdges.1, _)) (List.mem_append_left _ (List.mem_of_getElem? (i := 7) rfl))⟩
theorem mf_X3_findLive : MfV MX3_findLive 1 := ⟨⟨gw_in1 (tb_3 76 rfl) rfl, gw_in1 (tb_1 4 rfl) rfl, ⟨by decide +kernel, by decide +kernel⟩, by decide +kernel, by decide⟩, gw_in1 (tb_3 75 rfl) rfl, gw_sel (q := (MX3_findLive.1, _)) (List.mem_append_left _ (List.mem_of_getElem? (i := 5) rfl))⟩
theorem mf_X3_findRates : MfV MX3_findRates 1 := ⟨⟨gw_in1 (tb_3 107 rfl) rfl, gw_in1 (tb_1 4 rfl) rfl, ⟨by decide +kernel, by decide +kernel⟩, by decide +kernel, by decide⟩, gw_in1 (tb_3 106 rfl) rfl, gw_sel (q := (MX3_findRates.1, _)) (List.mem_append_left _ (List.mem_of_getElem? (i := 9) rfl))⟩
theorem mf_X3_init : MfI MX3_init 0 := ⟨⟨gw_in1 (tb_1 91 rfl) rfl, gw_in1 (tb_1 4 rfl) rfl, ⟨by decide +kernel, by decide +kernel⟩, by decide +kernel, by decide⟩, gw_in1 (tb_1 90 rfl) rfl, rfl, rfl⟩
theorem mf_X3_passFromBehind : MfV MX3_passFromBehind 1 := ⟨⟨gw_in1 (tb_3 83 rfl) rfl, gw_in1 (tb_1 4 rfl) rfl, ⟨by decide +kernel, by decide +kernel⟩, by decide +kernel, by decide⟩, gw_in1 (tb_3 82 rfl) rfl, gw_sel (q := (MX3_passFromBehind.1, _)) (List.mem_append_left _ (List.mem_of_getElem? (i := 6) rfl))⟩
theorem mf_X3_putBeside : MfV MX3_putBeside 3 := ⟨⟨gw_in1 (tb_3 100 rfl) rfl, gw_in1 (tb_1 4 rfl) rfl, ⟨by decide +kernel, by decide +kernel⟩, by decide +kernel, by decide⟩, gw_in1 (tb_3 99 rfl) rfl, gw_sel (q := (MX3_putBeside.1, _)) (List.mem_append_left _ (List.mem_of_getElem? (i := 8) rfl))⟩
theorem mf_X4_add : MfV MX4_add 1 := ⟨⟨gw_in1 (tb_2 132 rfl) rfl, gw_in1 (tb_1 2 rfl) rfl, ⟨by decide +kernel, by decide +kernel⟩, by decide +kernel, by decide⟩, gw_in1 (tb_2 130 rfl) rfl, gw_in1 (tb_2 131 rfl) rfl⟩
theorem mf_X4_faultPlace : MfV MX4_faultPlace 0 := ⟨⟨gw_in1 (tb_2 144 rfl) rfl, gw_in1 (tb_1 2 rfl) rfl, ⟨by decide +kernel, by decide +kernel⟩, by decide +kernel, by decide⟩, gw_in1 (tb_2 142 rfl) rfl, gw_in1 (tb_2 143 rfl) rfl⟩
theorem mf_X4_init : MfI MX4_init 0 := ⟨⟨gw_in1 (tb_1 31 rfl) rfl, gw_in1 (tb_1 2 rfl) rfl, ⟨by decide +kernel, by decide +kernel⟩, by decide +kernel, by decide⟩, gw_in1 (tb_1 30 rfl) rfl, rfl, rfl⟩
theorem mf_X4_kindOf : MfS MX4_kindOf 1 := ⟨⟨gw_in1 (tb_2 147 rfl) rfl, gw_in1 (tb_1 2 rfl) rfl, ⟨by decide +kernel, by decide +kernel⟩, by decide +kernel, by decide⟩, gw_in1 (tb_2 146 rfl) rfl⟩
theorem mf_X4_meaningOf : MfS MX4_meaningOf 2 := ⟨⟨gw_in1 (tb_3 21 rfl) rfl, gw_in1 (tb_1 2 rfl) rfl, ⟨by decide +kernel, by decide +kernel⟩, by decide +kernel, by decide⟩, gw_in1 (tb_3 20 rfl) rfl⟩
theorem mf_X4_partOf : MfV MX4_partOf 3 := ⟨⟨gw_in1 (tb_3 38 rfl) rfl, gw_in1 (tb_1 2 rfl) rfl, ⟨by decide +kernel, by decide +kernel⟩, by decide +kernel, by decide⟩, gw_in1 (tb_3 37 rfl) rfl, gw_sel (q := (MX4_partOf.1, _)) (List.mem_append_left _ (List.mem_of_getElem? (i := 1) rfl))⟩
theorem mf_X4_tellTo : MfV MX4_tellTo 1 := ⟨⟨gw_in1 (tb_3 30 rfl) rfl, gw_in1 (tb_1 2 rfl) rfl, ⟨by decide +kernel, by decide +kernel⟩, by decide +kernel, by decide⟩, gw_in1 (tb_3 28 rfl) rfl, gw_in1 (tb_3 29 rfl) rfl⟩
theorem mf_X5_begin : MfV MX5_begin 2 := ⟨⟨gw_in1 (tb_3 176 rfl) rfl, gw_in1 (tb_1 6 rfl) rfl, ⟨by decide +kernel, by decide +kernel⟩, by decide +kernel, by decide⟩, gw_in1 (tb_3 175 rfl) rfl, gw_sel (q := (MX5_begin.1, _)) (List.mem_append_left _ (List.mem_of_getElem? (i := 13) rfl))⟩
theorem mf_X5_bringBack : MfV MX5_bringBack 0 := ⟨⟨gw_in1 (tb_3 238 rfl) rfl, gw_in1 (tb_1 6 rfl) rfl, ⟨by decide +kernel, by decide +kernel⟩, by decide +kernel, by decide⟩, gw_in1 (tb_3 237 rfl) rfl, gw_sel (q := (MX5_bringBack.1, _)) (List.mem_append_right _ (List.mem_append_left _ (List.mem_of_getElem? (i := 9) rfl)))⟩
theorem mf_X5_giveUpMoves : MfV MX5_giveUpMoves 0 := ⟨⟨gw_in1 (tb_3 225 rfl) rfl, gw_in1 (tb_1 6 rfl) rfl, ⟨by decide +kernel, by decide +kernel⟩, by decide +kernel, by decide⟩, gw_in1 (tb_3 224 rfl) rfl, gw_sel (q := (MX5_giveUpMoves.1, _)) (List.mem_append_right _ (List.mem_append_left _ (List.mem_of_getElem? (i := 6) rfl)))⟩
theorem mf_X5_init : MfI MX5_init 0 := ⟨⟨gw_in1 (tb_1 126 rfl) rfl, gw_in1 (tb_1 6 rfl) rfl, ⟨by decide +kernel, by decide +kernel⟩, by decide +kernel, by decide⟩, gw_in1 (tb_1 125 rfl) rfl, rfl, rfl⟩
theorem mf_X5_isSafe : MfV MX5_isSafe 2 := ⟨⟨gw_in1 (tb_3 217 rfl) rfl, gw_in1 (tb_1 6 rfl) rfl, ⟨by decide +kernel, by decide +kernel⟩, by decide +kernel, by decide⟩, gw_in1 (tb_3 216 rfl) rfl, gw_sel (q := (MX5_isSafe.1, _)) (List.mem_append_right _ (List.mem_append_left _ (List.mem_of_getElem? (i := 4) rfl)))⟩
theorem mf_X5_leastOf : MfV MX5_leastOf 1 := ⟨⟨gw_in1 (tb_3 201 rfl) rfl, gw_in1 (tb_1 6 rfl) rfl, ⟨by decide +kernel, by decide +kernel⟩, by decide +kernel, by decide⟩, gw_in1 (tb_3 200 rfl) rfl, gw_sel (q := (MX5_leastOf.1, _)) (List.mem_append_right _ (List.mem_append_left _ (List.mem_of_getElem? (i := 0) rfl)))⟩
theorem mf_X5_lookAround : MfV MX5_lookAround 0 := ⟨⟨gw_in1 (tb_3 184 rfl) rfl, gw_in1 (tb_1 6 rfl) rfl, ⟨by decide +kernel, by decide +kernel⟩, by decide +kernel, by decide⟩, gw_in1 (tb_3 183 rfl) rfl, gw_sel (q := (MX5_lookAround.1, _)) (List.mem_append_left _ (List.mem_of_getElem? (i := 14) rfl))⟩
theorem mf_X5_makeOne : MfV MX5_makeOne 2 := ⟨⟨gw_in1 (tb_3 221 rfl) rfl, gw_in1 (tb_1 6 rfl) rfl, ⟨by decide +kernel, by decide +kernel⟩, by decide +kernel, by decide⟩, gw_in1 (tb_3 220 rfl) rfl, gw_sel (q := (MX5_makeOne.1, _)) (List.mem_append_right _ (List.mem_append_left _ (List.mem_of_getElem? (i := 5) rfl)))⟩
theorem mf_X5_nodeOf : MfV MX5_nodeOf 1 := ⟨⟨gw_in1 (tb_3 190 rfl) rfl, gw_in1 (tb_1 6 rfl) rfl, ⟨by decide +kernel, by decide +kernel⟩, by decide +kernel, by decide⟩, gw_in1 (tb_3 188 rfl) rfl, gw_in1 (tb_3 189 rfl) rfl⟩
theorem mf_X5_note : MfV MX5_note 2 := ⟨⟨gw_in1 (tb_3 209 rfl) rfl, gw_in1 (tb_1 6 rfl) rfl, ⟨by decide +kernel, by decide +kernel⟩, by decide +kernel, by decide⟩, gw_in1 (tb_3 208 rfl) rfl, gw_sel (q := (MX5_note.1, _)) (List.mem_append_right _ (List.mem_append_left _ (List.mem_of_getElem? (i := 2) rfl)))⟩
theorem mf_X5_play : MfV MX5_play 4 := ⟨⟨gw_in1 (tb_3 172 rfl) rfl, gw_in1 (tb_1 6 rfl) rfl, ⟨by decide +kernel, by decide +kernel⟩, by decide +kernel, by decide⟩, gw_in1 (tb_3 170 rfl) rfl, gw_in1 (tb_3 171 rfl) rfl⟩
theorem mf_X5_registersBeside : MfV MX5_registersBeside 1 := ⟨⟨gw_in1 (tb_4 2 rfl) rfl, gw_in1 (tb_1 6 rfl) rfl, ⟨by decide +kernel, by decide +kernel⟩, by decide +kernel, by decide⟩, gw_in1 (tb_4 1 rfl) rfl, gw_sel (q := (MX5_registersBeside.1, _)) (List.mem_append_right _ (List.mem_append_left _ (List.mem_of_getElem? (i := 10) rfl)))⟩
theorem mf_X5_settleMove : MfV MX5_settleMove 0 := ⟨⟨gw_in1 (tb_3 213 rfl) rfl, gw_in1 (tb_1 6 rfl) rfl, ⟨by decide +kernel, by decide +kernel⟩, by decide +kernel, by decide⟩, gw_in1 (tb_3 212 rfl) rfl, gw_sel (q := (MX5_settleMove.1, _)) (List.mem_append_right _ (List.mem_append_left _ (List.mem_of_getElem? (i := 3) rfl)))⟩
theorem mf_X5_shutMovesOf : MfV MX5_shutMovesOf 1 := ⟨⟨gw_in1 (tb_3 229 rfl) rfl, gw_in1 (tb_1 6 rfl) rfl, ⟨by decide +kernel, by decide +kernel⟩, by decide +kernel, by decide⟩, gw_in1 (tb_3 228 rfl) rfl, gw_sel (q := (MX5_shutMovesOf.1, _)) (List.mem_append_right _ (List.mem_append_left _ (List.mem_of_getElem? (i := 7) rfl)))⟩
theorem mf_X5_takeAway : MfV MX5_takeAway 1 := ⟨⟨gw_in1 (tb_3 205 rfl) rfl, gw_in1 (tb_1 6 rfl) rfl, ⟨by decide +kernel, by decide +kernel⟩, by decide +kernel, by decide⟩, gw_in1 (tb_3 204 rfl) rfl, gw_sel (q := (MX5_takeAway.1, _)) (List.mem_append_right _ (List.mem_append_left _ (List.mem_of_getElem? (i := 1) rfl)))⟩
theorem mf_X5_takeInHope : MfV MX5_takeInHope 0 := ⟨⟨gw_in1 (tb_3 233 rfl) rfl, gw_in1 (tb_1 6 rfl) rfl, ⟨by decide +kernel, by decide +kernel⟩, by decide +kernel, by decide⟩, gw_in1 (tb_3 232 rfl) rfl, gw_sel (q := (MX5_takeInHope.1, _)) (List.mem_append_right _ (List.mem_append_left _ (List.mem_of_getElem? (i := 8) rfl)))⟩
theorem mf_X5_takeLow : MfV MX5_takeLow 0 := ⟨⟨gw_in1 (tb_3 196 rfl) rfl, gw_in1 (tb_1 6 rfl) rfl, ⟨by decide +kernel, by decide +kernel⟩, by decide +kernel, by decide⟩, gw_in1 (tb_3 195 rfl) rfl, gw_sel (q := (MX5_takeLow.1, _)) (List.mem_append_left _ (List.mem_of_getElem? (i := 15) rfl))⟩
theorem mf_X6_answer : MfV MX6_answer 1 := ⟨⟨gw_in1 (tb_4 108 rfl) rfl, gw_in1 (tb_1 7 rfl) rfl, ⟨by decide +kernel, by decide +kernel⟩, by decide +kernel, by decide⟩, gw_in1 (tb_4 106 rfl) rfl, gw_in1 (tb_4 107 rfl) rfl⟩
theorem mf_X6_fetch : MfV MX6_fetch 2 := ⟨⟨gw_in1 (tb_4 100 rfl) rfl, gw_in1 (tb_1 7 rfl) rfl, ⟨by decide +kernel, by decide +kernel⟩, by decide +kernel, by decide⟩, gw_in1 (tb_4 99 rfl) rfl, gw_sel (q := (MX6_fetch.1, _)) (List.mem_append_right _ (List.mem_append_right _ (List.mem_append_left _ (List.mem_of_getElem? (i := 8) rfl))))⟩
theorem mf_X6_follow : MfV MX6_follow 2 := ⟨⟨gw_in1 (tb_4 75 rfl) rfl, gw_in1 (tb_1 7 rfl) rfl, ⟨by decide +kernel, by decide +kernel⟩, by decide +kernel, by decide⟩, gw_in1 (tb_4 73 rfl) rfl, gw_in1 (tb_4 74 rfl) rfl⟩
theorem mf_X6_init : MfI MX6_init 0 := ⟨⟨gw_in1 (tb_2 15 rfl) rfl, gw_in1 (tb_1 7 rfl) rfl, ⟨by decide +kernel, by decide +kernel⟩, by decide +kernel, by decide⟩, gw_in1 (tb_2 14 rfl) rfl, rfl, rfl⟩
theorem mf_X6_keep : MfV MX6_keep 2 := ⟨⟨gw_in1 (tb_4 104 rfl) rfl, gw_in1 (tb_1 7 rfl) rfl, ⟨by decide +kernel, by decide +kernel⟩, by decide +kernel, by decide⟩, gw_in1 (tb_4 103 rfl) rfl, gw_sel (q := (MX6_keep.1, _)) (List.mem_append_right _ (List.mem_append_right _ (List.mem_append_left _ (List.mem_of_getElem? (i := 9) rfl))))⟩
theorem mf_X6_obey : MfV MX6_obey 2 := ⟨⟨gw_in1 (tb_4 80 rfl) rfl, gw_in1 (tb_1 7 rfl) rfl, ⟨by decide +kernel, by decide +kernel⟩, by decide +kernel, by decide⟩, gw_in1 (tb_4 79 rfl) rfl, gw_sel (q := (MX6_obey.1, _)) (List.mem_append_right _ (List.mem_append_right _ (List.mem_append_left _ (List.mem_of_getElem? (i := 4) rfl))))⟩
theorem mf_X6_put : MfV MX6_put 2 := ⟨⟨gw_in1 (tb_4 85 rfl) rfl, gw_in1 (tb_1 7 rfl) rfl, ⟨by decide +kernel, by decide +kernel⟩, by decide +kernel, by decide⟩, gw_in1 (tb_4 84 rfl) rfl, gw_sel (q := (MX6_put.1, _)) (List.mem_append_right _ (List.mem_append_right _ (List.mem_append_left _ (List.mem_of_getElem? (i := 5) rfl))))⟩
theorem mf_X6_tell : MfV MX6_tell 1 := ⟨⟨gw_in1 (tb_4 94 rfl) rfl, gw_in1 (tb_1 7 rfl) rfl, ⟨by decide +kernel, by decide +kernel⟩, by decide +kernel, by decide⟩, gw_in1 (tb_4 93 rfl) rfl, gw_sel (q := (MX6_tell.1, _)) (List.mem_append_right _ (List.mem_append_right _ (List.mem_append_left _ (List.mem_of_getElem? (i := 7) rfl))))⟩
theorem mf_X6_valueOf : MfV MX6_valueOf 1 := ⟨⟨gw_in1 (tb_4 89 rfl) rfl, gw_in1 (tb_1 7 rfl) rfl, ⟨by decide +kernel, by decide +kernel⟩, by decide +kernel, by decide⟩, gw_in1 (tb_4 88 rfl) rfl, gw_sel (q := (MX6_valueOf.1, _)) (List.mem_append_right _ (List.mem_append_right _ (List.mem_append_left _ (List.mem_of_getElem? (i := 6) rfl))))⟩
theorem mf_X7_code : MfV MX7_code 2 := ⟨⟨gw_in1 (tb_4 63 rfl) rfl, gw_in1 (tb_1 1 rfl) rfl, ⟨by decide +kernel, by decide +kernel⟩, by decide +kernel, by decide⟩, gw_in1 (tb_4 61 rfl) rfl, gw_in1 (tb_4 62 rfl) rfl⟩
theorem mf_X7_colour : MfV MX7_colour 1 := ⟨⟨gw_in1 (tb_4 55 rfl) rfl, gw_in1 (tb_1 1 rfl) rfl, ⟨by decide +kernel, by decide +kernel⟩, by decide +kernel, by decide⟩, gw_in1 (tb_4 53 rfl) rfl, gw_in1 (tb_4 54 rfl) rfl⟩
theorem mf_X7_colours : MfV MX7_colours 1 := ⟨⟨gw_in1 (tb_2 116 rfl) rfl, gw_in1 (tb_1 1 rfl) rfl, ⟨by decide +kernel, by decide +kernel⟩, by decide +kernel, by decide⟩, gw_in1 (tb_2 114 rfl) rfl, gw_in1 (tb_2 115 rfl) rfl⟩
theorem mf_X7_edges : MfV MX7_edges 1 := ⟨⟨gw_in1 (tb_3 122 rfl) rfl, gw_in1 (tb_1 1 rfl) rfl, ⟨by decide +kernel, by decide +kernel⟩, by decide +kernel, by decide⟩, gw_in1 (tb_3 120 rfl) rfl, gw_in1 (tb_3 121 rfl) rfl⟩
theorem mf_X7_fault : MfV MX7_fault 0 := ⟨⟨gw_in1 (tb_2 140 rfl) rfl, gw_in1 (tb_1 1 rfl) rfl, ⟨by decide +kernel, by decide +kernel⟩, by decide +kernel, by decide⟩, gw_in1 (tb_2 138 rfl) rfl, gw_in1 (tb_2 139 rfl) rfl⟩
theorem mf_X7_findAllotment : MfV MX7_findAllotment 0 := ⟨⟨gw_in1 (tb_3 151 rfl) rfl, gw_in1 (tb_1 1 rfl) rfl, ⟨by decide +kernel, by decide +kernel⟩, by decide +kernel, by decide⟩, gw_in1 (tb_3 150 rfl) rfl, gw_sel (q := (MX7_findAllotment.1, _)) (List.mem_append_left _ (List.mem_of_getElem? (i := 11) rfl))⟩
theorem mf_X7_findNeeds : MfV MX7_findNeeds 0 := ⟨⟨gw_in1 (tb_3 68 rfl) rfl, gw_in1 (tb_1 1 rfl) rfl, ⟨by decide +kernel, by decide +kernel⟩, by decide +kernel, by decide⟩, gw_in1 (tb_3 67 rfl) rfl, gw_sel (q := (MX7_findNeeds.1, _)) (List.mem_append_left _ (List.mem_of_getElem? (i := 4) rfl))⟩
theorem mf_X7_forgetAllotment : MfV MX7_forgetAllotment 0 := ⟨⟨gw_in1 (tb_2 120 rfl) rfl, gw_in1 (tb_1 1 rfl) rfl, ⟨by decide +kernel, by decide +kernel⟩, by decide +kernel, by decide⟩, gw_in1 (tb_2 119 rfl) rfl, gw_sel (q := (MX7_forgetAllotment.1, _)) (List.mem_append_left _ (List.mem_of_getElem? (i := 0) rfl))⟩
theorem mf_X7_forgetProgram : MfV MX7_forgetProgram 0 := ⟨⟨gw_in1 (tb_3 52 rfl) rfl, gw_in1 (tb_1 1 rfl) rfl, ⟨by decide +kernel, by decide +kernel⟩, by decide +kernel, by decide⟩, gw_in1 (tb_3 51 rfl) rfl, gw_sel (q := (MX7_forgetProgram.1, _)) (List.mem_append_left _ (List.mem_of_getElem? (i := 3) rfl))⟩
theorem mf_X7_has : MfS MX7_has 2 := ⟨⟨gw_in1 (tb_3 103 rfl) rfl, gw_in1 (tb_1 1 rfl) rfl, ⟨by decide +kernel, by decide +kernel⟩, by decide +kernel, by decide⟩, gw_in1 (tb_3 102 rfl) rfl⟩
theorem mf_X7_image : MfV MX7_image 1 := ⟨⟨gw_in1 (tb_4 120 rfl) rfl, gw_in1 (tb_1 1 rfl) rfl, ⟨by decide +kernel, by decide +kernel⟩, by decide +kernel, by decide⟩, gw_in1 (tb_4 118 rfl) rfl, gw_in1 (tb_4 119 rfl) rfl⟩
theorem mf_X7_init : MfI MX7_init 0 := ⟨⟨gw_in1 (tb_1 23 rfl) rfl, gw_in1 (tb_1 1 rfl) rfl, ⟨by decide +kernel, by decide +kernel⟩, by decide +kernel, by decide⟩, gw_in1 (tb_1 22 rfl) rfl, rfl, rfl⟩
theorem mf_X7_instruction : MfV MX7_instruction 2 := ⟨⟨gw_in1 (tb_3 56 rfl) rfl, gw_in1 (tb_1 1 rfl) rfl, ⟨by decide +kernel, by decide +kernel⟩, by decide +kernel, by decide⟩, gw_in1 (tb_3 54 rfl) rfl, gw_in1 (tb_3 55 rfl) rfl⟩
theorem mf_X7_isToldValue : MfS MX7_isToldValue 1 := ⟨⟨gw_in1 (tb_3 129 rfl) rfl, gw_in1 (tb_1 1 rfl) rfl, ⟨by decide +kernel, by decide +kernel⟩, by decide +kernel, by decide⟩, gw_in1 (tb_3 128 rfl) rfl⟩
theorem mf_X7_live : MfV MX7_live 1 := ⟨⟨gw_in1 (tb_3 64 rfl) rfl, gw_in1 (tb_1 1 rfl) rfl, ⟨by decide +kernel, by decide +kernel⟩, by decide +kernel, by decide⟩, gw_in1 (tb_3 62 rfl) rfl, gw_in1 (tb_3 63 rfl) rfl⟩
theorem mf_X7_load : MfV MX7_load 0 := ⟨⟨gw_in1 (tb_3 26 rfl) rfl, gw_in1 (tb_1 1 rfl) rfl, ⟨by decide +kernel, by decide +kernel⟩, by decide +kernel, by decide⟩, gw_in1 (tb_3 24 rfl) rfl, gw_in1 (tb_3 25 rfl) rfl⟩
theorem mf_X7_out : MfV MX7_out 1 := ⟨⟨gw_in1 (tb_4 112 rfl) rfl, gw_in1 (tb_1 1 rfl) rfl, ⟨by decide +kernel, by decide +kernel⟩, by decide +kernel, by decide⟩, gw_in1 (tb_4 110 rfl) rfl, gw_in1 (tb_4 111 rfl) rfl⟩
theorem mf_X7_restore : MfV MX7_restore 1 := ⟨⟨gw_in1 (tb_4 125 rfl) rfl, gw_in1 (tb_1 1 rfl) rfl, ⟨by decide +kernel, by decide +kernel⟩, by decide +kernel, by decide⟩, gw_in1 (tb_4 123 rfl) rfl, gw_in1 (tb_4 124 rfl) rfl⟩
theorem mf_X7_rounds : MfV MX7_rounds 1 := ⟨⟨gw_in1 (tb_4 51 rfl) rfl, gw_in1 (tb_1 1 rfl) rfl, ⟨by decide +kernel, by decide +kernel⟩, by decide +kernel, by decide⟩, gw_in1 (tb_4 49 rfl) rfl, gw_in1 (tb_4 50 rfl) rfl⟩
theorem mf_X7_run : MfV MX7_run 1 := ⟨⟨gw_in1 (tb_4 67 rfl) rfl, gw_in1 (tb_1 1 rfl) rfl, ⟨by decide +kernel, by decide +kernel⟩, by decide +kernel, by decide⟩, gw_in1 (tb_4 65 rfl) rfl, gw_in1 (tb_4 66 rfl) rfl⟩
theorem mf_X7_runProgram : MfV MX7_runProgram 0 := ⟨⟨gw_in1 (tb_4 71 rfl) rfl, gw_in1 (tb_1 1 rfl) rfl, ⟨by decide +kernel, by decide +kernel⟩, by decide +kernel, by decide⟩, gw_in1 (tb_4 70 rfl) rfl, gw_sel (q := (MX7_runProgram.1, _)) (List.mem_append_right _ (List.mem_append_right _ (List.mem_append_left _ (List.mem_of_getElem? (i := 3) rfl))))⟩
theorem mf_X7_say : MfV MX7_say 1 := ⟨⟨gw_in1 (tb_2 128 rfl) rfl, gw_in1 (tb_1 1 rfl) rfl, ⟨by decide +kernel, by decide +kernel⟩, by decide +kernel, by decide⟩, gw_in1 (tb_2 126 rfl) rfl, gw_in1 (tb_2 127 rfl) rfl⟩
theorem mf_X7_shapeOf : MfS MX7_shapeOf 2 := ⟨⟨gw_in1 (tb_2 237 rfl) rfl, gw_in1 (tb_1 1 rfl) rfl, ⟨by decide +kernel, by decide +kernel⟩, by decide +kernel, by decide⟩, gw_in1 (tb_2 236 rfl) rfl⟩
theorem mf_X7_singleBits : MfS MX7_singleBits 2 := ⟨⟨gw_in1 (tb_3 142 rfl) rfl, gw_in1 (tb_1 1 rfl) rfl, ⟨by decide +kernel, by decide +kernel⟩, by decide +kernel, by decide⟩, gw_in1 (tb_3 141 rfl) rfl⟩
theorem mf_X7_spent : MfV MX7_spent 1 := ⟨⟨gw_in1 (tb_4 116 rfl) rfl, gw_in1 (tb_1 1 rfl) rfl, ⟨by decide +kernel, by decide +kernel⟩, by decide +kernel, by decide⟩, gw_in1 (tb_4 114 rfl) rfl, gw_in1 (tb_4 115 rfl) rfl⟩
theorem mf_X7_spilled : MfV MX7_spilled 1 := ⟨⟨gw_in1 (tb_4 46 rfl) rfl, gw_in1 (tb_1 1 rfl) rfl, ⟨by decide +kernel, by decide +kernel⟩, by decide +kernel, by decide⟩, gw_in1 (tb_4 44 rfl) rfl, gw_in1 (tb_4 45 rfl) rfl⟩
theorem mf_X7_step : MfV MX7_step 1 := ⟨⟨gw_in1 (tb_3 147 rfl) rfl, gw_in1 (tb_1 1 rfl) rfl, ⟨by decide +kernel, by decide +kernel⟩, by decide +kernel, by decide⟩, gw_in1 (tb_3 145 rfl) rfl, gw_in1 (tb_3 146 rfl) rfl⟩
theorem mf_X7_told : MfV MX7_told 1 := ⟨⟨gw_in1 (tb_4 129 rfl) rfl, gw_in1 (tb_1 1 rfl) rfl, ⟨by decide +kernel, by decide +kernel⟩, by decide +kernel, by decide⟩, gw_in1 (tb_4 127 rfl) rfl, gw_in1 (tb_4 128 rfl) rfl⟩
theorem mf_X7_way : MfV MX7_way 1 := ⟨⟨gw_in1 (tb_2 124 rfl) rfl, gw_in1 (tb_1 1 rfl) rfl, ⟨by decide +kernel, by decide +kernel⟩, by decide +kernel, by decide⟩, gw_in1 (tb_2 122 rfl) rfl, gw_in1 (tb_2 123 rfl) rfl⟩
theorem mf_X7_weight : MfV MX7_weight 2 := ⟨⟨gw_in1 (tb_3 126 rfl) rfl, gw_in1 (tb_1 1 rfl) rfl, ⟨by decide +kernel, by decide +kernel⟩, by decide +kernel, by decide⟩, gw_in1 (tb_3 124 rfl) rfl, gw_in1 (tb_3 125 rfl) rfl⟩
theorem mf_X7_weightBits : MfS MX7_weightBits 3 := ⟨⟨gw_in1 (tb_3 138 rfl) rfl, gw_in1 (tb_1 1 rfl) rfl, ⟨by decide +kernel, by decide +kernel⟩, by decide +kernel, by decide⟩, gw_in1 (tb_3 137 rfl) rfl⟩
theorem mf_X7_wipe : MfV MX7_wipe 0 := ⟨⟨gw_in1 (tb_2 136 rfl) rfl, gw_in1 (tb_1 1 rfl) rfl, ⟨by decide +kernel, by decide +kernel⟩, by decide +kernel, by decide⟩, gw_in1 (tb_2 134 rfl) rfl, gw_in1 (tb_2 135 rfl) rfl⟩
theorem mf_X8_asProgram : MfV MX8_asProgram 0 := ⟨⟨gw_in1 (tb_5 111 rfl) rfl, gw_in1 (tb_1 9 rfl) rfl, ⟨by decide +kernel, by decide +kernel⟩, by decide +kernel, by decide⟩, gw_in1 (tb_5 110 rfl) rfl, gw_sel (q := (MX8_asProgram.1, _)) (List.mem_append_right _ (List.mem_append_right _ (List.mem_append_left _ (List.mem_of_getElem? (i := 12) rfl))))⟩
theorem mf_X8_bits : MfS MX8_bits 1 := ⟨⟨gw_in1 (tb_5 161 rfl) rfl, gw_in1 (tb_1 9 rfl) rfl, ⟨by decide +kernel, by decide +kernel⟩, by decide +kernel, by decide⟩, gw_in1 (tb_5 160 rfl) rfl⟩
theorem mf_X8_code : MfV MX8_code 2 := ⟨⟨gw_in1 (tb_6 54 rfl) rfl, gw_in1 (tb_1 9 rfl) rfl, ⟨by decide +kernel, by decide +kernel⟩, by decide +kernel, by decide⟩, gw_in1 (tb_6 52 rfl) rfl, gw_in1 (tb_6 53 rfl) rfl⟩
theorem mf_X8_colour : MfV MX8_colour 1 := ⟨⟨gw_in1 (tb_6 50 rfl) rfl, gw_in1 (tb_1 9 rfl) rfl, ⟨by decide +kernel, by decide +kernel⟩, by decide +kernel, by decide⟩, gw_in1 (tb_6 48 rfl) rfl, gw_in1 (tb_6 49 rfl) rfl⟩
theorem mf_X8_colours : MfV MX8_colours 1 := ⟨⟨gw_in1 (tb_5 56 rfl) rfl, gw_in1 (tb_1 9 rfl) rfl, ⟨by decide +kernel, by decide +kernel⟩, by decide +kernel, by decide⟩, gw_in1 (tb_5 54 rfl) rfl, gw_in1 (tb_5 55 rfl) rfl⟩
theorem mf_X8_costOf : MfV MX8_costOf 1 := ⟨⟨gw_in1 (tb_5 154 rfl) rfl, gw_in1 (tb_1 9 rfl) rfl, ⟨by decide +kernel, by decide +kernel⟩, by decide +kernel, by decide⟩, gw_in1 (tb_5 153 rfl) rfl, gw_sel (q := (MX8_costOf.1, _)) (List.mem_append_right _ (List.mem_append_right _ (List.mem_append_right _ (List.mem_append_left _ (List.mem_of_getElem? (i := 3) rfl)))))⟩
theorem mf_X8_degree : MfV MX8_degree 1 := ⟨⟨gw_in1 (tb_5 202 rfl) rfl, gw_in1 (tb_1 9 rfl) rfl, ⟨by decide +kernel, by decide +kernel⟩, by decide +kernel, by decide⟩, gw_in1 (tb_5 201 rfl) rfl, gw_sel (q := (MX8_degree.1, _)) (List.mem_append_right _ (List.mem_append_right _ (List.mem_append_right _ (List.mem_append_left _ (List.mem_of_getElem? (i := 11) rfl)))))⟩
theorem mf_X8_edges : MfV MX8_edges 1 := ⟨⟨gw_in1 (tb_5 135 rfl) rfl, gw_in1 (tb_1 9 rfl) rfl, ⟨by decide +kernel, by decide +kernel⟩, by decide +kernel, by decide⟩, gw_in1 (tb_5 133 rfl) rfl, gw_in1 (tb_5 134 rfl) rfl⟩
theorem mf_X8_fault : MfV MX8_fault 0 := ⟨⟨gw_in1 (tb_5 75 rfl) rfl, gw_in1 (tb_1 9 rfl) rfl, ⟨by decide +kernel, by decide +kernel⟩, by decide +kernel, by decide⟩, gw_in1 (tb_5 73 rfl) rfl, gw_in1 (tb_5 74 rfl) rfl⟩
theorem mf_X8_faultOf : MfV MX8_faultOf 0 := ⟨⟨gw_in1 (tb_5 79 rfl) rfl, gw_in1 (tb_1 9 rfl) rfl, ⟨by decide +kernel, by decide +kernel⟩, by decide +kernel, by decide⟩, gw_in1 (tb_5 78 rfl) rfl, gw_sel (q := (MX8_faultOf.1, _)) (List.mem_append_right _ (List.mem_append_right _ (List.mem_append_left _ (List.mem_of_getElem? (i := 10) rfl))))⟩
theorem mf_X8_firstRound : MfV MX8_firstRound 0 := ⟨⟨gw_in1 (tb_5 180 rfl) rfl, gw_in1 (tb_1 9 rfl) rfl, ⟨by decide +kernel, by decide +kernel⟩, by decide +kernel, by decide⟩, gw_in1 (tb_5 179 rfl) rfl, gw_sel (q := (MX8_firstRound.1, _)) (List.mem_append_right _ (List.mem_append_right _ (List.mem_append_right _ (List.mem_append_left _ (List.mem_of_getElem? (i := 6) rfl)))))⟩
theorem mf_X8_giveUp : MfV MX8_giveUp 0 := ⟨⟨gw_in1 (tb_6 2 rfl) rfl, gw_in1 (tb_1 9 rfl) rfl, ⟨by decide +kernel, by decide +kernel⟩, by decide +kernel, by decide⟩, gw_in1 (tb_6 1 rfl) rfl, gw_sel (q := (MX8_giveUp.1, _)) (List.mem_append_right _ (List.mem_append_right _ (List.mem_append_right _ (List.mem_append_right _ (List.mem_of_getElem? (i := 5) rfl)))))⟩
theorem mf_X8_goRound : MfV MX8_goRound 0 := ⟨⟨gw_in1 (tb_5 184 rfl) rfl, gw_in1 (tb_1 9 rfl) rfl, ⟨by decide +kernel, by decide +kernel⟩, by decide +kernel, by decide⟩, gw_in1 (tb_5 183 rfl) rfl, gw_sel (q := (MX8_goRound.1, _)) (List.mem_append_right _ (List.mem_append_right _ (List.mem_append_right _ (List.mem_append_left _ (List.mem_of_getElem? (i := 7) rfl)))))⟩
theorem mf_X8_goRounds : MfV MX8_goRounds 0 := ⟨⟨gw_in1 (tb_6 26 rfl) rfl, gw_in1 (tb_1 9 rfl) rfl, ⟨by decide +kernel, by decide +kernel⟩, by decide +kernel, by decide⟩, gw_in1 (tb_6 25 rfl) rfl, gw_sel (q := (MX8_goRounds.1, _)) (List.mem_append_right _ (List.mem_append_right _ (List.mem_append_right _ (List.mem_append_right _ (List.mem_of_getElem? (i := 9) rfl)))))⟩
theorem mf_X8_has : MfS MX8_has 2 := ⟨⟨gw_in1 (tb_5 146 rfl) rfl, gw_in1 (tb_1 9 rfl) rfl, ⟨by decide +kernel, by decide +kernel⟩, by decide +kernel, by decide⟩, gw_in1 (tb_5 145 rfl) rfl⟩
theorem mf_X8_hope : MfV MX8_hope 0 := ⟨⟨gw_in1 (tb_6 10 rfl) rfl, gw_in1 (tb_1 9 rfl) rfl, ⟨by decide +kernel, by decide +kernel⟩, by decide +kernel, by decide⟩, gw_in1 (tb_6 9 rfl) rfl, gw_sel (q := (MX8_hope.1, _)) (List.mem_append_right _ (List.mem_append_right _ (List.mem_append_right _ (List.mem_append_right _ (List.mem_of_getElem? (i := 7) rfl)))))⟩
theorem mf_X8_image : MfV MX8_image 1 := ⟨⟨gw_in1 (tb_6 75 rfl) rfl, gw_in1 (tb_1 9 rfl) rfl, ⟨by decide +kernel, by decide +kernel⟩, by decide +kernel, by decide⟩, gw_in1 (tb_6 73 rfl) rfl, gw_in1 (tb_6 74 rfl) rfl⟩
theorem mf_X8_in : MfS MX8_in 3 := ⟨⟨gw_in1 (tb_5 59 rfl) rfl, gw_in1 (tb_1 9 rfl) rfl, ⟨by decide +kernel, by decide +kernel⟩, by decide +kernel, by decide⟩, gw_in1 (tb_5 58 rfl) rfl⟩
theorem mf_X8_init : MfI MX8_init 0 := ⟨⟨gw_in1 (tb_4 134 rfl) rfl, gw_in1 (tb_1 9 rfl) rfl, ⟨by decide +kernel, by decide +kernel⟩, by decide +kernel, by decide⟩, gw_in1 (tb_4 133 rfl) rfl, rfl, rfl⟩
theorem mf_X8_instruction : MfV MX8_instruction 2 := ⟨⟨gw_in1 (tb_5 103 rfl) rfl, gw_in1 (tb_1 9 rfl) rfl, ⟨by decide +kernel, by decide +kernel⟩, by decide +kernel, by decide⟩, gw_in1 (tb_5 101 rfl) rfl, gw_in1 (tb_5 102 rfl) rfl⟩
theorem mf_X8_isIn : MfV MX8_isIn 2 := ⟨⟨gw_in1 (tb_5 214 rfl) rfl, gw_in1 (tb_1 9 rfl) rfl, ⟨by decide +kernel, by decide +kernel⟩, by decide +kernel, by decide⟩, gw_in1 (tb_5 213 rfl) rfl, gw_sel (q := (MX8_isIn.1, _)) (List.mem_append_right _ (List.mem_append_right _ (List.mem_append_right _ (List.mem_append_left _ (List.mem_of_getElem? (i := 14) rfl)))))⟩
theorem mf_X8_isLooped : MfV MX8_isLooped 1 := ⟨⟨gw_in1 (tb_5 158 rfl) rfl, gw_in1 (tb_1 9 rfl) rfl, ⟨by decide +kernel, by decide +kernel⟩, by decide +kernel, by decide⟩, gw_in1 (tb_5 157 rfl) rfl, gw_sel (q := (MX8_isLooped.1, _)) (List.mem_append_right _ (List.mem_append_right _ (List.mem_append_right _ (List.mem_append_left _ (List.mem_of_getElem? (i := 4) rfl)))))⟩
theorem mf_X8_isLow : MfV MX8_isLow 1 := ⟨⟨gw_in1 (tb_5 198 rfl) rfl, gw_in1 (tb_1 9 rfl) rfl, ⟨by decide +kernel, by decide +kernel⟩, by decide +kernel, by decide⟩, gw_in1 (tb_5 197 rfl) rfl, gw_sel (q := (MX8_isLow.1, _)) (List.mem_append_right _ (List.mem_append_right _ (List.mem_append_right _ (List.mem_append_left _ (List.mem_of_getElem? (i := 10) rfl)))))⟩
theorem mf_X8_isMoved : MfV MX8_isMoved 1 := ⟨⟨gw_in1 (tb_5 210 rfl) rfl, gw_in1 (tb_1 9 rfl) rfl, ⟨by decide +kernel, by decide +kernel⟩, by decide +kernel, by decide⟩, gw_in1 (tb_5 209 rfl) rfl, gw_sel (q := (MX8_isMoved.1, _)) (List.mem_append_right _ (List.mem_append_right _ (List.mem_append_right _ (List.mem_append_left _ (List.mem_of_getElem? (i := 13) rfl)))))⟩
theorem mf_X8_isSafe : MfV MX8_isSafe 2 := ⟨⟨gw_in1 (tb_5 234 rfl) rfl, gw_in1 (tb_1 9 rfl) rfl, ⟨by decide +kernel, by decide +kernel⟩, by decide +kernel, by decide⟩, gw_in1 (tb_5 233 rfl) rfl, gw_sel (q := (MX8_isSafe.1, _)) (List.mem_append_right _ (List.mem_append_right _ (List.mem_append_right _ (List.mem_append_right _ (List.mem_of_getElem? (i := 3) rfl)))))⟩
theorem mf_X8_isSpilled : MfV MX8_isSpilled 1 := ⟨⟨gw_in1 (tb_6 38 rfl) rfl, gw_in1 (tb_1 9 rfl) rfl, ⟨by decide +kernel, by decide +kernel⟩, by decide +kernel, by decide⟩, gw_in1 (tb_6 37 rfl) rfl, gw_sel (q := (MX8_isSpilled.1, _)) (List.mem_append_right _ (List.mem_append_right _ (List.mem_append_right _ (List.mem_append_right _ (List.mem_of_getElem? (i := 12) rfl)))))⟩
theorem mf_X8_isWriting : MfS MX8_isWriting 1 := ⟨⟨gw_in1 (tb_5 126 rfl) rfl, gw_in1 (tb_1 9 rfl) rfl, ⟨by decide +kernel, by decide +kernel⟩, by decide +kernel, by decide⟩, gw_in1 (tb_5 125 rfl) rfl⟩
theorem mf_X8_join : MfV MX8_join 2 := ⟨⟨gw_in1 (tb_5 143 rfl) rfl, gw_in1 (tb_1 9 rfl) rfl, ⟨by decide +kernel, by decide +kernel⟩, by decide +kernel, by decide⟩, gw_in1 (tb_5 142 rfl) rfl, gw_sel (q := (MX8_join.1, _)) (List.mem_append_right _ (List.mem_append_right _ (List.mem_append_right _ (List.mem_append_left _ (List.mem_of_getElem? (i := 2) rfl)))))⟩
theorem mf_X8_kindOf : MfS MX8_kindOf 1 := ⟨⟨gw_in1 (tb_5 82 rfl) rfl, gw_in1 (tb_1 9 rfl) rfl, ⟨by decide +kernel, by decide +kernel⟩, by decide +kernel, by decide⟩, gw_in1 (tb_5 81 rfl) rfl⟩
theorem mf_X8_labelOf : MfV MX8_labelOf 1 := ⟨⟨gw_in1 (tb_5 119 rfl) rfl, gw_in1 (tb_1 9 rfl) rfl, ⟨by decide +kernel, by decide +kernel⟩, by decide +kernel, by decide⟩, gw_in1 (tb_5 118 rfl) rfl, gw_sel (q := (MX8_labelOf.1, _)) (List.mem_append_right _ (List.mem_append_right _ (List.mem_append_left _ (List.mem_of_getElem? (i := 14) rfl))))⟩
theorem mf_X8_layCode : MfV MX8_layCode 0 := ⟨⟨gw_in1 (tb_6 22 rfl) rfl, gw_in1 (tb_1 9 rfl) rfl, ⟨by decide +kernel, by decide +kernel⟩, by decide +kernel, by decide⟩, gw_in1 (tb_6 21 rfl) rfl, gw_sel (q := (MX8_layCode.1, _)) (List.mem_append_right _ (List.mem_append_right _ (List.mem_append_right _ (List.mem_append_right _ (List.mem_of_getElem? (i := 8) rfl)))))⟩
theorem mf_X8_layEdges : MfV MX8_layEdges 0 := ⟨⟨gw_in1 (tb_5 139 rfl) rfl, gw_in1 (tb_1 9 rfl) rfl, ⟨by decide +kernel, by decide +kernel⟩, by decide +kernel, by decide⟩, gw_in1 (tb_5 138 rfl) rfl, gw_sel (q := (MX8_layEdges.1, _)) (List.mem_append_right _ (List.mem_append_right _ (List.mem_append_right _ (List.mem_append_left _ (List.mem_of_getElem? (i := 1) rfl)))))⟩
theorem mf_X8_layLives : MfV MX8_layLives 0 := ⟨⟨gw_in1 (tb_5 115 rfl) rfl, gw_in1 (tb_1 9 rfl) rfl, ⟨by decide +kernel, by decide +kernel⟩, by decide +kernel, by decide⟩, gw_in1 (tb_5 114 rfl) rfl, gw_sel (q := (MX8_layLives.1, _)) (List.mem_append_right _ (List.mem_append_right _ (List.mem_append_left _ (List.mem_of_getElem? (i := 13) rfl))))⟩
theorem mf_X8_length : MfS MX8_length 1 := ⟨⟨gw_in1 (tb_5 85 rfl) rfl, gw_in1 (tb_1 9 rfl) rfl, ⟨by decide +kernel, by decide +kernel⟩, by decide +kernel, by decide⟩, gw_in1 (tb_5 84 rfl) rfl⟩
theorem mf_X8_live : MfV MX8_live 1 := ⟨⟨gw_in1 (tb_5 107 rfl) rfl, gw_in1 (tb_1 9 rfl) rfl, ⟨by decide +kernel, by decide +kernel⟩, by decide +kernel, by decide⟩, gw_in1 (tb_5 105 rfl) rfl, gw_in1 (tb_5 106 rfl) rfl⟩
theorem mf_X8_load : MfV MX8_load 0 := ⟨⟨gw_in1 (tb_5 95 rfl) rfl, gw_in1 (tb_1 9 rfl) rfl, ⟨by decide +kernel, by decide +kernel⟩, by decide +kernel, by decide⟩, gw_in1 (tb_5 93 rfl) rfl, gw_in1 (tb_5 94 rfl) rfl⟩
theorem mf_X8_merge : MfV MX8_merge 2 := ⟨⟨gw_in1 (tb_5 238 rfl) rfl, gw_in1 (tb_1 9 rfl) rfl, ⟨by decide +kernel, by decide +kernel⟩, by decide +kernel, by decide⟩, gw_in1 (tb_5 237 rfl) rfl, gw_sel (q := (MX8_merge.1, _)) (List.mem_append_right _ (List.mem_append_right _ (List.mem_append_right _ (List.mem_append_right _ (List.mem_of_getElem? (i := 4) rfl)))))⟩
theorem mf_X8_nameOf : MfS MX8_nameOf 1 := ⟨⟨gw_in1 (tb_5 91 rfl) rfl, gw_in1 (tb_1 9 rfl) rfl, ⟨by decide +kernel, by decide +kernel⟩, by decide +kernel, by decide⟩, gw_in1 (tb_5 90 rfl) rfl⟩
theorem mf_X8_names : MfV MX8_names 0 := ⟨⟨gw_in1 (tb_5 188 rfl) rfl, gw_in1 (tb_1 9 rfl) rfl, ⟨by decide +kernel, by decide +kernel⟩, by decide +kernel, by decide⟩, gw_in1 (tb_5 187 rfl) rfl, gw_sel (q := (MX8_names.1, _)) (List.mem_append_right _ (List.mem_append_right _ (List.mem_append_right _ (List.mem_append_left _ (List.mem_of_getElem? (i := 8) rfl)))))⟩
theorem mf_X8_near : MfV MX8_near 1 := ⟨⟨gw_in1 (tb_5 206 rfl) rfl, gw_in1 (tb_1 9 rfl) rfl, ⟨by decide +kernel, by decide +kernel⟩, by decide +kernel, by decide⟩, gw_in1 (tb_5 205 rfl) rfl, gw_sel (q := (MX8_near.1, _)) (List.mem_append_right _ (List.mem_append_right _ (List.mem_append_right _ (List.mem_append_left _ (List.mem_of_getElem? (i := 12) rfl)))))⟩
theorem mf_X8_note : MfV MX8_note 1 := ⟨⟨gw_in1 (tb_5 222 rfl) rfl, gw_in1 (tb_1 9 rfl) rfl, ⟨by decide +kernel, by decide +kernel⟩, by decide +kernel, by decide⟩, gw_in1 (tb_5 221 rfl) rfl, gw_sel (q := (MX8_note.1, _)) (List.mem_append_right _ (List.mem_append_right _ (List.mem_append_right _ (List.mem_append_right _ (List.mem_of_getElem? (i := 0) rfl)))))⟩
theorem mf_X8_numberAt : MfV MX8_numberAt 3 := ⟨⟨gw_in1 (tb_5 99 rfl) rfl, gw_in1 (tb_1 9 rfl) rfl, ⟨by decide +kernel, by decide +kernel⟩, by decide +kernel, by decide⟩, gw_in1 (tb_5 98 rfl) rfl, gw_sel (q := (MX8_numberAt.1, _)) (List.mem_append_right _ (List.mem_append_right _ (List.mem_append_left _ (List.mem_of_getElem? (i := 11) rfl))))⟩
theorem mf_X8_out : MfV MX8_out 1 := ⟨⟨gw_in1 (tb_6 67 rfl) rfl, gw_in1 (tb_1 9 rfl) rfl, ⟨by decide +kernel, by decide +kernel⟩, by decide +kernel, by decide⟩, gw_in1 (tb_6 65 rfl) rfl, gw_in1 (tb_6 66 rfl) rfl⟩
theorem mf_X8_put : MfV MX8_put 4 := ⟨⟨gw_in1 (tb_6 42 rfl) rfl, gw_in1 (tb_1 9 rfl) rfl, ⟨by decide +kernel, by decide +kernel⟩, by decide +kernel, by decide⟩, gw_in1 (tb_6 41 rfl) rfl, gw_sel (q := (MX8_put.1, _)) (List.mem_append_right _ (List.mem_append_right _ (List.mem_append_right _ (List.mem_append_right _ (List.mem_of_getElem? (i := 13) rfl)))))⟩
theorem mf_X8_read : MfV MX8_read 1 := ⟨⟨gw_in1 (tb_6 34 rfl) rfl, gw_in1 (tb_1 9 rfl) rfl, ⟨by decide +kernel, by decide +kernel⟩, by decide +kernel, by decide⟩, gw_in1 (tb_6 33 rfl) rfl, gw_sel (q := (MX8_read.1, _)) (List.mem_append_right _ (List.mem_append_right _ (List.mem_append_right _ (List.mem_append_right _ (List.mem_of_getElem? (i := 11) rfl)))))⟩
theorem mf_X8_reads : MfV MX8_reads 1 := ⟨⟨gw_in1 (tb_5 131 rfl) rfl, gw_in1 (tb_1 9 rfl) rfl, ⟨by decide +kernel, by decide +kernel⟩, by decide +kernel, by decide⟩, gw_in1 (tb_5 130 rfl) rfl, gw_sel (q := (MX8_reads.1, _)) (List.mem_append_right _ (List.mem_append_right _ (List.mem_append_right _ (List.mem_append_left _ (List.mem_of_getElem? (i := 0) rfl)))))⟩
theorem mf_X8_register : MfV MX8_register 1 := ⟨⟨gw_in1 (tb_6 46 rfl) rfl, gw_in1 (tb_1 9 rfl) rfl, ⟨by decide +kernel, by decide +kernel⟩, by decide +kernel, by decide⟩, gw_in1 (tb_6 45 rfl) rfl, gw_sel (q := (MX8_register.1, _)) (List.mem_append_right _ (List.mem_append_right _ (List.mem_append_right _ (List.mem_append_right _ (List.mem_of_getElem? (i := 14) rfl)))))⟩
theorem mf_X8_restore : MfV MX8_restore 1 := ⟨⟨gw_in1 (tb_6 79 rfl) rfl, gw_in1 (tb_1 9 rfl) rfl, ⟨by decide +kernel, by decide +kernel⟩, by decide +kernel, by decide⟩, gw_in1 (tb_6 77 rfl) rfl, gw_in1 (tb_6 78 rfl) rfl⟩
theorem mf_X8_rewrite : MfV MX8_rewrite 0 := ⟨⟨gw_in1 (tb_6 30 rfl) rfl, gw_in1 (tb_1 9 rfl) rfl, ⟨by decide +kernel, by decide +kernel⟩, by decide +kernel, by decide⟩, gw_in1 (tb_6 29 rfl) rfl, gw_sel (q := (MX8_rewrite.1, _)) (List.mem_append_right _ (List.mem_append_right _ (List.mem_append_right _ (List.mem_append_right _ (List.mem_of_getElem? (i := 10) rfl)))))⟩
theorem mf_X8_rounds : MfV MX8_rounds 1 := ⟨⟨gw_in1 (tb_6 18 rfl) rfl, gw_in1 (tb_1 9 rfl) rfl, ⟨by decide +kernel, by decide +kernel⟩, by decide +kernel, by decide⟩, gw_in1 (tb_6 16 rfl) rfl, gw_in1 (tb_6 17 rfl) rfl⟩
theorem mf_X8_run : MfV MX8_run 1 := ⟨⟨gw_in1 (tb_6 58 rfl) rfl, gw_in1 (tb_1 9 rfl) rfl, ⟨by decide +kernel, by decide +kernel⟩, by decide +kernel, by decide⟩, gw_in1 (tb_6 56 rfl) rfl, gw_in1 (tb_6 57 rfl) rfl⟩
theorem mf_X8_runNow : MfV MX8_runNow 1 := ⟨⟨gw_in1 (tb_6 62 rfl) rfl, gw_in1 (tb_1 9 rfl) rfl, ⟨by decide +kernel, by decide +kernel⟩, by decide +kernel, by decide⟩, gw_in1 (tb_6 61 rfl) rfl, gw_sel (q := (MX8_runNow.1, _)) (List.mem_append_right _ (List.mem_append_right _ (List.mem_append_right _ (List.mem_append_right _ (List.mem_of_getElem? (i := 15) rfl)))))⟩
theorem mf_X8_say : MfV MX8_say 1 := ⟨⟨gw_in1 (tb_5 67 rfl) rfl, gw_in1 (tb_1 9 rfl) rfl, ⟨by decide +kernel, by decide +kernel⟩, by decide +kernel, by decide⟩, gw_in1 (tb_5 65 rfl) rfl, gw_in1 (tb_5 66 rfl) rfl⟩
theorem mf_X8_shutAll : MfV MX8_shutAll 1 := ⟨⟨gw_in1 (tb_6 6 rfl) rfl, gw_in1 (tb_1 9 rfl) rfl, ⟨by decide +kernel, by decide +kernel⟩, by decide +kernel, by decide⟩, gw_in1 (tb_6 5 rfl) rfl, gw_sel (q := (MX8_shutAll.1, _)) (List.mem_append_right _ (List.mem_append_right _ (List.mem_append_right _ (List.mem_append_right _ (List.mem_of_getElem? (i := 6) rfl)))))⟩
theorem mf_X8_single : MfS MX8_single 2 := ⟨⟨gw_in1 (tb_5 168 rfl) rfl, gw_in1 (tb_1 9 rfl) rfl, ⟨by decide +kernel, by decide +kernel⟩, by decide +kernel, by decide⟩, gw_in1 (tb_5 167 rfl) rfl⟩
theorem mf_X8_spent : MfV MX8_spent 1 := ⟨⟨gw_in1 (tb_6 71 rfl) rfl, gw_in1 (tb_1 9 rfl) rfl, ⟨by decide +kernel, by decide +kernel⟩, by decide +kernel, by decide⟩, gw_in1 (tb_6 69 rfl) rfl, gw_in1 (tb_6 70 rfl) rfl⟩
theorem mf_X8_spilled : MfV MX8_spilled 1 := ⟨⟨gw_in1 (tb_6 14 rfl) rfl, gw_in1 (tb_1 9 rfl) rfl, ⟨by decide +kernel, by decide +kernel⟩, by decide +kernel, by decide⟩, gw_in1 (tb_6 12 rfl) rfl, gw_in1 (tb_6 13 rfl) rfl⟩
theorem mf_X8_standsFor : MfV MX8_standsFor 1 := ⟨⟨gw_in1 (tb_5 218 rfl) rfl, gw_in1 (tb_1 9 rfl) rfl, ⟨by decide +kernel, by decide +kernel⟩, by decide +kernel, by decide⟩, gw_in1 (tb_5 217 rfl) rfl, gw_sel (q := (MX8_standsFor.1, _)) (List.mem_append_right _ (List.mem_append_right _ (List.mem_append_right _ (List.mem_append_left _ (List.mem_of_getElem? (i := 15) rfl)))))⟩
theorem mf_X8_step : MfV MX8_step 1 := ⟨⟨gw_in1 (tb_5 176 rfl) rfl, gw_in1 (tb_1 9 rfl) rfl, ⟨by decide +kernel, by decide +kernel⟩, by decide +kernel, by decide⟩, gw_in1 (tb_5 174 rfl) rfl, gw_in1 (tb_5 175 rfl) rfl⟩
theorem mf_X8_take : MfV MX8_take 1 := ⟨⟨gw_in1 (tb_5 226 rfl) rfl, gw_in1 (tb_1 9 rfl) rfl, ⟨by decide +kernel, by decide +kernel⟩, by decide +kernel, by decide⟩, gw_in1 (tb_5 225 rfl) rfl, gw_sel (q := (MX8_take.1, _)) (List.mem_append_right _ (List.mem_append_right _ (List.mem_append_right _ (List.mem_append_right _ (List.mem_of_getElem? (i := 1) rfl)))))⟩
theorem mf_X8_takeLow : MfV MX8_takeLow 0 := ⟨⟨gw_in1 (tb_5 194 rfl) rfl, gw_in1 (tb_1 9 rfl) rfl, ⟨by decide +kernel, by decide +kernel⟩, by decide +kernel, by decide⟩, gw_in1 (tb_5 193 rfl) rfl, gw_sel (q := (MX8_takeLow.1, _)) (List.mem_append_right _ (List.mem_append_right _ (List.mem_append_right _ (List.mem_append_left _ (List.mem_of_getElem? (i := 9) rfl)))))⟩
theorem mf_X8_told : MfV MX8_told 1 := ⟨⟨gw_in1 (tb_6 83 rfl) rfl, gw_in1 (tb_1 9 rfl) rfl, ⟨by decide +kernel, by decide +kernel⟩, by decide +kernel, by decide⟩, gw_in1 (tb_6 81 rfl) rfl, gw_in1 (tb_6 82 rfl) rfl⟩
theorem mf_X8_turnMove : MfV MX8_turnMove 0 := ⟨⟨gw_in1 (tb_5 230 rfl) rfl, gw_in1 (tb_1 9 rfl) rfl, ⟨by decide +kernel, by decide +kernel⟩, by decide +kernel, by decide⟩, gw_in1 (tb_5 229 rfl) rfl, gw_sel (q := (MX8_turnMove.1, _)) (List.mem_append_right _ (List.mem_append_right _ (List.mem_append_right _ (List.mem_append_right _ (List.mem_of_getElem? (i := 2) rfl)))))⟩
theorem mf_X8_wantsFigure : MfS MX8_wantsFigure 2 := ⟨⟨gw_in1 (tb_5 88 rfl) rfl, gw_in1 (tb_1 9 rfl) rfl, ⟨by decide +kernel, by decide +kernel⟩, by decide +kernel, by decide⟩, gw_in1 (tb_5 87 rfl) rfl⟩
theorem mf_X8_way : MfV MX8_way 1 := ⟨⟨gw_in1 (tb_5 63 rfl) rfl, gw_in1 (tb_1 9 rfl) rfl, ⟨by decide +kernel, by decide +kernel⟩, by decide +kernel, by decide⟩, gw_in1 (tb_5 61 rfl) rfl, gw_in1 (tb_5 62 rfl) rfl⟩
theorem mf_X8_weigh : MfV MX8_weigh 2 := ⟨⟨gw_in1 (tb_5 165 rfl) rfl, gw_in1 (tb_1 9 rfl) rfl, ⟨by decide +kernel, by decide +kernel⟩, by decide +kernel, by decide⟩, gw_in1 (tb_5 164 rfl) rfl, gw_sel (q := (MX8_weigh.1, _)) (List.mem_append_right _ (List.mem_append_right _ (List.mem_append_right _ (List.mem_append_left _ (List.mem_of_getElem? (i := 5) rfl)))))⟩
theorem mf_X8_weight : MfV MX8_weight 2 := ⟨⟨gw_in1 (tb_5 150 rfl) rfl, gw_in1 (tb_1 9 rfl) rfl, ⟨by decide +kernel, by decide +kernel⟩, by decide +kernel, by decide⟩, gw_in1 (tb_5 148 rfl) rfl, gw_in1 (tb_5 149 rfl) rfl⟩
theorem mf_X8_wipe : MfV MX8_wipe 0 := ⟨⟨gw_in1 (tb_5 71 rfl) rfl, gw_in1 (tb_1 9 rfl) rfl, ⟨by decide +kernel, by decide +kernel⟩, by decide +kernel, by decide⟩, gw_in1 (tb_5 69 rfl) rfl, gw_in1 (tb_5 70 rfl) rfl⟩
theorem mf_X8_writes : MfV MX8_writes 1 := ⟨⟨gw_in1 (tb_5 123 rfl) rfl, gw_in1 (tb_1 9 rfl) rfl, ⟨by decide +kernel, by decide +kernel⟩, by decide +kernel, by decide⟩, gw_in1 (tb_5 122 rfl) rfl, gw_sel (q := (MX8_writes.1, _)) (List.mem_append_right _ (List.mem_append_right _ (List.mem_append_left _ (List.mem_of_getElem? (i := 15) rfl))))⟩
theorem pf_J0_charAt_5068e : plainFor MJ0_charAt_5068e.1 = true := by decide +kernel
theorem pf_J0_checkBoundsBeginEnd_23922 : plainFor MJ0_checkBoundsBeginEnd_23922.1 = true := by decide +kernel
theorem pf_J0_checkIndex_df160 : plainFor MJ0_checkIndex_df160.1 = true := by decide +kernel
theorem pf_J0_coder_7d493 : plainFor MJ0_coder_7d493.1 = true := by decide +kernel
theorem pf_J0_indexOf_0f7a4 : plainFor MJ0_indexOf_0f7a4.1 = true := by decide +kernel
theorem pf_J0_indexOf_7cf53 : plainFor MJ0_indexOf_7cf53.1 = true := by decide +kernel
theorem pf_J0_isLatin1_aae02 : plainFor MJ0_isLatin1_aae02.1 = true := by decide +kernel
theorem pf_J0_length_8abf5 : plainFor MJ0_length_8abf5.1 = true := by decide +kernel
theorem pf_J11_highSurrogate_5068e : plainFor MJ11_highSurrogate_5068e.1 = true := by decide +kernel
theorem pf_J11_isValidCodePoint_9a6ad : plainFor MJ11_isValidCodePoint_9a6ad.1 = true := by decide +kernel
theorem pf_J11_lowSurrogate_5068e : plainFor MJ11_lowSurrogate_5068e.1 = true := by decide +kernel
theorem pf_J13_bitCount_95d88 : plainFor MJ13_bitCount_95d88.1 = true := by decide +kernel
theorem pf_J1_canEncode_9a6ad : plainFor MJ1_canEncode_9a6ad.1 = true := by decide +kernel
theorem pf_J1_charAt_3b067 : plainFor MJ1_charAt_3b067.1 = true := by decide +kernel
theorem pf_J1_indexOfChar_4cfef : plainFor MJ1_indexOfChar_4cfef.1 = true := by decide +kernel
theorem pf_J1_indexOf_4cfef : plainFor MJ1_indexOf_4cfef.1 = true := by decide +kernel
theorem pf_J2_charAt_3b067 : plainFor MJ2_charAt_3b067.1 = true := by decide +kernel
theorem pf_J2_checkBoundsBeginEnd_d044e : plainFor MJ2_checkBoundsBeginEnd_d044e.1 = true := by decide +kernel
theorem pf_J2_checkIndex_2214a : plainFor MJ2_checkIndex_2214a.1 = true := by decide +kernel
theorem pf_J2_getChar_3b067 : plainFor MJ2_getChar_3b067.1 = true := by decide +kernel
theorem pf_J2_indexOfCharUnsafe_4cfef : plainFor MJ2_indexOfCharUnsafe_4cfef.1 = true := by decide +kernel
theorem pf_J2_indexOfChar_4cfef : plainFor MJ2_indexOfChar_4cfef.1 = true := by decide +kernel
theorem pf_J2_indexOfSupplementary_4cfef : plainFor MJ2_indexOfSupplementary_4cfef.1 = true := by decide +kernel
theorem pf_J2_indexOf_4cfef : plainFor MJ2_indexOf_4cfef.1 = true := by decide +kernel
theorem pf_J2_length_9d52b : plainFor MJ2_length_9d52b.1 = true := by decide +kernel
theorem pf_J3_checkFromToIndex_8c36e : plainFor MJ3_checkFromToIndex_8c36e.1 = true := by decide +kernel
theorem pf_J3_checkIndex_8e157 : plainFor MJ3_checkIndex_8e157.1 = true := by decide +kernel
theorem pf_J7_fill_53178 : plainFor MJ7_fill_53178.1 = true := by decide +kernel
theorem pf_J7_fill_d0a16 : plainFor MJ7_fill_d0a16.1 = true := by decide +kernel
theorem pf_J9_max_7cf53 : plainFor MJ9_max_7cf53.1 = true := by decide +kernel
theorem pf_J9_min_7cf53 : plainFor MJ9_min_7cf53.1 = true := by decide +kernel
theorem pf_X0_allot : plainFor MX0_allot.1 = true := by decide +kernel
theorem pf_X0_begin : plainFor MX0_begin.1 = true := by decide +kernel
theorem pf_X0_finish : plainFor MX0_finish.1 = true := by decide +kernel
theorem pf_X0_giveSlots : plainFor MX0_giveSlots.1 = true := by decide +kernel
theorem pf_X0_init : plainFor MX0_init.1 = true := by decide +kernel
theorem pf_X0_keepFirstRound : plainFor MX0_keepFirstRound.1 = true := by decide +kernel
theorem pf_X0_makeName : plainFor MX0_makeName.1 = true := by decide +kernel
theorem pf_X0_placeOf : plainFor MX0_placeOf.1 = true := by decide +kernel
theorem pf_X0_registerOf : plainFor MX0_registerOf.1 = true := by decide +kernel
theorem pf_X0_rewrite : plainFor MX0_rewrite.1 = true := by decide +kernel
theorem pf_X0_slotOfName : plainFor MX0_slotOfName.1 = true := by decide +kernel
theorem pf_X0_spill : plainFor MX0_spill.1 = true := by decide +kernel
theorem pf_X1_init : plainFor MX1_init.1 = true := by decide +kernel
theorem pf_X2_add : plainFor MX2_add.1 = true := by decide +kernel
theorem pf_X2_clear : plainFor MX2_clear.1 = true := by decide +kernel
theorem pf_X2_copyFrom : plainFor MX2_copyFrom.1 = true := by decide +kernel
theorem pf_X2_init : plainFor MX2_init.1 = true := by decide +kernel
theorem pf_X2_nameAt : plainFor MX2_nameAt.1 = true := by decide +kernel
theorem pf_X2_noteName : plainFor MX2_noteName.1 = true := by decide +kernel
theorem pf_X2_partAt : plainFor MX2_partAt.1 = true := by decide +kernel
theorem pf_X2_targetOf : plainFor MX2_targetOf.1 = true := by decide +kernel
theorem pf_X3_find : plainFor MX3_find.1 = true := by decide +kernel
theorem pf_X3_findCosts : plainFor MX3_findCosts.1 = true := by decide +kernel
theorem pf_X3_findEdges : plainFor MX3_findEdges.1 = true := by decide +kernel
theorem pf_X3_findLive : plainFor MX3_findLive.1 = true := by decide +kernel
theorem pf_X3_findRates : plainFor MX3_findRates.1 = true := by decide +kernel
theorem pf_X3_init : plainFor MX3_init.1 = true := by decide +kernel
theorem pf_X3_passFromBehind : plainFor MX3_passFromBehind.1 = true := by decide +kernel
theorem pf_X3_putBeside : plainFor MX3_putBeside.1 = true := by decide +kernel
theorem pf_X4_add : plainFor MX4_add.1 = true := by decide +kernel
theorem pf_X4_faultPlace : plainFor MX4_faultPlace.1 = true := by decide +kernel
theorem pf_X4_init : plainFor MX4_init.1 = true := by decide +kernel
theorem pf_X4_kindOf : plainFor MX4_kindOf.1 = true := by decide +kernel
theorem pf_X4_meaningOf : plainFor MX4_meaningOf.1 = true := by decide +kernel
theorem pf_X4_partOf : plainFor MX4_partOf.1 = true := by decide +kernel
theorem pf_X4_tellTo : plainFor MX4_tellTo.1 = true := by decide +kernel
theorem pf_X5_begin : plainFor MX5_begin.1 = true := by decide +kernel
theorem pf_X5_bringBack : plainFor MX5_bringBack.1 = true := by decide +kernel
theorem pf_X5_giveUpMoves : plainFor MX5_giveUpMoves.1 = true := by decide +kernel
theorem pf_X5_init : plainFor MX5_init.1 = true := by decide +kernel
theorem pf_X5_isSafe : plainFor MX5_isSafe.1 = true := by decide +kernel
theorem pf_X5_leastOf : plainFor MX5_leastOf.1 = true := by decide +kernel
theorem pf_X5_lookAround : plainFor MX5_lookAround.1 = true := by decide +kernel
theorem pf_X5_makeOne : plainFor MX5_makeOne.1 = true := by decide +kernel
theorem pf_X5_nodeOf : plainFor MX5_nodeOf.1 = true := by decide +kernel
theorem pf_X5_note : plainFor MX5_note.1 = true := by decide +kernel
theorem pf_X5_play : plainFor MX5_play.1 = true := by decide +kernel
theorem pf_X5_registersBeside : plainFor MX5_registersBeside.1 = true := by decide +kernel
theorem pf_X5_settleMove : plainFor MX5_settleMove.1 = true := by decide +kernel
theorem pf_X5_shutMovesOf : plainFor MX5_shutMovesOf.1 = true := by decide +kernel
theorem pf_X5_takeAway : plainFor MX5_takeAway.1 = true := by decide +kernel
theorem pf_X5_takeInHope : plainFor MX5_takeInHope.1 = true := by decide +kernel
theorem pf_X5_takeLow : plainFor MX5_takeLow.1 = true := by decide +kernel
theorem pf_X6_answer : plainFor MX6_answer.1 = true := by decide +kernel
theorem pf_X6_fetch : plainFor MX6_fetch.1 = true := by decide +kernel
theorem pf_X6_follow : plainFor MX6_follow.1 = true := by decide +kernel
theorem pf_X6_init : plainFor MX6_init.1 = true := by decide +kernel
theorem pf_X6_keep : plainFor MX6_keep.1 = true := by decide +kernel
theorem pf_X6_obey : plainFor MX6_obey.1 = true := by decide +kernel
theorem pf_X6_put : plainFor MX6_put.1 = true := by decide +kernel
theorem pf_X6_tell : plainFor MX6_tell.1 = true := by decide +kernel
theorem pf_X6_valueOf : plainFor MX6_valueOf.1 = true := by decide +kernel
theorem pf_X7_code : plainFor MX7_code.1 = true := by decide +kernel
theorem pf_X7_colour : plainFor MX7_colour.1 = true := by decide +kernel
theorem pf_X7_colours : plainFor MX7_colours.1 = true := by decide +kernel
theorem pf_X7_edges : plainFor MX7_edges.1 = true := by decide +kernel
theorem pf_X7_fault : plainFor MX7_fault.1 = true := by decide +kernel
theorem pf_X7_findAllotment : plainFor MX7_findAllotment.1 = true := by decide +kernel
theorem pf_X7_findNeeds : plainFor MX7_findNeeds.1 = true := by decide +kernel
theorem pf_X7_forgetAllotment : plainFor MX7_forgetAllotment.1 = true := by decide +kernel
theorem pf_X7_forgetProgram : plainFor MX7_forgetProgram.1 = true := by decide +kernel
theorem pf_X7_has : plainFor MX7_has.1 = true := by decide +kernel
theorem pf_X7_image : plainFor MX7_image.1 = true := by decide +kernel
theorem pf_X7_init : plainFor MX7_init.1 = true := by decide +kernel
theorem pf_X7_instruction : plainFor MX7_instruction.1 = true := by decide +kernel
theorem pf_X7_isToldValue : plainFor MX7_isToldValue.1 = true := by decide +kernel
theorem pf_X7_live : plainFor MX7_live.1 = true := by decide +kernel
theorem pf_X7_load : plainFor MX7_load.1 = true := by decide +kernel
theorem pf_X7_out : plainFor MX7_out.1 = true := by decide +kernel
theorem pf_X7_restore : plainFor MX7_restore.1 = true := by decide +kernel
theorem pf_X7_rounds : plainFor MX7_rounds.1 = true := by decide +kernel
theorem pf_X7_run : plainFor MX7_run.1 = true := by decide +kernel
theorem pf_X7_runProgram : plainFor MX7_runProgram.1 = true := by decide +kernel
theorem pf_X7_say : plainFor MX7_say.1 = true := by decide +kernel
theorem pf_X7_shapeOf : plainFor MX7_shapeOf.1 = true := by decide +kernel
theorem pf_X7_singleBits : plainFor MX7_singleBits.1 = true := by decide +kernel
theorem pf_X7_spent : plainFor MX7_spent.1 = true := by decide +kernel
theorem pf_X7_spilled : plainFor MX7_spilled.1 = true := by decide +kernel
theorem pf_X7_step : plainFor MX7_step.1 = true := by decide +kernel
theorem pf_X7_told : plainFor MX7_told.1 = true := by decide +kernel
theorem pf_X7_way : plainFor MX7_way.1 = true := by decide +kernel
theorem pf_X7_weight : plainFor MX7_weight.1 = true := by decide +kernel
theorem pf_X7_weightBits : plainFor MX7_weightBits.1 = true := by decide +kernel
theorem pf_X7_wipe : plainFor MX7_wipe.1 = true := by decide +kernel
theorem pf_X8_asProgram : plainFor MX8_asProgram.1 = true := by decide +kernel
theorem pf_X8_bits : plainFor MX8_bits.1 = true := by decide +kernel
theorem pf_X8_code : plainFor MX8_code.1 = true := by decide +kernel
theorem pf_X8_colour : plainFor MX8_colour.1 = true := by decide +kernel
theorem pf_X8_colours : plainFor MX8_colours.1 = true := by decide +kernel
theorem pf_X8_costOf : plainFor MX8_costOf.1 = true := by decide +kernel
theorem pf_X8_degree : plainFor MX8_degree.1 = true := by decide +kernel
theorem pf_X8_edges : plainFor MX8_edges.1 = true := by decide +kernel
theorem pf_X8_fault : plainFor MX8_fault.1 = true := by decide +kernel
theorem pf_X8_faultOf : plainFor MX8_faultOf.1 = true := by decide +kernel
theorem pf_X8_firstRound : plainFor MX8_firstRound.1 = true := by decide +kernel
theorem pf_X8_giveUp : plainFor MX8_giveUp.1 = true := by decide +kernel
theorem pf_X8_goRound : plainFor MX8_goRound.1 = true := by decide +kernel
theorem pf_X8_goRounds : plainFor MX8_goRounds.1 = true := by decide +kernel
theorem pf_X8_has : plainFor MX8_has.1 = true := by decide +kernel
theorem pf_X8_hope : plainFor MX8_hope.1 = true := by decide +kernel
theorem pf_X8_image : plainFor MX8_image.1 = true := by decide +kernel
theorem pf_X8_in : plainFor MX8_in.1 = true := by decide +kernel
theorem pf_X8_init : plainFor MX8_init.1 = true := by decide +kernel
theorem pf_X8_instruction : plainFor MX8_instruction.1 = true := by decide +kernel
theorem pf_X8_isIn : plainFor MX8_isIn.1 = true := by decide +kernel
theorem pf_X8_isLooped : plainFor MX8_isLooped.1 = true := by decide +kernel
theorem pf_X8_isLow : plainFor MX8_isLow.1 = true := by decide +kernel
theorem pf_X8_isMoved : plainFor MX8_isMoved.1 = true := by decide +kernel
theorem pf_X8_isSafe : plainFor MX8_isSafe.1 = true := by decide +kernel
theorem pf_X8_isSpilled : plainFor MX8_isSpilled.1 = true := by decide +kernel
theorem pf_X8_isWriting : plainFor MX8_isWriting.1 = true := by decide +kernel
theorem pf_X8_join : plainFor MX8_join.1 = true := by decide +kernel
theorem pf_X8_kindOf : plainFor MX8_kindOf.1 = true := by decide +kernel
theorem pf_X8_labelOf : plainFor MX8_labelOf.1 = true := by decide +kernel
theorem pf_X8_layCode : plainFor MX8_layCode.1 = true := by decide +kernel
theorem pf_X8_layEdges : plainFor MX8_layEdges.1 = true := by decide +kernel
theorem pf_X8_layLives : plainFor MX8_layLives.1 = true := by decide +kernel
theorem pf_X8_length : plainFor MX8_length.1 = true := by decide +kernel
theorem pf_X8_live : plainFor MX8_live.1 = true := by decide +kernel
theorem pf_X8_load : plainFor MX8_load.1 = true := by decide +kernel
theorem pf_X8_merge : plainFor MX8_merge.1 = true := by decide +kernel
theorem pf_X8_nameOf : plainFor MX8_nameOf.1 = true := by decide +kernel
theorem pf_X8_names : plainFor MX8_names.1 = true := by decide +kernel
theorem pf_X8_near : plainFor MX8_near.1 = true := by decide +kernel
theorem pf_X8_note : plainFor MX8_note.1 = true := by decide +kernel
theorem pf_X8_numberAt : plainFor MX8_numberAt.1 = true := by decide +kernel
theorem pf_X8_out : plainFor MX8_out.1 = true := by decide +kernel
theorem pf_X8_put : plainFor MX8_put.1 = true := by decide +kernel
theorem pf_X8_read : plainFor MX8_read.1 = true := by decide +kernel
theorem pf_X8_reads : plainFor MX8_reads.1 = true := by decide +kernel
theorem pf_X8_register : plainFor MX8_register.1 = true := by decide +kernel
theorem pf_X8_restore : plainFor MX8_restore.1 = true := by decide +kernel
theorem pf_X8_rewrite : plainFor MX8_rewrite.1 = true := by decide +kernel
theorem pf_X8_rounds : plainFor MX8_rounds.1 = true := by decide +kernel
theorem pf_X8_run : plainFor MX8_run.1 = true := by decide +kernel
theorem pf_X8_runNow : plainFor MX8_runNow.1 = true := by decide +kernel
theorem pf_X8_say : plainFor MX8_say.1 = true := by decide +kernel
theorem pf_X8_shutAll : plainFor MX8_shutAll.1 = true := by decide +kernel
theorem pf_X8_single : plainFor MX8_single.1 = true := by decide +kernel
theorem pf_X8_spent : plainFor MX8_spent.1 = true := by decide +kernel
theorem pf_X8_spilled : plainFor MX8_spilled.1 = true := by decide +kernel
theorem pf_X8_standsFor : plainFor MX8_standsFor.1 = true := by decide +kernel
theorem pf_X8_step : plainFor MX8_step.1 = true := by decide +kernel
theorem pf_X8_take : plainFor MX8_take.1 = true := by decide +kernel
theorem pf_X8_takeLow : plainFor MX8_takeLow.1 = true := by decide +kernel
theorem pf_X8_told : plainFor MX8_told.1 = true := by decide +kernel
theorem pf_X8_turnMove : plainFor MX8_turnMove.1 = true := by decide +kernel
theorem pf_X8_wantsFigure : plainFor MX8_wantsFigure.1 = true := by decide +kernel
theorem pf_X8_way : plainFor MX8_way.1 = true := by decide +kernel
theorem pf_X8_weigh : plainFor MX8_weigh.1 = true := by decide +kernel
theorem pf_X8_weight : plainFor MX8_weight.1 = true := by decide +kernel
theorem pf_X8_wipe : plainFor MX8_wipe.1 = true := by decide +kernel
theorem pf_X8_writes : plainFor MX8_writes.1 = true := by decide +kernel
theorem w_oinst : Cond.instanceMethod Lib.objectInit ∈ gw := gw_in1 (tb_1 25 rfl) rfl
theorem w_ocode : Cond.code Lib.objectInit ⟨#[0xb1]⟩ 1 none ∈ gw := gw_in1 (tb_1 26 rfl) rfl
theorem w_astat : Cond.static arraycopyName ∈ gw := gw_in1 (tb_3 165 rfl) rfl
theorem w_sysinit : Cond.initialized "java/lang/System" ∈ gw := gw_in1 (tb_1 18 rfl) rfl
