theorem dX8_hope_51 : decode cX8_hope 51 = .ok (.iconst 1, 1) := by decide +kernel
theorem dX8_hope_52 : decode cX8_hope 52 = .ok (.goto 4, 3) := by decide +kernel
theorem dX8_hope_55 : decode cX8_hope 55 = .ok (.iconst 0, 1) := by decide +kernel
theorem dX8_hope_56 : decode cX8_hope 56 = .ok (.istore 5, 2) := by decide +kernel
theorem dX8_hope_58 : decode cX8_hope 58 = .ok (.iload 5, 2) := by decide +kernel
theorem dX8_hope_60 : decode cX8_hope 60 = .ok (.ifCond .eq 7, 3) := by decide +kernel
theorem dX8_hope_63 : decode cX8_hope 63 = .ok (.iload_n 3, 1) := by decide +kernel
theorem dX8_hope_64 : decode cX8_hope 64 = .ok (.goto 4, 3) := by decide +kernel
theorem dX8_hope_67 : decode cX8_hope 67 = .ok (.iload_n 1, 1) := by decide +kernel
theorem dX8_hope_68 : decode cX8_hope 68 = .ok (.istore_n 1, 1) := by decide +kernel
theorem dX8_hope_69 : decode cX8_hope 69 = .ok (.iload 5, 2) := by decide +kernel
theorem dX8_hope_71 : decode cX8_hope 71 = .ok (.ifCond .eq 8, 3) := by decide +kernel
theorem dX8_hope_74 : decode cX8_hope 74 = .ok (.iload 4, 2) := by decide +kernel
theorem dX8_hope_76 : decode cX8_hope 76 = .ok (.goto 4, 3) := by decide +kernel
theorem dX8_hope_79 : decode cX8_hope 79 = .ok (.iload_n 2, 1) := by decide +kernel
theorem dX8_hope_80 : decode cX8_hope 80 = .ok (.istore_n 2, 1) := by decide +kernel
theorem dX8_hope_81 : decode cX8_hope 81 = .ok (.iinc 3 1, 3) := by decide +kernel
theorem dX8_hope_84 : decode cX8_hope 84 = .ok (.goto (-77), 3) := by decide +kernel
theorem dX8_hope_87 : decode cX8_hope 87 = .ok (.aload_n 0, 1) := by decide +kernel
theorem dX8_hope_88 : decode cX8_hope 88 = .ok (.sipush 500, 3) := by decide +kernel
theorem dX8_hope_91 : decode cX8_hope 91 = .ok (.iload_n 1, 1) := by decide +kernel
theorem dX8_hope_92 : decode cX8_hope 92 = .ok (.iadd, 1) := by decide +kernel
theorem dX8_hope_93 : decode cX8_hope 93 = .ok (.invokevirtual 239, 3) := by decide +kernel
theorem dX8_hope_96 : decode cX8_hope 96 = .ok (.aload_n 0, 1) := by decide +kernel
theorem dX8_hope_97 : decode cX8_hope 97 = .ok (.iload_n 1, 1) := by decide +kernel
theorem dX8_hope_98 : decode cX8_hope 98 = .ok (.invokevirtual 252, 3) := by decide +kernel
theorem dX8_hope_101 : decode cX8_hope 101 = .ok (.aload_n 0, 1) := by decide +kernel
theorem dX8_hope_102 : decode cX8_hope 102 = .ok (.iload_n 1, 1) := by decide +kernel
theorem dX8_hope_103 : decode cX8_hope 103 = .ok (.invokevirtual 243, 3) := by decide +kernel
theorem dX8_hope_106 : decode cX8_hope 106 = .ok (.return_, 1) := by decide +kernel
theorem dX8_names_0 : decode cX8_names 0 = .ok (.lconst 0, 1) := by decide +kernel
theorem dX8_names_1 : decode cX8_names 1 = .ok (.lstore_n 1, 1) := by decide +kernel
theorem dX8_names_2 : decode cX8_names 2 = .ok (.iconst 0, 1) := by decide +kernel
theorem dX8_names_3 : decode cX8_names 3 = .ok (.istore_n 3, 1) := by decide +kernel
theorem dX8_names_4 : decode cX8_names 4 = .ok (.iload_n 3, 1) := by decide +kernel
theorem dX8_names_5 : decode cX8_names 5 = .ok (.aload_n 0, 1) := by decide +kernel
theorem dX8_names_6 : decode cX8_names 6 = .ok (.getfield 148, 3) := by decide +kernel
theorem dX8_names_9 : decode cX8_names 9 = .ok (.if_icmp .ge 23, 3) := by decide +kernel
theorem dX8_names_12 : decode cX8_names 12 = .ok (.lload_n 1, 1) := by decide +kernel
theorem dX8_names_13 : decode cX8_names 13 = .ok (.aload_n 0, 1) := by decide +kernel
theorem dX8_names_14 : decode cX8_names 14 = .ok (.iload_n 3, 1) := by decide +kernel
theorem dX8_names_15 : decode cX8_names 15 = .ok (.invokevirtual 164, 3) := by decide +kernel
theorem dX8_names_18 : decode cX8_names 18 = .ok (.aload_n 0, 1) := by decide +kernel
theorem dX8_names_19 : decode cX8_names 19 = .ok (.iload_n 3, 1) := by decide +kernel
theorem dX8_names_20 : decode cX8_names 20 = .ok (.invokevirtual 158, 3) := by decide +kernel
theorem dX8_names_23 : decode cX8_names 23 = .ok (.lor, 1) := by decide +kernel
theorem dX8_names_24 : decode cX8_names 24 = .ok (.lor, 1) := by decide +kernel
theorem dX8_names_25 : decode cX8_names 25 = .ok (.lstore_n 1, 1) := by decide +kernel
theorem dX8_names_26 : decode cX8_names 26 = .ok (.iinc 3 1, 3) := by decide +kernel
theorem dX8_names_29 : decode cX8_names 29 = .ok (.goto (-25), 3) := by decide +kernel
theorem dX8_names_32 : decode cX8_names 32 = .ok (.lload_n 1, 1) := by decide +kernel
theorem dX8_names_33 : decode cX8_names 33 = .ok (.lreturn, 1) := by decide +kernel
theorem dX8_goRound_0 : decode cX8_goRound 0 = .ok (.aload_n 0, 1) := by decide +kernel
theorem dX8_goRound_1 : decode cX8_goRound 1 = .ok (.invokevirtual 177, 3) := by decide +kernel
theorem dX8_goRound_4 : decode cX8_goRound 4 = .ok (.aload_n 0, 1) := by decide +kernel
theorem dX8_goRound_5 : decode cX8_goRound 5 = .ok (.aload_n 0, 1) := by decide +kernel
theorem dX8_goRound_6 : decode cX8_goRound 6 = .ok (.invokevirtual 255, 3) := by decide +kernel
theorem dX8_goRound_9 : decode cX8_goRound 9 = .ok (.ldc2_w 259, 3) := by decide +kernel
theorem dX8_goRound_12 : decode cX8_goRound 12 = .ok (.lor, 1) := by decide +kernel
theorem dX8_goRound_13 : decode cX8_goRound 13 = .ok (.putfield 211, 3) := by decide +kernel
theorem dX8_goRound_16 : decode cX8_goRound 16 = .ok (.aload_n 0, 1) := by decide +kernel
theorem dX8_goRound_17 : decode cX8_goRound 17 = .ok (.iconst 0, 1) := by decide +kernel
theorem dX8_goRound_18 : decode cX8_goRound 18 = .ok (.putfield 224, 3) := by decide +kernel
theorem dX8_goRound_21 : decode cX8_goRound 21 = .ok (.aload_n 0, 1) := by decide +kernel
theorem dX8_goRound_22 : decode cX8_goRound 22 = .ok (.iconst 0, 1) := by decide +kernel
theorem dX8_goRound_23 : decode cX8_goRound 23 = .ok (.putfield 230, 3) := by decide +kernel
theorem dX8_goRound_26 : decode cX8_goRound 26 = .ok (.iconst 0, 1) := by decide +kernel
theorem dX8_goRound_27 : decode cX8_goRound 27 = .ok (.istore_n 1, 1) := by decide +kernel
theorem dX8_goRound_28 : decode cX8_goRound 28 = .ok (.iload_n 1, 1) := by decide +kernel
theorem dX8_goRound_29 : decode cX8_goRound 29 = .ok (.bipush 64, 2) := by decide +kernel
theorem dX8_goRound_31 : decode cX8_goRound 31 = .ok (.if_icmp .ge 53, 3) := by decide +kernel
theorem dX8_goRound_34 : decode cX8_goRound 34 = .ok (.aload_n 0, 1) := by decide +kernel
theorem dX8_goRound_35 : decode cX8_goRound 35 = .ok (.getfield 63, 3) := by decide +kernel
theorem dX8_goRound_38 : decode cX8_goRound 38 = .ok (.iload_n 1, 1) := by decide +kernel
theorem dX8_goRound_39 : decode cX8_goRound 39 = .ok (.iload_n 1, 1) := by decide +kernel
theorem dX8_goRound_40 : decode cX8_goRound 40 = .ok (.iastore, 1) := by decide +kernel
theorem dX8_goRound_41 : decode cX8_goRound 41 = .ok (.aload_n 0, 1) := by decide +kernel
theorem dX8_goRound_42 : decode cX8_goRound 42 = .ok (.getfield 66, 3) := by decide +kernel
theorem dX8_goRound_45 : decode cX8_goRound 45 = .ok (.iload_n 1, 1) := by decide +kernel
theorem dX8_goRound_46 : decode cX8_goRound 46 = .ok (.iload_n 1, 1) := by decide +kernel
theorem dX8_goRound_47 : decode cX8_goRound 47 = .ok (.iconst 4, 1) := by decide +kernel
theorem dX8_goRound_48 : decode cX8_goRound 48 = .ok (.if_icmp .ge 7, 3) := by decide +kernel
theorem dX8_goRound_51 : decode cX8_goRound 51 = .ok (.iconst 0, 1) := by decide +kernel
theorem dX8_goRound_52 : decode cX8_goRound 52 = .ok (.goto 8, 3) := by decide +kernel
theorem dX8_goRound_55 : decode cX8_goRound 55 = .ok (.aload_n 0, 1) := by decide +kernel
theorem dX8_goRound_56 : decode cX8_goRound 56 = .ok (.iload_n 1, 1) := by decide +kernel
theorem dX8_goRound_57 : decode cX8_goRound 57 = .ok (.invokevirtual 194, 3) := by decide +kernel
theorem dX8_goRound_60 : decode cX8_goRound 60 = .ok (.iastore, 1) := by decide +kernel
theorem dX8_goRound_61 : decode cX8_goRound 61 = .ok (.aload_n 0, 1) := by decide +kernel
theorem dX8_goRound_62 : decode cX8_goRound 62 = .ok (.getfield 82, 3) := by decide +kernel
theorem dX8_goRound_65 : decode cX8_goRound 65 = .ok (.iload_n 1, 1) := by decide +kernel
theorem dX8_goRound_66 : decode cX8_goRound 66 = .ok (.iload_n 1, 1) := by decide +kernel
theorem dX8_goRound_67 : decode cX8_goRound 67 = .ok (.iconst 4, 1) := by decide +kernel
theorem dX8_goRound_68 : decode cX8_goRound 68 = .ok (.if_icmp .ge 7, 3) := by decide +kernel
theorem dX8_goRound_71 : decode cX8_goRound 71 = .ok (.iload_n 1, 1) := by decide +kernel
theorem dX8_goRound_72 : decode cX8_goRound 72 = .ok (.goto 5, 3) := by decide +kernel
theorem dX8_goRound_75 : decode cX8_goRound 75 = .ok (.bipush (-6), 2) := by decide +kernel
theorem dX8_goRound_77 : decode cX8_goRound 77 = .ok (.iastore, 1) := by decide +kernel
theorem dX8_goRound_78 : decode cX8_goRound 78 = .ok (.iinc 1 1, 3) := by decide +kernel
theorem dX8_goRound_81 : decode cX8_goRound 81 = .ok (.goto (-53), 3) := by decide +kernel
theorem dX8_goRound_84 : decode cX8_goRound 84 = .ok (.iconst 0, 1) := by decide +kernel
theorem dX8_goRound_85 : decode cX8_goRound 85 = .ok (.istore_n 1, 1) := by decide +kernel
theorem dX8_goRound_86 : decode cX8_goRound 86 = .ok (.iload_n 1, 1) := by decide +kernel
theorem dX8_goRound_87 : decode cX8_goRound 87 = .ok (.aload_n 0, 1) := by decide +kernel
theorem dX8_goRound_88 : decode cX8_goRound 88 = .ok (.getfield 148, 3) := by decide +kernel
theorem dX8_goRound_91 : decode cX8_goRound 91 = .ok (.if_icmp .ge 49, 3) := by decide +kernel
theorem dX8_goRound_94 : decode cX8_goRound 94 = .ok (.aload_n 0, 1) := by decide +kernel
theorem dX8_goRound_95 : decode cX8_goRound 95 = .ok (.getfield 29, 3) := by decide +kernel
theorem dX8_goRound_98 : decode cX8_goRound 98 = .ok (.iload_n 1, 1) := by decide +kernel
theorem dX8_goRound_99 : decode cX8_goRound 99 = .ok (.iaload, 1) := by decide +kernel
theorem dX8_goRound_100 : decode cX8_goRound 100 = .ok (.iconst 1, 1) := by decide +kernel
theorem dX8_goRound_101 : decode cX8_goRound 101 = .ok (.if_icmp .ne 33, 3) := by decide +kernel
theorem dX8_goRound_104 : decode cX8_goRound 104 = .ok (.aload_n 0, 1) := by decide +kernel
theorem dX8_goRound_105 : decode cX8_goRound 105 = .ok (.getfield 69, 3) := by decide +kernel
theorem dX8_goRound_108 : decode cX8_goRound 108 = .ok (.aload_n 0, 1) := by decide +kernel
theorem dX8_goRound_109 : decode cX8_goRound 109 = .ok (.getfield 224, 3) := by decide +kernel
theorem dX8_goRound_112 : decode cX8_goRound 112 = .ok (.iload_n 1, 1) := by decide +kernel
theorem dX8_goRound_113 : decode cX8_goRound 113 = .ok (.iastore, 1) := by decide +kernel
theorem dX8_goRound_114 : decode cX8_goRound 114 = .ok (.aload_n 0, 1) := by decide +kernel
theorem dX8_goRound_115 : decode cX8_goRound 115 = .ok (.getfield 72, 3) := by decide +kernel
theorem dX8_goRound_118 : decode cX8_goRound 118 = .ok (.aload_n 0, 1) := by decide +kernel
theorem dX8_goRound_119 : decode cX8_goRound 119 = .ok (.getfield 224, 3) := by decide +kernel
theorem dX8_goRound_122 : decode cX8_goRound 122 = .ok (.iconst 1, 1) := by decide +kernel
theorem dX8_goRound_123 : decode cX8_goRound 123 = .ok (.bastore, 1) := by decide +kernel
theorem dX8_goRound_124 : decode cX8_goRound 124 = .ok (.aload_n 0, 1) := by decide +kernel
theorem dX8_goRound_125 : decode cX8_goRound 125 = .ok (.dup, 1) := by decide +kernel
theorem dX8_goRound_126 : decode cX8_goRound 126 = .ok (.getfield 224, 3) := by decide +kernel
theorem dX8_goRound_129 : decode cX8_goRound 129 = .ok (.iconst 1, 1) := by decide +kernel
theorem dX8_goRound_130 : decode cX8_goRound 130 = .ok (.iadd, 1) := by decide +kernel
theorem dX8_goRound_131 : decode cX8_goRound 131 = .ok (.putfield 224, 3) := by decide +kernel
theorem dX8_goRound_134 : decode cX8_goRound 134 = .ok (.iinc 1 1, 3) := by decide +kernel
theorem dX8_goRound_137 : decode cX8_goRound 137 = .ok (.goto (-51), 3) := by decide +kernel
theorem dX8_goRound_140 : decode cX8_goRound 140 = .ok (.aload_n 0, 1) := by decide +kernel
theorem dX8_goRound_141 : decode cX8_goRound 141 = .ok (.getfield 211, 3) := by decide +kernel
theorem dX8_goRound_144 : decode cX8_goRound 144 = .ok (.ldc2_w 261, 3) := by decide +kernel
theorem dX8_goRound_147 : decode cX8_goRound 147 = .ok (.land, 1) := by decide +kernel
theorem dX8_goRound_148 : decode cX8_goRound 148 = .ok (.lconst 0, 1) := by decide +kernel
theorem dX8_goRound_149 : decode cX8_goRound 149 = .ok (.lcmp, 1) := by decide +kernel
theorem dX8_goRound_150 : decode cX8_goRound 150 = .ok (.ifCond .eq 31, 3) := by decide +kernel
theorem dX8_goRound_153 : decode cX8_goRound 153 = .ok (.aload_n 0, 1) := by decide +kernel
theorem dX8_goRound_154 : decode cX8_goRound 154 = .ok (.invokevirtual 263, 3) := by decide +kernel
theorem dX8_goRound_157 : decode cX8_goRound 157 = .ok (.ifCond .ne (-17), 3) := by decide +kernel
theorem dX8_goRound_160 : decode cX8_goRound 160 = .ok (.aload_n 0, 1) := by decide +kernel
theorem dX8_goRound_161 : decode cX8_goRound 161 = .ok (.invokevirtual 267, 3) := by decide +kernel
theorem dX8_goRound_164 : decode cX8_goRound 164 = .ok (.ifCond .ne (-24), 3) := by decide +kernel
theorem dX8_goRound_167 : decode cX8_goRound 167 = .ok (.aload_n 0, 1) := by decide +kernel
theorem dX8_goRound_168 : decode cX8_goRound 168 = .ok (.invokevirtual 270, 3) := by decide +kernel
theorem dX8_goRound_171 : decode cX8_goRound 171 = .ok (.ifCond .ne (-31), 3) := by decide +kernel
theorem dX8_goRound_174 : decode cX8_goRound 174 = .ok (.aload_n 0, 1) := by decide +kernel
theorem dX8_goRound_175 : decode cX8_goRound 175 = .ok (.invokevirtual 273, 3) := by decide +kernel
theorem dX8_goRound_178 : decode cX8_goRound 178 = .ok (.goto (-38), 3) := by decide +kernel
theorem dX8_goRound_181 : decode cX8_goRound 181 = .ok (.iconst 0, 1) := by decide +kernel
theorem dX8_goRound_182 : decode cX8_goRound 182 = .ok (.istore_n 1, 1) := by decide +kernel
theorem dX8_goRound_183 : decode cX8_goRound 183 = .ok (.aload_n 0, 1) := by decide +kernel
theorem dX8_goRound_184 : decode cX8_goRound 184 = .ok (.getfield 230, 3) := by decide +kernel
theorem dX8_goRound_187 : decode cX8_goRound 187 = .ok (.iconst 1, 1) := by decide +kernel
theorem dX8_goRound_188 : decode cX8_goRound 188 = .ok (.isub, 1) := by decide +kernel
theorem dX8_goRound_189 : decode cX8_goRound 189 = .ok (.istore_n 2, 1) := by decide +kernel
theorem dX8_goRound_190 : decode cX8_goRound 190 = .ok (.iload_n 2, 1) := by decide +kernel
theorem dX8_goRound_191 : decode cX8_goRound 191 = .ok (.ifCond .lt 147, 3) := by decide +kernel
theorem dX8_goRound_194 : decode cX8_goRound 194 = .ok (.iconst 0, 1) := by decide +kernel
theorem dX8_goRound_195 : decode cX8_goRound 195 = .ok (.istore_n 3, 1) := by decide +kernel
theorem dX8_goRound_196 : decode cX8_goRound 196 = .ok (.iconst 0, 1) := by decide +kernel
theorem dX8_goRound_197 : decode cX8_goRound 197 = .ok (.istore 4, 2) := by decide +kernel
theorem dX8_goRound_199 : decode cX8_goRound 199 = .ok (.iload 4, 2) := by decide +kernel
theorem dX8_goRound_201 : decode cX8_goRound 201 = .ok (.bipush 64, 2) := by decide +kernel
theorem dX8_goRound_203 : decode cX8_goRound 203 = .ok (.if_icmp .ge 52, 3) := by decide +kernel
theorem dX8_goRound_206 : decode cX8_goRound 206 = .ok (.aload_n 0, 1) := by decide +kernel
theorem dX8_goRound_207 : decode cX8_goRound 207 = .ok (.getfield 79, 3) := by decide +kernel
theorem dX8_goRound_210 : decode cX8_goRound 210 = .ok (.iload_n 2, 1) := by decide +kernel
theorem dX8_goRound_211 : decode cX8_goRound 211 = .ok (.laload, 1) := by decide +kernel
theorem dX8_goRound_212 : decode cX8_goRound 212 = .ok (.iload 4, 2) := by decide +kernel
theorem dX8_goRound_214 : decode cX8_goRound 214 = .ok (.invokestatic 109, 3) := by decide +kernel
theorem dX8_goRound_217 : decode cX8_goRound 217 = .ok (.ifCond .eq 32, 3) := by decide +kernel
theorem dX8_goRound_220 : decode cX8_goRound 220 = .ok (.aload_n 0, 1) := by decide +kernel
theorem dX8_goRound_221 : decode cX8_goRound 221 = .ok (.getfield 82, 3) := by decide +kernel
theorem dX8_goRound_224 : decode cX8_goRound 224 = .ok (.aload_n 0, 1) := by decide +kernel
theorem dX8_goRound_225 : decode cX8_goRound 225 = .ok (.iload 4, 2) := by decide +kernel
theorem dX8_goRound_227 : decode cX8_goRound 227 = .ok (.invokevirtual 221, 3) := by decide +kernel
theorem dX8_goRound_230 : decode cX8_goRound 230 = .ok (.iaload, 1) := by decide +kernel
theorem dX8_goRound_231 : decode cX8_goRound 231 = .ok (.istore 5, 2) := by decide +kernel
theorem dX8_goRound_233 : decode cX8_goRound 233 = .ok (.iload_n 3, 1) := by decide +kernel
theorem dX8_goRound_234 : decode cX8_goRound 234 = .ok (.iload 5, 2) := by decide +kernel
theorem dX8_goRound_236 : decode cX8_goRound 236 = .ok (.ifCond .ge 7, 3) := by decide +kernel
theorem dX8_goRound_239 : decode cX8_goRound 239 = .ok (.iconst 0, 1) := by decide +kernel
theorem dX8_goRound_240 : decode cX8_goRound 240 = .ok (.goto 7, 3) := by decide +kernel
theorem dX8_goRound_243 : decode cX8_goRound 243 = .ok (.iconst 1, 1) := by decide +kernel
theorem dX8_goRound_244 : decode cX8_goRound 244 = .ok (.iload 5, 2) := by decide +kernel
theorem dX8_goRound_246 : decode cX8_goRound 246 = .ok (.ishl, 1) := by decide +kernel
theorem dX8_goRound_247 : decode cX8_goRound 247 = .ok (.ior, 1) := by decide +kernel
theorem dX8_goRound_248 : decode cX8_goRound 248 = .ok (.istore_n 3, 1) := by decide +kernel
theorem dX8_goRound_249 : decode cX8_goRound 249 = .ok (.iinc 4 1, 3) := by decide +kernel
theorem dX8_goRound_252 : decode cX8_goRound 252 = .ok (.goto (-53), 3) := by decide +kernel
theorem dX8_goRound_255 : decode cX8_goRound 255 = .ok (.aload_n 0, 1) := by decide +kernel
theorem dX8_goRound_256 : decode cX8_goRound 256 = .ok (.getfield 76, 3) := by decide +kernel
theorem dX8_goRound_259 : decode cX8_goRound 259 = .ok (.iload_n 2, 1) := by decide +kernel
theorem dX8_goRound_260 : decode cX8_goRound 260 = .ok (.iaload, 1) := by decide +kernel
theorem dX8_goRound_261 : decode cX8_goRound 261 = .ok (.istore 4, 2) := by decide +kernel
theorem dX8_goRound_263 : decode cX8_goRound 263 = .ok (.iconst 0, 1) := by decide +kernel
theorem dX8_goRound_264 : decode cX8_goRound 264 = .ok (.istore 5, 2) := by decide +kernel
theorem dX8_goRound_266 : decode cX8_goRound 266 = .ok (.iload 5, 2) := by decide +kernel
theorem dX8_goRound_268 : decode cX8_goRound 268 = .ok (.aload_n 0, 1) := by decide +kernel
theorem dX8_goRound_269 : decode cX8_goRound 269 = .ok (.getfield 7, 3) := by decide +kernel
theorem dX8_goRound_272 : decode cX8_goRound 272 = .ok (.if_icmp .ge 42, 3) := by decide +kernel
theorem dX8_goRound_275 : decode cX8_goRound 275 = .ok (.aload_n 0, 1) := by decide +kernel
theorem dX8_goRound_276 : decode cX8_goRound 276 = .ok (.getfield 82, 3) := by decide +kernel
theorem dX8_goRound_279 : decode cX8_goRound 279 = .ok (.iload 4, 2) := by decide +kernel
theorem dX8_goRound_281 : decode cX8_goRound 281 = .ok (.iaload, 1) := by decide +kernel
theorem dX8_goRound_282 : decode cX8_goRound 282 = .ok (.ifCond .ge 32, 3) := by decide +kernel
theorem dX8_goRound_285 : decode cX8_goRound 285 = .ok (.aload_n 0, 1) := by decide +kernel
theorem dX8_goRound_286 : decode cX8_goRound 286 = .ok (.getfield 82, 3) := by decide +kernel
theorem dX8_goRound_289 : decode cX8_goRound 289 = .ok (.iload 4, 2) := by decide +kernel
theorem dX8_goRound_291 : decode cX8_goRound 291 = .ok (.iload_n 3, 1) := by decide +kernel
theorem dX8_goRound_292 : decode cX8_goRound 292 = .ok (.iload 5, 2) := by decide +kernel
theorem dX8_goRound_294 : decode cX8_goRound 294 = .ok (.ishr, 1) := by decide +kernel
theorem dX8_goRound_295 : decode cX8_goRound 295 = .ok (.iconst 1, 1) := by decide +kernel
theorem dX8_goRound_296 : decode cX8_goRound 296 = .ok (.iand, 1) := by decide +kernel
theorem dX8_goRound_297 : decode cX8_goRound 297 = .ok (.ifCond .ne 8, 3) := by decide +kernel
theorem dX8_goRound_300 : decode cX8_goRound 300 = .ok (.iload 5, 2) := by decide +kernel
theorem dX8_goRound_302 : decode cX8_goRound 302 = .ok (.goto 5, 3) := by decide +kernel
theorem dX8_goRound_305 : decode cX8_goRound 305 = .ok (.bipush (-6), 2) := by decide +kernel
theorem dX8_goRound_307 : decode cX8_goRound 307 = .ok (.iastore, 1) := by decide +kernel
theorem dX8_goRound_308 : decode cX8_goRound 308 = .ok (.iinc 5 1, 3) := by decide +kernel
theorem dX8_goRound_311 : decode cX8_goRound 311 = .ok (.goto (-45), 3) := by decide +kernel
theorem dX8_goRound_314 : decode cX8_goRound 314 = .ok (.iload_n 1, 1) := by decide +kernel
theorem dX8_goRound_315 : decode cX8_goRound 315 = .ok (.aload_n 0, 1) := by decide +kernel
theorem dX8_goRound_316 : decode cX8_goRound 316 = .ok (.getfield 82, 3) := by decide +kernel
theorem dX8_goRound_319 : decode cX8_goRound 319 = .ok (.iload 4, 2) := by decide +kernel
theorem dX8_goRound_321 : decode cX8_goRound 321 = .ok (.iaload, 1) := by decide +kernel
theorem dX8_goRound_322 : decode cX8_goRound 322 = .ok (.ifCond .ge 7, 3) := by decide +kernel
theorem dX8_goRound_325 : decode cX8_goRound 325 = .ok (.iconst 1, 1) := by decide +kernel
theorem dX8_goRound_326 : decode cX8_goRound 326 = .ok (.goto 4, 3) := by decide +kernel
theorem dX8_goRound_329 : decode cX8_goRound 329 = .ok (.iconst 0, 1) := by decide +kernel
theorem dX8_goRound_330 : decode cX8_goRound 330 = .ok (.iadd, 1) := by decide +kernel
theorem dX8_goRound_331 : decode cX8_goRound 331 = .ok (.istore_n 1, 1) := by decide +kernel
theorem dX8_goRound_332 : decode cX8_goRound 332 = .ok (.iinc 2 (-1), 3) := by decide +kernel
theorem dX8_goRound_335 : decode cX8_goRound 335 = .ok (.goto (-145), 3) := by decide +kernel
theorem dX8_goRound_338 : decode cX8_goRound 338 = .ok (.iload_n 1, 1) := by decide +kernel
theorem dX8_goRound_339 : decode cX8_goRound 339 = .ok (.ireturn, 1) := by decide +kernel
theorem dX8_put_0 : decode cX8_put 0 = .ok (.aload_n 0, 1) := by decide +kernel
theorem dX8_put_1 : decode cX8_put 1 = .ok (.getfield 276, 3) := by decide +kernel
theorem dX8_put_4 : decode cX8_put 4 = .ok (.bipush 91, 2) := by decide +kernel
theorem dX8_put_6 : decode cX8_put 6 = .ok (.if_icmp .ge 44, 3) := by decide +kernel
theorem dX8_put_9 : decode cX8_put 9 = .ok (.aload_n 0, 1) := by decide +kernel
theorem dX8_put_10 : decode cX8_put 10 = .ok (.getfield 41, 3) := by decide +kernel
theorem dX8_put_13 : decode cX8_put 13 = .ok (.aload_n 0, 1) := by decide +kernel
theorem dX8_put_14 : decode cX8_put 14 = .ok (.getfield 276, 3) := by decide +kernel
theorem dX8_put_17 : decode cX8_put 17 = .ok (.iload_n 1, 1) := by decide +kernel
theorem dX8_put_18 : decode cX8_put 18 = .ok (.iastore, 1) := by decide +kernel
theorem dX8_put_19 : decode cX8_put 19 = .ok (.aload_n 0, 1) := by decide +kernel
theorem dX8_put_20 : decode cX8_put 20 = .ok (.getfield 44, 3) := by decide +kernel
theorem dX8_put_23 : decode cX8_put 23 = .ok (.aload_n 0, 1) := by decide +kernel
theorem dX8_put_24 : decode cX8_put 24 = .ok (.getfield 276, 3) := by decide +kernel
theorem dX8_put_27 : decode cX8_put 27 = .ok (.iload_n 2, 1) := by decide +kernel
theorem dX8_put_28 : decode cX8_put 28 = .ok (.iastore, 1) := by decide +kernel
theorem dX8_put_29 : decode cX8_put 29 = .ok (.aload_n 0, 1) := by decide +kernel
theorem dX8_put_30 : decode cX8_put 30 = .ok (.getfield 47, 3) := by decide +kernel
theorem dX8_put_33 : decode cX8_put 33 = .ok (.aload_n 0, 1) := by decide +kernel
theorem dX8_put_34 : decode cX8_put 34 = .ok (.getfield 276, 3) := by decide +kernel
theorem dX8_put_37 : decode cX8_put 37 = .ok (.iload_n 3, 1) := by decide +kernel
theorem dX8_put_38 : decode cX8_put 38 = .ok (.iastore, 1) := by decide +kernel
theorem dX8_put_39 : decode cX8_put 39 = .ok (.aload_n 0, 1) := by decide +kernel
theorem dX8_put_40 : decode cX8_put 40 = .ok (.getfield 50, 3) := by decide +kernel
theorem dX8_put_43 : decode cX8_put 43 = .ok (.aload_n 0, 1) := by decide +kernel
theorem dX8_put_44 : decode cX8_put 44 = .ok (.getfield 276, 3) := by decide +kernel
theorem dX8_put_47 : decode cX8_put 47 = .ok (.iload 4, 2) := by decide +kernel
theorem dX8_put_49 : decode cX8_put 49 = .ok (.iastore, 1) := by decide +kernel
theorem dX8_put_50 : decode cX8_put 50 = .ok (.aload_n 0, 1) := by decide +kernel
theorem dX8_put_51 : decode cX8_put 51 = .ok (.dup, 1) := by decide +kernel
theorem dX8_put_52 : decode cX8_put 52 = .ok (.getfield 276, 3) := by decide +kernel
theorem dX8_put_55 : decode cX8_put 55 = .ok (.iconst 1, 1) := by decide +kernel
theorem dX8_put_56 : decode cX8_put 56 = .ok (.iadd, 1) := by decide +kernel
theorem dX8_put_57 : decode cX8_put 57 = .ok (.putfield 276, 3) := by decide +kernel
theorem dX8_put_60 : decode cX8_put 60 = .ok (.return_, 1) := by decide +kernel
theorem dX8_isSpilled_0 : decode cX8_isSpilled 0 = .ok (.iload_n 1, 1) := by decide +kernel
theorem dX8_isSpilled_1 : decode cX8_isSpilled 1 = .ok (.iconst 4, 1) := by decide +kernel
theorem dX8_isSpilled_2 : decode cX8_isSpilled 2 = .ok (.if_icmp .lt 16, 3) := by decide +kernel
theorem dX8_isSpilled_5 : decode cX8_isSpilled 5 = .ok (.aload_n 0, 1) := by decide +kernel
theorem dX8_isSpilled_6 : decode cX8_isSpilled 6 = .ok (.getfield 88, 3) := by decide +kernel
theorem dX8_isSpilled_9 : decode cX8_isSpilled 9 = .ok (.iload_n 1, 1) := by decide +kernel
theorem dX8_isSpilled_10 : decode cX8_isSpilled 10 = .ok (.iaload, 1) := by decide +kernel
theorem dX8_isSpilled_11 : decode cX8_isSpilled 11 = .ok (.ifCond .lt 7, 3) := by decide +kernel
theorem dX8_isSpilled_14 : decode cX8_isSpilled 14 = .ok (.iconst 1, 1) := by decide +kernel
theorem dX8_isSpilled_15 : decode cX8_isSpilled 15 = .ok (.goto 4, 3) := by decide +kernel
theorem dX8_isSpilled_18 : decode cX8_isSpilled 18 = .ok (.iconst 0, 1) := by decide +kernel
theorem dX8_isSpilled_19 : decode cX8_isSpilled 19 = .ok (.ireturn, 1) := by decide +kernel
theorem dX8_read_0 : decode cX8_read 0 = .ok (.aload_n 0, 1) := by decide +kernel
theorem dX8_read_1 : decode cX8_read 1 = .ok (.iload_n 1, 1) := by decide +kernel
theorem dX8_read_2 : decode cX8_read 2 = .ok (.invokevirtual 279, 3) := by decide +kernel
theorem dX8_read_5 : decode cX8_read 5 = .ok (.ifCond .ne 5, 3) := by decide +kernel
theorem dX8_read_8 : decode cX8_read 8 = .ok (.iload_n 1, 1) := by decide +kernel
theorem dX8_read_9 : decode cX8_read 9 = .ok (.ireturn, 1) := by decide +kernel
theorem dX8_read_10 : decode cX8_read 10 = .ok (.bipush 16, 2) := by decide +kernel
theorem dX8_read_12 : decode cX8_read 12 = .ok (.aload_n 0, 1) := by decide +kernel
theorem dX8_read_13 : decode cX8_read 13 = .ok (.getfield 282, 3) := by decide +kernel
theorem dX8_read_16 : decode cX8_read 16 = .ok (.iadd, 1) := by decide +kernel
theorem dX8_read_17 : decode cX8_read 17 = .ok (.istore_n 2, 1) := by decide +kernel
theorem dX8_read_18 : decode cX8_read 18 = .ok (.aload_n 0, 1) := by decide +kernel
theorem dX8_read_19 : decode cX8_read 19 = .ok (.dup, 1) := by decide +kernel
theorem dX8_read_20 : decode cX8_read 20 = .ok (.getfield 282, 3) := by decide +kernel
theorem dX8_read_23 : decode cX8_read 23 = .ok (.iconst 1, 1) := by decide +kernel
theorem dX8_read_24 : decode cX8_read 24 = .ok (.iadd, 1) := by decide +kernel
theorem dX8_read_25 : decode cX8_read 25 = .ok (.putfield 282, 3) := by decide +kernel
theorem dX8_read_28 : decode cX8_read 28 = .ok (.aload_n 0, 1) := by decide +kernel
theorem dX8_read_29 : decode cX8_read 29 = .ok (.bipush 7, 2) := by decide +kernel
theorem dX8_read_31 : decode cX8_read 31 = .ok (.iload_n 2, 1) := by decide +kernel
theorem dX8_read_32 : decode cX8_read 32 = .ok (.aload_n 0, 1) := by decide +kernel
theorem dX8_read_33 : decode cX8_read 33 = .ok (.getfield 88, 3) := by decide +kernel
theorem dX8_read_36 : decode cX8_read 36 = .ok (.iload_n 1, 1) := by decide +kernel
theorem dX8_read_37 : decode cX8_read 37 = .ok (.iaload, 1) := by decide +kernel
theorem dX8_read_38 : decode cX8_read 38 = .ok (.bipush (-6), 2) := by decide +kernel
theorem dX8_read_40 : decode cX8_read 40 = .ok (.invokevirtual 285, 3) := by decide +kernel
theorem dX8_read_43 : decode cX8_read 43 = .ok (.iload_n 2, 1) := by decide +kernel
theorem dX8_read_44 : decode cX8_read 44 = .ok (.ireturn, 1) := by decide +kernel
theorem dX8_rewrite_0 : decode cX8_rewrite 0 = .ok (.aload_n 0, 1) := by decide +kernel
theorem dX8_rewrite_1 : decode cX8_rewrite 1 = .ok (.iconst 0, 1) := by decide +kernel
theorem dX8_rewrite_2 : decode cX8_rewrite 2 = .ok (.putfield 276, 3) := by decide +kernel
theorem dX8_rewrite_5 : decode cX8_rewrite 5 = .ok (.iconst 0, 1) := by decide +kernel
theorem dX8_rewrite_6 : decode cX8_rewrite 6 = .ok (.istore_n 1, 1) := by decide +kernel
theorem dX8_rewrite_7 : decode cX8_rewrite 7 = .ok (.iload_n 1, 1) := by decide +kernel
theorem dX8_rewrite_8 : decode cX8_rewrite 8 = .ok (.aload_n 0, 1) := by decide +kernel
theorem dX8_rewrite_9 : decode cX8_rewrite 9 = .ok (.getfield 148, 3) := by decide +kernel
theorem dX8_rewrite_12 : decode cX8_rewrite 12 = .ok (.if_icmp .ge 181, 3) := by decide +kernel
theorem dX8_rewrite_15 : decode cX8_rewrite 15 = .ok (.aload_n 0, 1) := by decide +kernel
theorem dX8_rewrite_16 : decode cX8_rewrite 16 = .ok (.getfield 29, 3) := by decide +kernel
theorem dX8_rewrite_19 : decode cX8_rewrite 19 = .ok (.iload_n 1, 1) := by decide +kernel
theorem dX8_rewrite_20 : decode cX8_rewrite 20 = .ok (.iaload, 1) := by decide +kernel
theorem dX8_rewrite_21 : decode cX8_rewrite 21 = .ok (.istore_n 2, 1) := by decide +kernel
theorem dX8_rewrite_22 : decode cX8_rewrite 22 = .ok (.aload_n 0, 1) := by decide +kernel
theorem dX8_rewrite_23 : decode cX8_rewrite 23 = .ok (.getfield 32, 3) := by decide +kernel
theorem dX8_rewrite_26 : decode cX8_rewrite 26 = .ok (.iload_n 1, 1) := by decide +kernel
theorem dX8_rewrite_27 : decode cX8_rewrite 27 = .ok (.iaload, 1) := by decide +kernel
theorem dX8_rewrite_28 : decode cX8_rewrite 28 = .ok (.istore_n 3, 1) := by decide +kernel
theorem dX8_rewrite_29 : decode cX8_rewrite 29 = .ok (.aload_n 0, 1) := by decide +kernel
theorem dX8_rewrite_30 : decode cX8_rewrite 30 = .ok (.getfield 35, 3) := by decide +kernel
theorem dX8_rewrite_33 : decode cX8_rewrite 33 = .ok (.iload_n 1, 1) := by decide +kernel
theorem dX8_rewrite_34 : decode cX8_rewrite 34 = .ok (.iaload, 1) := by decide +kernel
theorem dX8_rewrite_35 : decode cX8_rewrite 35 = .ok (.istore 4, 2) := by decide +kernel
theorem dX8_rewrite_37 : decode cX8_rewrite 37 = .ok (.aload_n 0, 1) := by decide +kernel
theorem dX8_rewrite_38 : decode cX8_rewrite 38 = .ok (.getfield 38, 3) := by decide +kernel
theorem dX8_rewrite_41 : decode cX8_rewrite 41 = .ok (.iload_n 1, 1) := by decide +kernel
theorem dX8_rewrite_42 : decode cX8_rewrite 42 = .ok (.iaload, 1) := by decide +kernel
theorem dX8_rewrite_43 : decode cX8_rewrite 43 = .ok (.istore 5, 2) := by decide +kernel
theorem dX8_rewrite_45 : decode cX8_rewrite 45 = .ok (.iload_n 2, 1) := by decide +kernel
theorem dX8_rewrite_46 : decode cX8_rewrite 46 = .ok (.iconst 4, 1) := by decide +kernel
theorem dX8_rewrite_47 : decode cX8_rewrite 47 = .ok (.if_icmp .eq 15, 3) := by decide +kernel
theorem dX8_rewrite_50 : decode cX8_rewrite 50 = .ok (.iload_n 2, 1) := by decide +kernel
theorem dX8_rewrite_51 : decode cX8_rewrite 51 = .ok (.bipush 6, 2) := by decide +kernel
theorem dX8_rewrite_53 : decode cX8_rewrite 53 = .ok (.if_icmp .eq 9, 3) := by decide +kernel
theorem dX8_rewrite_56 : decode cX8_rewrite 56 = .ok (.iload_n 2, 1) := by decide +kernel
theorem dX8_rewrite_57 : decode cX8_rewrite 57 = .ok (.bipush 8, 2) := by decide +kernel
theorem dX8_rewrite_59 : decode cX8_rewrite 59 = .ok (.if_icmp .ne 12, 3) := by decide +kernel
theorem dX8_rewrite_62 : decode cX8_rewrite 62 = .ok (.aload_n 0, 1) := by decide +kernel
theorem dX8_rewrite_63 : decode cX8_rewrite 63 = .ok (.iload_n 3, 1) := by decide +kernel
theorem dX8_rewrite_64 : decode cX8_rewrite 64 = .ok (.invokevirtual 289, 3) := by decide +kernel
theorem dX8_rewrite_67 : decode cX8_rewrite 67 = .ok (.istore_n 3, 1) := by decide +kernel
theorem dX8_rewrite_68 : decode cX8_rewrite 68 = .ok (.goto 45, 3) := by decide +kernel
theorem dX8_rewrite_71 : decode cX8_rewrite 71 = .ok (.iload_n 2, 1) := by decide +kernel
theorem dX8_rewrite_72 : decode cX8_rewrite 72 = .ok (.iconst 1, 1) := by decide +kernel
theorem dX8_rewrite_73 : decode cX8_rewrite 73 = .ok (.if_icmp .eq 8, 3) := by decide +kernel
theorem dX8_rewrite_76 : decode cX8_rewrite 76 = .ok (.iload_n 2, 1) := by decide +kernel
theorem dX8_rewrite_77 : decode cX8_rewrite 77 = .ok (.iconst 3, 1) := by decide +kernel
theorem dX8_rewrite_78 : decode cX8_rewrite 78 = .ok (.if_icmp .ne 14, 3) := by decide +kernel
theorem dX8_rewrite_81 : decode cX8_rewrite 81 = .ok (.aload_n 0, 1) := by decide +kernel
theorem dX8_rewrite_82 : decode cX8_rewrite 82 = .ok (.iload 4, 2) := by decide +kernel
theorem dX8_rewrite_84 : decode cX8_rewrite 84 = .ok (.invokevirtual 289, 3) := by decide +kernel
theorem dX8_rewrite_87 : decode cX8_rewrite 87 = .ok (.istore 4, 2) := by decide +kernel
theorem dX8_rewrite_89 : decode cX8_rewrite 89 = .ok (.goto 24, 3) := by decide +kernel
theorem dX8_rewrite_92 : decode cX8_rewrite 92 = .ok (.iload_n 2, 1) := by decide +kernel
theorem dX8_rewrite_93 : decode cX8_rewrite 93 = .ok (.iconst 2, 1) := by decide +kernel
theorem dX8_rewrite_94 : decode cX8_rewrite 94 = .ok (.if_icmp .ne 19, 3) := by decide +kernel
theorem dX8_rewrite_97 : decode cX8_rewrite 97 = .ok (.aload_n 0, 1) := by decide +kernel
theorem dX8_rewrite_98 : decode cX8_rewrite 98 = .ok (.iload 4, 2) := by decide +kernel
theorem dX8_rewrite_100 : decode cX8_rewrite 100 = .ok (.invokevirtual 289, 3) := by decide +kernel
theorem dX8_rewrite_103 : decode cX8_rewrite 103 = .ok (.istore 4, 2) := by decide +kernel
theorem dX8_rewrite_105 : decode cX8_rewrite 105 = .ok (.aload_n 0, 1) := by decide +kernel
theorem dX8_rewrite_106 : decode cX8_rewrite 106 = .ok (.iload 5, 2) := by decide +kernel
theorem dX8_rewrite_108 : decode cX8_rewrite 108 = .ok (.invokevirtual 289, 3) := by decide +kernel
theorem dX8_rewrite_111 : decode cX8_rewrite 111 = .ok (.istore 5, 2) := by decide +kernel
theorem dX8_rewrite_113 : decode cX8_rewrite 113 = .ok (.iload_n 2, 1) := by decide +kernel
theorem dX8_rewrite_114 : decode cX8_rewrite 114 = .ok (.invokestatic 151, 3) := by decide +kernel
theorem dX8_rewrite_117 : decode cX8_rewrite 117 = .ok (.ifCond .eq 60, 3) := by decide +kernel
theorem dX8_rewrite_120 : decode cX8_rewrite 120 = .ok (.aload_n 0, 1) := by decide +kernel
theorem dX8_rewrite_121 : decode cX8_rewrite 121 = .ok (.iload_n 3, 1) := by decide +kernel
theorem dX8_rewrite_122 : decode cX8_rewrite 122 = .ok (.invokevirtual 279, 3) := by decide +kernel
theorem dX8_rewrite_125 : decode cX8_rewrite 125 = .ok (.ifCond .eq 52, 3) := by decide +kernel
theorem dX8_rewrite_128 : decode cX8_rewrite 128 = .ok (.bipush 16, 2) := by decide +kernel
theorem dX8_rewrite_130 : decode cX8_rewrite 130 = .ok (.aload_n 0, 1) := by decide +kernel
theorem dX8_rewrite_131 : decode cX8_rewrite 131 = .ok (.getfield 282, 3) := by decide +kernel
theorem dX8_rewrite_134 : decode cX8_rewrite 134 = .ok (.iadd, 1) := by decide +kernel
theorem dX8_rewrite_135 : decode cX8_rewrite 135 = .ok (.istore 6, 2) := by decide +kernel
theorem dX8_rewrite_137 : decode cX8_rewrite 137 = .ok (.aload_n 0, 1) := by decide +kernel
theorem dX8_rewrite_138 : decode cX8_rewrite 138 = .ok (.dup, 1) := by decide +kernel
theorem dX8_rewrite_139 : decode cX8_rewrite 139 = .ok (.getfield 282, 3) := by decide +kernel
theorem dX8_rewrite_142 : decode cX8_rewrite 142 = .ok (.iconst 1, 1) := by decide +kernel
theorem dX8_rewrite_143 : decode cX8_rewrite 143 = .ok (.iadd, 1) := by decide +kernel
theorem dX8_rewrite_144 : decode cX8_rewrite 144 = .ok (.putfield 282, 3) := by decide +kernel
theorem dX8_rewrite_147 : decode cX8_rewrite 147 = .ok (.aload_n 0, 1) := by decide +kernel
theorem dX8_rewrite_148 : decode cX8_rewrite 148 = .ok (.iload_n 2, 1) := by decide +kernel
theorem dX8_rewrite_149 : decode cX8_rewrite 149 = .ok (.iload 6, 2) := by decide +kernel
theorem dX8_rewrite_151 : decode cX8_rewrite 151 = .ok (.iload 4, 2) := by decide +kernel
theorem dX8_rewrite_153 : decode cX8_rewrite 153 = .ok (.iload 5, 2) := by decide +kernel
theorem dX8_rewrite_155 : decode cX8_rewrite 155 = .ok (.invokevirtual 285, 3) := by decide +kernel
theorem dX8_rewrite_158 : decode cX8_rewrite 158 = .ok (.aload_n 0, 1) := by decide +kernel
theorem dX8_rewrite_159 : decode cX8_rewrite 159 = .ok (.bipush 8, 2) := by decide +kernel
theorem dX8_rewrite_161 : decode cX8_rewrite 161 = .ok (.iload 6, 2) := by decide +kernel
theorem dX8_rewrite_163 : decode cX8_rewrite 163 = .ok (.aload_n 0, 1) := by decide +kernel
theorem dX8_rewrite_164 : decode cX8_rewrite 164 = .ok (.getfield 88, 3) := by decide +kernel
theorem dX8_rewrite_167 : decode cX8_rewrite 167 = .ok (.iload_n 3, 1) := by decide +kernel
theorem dX8_rewrite_168 : decode cX8_rewrite 168 = .ok (.iaload, 1) := by decide +kernel
theorem dX8_rewrite_169 : decode cX8_rewrite 169 = .ok (.bipush (-6), 2) := by decide +kernel
theorem dX8_rewrite_171 : decode cX8_rewrite 171 = .ok (.invokevirtual 285, 3) := by decide +kernel
theorem dX8_rewrite_174 : decode cX8_rewrite 174 = .ok (.goto 13, 3) := by decide +kernel
theorem dX8_rewrite_177 : decode cX8_rewrite 177 = .ok (.aload_n 0, 1) := by decide +kernel
theorem dX8_rewrite_178 : decode cX8_rewrite 178 = .ok (.iload_n 2, 1) := by decide +kernel
theorem dX8_rewrite_179 : decode cX8_rewrite 179 = .ok (.iload_n 3, 1) := by decide +kernel
theorem dX8_rewrite_180 : decode cX8_rewrite 180 = .ok (.iload 4, 2) := by decide +kernel
theorem dX8_rewrite_182 : decode cX8_rewrite 182 = .ok (.iload 5, 2) := by decide +kernel
theorem dX8_rewrite_184 : decode cX8_rewrite 184 = .ok (.invokevirtual 285, 3) := by decide +kernel
theorem dX8_rewrite_187 : decode cX8_rewrite 187 = .ok (.iinc 1 1, 3) := by decide +kernel
theorem dX8_rewrite_190 : decode cX8_rewrite 190 = .ok (.goto (-183), 3) := by decide +kernel
theorem dX8_rewrite_193 : decode cX8_rewrite 193 = .ok (.return_, 1) := by decide +kernel
theorem dX8_goRounds_0 : decode cX8_goRounds 0 = .ok (.aload_n 0, 1) := by decide +kernel
theorem dX8_goRounds_1 : decode cX8_goRounds 1 = .ok (.invokevirtual 174, 3) := by decide +kernel
theorem dX8_goRounds_4 : decode cX8_goRounds 4 = .ok (.aload_n 0, 1) := by decide +kernel
theorem dX8_goRounds_5 : decode cX8_goRounds 5 = .ok (.iconst 0, 1) := by decide +kernel
theorem dX8_goRounds_6 : decode cX8_goRounds 6 = .ok (.putfield 292, 3) := by decide +kernel
theorem dX8_goRounds_9 : decode cX8_goRounds 9 = .ok (.aload_n 0, 1) := by decide +kernel
theorem dX8_goRounds_10 : decode cX8_goRounds 10 = .ok (.iconst 0, 1) := by decide +kernel
theorem dX8_goRounds_11 : decode cX8_goRounds 11 = .ok (.putfield 295, 3) := by decide +kernel
theorem dX8_goRounds_14 : decode cX8_goRounds 14 = .ok (.aload_n 0, 1) := by decide +kernel
theorem dX8_goRounds_15 : decode cX8_goRounds 15 = .ok (.iconst 0, 1) := by decide +kernel
theorem dX8_goRounds_16 : decode cX8_goRounds 16 = .ok (.putfield 282, 3) := by decide +kernel
theorem dX8_goRounds_19 : decode cX8_goRounds 19 = .ok (.iconst 0, 1) := by decide +kernel
theorem dX8_goRounds_20 : decode cX8_goRounds 20 = .ok (.istore_n 1, 1) := by decide +kernel
theorem dX8_goRounds_21 : decode cX8_goRounds 21 = .ok (.iload_n 1, 1) := by decide +kernel
theorem dX8_goRounds_22 : decode cX8_goRounds 22 = .ok (.bipush 16, 2) := by decide +kernel
theorem dX8_goRounds_24 : decode cX8_goRounds 24 = .ok (.if_icmp .ge 17, 3) := by decide +kernel
theorem dX8_goRounds_27 : decode cX8_goRounds 27 = .ok (.aload_n 0, 1) := by decide +kernel
theorem dX8_goRounds_28 : decode cX8_goRounds 28 = .ok (.getfield 91, 3) := by decide +kernel
theorem dX8_goRounds_31 : decode cX8_goRounds 31 = .ok (.iload_n 1, 1) := by decide +kernel
theorem dX8_goRounds_32 : decode cX8_goRounds 32 = .ok (.bipush (-6), 2) := by decide +kernel
theorem dX8_goRounds_34 : decode cX8_goRounds 34 = .ok (.iastore, 1) := by decide +kernel
theorem dX8_goRounds_35 : decode cX8_goRounds 35 = .ok (.iinc 1 1, 3) := by decide +kernel
theorem dX8_goRounds_38 : decode cX8_goRounds 38 = .ok (.goto (-17), 3) := by decide +kernel
theorem dX8_goRounds_41 : decode cX8_goRounds 41 = .ok (.aload_n 0, 1) := by decide +kernel
theorem dX8_goRounds_42 : decode cX8_goRounds 42 = .ok (.dup, 1) := by decide +kernel
theorem dX8_goRounds_43 : decode cX8_goRounds 43 = .ok (.getfield 292, 3) := by decide +kernel
theorem dX8_goRounds_46 : decode cX8_goRounds 46 = .ok (.iconst 1, 1) := by decide +kernel
theorem dX8_goRounds_47 : decode cX8_goRounds 47 = .ok (.iadd, 1) := by decide +kernel
theorem dX8_goRounds_48 : decode cX8_goRounds 48 = .ok (.putfield 292, 3) := by decide +kernel
theorem dX8_goRounds_51 : decode cX8_goRounds 51 = .ok (.aload_n 0, 1) := by decide +kernel
theorem dX8_goRounds_52 : decode cX8_goRounds 52 = .ok (.getfield 292, 3) := by decide +kernel
theorem dX8_goRounds_55 : decode cX8_goRounds 55 = .ok (.bipush 6, 2) := by decide +kernel
theorem dX8_goRounds_57 : decode cX8_goRounds 57 = .ok (.if_icmp .le 5, 3) := by decide +kernel
theorem dX8_goRounds_60 : decode cX8_goRounds 60 = .ok (.iconst 0, 1) := by decide +kernel
theorem dX8_goRounds_61 : decode cX8_goRounds 61 = .ok (.ireturn, 1) := by decide +kernel
theorem dX8_goRounds_62 : decode cX8_goRounds 62 = .ok (.aload_n 0, 1) := by decide +kernel
theorem dX8_goRounds_63 : decode cX8_goRounds 63 = .ok (.invokevirtual 298, 3) := by decide +kernel
theorem dX8_goRounds_66 : decode cX8_goRounds 66 = .ok (.istore_n 1, 1) := by decide +kernel
theorem dX8_goRounds_67 : decode cX8_goRounds 67 = .ok (.aload_n 0, 1) := by decide +kernel
theorem dX8_goRounds_68 : decode cX8_goRounds 68 = .ok (.invokevirtual 255, 3) := by decide +kernel
theorem dX8_goRounds_71 : decode cX8_goRounds 71 = .ok (.lstore_n 2, 1) := by decide +kernel
theorem dX8_goRounds_72 : decode cX8_goRounds 72 = .ok (.iload_n 1, 1) := by decide +kernel
theorem dX8_goRounds_73 : decode cX8_goRounds 73 = .ok (.ifCond .ne 58, 3) := by decide +kernel
theorem dX8_goRounds_76 : decode cX8_goRounds 76 = .ok (.iconst 4, 1) := by decide +kernel
theorem dX8_goRounds_77 : decode cX8_goRounds 77 = .ok (.istore 4, 2) := by decide +kernel
theorem dX8_goRounds_79 : decode cX8_goRounds 79 = .ok (.iload 4, 2) := by decide +kernel
theorem dX8_goRounds_81 : decode cX8_goRounds 81 = .ok (.bipush 16, 2) := by decide +kernel
theorem dX8_goRounds_83 : decode cX8_goRounds 83 = .ok (.if_icmp .ge 46, 3) := by decide +kernel
theorem dX8_goRounds_86 : decode cX8_goRounds 86 = .ok (.aload_n 0, 1) := by decide +kernel
theorem dX8_goRounds_87 : decode cX8_goRounds 87 = .ok (.getfield 91, 3) := by decide +kernel
theorem dX8_goRounds_90 : decode cX8_goRounds 90 = .ok (.iload 4, 2) := by decide +kernel
theorem dX8_goRounds_92 : decode cX8_goRounds 92 = .ok (.lload_n 2, 1) := by decide +kernel
theorem dX8_goRounds_93 : decode cX8_goRounds 93 = .ok (.iload 4, 2) := by decide +kernel
theorem dX8_goRounds_95 : decode cX8_goRounds 95 = .ok (.invokestatic 109, 3) := by decide +kernel
theorem dX8_goRounds_98 : decode cX8_goRounds 98 = .ok (.ifCond .eq 17, 3) := by decide +kernel
theorem dX8_goRounds_101 : decode cX8_goRounds 101 = .ok (.aload_n 0, 1) := by decide +kernel
theorem dX8_goRounds_102 : decode cX8_goRounds 102 = .ok (.getfield 82, 3) := by decide +kernel
theorem dX8_goRounds_105 : decode cX8_goRounds 105 = .ok (.aload_n 0, 1) := by decide +kernel
theorem dX8_goRounds_106 : decode cX8_goRounds 106 = .ok (.iload 4, 2) := by decide +kernel
theorem dX8_goRounds_108 : decode cX8_goRounds 108 = .ok (.invokevirtual 221, 3) := by decide +kernel
theorem dX8_goRounds_111 : decode cX8_goRounds 111 = .ok (.iaload, 1) := by decide +kernel
theorem dX8_goRounds_112 : decode cX8_goRounds 112 = .ok (.goto 10, 3) := by decide +kernel
theorem dX8_goRounds_115 : decode cX8_goRounds 115 = .ok (.aload_n 0, 1) := by decide +kernel
theorem dX8_goRounds_116 : decode cX8_goRounds 116 = .ok (.getfield 91, 3) := by decide +kernel
theorem dX8_goRounds_119 : decode cX8_goRounds 119 = .ok (.iload 4, 2) := by decide +kernel
theorem dX8_goRounds_121 : decode cX8_goRounds 121 = .ok (.iaload, 1) := by decide +kernel
theorem dX8_goRounds_122 : decode cX8_goRounds 122 = .ok (.iastore, 1) := by decide +kernel
theorem dX8_goRounds_123 : decode cX8_goRounds 123 = .ok (.iinc 4 1, 3) := by decide +kernel
theorem dX8_goRounds_126 : decode cX8_goRounds 126 = .ok (.goto (-47), 3) := by decide +kernel
theorem dX8_goRounds_129 : decode cX8_goRounds 129 = .ok (.iconst 1, 1) := by decide +kernel
theorem dX8_goRounds_130 : decode cX8_goRounds 130 = .ok (.ireturn, 1) := by decide +kernel
theorem dX8_goRounds_131 : decode cX8_goRounds 131 = .ok (.iconst 0, 1) := by decide +kernel
theorem dX8_goRounds_132 : decode cX8_goRounds 132 = .ok (.istore 4, 2) := by decide +kernel
theorem dX8_goRounds_134 : decode cX8_goRounds 134 = .ok (.iload 4, 2) := by decide +kernel
theorem dX8_goRounds_136 : decode cX8_goRounds 136 = .ok (.bipush 64, 2) := by decide +kernel
theorem dX8_goRounds_138 : decode cX8_goRounds 138 = .ok (.if_icmp .ge 18, 3) := by decide +kernel
theorem dX8_goRounds_141 : decode cX8_goRounds 141 = .ok (.aload_n 0, 1) := by decide +kernel
theorem dX8_goRounds_142 : decode cX8_goRounds 142 = .ok (.getfield 88, 3) := by decide +kernel
theorem dX8_goRounds_145 : decode cX8_goRounds 145 = .ok (.iload 4, 2) := by decide +kernel
theorem dX8_goRounds_147 : decode cX8_goRounds 147 = .ok (.bipush (-6), 2) := by decide +kernel
theorem dX8_goRounds_149 : decode cX8_goRounds 149 = .ok (.iastore, 1) := by decide +kernel
theorem dX8_goRounds_150 : decode cX8_goRounds 150 = .ok (.iinc 4 1, 3) := by decide +kernel
theorem dX8_goRounds_153 : decode cX8_goRounds 153 = .ok (.goto (-19), 3) := by decide +kernel
theorem dX8_goRounds_156 : decode cX8_goRounds 156 = .ok (.iconst 4, 1) := by decide +kernel
theorem dX8_goRounds_157 : decode cX8_goRounds 157 = .ok (.istore 4, 2) := by decide +kernel
theorem dX8_goRounds_159 : decode cX8_goRounds 159 = .ok (.iload 4, 2) := by decide +kernel
theorem dX8_goRounds_161 : decode cX8_goRounds 161 = .ok (.bipush 64, 2) := by decide +kernel
theorem dX8_goRounds_163 : decode cX8_goRounds 163 = .ok (.if_icmp .ge 60, 3) := by decide +kernel
theorem dX8_goRounds_166 : decode cX8_goRounds 166 = .ok (.lload_n 2, 1) := by decide +kernel
theorem dX8_goRounds_167 : decode cX8_goRounds 167 = .ok (.iload 4, 2) := by decide +kernel
theorem dX8_goRounds_169 : decode cX8_goRounds 169 = .ok (.invokestatic 109, 3) := by decide +kernel
theorem dX8_goRounds_172 : decode cX8_goRounds 172 = .ok (.ifCond .eq 45, 3) := by decide +kernel
theorem dX8_goRounds_175 : decode cX8_goRounds 175 = .ok (.aload_n 0, 1) := by decide +kernel
theorem dX8_goRounds_176 : decode cX8_goRounds 176 = .ok (.iload 4, 2) := by decide +kernel
theorem dX8_goRounds_178 : decode cX8_goRounds 178 = .ok (.invokevirtual 221, 3) := by decide +kernel
theorem dX8_goRounds_181 : decode cX8_goRounds 181 = .ok (.iload 4, 2) := by decide +kernel
theorem dX8_goRounds_183 : decode cX8_goRounds 183 = .ok (.if_icmp .ne 34, 3) := by decide +kernel
theorem dX8_goRounds_186 : decode cX8_goRounds 186 = .ok (.aload_n 0, 1) := by decide +kernel
theorem dX8_goRounds_187 : decode cX8_goRounds 187 = .ok (.getfield 82, 3) := by decide +kernel
theorem dX8_goRounds_190 : decode cX8_goRounds 190 = .ok (.iload 4, 2) := by decide +kernel
theorem dX8_goRounds_192 : decode cX8_goRounds 192 = .ok (.iaload, 1) := by decide +kernel
theorem dX8_goRounds_193 : decode cX8_goRounds 193 = .ok (.ifCond .ge 24, 3) := by decide +kernel
theorem dX8_goRounds_196 : decode cX8_goRounds 196 = .ok (.aload_n 0, 1) := by decide +kernel
theorem dX8_goRounds_197 : decode cX8_goRounds 197 = .ok (.getfield 88, 3) := by decide +kernel
theorem dX8_goRounds_200 : decode cX8_goRounds 200 = .ok (.iload 4, 2) := by decide +kernel
theorem dX8_goRounds_202 : decode cX8_goRounds 202 = .ok (.aload_n 0, 1) := by decide +kernel
theorem dX8_goRounds_203 : decode cX8_goRounds 203 = .ok (.getfield 295, 3) := by decide +kernel
theorem dX8_goRounds_206 : decode cX8_goRounds 206 = .ok (.iastore, 1) := by decide +kernel
theorem dX8_goRounds_207 : decode cX8_goRounds 207 = .ok (.aload_n 0, 1) := by decide +kernel
theorem dX8_goRounds_208 : decode cX8_goRounds 208 = .ok (.dup, 1) := by decide +kernel
theorem dX8_goRounds_209 : decode cX8_goRounds 209 = .ok (.getfield 295, 3) := by decide +kernel
theorem dX8_goRounds_212 : decode cX8_goRounds 212 = .ok (.iconst 1, 1) := by decide +kernel
theorem dX8_goRounds_213 : decode cX8_goRounds 213 = .ok (.iadd, 1) := by decide +kernel
theorem dX8_goRounds_214 : decode cX8_goRounds 214 = .ok (.putfield 295, 3) := by decide +kernel
theorem dX8_goRounds_217 : decode cX8_goRounds 217 = .ok (.iinc 4 1, 3) := by decide +kernel
theorem dX8_goRounds_220 : decode cX8_goRounds 220 = .ok (.goto (-61), 3) := by decide +kernel
theorem dX8_goRounds_223 : decode cX8_goRounds 223 = .ok (.iconst 4, 1) := by decide +kernel
theorem dX8_goRounds_224 : decode cX8_goRounds 224 = .ok (.istore 4, 2) := by decide +kernel
theorem dX8_goRounds_226 : decode cX8_goRounds 226 = .ok (.iload 4, 2) := by decide +kernel
theorem dX8_goRounds_228 : decode cX8_goRounds 228 = .ok (.bipush 64, 2) := by decide +kernel
theorem dX8_goRounds_230 : decode cX8_goRounds 230 = .ok (.if_icmp .ge 74, 3) := by decide +kernel
theorem dX8_goRounds_233 : decode cX8_goRounds 233 = .ok (.lload_n 2, 1) := by decide +kernel
theorem dX8_goRounds_234 : decode cX8_goRounds 234 = .ok (.iload 4, 2) := by decide +kernel
theorem dX8_goRounds_236 : decode cX8_goRounds 236 = .ok (.invokestatic 109, 3) := by decide +kernel
theorem dX8_goRounds_239 : decode cX8_goRounds 239 = .ok (.ifCond .eq 59, 3) := by decide +kernel
theorem dX8_goRounds_242 : decode cX8_goRounds 242 = .ok (.aload_n 0, 1) := by decide +kernel
theorem dX8_goRounds_243 : decode cX8_goRounds 243 = .ok (.getfield 82, 3) := by decide +kernel
theorem dX8_goRounds_246 : decode cX8_goRounds 246 = .ok (.aload_n 0, 1) := by decide +kernel
theorem dX8_goRounds_247 : decode cX8_goRounds 247 = .ok (.iload 4, 2) := by decide +kernel
theorem dX8_goRounds_249 : decode cX8_goRounds 249 = .ok (.invokevirtual 221, 3) := by decide +kernel
theorem dX8_goRounds_252 : decode cX8_goRounds 252 = .ok (.iaload, 1) := by decide +kernel
theorem dX8_goRounds_253 : decode cX8_goRounds 253 = .ok (.ifCond .ge 45, 3) := by decide +kernel
theorem dX8_goRounds_256 : decode cX8_goRounds 256 = .ok (.aload_n 0, 1) := by decide +kernel
theorem dX8_goRounds_257 : decode cX8_goRounds 257 = .ok (.getfield 88, 3) := by decide +kernel
theorem dX8_goRounds_260 : decode cX8_goRounds 260 = .ok (.iload 4, 2) := by decide +kernel
theorem dX8_goRounds_262 : decode cX8_goRounds 262 = .ok (.aload_n 0, 1) := by decide +kernel
theorem dX8_goRounds_263 : decode cX8_goRounds 263 = .ok (.getfield 88, 3) := by decide +kernel
theorem dX8_goRounds_266 : decode cX8_goRounds 266 = .ok (.aload_n 0, 1) := by decide +kernel
theorem dX8_goRounds_267 : decode cX8_goRounds 267 = .ok (.iload 4, 2) := by decide +kernel
theorem dX8_goRounds_269 : decode cX8_goRounds 269 = .ok (.invokevirtual 221, 3) := by decide +kernel
theorem dX8_goRounds_272 : decode cX8_goRounds 272 = .ok (.iaload, 1) := by decide +kernel
theorem dX8_goRounds_273 : decode cX8_goRounds 273 = .ok (.iastore, 1) := by decide +kernel
theorem dX8_goRounds_274 : decode cX8_goRounds 274 = .ok (.iload 4, 2) := by decide +kernel
theorem dX8_goRounds_276 : decode cX8_goRounds 276 = .ok (.bipush 16, 2) := by decide +kernel
theorem dX8_goRounds_278 : decode cX8_goRounds 278 = .ok (.if_icmp .ge 20, 3) := by decide +kernel
theorem dX8_goRounds_281 : decode cX8_goRounds 281 = .ok (.aload_n 0, 1) := by decide +kernel
theorem dX8_goRounds_282 : decode cX8_goRounds 282 = .ok (.getfield 91, 3) := by decide +kernel
theorem dX8_goRounds_285 : decode cX8_goRounds 285 = .ok (.iload 4, 2) := by decide +kernel
theorem dX8_goRounds_287 : decode cX8_goRounds 287 = .ok (.bipush 10, 2) := by decide +kernel
theorem dX8_goRounds_289 : decode cX8_goRounds 289 = .ok (.aload_n 0, 1) := by decide +kernel
theorem dX8_goRounds_290 : decode cX8_goRounds 290 = .ok (.getfield 88, 3) := by decide +kernel
theorem dX8_goRounds_293 : decode cX8_goRounds 293 = .ok (.iload 4, 2) := by decide +kernel
theorem dX8_goRounds_295 : decode cX8_goRounds 295 = .ok (.iaload, 1) := by decide +kernel
theorem dX8_goRounds_296 : decode cX8_goRounds 296 = .ok (.iadd, 1) := by decide +kernel
theorem dX8_goRounds_297 : decode cX8_goRounds 297 = .ok (.iastore, 1) := by decide +kernel
theorem dX8_goRounds_298 : decode cX8_goRounds 298 = .ok (.iinc 4 1, 3) := by decide +kernel
theorem dX8_goRounds_301 : decode cX8_goRounds 301 = .ok (.goto (-75), 3) := by decide +kernel
theorem dX8_goRounds_304 : decode cX8_goRounds 304 = .ok (.aload_n 0, 1) := by decide +kernel
theorem dX8_goRounds_305 : decode cX8_goRounds 305 = .ok (.invokevirtual 301, 3) := by decide +kernel
theorem dX8_goRounds_308 : decode cX8_goRounds 308 = .ok (.aload_n 0, 1) := by decide +kernel
theorem dX8_goRounds_309 : decode cX8_goRounds 309 = .ok (.getfield 276, 3) := by decide +kernel
theorem dX8_goRounds_312 : decode cX8_goRounds 312 = .ok (.bipush 90, 2) := by decide +kernel
theorem dX8_goRounds_314 : decode cX8_goRounds 314 = .ok (.if_icmp .gt 12, 3) := by decide +kernel
theorem dX8_goRounds_317 : decode cX8_goRounds 317 = .ok (.aload_n 0, 1) := by decide +kernel
theorem dX8_goRounds_318 : decode cX8_goRounds 318 = .ok (.getfield 282, 3) := by decide +kernel
theorem dX8_goRounds_321 : decode cX8_goRounds 321 = .ok (.bipush 48, 2) := by decide +kernel
theorem dX8_goRounds_323 : decode cX8_goRounds 323 = .ok (.if_icmp .le 5, 3) := by decide +kernel
theorem dX8_goRounds_326 : decode cX8_goRounds 326 = .ok (.iconst 0, 1) := by decide +kernel
theorem dX8_goRounds_327 : decode cX8_goRounds 327 = .ok (.ireturn, 1) := by decide +kernel
theorem dX8_goRounds_328 : decode cX8_goRounds 328 = .ok (.aload_n 0, 1) := by decide +kernel
theorem dX8_goRounds_329 : decode cX8_goRounds 329 = .ok (.aload_n 0, 1) := by decide +kernel
theorem dX8_goRounds_330 : decode cX8_goRounds 330 = .ok (.getfield 276, 3) := by decide +kernel
theorem dX8_goRounds_333 : decode cX8_goRounds 333 = .ok (.putfield 148, 3) := by decide +kernel
theorem dX8_goRounds_336 : decode cX8_goRounds 336 = .ok (.iconst 0, 1) := by decide +kernel
theorem dX8_goRounds_337 : decode cX8_goRounds 337 = .ok (.istore 4, 2) := by decide +kernel
theorem dX8_goRounds_339 : decode cX8_goRounds 339 = .ok (.iload 4, 2) := by decide +kernel
theorem dX8_goRounds_341 : decode cX8_goRounds 341 = .ok (.aload_n 0, 1) := by decide +kernel
theorem dX8_goRounds_342 : decode cX8_goRounds 342 = .ok (.getfield 276, 3) := by decide +kernel
theorem dX8_goRounds_345 : decode cX8_goRounds 345 = .ok (.if_icmp .ge 65, 3) := by decide +kernel
theorem dX8_goRounds_348 : decode cX8_goRounds 348 = .ok (.aload_n 0, 1) := by decide +kernel
theorem dX8_goRounds_349 : decode cX8_goRounds 349 = .ok (.getfield 29, 3) := by decide +kernel
theorem dX8_goRounds_352 : decode cX8_goRounds 352 = .ok (.iload 4, 2) := by decide +kernel
theorem dX8_goRounds_354 : decode cX8_goRounds 354 = .ok (.aload_n 0, 1) := by decide +kernel
theorem dX8_goRounds_355 : decode cX8_goRounds 355 = .ok (.getfield 41, 3) := by decide +kernel
theorem dX8_goRounds_358 : decode cX8_goRounds 358 = .ok (.iload 4, 2) := by decide +kernel
theorem dX8_goRounds_360 : decode cX8_goRounds 360 = .ok (.iaload, 1) := by decide +kernel
theorem dX8_goRounds_361 : decode cX8_goRounds 361 = .ok (.iastore, 1) := by decide +kernel
theorem dX8_goRounds_362 : decode cX8_goRounds 362 = .ok (.aload_n 0, 1) := by decide +kernel
theorem dX8_goRounds_363 : decode cX8_goRounds 363 = .ok (.getfield 32, 3) := by decide +kernel
theorem dX8_goRounds_366 : decode cX8_goRounds 366 = .ok (.iload 4, 2) := by decide +kernel
theorem dX8_goRounds_368 : decode cX8_goRounds 368 = .ok (.aload_n 0, 1) := by decide +kernel
theorem dX8_goRounds_369 : decode cX8_goRounds 369 = .ok (.getfield 44, 3) := by decide +kernel
theorem dX8_goRounds_372 : decode cX8_goRounds 372 = .ok (.iload 4, 2) := by decide +kernel
theorem dX8_goRounds_374 : decode cX8_goRounds 374 = .ok (.iaload, 1) := by decide +kernel
theorem dX8_goRounds_375 : decode cX8_goRounds 375 = .ok (.iastore, 1) := by decide +kernel
theorem dX8_goRounds_376 : decode cX8_goRounds 376 = .ok (.aload_n 0, 1) := by decide +kernel
theorem dX8_goRounds_377 : decode cX8_goRounds 377 = .ok (.getfield 35, 3) := by decide +kernel
theorem dX8_goRounds_380 : decode cX8_goRounds 380 = .ok (.iload 4, 2) := by decide +kernel
theorem dX8_goRounds_382 : decode cX8_goRounds 382 = .ok (.aload_n 0, 1) := by decide +kernel
theorem dX8_goRounds_383 : decode cX8_goRounds 383 = .ok (.getfield 47, 3) := by decide +kernel
theorem dX8_goRounds_386 : decode cX8_goRounds 386 = .ok (.iload 4, 2) := by decide +kernel
theorem dX8_goRounds_388 : decode cX8_goRounds 388 = .ok (.iaload, 1) := by decide +kernel
theorem dX8_goRounds_389 : decode cX8_goRounds 389 = .ok (.iastore, 1) := by decide +kernel
theorem dX8_goRounds_390 : decode cX8_goRounds 390 = .ok (.aload_n 0, 1) := by decide +kernel
theorem dX8_goRounds_391 : decode cX8_goRounds 391 = .ok (.getfield 38, 3) := by decide +kernel
theorem dX8_goRounds_394 : decode cX8_goRounds 394 = .ok (.iload 4, 2) := by decide +kernel
theorem dX8_goRounds_396 : decode cX8_goRounds 396 = .ok (.aload_n 0, 1) := by decide +kernel
theorem dX8_goRounds_397 : decode cX8_goRounds 397 = .ok (.getfield 50, 3) := by decide +kernel
theorem dX8_goRounds_400 : decode cX8_goRounds 400 = .ok (.iload 4, 2) := by decide +kernel
theorem dX8_goRounds_402 : decode cX8_goRounds 402 = .ok (.iaload, 1) := by decide +kernel
theorem dX8_goRounds_403 : decode cX8_goRounds 403 = .ok (.iastore, 1) := by decide +kernel
theorem dX8_goRounds_404 : decode cX8_goRounds 404 = .ok (.iinc 4 1, 3) := by decide +kernel
theorem dX8_goRounds_407 : decode cX8_goRounds 407 = .ok (.goto (-68), 3) := by decide +kernel
theorem dX8_goRounds_410 : decode cX8_goRounds 410 = .ok (.goto (-369), 3) := by decide +kernel
theorem dX8_firstRound_0 : decode cX8_firstRound 0 = .ok (.aload_n 0, 1) := by decide +kernel
theorem dX8_firstRound_1 : decode cX8_firstRound 1 = .ok (.invokevirtual 174, 3) := by decide +kernel
theorem dX8_firstRound_4 : decode cX8_firstRound 4 = .ok (.aload_n 0, 1) := by decide +kernel
theorem dX8_firstRound_5 : decode cX8_firstRound 5 = .ok (.iconst 0, 1) := by decide +kernel
theorem dX8_firstRound_6 : decode cX8_firstRound 6 = .ok (.putfield 208, 3) := by decide +kernel
theorem dX8_firstRound_9 : decode cX8_firstRound 9 = .ok (.aload_n 0, 1) := by decide +kernel
theorem dX8_firstRound_10 : decode cX8_firstRound 10 = .ok (.iconst 1, 1) := by decide +kernel
theorem dX8_firstRound_11 : decode cX8_firstRound 11 = .ok (.putfield 204, 3) := by decide +kernel
theorem dX8_firstRound_14 : decode cX8_firstRound 14 = .ok (.aload_n 0, 1) := by decide +kernel
theorem dX8_firstRound_15 : decode cX8_firstRound 15 = .ok (.invokevirtual 298, 3) := by decide +kernel
theorem dX8_firstRound_18 : decode cX8_firstRound 18 = .ok (.pop, 1) := by decide +kernel
theorem dX8_firstRound_19 : decode cX8_firstRound 19 = .ok (.aload_n 0, 1) := by decide +kernel
theorem dX8_firstRound_20 : decode cX8_firstRound 20 = .ok (.iconst 0, 1) := by decide +kernel
theorem dX8_firstRound_21 : decode cX8_firstRound 21 = .ok (.putfield 204, 3) := by decide +kernel
theorem dX8_firstRound_24 : decode cX8_firstRound 24 = .ok (.return_, 1) := by decide +kernel
theorem dX8_step_0 : decode cX8_step 0 = .ok (.aload_n 0, 1) := by decide +kernel
theorem dX8_step_1 : decode cX8_step 1 = .ok (.invokevirtual 304, 3) := by decide +kernel
theorem dX8_step_4 : decode cX8_step 4 = .ok (.iload_n 1, 1) := by decide +kernel
theorem dX8_step_5 : decode cX8_step 5 = .ok (.iconst (-1), 1) := by decide +kernel
theorem dX8_step_6 : decode cX8_step 6 = .ok (.if_icmp .ne 10, 3) := by decide +kernel
theorem dX8_step_9 : decode cX8_step 9 = .ok (.aload_n 0, 1) := by decide +kernel
theorem dX8_step_10 : decode cX8_step 10 = .ok (.getfield 208, 3) := by decide +kernel
theorem dX8_step_13 : decode cX8_step 13 = .ok (.goto 28, 3) := by decide +kernel
theorem dX8_step_16 : decode cX8_step 16 = .ok (.iload_n 1, 1) := by decide +kernel
theorem dX8_step_17 : decode cX8_step 17 = .ok (.iconst 0, 1) := by decide +kernel
theorem dX8_step_18 : decode cX8_step 18 = .ok (.aload_n 0, 1) := by decide +kernel
theorem dX8_step_19 : decode cX8_step 19 = .ok (.getfield 208, 3) := by decide +kernel
theorem dX8_step_22 : decode cX8_step 22 = .ok (.iconst 1, 1) := by decide +kernel
theorem dX8_step_23 : decode cX8_step 23 = .ok (.isub, 1) := by decide +kernel
theorem dX8_step_24 : decode cX8_step 24 = .ok (.invokestatic 113, 3) := by decide +kernel
theorem dX8_step_27 : decode cX8_step 27 = .ok (.ifCond .eq 12, 3) := by decide +kernel
theorem dX8_step_30 : decode cX8_step 30 = .ok (.aload_n 0, 1) := by decide +kernel
theorem dX8_step_31 : decode cX8_step 31 = .ok (.getfield 85, 3) := by decide +kernel
theorem dX8_step_34 : decode cX8_step 34 = .ok (.iload_n 1, 1) := by decide +kernel
theorem dX8_step_35 : decode cX8_step 35 = .ok (.iaload, 1) := by decide +kernel
theorem dX8_step_36 : decode cX8_step 36 = .ok (.goto 5, 3) := by decide +kernel
theorem dX8_step_39 : decode cX8_step 39 = .ok (.bipush (-6), 2) := by decide +kernel
theorem dX8_step_41 : decode cX8_step 41 = .ok (.ireturn, 1) := by decide +kernel
theorem dX8_spilled_0 : decode cX8_spilled 0 = .ok (.aload_n 0, 1) := by decide +kernel
theorem dX8_spilled_1 : decode cX8_spilled 1 = .ok (.invokevirtual 304, 3) := by decide +kernel
theorem dX8_spilled_4 : decode cX8_spilled 4 = .ok (.aload_n 0, 1) := by decide +kernel
theorem dX8_spilled_5 : decode cX8_spilled 5 = .ok (.invokevirtual 255, 3) := by decide +kernel
theorem dX8_spilled_8 : decode cX8_spilled 8 = .ok (.lstore_n 2, 1) := by decide +kernel
theorem dX8_spilled_9 : decode cX8_spilled 9 = .ok (.iconst 0, 1) := by decide +kernel
theorem dX8_spilled_10 : decode cX8_spilled 10 = .ok (.istore 4, 2) := by decide +kernel
theorem dX8_spilled_12 : decode cX8_spilled 12 = .ok (.iconst 4, 1) := by decide +kernel
theorem dX8_spilled_13 : decode cX8_spilled 13 = .ok (.istore 5, 2) := by decide +kernel
theorem dX8_spilled_15 : decode cX8_spilled 15 = .ok (.iload 5, 2) := by decide +kernel
theorem dX8_spilled_17 : decode cX8_spilled 17 = .ok (.bipush 64, 2) := by decide +kernel
theorem dX8_spilled_19 : decode cX8_spilled 19 = .ok (.if_icmp .ge 51, 3) := by decide +kernel
theorem dX8_spilled_22 : decode cX8_spilled 22 = .ok (.lload_n 2, 1) := by decide +kernel
theorem dX8_spilled_23 : decode cX8_spilled 23 = .ok (.iload 5, 2) := by decide +kernel
theorem dX8_spilled_25 : decode cX8_spilled 25 = .ok (.invokestatic 109, 3) := by decide +kernel
theorem dX8_spilled_28 : decode cX8_spilled 28 = .ok (.ifCond .eq 36, 3) := by decide +kernel
theorem dX8_spilled_31 : decode cX8_spilled 31 = .ok (.aload_n 0, 1) := by decide +kernel
theorem dX8_spilled_32 : decode cX8_spilled 32 = .ok (.iload 5, 2) := by decide +kernel
theorem dX8_spilled_34 : decode cX8_spilled 34 = .ok (.invokevirtual 221, 3) := by decide +kernel
theorem dX8_spilled_37 : decode cX8_spilled 37 = .ok (.iload 5, 2) := by decide +kernel
theorem dX8_spilled_39 : decode cX8_spilled 39 = .ok (.if_icmp .ne 25, 3) := by decide +kernel
theorem dX8_spilled_42 : decode cX8_spilled 42 = .ok (.aload_n 0, 1) := by decide +kernel
theorem dX8_spilled_43 : decode cX8_spilled 43 = .ok (.getfield 82, 3) := by decide +kernel
theorem dX8_spilled_46 : decode cX8_spilled 46 = .ok (.iload 5, 2) := by decide +kernel
theorem dX8_spilled_48 : decode cX8_spilled 48 = .ok (.iaload, 1) := by decide +kernel
theorem dX8_spilled_49 : decode cX8_spilled 49 = .ok (.ifCond .ge 15, 3) := by decide +kernel
theorem dX8_spilled_52 : decode cX8_spilled 52 = .ok (.iload 4, 2) := by decide +kernel
theorem dX8_spilled_54 : decode cX8_spilled 54 = .ok (.iload_n 1, 1) := by decide +kernel
theorem dX8_spilled_55 : decode cX8_spilled 55 = .ok (.if_icmp .ne 6, 3) := by decide +kernel
theorem dX8_spilled_58 : decode cX8_spilled 58 = .ok (.iload 5, 2) := by decide +kernel
theorem dX8_spilled_60 : decode cX8_spilled 60 = .ok (.ireturn, 1) := by decide +kernel
theorem dX8_spilled_61 : decode cX8_spilled 61 = .ok (.iinc 4 1, 3) := by decide +kernel
theorem dX8_spilled_64 : decode cX8_spilled 64 = .ok (.iinc 5 1, 3) := by decide +kernel
theorem dX8_spilled_67 : decode cX8_spilled 67 = .ok (.goto (-52), 3) := by decide +kernel
theorem dX8_spilled_70 : decode cX8_spilled 70 = .ok (.iload_n 1, 1) := by decide +kernel
theorem dX8_spilled_71 : decode cX8_spilled 71 = .ok (.iconst (-1), 1) := by decide +kernel
theorem dX8_spilled_72 : decode cX8_spilled 72 = .ok (.if_icmp .ne 8, 3) := by decide +kernel
theorem dX8_spilled_75 : decode cX8_spilled 75 = .ok (.iload 4, 2) := by decide +kernel
theorem dX8_spilled_77 : decode cX8_spilled 77 = .ok (.goto 5, 3) := by decide +kernel
theorem dX8_spilled_80 : decode cX8_spilled 80 = .ok (.bipush (-6), 2) := by decide +kernel
theorem dX8_spilled_82 : decode cX8_spilled 82 = .ok (.ireturn, 1) := by decide +kernel
theorem dX8_register_0 : decode cX8_register 0 = .ok (.aload_n 0, 1) := by decide +kernel
theorem dX8_register_1 : decode cX8_register 1 = .ok (.getfield 82, 3) := by decide +kernel
theorem dX8_register_4 : decode cX8_register 4 = .ok (.aload_n 0, 1) := by decide +kernel
theorem dX8_register_5 : decode cX8_register 5 = .ok (.iload_n 1, 1) := by decide +kernel
theorem dX8_register_6 : decode cX8_register 6 = .ok (.invokevirtual 221, 3) := by decide +kernel
theorem dX8_register_9 : decode cX8_register 9 = .ok (.iaload, 1) := by decide +kernel
theorem dX8_register_10 : decode cX8_register 10 = .ok (.ireturn, 1) := by decide +kernel
theorem dX8_layCode_0 : decode cX8_layCode 0 = .ok (.aload_n 0, 1) := by decide +kernel
theorem dX8_layCode_1 : decode cX8_layCode 1 = .ok (.invokevirtual 307, 3) := by decide +kernel
theorem dX8_layCode_4 : decode cX8_layCode 4 = .ok (.ifCond .ne 5, 3) := by decide +kernel
theorem dX8_layCode_7 : decode cX8_layCode 7 = .ok (.iconst 0, 1) := by decide +kernel
theorem dX8_layCode_8 : decode cX8_layCode 8 = .ok (.ireturn, 1) := by decide +kernel
theorem dX8_layCode_9 : decode cX8_layCode 9 = .ok (.aload_n 0, 1) := by decide +kernel
theorem dX8_layCode_10 : decode cX8_layCode 10 = .ok (.iconst 0, 1) := by decide +kernel
theorem dX8_layCode_11 : decode cX8_layCode 11 = .ok (.putfield 276, 3) := by decide +kernel
theorem dX8_layCode_14 : decode cX8_layCode 14 = .ok (.aload_n 0, 1) := by decide +kernel
theorem dX8_layCode_15 : decode cX8_layCode 15 = .ok (.iconst 0, 1) := by decide +kernel
theorem dX8_layCode_16 : decode cX8_layCode 16 = .ok (.putfield 310, 3) := by decide +kernel
theorem dX8_layCode_19 : decode cX8_layCode 19 = .ok (.iconst 0, 1) := by decide +kernel
theorem dX8_layCode_20 : decode cX8_layCode 20 = .ok (.istore_n 1, 1) := by decide +kernel
theorem dX8_layCode_21 : decode cX8_layCode 21 = .ok (.iload_n 1, 1) := by decide +kernel
theorem dX8_layCode_22 : decode cX8_layCode 22 = .ok (.aload_n 0, 1) := by decide +kernel
theorem dX8_layCode_23 : decode cX8_layCode 23 = .ok (.getfield 148, 3) := by decide +kernel
theorem dX8_layCode_26 : decode cX8_layCode 26 = .ok (.if_icmp .ge 145, 3) := by decide +kernel
theorem dX8_layCode_29 : decode cX8_layCode 29 = .ok (.aload_n 0, 1) := by decide +kernel
theorem dX8_layCode_30 : decode cX8_layCode 30 = .ok (.getfield 29, 3) := by decide +kernel
theorem dX8_layCode_33 : decode cX8_layCode 33 = .ok (.iload_n 1, 1) := by decide +kernel
theorem dX8_layCode_34 : decode cX8_layCode 34 = .ok (.iaload, 1) := by decide +kernel
theorem dX8_layCode_35 : decode cX8_layCode 35 = .ok (.istore_n 2, 1) := by decide +kernel
theorem dX8_layCode_36 : decode cX8_layCode 36 = .ok (.iload_n 2, 1) := by decide +kernel
theorem dX8_layCode_37 : decode cX8_layCode 37 = .ok (.iconst 5, 1) := by decide +kernel
theorem dX8_layCode_38 : decode cX8_layCode 38 = .ok (.if_icmp .ne 12, 3) := by decide +kernel
theorem dX8_layCode_41 : decode cX8_layCode 41 = .ok (.aload_n 0, 1) := by decide +kernel
theorem dX8_layCode_42 : decode cX8_layCode 42 = .ok (.getfield 32, 3) := by decide +kernel
theorem dX8_layCode_45 : decode cX8_layCode 45 = .ok (.iload_n 1, 1) := by decide +kernel
theorem dX8_layCode_46 : decode cX8_layCode 46 = .ok (.iaload, 1) := by decide +kernel
theorem dX8_layCode_47 : decode cX8_layCode 47 = .ok (.goto 13, 3) := by decide +kernel
theorem dX8_layCode_50 : decode cX8_layCode 50 = .ok (.aload_n 0, 1) := by decide +kernel
theorem dX8_layCode_51 : decode cX8_layCode 51 = .ok (.aload_n 0, 1) := by decide +kernel
theorem dX8_layCode_52 : decode cX8_layCode 52 = .ok (.getfield 32, 3) := by decide +kernel
theorem dX8_layCode_55 : decode cX8_layCode 55 = .ok (.iload_n 1, 1) := by decide +kernel
theorem dX8_layCode_56 : decode cX8_layCode 56 = .ok (.iaload, 1) := by decide +kernel
theorem dX8_layCode_57 : decode cX8_layCode 57 = .ok (.invokevirtual 313, 3) := by decide +kernel
theorem dX8_layCode_60 : decode cX8_layCode 60 = .ok (.istore_n 3, 1) := by decide +kernel
theorem dX8_layCode_61 : decode cX8_layCode 61 = .ok (.iload_n 2, 1) := by decide +kernel
theorem dX8_layCode_62 : decode cX8_layCode 62 = .ok (.iconst 1, 1) := by decide +kernel
theorem dX8_layCode_63 : decode cX8_layCode 63 = .ok (.if_icmp .eq 13, 3) := by decide +kernel
theorem dX8_layCode_66 : decode cX8_layCode 66 = .ok (.iload_n 2, 1) := by decide +kernel
theorem dX8_layCode_67 : decode cX8_layCode 67 = .ok (.iconst 2, 1) := by decide +kernel
theorem dX8_layCode_68 : decode cX8_layCode 68 = .ok (.if_icmp .eq 8, 3) := by decide +kernel
theorem dX8_layCode_71 : decode cX8_layCode 71 = .ok (.iload_n 2, 1) := by decide +kernel
theorem dX8_layCode_72 : decode cX8_layCode 72 = .ok (.iconst 3, 1) := by decide +kernel
theorem dX8_layCode_73 : decode cX8_layCode 73 = .ok (.if_icmp .ne 7, 3) := by decide +kernel
theorem dX8_layCode_76 : decode cX8_layCode 76 = .ok (.iconst 1, 1) := by decide +kernel
theorem dX8_layCode_77 : decode cX8_layCode 77 = .ok (.goto 4, 3) := by decide +kernel
theorem dX8_layCode_80 : decode cX8_layCode 80 = .ok (.iconst 0, 1) := by decide +kernel
theorem dX8_layCode_81 : decode cX8_layCode 81 = .ok (.istore 4, 2) := by decide +kernel
theorem dX8_layCode_83 : decode cX8_layCode 83 = .ok (.iload 4, 2) := by decide +kernel
theorem dX8_layCode_85 : decode cX8_layCode 85 = .ok (.ifCond .eq 16, 3) := by decide +kernel
theorem dX8_layCode_88 : decode cX8_layCode 88 = .ok (.aload_n 0, 1) := by decide +kernel
theorem dX8_layCode_89 : decode cX8_layCode 89 = .ok (.aload_n 0, 1) := by decide +kernel
theorem dX8_layCode_90 : decode cX8_layCode 90 = .ok (.getfield 35, 3) := by decide +kernel
theorem dX8_layCode_93 : decode cX8_layCode 93 = .ok (.iload_n 1, 1) := by decide +kernel
theorem dX8_layCode_94 : decode cX8_layCode 94 = .ok (.iaload, 1) := by decide +kernel
theorem dX8_layCode_95 : decode cX8_layCode 95 = .ok (.invokevirtual 313, 3) := by decide +kernel
theorem dX8_layCode_98 : decode cX8_layCode 98 = .ok (.goto 9, 3) := by decide +kernel
theorem dX8_layCode_101 : decode cX8_layCode 101 = .ok (.aload_n 0, 1) := by decide +kernel
theorem dX8_layCode_102 : decode cX8_layCode 102 = .ok (.getfield 35, 3) := by decide +kernel
theorem dX8_layCode_105 : decode cX8_layCode 105 = .ok (.iload_n 1, 1) := by decide +kernel
theorem dX8_layCode_106 : decode cX8_layCode 106 = .ok (.iaload, 1) := by decide +kernel
theorem dX8_layCode_107 : decode cX8_layCode 107 = .ok (.istore 5, 2) := by decide +kernel
theorem dX8_layCode_109 : decode cX8_layCode 109 = .ok (.iload_n 2, 1) := by decide +kernel
theorem dX8_layCode_110 : decode cX8_layCode 110 = .ok (.iconst 2, 1) := by decide +kernel
theorem dX8_layCode_111 : decode cX8_layCode 111 = .ok (.if_icmp .ne 16, 3) := by decide +kernel
theorem dX8_layCode_114 : decode cX8_layCode 114 = .ok (.aload_n 0, 1) := by decide +kernel
theorem dX8_layCode_115 : decode cX8_layCode 115 = .ok (.aload_n 0, 1) := by decide +kernel
theorem dX8_layCode_116 : decode cX8_layCode 116 = .ok (.getfield 38, 3) := by decide +kernel
theorem dX8_layCode_119 : decode cX8_layCode 119 = .ok (.iload_n 1, 1) := by decide +kernel
theorem dX8_layCode_120 : decode cX8_layCode 120 = .ok (.iaload, 1) := by decide +kernel
theorem dX8_layCode_121 : decode cX8_layCode 121 = .ok (.invokevirtual 313, 3) := by decide +kernel
theorem dX8_layCode_124 : decode cX8_layCode 124 = .ok (.goto 5, 3) := by decide +kernel
theorem dX8_layCode_127 : decode cX8_layCode 127 = .ok (.bipush (-6), 2) := by decide +kernel
theorem dX8_layCode_129 : decode cX8_layCode 129 = .ok (.istore 6, 2) := by decide +kernel
theorem dX8_layCode_131 : decode cX8_layCode 131 = .ok (.iload_n 2, 1) := by decide +kernel
theorem dX8_layCode_132 : decode cX8_layCode 132 = .ok (.iconst 1, 1) := by decide +kernel
theorem dX8_layCode_133 : decode cX8_layCode 133 = .ok (.if_icmp .ne 22, 3) := by decide +kernel
theorem dX8_layCode_136 : decode cX8_layCode 136 = .ok (.iload_n 3, 1) := by decide +kernel
theorem dX8_layCode_137 : decode cX8_layCode 137 = .ok (.iload 5, 2) := by decide +kernel
theorem dX8_layCode_139 : decode cX8_layCode 139 = .ok (.if_icmp .ne 16, 3) := by decide +kernel
theorem dX8_layCode_142 : decode cX8_layCode 142 = .ok (.aload_n 0, 1) := by decide +kernel
theorem dX8_layCode_143 : decode cX8_layCode 143 = .ok (.dup, 1) := by decide +kernel
theorem dX8_layCode_144 : decode cX8_layCode 144 = .ok (.getfield 310, 3) := by decide +kernel
theorem dX8_layCode_147 : decode cX8_layCode 147 = .ok (.iconst 1, 1) := by decide +kernel
theorem dX8_layCode_148 : decode cX8_layCode 148 = .ok (.iadd, 1) := by decide +kernel
theorem dX8_layCode_149 : decode cX8_layCode 149 = .ok (.putfield 310, 3) := by decide +kernel
theorem dX8_layCode_152 : decode cX8_layCode 152 = .ok (.goto 13, 3) := by decide +kernel
theorem dX8_layCode_155 : decode cX8_layCode 155 = .ok (.aload_n 0, 1) := by decide +kernel
theorem dX8_layCode_156 : decode cX8_layCode 156 = .ok (.iload_n 2, 1) := by decide +kernel
theorem dX8_layCode_157 : decode cX8_layCode 157 = .ok (.iload_n 3, 1) := by decide +kernel
theorem dX8_layCode_158 : decode cX8_layCode 158 = .ok (.iload 5, 2) := by decide +kernel
theorem dX8_layCode_160 : decode cX8_layCode 160 = .ok (.iload 6, 2) := by decide +kernel
theorem dX8_layCode_162 : decode cX8_layCode 162 = .ok (.invokevirtual 285, 3) := by decide +kernel
theorem dX8_layCode_165 : decode cX8_layCode 165 = .ok (.iinc 1 1, 3) := by decide +kernel
theorem dX8_layCode_168 : decode cX8_layCode 168 = .ok (.goto (-147), 3) := by decide +kernel
theorem dX8_layCode_171 : decode cX8_layCode 171 = .ok (.iconst 1, 1) := by decide +kernel
theorem dX8_layCode_172 : decode cX8_layCode 172 = .ok (.ireturn, 1) := by decide +kernel
theorem dX8_rounds_0 : decode cX8_rounds 0 = .ok (.iload_n 1, 1) := by decide +kernel
theorem dX8_rounds_1 : decode cX8_rounds 1 = .ok (.iconst 0, 1) := by decide +kernel
theorem dX8_rounds_2 : decode cX8_rounds 2 = .ok (.iconst 4, 1) := by decide +kernel
theorem dX8_rounds_3 : decode cX8_rounds 3 = .ok (.invokestatic 113, 3) := by decide +kernel
theorem dX8_rounds_6 : decode cX8_rounds 6 = .ok (.ifCond .ne 6, 3) := by decide +kernel
theorem dX8_rounds_9 : decode cX8_rounds 9 = .ok (.bipush (-2), 2) := by decide +kernel
theorem dX8_rounds_11 : decode cX8_rounds 11 = .ok (.ireturn, 1) := by decide +kernel
theorem dX8_rounds_12 : decode cX8_rounds 12 = .ok (.aload_n 0, 1) := by decide +kernel
theorem dX8_rounds_13 : decode cX8_rounds 13 = .ok (.invokevirtual 316, 3) := by decide +kernel
theorem dX8_rounds_16 : decode cX8_rounds 16 = .ok (.ifCond .ne 6, 3) := by decide +kernel
theorem dX8_rounds_19 : decode cX8_rounds 19 = .ok (.bipush (-3), 2) := by decide +kernel
theorem dX8_rounds_21 : decode cX8_rounds 21 = .ok (.ireturn, 1) := by decide +kernel
theorem dX8_rounds_22 : decode cX8_rounds 22 = .ok (.iload_n 1, 1) := by decide +kernel
theorem dX8_rounds_23 : decode cX8_rounds 23 = .ok (.ifCond .ne 10, 3) := by decide +kernel
theorem dX8_rounds_26 : decode cX8_rounds 26 = .ok (.aload_n 0, 1) := by decide +kernel
theorem dX8_rounds_27 : decode cX8_rounds 27 = .ok (.getfield 292, 3) := by decide +kernel
theorem dX8_rounds_30 : decode cX8_rounds 30 = .ok (.goto 43, 3) := by decide +kernel
theorem dX8_rounds_33 : decode cX8_rounds 33 = .ok (.iload_n 1, 1) := by decide +kernel
theorem dX8_rounds_34 : decode cX8_rounds 34 = .ok (.iconst 1, 1) := by decide +kernel
theorem dX8_rounds_35 : decode cX8_rounds 35 = .ok (.if_icmp .ne 10, 3) := by decide +kernel
theorem dX8_rounds_38 : decode cX8_rounds 38 = .ok (.aload_n 0, 1) := by decide +kernel
theorem dX8_rounds_39 : decode cX8_rounds 39 = .ok (.getfield 295, 3) := by decide +kernel
theorem dX8_rounds_42 : decode cX8_rounds 42 = .ok (.goto 31, 3) := by decide +kernel
theorem dX8_rounds_45 : decode cX8_rounds 45 = .ok (.iload_n 1, 1) := by decide +kernel
theorem dX8_rounds_46 : decode cX8_rounds 46 = .ok (.iconst 2, 1) := by decide +kernel
theorem dX8_rounds_47 : decode cX8_rounds 47 = .ok (.if_icmp .ne 10, 3) := by decide +kernel
theorem dX8_rounds_50 : decode cX8_rounds 50 = .ok (.aload_n 0, 1) := by decide +kernel
theorem dX8_rounds_51 : decode cX8_rounds 51 = .ok (.getfield 282, 3) := by decide +kernel
theorem dX8_rounds_54 : decode cX8_rounds 54 = .ok (.goto 19, 3) := by decide +kernel
theorem dX8_rounds_57 : decode cX8_rounds 57 = .ok (.iload_n 1, 1) := by decide +kernel
theorem dX8_rounds_58 : decode cX8_rounds 58 = .ok (.iconst 3, 1) := by decide +kernel
theorem dX8_rounds_59 : decode cX8_rounds 59 = .ok (.if_icmp .ne 10, 3) := by decide +kernel
theorem dX8_rounds_62 : decode cX8_rounds 62 = .ok (.aload_n 0, 1) := by decide +kernel
theorem dX8_rounds_63 : decode cX8_rounds 63 = .ok (.getfield 276, 3) := by decide +kernel
theorem dX8_rounds_66 : decode cX8_rounds 66 = .ok (.goto 7, 3) := by decide +kernel
theorem dX8_rounds_69 : decode cX8_rounds 69 = .ok (.aload_n 0, 1) := by decide +kernel
theorem dX8_rounds_70 : decode cX8_rounds 70 = .ok (.getfield 310, 3) := by decide +kernel
theorem dX8_rounds_73 : decode cX8_rounds 73 = .ok (.ireturn, 1) := by decide +kernel
theorem dX8_colour_0 : decode cX8_colour 0 = .ok (.iload_n 1, 1) := by decide +kernel
theorem dX8_colour_1 : decode cX8_colour 1 = .ok (.iconst 4, 1) := by decide +kernel
theorem dX8_colour_2 : decode cX8_colour 2 = .ok (.bipush 15, 2) := by decide +kernel
theorem dX8_colour_4 : decode cX8_colour 4 = .ok (.invokestatic 113, 3) := by decide +kernel
theorem dX8_colour_7 : decode cX8_colour 7 = .ok (.ifCond .ne 5, 3) := by decide +kernel
theorem dX8_colour_10 : decode cX8_colour 10 = .ok (.iconst (-1), 1) := by decide +kernel
theorem dX8_colour_11 : decode cX8_colour 11 = .ok (.ireturn, 1) := by decide +kernel
theorem dX8_colour_12 : decode cX8_colour 12 = .ok (.aload_n 0, 1) := by decide +kernel
theorem dX8_colour_13 : decode cX8_colour 13 = .ok (.invokevirtual 307, 3) := by decide +kernel
theorem dX8_colour_16 : decode cX8_colour 16 = .ok (.ifCond .eq 12, 3) := by decide +kernel
theorem dX8_colour_19 : decode cX8_colour 19 = .ok (.aload_n 0, 1) := by decide +kernel
theorem dX8_colour_20 : decode cX8_colour 20 = .ok (.getfield 91, 3) := by decide +kernel
theorem dX8_colour_23 : decode cX8_colour 23 = .ok (.iload_n 1, 1) := by decide +kernel
theorem dX8_colour_24 : decode cX8_colour 24 = .ok (.iaload, 1) := by decide +kernel
theorem dX8_colour_25 : decode cX8_colour 25 = .ok (.goto 5, 3) := by decide +kernel
theorem dX8_colour_28 : decode cX8_colour 28 = .ok (.bipush (-3), 2) := by decide +kernel
theorem dX8_colour_30 : decode cX8_colour 30 = .ok (.ireturn, 1) := by decide +kernel
theorem dX8_code_0 : decode cX8_code 0 = .ok (.aload_n 0, 1) := by decide +kernel
theorem dX8_code_1 : decode cX8_code 1 = .ok (.invokevirtual 316, 3) := by decide +kernel
theorem dX8_code_4 : decode cX8_code 4 = .ok (.ifCond .ne 6, 3) := by decide +kernel
theorem dX8_code_7 : decode cX8_code 7 = .ok (.bipush (-3), 2) := by decide +kernel
theorem dX8_code_9 : decode cX8_code 9 = .ok (.ireturn, 1) := by decide +kernel
theorem dX8_code_10 : decode cX8_code 10 = .ok (.iload_n 1, 1) := by decide +kernel
theorem dX8_code_11 : decode cX8_code 11 = .ok (.iconst 0, 1) := by decide +kernel
theorem dX8_code_12 : decode cX8_code 12 = .ok (.aload_n 0, 1) := by decide +kernel
theorem dX8_code_13 : decode cX8_code 13 = .ok (.getfield 276, 3) := by decide +kernel
theorem dX8_code_16 : decode cX8_code 16 = .ok (.iconst 1, 1) := by decide +kernel
theorem dX8_code_17 : decode cX8_code 17 = .ok (.isub, 1) := by decide +kernel
theorem dX8_code_18 : decode cX8_code 18 = .ok (.invokestatic 113, 3) := by decide +kernel
theorem dX8_code_21 : decode cX8_code 21 = .ok (.ifCond .ne 5, 3) := by decide +kernel
theorem dX8_code_24 : decode cX8_code 24 = .ok (.iconst (-1), 1) := by decide +kernel
theorem dX8_code_25 : decode cX8_code 25 = .ok (.ireturn, 1) := by decide +kernel
theorem dX8_code_26 : decode cX8_code 26 = .ok (.iload_n 2, 1) := by decide +kernel
theorem dX8_code_27 : decode cX8_code 27 = .ok (.iconst 0, 1) := by decide +kernel
theorem dX8_code_28 : decode cX8_code 28 = .ok (.iconst 3, 1) := by decide +kernel
theorem dX8_code_29 : decode cX8_code 29 = .ok (.invokestatic 113, 3) := by decide +kernel
theorem dX8_code_32 : decode cX8_code 32 = .ok (.ifCond .ne 6, 3) := by decide +kernel
theorem dX8_code_35 : decode cX8_code 35 = .ok (.bipush (-2), 2) := by decide +kernel
theorem dX8_code_37 : decode cX8_code 37 = .ok (.ireturn, 1) := by decide +kernel
theorem dX8_code_38 : decode cX8_code 38 = .ok (.iload_n 2, 1) := by decide +kernel
theorem dX8_code_39 : decode cX8_code 39 = .ok (.ifCond .ne 12, 3) := by decide +kernel
theorem dX8_code_42 : decode cX8_code 42 = .ok (.aload_n 0, 1) := by decide +kernel
theorem dX8_code_43 : decode cX8_code 43 = .ok (.getfield 41, 3) := by decide +kernel
theorem dX8_code_46 : decode cX8_code 46 = .ok (.iload_n 1, 1) := by decide +kernel
theorem dX8_code_47 : decode cX8_code 47 = .ok (.iaload, 1) := by decide +kernel
theorem dX8_code_48 : decode cX8_code 48 = .ok (.goto 37, 3) := by decide +kernel
theorem dX8_code_51 : decode cX8_code 51 = .ok (.iload_n 2, 1) := by decide +kernel
theorem dX8_code_52 : decode cX8_code 52 = .ok (.iconst 1, 1) := by decide +kernel
theorem dX8_code_53 : decode cX8_code 53 = .ok (.if_icmp .ne 12, 3) := by decide +kernel
theorem dX8_code_56 : decode cX8_code 56 = .ok (.aload_n 0, 1) := by decide +kernel
theorem dX8_code_57 : decode cX8_code 57 = .ok (.getfield 44, 3) := by decide +kernel
theorem dX8_code_60 : decode cX8_code 60 = .ok (.iload_n 1, 1) := by decide +kernel
theorem dX8_code_61 : decode cX8_code 61 = .ok (.iaload, 1) := by decide +kernel
theorem dX8_code_62 : decode cX8_code 62 = .ok (.goto 23, 3) := by decide +kernel
theorem dX8_code_65 : decode cX8_code 65 = .ok (.iload_n 2, 1) := by decide +kernel
theorem dX8_code_66 : decode cX8_code 66 = .ok (.iconst 2, 1) := by decide +kernel
theorem dX8_code_67 : decode cX8_code 67 = .ok (.if_icmp .ne 12, 3) := by decide +kernel
theorem dX8_code_70 : decode cX8_code 70 = .ok (.aload_n 0, 1) := by decide +kernel
theorem dX8_code_71 : decode cX8_code 71 = .ok (.getfield 47, 3) := by decide +kernel
theorem dX8_code_74 : decode cX8_code 74 = .ok (.iload_n 1, 1) := by decide +kernel
theorem dX8_code_75 : decode cX8_code 75 = .ok (.iaload, 1) := by decide +kernel
theorem dX8_code_76 : decode cX8_code 76 = .ok (.goto 9, 3) := by decide +kernel
theorem dX8_code_79 : decode cX8_code 79 = .ok (.aload_n 0, 1) := by decide +kernel
theorem dX8_code_80 : decode cX8_code 80 = .ok (.getfield 50, 3) := by decide +kernel
theorem dX8_code_83 : decode cX8_code 83 = .ok (.iload_n 1, 1) := by decide +kernel
theorem dX8_code_84 : decode cX8_code 84 = .ok (.iaload, 1) := by decide +kernel
theorem dX8_code_85 : decode cX8_code 85 = .ok (.ireturn, 1) := by decide +kernel
theorem dX8_runNow_0 : decode cX8_runNow 0 = .ok (.iconst 0, 1) := by decide +kernel
theorem dX8_runNow_1 : decode cX8_runNow 1 = .ok (.istore_n 2, 1) := by decide +kernel
theorem dX8_runNow_2 : decode cX8_runNow 2 = .ok (.iload_n 2, 1) := by decide +kernel
theorem dX8_runNow_3 : decode cX8_runNow 3 = .ok (.bipush 16, 2) := by decide +kernel
theorem dX8_runNow_5 : decode cX8_runNow 5 = .ok (.if_icmp .ge 16, 3) := by decide +kernel
theorem dX8_runNow_8 : decode cX8_runNow 8 = .ok (.aload_n 0, 1) := by decide +kernel
theorem dX8_runNow_9 : decode cX8_runNow 9 = .ok (.getfield 94, 3) := by decide +kernel
theorem dX8_runNow_12 : decode cX8_runNow 12 = .ok (.iload_n 2, 1) := by decide +kernel
theorem dX8_runNow_13 : decode cX8_runNow 13 = .ok (.iconst 0, 1) := by decide +kernel
theorem dX8_runNow_14 : decode cX8_runNow 14 = .ok (.iastore, 1) := by decide +kernel
theorem dX8_runNow_15 : decode cX8_runNow 15 = .ok (.iinc 2 1, 3) := by decide +kernel
theorem dX8_runNow_18 : decode cX8_runNow 18 = .ok (.goto (-16), 3) := by decide +kernel
theorem dX8_runNow_21 : decode cX8_runNow 21 = .ok (.iconst 0, 1) := by decide +kernel
theorem dX8_runNow_22 : decode cX8_runNow 22 = .ok (.istore_n 2, 1) := by decide +kernel
theorem dX8_runNow_23 : decode cX8_runNow 23 = .ok (.iload_n 2, 1) := by decide +kernel
theorem dX8_runNow_24 : decode cX8_runNow 24 = .ok (.bipush 64, 2) := by decide +kernel
theorem dX8_runNow_26 : decode cX8_runNow 26 = .ok (.if_icmp .ge 16, 3) := by decide +kernel
theorem dX8_runNow_29 : decode cX8_runNow 29 = .ok (.aload_n 0, 1) := by decide +kernel
theorem dX8_runNow_30 : decode cX8_runNow 30 = .ok (.getfield 97, 3) := by decide +kernel
theorem dX8_runNow_33 : decode cX8_runNow 33 = .ok (.iload_n 2, 1) := by decide +kernel
theorem dX8_runNow_34 : decode cX8_runNow 34 = .ok (.iconst 0, 1) := by decide +kernel
theorem dX8_runNow_35 : decode cX8_runNow 35 = .ok (.iastore, 1) := by decide +kernel
theorem dX8_runNow_36 : decode cX8_runNow 36 = .ok (.iinc 2 1, 3) := by decide +kernel
theorem dX8_runNow_39 : decode cX8_runNow 39 = .ok (.goto (-16), 3) := by decide +kernel
theorem dX8_runNow_42 : decode cX8_runNow 42 = .ok (.aload_n 0, 1) := by decide +kernel
theorem dX8_runNow_43 : decode cX8_runNow 43 = .ok (.iconst 0, 1) := by decide +kernel
theorem dX8_runNow_44 : decode cX8_runNow 44 = .ok (.putfield 319, 3) := by decide +kernel
theorem dX8_runNow_47 : decode cX8_runNow 47 = .ok (.aload_n 0, 1) := by decide +kernel
theorem dX8_runNow_48 : decode cX8_runNow 48 = .ok (.iconst 0, 1) := by decide +kernel
theorem dX8_runNow_49 : decode cX8_runNow 49 = .ok (.putfield 322, 3) := by decide +kernel
theorem dX8_runNow_52 : decode cX8_runNow 52 = .ok (.aload_n 0, 1) := by decide +kernel
theorem dX8_runNow_53 : decode cX8_runNow 53 = .ok (.iconst 0, 1) := by decide +kernel
theorem dX8_runNow_54 : decode cX8_runNow 54 = .ok (.putfield 325, 3) := by decide +kernel
theorem dX8_runNow_57 : decode cX8_runNow 57 = .ok (.aload_n 0, 1) := by decide +kernel
theorem dX8_runNow_58 : decode cX8_runNow 58 = .ok (.iconst 0, 1) := by decide +kernel
theorem dX8_runNow_59 : decode cX8_runNow 59 = .ok (.putfield 328, 3) := by decide +kernel
theorem dX8_runNow_62 : decode cX8_runNow 62 = .ok (.aload_n 0, 1) := by decide +kernel
theorem dX8_runNow_63 : decode cX8_runNow 63 = .ok (.iconst 0, 1) := by decide +kernel
theorem dX8_runNow_64 : decode cX8_runNow 64 = .ok (.putfield 331, 3) := by decide +kernel
theorem dX8_runNow_67 : decode cX8_runNow 67 = .ok (.iconst 0, 1) := by decide +kernel
theorem dX8_runNow_68 : decode cX8_runNow 68 = .ok (.istore_n 2, 1) := by decide +kernel
theorem dX8_runNow_69 : decode cX8_runNow 69 = .ok (.iload_n 2, 1) := by decide +kernel
theorem dX8_runNow_70 : decode cX8_runNow 70 = .ok (.aload_n 0, 1) := by decide +kernel
theorem dX8_runNow_71 : decode cX8_runNow 71 = .ok (.getfield 148, 3) := by decide +kernel
theorem dX8_runNow_74 : decode cX8_runNow 74 = .ok (.if_icmp .ge 333, 3) := by decide +kernel
theorem dX8_runNow_77 : decode cX8_runNow 77 = .ok (.aload_n 0, 1) := by decide +kernel
theorem dX8_runNow_78 : decode cX8_runNow 78 = .ok (.getfield 325, 3) := by decide +kernel
theorem dX8_runNow_81 : decode cX8_runNow 81 = .ok (.iload_n 1, 1) := by decide +kernel
theorem dX8_runNow_82 : decode cX8_runNow 82 = .ok (.if_icmp .ge 325, 3) := by decide +kernel
theorem dX8_runNow_85 : decode cX8_runNow 85 = .ok (.aload_n 0, 1) := by decide +kernel
theorem dX8_runNow_86 : decode cX8_runNow 86 = .ok (.dup, 1) := by decide +kernel
theorem dX8_runNow_87 : decode cX8_runNow 87 = .ok (.getfield 325, 3) := by decide +kernel
theorem dX8_runNow_90 : decode cX8_runNow 90 = .ok (.iconst 1, 1) := by decide +kernel
theorem dX8_runNow_91 : decode cX8_runNow 91 = .ok (.iadd, 1) := by decide +kernel
theorem dX8_runNow_92 : decode cX8_runNow 92 = .ok (.putfield 325, 3) := by decide +kernel
theorem dX8_runNow_95 : decode cX8_runNow 95 = .ok (.aload_n 0, 1) := by decide +kernel
theorem dX8_runNow_96 : decode cX8_runNow 96 = .ok (.getfield 32, 3) := by decide +kernel
theorem dX8_runNow_99 : decode cX8_runNow 99 = .ok (.iload_n 2, 1) := by decide +kernel
theorem dX8_runNow_100 : decode cX8_runNow 100 = .ok (.iaload, 1) := by decide +kernel
theorem dX8_runNow_101 : decode cX8_runNow 101 = .ok (.istore_n 3, 1) := by decide +kernel
theorem dX8_runNow_102 : decode cX8_runNow 102 = .ok (.aload_n 0, 1) := by decide +kernel
theorem dX8_runNow_103 : decode cX8_runNow 103 = .ok (.getfield 35, 3) := by decide +kernel
theorem dX8_runNow_106 : decode cX8_runNow 106 = .ok (.iload_n 2, 1) := by decide +kernel
theorem dX8_runNow_107 : decode cX8_runNow 107 = .ok (.iaload, 1) := by decide +kernel
theorem dX8_runNow_108 : decode cX8_runNow 108 = .ok (.istore 4, 2) := by decide +kernel
theorem dX8_runNow_110 : decode cX8_runNow 110 = .ok (.iload_n 2, 1) := by decide +kernel
theorem dX8_runNow_111 : decode cX8_runNow 111 = .ok (.iconst 1, 1) := by decide +kernel
theorem dX8_runNow_112 : decode cX8_runNow 112 = .ok (.iadd, 1) := by decide +kernel
theorem dX8_runNow_113 : decode cX8_runNow 113 = .ok (.istore 5, 2) := by decide +kernel
theorem dX8_runNow_115 : decode cX8_runNow 115 = .ok (.aload_n 0, 1) := by decide +kernel
theorem dX8_runNow_116 : decode cX8_runNow 116 = .ok (.getfield 29, 3) := by decide +kernel
theorem dX8_runNow_119 : decode cX8_runNow 119 = .ok (.iload_n 2, 1) := by decide +kernel
theorem dX8_runNow_120 : decode cX8_runNow 120 = .ok (.iaload, 1) := by decide +kernel
theorem dX8_runNow_121 : decode cX8_runNow 121 = .ok (.tableswitch 280 0 8 #[51, 62, 78, 110, 142, 280, 192, 228, 254], 51) := by decide +kernel
theorem dX8_runNow_172 : decode cX8_runNow 172 = .ok (.aload_n 0, 1) := by decide +kernel
theorem dX8_runNow_173 : decode cX8_runNow 173 = .ok (.getfield 94, 3) := by decide +kernel
theorem dX8_runNow_176 : decode cX8_runNow 176 = .ok (.iload_n 3, 1) := by decide +kernel
theorem dX8_runNow_177 : decode cX8_runNow 177 = .ok (.iload 4, 2) := by decide +kernel
theorem dX8_runNow_179 : decode cX8_runNow 179 = .ok (.iastore, 1) := by decide +kernel
theorem dX8_runNow_180 : decode cX8_runNow 180 = .ok (.goto 221, 3) := by decide +kernel
theorem dX8_runNow_183 : decode cX8_runNow 183 = .ok (.aload_n 0, 1) := by decide +kernel
theorem dX8_runNow_184 : decode cX8_runNow 184 = .ok (.getfield 94, 3) := by decide +kernel
theorem dX8_runNow_187 : decode cX8_runNow 187 = .ok (.iload_n 3, 1) := by decide +kernel
theorem dX8_runNow_188 : decode cX8_runNow 188 = .ok (.aload_n 0, 1) := by decide +kernel
theorem dX8_runNow_189 : decode cX8_runNow 189 = .ok (.getfield 94, 3) := by decide +kernel
theorem dX8_runNow_192 : decode cX8_runNow 192 = .ok (.iload 4, 2) := by decide +kernel
theorem dX8_runNow_194 : decode cX8_runNow 194 = .ok (.iaload, 1) := by decide +kernel
theorem dX8_runNow_195 : decode cX8_runNow 195 = .ok (.iastore, 1) := by decide +kernel
theorem dX8_runNow_196 : decode cX8_runNow 196 = .ok (.goto 205, 3) := by decide +kernel
theorem dX8_runNow_199 : decode cX8_runNow 199 = .ok (.aload_n 0, 1) := by decide +kernel
theorem dX8_runNow_200 : decode cX8_runNow 200 = .ok (.getfield 94, 3) := by decide +kernel
theorem dX8_runNow_203 : decode cX8_runNow 203 = .ok (.iload_n 3, 1) := by decide +kernel
theorem dX8_runNow_204 : decode cX8_runNow 204 = .ok (.aload_n 0, 1) := by decide +kernel
theorem dX8_runNow_205 : decode cX8_runNow 205 = .ok (.getfield 94, 3) := by decide +kernel
theorem dX8_runNow_208 : decode cX8_runNow 208 = .ok (.iload 4, 2) := by decide +kernel
theorem dX8_runNow_210 : decode cX8_runNow 210 = .ok (.iaload, 1) := by decide +kernel
theorem dX8_runNow_211 : decode cX8_runNow 211 = .ok (.aload_n 0, 1) := by decide +kernel
theorem dX8_runNow_212 : decode cX8_runNow 212 = .ok (.getfield 94, 3) := by decide +kernel
theorem dX8_runNow_215 : decode cX8_runNow 215 = .ok (.aload_n 0, 1) := by decide +kernel
theorem dX8_runNow_216 : decode cX8_runNow 216 = .ok (.getfield 38, 3) := by decide +kernel
theorem dX8_runNow_219 : decode cX8_runNow 219 = .ok (.iload_n 2, 1) := by decide +kernel
theorem dX8_runNow_220 : decode cX8_runNow 220 = .ok (.iaload, 1) := by decide +kernel
theorem dX8_runNow_221 : decode cX8_runNow 221 = .ok (.iaload, 1) := by decide +kernel
theorem dX8_runNow_222 : decode cX8_runNow 222 = .ok (.iadd, 1) := by decide +kernel
theorem dX8_runNow_223 : decode cX8_runNow 223 = .ok (.sipush 1000, 3) := by decide +kernel
theorem dX8_runNow_226 : decode cX8_runNow 226 = .ok (.irem, 1) := by decide +kernel
theorem dX8_runNow_227 : decode cX8_runNow 227 = .ok (.iastore, 1) := by decide +kernel
theorem dX8_runNow_228 : decode cX8_runNow 228 = .ok (.goto 173, 3) := by decide +kernel
theorem dX8_runNow_231 : decode cX8_runNow 231 = .ok (.aload_n 0, 1) := by decide +kernel
theorem dX8_runNow_232 : decode cX8_runNow 232 = .ok (.getfield 94, 3) := by decide +kernel
theorem dX8_runNow_235 : decode cX8_runNow 235 = .ok (.iload_n 3, 1) := by decide +kernel
theorem dX8_runNow_236 : decode cX8_runNow 236 = .ok (.aload_n 0, 1) := by decide +kernel
theorem dX8_runNow_237 : decode cX8_runNow 237 = .ok (.getfield 94, 3) := by decide +kernel
theorem dX8_runNow_240 : decode cX8_runNow 240 = .ok (.iload 4, 2) := by decide +kernel
theorem dX8_runNow_242 : decode cX8_runNow 242 = .ok (.iaload, 1) := by decide +kernel
theorem dX8_runNow_243 : decode cX8_runNow 243 = .ok (.ifCond .le 15, 3) := by decide +kernel
theorem dX8_runNow_246 : decode cX8_runNow 246 = .ok (.aload_n 0, 1) := by decide +kernel
theorem dX8_runNow_247 : decode cX8_runNow 247 = .ok (.getfield 94, 3) := by decide +kernel
theorem dX8_runNow_250 : decode cX8_runNow 250 = .ok (.iload 4, 2) := by decide +kernel
theorem dX8_runNow_252 : decode cX8_runNow 252 = .ok (.iaload, 1) := by decide +kernel
theorem dX8_runNow_253 : decode cX8_runNow 253 = .ok (.iconst 1, 1) := by decide +kernel
theorem dX8_runNow_254 : decode cX8_runNow 254 = .ok (.isub, 1) := by decide +kernel
theorem dX8_runNow_255 : decode cX8_runNow 255 = .ok (.goto 4, 3) := by decide +kernel
theorem dX8_runNow_258 : decode cX8_runNow 258 = .ok (.iconst 0, 1) := by decide +kernel
theorem dX8_runNow_259 : decode cX8_runNow 259 = .ok (.iastore, 1) := by decide +kernel
theorem dX8_runNow_260 : decode cX8_runNow 260 = .ok (.goto 141, 3) := by decide +kernel
theorem dX8_runNow_263 : decode cX8_runNow 263 = .ok (.aload_n 0, 1) := by decide +kernel
theorem dX8_runNow_264 : decode cX8_runNow 264 = .ok (.getfield 100, 3) := by decide +kernel
theorem dX8_runNow_267 : decode cX8_runNow 267 = .ok (.aload_n 0, 1) := by decide +kernel
theorem dX8_runNow_268 : decode cX8_runNow 268 = .ok (.getfield 319, 3) := by decide +kernel
theorem dX8_runNow_271 : decode cX8_runNow 271 = .ok (.aload_n 0, 1) := by decide +kernel
theorem dX8_runNow_272 : decode cX8_runNow 272 = .ok (.getfield 94, 3) := by decide +kernel
theorem dX8_runNow_275 : decode cX8_runNow 275 = .ok (.iload_n 3, 1) := by decide +kernel
theorem dX8_runNow_276 : decode cX8_runNow 276 = .ok (.iaload, 1) := by decide +kernel
theorem dX8_runNow_277 : decode cX8_runNow 277 = .ok (.iastore, 1) := by decide +kernel
theorem dX8_runNow_278 : decode cX8_runNow 278 = .ok (.aload_n 0, 1) := by decide +kernel
theorem dX8_runNow_279 : decode cX8_runNow 279 = .ok (.dup, 1) := by decide +kernel
theorem dX8_runNow_280 : decode cX8_runNow 280 = .ok (.getfield 319, 3) := by decide +kernel
theorem dX8_runNow_283 : decode cX8_runNow 283 = .ok (.iconst 1, 1) := by decide +kernel
theorem dX8_runNow_284 : decode cX8_runNow 284 = .ok (.iadd, 1) := by decide +kernel
theorem dX8_runNow_285 : decode cX8_runNow 285 = .ok (.putfield 319, 3) := by decide +kernel
theorem dX8_runNow_288 : decode cX8_runNow 288 = .ok (.aload_n 0, 1) := by decide +kernel
theorem dX8_runNow_289 : decode cX8_runNow 289 = .ok (.bipush 31, 2) := by decide +kernel
theorem dX8_runNow_291 : decode cX8_runNow 291 = .ok (.aload_n 0, 1) := by decide +kernel
theorem dX8_runNow_292 : decode cX8_runNow 292 = .ok (.getfield 322, 3) := by decide +kernel
theorem dX8_runNow_295 : decode cX8_runNow 295 = .ok (.imul, 1) := by decide +kernel
theorem dX8_runNow_296 : decode cX8_runNow 296 = .ok (.aload_n 0, 1) := by decide +kernel
theorem dX8_runNow_297 : decode cX8_runNow 297 = .ok (.getfield 94, 3) := by decide +kernel
theorem dX8_runNow_300 : decode cX8_runNow 300 = .ok (.iload_n 3, 1) := by decide +kernel
theorem dX8_runNow_301 : decode cX8_runNow 301 = .ok (.iaload, 1) := by decide +kernel
theorem dX8_runNow_302 : decode cX8_runNow 302 = .ok (.iadd, 1) := by decide +kernel
theorem dX8_runNow_303 : decode cX8_runNow 303 = .ok (.ldc_w 334, 3) := by decide +kernel
theorem dX8_runNow_306 : decode cX8_runNow 306 = .ok (.irem, 1) := by decide +kernel
theorem dX8_runNow_307 : decode cX8_runNow 307 = .ok (.putfield 322, 3) := by decide +kernel
theorem dX8_runNow_310 : decode cX8_runNow 310 = .ok (.goto 91, 3) := by decide +kernel
theorem dX8_runNow_313 : decode cX8_runNow 313 = .ok (.aload_n 0, 1) := by decide +kernel
theorem dX8_runNow_314 : decode cX8_runNow 314 = .ok (.getfield 94, 3) := by decide +kernel
theorem dX8_runNow_317 : decode cX8_runNow 317 = .ok (.iload_n 3, 1) := by decide +kernel
theorem dX8_runNow_318 : decode cX8_runNow 318 = .ok (.iaload, 1) := by decide +kernel
theorem dX8_runNow_319 : decode cX8_runNow 319 = .ok (.ifCond .eq 82, 3) := by decide +kernel
theorem dX8_runNow_322 : decode cX8_runNow 322 = .ok (.aload_n 0, 1) := by decide +kernel
theorem dX8_runNow_323 : decode cX8_runNow 323 = .ok (.iload 4, 2) := by decide +kernel
theorem dX8_runNow_325 : decode cX8_runNow 325 = .ok (.invokevirtual 155, 3) := by decide +kernel
theorem dX8_runNow_328 : decode cX8_runNow 328 = .ok (.istore 6, 2) := by decide +kernel
theorem dX8_runNow_330 : decode cX8_runNow 330 = .ok (.iload 6, 2) := by decide +kernel
theorem dX8_runNow_332 : decode cX8_runNow 332 = .ok (.ifCond .ge 10, 3) := by decide +kernel
theorem dX8_runNow_335 : decode cX8_runNow 335 = .ok (.aload_n 0, 1) := by decide +kernel
theorem dX8_runNow_336 : decode cX8_runNow 336 = .ok (.getfield 148, 3) := by decide +kernel
theorem dX8_runNow_339 : decode cX8_runNow 339 = .ok (.goto 5, 3) := by decide +kernel
theorem dX8_runNow_342 : decode cX8_runNow 342 = .ok (.iload 6, 2) := by decide +kernel
theorem dX8_runNow_344 : decode cX8_runNow 344 = .ok (.istore 5, 2) := by decide +kernel
theorem dX8_runNow_346 : decode cX8_runNow 346 = .ok (.goto 55, 3) := by decide +kernel
theorem dX8_runNow_349 : decode cX8_runNow 349 = .ok (.aload_n 0, 1) := by decide +kernel
theorem dX8_runNow_350 : decode cX8_runNow 350 = .ok (.getfield 94, 3) := by decide +kernel
theorem dX8_runNow_353 : decode cX8_runNow 353 = .ok (.iload_n 3, 1) := by decide +kernel
theorem dX8_runNow_354 : decode cX8_runNow 354 = .ok (.aload_n 0, 1) := by decide +kernel
theorem dX8_runNow_355 : decode cX8_runNow 355 = .ok (.getfield 97, 3) := by decide +kernel
theorem dX8_runNow_358 : decode cX8_runNow 358 = .ok (.iload 4, 2) := by decide +kernel
theorem dX8_runNow_360 : decode cX8_runNow 360 = .ok (.iaload, 1) := by decide +kernel
theorem dX8_runNow_361 : decode cX8_runNow 361 = .ok (.iastore, 1) := by decide +kernel
theorem dX8_runNow_362 : decode cX8_runNow 362 = .ok (.aload_n 0, 1) := by decide +kernel
theorem dX8_runNow_363 : decode cX8_runNow 363 = .ok (.dup, 1) := by decide +kernel
theorem dX8_runNow_364 : decode cX8_runNow 364 = .ok (.getfield 328, 3) := by decide +kernel
theorem dX8_runNow_367 : decode cX8_runNow 367 = .ok (.iconst 1, 1) := by decide +kernel
theorem dX8_runNow_368 : decode cX8_runNow 368 = .ok (.iadd, 1) := by decide +kernel
theorem dX8_runNow_369 : decode cX8_runNow 369 = .ok (.putfield 328, 3) := by decide +kernel
theorem dX8_runNow_372 : decode cX8_runNow 372 = .ok (.goto 29, 3) := by decide +kernel
theorem dX8_runNow_375 : decode cX8_runNow 375 = .ok (.aload_n 0, 1) := by decide +kernel
theorem dX8_runNow_376 : decode cX8_runNow 376 = .ok (.getfield 97, 3) := by decide +kernel
theorem dX8_runNow_379 : decode cX8_runNow 379 = .ok (.iload 4, 2) := by decide +kernel
theorem dX8_runNow_381 : decode cX8_runNow 381 = .ok (.aload_n 0, 1) := by decide +kernel
theorem dX8_runNow_382 : decode cX8_runNow 382 = .ok (.getfield 94, 3) := by decide +kernel
theorem dX8_runNow_385 : decode cX8_runNow 385 = .ok (.iload_n 3, 1) := by decide +kernel
theorem dX8_runNow_386 : decode cX8_runNow 386 = .ok (.iaload, 1) := by decide +kernel
theorem dX8_runNow_387 : decode cX8_runNow 387 = .ok (.iastore, 1) := by decide +kernel
theorem dX8_runNow_388 : decode cX8_runNow 388 = .ok (.aload_n 0, 1) := by decide +kernel
theorem dX8_runNow_389 : decode cX8_runNow 389 = .ok (.dup, 1) := by decide +kernel
theorem dX8_runNow_390 : decode cX8_runNow 390 = .ok (.getfield 331, 3) := by decide +kernel
theorem dX8_runNow_393 : decode cX8_runNow 393 = .ok (.iconst 1, 1) := by decide +kernel
theorem dX8_runNow_394 : decode cX8_runNow 394 = .ok (.iadd, 1) := by decide +kernel
theorem dX8_runNow_395 : decode cX8_runNow 395 = .ok (.putfield 331, 3) := by decide +kernel
theorem dX8_runNow_398 : decode cX8_runNow 398 = .ok (.goto 3, 3) := by decide +kernel
theorem dX8_runNow_401 : decode cX8_runNow 401 = .ok (.iload 5, 2) := by decide +kernel
theorem dX8_runNow_403 : decode cX8_runNow 403 = .ok (.istore_n 2, 1) := by decide +kernel
theorem dX8_runNow_404 : decode cX8_runNow 404 = .ok (.goto (-335), 3) := by decide +kernel
theorem dX8_runNow_407 : decode cX8_runNow 407 = .ok (.aload_n 0, 1) := by decide +kernel
theorem dX8_runNow_408 : decode cX8_runNow 408 = .ok (.iload_n 2, 1) := by decide +kernel
theorem dX8_runNow_409 : decode cX8_runNow 409 = .ok (.aload_n 0, 1) := by decide +kernel
theorem dX8_runNow_410 : decode cX8_runNow 410 = .ok (.getfield 148, 3) := by decide +kernel
theorem dX8_runNow_413 : decode cX8_runNow 413 = .ok (.if_icmp .lt 7, 3) := by decide +kernel
theorem dX8_runNow_416 : decode cX8_runNow 416 = .ok (.iconst 1, 1) := by decide +kernel
theorem dX8_runNow_417 : decode cX8_runNow 417 = .ok (.goto 4, 3) := by decide +kernel
theorem dX8_runNow_420 : decode cX8_runNow 420 = .ok (.iconst 0, 1) := by decide +kernel
theorem dX8_runNow_421 : decode cX8_runNow 421 = .ok (.putfield 335, 3) := by decide +kernel
theorem dX8_runNow_424 : decode cX8_runNow 424 = .ok (.return_, 1) := by decide +kernel
theorem dX8_run_0 : decode cX8_run 0 = .ok (.iload_n 1, 1) := by decide +kernel
theorem dX8_run_1 : decode cX8_run 1 = .ok (.iconst 0, 1) := by decide +kernel
theorem dX8_run_2 : decode cX8_run 2 = .ok (.iconst 3, 1) := by decide +kernel
theorem dX8_run_3 : decode cX8_run 3 = .ok (.invokestatic 113, 3) := by decide +kernel
theorem dX8_run_6 : decode cX8_run 6 = .ok (.ifCond .ne 6, 3) := by decide +kernel
theorem dX8_run_9 : decode cX8_run 9 = .ok (.bipush (-2), 2) := by decide +kernel
theorem dX8_run_11 : decode cX8_run 11 = .ok (.ireturn, 1) := by decide +kernel
theorem dX8_run_12 : decode cX8_run 12 = .ok (.aload_n 0, 1) := by decide +kernel
theorem dX8_run_13 : decode cX8_run 13 = .ok (.invokevirtual 174, 3) := by decide +kernel
theorem dX8_run_16 : decode cX8_run 16 = .ok (.aload_n 0, 1) := by decide +kernel
theorem dX8_run_17 : decode cX8_run 17 = .ok (.sipush 500, 3) := by decide +kernel
theorem dX8_run_20 : decode cX8_run 20 = .ok (.invokevirtual 338, 3) := by decide +kernel
theorem dX8_run_23 : decode cX8_run 23 = .ok (.iload_n 1, 1) := by decide +kernel
theorem dX8_run_24 : decode cX8_run 24 = .ok (.ifCond .ne 10, 3) := by decide +kernel
theorem dX8_run_27 : decode cX8_run 27 = .ok (.aload_n 0, 1) := by decide +kernel
theorem dX8_run_28 : decode cX8_run 28 = .ok (.getfield 319, 3) := by decide +kernel
theorem dX8_run_31 : decode cX8_run 31 = .ok (.goto 39, 3) := by decide +kernel
theorem dX8_run_34 : decode cX8_run 34 = .ok (.iload_n 1, 1) := by decide +kernel
theorem dX8_run_35 : decode cX8_run 35 = .ok (.iconst 1, 1) := by decide +kernel
theorem dX8_run_36 : decode cX8_run 36 = .ok (.if_icmp .ne 10, 3) := by decide +kernel
theorem dX8_run_39 : decode cX8_run 39 = .ok (.aload_n 0, 1) := by decide +kernel
theorem dX8_run_40 : decode cX8_run 40 = .ok (.getfield 322, 3) := by decide +kernel
theorem dX8_run_43 : decode cX8_run 43 = .ok (.goto 27, 3) := by decide +kernel
theorem dX8_run_46 : decode cX8_run 46 = .ok (.iload_n 1, 1) := by decide +kernel
theorem dX8_run_47 : decode cX8_run 47 = .ok (.iconst 2, 1) := by decide +kernel
theorem dX8_run_48 : decode cX8_run 48 = .ok (.if_icmp .ne 10, 3) := by decide +kernel
theorem dX8_run_51 : decode cX8_run 51 = .ok (.aload_n 0, 1) := by decide +kernel
theorem dX8_run_52 : decode cX8_run 52 = .ok (.getfield 325, 3) := by decide +kernel
theorem dX8_run_55 : decode cX8_run 55 = .ok (.goto 15, 3) := by decide +kernel
theorem dX8_run_58 : decode cX8_run 58 = .ok (.aload_n 0, 1) := by decide +kernel
theorem dX8_run_59 : decode cX8_run 59 = .ok (.getfield 335, 3) := by decide +kernel
theorem dX8_run_62 : decode cX8_run 62 = .ok (.ifCond .eq 7, 3) := by decide +kernel
theorem dX8_run_65 : decode cX8_run 65 = .ok (.iconst 1, 1) := by decide +kernel
theorem dX8_run_66 : decode cX8_run 66 = .ok (.goto 4, 3) := by decide +kernel
theorem dX8_run_69 : decode cX8_run 69 = .ok (.iconst 0, 1) := by decide +kernel
theorem dX8_run_70 : decode cX8_run 70 = .ok (.ireturn, 1) := by decide +kernel
theorem dX8_out_0 : decode cX8_out 0 = .ok (.aload_n 0, 1) := by decide +kernel
theorem dX8_out_1 : decode cX8_out 1 = .ok (.invokevirtual 174, 3) := by decide +kernel
theorem dX8_out_4 : decode cX8_out 4 = .ok (.aload_n 0, 1) := by decide +kernel
theorem dX8_out_5 : decode cX8_out 5 = .ok (.sipush 500, 3) := by decide +kernel
theorem dX8_out_8 : decode cX8_out 8 = .ok (.invokevirtual 338, 3) := by decide +kernel
theorem dX8_out_11 : decode cX8_out 11 = .ok (.iload_n 1, 1) := by decide +kernel
theorem dX8_out_12 : decode cX8_out 12 = .ok (.iconst 0, 1) := by decide +kernel
theorem dX8_out_13 : decode cX8_out 13 = .ok (.aload_n 0, 1) := by decide +kernel
theorem dX8_out_14 : decode cX8_out 14 = .ok (.getfield 319, 3) := by decide +kernel
theorem dX8_out_17 : decode cX8_out 17 = .ok (.iconst 1, 1) := by decide +kernel
theorem dX8_out_18 : decode cX8_out 18 = .ok (.isub, 1) := by decide +kernel
theorem dX8_out_19 : decode cX8_out 19 = .ok (.invokestatic 113, 3) := by decide +kernel
theorem dX8_out_22 : decode cX8_out 22 = .ok (.ifCond .eq 12, 3) := by decide +kernel
theorem dX8_out_25 : decode cX8_out 25 = .ok (.aload_n 0, 1) := by decide +kernel
theorem dX8_out_26 : decode cX8_out 26 = .ok (.getfield 100, 3) := by decide +kernel
theorem dX8_out_29 : decode cX8_out 29 = .ok (.iload_n 1, 1) := by decide +kernel
theorem dX8_out_30 : decode cX8_out 30 = .ok (.iaload, 1) := by decide +kernel
theorem dX8_out_31 : decode cX8_out 31 = .ok (.goto 5, 3) := by decide +kernel
theorem dX8_out_34 : decode cX8_out 34 = .ok (.bipush (-6), 2) := by decide +kernel
theorem dX8_out_36 : decode cX8_out 36 = .ok (.ireturn, 1) := by decide +kernel
theorem dX8_spent_0 : decode cX8_spent 0 = .ok (.iload_n 1, 1) := by decide +kernel
theorem dX8_spent_1 : decode cX8_spent 1 = .ok (.iconst 0, 1) := by decide +kernel
theorem dX8_spent_2 : decode cX8_spent 2 = .ok (.iconst 5, 1) := by decide +kernel
