theorem dX6_init_46 : decode cX6_init 46 = .ok (.putfield 31, 3) := by decide +kernel
theorem dX6_init_49 : decode cX6_init 49 = .ok (.aload_n 0, 1) := by decide +kernel
theorem dX6_init_50 : decode cX6_init 50 = .ok (.iconst 0, 1) := by decide +kernel
theorem dX6_init_51 : decode cX6_init 51 = .ok (.putfield 34, 3) := by decide +kernel
theorem dX6_init_54 : decode cX6_init 54 = .ok (.aload_n 0, 1) := by decide +kernel
theorem dX6_init_55 : decode cX6_init 55 = .ok (.iconst 0, 1) := by decide +kernel
theorem dX6_init_56 : decode cX6_init 56 = .ok (.putfield 37, 3) := by decide +kernel
theorem dX6_init_59 : decode cX6_init 59 = .ok (.return_, 1) := by decide +kernel
theorem dX6_follow_0 : decode cX6_follow 0 = .ok (.aload_n 0, 1) := by decide +kernel
theorem dX6_follow_1 : decode cX6_follow 1 = .ok (.getfield 9, 3) := by decide +kernel
theorem dX6_follow_4 : decode cX6_follow 4 = .ok (.iconst 0, 1) := by decide +kernel
theorem dX6_follow_5 : decode cX6_follow 5 = .ok (.invokestatic 41, 3) := by decide +kernel
theorem dX6_follow_8 : decode cX6_follow 8 = .ok (.aload_n 0, 1) := by decide +kernel
theorem dX6_follow_9 : decode cX6_follow 9 = .ok (.getfield 15, 3) := by decide +kernel
theorem dX6_follow_12 : decode cX6_follow 12 = .ok (.iconst 0, 1) := by decide +kernel
theorem dX6_follow_13 : decode cX6_follow 13 = .ok (.invokestatic 41, 3) := by decide +kernel
theorem dX6_follow_16 : decode cX6_follow 16 = .ok (.aload_n 0, 1) := by decide +kernel
theorem dX6_follow_17 : decode cX6_follow 17 = .ok (.iconst 0, 1) := by decide +kernel
theorem dX6_follow_18 : decode cX6_follow 18 = .ok (.putfield 21, 3) := by decide +kernel
theorem dX6_follow_21 : decode cX6_follow 21 = .ok (.aload_n 0, 1) := by decide +kernel
theorem dX6_follow_22 : decode cX6_follow 22 = .ok (.iconst 0, 1) := by decide +kernel
theorem dX6_follow_23 : decode cX6_follow 23 = .ok (.putfield 25, 3) := by decide +kernel
theorem dX6_follow_26 : decode cX6_follow 26 = .ok (.aload_n 0, 1) := by decide +kernel
theorem dX6_follow_27 : decode cX6_follow 27 = .ok (.iconst 0, 1) := by decide +kernel
theorem dX6_follow_28 : decode cX6_follow 28 = .ok (.putfield 31, 3) := by decide +kernel
theorem dX6_follow_31 : decode cX6_follow 31 = .ok (.aload_n 0, 1) := by decide +kernel
theorem dX6_follow_32 : decode cX6_follow 32 = .ok (.iconst 0, 1) := by decide +kernel
theorem dX6_follow_33 : decode cX6_follow 33 = .ok (.putfield 34, 3) := by decide +kernel
theorem dX6_follow_36 : decode cX6_follow 36 = .ok (.iconst 0, 1) := by decide +kernel
theorem dX6_follow_37 : decode cX6_follow 37 = .ok (.istore_n 3, 1) := by decide +kernel
theorem dX6_follow_38 : decode cX6_follow 38 = .ok (.aload_n 0, 1) := by decide +kernel
theorem dX6_follow_39 : decode cX6_follow 39 = .ok (.iconst 0, 1) := by decide +kernel
theorem dX6_follow_40 : decode cX6_follow 40 = .ok (.putfield 28, 3) := by decide +kernel
theorem dX6_follow_43 : decode cX6_follow 43 = .ok (.aload_n 0, 1) := by decide +kernel
theorem dX6_follow_44 : decode cX6_follow 44 = .ok (.getfield 28, 3) := by decide +kernel
theorem dX6_follow_47 : decode cX6_follow 47 = .ok (.iload_n 2, 1) := by decide +kernel
theorem dX6_follow_48 : decode cX6_follow 48 = .ok (.if_icmp .ge 31, 3) := by decide +kernel
theorem dX6_follow_51 : decode cX6_follow 51 = .ok (.iload_n 3, 1) := by decide +kernel
theorem dX6_follow_52 : decode cX6_follow 52 = .ok (.aload_n 1, 1) := by decide +kernel
theorem dX6_follow_53 : decode cX6_follow 53 = .ok (.getfield 47, 3) := by decide +kernel
theorem dX6_follow_56 : decode cX6_follow 56 = .ok (.if_icmp .ge 23, 3) := by decide +kernel
theorem dX6_follow_59 : decode cX6_follow 59 = .ok (.aload_n 0, 1) := by decide +kernel
theorem dX6_follow_60 : decode cX6_follow 60 = .ok (.dup, 1) := by decide +kernel
theorem dX6_follow_61 : decode cX6_follow 61 = .ok (.getfield 28, 3) := by decide +kernel
theorem dX6_follow_64 : decode cX6_follow 64 = .ok (.iconst 1, 1) := by decide +kernel
theorem dX6_follow_65 : decode cX6_follow 65 = .ok (.iadd, 1) := by decide +kernel
theorem dX6_follow_66 : decode cX6_follow 66 = .ok (.putfield 28, 3) := by decide +kernel
theorem dX6_follow_69 : decode cX6_follow 69 = .ok (.aload_n 0, 1) := by decide +kernel
theorem dX6_follow_70 : decode cX6_follow 70 = .ok (.aload_n 1, 1) := by decide +kernel
theorem dX6_follow_71 : decode cX6_follow 71 = .ok (.iload_n 3, 1) := by decide +kernel
theorem dX6_follow_72 : decode cX6_follow 72 = .ok (.invokevirtual 52, 3) := by decide +kernel
theorem dX6_follow_75 : decode cX6_follow 75 = .ok (.istore_n 3, 1) := by decide +kernel
theorem dX6_follow_76 : decode cX6_follow 76 = .ok (.goto (-33), 3) := by decide +kernel
theorem dX6_follow_79 : decode cX6_follow 79 = .ok (.aload_n 0, 1) := by decide +kernel
theorem dX6_follow_80 : decode cX6_follow 80 = .ok (.iload_n 3, 1) := by decide +kernel
theorem dX6_follow_81 : decode cX6_follow 81 = .ok (.aload_n 1, 1) := by decide +kernel
theorem dX6_follow_82 : decode cX6_follow 82 = .ok (.getfield 47, 3) := by decide +kernel
theorem dX6_follow_85 : decode cX6_follow 85 = .ok (.if_icmp .lt 7, 3) := by decide +kernel
theorem dX6_follow_88 : decode cX6_follow 88 = .ok (.iconst 1, 1) := by decide +kernel
theorem dX6_follow_89 : decode cX6_follow 89 = .ok (.goto 4, 3) := by decide +kernel
theorem dX6_follow_92 : decode cX6_follow 92 = .ok (.iconst 0, 1) := by decide +kernel
theorem dX6_follow_93 : decode cX6_follow 93 = .ok (.putfield 37, 3) := by decide +kernel
theorem dX6_follow_96 : decode cX6_follow 96 = .ok (.return_, 1) := by decide +kernel
theorem dX6_obey_0 : decode cX6_obey 0 = .ok (.aload_n 1, 1) := by decide +kernel
theorem dX6_obey_1 : decode cX6_obey 1 = .ok (.iload_n 2, 1) := by decide +kernel
theorem dX6_obey_2 : decode cX6_obey 2 = .ok (.iconst 1, 1) := by decide +kernel
theorem dX6_obey_3 : decode cX6_obey 3 = .ok (.invokevirtual 56, 3) := by decide +kernel
theorem dX6_obey_6 : decode cX6_obey 6 = .ok (.istore_n 3, 1) := by decide +kernel
theorem dX6_obey_7 : decode cX6_obey 7 = .ok (.aload_n 1, 1) := by decide +kernel
theorem dX6_obey_8 : decode cX6_obey 8 = .ok (.iload_n 2, 1) := by decide +kernel
theorem dX6_obey_9 : decode cX6_obey 9 = .ok (.iconst 2, 1) := by decide +kernel
theorem dX6_obey_10 : decode cX6_obey 10 = .ok (.invokevirtual 56, 3) := by decide +kernel
theorem dX6_obey_13 : decode cX6_obey 13 = .ok (.istore 4, 2) := by decide +kernel
theorem dX6_obey_15 : decode cX6_obey 15 = .ok (.aload_n 1, 1) := by decide +kernel
theorem dX6_obey_16 : decode cX6_obey 16 = .ok (.iload_n 2, 1) := by decide +kernel
theorem dX6_obey_17 : decode cX6_obey 17 = .ok (.iconst 0, 1) := by decide +kernel
theorem dX6_obey_18 : decode cX6_obey 18 = .ok (.invokevirtual 56, 3) := by decide +kernel
theorem dX6_obey_21 : decode cX6_obey 21 = .ok (.tableswitch 186 0 8 #[51, 61, 75, 104, 124, 186, 136, 166, 176], 51) := by decide +kernel
theorem dX6_obey_72 : decode cX6_obey 72 = .ok (.aload_n 0, 1) := by decide +kernel
theorem dX6_obey_73 : decode cX6_obey 73 = .ok (.iload_n 3, 1) := by decide +kernel
theorem dX6_obey_74 : decode cX6_obey 74 = .ok (.iload 4, 2) := by decide +kernel
theorem dX6_obey_76 : decode cX6_obey 76 = .ok (.invokevirtual 60, 3) := by decide +kernel
theorem dX6_obey_79 : decode cX6_obey 79 = .ok (.goto 128, 3) := by decide +kernel
theorem dX6_obey_82 : decode cX6_obey 82 = .ok (.aload_n 0, 1) := by decide +kernel
theorem dX6_obey_83 : decode cX6_obey 83 = .ok (.iload_n 3, 1) := by decide +kernel
theorem dX6_obey_84 : decode cX6_obey 84 = .ok (.aload_n 0, 1) := by decide +kernel
theorem dX6_obey_85 : decode cX6_obey 85 = .ok (.iload 4, 2) := by decide +kernel
theorem dX6_obey_87 : decode cX6_obey 87 = .ok (.invokevirtual 64, 3) := by decide +kernel
theorem dX6_obey_90 : decode cX6_obey 90 = .ok (.invokevirtual 60, 3) := by decide +kernel
theorem dX6_obey_93 : decode cX6_obey 93 = .ok (.goto 114, 3) := by decide +kernel
theorem dX6_obey_96 : decode cX6_obey 96 = .ok (.aload_n 0, 1) := by decide +kernel
theorem dX6_obey_97 : decode cX6_obey 97 = .ok (.iload_n 3, 1) := by decide +kernel
theorem dX6_obey_98 : decode cX6_obey 98 = .ok (.aload_n 0, 1) := by decide +kernel
theorem dX6_obey_99 : decode cX6_obey 99 = .ok (.iload 4, 2) := by decide +kernel
theorem dX6_obey_101 : decode cX6_obey 101 = .ok (.invokevirtual 64, 3) := by decide +kernel
theorem dX6_obey_104 : decode cX6_obey 104 = .ok (.aload_n 0, 1) := by decide +kernel
theorem dX6_obey_105 : decode cX6_obey 105 = .ok (.aload_n 1, 1) := by decide +kernel
theorem dX6_obey_106 : decode cX6_obey 106 = .ok (.iload_n 2, 1) := by decide +kernel
theorem dX6_obey_107 : decode cX6_obey 107 = .ok (.iconst 3, 1) := by decide +kernel
theorem dX6_obey_108 : decode cX6_obey 108 = .ok (.invokevirtual 56, 3) := by decide +kernel
theorem dX6_obey_111 : decode cX6_obey 111 = .ok (.invokevirtual 64, 3) := by decide +kernel
theorem dX6_obey_114 : decode cX6_obey 114 = .ok (.iadd, 1) := by decide +kernel
theorem dX6_obey_115 : decode cX6_obey 115 = .ok (.sipush 1000, 3) := by decide +kernel
theorem dX6_obey_118 : decode cX6_obey 118 = .ok (.irem, 1) := by decide +kernel
theorem dX6_obey_119 : decode cX6_obey 119 = .ok (.invokevirtual 60, 3) := by decide +kernel
theorem dX6_obey_122 : decode cX6_obey 122 = .ok (.goto 85, 3) := by decide +kernel
theorem dX6_obey_125 : decode cX6_obey 125 = .ok (.aload_n 0, 1) := by decide +kernel
theorem dX6_obey_126 : decode cX6_obey 126 = .ok (.iload_n 3, 1) := by decide +kernel
theorem dX6_obey_127 : decode cX6_obey 127 = .ok (.iconst 0, 1) := by decide +kernel
theorem dX6_obey_128 : decode cX6_obey 128 = .ok (.aload_n 0, 1) := by decide +kernel
theorem dX6_obey_129 : decode cX6_obey 129 = .ok (.iload 4, 2) := by decide +kernel
theorem dX6_obey_131 : decode cX6_obey 131 = .ok (.invokevirtual 64, 3) := by decide +kernel
theorem dX6_obey_134 : decode cX6_obey 134 = .ok (.iconst 1, 1) := by decide +kernel
theorem dX6_obey_135 : decode cX6_obey 135 = .ok (.isub, 1) := by decide +kernel
theorem dX6_obey_136 : decode cX6_obey 136 = .ok (.invokestatic 68, 3) := by decide +kernel
theorem dX6_obey_139 : decode cX6_obey 139 = .ok (.invokevirtual 60, 3) := by decide +kernel
theorem dX6_obey_142 : decode cX6_obey 142 = .ok (.goto 65, 3) := by decide +kernel
theorem dX6_obey_145 : decode cX6_obey 145 = .ok (.aload_n 0, 1) := by decide +kernel
theorem dX6_obey_146 : decode cX6_obey 146 = .ok (.aload_n 0, 1) := by decide +kernel
theorem dX6_obey_147 : decode cX6_obey 147 = .ok (.iload_n 3, 1) := by decide +kernel
theorem dX6_obey_148 : decode cX6_obey 148 = .ok (.invokevirtual 64, 3) := by decide +kernel
theorem dX6_obey_151 : decode cX6_obey 151 = .ok (.invokevirtual 73, 3) := by decide +kernel
theorem dX6_obey_154 : decode cX6_obey 154 = .ok (.goto 53, 3) := by decide +kernel
theorem dX6_obey_157 : decode cX6_obey 157 = .ok (.aload_n 0, 1) := by decide +kernel
theorem dX6_obey_158 : decode cX6_obey 158 = .ok (.iload_n 3, 1) := by decide +kernel
theorem dX6_obey_159 : decode cX6_obey 159 = .ok (.invokevirtual 64, 3) := by decide +kernel
theorem dX6_obey_162 : decode cX6_obey 162 = .ok (.ifCond .eq 45, 3) := by decide +kernel
theorem dX6_obey_165 : decode cX6_obey 165 = .ok (.aload_n 1, 1) := by decide +kernel
theorem dX6_obey_166 : decode cX6_obey 166 = .ok (.iload_n 2, 1) := by decide +kernel
theorem dX6_obey_167 : decode cX6_obey 167 = .ok (.invokevirtual 77, 3) := by decide +kernel
theorem dX6_obey_170 : decode cX6_obey 170 = .ok (.istore 5, 2) := by decide +kernel
theorem dX6_obey_172 : decode cX6_obey 172 = .ok (.iload 5, 2) := by decide +kernel
theorem dX6_obey_174 : decode cX6_obey 174 = .ok (.ifCond .lt 8, 3) := by decide +kernel
theorem dX6_obey_177 : decode cX6_obey 177 = .ok (.iload 5, 2) := by decide +kernel
theorem dX6_obey_179 : decode cX6_obey 179 = .ok (.goto 7, 3) := by decide +kernel
theorem dX6_obey_182 : decode cX6_obey 182 = .ok (.aload_n 1, 1) := by decide +kernel
theorem dX6_obey_183 : decode cX6_obey 183 = .ok (.getfield 47, 3) := by decide +kernel
theorem dX6_obey_186 : decode cX6_obey 186 = .ok (.ireturn, 1) := by decide +kernel
theorem dX6_obey_187 : decode cX6_obey 187 = .ok (.aload_n 0, 1) := by decide +kernel
theorem dX6_obey_188 : decode cX6_obey 188 = .ok (.iload_n 3, 1) := by decide +kernel
theorem dX6_obey_189 : decode cX6_obey 189 = .ok (.iload 4, 2) := by decide +kernel
theorem dX6_obey_191 : decode cX6_obey 191 = .ok (.invokevirtual 80, 3) := by decide +kernel
theorem dX6_obey_194 : decode cX6_obey 194 = .ok (.goto 13, 3) := by decide +kernel
theorem dX6_obey_197 : decode cX6_obey 197 = .ok (.aload_n 0, 1) := by decide +kernel
theorem dX6_obey_198 : decode cX6_obey 198 = .ok (.iload_n 3, 1) := by decide +kernel
theorem dX6_obey_199 : decode cX6_obey 199 = .ok (.iload 4, 2) := by decide +kernel
theorem dX6_obey_201 : decode cX6_obey 201 = .ok (.invokevirtual 83, 3) := by decide +kernel
theorem dX6_obey_204 : decode cX6_obey 204 = .ok (.goto 3, 3) := by decide +kernel
theorem dX6_obey_207 : decode cX6_obey 207 = .ok (.iload_n 2, 1) := by decide +kernel
theorem dX6_obey_208 : decode cX6_obey 208 = .ok (.iconst 1, 1) := by decide +kernel
theorem dX6_obey_209 : decode cX6_obey 209 = .ok (.iadd, 1) := by decide +kernel
theorem dX6_obey_210 : decode cX6_obey 210 = .ok (.ireturn, 1) := by decide +kernel
theorem dX6_valueOf_0 : decode cX6_valueOf 0 = .ok (.iload_n 1, 1) := by decide +kernel
theorem dX6_valueOf_1 : decode cX6_valueOf 1 = .ok (.ifCond .lt 18, 3) := by decide +kernel
theorem dX6_valueOf_4 : decode cX6_valueOf 4 = .ok (.iload_n 1, 1) := by decide +kernel
theorem dX6_valueOf_5 : decode cX6_valueOf 5 = .ok (.bipush 64, 2) := by decide +kernel
theorem dX6_valueOf_7 : decode cX6_valueOf 7 = .ok (.if_icmp .ge 12, 3) := by decide +kernel
theorem dX6_valueOf_10 : decode cX6_valueOf 10 = .ok (.aload_n 0, 1) := by decide +kernel
theorem dX6_valueOf_11 : decode cX6_valueOf 11 = .ok (.getfield 9, 3) := by decide +kernel
theorem dX6_valueOf_14 : decode cX6_valueOf 14 = .ok (.iload_n 1, 1) := by decide +kernel
theorem dX6_valueOf_15 : decode cX6_valueOf 15 = .ok (.iaload, 1) := by decide +kernel
theorem dX6_valueOf_16 : decode cX6_valueOf 16 = .ok (.goto 4, 3) := by decide +kernel
theorem dX6_valueOf_19 : decode cX6_valueOf 19 = .ok (.iconst 0, 1) := by decide +kernel
theorem dX6_valueOf_20 : decode cX6_valueOf 20 = .ok (.ireturn, 1) := by decide +kernel
theorem dX6_put_0 : decode cX6_put 0 = .ok (.iload_n 1, 1) := by decide +kernel
theorem dX6_put_1 : decode cX6_put 1 = .ok (.ifCond .lt 16, 3) := by decide +kernel
theorem dX6_put_4 : decode cX6_put 4 = .ok (.iload_n 1, 1) := by decide +kernel
theorem dX6_put_5 : decode cX6_put 5 = .ok (.bipush 64, 2) := by decide +kernel
theorem dX6_put_7 : decode cX6_put 7 = .ok (.if_icmp .ge 10, 3) := by decide +kernel
theorem dX6_put_10 : decode cX6_put 10 = .ok (.aload_n 0, 1) := by decide +kernel
theorem dX6_put_11 : decode cX6_put 11 = .ok (.getfield 9, 3) := by decide +kernel
theorem dX6_put_14 : decode cX6_put 14 = .ok (.iload_n 1, 1) := by decide +kernel
theorem dX6_put_15 : decode cX6_put 15 = .ok (.iload_n 2, 1) := by decide +kernel
theorem dX6_put_16 : decode cX6_put 16 = .ok (.iastore, 1) := by decide +kernel
theorem dX6_put_17 : decode cX6_put 17 = .ok (.return_, 1) := by decide +kernel
theorem dX6_tell_0 : decode cX6_tell 0 = .ok (.aload_n 0, 1) := by decide +kernel
theorem dX6_tell_1 : decode cX6_tell 1 = .ok (.getfield 21, 3) := by decide +kernel
theorem dX6_tell_4 : decode cX6_tell 4 = .ok (.ifCond .lt 23, 3) := by decide +kernel
theorem dX6_tell_7 : decode cX6_tell 7 = .ok (.aload_n 0, 1) := by decide +kernel
theorem dX6_tell_8 : decode cX6_tell 8 = .ok (.getfield 21, 3) := by decide +kernel
theorem dX6_tell_11 : decode cX6_tell 11 = .ok (.sipush 500, 3) := by decide +kernel
theorem dX6_tell_14 : decode cX6_tell 14 = .ok (.if_icmp .ge 13, 3) := by decide +kernel
theorem dX6_tell_17 : decode cX6_tell 17 = .ok (.aload_n 0, 1) := by decide +kernel
theorem dX6_tell_18 : decode cX6_tell 18 = .ok (.getfield 18, 3) := by decide +kernel
theorem dX6_tell_21 : decode cX6_tell 21 = .ok (.aload_n 0, 1) := by decide +kernel
theorem dX6_tell_22 : decode cX6_tell 22 = .ok (.getfield 21, 3) := by decide +kernel
theorem dX6_tell_25 : decode cX6_tell 25 = .ok (.iload_n 1, 1) := by decide +kernel
theorem dX6_tell_26 : decode cX6_tell 26 = .ok (.iastore, 1) := by decide +kernel
theorem dX6_tell_27 : decode cX6_tell 27 = .ok (.aload_n 0, 1) := by decide +kernel
theorem dX6_tell_28 : decode cX6_tell 28 = .ok (.dup, 1) := by decide +kernel
theorem dX6_tell_29 : decode cX6_tell 29 = .ok (.getfield 21, 3) := by decide +kernel
theorem dX6_tell_32 : decode cX6_tell 32 = .ok (.iconst 1, 1) := by decide +kernel
theorem dX6_tell_33 : decode cX6_tell 33 = .ok (.iadd, 1) := by decide +kernel
theorem dX6_tell_34 : decode cX6_tell 34 = .ok (.putfield 21, 3) := by decide +kernel
theorem dX6_tell_37 : decode cX6_tell 37 = .ok (.aload_n 0, 1) := by decide +kernel
theorem dX6_tell_38 : decode cX6_tell 38 = .ok (.bipush 31, 2) := by decide +kernel
theorem dX6_tell_40 : decode cX6_tell 40 = .ok (.aload_n 0, 1) := by decide +kernel
theorem dX6_tell_41 : decode cX6_tell 41 = .ok (.getfield 25, 3) := by decide +kernel
theorem dX6_tell_44 : decode cX6_tell 44 = .ok (.imul, 1) := by decide +kernel
theorem dX6_tell_45 : decode cX6_tell 45 = .ok (.iload_n 1, 1) := by decide +kernel
theorem dX6_tell_46 : decode cX6_tell 46 = .ok (.iadd, 1) := by decide +kernel
theorem dX6_tell_47 : decode cX6_tell 47 = .ok (.ldc 86, 2) := by decide +kernel
theorem dX6_tell_49 : decode cX6_tell 49 = .ok (.irem, 1) := by decide +kernel
theorem dX6_tell_50 : decode cX6_tell 50 = .ok (.putfield 25, 3) := by decide +kernel
theorem dX6_tell_53 : decode cX6_tell 53 = .ok (.return_, 1) := by decide +kernel
theorem dX6_fetch_0 : decode cX6_fetch 0 = .ok (.aload_n 0, 1) := by decide +kernel
theorem dX6_fetch_1 : decode cX6_fetch 1 = .ok (.dup, 1) := by decide +kernel
theorem dX6_fetch_2 : decode cX6_fetch 2 = .ok (.getfield 31, 3) := by decide +kernel
theorem dX6_fetch_5 : decode cX6_fetch 5 = .ok (.iconst 1, 1) := by decide +kernel
theorem dX6_fetch_6 : decode cX6_fetch 6 = .ok (.iadd, 1) := by decide +kernel
theorem dX6_fetch_7 : decode cX6_fetch 7 = .ok (.putfield 31, 3) := by decide +kernel
theorem dX6_fetch_10 : decode cX6_fetch 10 = .ok (.iload_n 2, 1) := by decide +kernel
theorem dX6_fetch_11 : decode cX6_fetch 11 = .ok (.ifCond .lt 20, 3) := by decide +kernel
theorem dX6_fetch_14 : decode cX6_fetch 14 = .ok (.iload_n 2, 1) := by decide +kernel
theorem dX6_fetch_15 : decode cX6_fetch 15 = .ok (.bipush 64, 2) := by decide +kernel
theorem dX6_fetch_17 : decode cX6_fetch 17 = .ok (.if_icmp .ge 14, 3) := by decide +kernel
theorem dX6_fetch_20 : decode cX6_fetch 20 = .ok (.aload_n 0, 1) := by decide +kernel
theorem dX6_fetch_21 : decode cX6_fetch 21 = .ok (.iload_n 1, 1) := by decide +kernel
theorem dX6_fetch_22 : decode cX6_fetch 22 = .ok (.aload_n 0, 1) := by decide +kernel
theorem dX6_fetch_23 : decode cX6_fetch 23 = .ok (.getfield 15, 3) := by decide +kernel
theorem dX6_fetch_26 : decode cX6_fetch 26 = .ok (.iload_n 2, 1) := by decide +kernel
theorem dX6_fetch_27 : decode cX6_fetch 27 = .ok (.iaload, 1) := by decide +kernel
theorem dX6_fetch_28 : decode cX6_fetch 28 = .ok (.invokevirtual 60, 3) := by decide +kernel
theorem dX6_fetch_31 : decode cX6_fetch 31 = .ok (.return_, 1) := by decide +kernel
theorem dX6_keep_0 : decode cX6_keep 0 = .ok (.aload_n 0, 1) := by decide +kernel
theorem dX6_keep_1 : decode cX6_keep 1 = .ok (.dup, 1) := by decide +kernel
theorem dX6_keep_2 : decode cX6_keep 2 = .ok (.getfield 34, 3) := by decide +kernel
theorem dX6_keep_5 : decode cX6_keep 5 = .ok (.iconst 1, 1) := by decide +kernel
theorem dX6_keep_6 : decode cX6_keep 6 = .ok (.iadd, 1) := by decide +kernel
theorem dX6_keep_7 : decode cX6_keep 7 = .ok (.putfield 34, 3) := by decide +kernel
theorem dX6_keep_10 : decode cX6_keep 10 = .ok (.iload_n 2, 1) := by decide +kernel
theorem dX6_keep_11 : decode cX6_keep 11 = .ok (.ifCond .lt 20, 3) := by decide +kernel
theorem dX6_keep_14 : decode cX6_keep 14 = .ok (.iload_n 2, 1) := by decide +kernel
theorem dX6_keep_15 : decode cX6_keep 15 = .ok (.bipush 64, 2) := by decide +kernel
theorem dX6_keep_17 : decode cX6_keep 17 = .ok (.if_icmp .ge 14, 3) := by decide +kernel
theorem dX6_keep_20 : decode cX6_keep 20 = .ok (.aload_n 0, 1) := by decide +kernel
theorem dX6_keep_21 : decode cX6_keep 21 = .ok (.getfield 15, 3) := by decide +kernel
theorem dX6_keep_24 : decode cX6_keep 24 = .ok (.iload_n 2, 1) := by decide +kernel
theorem dX6_keep_25 : decode cX6_keep 25 = .ok (.aload_n 0, 1) := by decide +kernel
theorem dX6_keep_26 : decode cX6_keep 26 = .ok (.iload_n 1, 1) := by decide +kernel
theorem dX6_keep_27 : decode cX6_keep 27 = .ok (.invokevirtual 64, 3) := by decide +kernel
theorem dX6_keep_30 : decode cX6_keep 30 = .ok (.iastore, 1) := by decide +kernel
theorem dX6_keep_31 : decode cX6_keep 31 = .ok (.return_, 1) := by decide +kernel
theorem dX6_answer_0 : decode cX6_answer 0 = .ok (.iload_n 1, 1) := by decide +kernel
theorem dX6_answer_1 : decode cX6_answer 1 = .ok (.tableswitch 68 0 4 #[35, 40, 45, 50, 63], 35) := by decide +kernel
theorem dX6_answer_36 : decode cX6_answer 36 = .ok (.aload_n 0, 1) := by decide +kernel
theorem dX6_answer_37 : decode cX6_answer 37 = .ok (.getfield 21, 3) := by decide +kernel
theorem dX6_answer_40 : decode cX6_answer 40 = .ok (.ireturn, 1) := by decide +kernel
theorem dX6_answer_41 : decode cX6_answer 41 = .ok (.aload_n 0, 1) := by decide +kernel
theorem dX6_answer_42 : decode cX6_answer 42 = .ok (.getfield 25, 3) := by decide +kernel
theorem dX6_answer_45 : decode cX6_answer 45 = .ok (.ireturn, 1) := by decide +kernel
theorem dX6_answer_46 : decode cX6_answer 46 = .ok (.aload_n 0, 1) := by decide +kernel
theorem dX6_answer_47 : decode cX6_answer 47 = .ok (.getfield 28, 3) := by decide +kernel
theorem dX6_answer_50 : decode cX6_answer 50 = .ok (.ireturn, 1) := by decide +kernel
theorem dX6_answer_51 : decode cX6_answer 51 = .ok (.aload_n 0, 1) := by decide +kernel
theorem dX6_answer_52 : decode cX6_answer 52 = .ok (.getfield 37, 3) := by decide +kernel
theorem dX6_answer_55 : decode cX6_answer 55 = .ok (.ifCond .eq 7, 3) := by decide +kernel
theorem dX6_answer_58 : decode cX6_answer 58 = .ok (.iconst 1, 1) := by decide +kernel
theorem dX6_answer_59 : decode cX6_answer 59 = .ok (.goto 4, 3) := by decide +kernel
theorem dX6_answer_62 : decode cX6_answer 62 = .ok (.iconst 0, 1) := by decide +kernel
theorem dX6_answer_63 : decode cX6_answer 63 = .ok (.ireturn, 1) := by decide +kernel
theorem dX6_answer_64 : decode cX6_answer 64 = .ok (.aload_n 0, 1) := by decide +kernel
theorem dX6_answer_65 : decode cX6_answer 65 = .ok (.getfield 31, 3) := by decide +kernel
theorem dX6_answer_68 : decode cX6_answer 68 = .ok (.ireturn, 1) := by decide +kernel
theorem dX6_answer_69 : decode cX6_answer 69 = .ok (.aload_n 0, 1) := by decide +kernel
theorem dX6_answer_70 : decode cX6_answer 70 = .ok (.getfield 34, 3) := by decide +kernel
theorem dX6_answer_73 : decode cX6_answer 73 = .ok (.ireturn, 1) := by decide +kernel
theorem dX7_init_0 : decode cX7_init 0 = .ok (.aload_n 0, 1) := by decide +kernel
theorem dX7_init_1 : decode cX7_init 1 = .ok (.invokespecial 1, 3) := by decide +kernel
theorem dX7_init_4 : decode cX7_init 4 = .ok (.aload_n 0, 1) := by decide +kernel
theorem dX7_init_5 : decode cX7_init 5 = .ok (.new 7, 3) := by decide +kernel
theorem dX7_init_8 : decode cX7_init 8 = .ok (.dup, 1) := by decide +kernel
theorem dX7_init_9 : decode cX7_init 9 = .ok (.invokespecial 9, 3) := by decide +kernel
theorem dX7_init_12 : decode cX7_init 12 = .ok (.putfield 10, 3) := by decide +kernel
theorem dX7_init_15 : decode cX7_init 15 = .ok (.aload_n 0, 1) := by decide +kernel
theorem dX7_init_16 : decode cX7_init 16 = .ok (.new 16, 3) := by decide +kernel
theorem dX7_init_19 : decode cX7_init 19 = .ok (.dup, 1) := by decide +kernel
theorem dX7_init_20 : decode cX7_init 20 = .ok (.invokespecial 18, 3) := by decide +kernel
theorem dX7_init_23 : decode cX7_init 23 = .ok (.putfield 19, 3) := by decide +kernel
theorem dX7_init_26 : decode cX7_init 26 = .ok (.aload_n 0, 1) := by decide +kernel
theorem dX7_init_27 : decode cX7_init 27 = .ok (.new 23, 3) := by decide +kernel
theorem dX7_init_30 : decode cX7_init 30 = .ok (.dup, 1) := by decide +kernel
theorem dX7_init_31 : decode cX7_init 31 = .ok (.invokespecial 25, 3) := by decide +kernel
theorem dX7_init_34 : decode cX7_init 34 = .ok (.putfield 26, 3) := by decide +kernel
theorem dX7_init_37 : decode cX7_init 37 = .ok (.aload_n 0, 1) := by decide +kernel
theorem dX7_init_38 : decode cX7_init 38 = .ok (.new 30, 3) := by decide +kernel
theorem dX7_init_41 : decode cX7_init 41 = .ok (.dup, 1) := by decide +kernel
theorem dX7_init_42 : decode cX7_init 42 = .ok (.invokespecial 32, 3) := by decide +kernel
theorem dX7_init_45 : decode cX7_init 45 = .ok (.putfield 33, 3) := by decide +kernel
theorem dX7_init_48 : decode cX7_init 48 = .ok (.aload_n 0, 1) := by decide +kernel
theorem dX7_init_49 : decode cX7_init 49 = .ok (.new 37, 3) := by decide +kernel
theorem dX7_init_52 : decode cX7_init 52 = .ok (.dup, 1) := by decide +kernel
theorem dX7_init_53 : decode cX7_init 53 = .ok (.invokespecial 39, 3) := by decide +kernel
theorem dX7_init_56 : decode cX7_init 56 = .ok (.putfield 40, 3) := by decide +kernel
theorem dX7_init_59 : decode cX7_init 59 = .ok (.aload_n 0, 1) := by decide +kernel
theorem dX7_init_60 : decode cX7_init 60 = .ok (.new 37, 3) := by decide +kernel
theorem dX7_init_63 : decode cX7_init 63 = .ok (.dup, 1) := by decide +kernel
theorem dX7_init_64 : decode cX7_init 64 = .ok (.invokespecial 39, 3) := by decide +kernel
theorem dX7_init_67 : decode cX7_init 67 = .ok (.putfield 44, 3) := by decide +kernel
theorem dX7_init_70 : decode cX7_init 70 = .ok (.aload_n 0, 1) := by decide +kernel
theorem dX7_init_71 : decode cX7_init 71 = .ok (.iconst 2, 1) := by decide +kernel
theorem dX7_init_72 : decode cX7_init 72 = .ok (.anewarray 47, 3) := by decide +kernel
theorem dX7_init_75 : decode cX7_init 75 = .ok (.putfield 49, 3) := by decide +kernel
theorem dX7_init_78 : decode cX7_init 78 = .ok (.aload_n 0, 1) := by decide +kernel
theorem dX7_init_79 : decode cX7_init 79 = .ok (.iconst 3, 1) := by decide +kernel
theorem dX7_init_80 : decode cX7_init 80 = .ok (.putfield 53, 3) := by decide +kernel
theorem dX7_init_83 : decode cX7_init 83 = .ok (.aload_n 0, 1) := by decide +kernel
theorem dX7_init_84 : decode cX7_init 84 = .ok (.iconst 0, 1) := by decide +kernel
theorem dX7_init_85 : decode cX7_init 85 = .ok (.putfield 57, 3) := by decide +kernel
theorem dX7_init_88 : decode cX7_init 88 = .ok (.aload_n 0, 1) := by decide +kernel
theorem dX7_init_89 : decode cX7_init 89 = .ok (.iconst 0, 1) := by decide +kernel
theorem dX7_init_90 : decode cX7_init 90 = .ok (.putfield 60, 3) := by decide +kernel
theorem dX7_init_93 : decode cX7_init 93 = .ok (.aload_n 0, 1) := by decide +kernel
theorem dX7_init_94 : decode cX7_init 94 = .ok (.iconst 0, 1) := by decide +kernel
theorem dX7_init_95 : decode cX7_init 95 = .ok (.putfield 64, 3) := by decide +kernel
theorem dX7_init_98 : decode cX7_init 98 = .ok (.aload_n 0, 1) := by decide +kernel
theorem dX7_init_99 : decode cX7_init 99 = .ok (.iconst 0, 1) := by decide +kernel
theorem dX7_init_100 : decode cX7_init 100 = .ok (.putfield 67, 3) := by decide +kernel
theorem dX7_init_103 : decode cX7_init 103 = .ok (.aload_n 0, 1) := by decide +kernel
theorem dX7_init_104 : decode cX7_init 104 = .ok (.iconst 0, 1) := by decide +kernel
theorem dX7_init_105 : decode cX7_init 105 = .ok (.putfield 70, 3) := by decide +kernel
theorem dX7_init_108 : decode cX7_init 108 = .ok (.iconst 0, 1) := by decide +kernel
theorem dX7_init_109 : decode cX7_init 109 = .ok (.istore_n 1, 1) := by decide +kernel
theorem dX7_init_110 : decode cX7_init 110 = .ok (.iload_n 1, 1) := by decide +kernel
theorem dX7_init_111 : decode cX7_init 111 = .ok (.iconst 2, 1) := by decide +kernel
theorem dX7_init_112 : decode cX7_init 112 = .ok (.if_icmp .ge 22, 3) := by decide +kernel
theorem dX7_init_115 : decode cX7_init 115 = .ok (.aload_n 0, 1) := by decide +kernel
theorem dX7_init_116 : decode cX7_init 116 = .ok (.getfield 49, 3) := by decide +kernel
theorem dX7_init_119 : decode cX7_init 119 = .ok (.iload_n 1, 1) := by decide +kernel
theorem dX7_init_120 : decode cX7_init 120 = .ok (.new 47, 3) := by decide +kernel
theorem dX7_init_123 : decode cX7_init 123 = .ok (.dup, 1) := by decide +kernel
theorem dX7_init_124 : decode cX7_init 124 = .ok (.invokespecial 73, 3) := by decide +kernel
theorem dX7_init_127 : decode cX7_init 127 = .ok (.aastore, 1) := by decide +kernel
theorem dX7_init_128 : decode cX7_init 128 = .ok (.iinc 1 1, 3) := by decide +kernel
theorem dX7_init_131 : decode cX7_init 131 = .ok (.goto (-21), 3) := by decide +kernel
theorem dX7_init_134 : decode cX7_init 134 = .ok (.return_, 1) := by decide +kernel
theorem dX7_colours_0 : decode cX7_colours 0 = .ok (.iload_n 1, 1) := by decide +kernel
theorem dX7_colours_1 : decode cX7_colours 1 = .ok (.iconst 2, 1) := by decide +kernel
theorem dX7_colours_2 : decode cX7_colours 2 = .ok (.if_icmp .lt 8, 3) := by decide +kernel
theorem dX7_colours_5 : decode cX7_colours 5 = .ok (.iload_n 1, 1) := by decide +kernel
theorem dX7_colours_6 : decode cX7_colours 6 = .ok (.iconst 4, 1) := by decide +kernel
theorem dX7_colours_7 : decode cX7_colours 7 = .ok (.if_icmp .le 6, 3) := by decide +kernel
theorem dX7_colours_10 : decode cX7_colours 10 = .ok (.bipush (-2), 2) := by decide +kernel
theorem dX7_colours_12 : decode cX7_colours 12 = .ok (.ireturn, 1) := by decide +kernel
theorem dX7_colours_13 : decode cX7_colours 13 = .ok (.aload_n 0, 1) := by decide +kernel
theorem dX7_colours_14 : decode cX7_colours 14 = .ok (.getfield 53, 3) := by decide +kernel
theorem dX7_colours_17 : decode cX7_colours 17 = .ok (.istore_n 2, 1) := by decide +kernel
theorem dX7_colours_18 : decode cX7_colours 18 = .ok (.aload_n 0, 1) := by decide +kernel
theorem dX7_colours_19 : decode cX7_colours 19 = .ok (.iload_n 1, 1) := by decide +kernel
theorem dX7_colours_20 : decode cX7_colours 20 = .ok (.putfield 53, 3) := by decide +kernel
theorem dX7_colours_23 : decode cX7_colours 23 = .ok (.aload_n 0, 1) := by decide +kernel
theorem dX7_colours_24 : decode cX7_colours 24 = .ok (.invokevirtual 74, 3) := by decide +kernel
theorem dX7_colours_27 : decode cX7_colours 27 = .ok (.iload_n 2, 1) := by decide +kernel
theorem dX7_colours_28 : decode cX7_colours 28 = .ok (.ireturn, 1) := by decide +kernel
theorem dX7_way_0 : decode cX7_way 0 = .ok (.iload_n 1, 1) := by decide +kernel
theorem dX7_way_1 : decode cX7_way 1 = .ok (.ifCond .lt 8, 3) := by decide +kernel
theorem dX7_way_4 : decode cX7_way 4 = .ok (.iload_n 1, 1) := by decide +kernel
theorem dX7_way_5 : decode cX7_way 5 = .ok (.iconst 2, 1) := by decide +kernel
theorem dX7_way_6 : decode cX7_way 6 = .ok (.if_icmp .le 6, 3) := by decide +kernel
theorem dX7_way_9 : decode cX7_way 9 = .ok (.bipush (-2), 2) := by decide +kernel
theorem dX7_way_11 : decode cX7_way 11 = .ok (.ireturn, 1) := by decide +kernel
theorem dX7_way_12 : decode cX7_way 12 = .ok (.aload_n 0, 1) := by decide +kernel
theorem dX7_way_13 : decode cX7_way 13 = .ok (.getfield 57, 3) := by decide +kernel
theorem dX7_way_16 : decode cX7_way 16 = .ok (.istore_n 2, 1) := by decide +kernel
theorem dX7_way_17 : decode cX7_way 17 = .ok (.aload_n 0, 1) := by decide +kernel
theorem dX7_way_18 : decode cX7_way 18 = .ok (.iload_n 1, 1) := by decide +kernel
theorem dX7_way_19 : decode cX7_way 19 = .ok (.putfield 57, 3) := by decide +kernel
theorem dX7_way_22 : decode cX7_way 22 = .ok (.aload_n 0, 1) := by decide +kernel
theorem dX7_way_23 : decode cX7_way 23 = .ok (.invokevirtual 74, 3) := by decide +kernel
theorem dX7_way_26 : decode cX7_way 26 = .ok (.iload_n 2, 1) := by decide +kernel
theorem dX7_way_27 : decode cX7_way 27 = .ok (.ireturn, 1) := by decide +kernel
theorem dX7_say_0 : decode cX7_say 0 = .ok (.iload_n 1, 1) := by decide +kernel
theorem dX7_say_1 : decode cX7_say 1 = .ok (.bipush 33, 2) := by decide +kernel
theorem dX7_say_3 : decode cX7_say 3 = .ok (.if_icmp .lt 9, 3) := by decide +kernel
theorem dX7_say_6 : decode cX7_say 6 = .ok (.iload_n 1, 1) := by decide +kernel
theorem dX7_say_7 : decode cX7_say 7 = .ok (.bipush 126, 2) := by decide +kernel
theorem dX7_say_9 : decode cX7_say 9 = .ok (.if_icmp .le 6, 3) := by decide +kernel
theorem dX7_say_12 : decode cX7_say 12 = .ok (.bipush (-2), 2) := by decide +kernel
theorem dX7_say_14 : decode cX7_say 14 = .ok (.ireturn, 1) := by decide +kernel
theorem dX7_say_15 : decode cX7_say 15 = .ok (.aload_n 0, 1) := by decide +kernel
theorem dX7_say_16 : decode cX7_say 16 = .ok (.getfield 10, 3) := by decide +kernel
theorem dX7_say_19 : decode cX7_say 19 = .ok (.iload_n 1, 1) := by decide +kernel
theorem dX7_say_20 : decode cX7_say 20 = .ok (.invokevirtual 77, 3) := by decide +kernel
theorem dX7_say_23 : decode cX7_say 23 = .ok (.ifCond .ne 6, 3) := by decide +kernel
theorem dX7_say_26 : decode cX7_say 26 = .ok (.bipush (-4), 2) := by decide +kernel
theorem dX7_say_28 : decode cX7_say 28 = .ok (.ireturn, 1) := by decide +kernel
theorem dX7_say_29 : decode cX7_say 29 = .ok (.aload_n 0, 1) := by decide +kernel
theorem dX7_say_30 : decode cX7_say 30 = .ok (.getfield 10, 3) := by decide +kernel
theorem dX7_say_33 : decode cX7_say 33 = .ok (.getfield 81, 3) := by decide +kernel
theorem dX7_say_36 : decode cX7_say 36 = .ok (.ireturn, 1) := by decide +kernel
theorem dX7_wipe_0 : decode cX7_wipe 0 = .ok (.aload_n 0, 1) := by decide +kernel
theorem dX7_wipe_1 : decode cX7_wipe 1 = .ok (.getfield 10, 3) := by decide +kernel
theorem dX7_wipe_4 : decode cX7_wipe 4 = .ok (.getfield 81, 3) := by decide +kernel
theorem dX7_wipe_7 : decode cX7_wipe 7 = .ok (.istore_n 1, 1) := by decide +kernel
theorem dX7_wipe_8 : decode cX7_wipe 8 = .ok (.aload_n 0, 1) := by decide +kernel
theorem dX7_wipe_9 : decode cX7_wipe 9 = .ok (.getfield 10, 3) := by decide +kernel
theorem dX7_wipe_12 : decode cX7_wipe 12 = .ok (.iconst 0, 1) := by decide +kernel
theorem dX7_wipe_13 : decode cX7_wipe 13 = .ok (.putfield 81, 3) := by decide +kernel
theorem dX7_wipe_16 : decode cX7_wipe 16 = .ok (.iload_n 1, 1) := by decide +kernel
theorem dX7_wipe_17 : decode cX7_wipe 17 = .ok (.ireturn, 1) := by decide +kernel
theorem dX7_fault_0 : decode cX7_fault 0 = .ok (.aload_n 0, 1) := by decide +kernel
theorem dX7_fault_1 : decode cX7_fault 1 = .ok (.getfield 10, 3) := by decide +kernel
theorem dX7_fault_4 : decode cX7_fault 4 = .ok (.invokevirtual 84, 3) := by decide +kernel
theorem dX7_fault_7 : decode cX7_fault 7 = .ok (.ireturn, 1) := by decide +kernel
theorem dX7_load_0 : decode cX7_load 0 = .ok (.aload_n 0, 1) := by decide +kernel
theorem dX7_load_1 : decode cX7_load 1 = .ok (.getfield 10, 3) := by decide +kernel
theorem dX7_load_4 : decode cX7_load 4 = .ok (.invokevirtual 84, 3) := by decide +kernel
theorem dX7_load_7 : decode cX7_load 7 = .ok (.bipush (-6), 2) := by decide +kernel
theorem dX7_load_9 : decode cX7_load 9 = .ok (.if_icmp .eq 6, 3) := by decide +kernel
theorem dX7_load_12 : decode cX7_load 12 = .ok (.bipush (-5), 2) := by decide +kernel
theorem dX7_load_14 : decode cX7_load 14 = .ok (.ireturn, 1) := by decide +kernel
theorem dX7_load_15 : decode cX7_load 15 = .ok (.aload_n 0, 1) := by decide +kernel
theorem dX7_load_16 : decode cX7_load 16 = .ok (.getfield 10, 3) := by decide +kernel
theorem dX7_load_19 : decode cX7_load 19 = .ok (.aload_n 0, 1) := by decide +kernel
theorem dX7_load_20 : decode cX7_load 20 = .ok (.getfield 19, 3) := by decide +kernel
theorem dX7_load_23 : decode cX7_load 23 = .ok (.invokevirtual 88, 3) := by decide +kernel
theorem dX7_load_26 : decode cX7_load 26 = .ok (.aload_n 0, 1) := by decide +kernel
theorem dX7_load_27 : decode cX7_load 27 = .ok (.getfield 10, 3) := by decide +kernel
theorem dX7_load_30 : decode cX7_load 30 = .ok (.iconst 0, 1) := by decide +kernel
theorem dX7_load_31 : decode cX7_load 31 = .ok (.putfield 81, 3) := by decide +kernel
theorem dX7_load_34 : decode cX7_load 34 = .ok (.aload_n 0, 1) := by decide +kernel
theorem dX7_load_35 : decode cX7_load 35 = .ok (.invokevirtual 92, 3) := by decide +kernel
theorem dX7_load_38 : decode cX7_load 38 = .ok (.aload_n 0, 1) := by decide +kernel
theorem dX7_load_39 : decode cX7_load 39 = .ok (.getfield 19, 3) := by decide +kernel
theorem dX7_load_42 : decode cX7_load 42 = .ok (.getfield 95, 3) := by decide +kernel
theorem dX7_load_45 : decode cX7_load 45 = .ok (.ireturn, 1) := by decide +kernel
theorem dX7_instruction_0 : decode cX7_instruction 0 = .ok (.iload_n 1, 1) := by decide +kernel
theorem dX7_instruction_1 : decode cX7_instruction 1 = .ok (.ifCond .lt 14, 3) := by decide +kernel
theorem dX7_instruction_4 : decode cX7_instruction 4 = .ok (.iload_n 1, 1) := by decide +kernel
theorem dX7_instruction_5 : decode cX7_instruction 5 = .ok (.aload_n 0, 1) := by decide +kernel
theorem dX7_instruction_6 : decode cX7_instruction 6 = .ok (.getfield 19, 3) := by decide +kernel
theorem dX7_instruction_9 : decode cX7_instruction 9 = .ok (.getfield 95, 3) := by decide +kernel
theorem dX7_instruction_12 : decode cX7_instruction 12 = .ok (.if_icmp .lt 5, 3) := by decide +kernel
theorem dX7_instruction_15 : decode cX7_instruction 15 = .ok (.iconst (-1), 1) := by decide +kernel
theorem dX7_instruction_16 : decode cX7_instruction 16 = .ok (.ireturn, 1) := by decide +kernel
theorem dX7_instruction_17 : decode cX7_instruction 17 = .ok (.iload_n 2, 1) := by decide +kernel
theorem dX7_instruction_18 : decode cX7_instruction 18 = .ok (.ifCond .lt 8, 3) := by decide +kernel
theorem dX7_instruction_21 : decode cX7_instruction 21 = .ok (.iload_n 2, 1) := by decide +kernel
theorem dX7_instruction_22 : decode cX7_instruction 22 = .ok (.iconst 3, 1) := by decide +kernel
theorem dX7_instruction_23 : decode cX7_instruction 23 = .ok (.if_icmp .le 6, 3) := by decide +kernel
theorem dX7_instruction_26 : decode cX7_instruction 26 = .ok (.bipush (-2), 2) := by decide +kernel
theorem dX7_instruction_28 : decode cX7_instruction 28 = .ok (.ireturn, 1) := by decide +kernel
theorem dX7_instruction_29 : decode cX7_instruction 29 = .ok (.aload_n 0, 1) := by decide +kernel
theorem dX7_instruction_30 : decode cX7_instruction 30 = .ok (.getfield 19, 3) := by decide +kernel
theorem dX7_instruction_33 : decode cX7_instruction 33 = .ok (.iload_n 1, 1) := by decide +kernel
theorem dX7_instruction_34 : decode cX7_instruction 34 = .ok (.iload_n 2, 1) := by decide +kernel
theorem dX7_instruction_35 : decode cX7_instruction 35 = .ok (.invokevirtual 96, 3) := by decide +kernel
theorem dX7_instruction_38 : decode cX7_instruction 38 = .ok (.ireturn, 1) := by decide +kernel
theorem dX7_live_0 : decode cX7_live 0 = .ok (.iload_n 1, 1) := by decide +kernel
theorem dX7_live_1 : decode cX7_live 1 = .ok (.ifCond .lt 14, 3) := by decide +kernel
theorem dX7_live_4 : decode cX7_live 4 = .ok (.iload_n 1, 1) := by decide +kernel
theorem dX7_live_5 : decode cX7_live 5 = .ok (.aload_n 0, 1) := by decide +kernel
theorem dX7_live_6 : decode cX7_live 6 = .ok (.getfield 19, 3) := by decide +kernel
theorem dX7_live_9 : decode cX7_live 9 = .ok (.getfield 95, 3) := by decide +kernel
theorem dX7_live_12 : decode cX7_live 12 = .ok (.if_icmp .lt 5, 3) := by decide +kernel
theorem dX7_live_15 : decode cX7_live 15 = .ok (.iconst (-1), 1) := by decide +kernel
theorem dX7_live_16 : decode cX7_live 16 = .ok (.ireturn, 1) := by decide +kernel
theorem dX7_live_17 : decode cX7_live 17 = .ok (.aload_n 0, 1) := by decide +kernel
theorem dX7_live_18 : decode cX7_live 18 = .ok (.invokevirtual 100, 3) := by decide +kernel
theorem dX7_live_21 : decode cX7_live 21 = .ok (.aload_n 0, 1) := by decide +kernel
theorem dX7_live_22 : decode cX7_live 22 = .ok (.getfield 26, 3) := by decide +kernel
theorem dX7_live_25 : decode cX7_live 25 = .ok (.getfield 103, 3) := by decide +kernel
theorem dX7_live_28 : decode cX7_live 28 = .ok (.iload_n 1, 1) := by decide +kernel
theorem dX7_live_29 : decode cX7_live 29 = .ok (.laload, 1) := by decide +kernel
theorem dX7_live_30 : decode cX7_live 30 = .ok (.l2i, 1) := by decide +kernel
theorem dX7_live_31 : decode cX7_live 31 = .ok (.ireturn, 1) := by decide +kernel
theorem dX7_edges_0 : decode cX7_edges 0 = .ok (.iload_n 1, 1) := by decide +kernel
theorem dX7_edges_1 : decode cX7_edges 1 = .ok (.ifCond .lt 9, 3) := by decide +kernel
theorem dX7_edges_4 : decode cX7_edges 4 = .ok (.iload_n 1, 1) := by decide +kernel
theorem dX7_edges_5 : decode cX7_edges 5 = .ok (.bipush 16, 2) := by decide +kernel
theorem dX7_edges_7 : decode cX7_edges 7 = .ok (.if_icmp .lt 5, 3) := by decide +kernel
theorem dX7_edges_10 : decode cX7_edges 10 = .ok (.iconst (-1), 1) := by decide +kernel
theorem dX7_edges_11 : decode cX7_edges 11 = .ok (.ireturn, 1) := by decide +kernel
theorem dX7_edges_12 : decode cX7_edges 12 = .ok (.aload_n 0, 1) := by decide +kernel
theorem dX7_edges_13 : decode cX7_edges 13 = .ok (.invokevirtual 100, 3) := by decide +kernel
theorem dX7_edges_16 : decode cX7_edges 16 = .ok (.aload_n 0, 1) := by decide +kernel
theorem dX7_edges_17 : decode cX7_edges 17 = .ok (.getfield 26, 3) := by decide +kernel
theorem dX7_edges_20 : decode cX7_edges 20 = .ok (.getfield 107, 3) := by decide +kernel
theorem dX7_edges_23 : decode cX7_edges 23 = .ok (.iload_n 1, 1) := by decide +kernel
theorem dX7_edges_24 : decode cX7_edges 24 = .ok (.laload, 1) := by decide +kernel
theorem dX7_edges_25 : decode cX7_edges 25 = .ok (.l2i, 1) := by decide +kernel
theorem dX7_edges_26 : decode cX7_edges 26 = .ok (.ireturn, 1) := by decide +kernel
theorem dX7_weight_0 : decode cX7_weight 0 = .ok (.iload_n 1, 1) := by decide +kernel
theorem dX7_weight_1 : decode cX7_weight 1 = .ok (.invokestatic 110, 3) := by decide +kernel
theorem dX7_weight_4 : decode cX7_weight 4 = .ok (.ifCond .ne 5, 3) := by decide +kernel
theorem dX7_weight_7 : decode cX7_weight 7 = .ok (.iconst (-1), 1) := by decide +kernel
theorem dX7_weight_8 : decode cX7_weight 8 = .ok (.ireturn, 1) := by decide +kernel
theorem dX7_weight_9 : decode cX7_weight 9 = .ok (.iload_n 2, 1) := by decide +kernel
theorem dX7_weight_10 : decode cX7_weight 10 = .ok (.ifCond .lt 8, 3) := by decide +kernel
theorem dX7_weight_13 : decode cX7_weight 13 = .ok (.iload_n 2, 1) := by decide +kernel
theorem dX7_weight_14 : decode cX7_weight 14 = .ok (.iconst 1, 1) := by decide +kernel
theorem dX7_weight_15 : decode cX7_weight 15 = .ok (.if_icmp .le 6, 3) := by decide +kernel
theorem dX7_weight_18 : decode cX7_weight 18 = .ok (.bipush (-2), 2) := by decide +kernel
theorem dX7_weight_20 : decode cX7_weight 20 = .ok (.ireturn, 1) := by decide +kernel
theorem dX7_weight_21 : decode cX7_weight 21 = .ok (.aload_n 0, 1) := by decide +kernel
theorem dX7_weight_22 : decode cX7_weight 22 = .ok (.invokevirtual 100, 3) := by decide +kernel
theorem dX7_weight_25 : decode cX7_weight 25 = .ok (.iload_n 2, 1) := by decide +kernel
theorem dX7_weight_26 : decode cX7_weight 26 = .ok (.ifCond .ne 13, 3) := by decide +kernel
theorem dX7_weight_29 : decode cX7_weight 29 = .ok (.aload_n 0, 1) := by decide +kernel
theorem dX7_weight_30 : decode cX7_weight 30 = .ok (.getfield 26, 3) := by decide +kernel
theorem dX7_weight_33 : decode cX7_weight 33 = .ok (.getfield 113, 3) := by decide +kernel
theorem dX7_weight_36 : decode cX7_weight 36 = .ok (.iload_n 1, 1) := by decide +kernel
theorem dX7_weight_37 : decode cX7_weight 37 = .ok (.iaload, 1) := by decide +kernel
theorem dX7_weight_38 : decode cX7_weight 38 = .ok (.ireturn, 1) := by decide +kernel
theorem dX7_weight_39 : decode cX7_weight 39 = .ok (.aload_n 0, 1) := by decide +kernel
theorem dX7_weight_40 : decode cX7_weight 40 = .ok (.getfield 57, 3) := by decide +kernel
theorem dX7_weight_43 : decode cX7_weight 43 = .ok (.aload_n 0, 1) := by decide +kernel
theorem dX7_weight_44 : decode cX7_weight 44 = .ok (.getfield 26, 3) := by decide +kernel
theorem dX7_weight_47 : decode cX7_weight 47 = .ok (.getfield 113, 3) := by decide +kernel
theorem dX7_weight_50 : decode cX7_weight 50 = .ok (.iload_n 1, 1) := by decide +kernel
theorem dX7_weight_51 : decode cX7_weight 51 = .ok (.iaload, 1) := by decide +kernel
theorem dX7_weight_52 : decode cX7_weight 52 = .ok (.aload_n 0, 1) := by decide +kernel
theorem dX7_weight_53 : decode cX7_weight 53 = .ok (.getfield 26, 3) := by decide +kernel
theorem dX7_weight_56 : decode cX7_weight 56 = .ok (.getfield 107, 3) := by decide +kernel
theorem dX7_weight_59 : decode cX7_weight 59 = .ok (.iload_n 1, 1) := by decide +kernel
theorem dX7_weight_60 : decode cX7_weight 60 = .ok (.laload, 1) := by decide +kernel
theorem dX7_weight_61 : decode cX7_weight 61 = .ok (.invokestatic 117, 3) := by decide +kernel
theorem dX7_weight_64 : decode cX7_weight 64 = .ok (.invokestatic 123, 3) := by decide +kernel
theorem dX7_weight_67 : decode cX7_weight 67 = .ok (.ireturn, 1) := by decide +kernel
theorem dX7_step_0 : decode cX7_step 0 = .ok (.aload_n 0, 1) := by decide +kernel
theorem dX7_step_1 : decode cX7_step 1 = .ok (.invokevirtual 127, 3) := by decide +kernel
theorem dX7_step_4 : decode cX7_step 4 = .ok (.iload_n 1, 1) := by decide +kernel
theorem dX7_step_5 : decode cX7_step 5 = .ok (.iconst (-1), 1) := by decide +kernel
theorem dX7_step_6 : decode cX7_step 6 = .ok (.if_icmp .ne 11, 3) := by decide +kernel
theorem dX7_step_9 : decode cX7_step 9 = .ok (.aload_n 0, 1) := by decide +kernel
theorem dX7_step_10 : decode cX7_step 10 = .ok (.getfield 33, 3) := by decide +kernel
theorem dX7_step_13 : decode cX7_step 13 = .ok (.getfield 130, 3) := by decide +kernel
theorem dX7_step_16 : decode cX7_step 16 = .ok (.ireturn, 1) := by decide +kernel
theorem dX7_step_17 : decode cX7_step 17 = .ok (.iload_n 1, 1) := by decide +kernel
theorem dX7_step_18 : decode cX7_step 18 = .ok (.ifCond .lt 14, 3) := by decide +kernel
theorem dX7_step_21 : decode cX7_step 21 = .ok (.iload_n 1, 1) := by decide +kernel
theorem dX7_step_22 : decode cX7_step 22 = .ok (.aload_n 0, 1) := by decide +kernel
theorem dX7_step_23 : decode cX7_step 23 = .ok (.getfield 33, 3) := by decide +kernel
theorem dX7_step_26 : decode cX7_step 26 = .ok (.getfield 130, 3) := by decide +kernel
theorem dX7_step_29 : decode cX7_step 29 = .ok (.if_icmp .lt 6, 3) := by decide +kernel
theorem dX7_step_32 : decode cX7_step 32 = .ok (.bipush (-6), 2) := by decide +kernel
theorem dX7_step_34 : decode cX7_step 34 = .ok (.ireturn, 1) := by decide +kernel
theorem dX7_step_35 : decode cX7_step 35 = .ok (.aload_n 0, 1) := by decide +kernel
theorem dX7_step_36 : decode cX7_step 36 = .ok (.getfield 33, 3) := by decide +kernel
theorem dX7_step_39 : decode cX7_step 39 = .ok (.getfield 133, 3) := by decide +kernel
theorem dX7_step_42 : decode cX7_step 42 = .ok (.iload_n 1, 1) := by decide +kernel
theorem dX7_step_43 : decode cX7_step 43 = .ok (.iaload, 1) := by decide +kernel
theorem dX7_step_44 : decode cX7_step 44 = .ok (.ireturn, 1) := by decide +kernel
theorem dX7_spilled_0 : decode cX7_spilled 0 = .ok (.aload_n 0, 1) := by decide +kernel
theorem dX7_spilled_1 : decode cX7_spilled 1 = .ok (.invokevirtual 127, 3) := by decide +kernel
theorem dX7_spilled_4 : decode cX7_spilled 4 = .ok (.iload_n 1, 1) := by decide +kernel
theorem dX7_spilled_5 : decode cX7_spilled 5 = .ok (.iconst (-1), 1) := by decide +kernel
theorem dX7_spilled_6 : decode cX7_spilled 6 = .ok (.if_icmp .ne 14, 3) := by decide +kernel
theorem dX7_spilled_9 : decode cX7_spilled 9 = .ok (.aload_n 0, 1) := by decide +kernel
theorem dX7_spilled_10 : decode cX7_spilled 10 = .ok (.getfield 33, 3) := by decide +kernel
theorem dX7_spilled_13 : decode cX7_spilled 13 = .ok (.getfield 136, 3) := by decide +kernel
theorem dX7_spilled_16 : decode cX7_spilled 16 = .ok (.invokestatic 117, 3) := by decide +kernel
theorem dX7_spilled_19 : decode cX7_spilled 19 = .ok (.ireturn, 1) := by decide +kernel
theorem dX7_spilled_20 : decode cX7_spilled 20 = .ok (.iconst 0, 1) := by decide +kernel
theorem dX7_spilled_21 : decode cX7_spilled 21 = .ok (.istore_n 2, 1) := by decide +kernel
theorem dX7_spilled_22 : decode cX7_spilled 22 = .ok (.iconst 0, 1) := by decide +kernel
theorem dX7_spilled_23 : decode cX7_spilled 23 = .ok (.istore_n 3, 1) := by decide +kernel
theorem dX7_spilled_24 : decode cX7_spilled 24 = .ok (.iload_n 3, 1) := by decide +kernel
theorem dX7_spilled_25 : decode cX7_spilled 25 = .ok (.bipush 64, 2) := by decide +kernel
theorem dX7_spilled_27 : decode cX7_spilled 27 = .ok (.if_icmp .ge 33, 3) := by decide +kernel
theorem dX7_spilled_30 : decode cX7_spilled 30 = .ok (.aload_n 0, 1) := by decide +kernel
theorem dX7_spilled_31 : decode cX7_spilled 31 = .ok (.getfield 33, 3) := by decide +kernel
theorem dX7_spilled_34 : decode cX7_spilled 34 = .ok (.getfield 136, 3) := by decide +kernel
theorem dX7_spilled_37 : decode cX7_spilled 37 = .ok (.iload_n 3, 1) := by decide +kernel
theorem dX7_spilled_38 : decode cX7_spilled 38 = .ok (.invokestatic 140, 3) := by decide +kernel
theorem dX7_spilled_41 : decode cX7_spilled 41 = .ok (.ifCond .eq 13, 3) := by decide +kernel
theorem dX7_spilled_44 : decode cX7_spilled 44 = .ok (.iload_n 2, 1) := by decide +kernel
theorem dX7_spilled_45 : decode cX7_spilled 45 = .ok (.iload_n 1, 1) := by decide +kernel
theorem dX7_spilled_46 : decode cX7_spilled 46 = .ok (.if_icmp .ne 5, 3) := by decide +kernel
theorem dX7_spilled_49 : decode cX7_spilled 49 = .ok (.iload_n 3, 1) := by decide +kernel
theorem dX7_spilled_50 : decode cX7_spilled 50 = .ok (.ireturn, 1) := by decide +kernel
theorem dX7_spilled_51 : decode cX7_spilled 51 = .ok (.iinc 2 1, 3) := by decide +kernel
theorem dX7_spilled_54 : decode cX7_spilled 54 = .ok (.iinc 3 1, 3) := by decide +kernel
theorem dX7_spilled_57 : decode cX7_spilled 57 = .ok (.goto (-33), 3) := by decide +kernel
theorem dX7_spilled_60 : decode cX7_spilled 60 = .ok (.bipush (-6), 2) := by decide +kernel
theorem dX7_spilled_62 : decode cX7_spilled 62 = .ok (.ireturn, 1) := by decide +kernel
theorem dX7_rounds_0 : decode cX7_rounds 0 = .ok (.iload_n 1, 1) := by decide +kernel
theorem dX7_rounds_1 : decode cX7_rounds 1 = .ok (.ifCond .lt 8, 3) := by decide +kernel
theorem dX7_rounds_4 : decode cX7_rounds 4 = .ok (.iload_n 1, 1) := by decide +kernel
theorem dX7_rounds_5 : decode cX7_rounds 5 = .ok (.iconst 4, 1) := by decide +kernel
theorem dX7_rounds_6 : decode cX7_rounds 6 = .ok (.if_icmp .le 6, 3) := by decide +kernel
theorem dX7_rounds_9 : decode cX7_rounds 9 = .ok (.bipush (-2), 2) := by decide +kernel
theorem dX7_rounds_11 : decode cX7_rounds 11 = .ok (.ireturn, 1) := by decide +kernel
theorem dX7_rounds_12 : decode cX7_rounds 12 = .ok (.aload_n 0, 1) := by decide +kernel
theorem dX7_rounds_13 : decode cX7_rounds 13 = .ok (.invokevirtual 127, 3) := by decide +kernel
theorem dX7_rounds_16 : decode cX7_rounds 16 = .ok (.aload_n 0, 1) := by decide +kernel
theorem dX7_rounds_17 : decode cX7_rounds 17 = .ok (.getfield 33, 3) := by decide +kernel
theorem dX7_rounds_20 : decode cX7_rounds 20 = .ok (.getfield 144, 3) := by decide +kernel
theorem dX7_rounds_23 : decode cX7_rounds 23 = .ok (.ifCond .ne 6, 3) := by decide +kernel
theorem dX7_rounds_26 : decode cX7_rounds 26 = .ok (.bipush (-3), 2) := by decide +kernel
theorem dX7_rounds_28 : decode cX7_rounds 28 = .ok (.ireturn, 1) := by decide +kernel
theorem dX7_rounds_29 : decode cX7_rounds 29 = .ok (.iload_n 1, 1) := by decide +kernel
theorem dX7_rounds_30 : decode cX7_rounds 30 = .ok (.tableswitch 68 0 3 #[30, 38, 46, 57], 30) := by decide +kernel
theorem dX7_rounds_60 : decode cX7_rounds 60 = .ok (.aload_n 0, 1) := by decide +kernel
theorem dX7_rounds_61 : decode cX7_rounds 61 = .ok (.getfield 33, 3) := by decide +kernel
theorem dX7_rounds_64 : decode cX7_rounds 64 = .ok (.getfield 147, 3) := by decide +kernel
theorem dX7_rounds_67 : decode cX7_rounds 67 = .ok (.ireturn, 1) := by decide +kernel
theorem dX7_rounds_68 : decode cX7_rounds 68 = .ok (.aload_n 0, 1) := by decide +kernel
theorem dX7_rounds_69 : decode cX7_rounds 69 = .ok (.getfield 33, 3) := by decide +kernel
theorem dX7_rounds_72 : decode cX7_rounds 72 = .ok (.getfield 150, 3) := by decide +kernel
theorem dX7_rounds_75 : decode cX7_rounds 75 = .ok (.ireturn, 1) := by decide +kernel
theorem dX7_rounds_76 : decode cX7_rounds 76 = .ok (.aload_n 0, 1) := by decide +kernel
theorem dX7_rounds_77 : decode cX7_rounds 77 = .ok (.getfield 33, 3) := by decide +kernel
theorem dX7_rounds_80 : decode cX7_rounds 80 = .ok (.getfield 153, 3) := by decide +kernel
theorem dX7_rounds_83 : decode cX7_rounds 83 = .ok (.bipush 16, 2) := by decide +kernel
theorem dX7_rounds_85 : decode cX7_rounds 85 = .ok (.isub, 1) := by decide +kernel
theorem dX7_rounds_86 : decode cX7_rounds 86 = .ok (.ireturn, 1) := by decide +kernel
theorem dX7_rounds_87 : decode cX7_rounds 87 = .ok (.aload_n 0, 1) := by decide +kernel
theorem dX7_rounds_88 : decode cX7_rounds 88 = .ok (.getfield 33, 3) := by decide +kernel
theorem dX7_rounds_91 : decode cX7_rounds 91 = .ok (.getfield 156, 3) := by decide +kernel
theorem dX7_rounds_94 : decode cX7_rounds 94 = .ok (.getfield 95, 3) := by decide +kernel
theorem dX7_rounds_97 : decode cX7_rounds 97 = .ok (.ireturn, 1) := by decide +kernel
theorem dX7_rounds_98 : decode cX7_rounds 98 = .ok (.aload_n 0, 1) := by decide +kernel
theorem dX7_rounds_99 : decode cX7_rounds 99 = .ok (.getfield 33, 3) := by decide +kernel
theorem dX7_rounds_102 : decode cX7_rounds 102 = .ok (.getfield 159, 3) := by decide +kernel
theorem dX7_rounds_105 : decode cX7_rounds 105 = .ok (.ireturn, 1) := by decide +kernel
theorem dX7_colour_0 : decode cX7_colour 0 = .ok (.iload_n 1, 1) := by decide +kernel
theorem dX7_colour_1 : decode cX7_colour 1 = .ok (.invokestatic 110, 3) := by decide +kernel
theorem dX7_colour_4 : decode cX7_colour 4 = .ok (.ifCond .ne 5, 3) := by decide +kernel
theorem dX7_colour_7 : decode cX7_colour 7 = .ok (.iconst (-1), 1) := by decide +kernel
theorem dX7_colour_8 : decode cX7_colour 8 = .ok (.ireturn, 1) := by decide +kernel
theorem dX7_colour_9 : decode cX7_colour 9 = .ok (.aload_n 0, 1) := by decide +kernel
theorem dX7_colour_10 : decode cX7_colour 10 = .ok (.invokevirtual 127, 3) := by decide +kernel
theorem dX7_colour_13 : decode cX7_colour 13 = .ok (.aload_n 0, 1) := by decide +kernel
theorem dX7_colour_14 : decode cX7_colour 14 = .ok (.getfield 33, 3) := by decide +kernel
theorem dX7_colour_17 : decode cX7_colour 17 = .ok (.getfield 144, 3) := by decide +kernel
theorem dX7_colour_20 : decode cX7_colour 20 = .ok (.ifCond .ne 6, 3) := by decide +kernel
theorem dX7_colour_23 : decode cX7_colour 23 = .ok (.bipush (-3), 2) := by decide +kernel
theorem dX7_colour_25 : decode cX7_colour 25 = .ok (.ireturn, 1) := by decide +kernel
theorem dX7_colour_26 : decode cX7_colour 26 = .ok (.aload_n 0, 1) := by decide +kernel
theorem dX7_colour_27 : decode cX7_colour 27 = .ok (.getfield 19, 3) := by decide +kernel
theorem dX7_colour_30 : decode cX7_colour 30 = .ok (.getfield 162, 3) := by decide +kernel
theorem dX7_colour_33 : decode cX7_colour 33 = .ok (.iload_n 1, 1) := by decide +kernel
theorem dX7_colour_34 : decode cX7_colour 34 = .ok (.invokestatic 140, 3) := by decide +kernel
theorem dX7_colour_37 : decode cX7_colour 37 = .ok (.ifCond .ne 6, 3) := by decide +kernel
theorem dX7_colour_40 : decode cX7_colour 40 = .ok (.bipush (-6), 2) := by decide +kernel
theorem dX7_colour_42 : decode cX7_colour 42 = .ok (.ireturn, 1) := by decide +kernel
theorem dX7_colour_43 : decode cX7_colour 43 = .ok (.aload_n 0, 1) := by decide +kernel
theorem dX7_colour_44 : decode cX7_colour 44 = .ok (.getfield 33, 3) := by decide +kernel
theorem dX7_colour_47 : decode cX7_colour 47 = .ok (.iload_n 1, 1) := by decide +kernel
theorem dX7_colour_48 : decode cX7_colour 48 = .ok (.invokevirtual 165, 3) := by decide +kernel
theorem dX7_colour_51 : decode cX7_colour 51 = .ok (.ireturn, 1) := by decide +kernel
theorem dX7_code_0 : decode cX7_code 0 = .ok (.aload_n 0, 1) := by decide +kernel
theorem dX7_code_1 : decode cX7_code 1 = .ok (.invokevirtual 127, 3) := by decide +kernel
theorem dX7_code_4 : decode cX7_code 4 = .ok (.aload_n 0, 1) := by decide +kernel
theorem dX7_code_5 : decode cX7_code 5 = .ok (.getfield 33, 3) := by decide +kernel
theorem dX7_code_8 : decode cX7_code 8 = .ok (.getfield 144, 3) := by decide +kernel
theorem dX7_code_11 : decode cX7_code 11 = .ok (.ifCond .ne 6, 3) := by decide +kernel
theorem dX7_code_14 : decode cX7_code 14 = .ok (.bipush (-3), 2) := by decide +kernel
theorem dX7_code_16 : decode cX7_code 16 = .ok (.ireturn, 1) := by decide +kernel
theorem dX7_code_17 : decode cX7_code 17 = .ok (.iload_n 1, 1) := by decide +kernel
theorem dX7_code_18 : decode cX7_code 18 = .ok (.ifCond .lt 17, 3) := by decide +kernel
theorem dX7_code_21 : decode cX7_code 21 = .ok (.iload_n 1, 1) := by decide +kernel
theorem dX7_code_22 : decode cX7_code 22 = .ok (.aload_n 0, 1) := by decide +kernel
theorem dX7_code_23 : decode cX7_code 23 = .ok (.getfield 33, 3) := by decide +kernel
theorem dX7_code_26 : decode cX7_code 26 = .ok (.getfield 156, 3) := by decide +kernel
theorem dX7_code_29 : decode cX7_code 29 = .ok (.getfield 95, 3) := by decide +kernel
theorem dX7_code_32 : decode cX7_code 32 = .ok (.if_icmp .lt 5, 3) := by decide +kernel
theorem dX7_code_35 : decode cX7_code 35 = .ok (.iconst (-1), 1) := by decide +kernel
theorem dX7_code_36 : decode cX7_code 36 = .ok (.ireturn, 1) := by decide +kernel
theorem dX7_code_37 : decode cX7_code 37 = .ok (.iload_n 2, 1) := by decide +kernel
theorem dX7_code_38 : decode cX7_code 38 = .ok (.ifCond .lt 8, 3) := by decide +kernel
theorem dX7_code_41 : decode cX7_code 41 = .ok (.iload_n 2, 1) := by decide +kernel
theorem dX7_code_42 : decode cX7_code 42 = .ok (.iconst 3, 1) := by decide +kernel
theorem dX7_code_43 : decode cX7_code 43 = .ok (.if_icmp .le 6, 3) := by decide +kernel
theorem dX7_code_46 : decode cX7_code 46 = .ok (.bipush (-2), 2) := by decide +kernel
theorem dX7_code_48 : decode cX7_code 48 = .ok (.ireturn, 1) := by decide +kernel
theorem dX7_code_49 : decode cX7_code 49 = .ok (.aload_n 0, 1) := by decide +kernel
theorem dX7_code_50 : decode cX7_code 50 = .ok (.getfield 33, 3) := by decide +kernel
theorem dX7_code_53 : decode cX7_code 53 = .ok (.getfield 156, 3) := by decide +kernel
theorem dX7_code_56 : decode cX7_code 56 = .ok (.iload_n 1, 1) := by decide +kernel
theorem dX7_code_57 : decode cX7_code 57 = .ok (.iload_n 2, 1) := by decide +kernel
theorem dX7_code_58 : decode cX7_code 58 = .ok (.invokevirtual 96, 3) := by decide +kernel
theorem dX7_code_61 : decode cX7_code 61 = .ok (.ireturn, 1) := by decide +kernel
theorem dX7_run_0 : decode cX7_run 0 = .ok (.iload_n 1, 1) := by decide +kernel
theorem dX7_run_1 : decode cX7_run 1 = .ok (.ifCond .lt 8, 3) := by decide +kernel
theorem dX7_run_4 : decode cX7_run 4 = .ok (.iload_n 1, 1) := by decide +kernel
theorem dX7_run_5 : decode cX7_run 5 = .ok (.iconst 3, 1) := by decide +kernel
theorem dX7_run_6 : decode cX7_run 6 = .ok (.if_icmp .le 6, 3) := by decide +kernel
theorem dX7_run_9 : decode cX7_run 9 = .ok (.bipush (-2), 2) := by decide +kernel
theorem dX7_run_11 : decode cX7_run 11 = .ok (.ireturn, 1) := by decide +kernel
theorem dX7_run_12 : decode cX7_run 12 = .ok (.aload_n 0, 1) := by decide +kernel
theorem dX7_run_13 : decode cX7_run 13 = .ok (.invokevirtual 169, 3) := by decide +kernel
theorem dX7_run_16 : decode cX7_run 16 = .ok (.aload_n 0, 1) := by decide +kernel
theorem dX7_run_17 : decode cX7_run 17 = .ok (.getfield 40, 3) := by decide +kernel
theorem dX7_run_20 : decode cX7_run 20 = .ok (.iload_n 1, 1) := by decide +kernel
theorem dX7_run_21 : decode cX7_run 21 = .ok (.invokevirtual 172, 3) := by decide +kernel
theorem dX7_run_24 : decode cX7_run 24 = .ok (.ireturn, 1) := by decide +kernel
theorem dX7_out_0 : decode cX7_out 0 = .ok (.aload_n 0, 1) := by decide +kernel
theorem dX7_out_1 : decode cX7_out 1 = .ok (.invokevirtual 169, 3) := by decide +kernel
theorem dX7_out_4 : decode cX7_out 4 = .ok (.iload_n 1, 1) := by decide +kernel
theorem dX7_out_5 : decode cX7_out 5 = .ok (.ifCond .lt 21, 3) := by decide +kernel
theorem dX7_out_8 : decode cX7_out 8 = .ok (.iload_n 1, 1) := by decide +kernel
theorem dX7_out_9 : decode cX7_out 9 = .ok (.aload_n 0, 1) := by decide +kernel
theorem dX7_out_10 : decode cX7_out 10 = .ok (.getfield 40, 3) := by decide +kernel
theorem dX7_out_13 : decode cX7_out 13 = .ok (.getfield 175, 3) := by decide +kernel
theorem dX7_out_16 : decode cX7_out 16 = .ok (.if_icmp .ge 10, 3) := by decide +kernel
theorem dX7_out_19 : decode cX7_out 19 = .ok (.iload_n 1, 1) := by decide +kernel
theorem dX7_out_20 : decode cX7_out 20 = .ok (.sipush 500, 3) := by decide +kernel
theorem dX7_out_23 : decode cX7_out 23 = .ok (.if_icmp .lt 6, 3) := by decide +kernel
theorem dX7_out_26 : decode cX7_out 26 = .ok (.bipush (-6), 2) := by decide +kernel
theorem dX7_out_28 : decode cX7_out 28 = .ok (.ireturn, 1) := by decide +kernel
theorem dX7_out_29 : decode cX7_out 29 = .ok (.aload_n 0, 1) := by decide +kernel
theorem dX7_out_30 : decode cX7_out 30 = .ok (.getfield 40, 3) := by decide +kernel
theorem dX7_out_33 : decode cX7_out 33 = .ok (.getfield 178, 3) := by decide +kernel
theorem dX7_out_36 : decode cX7_out 36 = .ok (.iload_n 1, 1) := by decide +kernel
theorem dX7_out_37 : decode cX7_out 37 = .ok (.iaload, 1) := by decide +kernel
theorem dX7_out_38 : decode cX7_out 38 = .ok (.ireturn, 1) := by decide +kernel
theorem dX7_spent_0 : decode cX7_spent 0 = .ok (.iload_n 1, 1) := by decide +kernel
theorem dX7_spent_1 : decode cX7_spent 1 = .ok (.ifCond .lt 8, 3) := by decide +kernel
theorem dX7_spent_4 : decode cX7_spent 4 = .ok (.iload_n 1, 1) := by decide +kernel
theorem dX7_spent_5 : decode cX7_spent 5 = .ok (.iconst 5, 1) := by decide +kernel
theorem dX7_spent_6 : decode cX7_spent 6 = .ok (.if_icmp .le 6, 3) := by decide +kernel
theorem dX7_spent_9 : decode cX7_spent 9 = .ok (.bipush (-2), 2) := by decide +kernel
theorem dX7_spent_11 : decode cX7_spent 11 = .ok (.ireturn, 1) := by decide +kernel
theorem dX7_spent_12 : decode cX7_spent 12 = .ok (.aload_n 0, 1) := by decide +kernel
theorem dX7_spent_13 : decode cX7_spent 13 = .ok (.invokevirtual 127, 3) := by decide +kernel
theorem dX7_spent_16 : decode cX7_spent 16 = .ok (.aload_n 0, 1) := by decide +kernel
theorem dX7_spent_17 : decode cX7_spent 17 = .ok (.getfield 33, 3) := by decide +kernel
theorem dX7_spent_20 : decode cX7_spent 20 = .ok (.getfield 144, 3) := by decide +kernel
theorem dX7_spent_23 : decode cX7_spent 23 = .ok (.ifCond .ne 6, 3) := by decide +kernel
theorem dX7_spent_26 : decode cX7_spent 26 = .ok (.bipush (-3), 2) := by decide +kernel
theorem dX7_spent_28 : decode cX7_spent 28 = .ok (.ireturn, 1) := by decide +kernel
theorem dX7_spent_29 : decode cX7_spent 29 = .ok (.aload_n 0, 1) := by decide +kernel
theorem dX7_spent_30 : decode cX7_spent 30 = .ok (.getfield 70, 3) := by decide +kernel
theorem dX7_spent_33 : decode cX7_spent 33 = .ok (.ifCond .ne 25, 3) := by decide +kernel
theorem dX7_spent_36 : decode cX7_spent 36 = .ok (.aload_n 0, 1) := by decide +kernel
theorem dX7_spent_37 : decode cX7_spent 37 = .ok (.getfield 44, 3) := by decide +kernel
theorem dX7_spent_40 : decode cX7_spent 40 = .ok (.aload_n 0, 1) := by decide +kernel
theorem dX7_spent_41 : decode cX7_spent 41 = .ok (.getfield 33, 3) := by decide +kernel
theorem dX7_spent_44 : decode cX7_spent 44 = .ok (.getfield 156, 3) := by decide +kernel
theorem dX7_spent_47 : decode cX7_spent 47 = .ok (.sipush 2000, 3) := by decide +kernel
theorem dX7_spent_50 : decode cX7_spent 50 = .ok (.invokevirtual 181, 3) := by decide +kernel
theorem dX7_spent_53 : decode cX7_spent 53 = .ok (.aload_n 0, 1) := by decide +kernel
theorem dX7_spent_54 : decode cX7_spent 54 = .ok (.iconst 1, 1) := by decide +kernel
theorem dX7_spent_55 : decode cX7_spent 55 = .ok (.putfield 70, 3) := by decide +kernel
theorem dX7_spent_58 : decode cX7_spent 58 = .ok (.aload_n 0, 1) := by decide +kernel
theorem dX7_spent_59 : decode cX7_spent 59 = .ok (.getfield 44, 3) := by decide +kernel
theorem dX7_spent_62 : decode cX7_spent 62 = .ok (.iload_n 1, 1) := by decide +kernel
theorem dX7_spent_63 : decode cX7_spent 63 = .ok (.invokevirtual 172, 3) := by decide +kernel
theorem dX7_spent_66 : decode cX7_spent 66 = .ok (.ireturn, 1) := by decide +kernel
theorem dX7_image_0 : decode cX7_image 0 = .ok (.iload_n 1, 1) := by decide +kernel
theorem dX7_image_1 : decode cX7_image 1 = .ok (.ifCond .lt 8, 3) := by decide +kernel
theorem dX7_image_4 : decode cX7_image 4 = .ok (.iload_n 1, 1) := by decide +kernel
theorem dX7_image_5 : decode cX7_image 5 = .ok (.iconst 2, 1) := by decide +kernel
theorem dX7_image_6 : decode cX7_image 6 = .ok (.if_icmp .lt 6, 3) := by decide +kernel
theorem dX7_image_9 : decode cX7_image 9 = .ok (.bipush (-2), 2) := by decide +kernel
theorem dX7_image_11 : decode cX7_image 11 = .ok (.ireturn, 1) := by decide +kernel
theorem dX7_image_12 : decode cX7_image 12 = .ok (.aload_n 0, 1) := by decide +kernel
theorem dX7_image_13 : decode cX7_image 13 = .ok (.getfield 49, 3) := by decide +kernel
theorem dX7_image_16 : decode cX7_image 16 = .ok (.iload_n 1, 1) := by decide +kernel
theorem dX7_image_17 : decode cX7_image 17 = .ok (.aaload, 1) := by decide +kernel
theorem dX7_image_18 : decode cX7_image 18 = .ok (.astore_n 2, 1) := by decide +kernel
theorem dX7_image_19 : decode cX7_image 19 = .ok (.aload_n 2, 1) := by decide +kernel
theorem dX7_image_20 : decode cX7_image 20 = .ok (.iconst 1, 1) := by decide +kernel
theorem dX7_image_21 : decode cX7_image 21 = .ok (.putfield 185, 3) := by decide +kernel
theorem dX7_image_24 : decode cX7_image 24 = .ok (.aload_n 2, 1) := by decide +kernel
theorem dX7_image_25 : decode cX7_image 25 = .ok (.getfield 188, 3) := by decide +kernel
theorem dX7_image_28 : decode cX7_image 28 = .ok (.aload_n 0, 1) := by decide +kernel
theorem dX7_image_29 : decode cX7_image 29 = .ok (.getfield 19, 3) := by decide +kernel
theorem dX7_image_32 : decode cX7_image 32 = .ok (.invokevirtual 189, 3) := by decide +kernel
theorem dX7_image_35 : decode cX7_image 35 = .ok (.aload_n 2, 1) := by decide +kernel
theorem dX7_image_36 : decode cX7_image 36 = .ok (.aload_n 0, 1) := by decide +kernel
theorem dX7_image_37 : decode cX7_image 37 = .ok (.getfield 53, 3) := by decide +kernel
theorem dX7_image_40 : decode cX7_image 40 = .ok (.putfield 192, 3) := by decide +kernel
theorem dX7_image_43 : decode cX7_image 43 = .ok (.aload_n 2, 1) := by decide +kernel
theorem dX7_image_44 : decode cX7_image 44 = .ok (.aload_n 0, 1) := by decide +kernel
theorem dX7_image_45 : decode cX7_image 45 = .ok (.getfield 57, 3) := by decide +kernel
theorem dX7_image_48 : decode cX7_image 48 = .ok (.putfield 193, 3) := by decide +kernel
theorem dX7_image_51 : decode cX7_image 51 = .ok (.iconst 1, 1) := by decide +kernel
theorem dX7_image_52 : decode cX7_image 52 = .ok (.ireturn, 1) := by decide +kernel
theorem dX7_restore_0 : decode cX7_restore 0 = .ok (.iload_n 1, 1) := by decide +kernel
theorem dX7_restore_1 : decode cX7_restore 1 = .ok (.ifCond .lt 8, 3) := by decide +kernel
theorem dX7_restore_4 : decode cX7_restore 4 = .ok (.iload_n 1, 1) := by decide +kernel
theorem dX7_restore_5 : decode cX7_restore 5 = .ok (.iconst 2, 1) := by decide +kernel
theorem dX7_restore_6 : decode cX7_restore 6 = .ok (.if_icmp .lt 6, 3) := by decide +kernel
theorem dX7_restore_9 : decode cX7_restore 9 = .ok (.bipush (-2), 2) := by decide +kernel
theorem dX7_restore_11 : decode cX7_restore 11 = .ok (.ireturn, 1) := by decide +kernel
theorem dX7_restore_12 : decode cX7_restore 12 = .ok (.aload_n 0, 1) := by decide +kernel
theorem dX7_restore_13 : decode cX7_restore 13 = .ok (.getfield 49, 3) := by decide +kernel
theorem dX7_restore_16 : decode cX7_restore 16 = .ok (.iload_n 1, 1) := by decide +kernel
theorem dX7_restore_17 : decode cX7_restore 17 = .ok (.aaload, 1) := by decide +kernel
theorem dX7_restore_18 : decode cX7_restore 18 = .ok (.astore_n 2, 1) := by decide +kernel
theorem dX7_restore_19 : decode cX7_restore 19 = .ok (.aload_n 2, 1) := by decide +kernel
theorem dX7_restore_20 : decode cX7_restore 20 = .ok (.getfield 185, 3) := by decide +kernel
theorem dX7_restore_23 : decode cX7_restore 23 = .ok (.ifCond .ne 6, 3) := by decide +kernel
theorem dX7_restore_26 : decode cX7_restore 26 = .ok (.bipush (-3), 2) := by decide +kernel
theorem dX7_restore_28 : decode cX7_restore 28 = .ok (.ireturn, 1) := by decide +kernel
theorem dX7_restore_29 : decode cX7_restore 29 = .ok (.aload_n 0, 1) := by decide +kernel
theorem dX7_restore_30 : decode cX7_restore 30 = .ok (.getfield 19, 3) := by decide +kernel
theorem dX7_restore_33 : decode cX7_restore 33 = .ok (.aload_n 2, 1) := by decide +kernel
theorem dX7_restore_34 : decode cX7_restore 34 = .ok (.getfield 188, 3) := by decide +kernel
theorem dX7_restore_37 : decode cX7_restore 37 = .ok (.invokevirtual 189, 3) := by decide +kernel
theorem dX7_restore_40 : decode cX7_restore 40 = .ok (.aload_n 0, 1) := by decide +kernel
theorem dX7_restore_41 : decode cX7_restore 41 = .ok (.aload_n 2, 1) := by decide +kernel
theorem dX7_restore_42 : decode cX7_restore 42 = .ok (.getfield 192, 3) := by decide +kernel
theorem dX7_restore_45 : decode cX7_restore 45 = .ok (.putfield 53, 3) := by decide +kernel
theorem dX7_restore_48 : decode cX7_restore 48 = .ok (.aload_n 0, 1) := by decide +kernel
theorem dX7_restore_49 : decode cX7_restore 49 = .ok (.aload_n 2, 1) := by decide +kernel
theorem dX7_restore_50 : decode cX7_restore 50 = .ok (.getfield 193, 3) := by decide +kernel
theorem dX7_restore_53 : decode cX7_restore 53 = .ok (.putfield 57, 3) := by decide +kernel
theorem dX7_restore_56 : decode cX7_restore 56 = .ok (.aload_n 0, 1) := by decide +kernel
theorem dX7_restore_57 : decode cX7_restore 57 = .ok (.invokevirtual 92, 3) := by decide +kernel
theorem dX7_restore_60 : decode cX7_restore 60 = .ok (.iconst 1, 1) := by decide +kernel
theorem dX7_restore_61 : decode cX7_restore 61 = .ok (.ireturn, 1) := by decide +kernel
theorem dX7_told_0 : decode cX7_told 0 = .ok (.iload_n 1, 1) := by decide +kernel
theorem dX7_told_1 : decode cX7_told 1 = .ok (.tableswitch 82 0 5 #[39, 47, 55, 60, 65, 74], 39) := by decide +kernel
theorem dX7_told_40 : decode cX7_told 40 = .ok (.aload_n 0, 1) := by decide +kernel
theorem dX7_told_41 : decode cX7_told 41 = .ok (.getfield 10, 3) := by decide +kernel
theorem dX7_told_44 : decode cX7_told 44 = .ok (.getfield 81, 3) := by decide +kernel
theorem dX7_told_47 : decode cX7_told 47 = .ok (.ireturn, 1) := by decide +kernel
theorem dX7_told_48 : decode cX7_told 48 = .ok (.aload_n 0, 1) := by decide +kernel
theorem dX7_told_49 : decode cX7_told 49 = .ok (.getfield 19, 3) := by decide +kernel
theorem dX7_told_52 : decode cX7_told 52 = .ok (.getfield 95, 3) := by decide +kernel
theorem dX7_told_55 : decode cX7_told 55 = .ok (.ireturn, 1) := by decide +kernel
theorem dX7_told_56 : decode cX7_told 56 = .ok (.aload_n 0, 1) := by decide +kernel
theorem dX7_told_57 : decode cX7_told 57 = .ok (.getfield 53, 3) := by decide +kernel
theorem dX7_told_60 : decode cX7_told 60 = .ok (.ireturn, 1) := by decide +kernel
theorem dX7_told_61 : decode cX7_told 61 = .ok (.aload_n 0, 1) := by decide +kernel
theorem dX7_told_62 : decode cX7_told 62 = .ok (.getfield 57, 3) := by decide +kernel
theorem dX7_told_65 : decode cX7_told 65 = .ok (.ireturn, 1) := by decide +kernel
theorem dX7_told_66 : decode cX7_told 66 = .ok (.aload_n 0, 1) := by decide +kernel
theorem dX7_told_67 : decode cX7_told 67 = .ok (.getfield 19, 3) := by decide +kernel
theorem dX7_told_70 : decode cX7_told 70 = .ok (.getfield 162, 3) := by decide +kernel
theorem dX7_told_73 : decode cX7_told 73 = .ok (.l2i, 1) := by decide +kernel
theorem dX7_told_74 : decode cX7_told 74 = .ok (.ireturn, 1) := by decide +kernel
theorem dX7_told_75 : decode cX7_told 75 = .ok (.aload_n 0, 1) := by decide +kernel
theorem dX7_told_76 : decode cX7_told 76 = .ok (.getfield 19, 3) := by decide +kernel
theorem dX7_told_79 : decode cX7_told 79 = .ok (.getfield 194, 3) := by decide +kernel
theorem dX7_told_82 : decode cX7_told 82 = .ok (.ireturn, 1) := by decide +kernel
theorem dX7_told_83 : decode cX7_told 83 = .ok (.bipush (-2), 2) := by decide +kernel
theorem dX7_told_85 : decode cX7_told 85 = .ok (.ireturn, 1) := by decide +kernel
theorem dX7_forgetProgram_0 : decode cX7_forgetProgram 0 = .ok (.aload_n 0, 1) := by decide +kernel
theorem dX7_forgetProgram_1 : decode cX7_forgetProgram 1 = .ok (.iconst 0, 1) := by decide +kernel
theorem dX7_forgetProgram_2 : decode cX7_forgetProgram 2 = .ok (.putfield 60, 3) := by decide +kernel
theorem dX7_forgetProgram_5 : decode cX7_forgetProgram 5 = .ok (.aload_n 0, 1) := by decide +kernel
theorem dX7_forgetProgram_6 : decode cX7_forgetProgram 6 = .ok (.iconst 0, 1) := by decide +kernel
theorem dX7_forgetProgram_7 : decode cX7_forgetProgram 7 = .ok (.putfield 67, 3) := by decide +kernel
theorem dX7_forgetProgram_10 : decode cX7_forgetProgram 10 = .ok (.aload_n 0, 1) := by decide +kernel
theorem dX7_forgetProgram_11 : decode cX7_forgetProgram 11 = .ok (.invokevirtual 74, 3) := by decide +kernel
theorem dX7_forgetProgram_14 : decode cX7_forgetProgram 14 = .ok (.return_, 1) := by decide +kernel
theorem dX7_forgetAllotment_0 : decode cX7_forgetAllotment 0 = .ok (.aload_n 0, 1) := by decide +kernel
theorem dX7_forgetAllotment_1 : decode cX7_forgetAllotment 1 = .ok (.iconst 0, 1) := by decide +kernel
theorem dX7_forgetAllotment_2 : decode cX7_forgetAllotment 2 = .ok (.putfield 64, 3) := by decide +kernel
theorem dX7_forgetAllotment_5 : decode cX7_forgetAllotment 5 = .ok (.aload_n 0, 1) := by decide +kernel
theorem dX7_forgetAllotment_6 : decode cX7_forgetAllotment 6 = .ok (.iconst 0, 1) := by decide +kernel
theorem dX7_forgetAllotment_7 : decode cX7_forgetAllotment 7 = .ok (.putfield 70, 3) := by decide +kernel
theorem dX7_forgetAllotment_10 : decode cX7_forgetAllotment 10 = .ok (.return_, 1) := by decide +kernel
theorem dX7_findNeeds_0 : decode cX7_findNeeds 0 = .ok (.aload_n 0, 1) := by decide +kernel
theorem dX7_findNeeds_1 : decode cX7_findNeeds 1 = .ok (.getfield 60, 3) := by decide +kernel
theorem dX7_findNeeds_4 : decode cX7_findNeeds 4 = .ok (.ifCond .ne 19, 3) := by decide +kernel
theorem dX7_findNeeds_7 : decode cX7_findNeeds 7 = .ok (.aload_n 0, 1) := by decide +kernel
theorem dX7_findNeeds_8 : decode cX7_findNeeds 8 = .ok (.getfield 26, 3) := by decide +kernel
theorem dX7_findNeeds_11 : decode cX7_findNeeds 11 = .ok (.aload_n 0, 1) := by decide +kernel
theorem dX7_findNeeds_12 : decode cX7_findNeeds 12 = .ok (.getfield 19, 3) := by decide +kernel
theorem dX7_findNeeds_15 : decode cX7_findNeeds 15 = .ok (.invokevirtual 197, 3) := by decide +kernel
theorem dX7_findNeeds_18 : decode cX7_findNeeds 18 = .ok (.aload_n 0, 1) := by decide +kernel
theorem dX7_findNeeds_19 : decode cX7_findNeeds 19 = .ok (.iconst 1, 1) := by decide +kernel
theorem dX7_findNeeds_20 : decode cX7_findNeeds 20 = .ok (.putfield 60, 3) := by decide +kernel
theorem dX7_findNeeds_23 : decode cX7_findNeeds 23 = .ok (.return_, 1) := by decide +kernel
theorem dX7_findAllotment_0 : decode cX7_findAllotment 0 = .ok (.aload_n 0, 1) := by decide +kernel
theorem dX7_findAllotment_1 : decode cX7_findAllotment 1 = .ok (.getfield 64, 3) := by decide +kernel
theorem dX7_findAllotment_4 : decode cX7_findAllotment 4 = .ok (.ifCond .ne 27, 3) := by decide +kernel
theorem dX7_findAllotment_7 : decode cX7_findAllotment 7 = .ok (.aload_n 0, 1) := by decide +kernel
theorem dX7_findAllotment_8 : decode cX7_findAllotment 8 = .ok (.getfield 33, 3) := by decide +kernel
theorem dX7_findAllotment_11 : decode cX7_findAllotment 11 = .ok (.aload_n 0, 1) := by decide +kernel
theorem dX7_findAllotment_12 : decode cX7_findAllotment 12 = .ok (.getfield 19, 3) := by decide +kernel
theorem dX7_findAllotment_15 : decode cX7_findAllotment 15 = .ok (.aload_n 0, 1) := by decide +kernel
theorem dX7_findAllotment_16 : decode cX7_findAllotment 16 = .ok (.getfield 53, 3) := by decide +kernel
theorem dX7_findAllotment_19 : decode cX7_findAllotment 19 = .ok (.aload_n 0, 1) := by decide +kernel
theorem dX7_findAllotment_20 : decode cX7_findAllotment 20 = .ok (.getfield 57, 3) := by decide +kernel
theorem dX7_findAllotment_23 : decode cX7_findAllotment 23 = .ok (.invokevirtual 200, 3) := by decide +kernel
theorem dX7_findAllotment_26 : decode cX7_findAllotment 26 = .ok (.aload_n 0, 1) := by decide +kernel
theorem dX7_findAllotment_27 : decode cX7_findAllotment 27 = .ok (.iconst 1, 1) := by decide +kernel
theorem dX7_findAllotment_28 : decode cX7_findAllotment 28 = .ok (.putfield 64, 3) := by decide +kernel
theorem dX7_findAllotment_31 : decode cX7_findAllotment 31 = .ok (.return_, 1) := by decide +kernel
theorem dX7_runProgram_0 : decode cX7_runProgram 0 = .ok (.aload_n 0, 1) := by decide +kernel
theorem dX7_runProgram_1 : decode cX7_runProgram 1 = .ok (.getfield 67, 3) := by decide +kernel
theorem dX7_runProgram_4 : decode cX7_runProgram 4 = .ok (.ifCond .ne 22, 3) := by decide +kernel
theorem dX7_runProgram_7 : decode cX7_runProgram 7 = .ok (.aload_n 0, 1) := by decide +kernel
theorem dX7_runProgram_8 : decode cX7_runProgram 8 = .ok (.getfield 40, 3) := by decide +kernel
theorem dX7_runProgram_11 : decode cX7_runProgram 11 = .ok (.aload_n 0, 1) := by decide +kernel
theorem dX7_runProgram_12 : decode cX7_runProgram 12 = .ok (.getfield 19, 3) := by decide +kernel
theorem dX7_runProgram_15 : decode cX7_runProgram 15 = .ok (.sipush 500, 3) := by decide +kernel
theorem dX7_runProgram_18 : decode cX7_runProgram 18 = .ok (.invokevirtual 181, 3) := by decide +kernel
theorem dX7_runProgram_21 : decode cX7_runProgram 21 = .ok (.aload_n 0, 1) := by decide +kernel
theorem dX7_runProgram_22 : decode cX7_runProgram 22 = .ok (.iconst 1, 1) := by decide +kernel
theorem dX7_runProgram_23 : decode cX7_runProgram 23 = .ok (.putfield 67, 3) := by decide +kernel
theorem dX7_runProgram_26 : decode cX7_runProgram 26 = .ok (.return_, 1) := by decide +kernel
theorem dX7_isToldValue_0 : decode cX7_isToldValue 0 = .ok (.iload_n 0, 1) := by decide +kernel
theorem dX7_isToldValue_1 : decode cX7_isToldValue 1 = .ok (.iconst 4, 1) := by decide +kernel
theorem dX7_isToldValue_2 : decode cX7_isToldValue 2 = .ok (.if_icmp .lt 13, 3) := by decide +kernel
theorem dX7_isToldValue_5 : decode cX7_isToldValue 5 = .ok (.iload_n 0, 1) := by decide +kernel
theorem dX7_isToldValue_6 : decode cX7_isToldValue 6 = .ok (.bipush 16, 2) := by decide +kernel
theorem dX7_isToldValue_8 : decode cX7_isToldValue 8 = .ok (.if_icmp .ge 7, 3) := by decide +kernel
theorem dX7_isToldValue_11 : decode cX7_isToldValue 11 = .ok (.iconst 1, 1) := by decide +kernel
theorem dX7_isToldValue_12 : decode cX7_isToldValue 12 = .ok (.goto 4, 3) := by decide +kernel
theorem dX7_isToldValue_15 : decode cX7_isToldValue 15 = .ok (.iconst 0, 1) := by decide +kernel
theorem dX7_isToldValue_16 : decode cX7_isToldValue 16 = .ok (.ireturn, 1) := by decide +kernel
theorem dX7_has_0 : decode cX7_has 0 = .ok (.lload_n 0, 1) := by decide +kernel
theorem dX7_has_1 : decode cX7_has 1 = .ok (.iload_n 2, 1) := by decide +kernel
theorem dX7_has_2 : decode cX7_has 2 = .ok (.lushr, 1) := by decide +kernel
theorem dX7_has_3 : decode cX7_has 3 = .ok (.lconst 1, 1) := by decide +kernel
theorem dX7_has_4 : decode cX7_has 4 = .ok (.land, 1) := by decide +kernel
theorem dX7_has_5 : decode cX7_has 5 = .ok (.lconst 0, 1) := by decide +kernel
theorem dX7_has_6 : decode cX7_has 6 = .ok (.lcmp, 1) := by decide +kernel
theorem dX7_has_7 : decode cX7_has 7 = .ok (.ifCond .eq 7, 3) := by decide +kernel
theorem dX7_has_10 : decode cX7_has 10 = .ok (.iconst 1, 1) := by decide +kernel
theorem dX7_has_11 : decode cX7_has 11 = .ok (.goto 4, 3) := by decide +kernel
theorem dX7_has_14 : decode cX7_has 14 = .ok (.iconst 0, 1) := by decide +kernel
theorem dX7_has_15 : decode cX7_has 15 = .ok (.ireturn, 1) := by decide +kernel
theorem dX7_shapeOf_0 : decode cX7_shapeOf 0 = .ok (.iload_n 0, 1) := by decide +kernel
theorem dX7_shapeOf_1 : decode cX7_shapeOf 1 = .ok (.ifCond .lt 19, 3) := by decide +kernel
theorem dX7_shapeOf_4 : decode cX7_shapeOf 4 = .ok (.iload_n 0, 1) := by decide +kernel
theorem dX7_shapeOf_5 : decode cX7_shapeOf 5 = .ok (.bipush 9, 2) := by decide +kernel
theorem dX7_shapeOf_7 : decode cX7_shapeOf 7 = .ok (.if_icmp .ge 13, 3) := by decide +kernel
theorem dX7_shapeOf_10 : decode cX7_shapeOf 10 = .ok (.iload_n 1, 1) := by decide +kernel
theorem dX7_shapeOf_11 : decode cX7_shapeOf 11 = .ok (.iconst 1, 1) := by decide +kernel
theorem dX7_shapeOf_12 : decode cX7_shapeOf 12 = .ok (.if_icmp .lt 8, 3) := by decide +kernel
theorem dX7_shapeOf_15 : decode cX7_shapeOf 15 = .ok (.iload_n 1, 1) := by decide +kernel
theorem dX7_shapeOf_16 : decode cX7_shapeOf 16 = .ok (.iconst 3, 1) := by decide +kernel
theorem dX7_shapeOf_17 : decode cX7_shapeOf 17 = .ok (.if_icmp .le 6, 3) := by decide +kernel
theorem dX7_shapeOf_20 : decode cX7_shapeOf 20 = .ok (.bipush 45, 2) := by decide +kernel
theorem dX7_shapeOf_22 : decode cX7_shapeOf 22 = .ok (.ireturn, 1) := by decide +kernel
theorem dX7_shapeOf_23 : decode cX7_shapeOf 23 = .ok (.ldc 204, 2) := by decide +kernel
theorem dX7_shapeOf_25 : decode cX7_shapeOf 25 = .ok (.iconst 3, 1) := by decide +kernel
theorem dX7_shapeOf_26 : decode cX7_shapeOf 26 = .ok (.iload_n 0, 1) := by decide +kernel
theorem dX7_shapeOf_27 : decode cX7_shapeOf 27 = .ok (.imul, 1) := by decide +kernel
theorem dX7_shapeOf_28 : decode cX7_shapeOf 28 = .ok (.iload_n 1, 1) := by decide +kernel
theorem dX7_shapeOf_29 : decode cX7_shapeOf 29 = .ok (.iadd, 1) := by decide +kernel
theorem dX7_shapeOf_30 : decode cX7_shapeOf 30 = .ok (.iconst 1, 1) := by decide +kernel
theorem dX7_shapeOf_31 : decode cX7_shapeOf 31 = .ok (.isub, 1) := by decide +kernel
theorem dX7_shapeOf_32 : decode cX7_shapeOf 32 = .ok (.invokevirtual 206, 3) := by decide +kernel
theorem dX7_shapeOf_35 : decode cX7_shapeOf 35 = .ok (.ireturn, 1) := by decide +kernel
theorem dX7_weightBits_0 : decode cX7_weightBits 0 = .ok (.iconst 1, 1) := by decide +kernel
theorem dX7_weightBits_1 : decode cX7_weightBits 1 = .ok (.iload_n 2, 1) := by decide +kernel
theorem dX7_weightBits_2 : decode cX7_weightBits 2 = .ok (.invokestatic 212, 3) := by decide +kernel
theorem dX7_weightBits_5 : decode cX7_weightBits 5 = .ok (.istore_n 3, 1) := by decide +kernel
theorem dX7_weightBits_6 : decode cX7_weightBits 6 = .ok (.iload_n 0, 1) := by decide +kernel
theorem dX7_weightBits_7 : decode cX7_weightBits 7 = .ok (.lookupswitch 37 #[(0, 25), (1, 31)], 25) := by decide +kernel
theorem dX7_weightBits_32 : decode cX7_weightBits 32 = .ok (.iload_n 1, 1) := by decide +kernel
theorem dX7_weightBits_33 : decode cX7_weightBits 33 = .ok (.iload_n 3, 1) := by decide +kernel
theorem dX7_weightBits_34 : decode cX7_weightBits 34 = .ok (.invokestatic 217, 3) := by decide +kernel
theorem dX7_weightBits_37 : decode cX7_weightBits 37 = .ok (.ireturn, 1) := by decide +kernel
theorem dX7_weightBits_38 : decode cX7_weightBits 38 = .ok (.iload_n 1, 1) := by decide +kernel
theorem dX7_weightBits_39 : decode cX7_weightBits 39 = .ok (.iconst 1, 1) := by decide +kernel
theorem dX7_weightBits_40 : decode cX7_weightBits 40 = .ok (.invokestatic 217, 3) := by decide +kernel
theorem dX7_weightBits_43 : decode cX7_weightBits 43 = .ok (.ireturn, 1) := by decide +kernel
theorem dX7_weightBits_44 : decode cX7_weightBits 44 = .ok (.iconst 1, 1) := by decide +kernel
theorem dX7_weightBits_45 : decode cX7_weightBits 45 = .ok (.iload_n 3, 1) := by decide +kernel
theorem dX7_weightBits_46 : decode cX7_weightBits 46 = .ok (.invokestatic 217, 3) := by decide +kernel
theorem dX7_weightBits_49 : decode cX7_weightBits 49 = .ok (.ireturn, 1) := by decide +kernel
theorem dX7_singleBits_0 : decode cX7_singleBits 0 = .ok (.iload_n 0, 1) := by decide +kernel
theorem dX7_singleBits_1 : decode cX7_singleBits 1 = .ok (.ifCond .le 7, 3) := by decide +kernel
theorem dX7_singleBits_4 : decode cX7_singleBits 4 = .ok (.iload_n 1, 1) := by decide +kernel
theorem dX7_singleBits_5 : decode cX7_singleBits 5 = .ok (.ifCond .gt 5, 3) := by decide +kernel
theorem dX7_singleBits_8 : decode cX7_singleBits 8 = .ok (.iconst 0, 1) := by decide +kernel
theorem dX7_singleBits_9 : decode cX7_singleBits 9 = .ok (.ireturn, 1) := by decide +kernel
theorem dX7_singleBits_10 : decode cX7_singleBits 10 = .ok (.iload_n 0, 1) := by decide +kernel
theorem dX7_singleBits_11 : decode cX7_singleBits 11 = .ok (.i2l, 1) := by decide +kernel
theorem dX7_singleBits_12 : decode cX7_singleBits 12 = .ok (.lstore_n 2, 1) := by decide +kernel
theorem dX7_singleBits_13 : decode cX7_singleBits 13 = .ok (.iload_n 1, 1) := by decide +kernel
theorem dX7_singleBits_14 : decode cX7_singleBits 14 = .ok (.i2l, 1) := by decide +kernel
theorem dX7_singleBits_15 : decode cX7_singleBits 15 = .ok (.lstore 4, 2) := by decide +kernel
theorem dX7_singleBits_17 : decode cX7_singleBits 17 = .ok (.sipush 150, 3) := by decide +kernel
theorem dX7_singleBits_20 : decode cX7_singleBits 20 = .ok (.istore 6, 2) := by decide +kernel
theorem dX7_singleBits_22 : decode cX7_singleBits 22 = .ok (.iconst 0, 1) := by decide +kernel
theorem dX7_singleBits_23 : decode cX7_singleBits 23 = .ok (.istore 7, 2) := by decide +kernel
theorem dX7_singleBits_25 : decode cX7_singleBits 25 = .ok (.iload 7, 2) := by decide +kernel
theorem dX7_singleBits_27 : decode cX7_singleBits 27 = .ok (.bipush 64, 2) := by decide +kernel
theorem dX7_singleBits_29 : decode cX7_singleBits 29 = .ok (.if_icmp .ge 26, 3) := by decide +kernel
theorem dX7_singleBits_32 : decode cX7_singleBits 32 = .ok (.lload_n 2, 1) := by decide +kernel
theorem dX7_singleBits_33 : decode cX7_singleBits 33 = .ok (.lload 4, 2) := by decide +kernel
theorem dX7_singleBits_35 : decode cX7_singleBits 35 = .ok (.bipush 23, 2) := by decide +kernel
theorem dX7_singleBits_37 : decode cX7_singleBits 37 = .ok (.lshl, 1) := by decide +kernel
theorem dX7_singleBits_38 : decode cX7_singleBits 38 = .ok (.lcmp, 1) := by decide +kernel
theorem dX7_singleBits_39 : decode cX7_singleBits 39 = .ok (.ifCond .ge 16, 3) := by decide +kernel
theorem dX7_singleBits_42 : decode cX7_singleBits 42 = .ok (.lload_n 2, 1) := by decide +kernel
theorem dX7_singleBits_43 : decode cX7_singleBits 43 = .ok (.iconst 1, 1) := by decide +kernel
theorem dX7_singleBits_44 : decode cX7_singleBits 44 = .ok (.lshl, 1) := by decide +kernel
theorem dX7_singleBits_45 : decode cX7_singleBits 45 = .ok (.lstore_n 2, 1) := by decide +kernel
theorem dX7_singleBits_46 : decode cX7_singleBits 46 = .ok (.iinc 6 (-1), 3) := by decide +kernel
theorem dX7_singleBits_49 : decode cX7_singleBits 49 = .ok (.iinc 7 1, 3) := by decide +kernel
theorem dX7_singleBits_52 : decode cX7_singleBits 52 = .ok (.goto (-27), 3) := by decide +kernel
theorem dX7_singleBits_55 : decode cX7_singleBits 55 = .ok (.lload_n 2, 1) := by decide +kernel
theorem dX7_singleBits_56 : decode cX7_singleBits 56 = .ok (.lload 4, 2) := by decide +kernel
theorem dX7_singleBits_58 : decode cX7_singleBits 58 = .ok (.ldiv, 1) := by decide +kernel
theorem dX7_singleBits_59 : decode cX7_singleBits 59 = .ok (.lstore 7, 2) := by decide +kernel
theorem dX7_singleBits_61 : decode cX7_singleBits 61 = .ok (.ldc2_w 220, 3) := by decide +kernel
theorem dX7_singleBits_64 : decode cX7_singleBits 64 = .ok (.lload_n 2, 1) := by decide +kernel
theorem dX7_singleBits_65 : decode cX7_singleBits 65 = .ok (.lload 7, 2) := by decide +kernel
theorem dX7_singleBits_67 : decode cX7_singleBits 67 = .ok (.lload 4, 2) := by decide +kernel
theorem dX7_singleBits_69 : decode cX7_singleBits 69 = .ok (.lmul, 1) := by decide +kernel
theorem dX7_singleBits_70 : decode cX7_singleBits 70 = .ok (.lsub, 1) := by decide +kernel
theorem dX7_singleBits_71 : decode cX7_singleBits 71 = .ok (.lmul, 1) := by decide +kernel
theorem dX7_singleBits_72 : decode cX7_singleBits 72 = .ok (.lstore 9, 2) := by decide +kernel
theorem dX7_singleBits_74 : decode cX7_singleBits 74 = .ok (.lload 9, 2) := by decide +kernel
theorem dX7_singleBits_76 : decode cX7_singleBits 76 = .ok (.lload 4, 2) := by decide +kernel
theorem dX7_singleBits_78 : decode cX7_singleBits 78 = .ok (.lcmp, 1) := by decide +kernel
theorem dX7_singleBits_79 : decode cX7_singleBits 79 = .ok (.ifCond .gt 20, 3) := by decide +kernel
theorem dX7_singleBits_82 : decode cX7_singleBits 82 = .ok (.lload 9, 2) := by decide +kernel
theorem dX7_singleBits_84 : decode cX7_singleBits 84 = .ok (.lload 4, 2) := by decide +kernel
theorem dX7_singleBits_86 : decode cX7_singleBits 86 = .ok (.lcmp, 1) := by decide +kernel
theorem dX7_singleBits_87 : decode cX7_singleBits 87 = .ok (.ifCond .ne 18, 3) := by decide +kernel
theorem dX7_singleBits_90 : decode cX7_singleBits 90 = .ok (.lload 7, 2) := by decide +kernel
theorem dX7_singleBits_92 : decode cX7_singleBits 92 = .ok (.lconst 1, 1) := by decide +kernel
theorem dX7_singleBits_93 : decode cX7_singleBits 93 = .ok (.land, 1) := by decide +kernel
theorem dX7_singleBits_94 : decode cX7_singleBits 94 = .ok (.lconst 0, 1) := by decide +kernel
theorem dX7_singleBits_95 : decode cX7_singleBits 95 = .ok (.lcmp, 1) := by decide +kernel
theorem dX7_singleBits_96 : decode cX7_singleBits 96 = .ok (.ifCond .eq 9, 3) := by decide +kernel
theorem dX7_singleBits_99 : decode cX7_singleBits 99 = .ok (.lload 7, 2) := by decide +kernel
theorem dX7_singleBits_101 : decode cX7_singleBits 101 = .ok (.lconst 1, 1) := by decide +kernel
theorem dX7_singleBits_102 : decode cX7_singleBits 102 = .ok (.ladd, 1) := by decide +kernel
theorem dX7_singleBits_103 : decode cX7_singleBits 103 = .ok (.lstore 7, 2) := by decide +kernel
theorem dX7_singleBits_105 : decode cX7_singleBits 105 = .ok (.iload 6, 2) := by decide +kernel
theorem dX7_singleBits_107 : decode cX7_singleBits 107 = .ok (.iconst 1, 1) := by decide +kernel
theorem dX7_singleBits_108 : decode cX7_singleBits 108 = .ok (.isub, 1) := by decide +kernel
theorem dX7_singleBits_109 : decode cX7_singleBits 109 = .ok (.i2l, 1) := by decide +kernel
theorem dX7_singleBits_110 : decode cX7_singleBits 110 = .ok (.bipush 23, 2) := by decide +kernel
theorem dX7_singleBits_112 : decode cX7_singleBits 112 = .ok (.lshl, 1) := by decide +kernel
theorem dX7_singleBits_113 : decode cX7_singleBits 113 = .ok (.lload 7, 2) := by decide +kernel
theorem dX7_singleBits_115 : decode cX7_singleBits 115 = .ok (.ladd, 1) := by decide +kernel
theorem dX7_singleBits_116 : decode cX7_singleBits 116 = .ok (.l2i, 1) := by decide +kernel
theorem dX7_singleBits_117 : decode cX7_singleBits 117 = .ok (.ireturn, 1) := by decide +kernel
theorem dL_law_0 : decode cL_law 0 = .ok (.new 7, 3) := by decide +kernel
theorem dL_law_3 : decode cL_law 3 = .ok (.dup, 1) := by decide +kernel
theorem dL_law_4 : decode cL_law 4 = .ok (.invokespecial 9, 3) := by decide +kernel
theorem dL_law_7 : decode cL_law 7 = .ok (.astore_n 1, 1) := by decide +kernel
theorem dL_law_8 : decode cL_law 8 = .ok (.new 10, 3) := by decide +kernel
theorem dL_law_11 : decode cL_law 11 = .ok (.dup, 1) := by decide +kernel
theorem dL_law_12 : decode cL_law 12 = .ok (.invokespecial 12, 3) := by decide +kernel
theorem dL_law_15 : decode cL_law 15 = .ok (.astore_n 2, 1) := by decide +kernel
theorem dL_law_16 : decode cL_law 16 = .ok (.iconst 0, 1) := by decide +kernel
theorem dL_law_17 : decode cL_law 17 = .ok (.istore_n 3, 1) := by decide +kernel
theorem dL_law_18 : decode cL_law 18 = .ok (.iload_n 3, 1) := by decide +kernel
theorem dL_law_19 : decode cL_law 19 = .ok (.aload_n 0, 1) := by decide +kernel
theorem dL_law_20 : decode cL_law 20 = .ok (.arraylength, 1) := by decide +kernel
theorem dL_law_21 : decode cL_law 21 = .ok (.iconst 3, 1) := by decide +kernel
theorem dL_law_22 : decode cL_law 22 = .ok (.isub, 1) := by decide +kernel
theorem dL_law_23 : decode cL_law 23 = .ok (.if_icmp .gt 598, 3) := by decide +kernel
theorem dL_law_26 : decode cL_law 26 = .ok (.aload_n 0, 1) := by decide +kernel
theorem dL_law_27 : decode cL_law 27 = .ok (.iload_n 3, 1) := by decide +kernel
theorem dL_law_28 : decode cL_law 28 = .ok (.iaload, 1) := by decide +kernel
theorem dL_law_29 : decode cL_law 29 = .ok (.bipush 31, 2) := by decide +kernel
theorem dL_law_31 : decode cL_law 31 = .ok (.iand, 1) := by decide +kernel
theorem dL_law_32 : decode cL_law 32 = .ok (.tableswitch 583 0 20 #[100, 123, 146, 169, 182, 195, 208, 241, 264, 287, 320, 343, 366, 389, 412, 445, 468, 491, 514, 537, 560], 100) := by decide +kernel
theorem dL_law_132 : decode cL_law 132 = .ok (.aload_n 1, 1) := by decide +kernel
theorem dL_law_133 : decode cL_law 133 = .ok (.aload_n 0, 1) := by decide +kernel
theorem dL_law_134 : decode cL_law 134 = .ok (.iload_n 3, 1) := by decide +kernel
theorem dL_law_135 : decode cL_law 135 = .ok (.iconst 1, 1) := by decide +kernel
theorem dL_law_136 : decode cL_law 136 = .ok (.iadd, 1) := by decide +kernel
theorem dL_law_137 : decode cL_law 137 = .ok (.iaload, 1) := by decide +kernel
theorem dL_law_138 : decode cL_law 138 = .ok (.invokevirtual 13, 3) := by decide +kernel
theorem dL_law_141 : decode cL_law 141 = .ok (.aload_n 2, 1) := by decide +kernel
theorem dL_law_142 : decode cL_law 142 = .ok (.aload_n 0, 1) := by decide +kernel
theorem dL_law_143 : decode cL_law 143 = .ok (.iload_n 3, 1) := by decide +kernel
theorem dL_law_144 : decode cL_law 144 = .ok (.iconst 1, 1) := by decide +kernel
theorem dL_law_145 : decode cL_law 145 = .ok (.iadd, 1) := by decide +kernel
theorem dL_law_146 : decode cL_law 146 = .ok (.iaload, 1) := by decide +kernel
theorem dL_law_147 : decode cL_law 147 = .ok (.invokevirtual 17, 3) := by decide +kernel
theorem dL_law_150 : decode cL_law 150 = .ok (.if_icmp .eq 465, 3) := by decide +kernel
theorem dL_law_153 : decode cL_law 153 = .ok (.iconst 0, 1) := by decide +kernel
theorem dL_law_154 : decode cL_law 154 = .ok (.ireturn, 1) := by decide +kernel
theorem dL_law_155 : decode cL_law 155 = .ok (.aload_n 1, 1) := by decide +kernel
theorem dL_law_156 : decode cL_law 156 = .ok (.aload_n 0, 1) := by decide +kernel
theorem dL_law_157 : decode cL_law 157 = .ok (.iload_n 3, 1) := by decide +kernel
theorem dL_law_158 : decode cL_law 158 = .ok (.iconst 1, 1) := by decide +kernel
theorem dL_law_159 : decode cL_law 159 = .ok (.iadd, 1) := by decide +kernel
theorem dL_law_160 : decode cL_law 160 = .ok (.iaload, 1) := by decide +kernel
theorem dL_law_161 : decode cL_law 161 = .ok (.invokevirtual 18, 3) := by decide +kernel
theorem dL_law_164 : decode cL_law 164 = .ok (.aload_n 2, 1) := by decide +kernel
theorem dL_law_165 : decode cL_law 165 = .ok (.aload_n 0, 1) := by decide +kernel
theorem dL_law_166 : decode cL_law 166 = .ok (.iload_n 3, 1) := by decide +kernel
theorem dL_law_167 : decode cL_law 167 = .ok (.iconst 1, 1) := by decide +kernel
theorem dL_law_168 : decode cL_law 168 = .ok (.iadd, 1) := by decide +kernel
theorem dL_law_169 : decode cL_law 169 = .ok (.iaload, 1) := by decide +kernel
theorem dL_law_170 : decode cL_law 170 = .ok (.invokevirtual 21, 3) := by decide +kernel
theorem dL_law_173 : decode cL_law 173 = .ok (.if_icmp .eq 442, 3) := by decide +kernel
theorem dL_law_176 : decode cL_law 176 = .ok (.iconst 0, 1) := by decide +kernel
theorem dL_law_177 : decode cL_law 177 = .ok (.ireturn, 1) := by decide +kernel
theorem dL_law_178 : decode cL_law 178 = .ok (.aload_n 1, 1) := by decide +kernel
theorem dL_law_179 : decode cL_law 179 = .ok (.aload_n 0, 1) := by decide +kernel
theorem dL_law_180 : decode cL_law 180 = .ok (.iload_n 3, 1) := by decide +kernel
theorem dL_law_181 : decode cL_law 181 = .ok (.iconst 1, 1) := by decide +kernel
theorem dL_law_182 : decode cL_law 182 = .ok (.iadd, 1) := by decide +kernel
theorem dL_law_183 : decode cL_law 183 = .ok (.iaload, 1) := by decide +kernel
theorem dL_law_184 : decode cL_law 184 = .ok (.invokevirtual 22, 3) := by decide +kernel
theorem dL_law_187 : decode cL_law 187 = .ok (.aload_n 2, 1) := by decide +kernel
theorem dL_law_188 : decode cL_law 188 = .ok (.aload_n 0, 1) := by decide +kernel
theorem dL_law_189 : decode cL_law 189 = .ok (.iload_n 3, 1) := by decide +kernel
theorem dL_law_190 : decode cL_law 190 = .ok (.iconst 1, 1) := by decide +kernel
theorem dL_law_191 : decode cL_law 191 = .ok (.iadd, 1) := by decide +kernel
theorem dL_law_192 : decode cL_law 192 = .ok (.iaload, 1) := by decide +kernel
theorem dL_law_193 : decode cL_law 193 = .ok (.invokevirtual 25, 3) := by decide +kernel
theorem dL_law_196 : decode cL_law 196 = .ok (.if_icmp .eq 419, 3) := by decide +kernel
theorem dL_law_199 : decode cL_law 199 = .ok (.iconst 0, 1) := by decide +kernel
theorem dL_law_200 : decode cL_law 200 = .ok (.ireturn, 1) := by decide +kernel
theorem dL_law_201 : decode cL_law 201 = .ok (.aload_n 1, 1) := by decide +kernel
theorem dL_law_202 : decode cL_law 202 = .ok (.invokevirtual 26, 3) := by decide +kernel
theorem dL_law_205 : decode cL_law 205 = .ok (.aload_n 2, 1) := by decide +kernel
theorem dL_law_206 : decode cL_law 206 = .ok (.invokevirtual 30, 3) := by decide +kernel
theorem dL_law_209 : decode cL_law 209 = .ok (.if_icmp .eq 406, 3) := by decide +kernel
theorem dL_law_212 : decode cL_law 212 = .ok (.iconst 0, 1) := by decide +kernel
theorem dL_law_213 : decode cL_law 213 = .ok (.ireturn, 1) := by decide +kernel
theorem dL_law_214 : decode cL_law 214 = .ok (.aload_n 1, 1) := by decide +kernel
theorem dL_law_215 : decode cL_law 215 = .ok (.invokevirtual 31, 3) := by decide +kernel
theorem dL_law_218 : decode cL_law 218 = .ok (.aload_n 2, 1) := by decide +kernel
theorem dL_law_219 : decode cL_law 219 = .ok (.invokevirtual 34, 3) := by decide +kernel
theorem dL_law_222 : decode cL_law 222 = .ok (.if_icmp .eq 393, 3) := by decide +kernel
theorem dL_law_225 : decode cL_law 225 = .ok (.iconst 0, 1) := by decide +kernel
theorem dL_law_226 : decode cL_law 226 = .ok (.ireturn, 1) := by decide +kernel
theorem dL_law_227 : decode cL_law 227 = .ok (.aload_n 1, 1) := by decide +kernel
theorem dL_law_228 : decode cL_law 228 = .ok (.invokevirtual 35, 3) := by decide +kernel
theorem dL_law_231 : decode cL_law 231 = .ok (.aload_n 2, 1) := by decide +kernel
theorem dL_law_232 : decode cL_law 232 = .ok (.invokevirtual 38, 3) := by decide +kernel
theorem dL_law_235 : decode cL_law 235 = .ok (.if_icmp .eq 380, 3) := by decide +kernel
theorem dL_law_238 : decode cL_law 238 = .ok (.iconst 0, 1) := by decide +kernel
theorem dL_law_239 : decode cL_law 239 = .ok (.ireturn, 1) := by decide +kernel
theorem dL_law_240 : decode cL_law 240 = .ok (.aload_n 1, 1) := by decide +kernel
theorem dL_law_241 : decode cL_law 241 = .ok (.aload_n 0, 1) := by decide +kernel
theorem dL_law_242 : decode cL_law 242 = .ok (.iload_n 3, 1) := by decide +kernel
theorem dL_law_243 : decode cL_law 243 = .ok (.iconst 1, 1) := by decide +kernel
theorem dL_law_244 : decode cL_law 244 = .ok (.iadd, 1) := by decide +kernel
theorem dL_law_245 : decode cL_law 245 = .ok (.iaload, 1) := by decide +kernel
theorem dL_law_246 : decode cL_law 246 = .ok (.aload_n 0, 1) := by decide +kernel
theorem dL_law_247 : decode cL_law 247 = .ok (.iload_n 3, 1) := by decide +kernel
theorem dL_law_248 : decode cL_law 248 = .ok (.iconst 2, 1) := by decide +kernel
theorem dL_law_249 : decode cL_law 249 = .ok (.iadd, 1) := by decide +kernel
theorem dL_law_250 : decode cL_law 250 = .ok (.iaload, 1) := by decide +kernel
theorem dL_law_251 : decode cL_law 251 = .ok (.invokevirtual 39, 3) := by decide +kernel
theorem dL_law_254 : decode cL_law 254 = .ok (.aload_n 2, 1) := by decide +kernel
theorem dL_law_255 : decode cL_law 255 = .ok (.aload_n 0, 1) := by decide +kernel
theorem dL_law_256 : decode cL_law 256 = .ok (.iload_n 3, 1) := by decide +kernel
theorem dL_law_257 : decode cL_law 257 = .ok (.iconst 1, 1) := by decide +kernel
theorem dL_law_258 : decode cL_law 258 = .ok (.iadd, 1) := by decide +kernel
theorem dL_law_259 : decode cL_law 259 = .ok (.iaload, 1) := by decide +kernel
theorem dL_law_260 : decode cL_law 260 = .ok (.aload_n 0, 1) := by decide +kernel
theorem dL_law_261 : decode cL_law 261 = .ok (.iload_n 3, 1) := by decide +kernel
theorem dL_law_262 : decode cL_law 262 = .ok (.iconst 2, 1) := by decide +kernel
theorem dL_law_263 : decode cL_law 263 = .ok (.iadd, 1) := by decide +kernel
theorem dL_law_264 : decode cL_law 264 = .ok (.iaload, 1) := by decide +kernel
theorem dL_law_265 : decode cL_law 265 = .ok (.invokevirtual 43, 3) := by decide +kernel
theorem dL_law_268 : decode cL_law 268 = .ok (.if_icmp .eq 347, 3) := by decide +kernel
theorem dL_law_271 : decode cL_law 271 = .ok (.iconst 0, 1) := by decide +kernel
theorem dL_law_272 : decode cL_law 272 = .ok (.ireturn, 1) := by decide +kernel
theorem dL_law_273 : decode cL_law 273 = .ok (.aload_n 1, 1) := by decide +kernel
theorem dL_law_274 : decode cL_law 274 = .ok (.aload_n 0, 1) := by decide +kernel
theorem dL_law_275 : decode cL_law 275 = .ok (.iload_n 3, 1) := by decide +kernel
theorem dL_law_276 : decode cL_law 276 = .ok (.iconst 1, 1) := by decide +kernel
theorem dL_law_277 : decode cL_law 277 = .ok (.iadd, 1) := by decide +kernel
theorem dL_law_278 : decode cL_law 278 = .ok (.iaload, 1) := by decide +kernel
theorem dL_law_279 : decode cL_law 279 = .ok (.invokevirtual 44, 3) := by decide +kernel
theorem dL_law_282 : decode cL_law 282 = .ok (.aload_n 2, 1) := by decide +kernel
theorem dL_law_283 : decode cL_law 283 = .ok (.aload_n 0, 1) := by decide +kernel
theorem dL_law_284 : decode cL_law 284 = .ok (.iload_n 3, 1) := by decide +kernel
theorem dL_law_285 : decode cL_law 285 = .ok (.iconst 1, 1) := by decide +kernel
theorem dL_law_286 : decode cL_law 286 = .ok (.iadd, 1) := by decide +kernel
theorem dL_law_287 : decode cL_law 287 = .ok (.iaload, 1) := by decide +kernel
theorem dL_law_288 : decode cL_law 288 = .ok (.invokevirtual 47, 3) := by decide +kernel
theorem dL_law_291 : decode cL_law 291 = .ok (.if_icmp .eq 324, 3) := by decide +kernel
theorem dL_law_294 : decode cL_law 294 = .ok (.iconst 0, 1) := by decide +kernel
theorem dL_law_295 : decode cL_law 295 = .ok (.ireturn, 1) := by decide +kernel
theorem dL_law_296 : decode cL_law 296 = .ok (.aload_n 1, 1) := by decide +kernel
theorem dL_law_297 : decode cL_law 297 = .ok (.aload_n 0, 1) := by decide +kernel
theorem dL_law_298 : decode cL_law 298 = .ok (.iload_n 3, 1) := by decide +kernel
theorem dL_law_299 : decode cL_law 299 = .ok (.iconst 1, 1) := by decide +kernel
theorem dL_law_300 : decode cL_law 300 = .ok (.iadd, 1) := by decide +kernel
theorem dL_law_301 : decode cL_law 301 = .ok (.iaload, 1) := by decide +kernel
theorem dL_law_302 : decode cL_law 302 = .ok (.invokevirtual 48, 3) := by decide +kernel
theorem dL_law_305 : decode cL_law 305 = .ok (.aload_n 2, 1) := by decide +kernel
theorem dL_law_306 : decode cL_law 306 = .ok (.aload_n 0, 1) := by decide +kernel
theorem dL_law_307 : decode cL_law 307 = .ok (.iload_n 3, 1) := by decide +kernel
theorem dL_law_308 : decode cL_law 308 = .ok (.iconst 1, 1) := by decide +kernel
theorem dL_law_309 : decode cL_law 309 = .ok (.iadd, 1) := by decide +kernel
theorem dL_law_310 : decode cL_law 310 = .ok (.iaload, 1) := by decide +kernel
theorem dL_law_311 : decode cL_law 311 = .ok (.invokevirtual 51, 3) := by decide +kernel
theorem dL_law_314 : decode cL_law 314 = .ok (.if_icmp .eq 301, 3) := by decide +kernel
theorem dL_law_317 : decode cL_law 317 = .ok (.iconst 0, 1) := by decide +kernel
theorem dL_law_318 : decode cL_law 318 = .ok (.ireturn, 1) := by decide +kernel
theorem dL_law_319 : decode cL_law 319 = .ok (.aload_n 1, 1) := by decide +kernel
theorem dL_law_320 : decode cL_law 320 = .ok (.aload_n 0, 1) := by decide +kernel
theorem dL_law_321 : decode cL_law 321 = .ok (.iload_n 3, 1) := by decide +kernel
theorem dL_law_322 : decode cL_law 322 = .ok (.iconst 1, 1) := by decide +kernel
theorem dL_law_323 : decode cL_law 323 = .ok (.iadd, 1) := by decide +kernel
theorem dL_law_324 : decode cL_law 324 = .ok (.iaload, 1) := by decide +kernel
theorem dL_law_325 : decode cL_law 325 = .ok (.aload_n 0, 1) := by decide +kernel
theorem dL_law_326 : decode cL_law 326 = .ok (.iload_n 3, 1) := by decide +kernel
theorem dL_law_327 : decode cL_law 327 = .ok (.iconst 2, 1) := by decide +kernel
theorem dL_law_328 : decode cL_law 328 = .ok (.iadd, 1) := by decide +kernel
theorem dL_law_329 : decode cL_law 329 = .ok (.iaload, 1) := by decide +kernel
theorem dL_law_330 : decode cL_law 330 = .ok (.invokevirtual 52, 3) := by decide +kernel
theorem dL_law_333 : decode cL_law 333 = .ok (.aload_n 2, 1) := by decide +kernel
theorem dL_law_334 : decode cL_law 334 = .ok (.aload_n 0, 1) := by decide +kernel
theorem dL_law_335 : decode cL_law 335 = .ok (.iload_n 3, 1) := by decide +kernel
theorem dL_law_336 : decode cL_law 336 = .ok (.iconst 1, 1) := by decide +kernel
theorem dL_law_337 : decode cL_law 337 = .ok (.iadd, 1) := by decide +kernel
theorem dL_law_338 : decode cL_law 338 = .ok (.iaload, 1) := by decide +kernel
theorem dL_law_339 : decode cL_law 339 = .ok (.aload_n 0, 1) := by decide +kernel
theorem dL_law_340 : decode cL_law 340 = .ok (.iload_n 3, 1) := by decide +kernel
theorem dL_law_341 : decode cL_law 341 = .ok (.iconst 2, 1) := by decide +kernel
