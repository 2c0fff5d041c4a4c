theorem dX8_spent_3 : decode cX8_spent 3 = .ok (.invokestatic 113, 3) := by decide +kernel
theorem dX8_spent_6 : decode cX8_spent 6 = .ok (.ifCond .ne 6, 3) := by decide +kernel
theorem dX8_spent_9 : decode cX8_spent 9 = .ok (.bipush (-2), 2) := by decide +kernel
theorem dX8_spent_11 : decode cX8_spent 11 = .ok (.ireturn, 1) := by decide +kernel
theorem dX8_spent_12 : decode cX8_spent 12 = .ok (.aload_n 0, 1) := by decide +kernel
theorem dX8_spent_13 : decode cX8_spent 13 = .ok (.invokevirtual 316, 3) := by decide +kernel
theorem dX8_spent_16 : decode cX8_spent 16 = .ok (.ifCond .ne 6, 3) := by decide +kernel
theorem dX8_spent_19 : decode cX8_spent 19 = .ok (.bipush (-3), 2) := by decide +kernel
theorem dX8_spent_21 : decode cX8_spent 21 = .ok (.ireturn, 1) := by decide +kernel
theorem dX8_spent_22 : decode cX8_spent 22 = .ok (.aload_n 0, 1) := by decide +kernel
theorem dX8_spent_23 : decode cX8_spent 23 = .ok (.aload_n 0, 1) := by decide +kernel
theorem dX8_spent_24 : decode cX8_spent 24 = .ok (.getfield 276, 3) := by decide +kernel
theorem dX8_spent_27 : decode cX8_spent 27 = .ok (.putfield 148, 3) := by decide +kernel
theorem dX8_spent_30 : decode cX8_spent 30 = .ok (.iconst 0, 1) := by decide +kernel
theorem dX8_spent_31 : decode cX8_spent 31 = .ok (.istore_n 2, 1) := by decide +kernel
theorem dX8_spent_32 : decode cX8_spent 32 = .ok (.iload_n 2, 1) := by decide +kernel
theorem dX8_spent_33 : decode cX8_spent 33 = .ok (.aload_n 0, 1) := by decide +kernel
theorem dX8_spent_34 : decode cX8_spent 34 = .ok (.getfield 276, 3) := by decide +kernel
theorem dX8_spent_37 : decode cX8_spent 37 = .ok (.if_icmp .ge 57, 3) := by decide +kernel
theorem dX8_spent_40 : decode cX8_spent 40 = .ok (.aload_n 0, 1) := by decide +kernel
theorem dX8_spent_41 : decode cX8_spent 41 = .ok (.getfield 29, 3) := by decide +kernel
theorem dX8_spent_44 : decode cX8_spent 44 = .ok (.iload_n 2, 1) := by decide +kernel
theorem dX8_spent_45 : decode cX8_spent 45 = .ok (.aload_n 0, 1) := by decide +kernel
theorem dX8_spent_46 : decode cX8_spent 46 = .ok (.getfield 41, 3) := by decide +kernel
theorem dX8_spent_49 : decode cX8_spent 49 = .ok (.iload_n 2, 1) := by decide +kernel
theorem dX8_spent_50 : decode cX8_spent 50 = .ok (.iaload, 1) := by decide +kernel
theorem dX8_spent_51 : decode cX8_spent 51 = .ok (.iastore, 1) := by decide +kernel
theorem dX8_spent_52 : decode cX8_spent 52 = .ok (.aload_n 0, 1) := by decide +kernel
theorem dX8_spent_53 : decode cX8_spent 53 = .ok (.getfield 32, 3) := by decide +kernel
theorem dX8_spent_56 : decode cX8_spent 56 = .ok (.iload_n 2, 1) := by decide +kernel
theorem dX8_spent_57 : decode cX8_spent 57 = .ok (.aload_n 0, 1) := by decide +kernel
theorem dX8_spent_58 : decode cX8_spent 58 = .ok (.getfield 44, 3) := by decide +kernel
theorem dX8_spent_61 : decode cX8_spent 61 = .ok (.iload_n 2, 1) := by decide +kernel
theorem dX8_spent_62 : decode cX8_spent 62 = .ok (.iaload, 1) := by decide +kernel
theorem dX8_spent_63 : decode cX8_spent 63 = .ok (.iastore, 1) := by decide +kernel
theorem dX8_spent_64 : decode cX8_spent 64 = .ok (.aload_n 0, 1) := by decide +kernel
theorem dX8_spent_65 : decode cX8_spent 65 = .ok (.getfield 35, 3) := by decide +kernel
theorem dX8_spent_68 : decode cX8_spent 68 = .ok (.iload_n 2, 1) := by decide +kernel
theorem dX8_spent_69 : decode cX8_spent 69 = .ok (.aload_n 0, 1) := by decide +kernel
theorem dX8_spent_70 : decode cX8_spent 70 = .ok (.getfield 47, 3) := by decide +kernel
theorem dX8_spent_73 : decode cX8_spent 73 = .ok (.iload_n 2, 1) := by decide +kernel
theorem dX8_spent_74 : decode cX8_spent 74 = .ok (.iaload, 1) := by decide +kernel
theorem dX8_spent_75 : decode cX8_spent 75 = .ok (.iastore, 1) := by decide +kernel
theorem dX8_spent_76 : decode cX8_spent 76 = .ok (.aload_n 0, 1) := by decide +kernel
theorem dX8_spent_77 : decode cX8_spent 77 = .ok (.getfield 38, 3) := by decide +kernel
theorem dX8_spent_80 : decode cX8_spent 80 = .ok (.iload_n 2, 1) := by decide +kernel
theorem dX8_spent_81 : decode cX8_spent 81 = .ok (.aload_n 0, 1) := by decide +kernel
theorem dX8_spent_82 : decode cX8_spent 82 = .ok (.getfield 50, 3) := by decide +kernel
theorem dX8_spent_85 : decode cX8_spent 85 = .ok (.iload_n 2, 1) := by decide +kernel
theorem dX8_spent_86 : decode cX8_spent 86 = .ok (.iaload, 1) := by decide +kernel
theorem dX8_spent_87 : decode cX8_spent 87 = .ok (.iastore, 1) := by decide +kernel
theorem dX8_spent_88 : decode cX8_spent 88 = .ok (.iinc 2 1, 3) := by decide +kernel
theorem dX8_spent_91 : decode cX8_spent 91 = .ok (.goto (-59), 3) := by decide +kernel
theorem dX8_spent_94 : decode cX8_spent 94 = .ok (.aload_n 0, 1) := by decide +kernel
theorem dX8_spent_95 : decode cX8_spent 95 = .ok (.sipush 2000, 3) := by decide +kernel
theorem dX8_spent_98 : decode cX8_spent 98 = .ok (.invokevirtual 338, 3) := by decide +kernel
theorem dX8_spent_101 : decode cX8_spent 101 = .ok (.iload_n 1, 1) := by decide +kernel
theorem dX8_spent_102 : decode cX8_spent 102 = .ok (.tableswitch 58 0 3 #[30, 35, 40, 45], 30) := by decide +kernel
theorem dX8_spent_132 : decode cX8_spent 132 = .ok (.aload_n 0, 1) := by decide +kernel
theorem dX8_spent_133 : decode cX8_spent 133 = .ok (.getfield 319, 3) := by decide +kernel
theorem dX8_spent_136 : decode cX8_spent 136 = .ok (.ireturn, 1) := by decide +kernel
theorem dX8_spent_137 : decode cX8_spent 137 = .ok (.aload_n 0, 1) := by decide +kernel
theorem dX8_spent_138 : decode cX8_spent 138 = .ok (.getfield 322, 3) := by decide +kernel
theorem dX8_spent_141 : decode cX8_spent 141 = .ok (.ireturn, 1) := by decide +kernel
theorem dX8_spent_142 : decode cX8_spent 142 = .ok (.aload_n 0, 1) := by decide +kernel
theorem dX8_spent_143 : decode cX8_spent 143 = .ok (.getfield 325, 3) := by decide +kernel
theorem dX8_spent_146 : decode cX8_spent 146 = .ok (.ireturn, 1) := by decide +kernel
theorem dX8_spent_147 : decode cX8_spent 147 = .ok (.aload_n 0, 1) := by decide +kernel
theorem dX8_spent_148 : decode cX8_spent 148 = .ok (.getfield 335, 3) := by decide +kernel
theorem dX8_spent_151 : decode cX8_spent 151 = .ok (.ifCond .eq 7, 3) := by decide +kernel
theorem dX8_spent_154 : decode cX8_spent 154 = .ok (.iconst 1, 1) := by decide +kernel
theorem dX8_spent_155 : decode cX8_spent 155 = .ok (.goto 4, 3) := by decide +kernel
theorem dX8_spent_158 : decode cX8_spent 158 = .ok (.iconst 0, 1) := by decide +kernel
theorem dX8_spent_159 : decode cX8_spent 159 = .ok (.ireturn, 1) := by decide +kernel
theorem dX8_spent_160 : decode cX8_spent 160 = .ok (.iload_n 1, 1) := by decide +kernel
theorem dX8_spent_161 : decode cX8_spent 161 = .ok (.iconst 4, 1) := by decide +kernel
theorem dX8_spent_162 : decode cX8_spent 162 = .ok (.if_icmp .ne 10, 3) := by decide +kernel
theorem dX8_spent_165 : decode cX8_spent 165 = .ok (.aload_n 0, 1) := by decide +kernel
theorem dX8_spent_166 : decode cX8_spent 166 = .ok (.getfield 328, 3) := by decide +kernel
theorem dX8_spent_169 : decode cX8_spent 169 = .ok (.goto 7, 3) := by decide +kernel
theorem dX8_spent_172 : decode cX8_spent 172 = .ok (.aload_n 0, 1) := by decide +kernel
theorem dX8_spent_173 : decode cX8_spent 173 = .ok (.getfield 331, 3) := by decide +kernel
theorem dX8_spent_176 : decode cX8_spent 176 = .ok (.ireturn, 1) := by decide +kernel
theorem dX8_image_0 : decode cX8_image 0 = .ok (.iload_n 1, 1) := by decide +kernel
theorem dX8_image_1 : decode cX8_image 1 = .ok (.iconst 0, 1) := by decide +kernel
theorem dX8_image_2 : decode cX8_image 2 = .ok (.iconst 1, 1) := by decide +kernel
theorem dX8_image_3 : decode cX8_image 3 = .ok (.invokestatic 113, 3) := by decide +kernel
theorem dX8_image_6 : decode cX8_image 6 = .ok (.ifCond .ne 6, 3) := by decide +kernel
theorem dX8_image_9 : decode cX8_image 9 = .ok (.bipush (-2), 2) := by decide +kernel
theorem dX8_image_11 : decode cX8_image 11 = .ok (.ireturn, 1) := by decide +kernel
theorem dX8_image_12 : decode cX8_image 12 = .ok (.sipush 130, 3) := by decide +kernel
theorem dX8_image_15 : decode cX8_image 15 = .ok (.iload_n 1, 1) := by decide +kernel
theorem dX8_image_16 : decode cX8_image 16 = .ok (.imul, 1) := by decide +kernel
theorem dX8_image_17 : decode cX8_image 17 = .ok (.istore_n 2, 1) := by decide +kernel
theorem dX8_image_18 : decode cX8_image 18 = .ok (.iconst 0, 1) := by decide +kernel
theorem dX8_image_19 : decode cX8_image 19 = .ok (.istore_n 3, 1) := by decide +kernel
theorem dX8_image_20 : decode cX8_image 20 = .ok (.iload_n 3, 1) := by decide +kernel
theorem dX8_image_21 : decode cX8_image 21 = .ok (.bipush 30, 2) := by decide +kernel
theorem dX8_image_23 : decode cX8_image 23 = .ok (.if_icmp .ge 74, 3) := by decide +kernel
theorem dX8_image_26 : decode cX8_image 26 = .ok (.aload_n 0, 1) := by decide +kernel
theorem dX8_image_27 : decode cX8_image 27 = .ok (.getfield 103, 3) := by decide +kernel
theorem dX8_image_30 : decode cX8_image 30 = .ok (.iload_n 2, 1) := by decide +kernel
theorem dX8_image_31 : decode cX8_image 31 = .ok (.iload_n 3, 1) := by decide +kernel
theorem dX8_image_32 : decode cX8_image 32 = .ok (.iadd, 1) := by decide +kernel
theorem dX8_image_33 : decode cX8_image 33 = .ok (.aload_n 0, 1) := by decide +kernel
theorem dX8_image_34 : decode cX8_image 34 = .ok (.getfield 13, 3) := by decide +kernel
theorem dX8_image_37 : decode cX8_image 37 = .ok (.iload_n 3, 1) := by decide +kernel
theorem dX8_image_38 : decode cX8_image 38 = .ok (.iaload, 1) := by decide +kernel
theorem dX8_image_39 : decode cX8_image 39 = .ok (.iastore, 1) := by decide +kernel
theorem dX8_image_40 : decode cX8_image 40 = .ok (.aload_n 0, 1) := by decide +kernel
theorem dX8_image_41 : decode cX8_image 41 = .ok (.getfield 103, 3) := by decide +kernel
theorem dX8_image_44 : decode cX8_image 44 = .ok (.iload_n 2, 1) := by decide +kernel
theorem dX8_image_45 : decode cX8_image 45 = .ok (.bipush 30, 2) := by decide +kernel
theorem dX8_image_47 : decode cX8_image 47 = .ok (.iadd, 1) := by decide +kernel
theorem dX8_image_48 : decode cX8_image 48 = .ok (.iload_n 3, 1) := by decide +kernel
theorem dX8_image_49 : decode cX8_image 49 = .ok (.iadd, 1) := by decide +kernel
theorem dX8_image_50 : decode cX8_image 50 = .ok (.aload_n 0, 1) := by decide +kernel
theorem dX8_image_51 : decode cX8_image 51 = .ok (.getfield 17, 3) := by decide +kernel
theorem dX8_image_54 : decode cX8_image 54 = .ok (.iload_n 3, 1) := by decide +kernel
theorem dX8_image_55 : decode cX8_image 55 = .ok (.iaload, 1) := by decide +kernel
theorem dX8_image_56 : decode cX8_image 56 = .ok (.iastore, 1) := by decide +kernel
theorem dX8_image_57 : decode cX8_image 57 = .ok (.aload_n 0, 1) := by decide +kernel
theorem dX8_image_58 : decode cX8_image 58 = .ok (.getfield 103, 3) := by decide +kernel
theorem dX8_image_61 : decode cX8_image 61 = .ok (.iload_n 2, 1) := by decide +kernel
theorem dX8_image_62 : decode cX8_image 62 = .ok (.bipush 60, 2) := by decide +kernel
theorem dX8_image_64 : decode cX8_image 64 = .ok (.iadd, 1) := by decide +kernel
theorem dX8_image_65 : decode cX8_image 65 = .ok (.iload_n 3, 1) := by decide +kernel
theorem dX8_image_66 : decode cX8_image 66 = .ok (.iadd, 1) := by decide +kernel
theorem dX8_image_67 : decode cX8_image 67 = .ok (.aload_n 0, 1) := by decide +kernel
theorem dX8_image_68 : decode cX8_image 68 = .ok (.getfield 20, 3) := by decide +kernel
theorem dX8_image_71 : decode cX8_image 71 = .ok (.iload_n 3, 1) := by decide +kernel
theorem dX8_image_72 : decode cX8_image 72 = .ok (.iaload, 1) := by decide +kernel
theorem dX8_image_73 : decode cX8_image 73 = .ok (.iastore, 1) := by decide +kernel
theorem dX8_image_74 : decode cX8_image 74 = .ok (.aload_n 0, 1) := by decide +kernel
theorem dX8_image_75 : decode cX8_image 75 = .ok (.getfield 103, 3) := by decide +kernel
theorem dX8_image_78 : decode cX8_image 78 = .ok (.iload_n 2, 1) := by decide +kernel
theorem dX8_image_79 : decode cX8_image 79 = .ok (.bipush 90, 2) := by decide +kernel
theorem dX8_image_81 : decode cX8_image 81 = .ok (.iadd, 1) := by decide +kernel
theorem dX8_image_82 : decode cX8_image 82 = .ok (.iload_n 3, 1) := by decide +kernel
theorem dX8_image_83 : decode cX8_image 83 = .ok (.iadd, 1) := by decide +kernel
theorem dX8_image_84 : decode cX8_image 84 = .ok (.aload_n 0, 1) := by decide +kernel
theorem dX8_image_85 : decode cX8_image 85 = .ok (.getfield 23, 3) := by decide +kernel
theorem dX8_image_88 : decode cX8_image 88 = .ok (.iload_n 3, 1) := by decide +kernel
theorem dX8_image_89 : decode cX8_image 89 = .ok (.iaload, 1) := by decide +kernel
theorem dX8_image_90 : decode cX8_image 90 = .ok (.iastore, 1) := by decide +kernel
theorem dX8_image_91 : decode cX8_image 91 = .ok (.iinc 3 1, 3) := by decide +kernel
theorem dX8_image_94 : decode cX8_image 94 = .ok (.goto (-74), 3) := by decide +kernel
theorem dX8_image_97 : decode cX8_image 97 = .ok (.aload_n 0, 1) := by decide +kernel
theorem dX8_image_98 : decode cX8_image 98 = .ok (.getfield 103, 3) := by decide +kernel
theorem dX8_image_101 : decode cX8_image 101 = .ok (.iload_n 2, 1) := by decide +kernel
theorem dX8_image_102 : decode cX8_image 102 = .ok (.bipush 120, 2) := by decide +kernel
theorem dX8_image_104 : decode cX8_image 104 = .ok (.iadd, 1) := by decide +kernel
theorem dX8_image_105 : decode cX8_image 105 = .ok (.aload_n 0, 1) := by decide +kernel
theorem dX8_image_106 : decode cX8_image 106 = .ok (.getfield 141, 3) := by decide +kernel
theorem dX8_image_109 : decode cX8_image 109 = .ok (.iastore, 1) := by decide +kernel
theorem dX8_image_110 : decode cX8_image 110 = .ok (.aload_n 0, 1) := by decide +kernel
theorem dX8_image_111 : decode cX8_image 111 = .ok (.getfield 103, 3) := by decide +kernel
theorem dX8_image_114 : decode cX8_image 114 = .ok (.iload_n 2, 1) := by decide +kernel
theorem dX8_image_115 : decode cX8_image 115 = .ok (.bipush 121, 2) := by decide +kernel
theorem dX8_image_117 : decode cX8_image 117 = .ok (.iadd, 1) := by decide +kernel
theorem dX8_image_118 : decode cX8_image 118 = .ok (.aload_n 0, 1) := by decide +kernel
theorem dX8_image_119 : decode cX8_image 119 = .ok (.getfield 7, 3) := by decide +kernel
theorem dX8_image_122 : decode cX8_image 122 = .ok (.iastore, 1) := by decide +kernel
theorem dX8_image_123 : decode cX8_image 123 = .ok (.aload_n 0, 1) := by decide +kernel
theorem dX8_image_124 : decode cX8_image 124 = .ok (.getfield 103, 3) := by decide +kernel
theorem dX8_image_127 : decode cX8_image 127 = .ok (.iload_n 2, 1) := by decide +kernel
theorem dX8_image_128 : decode cX8_image 128 = .ok (.bipush 122, 2) := by decide +kernel
theorem dX8_image_130 : decode cX8_image 130 = .ok (.iadd, 1) := by decide +kernel
theorem dX8_image_131 : decode cX8_image 131 = .ok (.aload_n 0, 1) := by decide +kernel
theorem dX8_image_132 : decode cX8_image 132 = .ok (.getfield 117, 3) := by decide +kernel
theorem dX8_image_135 : decode cX8_image 135 = .ok (.iastore, 1) := by decide +kernel
theorem dX8_image_136 : decode cX8_image 136 = .ok (.aload_n 0, 1) := by decide +kernel
theorem dX8_image_137 : decode cX8_image 137 = .ok (.getfield 106, 3) := by decide +kernel
theorem dX8_image_140 : decode cX8_image 140 = .ok (.iload_n 1, 1) := by decide +kernel
theorem dX8_image_141 : decode cX8_image 141 = .ok (.iconst 1, 1) := by decide +kernel
theorem dX8_image_142 : decode cX8_image 142 = .ok (.bastore, 1) := by decide +kernel
theorem dX8_image_143 : decode cX8_image 143 = .ok (.iconst 1, 1) := by decide +kernel
theorem dX8_image_144 : decode cX8_image 144 = .ok (.ireturn, 1) := by decide +kernel
theorem dX8_restore_0 : decode cX8_restore 0 = .ok (.iload_n 1, 1) := by decide +kernel
theorem dX8_restore_1 : decode cX8_restore 1 = .ok (.iconst 0, 1) := by decide +kernel
theorem dX8_restore_2 : decode cX8_restore 2 = .ok (.iconst 1, 1) := by decide +kernel
theorem dX8_restore_3 : decode cX8_restore 3 = .ok (.invokestatic 113, 3) := by decide +kernel
theorem dX8_restore_6 : decode cX8_restore 6 = .ok (.ifCond .ne 6, 3) := by decide +kernel
theorem dX8_restore_9 : decode cX8_restore 9 = .ok (.bipush (-2), 2) := by decide +kernel
theorem dX8_restore_11 : decode cX8_restore 11 = .ok (.ireturn, 1) := by decide +kernel
theorem dX8_restore_12 : decode cX8_restore 12 = .ok (.aload_n 0, 1) := by decide +kernel
theorem dX8_restore_13 : decode cX8_restore 13 = .ok (.getfield 106, 3) := by decide +kernel
theorem dX8_restore_16 : decode cX8_restore 16 = .ok (.iload_n 1, 1) := by decide +kernel
theorem dX8_restore_17 : decode cX8_restore 17 = .ok (.baload, 1) := by decide +kernel
theorem dX8_restore_18 : decode cX8_restore 18 = .ok (.ifCond .ne 6, 3) := by decide +kernel
theorem dX8_restore_21 : decode cX8_restore 21 = .ok (.bipush (-3), 2) := by decide +kernel
theorem dX8_restore_23 : decode cX8_restore 23 = .ok (.ireturn, 1) := by decide +kernel
theorem dX8_restore_24 : decode cX8_restore 24 = .ok (.sipush 130, 3) := by decide +kernel
theorem dX8_restore_27 : decode cX8_restore 27 = .ok (.iload_n 1, 1) := by decide +kernel
theorem dX8_restore_28 : decode cX8_restore 28 = .ok (.imul, 1) := by decide +kernel
theorem dX8_restore_29 : decode cX8_restore 29 = .ok (.istore_n 2, 1) := by decide +kernel
theorem dX8_restore_30 : decode cX8_restore 30 = .ok (.iconst 0, 1) := by decide +kernel
theorem dX8_restore_31 : decode cX8_restore 31 = .ok (.istore_n 3, 1) := by decide +kernel
theorem dX8_restore_32 : decode cX8_restore 32 = .ok (.iload_n 3, 1) := by decide +kernel
theorem dX8_restore_33 : decode cX8_restore 33 = .ok (.bipush 30, 2) := by decide +kernel
theorem dX8_restore_35 : decode cX8_restore 35 = .ok (.if_icmp .ge 74, 3) := by decide +kernel
theorem dX8_restore_38 : decode cX8_restore 38 = .ok (.aload_n 0, 1) := by decide +kernel
theorem dX8_restore_39 : decode cX8_restore 39 = .ok (.getfield 13, 3) := by decide +kernel
theorem dX8_restore_42 : decode cX8_restore 42 = .ok (.iload_n 3, 1) := by decide +kernel
theorem dX8_restore_43 : decode cX8_restore 43 = .ok (.aload_n 0, 1) := by decide +kernel
theorem dX8_restore_44 : decode cX8_restore 44 = .ok (.getfield 103, 3) := by decide +kernel
theorem dX8_restore_47 : decode cX8_restore 47 = .ok (.iload_n 2, 1) := by decide +kernel
theorem dX8_restore_48 : decode cX8_restore 48 = .ok (.iload_n 3, 1) := by decide +kernel
theorem dX8_restore_49 : decode cX8_restore 49 = .ok (.iadd, 1) := by decide +kernel
theorem dX8_restore_50 : decode cX8_restore 50 = .ok (.iaload, 1) := by decide +kernel
theorem dX8_restore_51 : decode cX8_restore 51 = .ok (.iastore, 1) := by decide +kernel
theorem dX8_restore_52 : decode cX8_restore 52 = .ok (.aload_n 0, 1) := by decide +kernel
theorem dX8_restore_53 : decode cX8_restore 53 = .ok (.getfield 17, 3) := by decide +kernel
theorem dX8_restore_56 : decode cX8_restore 56 = .ok (.iload_n 3, 1) := by decide +kernel
theorem dX8_restore_57 : decode cX8_restore 57 = .ok (.aload_n 0, 1) := by decide +kernel
theorem dX8_restore_58 : decode cX8_restore 58 = .ok (.getfield 103, 3) := by decide +kernel
theorem dX8_restore_61 : decode cX8_restore 61 = .ok (.iload_n 2, 1) := by decide +kernel
theorem dX8_restore_62 : decode cX8_restore 62 = .ok (.bipush 30, 2) := by decide +kernel
theorem dX8_restore_64 : decode cX8_restore 64 = .ok (.iadd, 1) := by decide +kernel
theorem dX8_restore_65 : decode cX8_restore 65 = .ok (.iload_n 3, 1) := by decide +kernel
theorem dX8_restore_66 : decode cX8_restore 66 = .ok (.iadd, 1) := by decide +kernel
theorem dX8_restore_67 : decode cX8_restore 67 = .ok (.iaload, 1) := by decide +kernel
theorem dX8_restore_68 : decode cX8_restore 68 = .ok (.iastore, 1) := by decide +kernel
theorem dX8_restore_69 : decode cX8_restore 69 = .ok (.aload_n 0, 1) := by decide +kernel
theorem dX8_restore_70 : decode cX8_restore 70 = .ok (.getfield 20, 3) := by decide +kernel
theorem dX8_restore_73 : decode cX8_restore 73 = .ok (.iload_n 3, 1) := by decide +kernel
theorem dX8_restore_74 : decode cX8_restore 74 = .ok (.aload_n 0, 1) := by decide +kernel
theorem dX8_restore_75 : decode cX8_restore 75 = .ok (.getfield 103, 3) := by decide +kernel
theorem dX8_restore_78 : decode cX8_restore 78 = .ok (.iload_n 2, 1) := by decide +kernel
theorem dX8_restore_79 : decode cX8_restore 79 = .ok (.bipush 60, 2) := by decide +kernel
theorem dX8_restore_81 : decode cX8_restore 81 = .ok (.iadd, 1) := by decide +kernel
theorem dX8_restore_82 : decode cX8_restore 82 = .ok (.iload_n 3, 1) := by decide +kernel
theorem dX8_restore_83 : decode cX8_restore 83 = .ok (.iadd, 1) := by decide +kernel
theorem dX8_restore_84 : decode cX8_restore 84 = .ok (.iaload, 1) := by decide +kernel
theorem dX8_restore_85 : decode cX8_restore 85 = .ok (.iastore, 1) := by decide +kernel
theorem dX8_restore_86 : decode cX8_restore 86 = .ok (.aload_n 0, 1) := by decide +kernel
theorem dX8_restore_87 : decode cX8_restore 87 = .ok (.getfield 23, 3) := by decide +kernel
theorem dX8_restore_90 : decode cX8_restore 90 = .ok (.iload_n 3, 1) := by decide +kernel
theorem dX8_restore_91 : decode cX8_restore 91 = .ok (.aload_n 0, 1) := by decide +kernel
theorem dX8_restore_92 : decode cX8_restore 92 = .ok (.getfield 103, 3) := by decide +kernel
theorem dX8_restore_95 : decode cX8_restore 95 = .ok (.iload_n 2, 1) := by decide +kernel
theorem dX8_restore_96 : decode cX8_restore 96 = .ok (.bipush 90, 2) := by decide +kernel
theorem dX8_restore_98 : decode cX8_restore 98 = .ok (.iadd, 1) := by decide +kernel
theorem dX8_restore_99 : decode cX8_restore 99 = .ok (.iload_n 3, 1) := by decide +kernel
theorem dX8_restore_100 : decode cX8_restore 100 = .ok (.iadd, 1) := by decide +kernel
theorem dX8_restore_101 : decode cX8_restore 101 = .ok (.iaload, 1) := by decide +kernel
theorem dX8_restore_102 : decode cX8_restore 102 = .ok (.iastore, 1) := by decide +kernel
theorem dX8_restore_103 : decode cX8_restore 103 = .ok (.iinc 3 1, 3) := by decide +kernel
theorem dX8_restore_106 : decode cX8_restore 106 = .ok (.goto (-74), 3) := by decide +kernel
theorem dX8_restore_109 : decode cX8_restore 109 = .ok (.aload_n 0, 1) := by decide +kernel
theorem dX8_restore_110 : decode cX8_restore 110 = .ok (.aload_n 0, 1) := by decide +kernel
theorem dX8_restore_111 : decode cX8_restore 111 = .ok (.getfield 103, 3) := by decide +kernel
theorem dX8_restore_114 : decode cX8_restore 114 = .ok (.iload_n 2, 1) := by decide +kernel
theorem dX8_restore_115 : decode cX8_restore 115 = .ok (.bipush 120, 2) := by decide +kernel
theorem dX8_restore_117 : decode cX8_restore 117 = .ok (.iadd, 1) := by decide +kernel
theorem dX8_restore_118 : decode cX8_restore 118 = .ok (.iaload, 1) := by decide +kernel
theorem dX8_restore_119 : decode cX8_restore 119 = .ok (.putfield 141, 3) := by decide +kernel
theorem dX8_restore_122 : decode cX8_restore 122 = .ok (.aload_n 0, 1) := by decide +kernel
theorem dX8_restore_123 : decode cX8_restore 123 = .ok (.aload_n 0, 1) := by decide +kernel
theorem dX8_restore_124 : decode cX8_restore 124 = .ok (.getfield 103, 3) := by decide +kernel
theorem dX8_restore_127 : decode cX8_restore 127 = .ok (.iload_n 2, 1) := by decide +kernel
theorem dX8_restore_128 : decode cX8_restore 128 = .ok (.bipush 121, 2) := by decide +kernel
theorem dX8_restore_130 : decode cX8_restore 130 = .ok (.iadd, 1) := by decide +kernel
theorem dX8_restore_131 : decode cX8_restore 131 = .ok (.iaload, 1) := by decide +kernel
theorem dX8_restore_132 : decode cX8_restore 132 = .ok (.putfield 7, 3) := by decide +kernel
theorem dX8_restore_135 : decode cX8_restore 135 = .ok (.aload_n 0, 1) := by decide +kernel
theorem dX8_restore_136 : decode cX8_restore 136 = .ok (.aload_n 0, 1) := by decide +kernel
theorem dX8_restore_137 : decode cX8_restore 137 = .ok (.getfield 103, 3) := by decide +kernel
theorem dX8_restore_140 : decode cX8_restore 140 = .ok (.iload_n 2, 1) := by decide +kernel
theorem dX8_restore_141 : decode cX8_restore 141 = .ok (.bipush 122, 2) := by decide +kernel
theorem dX8_restore_143 : decode cX8_restore 143 = .ok (.iadd, 1) := by decide +kernel
theorem dX8_restore_144 : decode cX8_restore 144 = .ok (.iaload, 1) := by decide +kernel
theorem dX8_restore_145 : decode cX8_restore 145 = .ok (.putfield 117, 3) := by decide +kernel
theorem dX8_restore_148 : decode cX8_restore 148 = .ok (.iconst 1, 1) := by decide +kernel
theorem dX8_restore_149 : decode cX8_restore 149 = .ok (.ireturn, 1) := by decide +kernel
theorem dX8_told_0 : decode cX8_told 0 = .ok (.iload_n 1, 1) := by decide +kernel
theorem dX8_told_1 : decode cX8_told 1 = .ok (.tableswitch 65 0 4 #[35, 40, 45, 50, 55], 35) := by decide +kernel
theorem dX8_told_36 : decode cX8_told 36 = .ok (.aload_n 0, 1) := by decide +kernel
theorem dX8_told_37 : decode cX8_told 37 = .ok (.getfield 120, 3) := by decide +kernel
theorem dX8_told_40 : decode cX8_told 40 = .ok (.ireturn, 1) := by decide +kernel
theorem dX8_told_41 : decode cX8_told 41 = .ok (.aload_n 0, 1) := by decide +kernel
theorem dX8_told_42 : decode cX8_told 42 = .ok (.getfield 141, 3) := by decide +kernel
theorem dX8_told_45 : decode cX8_told 45 = .ok (.ireturn, 1) := by decide +kernel
theorem dX8_told_46 : decode cX8_told 46 = .ok (.aload_n 0, 1) := by decide +kernel
theorem dX8_told_47 : decode cX8_told 47 = .ok (.getfield 7, 3) := by decide +kernel
theorem dX8_told_50 : decode cX8_told 50 = .ok (.ireturn, 1) := by decide +kernel
theorem dX8_told_51 : decode cX8_told 51 = .ok (.aload_n 0, 1) := by decide +kernel
theorem dX8_told_52 : decode cX8_told 52 = .ok (.getfield 117, 3) := by decide +kernel
theorem dX8_told_55 : decode cX8_told 55 = .ok (.ireturn, 1) := by decide +kernel
theorem dX8_told_56 : decode cX8_told 56 = .ok (.aload_n 0, 1) := by decide +kernel
theorem dX8_told_57 : decode cX8_told 57 = .ok (.invokevirtual 174, 3) := by decide +kernel
theorem dX8_told_60 : decode cX8_told 60 = .ok (.aload_n 0, 1) := by decide +kernel
theorem dX8_told_61 : decode cX8_told 61 = .ok (.invokevirtual 255, 3) := by decide +kernel
theorem dX8_told_64 : decode cX8_told 64 = .ok (.l2i, 1) := by decide +kernel
theorem dX8_told_65 : decode cX8_told 65 = .ok (.ireturn, 1) := by decide +kernel
theorem dX8_told_66 : decode cX8_told 66 = .ok (.iconst 0, 1) := by decide +kernel
theorem dX8_told_67 : decode cX8_told 67 = .ok (.istore_n 2, 1) := by decide +kernel
theorem dX8_told_68 : decode cX8_told 68 = .ok (.iconst 0, 1) := by decide +kernel
theorem dX8_told_69 : decode cX8_told 69 = .ok (.istore_n 3, 1) := by decide +kernel
theorem dX8_told_70 : decode cX8_told 70 = .ok (.iload_n 3, 1) := by decide +kernel
theorem dX8_told_71 : decode cX8_told 71 = .ok (.aload_n 0, 1) := by decide +kernel
theorem dX8_told_72 : decode cX8_told 72 = .ok (.getfield 141, 3) := by decide +kernel
theorem dX8_told_75 : decode cX8_told 75 = .ok (.if_icmp .ge 27, 3) := by decide +kernel
theorem dX8_told_78 : decode cX8_told 78 = .ok (.iload_n 2, 1) := by decide +kernel
theorem dX8_told_79 : decode cX8_told 79 = .ok (.aload_n 0, 1) := by decide +kernel
theorem dX8_told_80 : decode cX8_told 80 = .ok (.getfield 13, 3) := by decide +kernel
theorem dX8_told_83 : decode cX8_told 83 = .ok (.iload_n 3, 1) := by decide +kernel
theorem dX8_told_84 : decode cX8_told 84 = .ok (.iaload, 1) := by decide +kernel
theorem dX8_told_85 : decode cX8_told 85 = .ok (.iconst 1, 1) := by decide +kernel
theorem dX8_told_86 : decode cX8_told 86 = .ok (.if_icmp .ne 7, 3) := by decide +kernel
theorem dX8_told_89 : decode cX8_told 89 = .ok (.iconst 1, 1) := by decide +kernel
theorem dX8_told_90 : decode cX8_told 90 = .ok (.goto 4, 3) := by decide +kernel
theorem dX8_told_93 : decode cX8_told 93 = .ok (.iconst 0, 1) := by decide +kernel
theorem dX8_told_94 : decode cX8_told 94 = .ok (.iadd, 1) := by decide +kernel
theorem dX8_told_95 : decode cX8_told 95 = .ok (.istore_n 2, 1) := by decide +kernel
theorem dX8_told_96 : decode cX8_told 96 = .ok (.iinc 3 1, 3) := by decide +kernel
theorem dX8_told_99 : decode cX8_told 99 = .ok (.goto (-29), 3) := by decide +kernel
theorem dX8_told_102 : decode cX8_told 102 = .ok (.iload_n 1, 1) := by decide +kernel
theorem dX8_told_103 : decode cX8_told 103 = .ok (.iconst 5, 1) := by decide +kernel
theorem dX8_told_104 : decode cX8_told 104 = .ok (.if_icmp .ne 7, 3) := by decide +kernel
theorem dX8_told_107 : decode cX8_told 107 = .ok (.iload_n 2, 1) := by decide +kernel
theorem dX8_told_108 : decode cX8_told 108 = .ok (.goto 5, 3) := by decide +kernel
theorem dX8_told_111 : decode cX8_told 111 = .ok (.bipush (-2), 2) := by decide +kernel
theorem dX8_told_113 : decode cX8_told 113 = .ok (.ireturn, 1) := by decide +kernel
