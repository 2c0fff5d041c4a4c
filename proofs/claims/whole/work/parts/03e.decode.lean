theorem dX8_asProgram_36 : decode cX8_asProgram 36 = .ok (.getfield 17, 3) := by decide +kernel
theorem dX8_asProgram_39 : decode cX8_asProgram 39 = .ok (.iload_n 1, 1) := by decide +kernel
theorem dX8_asProgram_40 : decode cX8_asProgram 40 = .ok (.iaload, 1) := by decide +kernel
theorem dX8_asProgram_41 : decode cX8_asProgram 41 = .ok (.iastore, 1) := by decide +kernel
theorem dX8_asProgram_42 : decode cX8_asProgram 42 = .ok (.aload_n 0, 1) := by decide +kernel
theorem dX8_asProgram_43 : decode cX8_asProgram 43 = .ok (.getfield 35, 3) := by decide +kernel
theorem dX8_asProgram_46 : decode cX8_asProgram 46 = .ok (.iload_n 1, 1) := by decide +kernel
theorem dX8_asProgram_47 : decode cX8_asProgram 47 = .ok (.aload_n 0, 1) := by decide +kernel
theorem dX8_asProgram_48 : decode cX8_asProgram 48 = .ok (.getfield 20, 3) := by decide +kernel
theorem dX8_asProgram_51 : decode cX8_asProgram 51 = .ok (.iload_n 1, 1) := by decide +kernel
theorem dX8_asProgram_52 : decode cX8_asProgram 52 = .ok (.iaload, 1) := by decide +kernel
theorem dX8_asProgram_53 : decode cX8_asProgram 53 = .ok (.iastore, 1) := by decide +kernel
theorem dX8_asProgram_54 : decode cX8_asProgram 54 = .ok (.aload_n 0, 1) := by decide +kernel
theorem dX8_asProgram_55 : decode cX8_asProgram 55 = .ok (.getfield 38, 3) := by decide +kernel
theorem dX8_asProgram_58 : decode cX8_asProgram 58 = .ok (.iload_n 1, 1) := by decide +kernel
theorem dX8_asProgram_59 : decode cX8_asProgram 59 = .ok (.aload_n 0, 1) := by decide +kernel
theorem dX8_asProgram_60 : decode cX8_asProgram 60 = .ok (.getfield 23, 3) := by decide +kernel
theorem dX8_asProgram_63 : decode cX8_asProgram 63 = .ok (.iload_n 1, 1) := by decide +kernel
theorem dX8_asProgram_64 : decode cX8_asProgram 64 = .ok (.iaload, 1) := by decide +kernel
theorem dX8_asProgram_65 : decode cX8_asProgram 65 = .ok (.iastore, 1) := by decide +kernel
theorem dX8_asProgram_66 : decode cX8_asProgram 66 = .ok (.iinc 1 1, 3) := by decide +kernel
theorem dX8_asProgram_69 : decode cX8_asProgram 69 = .ok (.goto (-59), 3) := by decide +kernel
theorem dX8_asProgram_72 : decode cX8_asProgram 72 = .ok (.return_, 1) := by decide +kernel
theorem dX8_reads_0 : decode cX8_reads 0 = .ok (.aload_n 0, 1) := by decide +kernel
theorem dX8_reads_1 : decode cX8_reads 1 = .ok (.getfield 29, 3) := by decide +kernel
theorem dX8_reads_4 : decode cX8_reads 4 = .ok (.iload_n 1, 1) := by decide +kernel
theorem dX8_reads_5 : decode cX8_reads 5 = .ok (.iaload, 1) := by decide +kernel
theorem dX8_reads_6 : decode cX8_reads 6 = .ok (.tableswitch 82 1 8 #[46, 55, 46, 73, 82, 73, 82, 73], 46) := by decide +kernel
theorem dX8_reads_52 : decode cX8_reads 52 = .ok (.lconst 1, 1) := by decide +kernel
theorem dX8_reads_53 : decode cX8_reads 53 = .ok (.aload_n 0, 1) := by decide +kernel
theorem dX8_reads_54 : decode cX8_reads 54 = .ok (.getfield 35, 3) := by decide +kernel
theorem dX8_reads_57 : decode cX8_reads 57 = .ok (.iload_n 1, 1) := by decide +kernel
theorem dX8_reads_58 : decode cX8_reads 58 = .ok (.iaload, 1) := by decide +kernel
theorem dX8_reads_59 : decode cX8_reads 59 = .ok (.lshl, 1) := by decide +kernel
theorem dX8_reads_60 : decode cX8_reads 60 = .ok (.lreturn, 1) := by decide +kernel
theorem dX8_reads_61 : decode cX8_reads 61 = .ok (.lconst 1, 1) := by decide +kernel
theorem dX8_reads_62 : decode cX8_reads 62 = .ok (.aload_n 0, 1) := by decide +kernel
theorem dX8_reads_63 : decode cX8_reads 63 = .ok (.getfield 35, 3) := by decide +kernel
theorem dX8_reads_66 : decode cX8_reads 66 = .ok (.iload_n 1, 1) := by decide +kernel
theorem dX8_reads_67 : decode cX8_reads 67 = .ok (.iaload, 1) := by decide +kernel
theorem dX8_reads_68 : decode cX8_reads 68 = .ok (.lshl, 1) := by decide +kernel
theorem dX8_reads_69 : decode cX8_reads 69 = .ok (.lconst 1, 1) := by decide +kernel
theorem dX8_reads_70 : decode cX8_reads 70 = .ok (.aload_n 0, 1) := by decide +kernel
theorem dX8_reads_71 : decode cX8_reads 71 = .ok (.getfield 38, 3) := by decide +kernel
theorem dX8_reads_74 : decode cX8_reads 74 = .ok (.iload_n 1, 1) := by decide +kernel
theorem dX8_reads_75 : decode cX8_reads 75 = .ok (.iaload, 1) := by decide +kernel
theorem dX8_reads_76 : decode cX8_reads 76 = .ok (.lshl, 1) := by decide +kernel
theorem dX8_reads_77 : decode cX8_reads 77 = .ok (.lor, 1) := by decide +kernel
theorem dX8_reads_78 : decode cX8_reads 78 = .ok (.lreturn, 1) := by decide +kernel
theorem dX8_reads_79 : decode cX8_reads 79 = .ok (.lconst 1, 1) := by decide +kernel
theorem dX8_reads_80 : decode cX8_reads 80 = .ok (.aload_n 0, 1) := by decide +kernel
theorem dX8_reads_81 : decode cX8_reads 81 = .ok (.getfield 32, 3) := by decide +kernel
theorem dX8_reads_84 : decode cX8_reads 84 = .ok (.iload_n 1, 1) := by decide +kernel
theorem dX8_reads_85 : decode cX8_reads 85 = .ok (.iaload, 1) := by decide +kernel
theorem dX8_reads_86 : decode cX8_reads 86 = .ok (.lshl, 1) := by decide +kernel
theorem dX8_reads_87 : decode cX8_reads 87 = .ok (.lreturn, 1) := by decide +kernel
theorem dX8_reads_88 : decode cX8_reads 88 = .ok (.lconst 0, 1) := by decide +kernel
theorem dX8_reads_89 : decode cX8_reads 89 = .ok (.lreturn, 1) := by decide +kernel
theorem dX8_isWriting_0 : decode cX8_isWriting 0 = .ok (.iload_n 0, 1) := by decide +kernel
theorem dX8_isWriting_1 : decode cX8_isWriting 1 = .ok (.iconst 4, 1) := by decide +kernel
theorem dX8_isWriting_2 : decode cX8_isWriting 2 = .ok (.if_icmp .lt 9, 3) := by decide +kernel
theorem dX8_isWriting_5 : decode cX8_isWriting 5 = .ok (.iload_n 0, 1) := by decide +kernel
theorem dX8_isWriting_6 : decode cX8_isWriting 6 = .ok (.bipush 7, 2) := by decide +kernel
theorem dX8_isWriting_8 : decode cX8_isWriting 8 = .ok (.if_icmp .ne 7, 3) := by decide +kernel
theorem dX8_isWriting_11 : decode cX8_isWriting 11 = .ok (.iconst 1, 1) := by decide +kernel
theorem dX8_isWriting_12 : decode cX8_isWriting 12 = .ok (.goto 4, 3) := by decide +kernel
theorem dX8_isWriting_15 : decode cX8_isWriting 15 = .ok (.iconst 0, 1) := by decide +kernel
theorem dX8_isWriting_16 : decode cX8_isWriting 16 = .ok (.ireturn, 1) := by decide +kernel
theorem dX8_writes_0 : decode cX8_writes 0 = .ok (.aload_n 0, 1) := by decide +kernel
theorem dX8_writes_1 : decode cX8_writes 1 = .ok (.getfield 29, 3) := by decide +kernel
theorem dX8_writes_4 : decode cX8_writes 4 = .ok (.iload_n 1, 1) := by decide +kernel
theorem dX8_writes_5 : decode cX8_writes 5 = .ok (.iaload, 1) := by decide +kernel
theorem dX8_writes_6 : decode cX8_writes 6 = .ok (.invokestatic 151, 3) := by decide +kernel
theorem dX8_writes_9 : decode cX8_writes 9 = .ok (.ifCond .eq 14, 3) := by decide +kernel
theorem dX8_writes_12 : decode cX8_writes 12 = .ok (.lconst 1, 1) := by decide +kernel
theorem dX8_writes_13 : decode cX8_writes 13 = .ok (.aload_n 0, 1) := by decide +kernel
theorem dX8_writes_14 : decode cX8_writes 14 = .ok (.getfield 32, 3) := by decide +kernel
theorem dX8_writes_17 : decode cX8_writes 17 = .ok (.iload_n 1, 1) := by decide +kernel
theorem dX8_writes_18 : decode cX8_writes 18 = .ok (.iaload, 1) := by decide +kernel
theorem dX8_writes_19 : decode cX8_writes 19 = .ok (.lshl, 1) := by decide +kernel
theorem dX8_writes_20 : decode cX8_writes 20 = .ok (.goto 4, 3) := by decide +kernel
theorem dX8_writes_23 : decode cX8_writes 23 = .ok (.lconst 0, 1) := by decide +kernel
theorem dX8_writes_24 : decode cX8_writes 24 = .ok (.lreturn, 1) := by decide +kernel
theorem dX8_labelOf_0 : decode cX8_labelOf 0 = .ok (.iconst 0, 1) := by decide +kernel
theorem dX8_labelOf_1 : decode cX8_labelOf 1 = .ok (.istore_n 2, 1) := by decide +kernel
theorem dX8_labelOf_2 : decode cX8_labelOf 2 = .ok (.iload_n 2, 1) := by decide +kernel
theorem dX8_labelOf_3 : decode cX8_labelOf 3 = .ok (.aload_n 0, 1) := by decide +kernel
theorem dX8_labelOf_4 : decode cX8_labelOf 4 = .ok (.getfield 148, 3) := by decide +kernel
theorem dX8_labelOf_7 : decode cX8_labelOf 7 = .ok (.if_icmp .ge 31, 3) := by decide +kernel
theorem dX8_labelOf_10 : decode cX8_labelOf 10 = .ok (.aload_n 0, 1) := by decide +kernel
theorem dX8_labelOf_11 : decode cX8_labelOf 11 = .ok (.getfield 29, 3) := by decide +kernel
theorem dX8_labelOf_14 : decode cX8_labelOf 14 = .ok (.iload_n 2, 1) := by decide +kernel
theorem dX8_labelOf_15 : decode cX8_labelOf 15 = .ok (.iaload, 1) := by decide +kernel
theorem dX8_labelOf_16 : decode cX8_labelOf 16 = .ok (.iconst 5, 1) := by decide +kernel
theorem dX8_labelOf_17 : decode cX8_labelOf 17 = .ok (.if_icmp .ne 15, 3) := by decide +kernel
theorem dX8_labelOf_20 : decode cX8_labelOf 20 = .ok (.aload_n 0, 1) := by decide +kernel
theorem dX8_labelOf_21 : decode cX8_labelOf 21 = .ok (.getfield 32, 3) := by decide +kernel
theorem dX8_labelOf_24 : decode cX8_labelOf 24 = .ok (.iload_n 2, 1) := by decide +kernel
theorem dX8_labelOf_25 : decode cX8_labelOf 25 = .ok (.iaload, 1) := by decide +kernel
theorem dX8_labelOf_26 : decode cX8_labelOf 26 = .ok (.iload_n 1, 1) := by decide +kernel
theorem dX8_labelOf_27 : decode cX8_labelOf 27 = .ok (.if_icmp .ne 5, 3) := by decide +kernel
theorem dX8_labelOf_30 : decode cX8_labelOf 30 = .ok (.iload_n 2, 1) := by decide +kernel
theorem dX8_labelOf_31 : decode cX8_labelOf 31 = .ok (.ireturn, 1) := by decide +kernel
theorem dX8_labelOf_32 : decode cX8_labelOf 32 = .ok (.iinc 2 1, 3) := by decide +kernel
theorem dX8_labelOf_35 : decode cX8_labelOf 35 = .ok (.goto (-33), 3) := by decide +kernel
theorem dX8_labelOf_38 : decode cX8_labelOf 38 = .ok (.bipush (-6), 2) := by decide +kernel
theorem dX8_labelOf_40 : decode cX8_labelOf 40 = .ok (.ireturn, 1) := by decide +kernel
theorem dX8_layLives_0 : decode cX8_layLives 0 = .ok (.iconst 0, 1) := by decide +kernel
theorem dX8_layLives_1 : decode cX8_layLives 1 = .ok (.istore_n 1, 1) := by decide +kernel
theorem dX8_layLives_2 : decode cX8_layLives 2 = .ok (.iload_n 1, 1) := by decide +kernel
theorem dX8_layLives_3 : decode cX8_layLives 3 = .ok (.aload_n 0, 1) := by decide +kernel
theorem dX8_layLives_4 : decode cX8_layLives 4 = .ok (.getfield 148, 3) := by decide +kernel
theorem dX8_layLives_7 : decode cX8_layLives 7 = .ok (.if_icmp .ge 23, 3) := by decide +kernel
theorem dX8_layLives_10 : decode cX8_layLives 10 = .ok (.aload_n 0, 1) := by decide +kernel
theorem dX8_layLives_11 : decode cX8_layLives 11 = .ok (.getfield 53, 3) := by decide +kernel
theorem dX8_layLives_14 : decode cX8_layLives 14 = .ok (.iload_n 1, 1) := by decide +kernel
theorem dX8_layLives_15 : decode cX8_layLives 15 = .ok (.lconst 0, 1) := by decide +kernel
theorem dX8_layLives_16 : decode cX8_layLives 16 = .ok (.lastore, 1) := by decide +kernel
theorem dX8_layLives_17 : decode cX8_layLives 17 = .ok (.aload_n 0, 1) := by decide +kernel
theorem dX8_layLives_18 : decode cX8_layLives 18 = .ok (.getfield 57, 3) := by decide +kernel
theorem dX8_layLives_21 : decode cX8_layLives 21 = .ok (.iload_n 1, 1) := by decide +kernel
theorem dX8_layLives_22 : decode cX8_layLives 22 = .ok (.lconst 0, 1) := by decide +kernel
theorem dX8_layLives_23 : decode cX8_layLives 23 = .ok (.lastore, 1) := by decide +kernel
theorem dX8_layLives_24 : decode cX8_layLives 24 = .ok (.iinc 1 1, 3) := by decide +kernel
theorem dX8_layLives_27 : decode cX8_layLives 27 = .ok (.goto (-25), 3) := by decide +kernel
theorem dX8_layLives_30 : decode cX8_layLives 30 = .ok (.iconst 1, 1) := by decide +kernel
theorem dX8_layLives_31 : decode cX8_layLives 31 = .ok (.istore_n 1, 1) := by decide +kernel
theorem dX8_layLives_32 : decode cX8_layLives 32 = .ok (.iload_n 1, 1) := by decide +kernel
theorem dX8_layLives_33 : decode cX8_layLives 33 = .ok (.ifCond .eq 162, 3) := by decide +kernel
theorem dX8_layLives_36 : decode cX8_layLives 36 = .ok (.iconst 0, 1) := by decide +kernel
theorem dX8_layLives_37 : decode cX8_layLives 37 = .ok (.istore_n 1, 1) := by decide +kernel
theorem dX8_layLives_38 : decode cX8_layLives 38 = .ok (.aload_n 0, 1) := by decide +kernel
theorem dX8_layLives_39 : decode cX8_layLives 39 = .ok (.getfield 148, 3) := by decide +kernel
theorem dX8_layLives_42 : decode cX8_layLives 42 = .ok (.iconst 1, 1) := by decide +kernel
theorem dX8_layLives_43 : decode cX8_layLives 43 = .ok (.isub, 1) := by decide +kernel
theorem dX8_layLives_44 : decode cX8_layLives 44 = .ok (.istore_n 2, 1) := by decide +kernel
theorem dX8_layLives_45 : decode cX8_layLives 45 = .ok (.iload_n 2, 1) := by decide +kernel
theorem dX8_layLives_46 : decode cX8_layLives 46 = .ok (.ifCond .lt 146, 3) := by decide +kernel
theorem dX8_layLives_49 : decode cX8_layLives 49 = .ok (.iload_n 2, 1) := by decide +kernel
theorem dX8_layLives_50 : decode cX8_layLives 50 = .ok (.iconst 1, 1) := by decide +kernel
theorem dX8_layLives_51 : decode cX8_layLives 51 = .ok (.iadd, 1) := by decide +kernel
theorem dX8_layLives_52 : decode cX8_layLives 52 = .ok (.aload_n 0, 1) := by decide +kernel
theorem dX8_layLives_53 : decode cX8_layLives 53 = .ok (.getfield 148, 3) := by decide +kernel
theorem dX8_layLives_56 : decode cX8_layLives 56 = .ok (.if_icmp .ge 14, 3) := by decide +kernel
theorem dX8_layLives_59 : decode cX8_layLives 59 = .ok (.aload_n 0, 1) := by decide +kernel
theorem dX8_layLives_60 : decode cX8_layLives 60 = .ok (.getfield 53, 3) := by decide +kernel
theorem dX8_layLives_63 : decode cX8_layLives 63 = .ok (.iload_n 2, 1) := by decide +kernel
theorem dX8_layLives_64 : decode cX8_layLives 64 = .ok (.iconst 1, 1) := by decide +kernel
theorem dX8_layLives_65 : decode cX8_layLives 65 = .ok (.iadd, 1) := by decide +kernel
theorem dX8_layLives_66 : decode cX8_layLives 66 = .ok (.laload, 1) := by decide +kernel
theorem dX8_layLives_67 : decode cX8_layLives 67 = .ok (.goto 4, 3) := by decide +kernel
theorem dX8_layLives_70 : decode cX8_layLives 70 = .ok (.lconst 0, 1) := by decide +kernel
theorem dX8_layLives_71 : decode cX8_layLives 71 = .ok (.lstore_n 3, 1) := by decide +kernel
theorem dX8_layLives_72 : decode cX8_layLives 72 = .ok (.aload_n 0, 1) := by decide +kernel
theorem dX8_layLives_73 : decode cX8_layLives 73 = .ok (.getfield 29, 3) := by decide +kernel
theorem dX8_layLives_76 : decode cX8_layLives 76 = .ok (.iload_n 2, 1) := by decide +kernel
theorem dX8_layLives_77 : decode cX8_layLives 77 = .ok (.iaload, 1) := by decide +kernel
theorem dX8_layLives_78 : decode cX8_layLives 78 = .ok (.bipush 6, 2) := by decide +kernel
theorem dX8_layLives_80 : decode cX8_layLives 80 = .ok (.if_icmp .ne 16, 3) := by decide +kernel
theorem dX8_layLives_83 : decode cX8_layLives 83 = .ok (.aload_n 0, 1) := by decide +kernel
theorem dX8_layLives_84 : decode cX8_layLives 84 = .ok (.aload_n 0, 1) := by decide +kernel
theorem dX8_layLives_85 : decode cX8_layLives 85 = .ok (.getfield 35, 3) := by decide +kernel
theorem dX8_layLives_88 : decode cX8_layLives 88 = .ok (.iload_n 2, 1) := by decide +kernel
theorem dX8_layLives_89 : decode cX8_layLives 89 = .ok (.iaload, 1) := by decide +kernel
theorem dX8_layLives_90 : decode cX8_layLives 90 = .ok (.invokevirtual 155, 3) := by decide +kernel
theorem dX8_layLives_93 : decode cX8_layLives 93 = .ok (.goto 5, 3) := by decide +kernel
theorem dX8_layLives_96 : decode cX8_layLives 96 = .ok (.bipush (-6), 2) := by decide +kernel
theorem dX8_layLives_98 : decode cX8_layLives 98 = .ok (.istore 5, 2) := by decide +kernel
theorem dX8_layLives_100 : decode cX8_layLives 100 = .ok (.lload_n 3, 1) := by decide +kernel
theorem dX8_layLives_101 : decode cX8_layLives 101 = .ok (.iload 5, 2) := by decide +kernel
theorem dX8_layLives_103 : decode cX8_layLives 103 = .ok (.ifCond .lt 13, 3) := by decide +kernel
theorem dX8_layLives_106 : decode cX8_layLives 106 = .ok (.aload_n 0, 1) := by decide +kernel
theorem dX8_layLives_107 : decode cX8_layLives 107 = .ok (.getfield 53, 3) := by decide +kernel
theorem dX8_layLives_110 : decode cX8_layLives 110 = .ok (.iload 5, 2) := by decide +kernel
theorem dX8_layLives_112 : decode cX8_layLives 112 = .ok (.laload, 1) := by decide +kernel
theorem dX8_layLives_113 : decode cX8_layLives 113 = .ok (.goto 4, 3) := by decide +kernel
theorem dX8_layLives_116 : decode cX8_layLives 116 = .ok (.lconst 0, 1) := by decide +kernel
theorem dX8_layLives_117 : decode cX8_layLives 117 = .ok (.lor, 1) := by decide +kernel
theorem dX8_layLives_118 : decode cX8_layLives 118 = .ok (.lstore_n 3, 1) := by decide +kernel
theorem dX8_layLives_119 : decode cX8_layLives 119 = .ok (.lload_n 3, 1) := by decide +kernel
theorem dX8_layLives_120 : decode cX8_layLives 120 = .ok (.aload_n 0, 1) := by decide +kernel
theorem dX8_layLives_121 : decode cX8_layLives 121 = .ok (.iload_n 2, 1) := by decide +kernel
theorem dX8_layLives_122 : decode cX8_layLives 122 = .ok (.invokevirtual 158, 3) := by decide +kernel
theorem dX8_layLives_125 : decode cX8_layLives 125 = .ok (.ldc2_w 162, 3) := by decide +kernel
theorem dX8_layLives_128 : decode cX8_layLives 128 = .ok (.lxor, 1) := by decide +kernel
theorem dX8_layLives_129 : decode cX8_layLives 129 = .ok (.land, 1) := by decide +kernel
theorem dX8_layLives_130 : decode cX8_layLives 130 = .ok (.aload_n 0, 1) := by decide +kernel
theorem dX8_layLives_131 : decode cX8_layLives 131 = .ok (.iload_n 2, 1) := by decide +kernel
theorem dX8_layLives_132 : decode cX8_layLives 132 = .ok (.invokevirtual 164, 3) := by decide +kernel
theorem dX8_layLives_135 : decode cX8_layLives 135 = .ok (.lor, 1) := by decide +kernel
theorem dX8_layLives_136 : decode cX8_layLives 136 = .ok (.lstore 6, 2) := by decide +kernel
theorem dX8_layLives_138 : decode cX8_layLives 138 = .ok (.iload_n 1, 1) := by decide +kernel
theorem dX8_layLives_139 : decode cX8_layLives 139 = .ok (.ifCond .ne 26, 3) := by decide +kernel
theorem dX8_layLives_142 : decode cX8_layLives 142 = .ok (.lload_n 3, 1) := by decide +kernel
theorem dX8_layLives_143 : decode cX8_layLives 143 = .ok (.aload_n 0, 1) := by decide +kernel
theorem dX8_layLives_144 : decode cX8_layLives 144 = .ok (.getfield 57, 3) := by decide +kernel
theorem dX8_layLives_147 : decode cX8_layLives 147 = .ok (.iload_n 2, 1) := by decide +kernel
theorem dX8_layLives_148 : decode cX8_layLives 148 = .ok (.laload, 1) := by decide +kernel
theorem dX8_layLives_149 : decode cX8_layLives 149 = .ok (.lcmp, 1) := by decide +kernel
theorem dX8_layLives_150 : decode cX8_layLives 150 = .ok (.ifCond .ne 15, 3) := by decide +kernel
theorem dX8_layLives_153 : decode cX8_layLives 153 = .ok (.lload 6, 2) := by decide +kernel
theorem dX8_layLives_155 : decode cX8_layLives 155 = .ok (.aload_n 0, 1) := by decide +kernel
theorem dX8_layLives_156 : decode cX8_layLives 156 = .ok (.getfield 53, 3) := by decide +kernel
theorem dX8_layLives_159 : decode cX8_layLives 159 = .ok (.iload_n 2, 1) := by decide +kernel
theorem dX8_layLives_160 : decode cX8_layLives 160 = .ok (.laload, 1) := by decide +kernel
theorem dX8_layLives_161 : decode cX8_layLives 161 = .ok (.lcmp, 1) := by decide +kernel
theorem dX8_layLives_162 : decode cX8_layLives 162 = .ok (.ifCond .eq 7, 3) := by decide +kernel
theorem dX8_layLives_165 : decode cX8_layLives 165 = .ok (.iconst 1, 1) := by decide +kernel
theorem dX8_layLives_166 : decode cX8_layLives 166 = .ok (.goto 4, 3) := by decide +kernel
theorem dX8_layLives_169 : decode cX8_layLives 169 = .ok (.iconst 0, 1) := by decide +kernel
theorem dX8_layLives_170 : decode cX8_layLives 170 = .ok (.istore_n 1, 1) := by decide +kernel
theorem dX8_layLives_171 : decode cX8_layLives 171 = .ok (.aload_n 0, 1) := by decide +kernel
theorem dX8_layLives_172 : decode cX8_layLives 172 = .ok (.getfield 57, 3) := by decide +kernel
theorem dX8_layLives_175 : decode cX8_layLives 175 = .ok (.iload_n 2, 1) := by decide +kernel
theorem dX8_layLives_176 : decode cX8_layLives 176 = .ok (.lload_n 3, 1) := by decide +kernel
theorem dX8_layLives_177 : decode cX8_layLives 177 = .ok (.lastore, 1) := by decide +kernel
theorem dX8_layLives_178 : decode cX8_layLives 178 = .ok (.aload_n 0, 1) := by decide +kernel
theorem dX8_layLives_179 : decode cX8_layLives 179 = .ok (.getfield 53, 3) := by decide +kernel
theorem dX8_layLives_182 : decode cX8_layLives 182 = .ok (.iload_n 2, 1) := by decide +kernel
theorem dX8_layLives_183 : decode cX8_layLives 183 = .ok (.lload 6, 2) := by decide +kernel
theorem dX8_layLives_185 : decode cX8_layLives 185 = .ok (.lastore, 1) := by decide +kernel
theorem dX8_layLives_186 : decode cX8_layLives 186 = .ok (.iinc 2 (-1), 3) := by decide +kernel
theorem dX8_layLives_189 : decode cX8_layLives 189 = .ok (.goto (-144), 3) := by decide +kernel
theorem dX8_layLives_192 : decode cX8_layLives 192 = .ok (.goto (-160), 3) := by decide +kernel
theorem dX8_layLives_195 : decode cX8_layLives 195 = .ok (.return_, 1) := by decide +kernel
theorem dX8_join_0 : decode cX8_join 0 = .ok (.iload_n 1, 1) := by decide +kernel
theorem dX8_join_1 : decode cX8_join 1 = .ok (.iload_n 2, 1) := by decide +kernel
theorem dX8_join_2 : decode cX8_join 2 = .ok (.if_icmp .eq 27, 3) := by decide +kernel
theorem dX8_join_5 : decode cX8_join 5 = .ok (.aload_n 0, 1) := by decide +kernel
theorem dX8_join_6 : decode cX8_join 6 = .ok (.getfield 60, 3) := by decide +kernel
theorem dX8_join_9 : decode cX8_join 9 = .ok (.iload_n 1, 1) := by decide +kernel
theorem dX8_join_10 : decode cX8_join 10 = .ok (.dup2, 1) := by decide +kernel
theorem dX8_join_11 : decode cX8_join 11 = .ok (.laload, 1) := by decide +kernel
theorem dX8_join_12 : decode cX8_join 12 = .ok (.lconst 1, 1) := by decide +kernel
theorem dX8_join_13 : decode cX8_join 13 = .ok (.iload_n 2, 1) := by decide +kernel
theorem dX8_join_14 : decode cX8_join 14 = .ok (.lshl, 1) := by decide +kernel
theorem dX8_join_15 : decode cX8_join 15 = .ok (.lor, 1) := by decide +kernel
theorem dX8_join_16 : decode cX8_join 16 = .ok (.lastore, 1) := by decide +kernel
theorem dX8_join_17 : decode cX8_join 17 = .ok (.aload_n 0, 1) := by decide +kernel
theorem dX8_join_18 : decode cX8_join 18 = .ok (.getfield 60, 3) := by decide +kernel
theorem dX8_join_21 : decode cX8_join 21 = .ok (.iload_n 2, 1) := by decide +kernel
theorem dX8_join_22 : decode cX8_join 22 = .ok (.dup2, 1) := by decide +kernel
theorem dX8_join_23 : decode cX8_join 23 = .ok (.laload, 1) := by decide +kernel
theorem dX8_join_24 : decode cX8_join 24 = .ok (.lconst 1, 1) := by decide +kernel
theorem dX8_join_25 : decode cX8_join 25 = .ok (.iload_n 1, 1) := by decide +kernel
theorem dX8_join_26 : decode cX8_join 26 = .ok (.lshl, 1) := by decide +kernel
theorem dX8_join_27 : decode cX8_join 27 = .ok (.lor, 1) := by decide +kernel
theorem dX8_join_28 : decode cX8_join 28 = .ok (.lastore, 1) := by decide +kernel
theorem dX8_join_29 : decode cX8_join 29 = .ok (.return_, 1) := by decide +kernel
theorem dX8_layEdges_0 : decode cX8_layEdges 0 = .ok (.aload_n 0, 1) := by decide +kernel
theorem dX8_layEdges_1 : decode cX8_layEdges 1 = .ok (.invokevirtual 167, 3) := by decide +kernel
theorem dX8_layEdges_4 : decode cX8_layEdges 4 = .ok (.iconst 0, 1) := by decide +kernel
theorem dX8_layEdges_5 : decode cX8_layEdges 5 = .ok (.istore_n 1, 1) := by decide +kernel
theorem dX8_layEdges_6 : decode cX8_layEdges 6 = .ok (.iload_n 1, 1) := by decide +kernel
theorem dX8_layEdges_7 : decode cX8_layEdges 7 = .ok (.bipush 64, 2) := by decide +kernel
theorem dX8_layEdges_9 : decode cX8_layEdges 9 = .ok (.if_icmp .ge 16, 3) := by decide +kernel
theorem dX8_layEdges_12 : decode cX8_layEdges 12 = .ok (.aload_n 0, 1) := by decide +kernel
theorem dX8_layEdges_13 : decode cX8_layEdges 13 = .ok (.getfield 60, 3) := by decide +kernel
theorem dX8_layEdges_16 : decode cX8_layEdges 16 = .ok (.iload_n 1, 1) := by decide +kernel
theorem dX8_layEdges_17 : decode cX8_layEdges 17 = .ok (.lconst 0, 1) := by decide +kernel
theorem dX8_layEdges_18 : decode cX8_layEdges 18 = .ok (.lastore, 1) := by decide +kernel
theorem dX8_layEdges_19 : decode cX8_layEdges 19 = .ok (.iinc 1 1, 3) := by decide +kernel
theorem dX8_layEdges_22 : decode cX8_layEdges 22 = .ok (.goto (-16), 3) := by decide +kernel
theorem dX8_layEdges_25 : decode cX8_layEdges 25 = .ok (.iconst 0, 1) := by decide +kernel
theorem dX8_layEdges_26 : decode cX8_layEdges 26 = .ok (.istore_n 1, 1) := by decide +kernel
theorem dX8_layEdges_27 : decode cX8_layEdges 27 = .ok (.iload_n 1, 1) := by decide +kernel
theorem dX8_layEdges_28 : decode cX8_layEdges 28 = .ok (.iconst 4, 1) := by decide +kernel
theorem dX8_layEdges_29 : decode cX8_layEdges 29 = .ok (.if_icmp .ge 28, 3) := by decide +kernel
theorem dX8_layEdges_32 : decode cX8_layEdges 32 = .ok (.iconst 0, 1) := by decide +kernel
theorem dX8_layEdges_33 : decode cX8_layEdges 33 = .ok (.istore_n 2, 1) := by decide +kernel
theorem dX8_layEdges_34 : decode cX8_layEdges 34 = .ok (.iload_n 2, 1) := by decide +kernel
theorem dX8_layEdges_35 : decode cX8_layEdges 35 = .ok (.iload_n 1, 1) := by decide +kernel
theorem dX8_layEdges_36 : decode cX8_layEdges 36 = .ok (.if_icmp .ge 15, 3) := by decide +kernel
theorem dX8_layEdges_39 : decode cX8_layEdges 39 = .ok (.aload_n 0, 1) := by decide +kernel
theorem dX8_layEdges_40 : decode cX8_layEdges 40 = .ok (.iload_n 1, 1) := by decide +kernel
theorem dX8_layEdges_41 : decode cX8_layEdges 41 = .ok (.iload_n 2, 1) := by decide +kernel
theorem dX8_layEdges_42 : decode cX8_layEdges 42 = .ok (.invokevirtual 170, 3) := by decide +kernel
theorem dX8_layEdges_45 : decode cX8_layEdges 45 = .ok (.iinc 2 1, 3) := by decide +kernel
theorem dX8_layEdges_48 : decode cX8_layEdges 48 = .ok (.goto (-14), 3) := by decide +kernel
theorem dX8_layEdges_51 : decode cX8_layEdges 51 = .ok (.iinc 1 1, 3) := by decide +kernel
theorem dX8_layEdges_54 : decode cX8_layEdges 54 = .ok (.goto (-27), 3) := by decide +kernel
theorem dX8_layEdges_57 : decode cX8_layEdges 57 = .ok (.iconst 0, 1) := by decide +kernel
theorem dX8_layEdges_58 : decode cX8_layEdges 58 = .ok (.istore_n 1, 1) := by decide +kernel
theorem dX8_layEdges_59 : decode cX8_layEdges 59 = .ok (.iload_n 1, 1) := by decide +kernel
theorem dX8_layEdges_60 : decode cX8_layEdges 60 = .ok (.aload_n 0, 1) := by decide +kernel
theorem dX8_layEdges_61 : decode cX8_layEdges 61 = .ok (.getfield 148, 3) := by decide +kernel
theorem dX8_layEdges_64 : decode cX8_layEdges 64 = .ok (.if_icmp .ge 89, 3) := by decide +kernel
theorem dX8_layEdges_67 : decode cX8_layEdges 67 = .ok (.iconst 0, 1) := by decide +kernel
theorem dX8_layEdges_68 : decode cX8_layEdges 68 = .ok (.istore_n 2, 1) := by decide +kernel
theorem dX8_layEdges_69 : decode cX8_layEdges 69 = .ok (.iload_n 2, 1) := by decide +kernel
theorem dX8_layEdges_70 : decode cX8_layEdges 70 = .ok (.bipush 64, 2) := by decide +kernel
theorem dX8_layEdges_72 : decode cX8_layEdges 72 = .ok (.if_icmp .ge 75, 3) := by decide +kernel
theorem dX8_layEdges_75 : decode cX8_layEdges 75 = .ok (.aload_n 0, 1) := by decide +kernel
theorem dX8_layEdges_76 : decode cX8_layEdges 76 = .ok (.getfield 29, 3) := by decide +kernel
theorem dX8_layEdges_79 : decode cX8_layEdges 79 = .ok (.iload_n 1, 1) := by decide +kernel
theorem dX8_layEdges_80 : decode cX8_layEdges 80 = .ok (.iaload, 1) := by decide +kernel
theorem dX8_layEdges_81 : decode cX8_layEdges 81 = .ok (.invokestatic 151, 3) := by decide +kernel
theorem dX8_layEdges_84 : decode cX8_layEdges 84 = .ok (.ifCond .eq 63, 3) := by decide +kernel
theorem dX8_layEdges_87 : decode cX8_layEdges 87 = .ok (.aload_n 0, 1) := by decide +kernel
theorem dX8_layEdges_88 : decode cX8_layEdges 88 = .ok (.getfield 29, 3) := by decide +kernel
theorem dX8_layEdges_91 : decode cX8_layEdges 91 = .ok (.iload_n 1, 1) := by decide +kernel
theorem dX8_layEdges_92 : decode cX8_layEdges 92 = .ok (.iaload, 1) := by decide +kernel
theorem dX8_layEdges_93 : decode cX8_layEdges 93 = .ok (.iconst 1, 1) := by decide +kernel
theorem dX8_layEdges_94 : decode cX8_layEdges 94 = .ok (.if_icmp .ne 17, 3) := by decide +kernel
theorem dX8_layEdges_97 : decode cX8_layEdges 97 = .ok (.iload_n 2, 1) := by decide +kernel
theorem dX8_layEdges_98 : decode cX8_layEdges 98 = .ok (.aload_n 0, 1) := by decide +kernel
theorem dX8_layEdges_99 : decode cX8_layEdges 99 = .ok (.getfield 35, 3) := by decide +kernel
theorem dX8_layEdges_102 : decode cX8_layEdges 102 = .ok (.iload_n 1, 1) := by decide +kernel
theorem dX8_layEdges_103 : decode cX8_layEdges 103 = .ok (.iaload, 1) := by decide +kernel
theorem dX8_layEdges_104 : decode cX8_layEdges 104 = .ok (.if_icmp .ne 7, 3) := by decide +kernel
theorem dX8_layEdges_107 : decode cX8_layEdges 107 = .ok (.iconst 1, 1) := by decide +kernel
theorem dX8_layEdges_108 : decode cX8_layEdges 108 = .ok (.goto 4, 3) := by decide +kernel
theorem dX8_layEdges_111 : decode cX8_layEdges 111 = .ok (.iconst 0, 1) := by decide +kernel
theorem dX8_layEdges_112 : decode cX8_layEdges 112 = .ok (.istore_n 3, 1) := by decide +kernel
theorem dX8_layEdges_113 : decode cX8_layEdges 113 = .ok (.aload_n 0, 1) := by decide +kernel
theorem dX8_layEdges_114 : decode cX8_layEdges 114 = .ok (.getfield 57, 3) := by decide +kernel
theorem dX8_layEdges_117 : decode cX8_layEdges 117 = .ok (.iload_n 1, 1) := by decide +kernel
theorem dX8_layEdges_118 : decode cX8_layEdges 118 = .ok (.laload, 1) := by decide +kernel
theorem dX8_layEdges_119 : decode cX8_layEdges 119 = .ok (.iload_n 2, 1) := by decide +kernel
theorem dX8_layEdges_120 : decode cX8_layEdges 120 = .ok (.invokestatic 109, 3) := by decide +kernel
theorem dX8_layEdges_123 : decode cX8_layEdges 123 = .ok (.ifCond .eq 18, 3) := by decide +kernel
theorem dX8_layEdges_126 : decode cX8_layEdges 126 = .ok (.iload_n 3, 1) := by decide +kernel
theorem dX8_layEdges_127 : decode cX8_layEdges 127 = .ok (.ifCond .ne 14, 3) := by decide +kernel
theorem dX8_layEdges_130 : decode cX8_layEdges 130 = .ok (.aload_n 0, 1) := by decide +kernel
theorem dX8_layEdges_131 : decode cX8_layEdges 131 = .ok (.aload_n 0, 1) := by decide +kernel
theorem dX8_layEdges_132 : decode cX8_layEdges 132 = .ok (.getfield 32, 3) := by decide +kernel
theorem dX8_layEdges_135 : decode cX8_layEdges 135 = .ok (.iload_n 1, 1) := by decide +kernel
theorem dX8_layEdges_136 : decode cX8_layEdges 136 = .ok (.iaload, 1) := by decide +kernel
theorem dX8_layEdges_137 : decode cX8_layEdges 137 = .ok (.iload_n 2, 1) := by decide +kernel
theorem dX8_layEdges_138 : decode cX8_layEdges 138 = .ok (.invokevirtual 170, 3) := by decide +kernel
theorem dX8_layEdges_141 : decode cX8_layEdges 141 = .ok (.iinc 2 1, 3) := by decide +kernel
theorem dX8_layEdges_144 : decode cX8_layEdges 144 = .ok (.goto (-75), 3) := by decide +kernel
theorem dX8_layEdges_147 : decode cX8_layEdges 147 = .ok (.iinc 1 1, 3) := by decide +kernel
theorem dX8_layEdges_150 : decode cX8_layEdges 150 = .ok (.goto (-91), 3) := by decide +kernel
theorem dX8_layEdges_153 : decode cX8_layEdges 153 = .ok (.return_, 1) := by decide +kernel
theorem dX8_live_0 : decode cX8_live 0 = .ok (.iload_n 1, 1) := by decide +kernel
theorem dX8_live_1 : decode cX8_live 1 = .ok (.iconst 0, 1) := by decide +kernel
theorem dX8_live_2 : decode cX8_live 2 = .ok (.aload_n 0, 1) := by decide +kernel
theorem dX8_live_3 : decode cX8_live 3 = .ok (.getfield 141, 3) := by decide +kernel
theorem dX8_live_6 : decode cX8_live 6 = .ok (.iconst 1, 1) := by decide +kernel
theorem dX8_live_7 : decode cX8_live 7 = .ok (.isub, 1) := by decide +kernel
theorem dX8_live_8 : decode cX8_live 8 = .ok (.invokestatic 113, 3) := by decide +kernel
theorem dX8_live_11 : decode cX8_live 11 = .ok (.ifCond .ne 5, 3) := by decide +kernel
theorem dX8_live_14 : decode cX8_live 14 = .ok (.iconst (-1), 1) := by decide +kernel
theorem dX8_live_15 : decode cX8_live 15 = .ok (.ireturn, 1) := by decide +kernel
theorem dX8_live_16 : decode cX8_live 16 = .ok (.aload_n 0, 1) := by decide +kernel
theorem dX8_live_17 : decode cX8_live 17 = .ok (.invokevirtual 174, 3) := by decide +kernel
theorem dX8_live_20 : decode cX8_live 20 = .ok (.aload_n 0, 1) := by decide +kernel
theorem dX8_live_21 : decode cX8_live 21 = .ok (.invokevirtual 167, 3) := by decide +kernel
theorem dX8_live_24 : decode cX8_live 24 = .ok (.aload_n 0, 1) := by decide +kernel
theorem dX8_live_25 : decode cX8_live 25 = .ok (.getfield 57, 3) := by decide +kernel
theorem dX8_live_28 : decode cX8_live 28 = .ok (.iload_n 1, 1) := by decide +kernel
theorem dX8_live_29 : decode cX8_live 29 = .ok (.laload, 1) := by decide +kernel
theorem dX8_live_30 : decode cX8_live 30 = .ok (.l2i, 1) := by decide +kernel
theorem dX8_live_31 : decode cX8_live 31 = .ok (.ireturn, 1) := by decide +kernel
theorem dX8_edges_0 : decode cX8_edges 0 = .ok (.iload_n 1, 1) := by decide +kernel
theorem dX8_edges_1 : decode cX8_edges 1 = .ok (.iconst 0, 1) := by decide +kernel
theorem dX8_edges_2 : decode cX8_edges 2 = .ok (.bipush 15, 2) := by decide +kernel
theorem dX8_edges_4 : decode cX8_edges 4 = .ok (.invokestatic 113, 3) := by decide +kernel
theorem dX8_edges_7 : decode cX8_edges 7 = .ok (.ifCond .ne 5, 3) := by decide +kernel
theorem dX8_edges_10 : decode cX8_edges 10 = .ok (.iconst (-1), 1) := by decide +kernel
theorem dX8_edges_11 : decode cX8_edges 11 = .ok (.ireturn, 1) := by decide +kernel
theorem dX8_edges_12 : decode cX8_edges 12 = .ok (.aload_n 0, 1) := by decide +kernel
theorem dX8_edges_13 : decode cX8_edges 13 = .ok (.invokevirtual 174, 3) := by decide +kernel
theorem dX8_edges_16 : decode cX8_edges 16 = .ok (.aload_n 0, 1) := by decide +kernel
theorem dX8_edges_17 : decode cX8_edges 17 = .ok (.invokevirtual 177, 3) := by decide +kernel
theorem dX8_edges_20 : decode cX8_edges 20 = .ok (.aload_n 0, 1) := by decide +kernel
theorem dX8_edges_21 : decode cX8_edges 21 = .ok (.getfield 60, 3) := by decide +kernel
theorem dX8_edges_24 : decode cX8_edges 24 = .ok (.iload_n 1, 1) := by decide +kernel
theorem dX8_edges_25 : decode cX8_edges 25 = .ok (.laload, 1) := by decide +kernel
theorem dX8_edges_26 : decode cX8_edges 26 = .ok (.l2i, 1) := by decide +kernel
theorem dX8_edges_27 : decode cX8_edges 27 = .ok (.ireturn, 1) := by decide +kernel
theorem dX8_isLooped_0 : decode cX8_isLooped 0 = .ok (.iload_n 1, 1) := by decide +kernel
theorem dX8_isLooped_1 : decode cX8_isLooped 1 = .ok (.istore_n 2, 1) := by decide +kernel
theorem dX8_isLooped_2 : decode cX8_isLooped 2 = .ok (.iload_n 2, 1) := by decide +kernel
theorem dX8_isLooped_3 : decode cX8_isLooped 3 = .ok (.aload_n 0, 1) := by decide +kernel
theorem dX8_isLooped_4 : decode cX8_isLooped 4 = .ok (.getfield 148, 3) := by decide +kernel
theorem dX8_isLooped_7 : decode cX8_isLooped 7 = .ok (.if_icmp .ge 52, 3) := by decide +kernel
theorem dX8_isLooped_10 : decode cX8_isLooped 10 = .ok (.aload_n 0, 1) := by decide +kernel
theorem dX8_isLooped_11 : decode cX8_isLooped 11 = .ok (.getfield 29, 3) := by decide +kernel
theorem dX8_isLooped_14 : decode cX8_isLooped 14 = .ok (.iload_n 2, 1) := by decide +kernel
theorem dX8_isLooped_15 : decode cX8_isLooped 15 = .ok (.iaload, 1) := by decide +kernel
theorem dX8_isLooped_16 : decode cX8_isLooped 16 = .ok (.bipush 6, 2) := by decide +kernel
theorem dX8_isLooped_18 : decode cX8_isLooped 18 = .ok (.if_icmp .ne 16, 3) := by decide +kernel
theorem dX8_isLooped_21 : decode cX8_isLooped 21 = .ok (.aload_n 0, 1) := by decide +kernel
theorem dX8_isLooped_22 : decode cX8_isLooped 22 = .ok (.aload_n 0, 1) := by decide +kernel
theorem dX8_isLooped_23 : decode cX8_isLooped 23 = .ok (.getfield 35, 3) := by decide +kernel
theorem dX8_isLooped_26 : decode cX8_isLooped 26 = .ok (.iload_n 2, 1) := by decide +kernel
theorem dX8_isLooped_27 : decode cX8_isLooped 27 = .ok (.iaload, 1) := by decide +kernel
theorem dX8_isLooped_28 : decode cX8_isLooped 28 = .ok (.invokevirtual 155, 3) := by decide +kernel
theorem dX8_isLooped_31 : decode cX8_isLooped 31 = .ok (.goto 5, 3) := by decide +kernel
theorem dX8_isLooped_34 : decode cX8_isLooped 34 = .ok (.bipush (-6), 2) := by decide +kernel
theorem dX8_isLooped_36 : decode cX8_isLooped 36 = .ok (.istore_n 3, 1) := by decide +kernel
theorem dX8_isLooped_37 : decode cX8_isLooped 37 = .ok (.iload_n 3, 1) := by decide +kernel
theorem dX8_isLooped_38 : decode cX8_isLooped 38 = .ok (.ifCond .lt 15, 3) := by decide +kernel
theorem dX8_isLooped_41 : decode cX8_isLooped 41 = .ok (.iload_n 3, 1) := by decide +kernel
theorem dX8_isLooped_42 : decode cX8_isLooped 42 = .ok (.iload_n 1, 1) := by decide +kernel
theorem dX8_isLooped_43 : decode cX8_isLooped 43 = .ok (.if_icmp .gt 10, 3) := by decide +kernel
theorem dX8_isLooped_46 : decode cX8_isLooped 46 = .ok (.iload_n 3, 1) := by decide +kernel
theorem dX8_isLooped_47 : decode cX8_isLooped 47 = .ok (.iload_n 2, 1) := by decide +kernel
theorem dX8_isLooped_48 : decode cX8_isLooped 48 = .ok (.if_icmp .ge 5, 3) := by decide +kernel
theorem dX8_isLooped_51 : decode cX8_isLooped 51 = .ok (.iconst 1, 1) := by decide +kernel
theorem dX8_isLooped_52 : decode cX8_isLooped 52 = .ok (.ireturn, 1) := by decide +kernel
theorem dX8_isLooped_53 : decode cX8_isLooped 53 = .ok (.iinc 2 1, 3) := by decide +kernel
theorem dX8_isLooped_56 : decode cX8_isLooped 56 = .ok (.goto (-54), 3) := by decide +kernel
theorem dX8_isLooped_59 : decode cX8_isLooped 59 = .ok (.iconst 0, 1) := by decide +kernel
theorem dX8_isLooped_60 : decode cX8_isLooped 60 = .ok (.ireturn, 1) := by decide +kernel
theorem dX8_costOf_0 : decode cX8_costOf 0 = .ok (.iload_n 1, 1) := by decide +kernel
theorem dX8_costOf_1 : decode cX8_costOf 1 = .ok (.bipush 15, 2) := by decide +kernel
theorem dX8_costOf_3 : decode cX8_costOf 3 = .ok (.if_icmp .le 7, 3) := by decide +kernel
theorem dX8_costOf_6 : decode cX8_costOf 6 = .ok (.sipush 10000, 3) := by decide +kernel
theorem dX8_costOf_9 : decode cX8_costOf 9 = .ok (.ireturn, 1) := by decide +kernel
theorem dX8_costOf_10 : decode cX8_costOf 10 = .ok (.iconst 0, 1) := by decide +kernel
theorem dX8_costOf_11 : decode cX8_costOf 11 = .ok (.istore_n 2, 1) := by decide +kernel
theorem dX8_costOf_12 : decode cX8_costOf 12 = .ok (.iconst 0, 1) := by decide +kernel
theorem dX8_costOf_13 : decode cX8_costOf 13 = .ok (.istore_n 3, 1) := by decide +kernel
theorem dX8_costOf_14 : decode cX8_costOf 14 = .ok (.iload_n 3, 1) := by decide +kernel
theorem dX8_costOf_15 : decode cX8_costOf 15 = .ok (.aload_n 0, 1) := by decide +kernel
theorem dX8_costOf_16 : decode cX8_costOf 16 = .ok (.getfield 148, 3) := by decide +kernel
theorem dX8_costOf_19 : decode cX8_costOf 19 = .ok (.if_icmp .ge 202, 3) := by decide +kernel
theorem dX8_costOf_22 : decode cX8_costOf 22 = .ok (.aload_n 0, 1) := by decide +kernel
theorem dX8_costOf_23 : decode cX8_costOf 23 = .ok (.iload_n 3, 1) := by decide +kernel
theorem dX8_costOf_24 : decode cX8_costOf 24 = .ok (.invokevirtual 158, 3) := by decide +kernel
theorem dX8_costOf_27 : decode cX8_costOf 27 = .ok (.lconst 1, 1) := by decide +kernel
theorem dX8_costOf_28 : decode cX8_costOf 28 = .ok (.iload_n 1, 1) := by decide +kernel
theorem dX8_costOf_29 : decode cX8_costOf 29 = .ok (.lshl, 1) := by decide +kernel
theorem dX8_costOf_30 : decode cX8_costOf 30 = .ok (.land, 1) := by decide +kernel
theorem dX8_costOf_31 : decode cX8_costOf 31 = .ok (.lconst 0, 1) := by decide +kernel
theorem dX8_costOf_32 : decode cX8_costOf 32 = .ok (.lcmp, 1) := by decide +kernel
theorem dX8_costOf_33 : decode cX8_costOf 33 = .ok (.ifCond .eq 7, 3) := by decide +kernel
theorem dX8_costOf_36 : decode cX8_costOf 36 = .ok (.iconst 1, 1) := by decide +kernel
theorem dX8_costOf_37 : decode cX8_costOf 37 = .ok (.goto 4, 3) := by decide +kernel
theorem dX8_costOf_40 : decode cX8_costOf 40 = .ok (.iconst 0, 1) := by decide +kernel
theorem dX8_costOf_41 : decode cX8_costOf 41 = .ok (.istore 4, 2) := by decide +kernel
theorem dX8_costOf_43 : decode cX8_costOf 43 = .ok (.aload_n 0, 1) := by decide +kernel
theorem dX8_costOf_44 : decode cX8_costOf 44 = .ok (.getfield 29, 3) := by decide +kernel
theorem dX8_costOf_47 : decode cX8_costOf 47 = .ok (.iload_n 3, 1) := by decide +kernel
theorem dX8_costOf_48 : decode cX8_costOf 48 = .ok (.iaload, 1) := by decide +kernel
theorem dX8_costOf_49 : decode cX8_costOf 49 = .ok (.tableswitch 136 1 8 #[47, 70, 47, 113, 136, 113, 136, 113], 47) := by decide +kernel
theorem dX8_costOf_96 : decode cX8_costOf 96 = .ok (.iload 4, 2) := by decide +kernel
theorem dX8_costOf_98 : decode cX8_costOf 98 = .ok (.aload_n 0, 1) := by decide +kernel
theorem dX8_costOf_99 : decode cX8_costOf 99 = .ok (.getfield 35, 3) := by decide +kernel
theorem dX8_costOf_102 : decode cX8_costOf 102 = .ok (.iload_n 3, 1) := by decide +kernel
theorem dX8_costOf_103 : decode cX8_costOf 103 = .ok (.iaload, 1) := by decide +kernel
theorem dX8_costOf_104 : decode cX8_costOf 104 = .ok (.iload_n 1, 1) := by decide +kernel
theorem dX8_costOf_105 : decode cX8_costOf 105 = .ok (.if_icmp .ne 7, 3) := by decide +kernel
theorem dX8_costOf_108 : decode cX8_costOf 108 = .ok (.iconst 1, 1) := by decide +kernel
theorem dX8_costOf_109 : decode cX8_costOf 109 = .ok (.goto 4, 3) := by decide +kernel
theorem dX8_costOf_112 : decode cX8_costOf 112 = .ok (.iconst 0, 1) := by decide +kernel
theorem dX8_costOf_113 : decode cX8_costOf 113 = .ok (.iadd, 1) := by decide +kernel
theorem dX8_costOf_114 : decode cX8_costOf 114 = .ok (.istore 4, 2) := by decide +kernel
theorem dX8_costOf_116 : decode cX8_costOf 116 = .ok (.goto 69, 3) := by decide +kernel
theorem dX8_costOf_119 : decode cX8_costOf 119 = .ok (.iload 4, 2) := by decide +kernel
theorem dX8_costOf_121 : decode cX8_costOf 121 = .ok (.aload_n 0, 1) := by decide +kernel
theorem dX8_costOf_122 : decode cX8_costOf 122 = .ok (.getfield 35, 3) := by decide +kernel
theorem dX8_costOf_125 : decode cX8_costOf 125 = .ok (.iload_n 3, 1) := by decide +kernel
theorem dX8_costOf_126 : decode cX8_costOf 126 = .ok (.iaload, 1) := by decide +kernel
theorem dX8_costOf_127 : decode cX8_costOf 127 = .ok (.iload_n 1, 1) := by decide +kernel
theorem dX8_costOf_128 : decode cX8_costOf 128 = .ok (.if_icmp .ne 7, 3) := by decide +kernel
theorem dX8_costOf_131 : decode cX8_costOf 131 = .ok (.iconst 1, 1) := by decide +kernel
theorem dX8_costOf_132 : decode cX8_costOf 132 = .ok (.goto 4, 3) := by decide +kernel
theorem dX8_costOf_135 : decode cX8_costOf 135 = .ok (.iconst 0, 1) := by decide +kernel
theorem dX8_costOf_136 : decode cX8_costOf 136 = .ok (.iadd, 1) := by decide +kernel
theorem dX8_costOf_137 : decode cX8_costOf 137 = .ok (.istore 4, 2) := by decide +kernel
theorem dX8_costOf_139 : decode cX8_costOf 139 = .ok (.iload 4, 2) := by decide +kernel
theorem dX8_costOf_141 : decode cX8_costOf 141 = .ok (.aload_n 0, 1) := by decide +kernel
theorem dX8_costOf_142 : decode cX8_costOf 142 = .ok (.getfield 38, 3) := by decide +kernel
theorem dX8_costOf_145 : decode cX8_costOf 145 = .ok (.iload_n 3, 1) := by decide +kernel
theorem dX8_costOf_146 : decode cX8_costOf 146 = .ok (.iaload, 1) := by decide +kernel
theorem dX8_costOf_147 : decode cX8_costOf 147 = .ok (.iload_n 1, 1) := by decide +kernel
theorem dX8_costOf_148 : decode cX8_costOf 148 = .ok (.if_icmp .ne 7, 3) := by decide +kernel
theorem dX8_costOf_151 : decode cX8_costOf 151 = .ok (.iconst 1, 1) := by decide +kernel
theorem dX8_costOf_152 : decode cX8_costOf 152 = .ok (.goto 4, 3) := by decide +kernel
theorem dX8_costOf_155 : decode cX8_costOf 155 = .ok (.iconst 0, 1) := by decide +kernel
theorem dX8_costOf_156 : decode cX8_costOf 156 = .ok (.iadd, 1) := by decide +kernel
theorem dX8_costOf_157 : decode cX8_costOf 157 = .ok (.istore 4, 2) := by decide +kernel
theorem dX8_costOf_159 : decode cX8_costOf 159 = .ok (.goto 26, 3) := by decide +kernel
theorem dX8_costOf_162 : decode cX8_costOf 162 = .ok (.iload 4, 2) := by decide +kernel
theorem dX8_costOf_164 : decode cX8_costOf 164 = .ok (.aload_n 0, 1) := by decide +kernel
theorem dX8_costOf_165 : decode cX8_costOf 165 = .ok (.getfield 32, 3) := by decide +kernel
theorem dX8_costOf_168 : decode cX8_costOf 168 = .ok (.iload_n 3, 1) := by decide +kernel
theorem dX8_costOf_169 : decode cX8_costOf 169 = .ok (.iaload, 1) := by decide +kernel
theorem dX8_costOf_170 : decode cX8_costOf 170 = .ok (.iload_n 1, 1) := by decide +kernel
theorem dX8_costOf_171 : decode cX8_costOf 171 = .ok (.if_icmp .ne 7, 3) := by decide +kernel
theorem dX8_costOf_174 : decode cX8_costOf 174 = .ok (.iconst 1, 1) := by decide +kernel
theorem dX8_costOf_175 : decode cX8_costOf 175 = .ok (.goto 4, 3) := by decide +kernel
theorem dX8_costOf_178 : decode cX8_costOf 178 = .ok (.iconst 0, 1) := by decide +kernel
theorem dX8_costOf_179 : decode cX8_costOf 179 = .ok (.iadd, 1) := by decide +kernel
theorem dX8_costOf_180 : decode cX8_costOf 180 = .ok (.istore 4, 2) := by decide +kernel
theorem dX8_costOf_182 : decode cX8_costOf 182 = .ok (.goto 3, 3) := by decide +kernel
theorem dX8_costOf_185 : decode cX8_costOf 185 = .ok (.iload_n 2, 1) := by decide +kernel
theorem dX8_costOf_186 : decode cX8_costOf 186 = .ok (.iload 4, 2) := by decide +kernel
theorem dX8_costOf_188 : decode cX8_costOf 188 = .ok (.ifCond .ne 7, 3) := by decide +kernel
theorem dX8_costOf_191 : decode cX8_costOf 191 = .ok (.iconst 0, 1) := by decide +kernel
theorem dX8_costOf_192 : decode cX8_costOf 192 = .ok (.goto 21, 3) := by decide +kernel
theorem dX8_costOf_195 : decode cX8_costOf 195 = .ok (.aload_n 0, 1) := by decide +kernel
theorem dX8_costOf_196 : decode cX8_costOf 196 = .ok (.iload_n 3, 1) := by decide +kernel
theorem dX8_costOf_197 : decode cX8_costOf 197 = .ok (.invokevirtual 180, 3) := by decide +kernel
theorem dX8_costOf_200 : decode cX8_costOf 200 = .ok (.ifCond .eq 11, 3) := by decide +kernel
theorem dX8_costOf_203 : decode cX8_costOf 203 = .ok (.bipush 10, 2) := by decide +kernel
theorem dX8_costOf_205 : decode cX8_costOf 205 = .ok (.iload 4, 2) := by decide +kernel
theorem dX8_costOf_207 : decode cX8_costOf 207 = .ok (.imul, 1) := by decide +kernel
theorem dX8_costOf_208 : decode cX8_costOf 208 = .ok (.goto 5, 3) := by decide +kernel
theorem dX8_costOf_211 : decode cX8_costOf 211 = .ok (.iload 4, 2) := by decide +kernel
theorem dX8_costOf_213 : decode cX8_costOf 213 = .ok (.iadd, 1) := by decide +kernel
theorem dX8_costOf_214 : decode cX8_costOf 214 = .ok (.istore_n 2, 1) := by decide +kernel
theorem dX8_costOf_215 : decode cX8_costOf 215 = .ok (.iinc 3 1, 3) := by decide +kernel
theorem dX8_costOf_218 : decode cX8_costOf 218 = .ok (.goto (-204), 3) := by decide +kernel
theorem dX8_costOf_221 : decode cX8_costOf 221 = .ok (.iload_n 2, 1) := by decide +kernel
theorem dX8_costOf_222 : decode cX8_costOf 222 = .ok (.ireturn, 1) := by decide +kernel
theorem dX8_single_0 : decode cX8_single 0 = .ok (.iload_n 0, 1) := by decide +kernel
theorem dX8_single_1 : decode cX8_single 1 = .ok (.ifCond .ne 5, 3) := by decide +kernel
theorem dX8_single_4 : decode cX8_single 4 = .ok (.iconst 0, 1) := by decide +kernel
theorem dX8_single_5 : decode cX8_single 5 = .ok (.ireturn, 1) := by decide +kernel
theorem dX8_single_6 : decode cX8_single 6 = .ok (.iload_n 0, 1) := by decide +kernel
theorem dX8_single_7 : decode cX8_single 7 = .ok (.iload_n 1, 1) := by decide +kernel
theorem dX8_single_8 : decode cX8_single 8 = .ok (.idiv, 1) := by decide +kernel
theorem dX8_single_9 : decode cX8_single 9 = .ok (.i2l, 1) := by decide +kernel
theorem dX8_single_10 : decode cX8_single 10 = .ok (.lstore_n 2, 1) := by decide +kernel
theorem dX8_single_11 : decode cX8_single 11 = .ok (.iload_n 0, 1) := by decide +kernel
theorem dX8_single_12 : decode cX8_single 12 = .ok (.iload_n 1, 1) := by decide +kernel
theorem dX8_single_13 : decode cX8_single 13 = .ok (.irem, 1) := by decide +kernel
theorem dX8_single_14 : decode cX8_single 14 = .ok (.i2l, 1) := by decide +kernel
theorem dX8_single_15 : decode cX8_single 15 = .ok (.lstore 4, 2) := by decide +kernel
theorem dX8_single_17 : decode cX8_single 17 = .ok (.iconst 0, 1) := by decide +kernel
theorem dX8_single_18 : decode cX8_single 18 = .ok (.istore 6, 2) := by decide +kernel
theorem dX8_single_20 : decode cX8_single 20 = .ok (.lload_n 2, 1) := by decide +kernel
theorem dX8_single_21 : decode cX8_single 21 = .ok (.ldc2_w 183, 3) := by decide +kernel
theorem dX8_single_24 : decode cX8_single 24 = .ok (.lcmp, 1) := by decide +kernel
theorem dX8_single_25 : decode cX8_single 25 = .ok (.ifCond .ge 36, 3) := by decide +kernel
theorem dX8_single_28 : decode cX8_single 28 = .ok (.lload 4, 2) := by decide +kernel
theorem dX8_single_30 : decode cX8_single 30 = .ok (.ldc2_w 185, 3) := by decide +kernel
theorem dX8_single_33 : decode cX8_single 33 = .ok (.lmul, 1) := by decide +kernel
theorem dX8_single_34 : decode cX8_single 34 = .ok (.lstore 4, 2) := by decide +kernel
theorem dX8_single_36 : decode cX8_single 36 = .ok (.ldc2_w 185, 3) := by decide +kernel
theorem dX8_single_39 : decode cX8_single 39 = .ok (.lload_n 2, 1) := by decide +kernel
theorem dX8_single_40 : decode cX8_single 40 = .ok (.lmul, 1) := by decide +kernel
theorem dX8_single_41 : decode cX8_single 41 = .ok (.lload 4, 2) := by decide +kernel
theorem dX8_single_43 : decode cX8_single 43 = .ok (.iload_n 1, 1) := by decide +kernel
theorem dX8_single_44 : decode cX8_single 44 = .ok (.i2l, 1) := by decide +kernel
theorem dX8_single_45 : decode cX8_single 45 = .ok (.ldiv, 1) := by decide +kernel
theorem dX8_single_46 : decode cX8_single 46 = .ok (.ladd, 1) := by decide +kernel
theorem dX8_single_47 : decode cX8_single 47 = .ok (.lstore_n 2, 1) := by decide +kernel
theorem dX8_single_48 : decode cX8_single 48 = .ok (.lload 4, 2) := by decide +kernel
theorem dX8_single_50 : decode cX8_single 50 = .ok (.iload_n 1, 1) := by decide +kernel
theorem dX8_single_51 : decode cX8_single 51 = .ok (.i2l, 1) := by decide +kernel
theorem dX8_single_52 : decode cX8_single 52 = .ok (.lrem, 1) := by decide +kernel
theorem dX8_single_53 : decode cX8_single 53 = .ok (.lstore 4, 2) := by decide +kernel
theorem dX8_single_55 : decode cX8_single 55 = .ok (.iinc 6 (-1), 3) := by decide +kernel
theorem dX8_single_58 : decode cX8_single 58 = .ok (.goto (-38), 3) := by decide +kernel
theorem dX8_single_61 : decode cX8_single 61 = .ok (.ldc2_w 185, 3) := by decide +kernel
theorem dX8_single_64 : decode cX8_single 64 = .ok (.lload 4, 2) := by decide +kernel
theorem dX8_single_66 : decode cX8_single 66 = .ok (.lmul, 1) := by decide +kernel
theorem dX8_single_67 : decode cX8_single 67 = .ok (.iload_n 1, 1) := by decide +kernel
theorem dX8_single_68 : decode cX8_single 68 = .ok (.i2l, 1) := by decide +kernel
theorem dX8_single_69 : decode cX8_single 69 = .ok (.lcmp, 1) := by decide +kernel
theorem dX8_single_70 : decode cX8_single 70 = .ok (.ifCond .gt 25, 3) := by decide +kernel
theorem dX8_single_73 : decode cX8_single 73 = .ok (.ldc2_w 185, 3) := by decide +kernel
theorem dX8_single_76 : decode cX8_single 76 = .ok (.lload 4, 2) := by decide +kernel
theorem dX8_single_78 : decode cX8_single 78 = .ok (.lmul, 1) := by decide +kernel
theorem dX8_single_79 : decode cX8_single 79 = .ok (.iload_n 1, 1) := by decide +kernel
theorem dX8_single_80 : decode cX8_single 80 = .ok (.i2l, 1) := by decide +kernel
theorem dX8_single_81 : decode cX8_single 81 = .ok (.lcmp, 1) := by decide +kernel
theorem dX8_single_82 : decode cX8_single 82 = .ok (.ifCond .ne 17, 3) := by decide +kernel
theorem dX8_single_85 : decode cX8_single 85 = .ok (.lload_n 2, 1) := by decide +kernel
theorem dX8_single_86 : decode cX8_single 86 = .ok (.ldc2_w 185, 3) := by decide +kernel
theorem dX8_single_89 : decode cX8_single 89 = .ok (.lrem, 1) := by decide +kernel
theorem dX8_single_90 : decode cX8_single 90 = .ok (.lconst 1, 1) := by decide +kernel
theorem dX8_single_91 : decode cX8_single 91 = .ok (.lcmp, 1) := by decide +kernel
theorem dX8_single_92 : decode cX8_single 92 = .ok (.ifCond .ne 7, 3) := by decide +kernel
theorem dX8_single_95 : decode cX8_single 95 = .ok (.lload_n 2, 1) := by decide +kernel
theorem dX8_single_96 : decode cX8_single 96 = .ok (.lconst 1, 1) := by decide +kernel
theorem dX8_single_97 : decode cX8_single 97 = .ok (.ladd, 1) := by decide +kernel
theorem dX8_single_98 : decode cX8_single 98 = .ok (.lstore_n 2, 1) := by decide +kernel
theorem dX8_single_99 : decode cX8_single 99 = .ok (.lload_n 2, 1) := by decide +kernel
theorem dX8_single_100 : decode cX8_single 100 = .ok (.ldc2_w 187, 3) := by decide +kernel
theorem dX8_single_103 : decode cX8_single 103 = .ok (.lcmp, 1) := by decide +kernel
theorem dX8_single_104 : decode cX8_single 104 = .ok (.ifCond .ne 12, 3) := by decide +kernel
theorem dX8_single_107 : decode cX8_single 107 = .ok (.lload_n 2, 1) := by decide +kernel
theorem dX8_single_108 : decode cX8_single 108 = .ok (.ldc2_w 185, 3) := by decide +kernel
theorem dX8_single_111 : decode cX8_single 111 = .ok (.ldiv, 1) := by decide +kernel
theorem dX8_single_112 : decode cX8_single 112 = .ok (.lstore_n 2, 1) := by decide +kernel
theorem dX8_single_113 : decode cX8_single 113 = .ok (.iinc 6 1, 3) := by decide +kernel
theorem dX8_single_116 : decode cX8_single 116 = .ok (.iload 6, 2) := by decide +kernel
theorem dX8_single_118 : decode cX8_single 118 = .ok (.sipush 150, 3) := by decide +kernel
theorem dX8_single_121 : decode cX8_single 121 = .ok (.iadd, 1) := by decide +kernel
theorem dX8_single_122 : decode cX8_single 122 = .ok (.ldc 189, 2) := by decide +kernel
theorem dX8_single_124 : decode cX8_single 124 = .ok (.imul, 1) := by decide +kernel
theorem dX8_single_125 : decode cX8_single 125 = .ok (.lload_n 2, 1) := by decide +kernel
theorem dX8_single_126 : decode cX8_single 126 = .ok (.l2i, 1) := by decide +kernel
theorem dX8_single_127 : decode cX8_single 127 = .ok (.iadd, 1) := by decide +kernel
theorem dX8_single_128 : decode cX8_single 128 = .ok (.ldc 189, 2) := by decide +kernel
theorem dX8_single_130 : decode cX8_single 130 = .ok (.isub, 1) := by decide +kernel
theorem dX8_single_131 : decode cX8_single 131 = .ok (.ireturn, 1) := by decide +kernel
theorem dX8_weigh_0 : decode cX8_weigh 0 = .ok (.iload_n 2, 1) := by decide +kernel
theorem dX8_weigh_1 : decode cX8_weigh 1 = .ok (.ifCond .ne 7, 3) := by decide +kernel
theorem dX8_weigh_4 : decode cX8_weigh 4 = .ok (.iconst 1, 1) := by decide +kernel
theorem dX8_weigh_5 : decode cX8_weigh 5 = .ok (.goto 4, 3) := by decide +kernel
theorem dX8_weigh_8 : decode cX8_weigh 8 = .ok (.iload_n 2, 1) := by decide +kernel
theorem dX8_weigh_9 : decode cX8_weigh 9 = .ok (.istore_n 3, 1) := by decide +kernel
theorem dX8_weigh_10 : decode cX8_weigh 10 = .ok (.aload_n 0, 1) := by decide +kernel
theorem dX8_weigh_11 : decode cX8_weigh 11 = .ok (.getfield 117, 3) := by decide +kernel
theorem dX8_weigh_14 : decode cX8_weigh 14 = .ok (.ifCond .ne 11, 3) := by decide +kernel
theorem dX8_weigh_17 : decode cX8_weigh 17 = .ok (.iload_n 1, 1) := by decide +kernel
theorem dX8_weigh_18 : decode cX8_weigh 18 = .ok (.iload_n 3, 1) := by decide +kernel
theorem dX8_weigh_19 : decode cX8_weigh 19 = .ok (.invokestatic 190, 3) := by decide +kernel
theorem dX8_weigh_22 : decode cX8_weigh 22 = .ok (.goto 24, 3) := by decide +kernel
theorem dX8_weigh_25 : decode cX8_weigh 25 = .ok (.aload_n 0, 1) := by decide +kernel
theorem dX8_weigh_26 : decode cX8_weigh 26 = .ok (.getfield 117, 3) := by decide +kernel
theorem dX8_weigh_29 : decode cX8_weigh 29 = .ok (.iconst 1, 1) := by decide +kernel
theorem dX8_weigh_30 : decode cX8_weigh 30 = .ok (.if_icmp .ne 11, 3) := by decide +kernel
theorem dX8_weigh_33 : decode cX8_weigh 33 = .ok (.iload_n 1, 1) := by decide +kernel
theorem dX8_weigh_34 : decode cX8_weigh 34 = .ok (.iconst 1, 1) := by decide +kernel
theorem dX8_weigh_35 : decode cX8_weigh 35 = .ok (.invokestatic 190, 3) := by decide +kernel
theorem dX8_weigh_38 : decode cX8_weigh 38 = .ok (.goto 8, 3) := by decide +kernel
theorem dX8_weigh_41 : decode cX8_weigh 41 = .ok (.iconst 1, 1) := by decide +kernel
theorem dX8_weigh_42 : decode cX8_weigh 42 = .ok (.iload_n 3, 1) := by decide +kernel
theorem dX8_weigh_43 : decode cX8_weigh 43 = .ok (.invokestatic 190, 3) := by decide +kernel
theorem dX8_weigh_46 : decode cX8_weigh 46 = .ok (.ireturn, 1) := by decide +kernel
theorem dX8_weight_0 : decode cX8_weight 0 = .ok (.iload_n 1, 1) := by decide +kernel
theorem dX8_weight_1 : decode cX8_weight 1 = .ok (.iconst 4, 1) := by decide +kernel
theorem dX8_weight_2 : decode cX8_weight 2 = .ok (.bipush 15, 2) := by decide +kernel
theorem dX8_weight_4 : decode cX8_weight 4 = .ok (.invokestatic 113, 3) := by decide +kernel
theorem dX8_weight_7 : decode cX8_weight 7 = .ok (.ifCond .ne 5, 3) := by decide +kernel
theorem dX8_weight_10 : decode cX8_weight 10 = .ok (.iconst (-1), 1) := by decide +kernel
theorem dX8_weight_11 : decode cX8_weight 11 = .ok (.ireturn, 1) := by decide +kernel
theorem dX8_weight_12 : decode cX8_weight 12 = .ok (.iload_n 2, 1) := by decide +kernel
theorem dX8_weight_13 : decode cX8_weight 13 = .ok (.iconst 0, 1) := by decide +kernel
theorem dX8_weight_14 : decode cX8_weight 14 = .ok (.iconst 1, 1) := by decide +kernel
theorem dX8_weight_15 : decode cX8_weight 15 = .ok (.invokestatic 113, 3) := by decide +kernel
theorem dX8_weight_18 : decode cX8_weight 18 = .ok (.ifCond .ne 6, 3) := by decide +kernel
theorem dX8_weight_21 : decode cX8_weight 21 = .ok (.bipush (-2), 2) := by decide +kernel
theorem dX8_weight_23 : decode cX8_weight 23 = .ok (.ireturn, 1) := by decide +kernel
theorem dX8_weight_24 : decode cX8_weight 24 = .ok (.aload_n 0, 1) := by decide +kernel
theorem dX8_weight_25 : decode cX8_weight 25 = .ok (.invokevirtual 174, 3) := by decide +kernel
theorem dX8_weight_28 : decode cX8_weight 28 = .ok (.aload_n 0, 1) := by decide +kernel
theorem dX8_weight_29 : decode cX8_weight 29 = .ok (.invokevirtual 177, 3) := by decide +kernel
theorem dX8_weight_32 : decode cX8_weight 32 = .ok (.iload_n 2, 1) := by decide +kernel
theorem dX8_weight_33 : decode cX8_weight 33 = .ok (.ifCond .ne 11, 3) := by decide +kernel
theorem dX8_weight_36 : decode cX8_weight 36 = .ok (.aload_n 0, 1) := by decide +kernel
theorem dX8_weight_37 : decode cX8_weight 37 = .ok (.iload_n 1, 1) := by decide +kernel
theorem dX8_weight_38 : decode cX8_weight 38 = .ok (.invokevirtual 194, 3) := by decide +kernel
theorem dX8_weight_41 : decode cX8_weight 41 = .ok (.goto 21, 3) := by decide +kernel
theorem dX8_weight_44 : decode cX8_weight 44 = .ok (.aload_n 0, 1) := by decide +kernel
theorem dX8_weight_45 : decode cX8_weight 45 = .ok (.aload_n 0, 1) := by decide +kernel
theorem dX8_weight_46 : decode cX8_weight 46 = .ok (.iload_n 1, 1) := by decide +kernel
theorem dX8_weight_47 : decode cX8_weight 47 = .ok (.invokevirtual 194, 3) := by decide +kernel
theorem dX8_weight_50 : decode cX8_weight 50 = .ok (.aload_n 0, 1) := by decide +kernel
theorem dX8_weight_51 : decode cX8_weight 51 = .ok (.getfield 60, 3) := by decide +kernel
theorem dX8_weight_54 : decode cX8_weight 54 = .ok (.iload_n 1, 1) := by decide +kernel
theorem dX8_weight_55 : decode cX8_weight 55 = .ok (.laload, 1) := by decide +kernel
theorem dX8_weight_56 : decode cX8_weight 56 = .ok (.invokestatic 197, 3) := by decide +kernel
theorem dX8_weight_59 : decode cX8_weight 59 = .ok (.invokevirtual 201, 3) := by decide +kernel
theorem dX8_weight_62 : decode cX8_weight 62 = .ok (.ireturn, 1) := by decide +kernel
theorem dX8_note_0 : decode cX8_note 0 = .ok (.aload_n 0, 1) := by decide +kernel
theorem dX8_note_1 : decode cX8_note 1 = .ok (.getfield 204, 3) := by decide +kernel
theorem dX8_note_4 : decode cX8_note 4 = .ok (.ifCond .eq 33, 3) := by decide +kernel
theorem dX8_note_7 : decode cX8_note 7 = .ok (.aload_n 0, 1) := by decide +kernel
theorem dX8_note_8 : decode cX8_note 8 = .ok (.getfield 208, 3) := by decide +kernel
theorem dX8_note_11 : decode cX8_note 11 = .ok (.sipush 200, 3) := by decide +kernel
theorem dX8_note_14 : decode cX8_note 14 = .ok (.if_icmp .ge 23, 3) := by decide +kernel
theorem dX8_note_17 : decode cX8_note 17 = .ok (.aload_n 0, 1) := by decide +kernel
theorem dX8_note_18 : decode cX8_note 18 = .ok (.getfield 85, 3) := by decide +kernel
theorem dX8_note_21 : decode cX8_note 21 = .ok (.aload_n 0, 1) := by decide +kernel
theorem dX8_note_22 : decode cX8_note 22 = .ok (.getfield 208, 3) := by decide +kernel
theorem dX8_note_25 : decode cX8_note 25 = .ok (.iload_n 1, 1) := by decide +kernel
theorem dX8_note_26 : decode cX8_note 26 = .ok (.iastore, 1) := by decide +kernel
theorem dX8_note_27 : decode cX8_note 27 = .ok (.aload_n 0, 1) := by decide +kernel
theorem dX8_note_28 : decode cX8_note 28 = .ok (.dup, 1) := by decide +kernel
theorem dX8_note_29 : decode cX8_note 29 = .ok (.getfield 208, 3) := by decide +kernel
theorem dX8_note_32 : decode cX8_note 32 = .ok (.iconst 1, 1) := by decide +kernel
theorem dX8_note_33 : decode cX8_note 33 = .ok (.iadd, 1) := by decide +kernel
theorem dX8_note_34 : decode cX8_note 34 = .ok (.putfield 208, 3) := by decide +kernel
theorem dX8_note_37 : decode cX8_note 37 = .ok (.return_, 1) := by decide +kernel
theorem dX8_standsFor_0 : decode cX8_standsFor 0 = .ok (.iload_n 1, 1) := by decide +kernel
theorem dX8_standsFor_1 : decode cX8_standsFor 1 = .ok (.istore_n 2, 1) := by decide +kernel
theorem dX8_standsFor_2 : decode cX8_standsFor 2 = .ok (.aload_n 0, 1) := by decide +kernel
theorem dX8_standsFor_3 : decode cX8_standsFor 3 = .ok (.getfield 63, 3) := by decide +kernel
theorem dX8_standsFor_6 : decode cX8_standsFor 6 = .ok (.iload_n 2, 1) := by decide +kernel
theorem dX8_standsFor_7 : decode cX8_standsFor 7 = .ok (.iaload, 1) := by decide +kernel
theorem dX8_standsFor_8 : decode cX8_standsFor 8 = .ok (.iload_n 2, 1) := by decide +kernel
theorem dX8_standsFor_9 : decode cX8_standsFor 9 = .ok (.if_icmp .eq 13, 3) := by decide +kernel
theorem dX8_standsFor_12 : decode cX8_standsFor 12 = .ok (.aload_n 0, 1) := by decide +kernel
theorem dX8_standsFor_13 : decode cX8_standsFor 13 = .ok (.getfield 63, 3) := by decide +kernel
theorem dX8_standsFor_16 : decode cX8_standsFor 16 = .ok (.iload_n 2, 1) := by decide +kernel
theorem dX8_standsFor_17 : decode cX8_standsFor 17 = .ok (.iaload, 1) := by decide +kernel
theorem dX8_standsFor_18 : decode cX8_standsFor 18 = .ok (.istore_n 2, 1) := by decide +kernel
theorem dX8_standsFor_19 : decode cX8_standsFor 19 = .ok (.goto (-17), 3) := by decide +kernel
theorem dX8_standsFor_22 : decode cX8_standsFor 22 = .ok (.iload_n 2, 1) := by decide +kernel
theorem dX8_standsFor_23 : decode cX8_standsFor 23 = .ok (.ireturn, 1) := by decide +kernel
theorem dX8_near_0 : decode cX8_near 0 = .ok (.aload_n 0, 1) := by decide +kernel
theorem dX8_near_1 : decode cX8_near 1 = .ok (.getfield 60, 3) := by decide +kernel
theorem dX8_near_4 : decode cX8_near 4 = .ok (.iload_n 1, 1) := by decide +kernel
theorem dX8_near_5 : decode cX8_near 5 = .ok (.laload, 1) := by decide +kernel
theorem dX8_near_6 : decode cX8_near 6 = .ok (.aload_n 0, 1) := by decide +kernel
theorem dX8_near_7 : decode cX8_near 7 = .ok (.getfield 211, 3) := by decide +kernel
theorem dX8_near_10 : decode cX8_near 10 = .ok (.land, 1) := by decide +kernel
theorem dX8_near_11 : decode cX8_near 11 = .ok (.lreturn, 1) := by decide +kernel
theorem dX8_degree_0 : decode cX8_degree 0 = .ok (.aload_n 0, 1) := by decide +kernel
theorem dX8_degree_1 : decode cX8_degree 1 = .ok (.iload_n 1, 1) := by decide +kernel
theorem dX8_degree_2 : decode cX8_degree 2 = .ok (.invokevirtual 215, 3) := by decide +kernel
theorem dX8_degree_5 : decode cX8_degree 5 = .ok (.invokestatic 197, 3) := by decide +kernel
theorem dX8_degree_8 : decode cX8_degree 8 = .ok (.ireturn, 1) := by decide +kernel
theorem dX8_isLow_0 : decode cX8_isLow 0 = .ok (.iload_n 1, 1) := by decide +kernel
theorem dX8_isLow_1 : decode cX8_isLow 1 = .ok (.iconst 4, 1) := by decide +kernel
theorem dX8_isLow_2 : decode cX8_isLow 2 = .ok (.if_icmp .lt 19, 3) := by decide +kernel
theorem dX8_isLow_5 : decode cX8_isLow 5 = .ok (.aload_n 0, 1) := by decide +kernel
theorem dX8_isLow_6 : decode cX8_isLow 6 = .ok (.iload_n 1, 1) := by decide +kernel
theorem dX8_isLow_7 : decode cX8_isLow 7 = .ok (.invokevirtual 218, 3) := by decide +kernel
theorem dX8_isLow_10 : decode cX8_isLow 10 = .ok (.aload_n 0, 1) := by decide +kernel
theorem dX8_isLow_11 : decode cX8_isLow 11 = .ok (.getfield 7, 3) := by decide +kernel
theorem dX8_isLow_14 : decode cX8_isLow 14 = .ok (.if_icmp .ge 7, 3) := by decide +kernel
theorem dX8_isLow_17 : decode cX8_isLow 17 = .ok (.iconst 1, 1) := by decide +kernel
theorem dX8_isLow_18 : decode cX8_isLow 18 = .ok (.goto 4, 3) := by decide +kernel
theorem dX8_isLow_21 : decode cX8_isLow 21 = .ok (.iconst 0, 1) := by decide +kernel
theorem dX8_isLow_22 : decode cX8_isLow 22 = .ok (.ireturn, 1) := by decide +kernel
theorem dX8_isIn_0 : decode cX8_isIn 0 = .ok (.aload_n 0, 1) := by decide +kernel
theorem dX8_isIn_1 : decode cX8_isIn 1 = .ok (.aload_n 0, 1) := by decide +kernel
theorem dX8_isIn_2 : decode cX8_isIn 2 = .ok (.getfield 32, 3) := by decide +kernel
theorem dX8_isIn_5 : decode cX8_isIn 5 = .ok (.aload_n 0, 1) := by decide +kernel
theorem dX8_isIn_6 : decode cX8_isIn 6 = .ok (.getfield 69, 3) := by decide +kernel
theorem dX8_isIn_9 : decode cX8_isIn 9 = .ok (.iload_n 1, 1) := by decide +kernel
theorem dX8_isIn_10 : decode cX8_isIn 10 = .ok (.iaload, 1) := by decide +kernel
theorem dX8_isIn_11 : decode cX8_isIn 11 = .ok (.iaload, 1) := by decide +kernel
theorem dX8_isIn_12 : decode cX8_isIn 12 = .ok (.invokevirtual 221, 3) := by decide +kernel
theorem dX8_isIn_15 : decode cX8_isIn 15 = .ok (.iload_n 2, 1) := by decide +kernel
theorem dX8_isIn_16 : decode cX8_isIn 16 = .ok (.if_icmp .eq 22, 3) := by decide +kernel
theorem dX8_isIn_19 : decode cX8_isIn 19 = .ok (.aload_n 0, 1) := by decide +kernel
theorem dX8_isIn_20 : decode cX8_isIn 20 = .ok (.aload_n 0, 1) := by decide +kernel
theorem dX8_isIn_21 : decode cX8_isIn 21 = .ok (.getfield 35, 3) := by decide +kernel
theorem dX8_isIn_24 : decode cX8_isIn 24 = .ok (.aload_n 0, 1) := by decide +kernel
theorem dX8_isIn_25 : decode cX8_isIn 25 = .ok (.getfield 69, 3) := by decide +kernel
theorem dX8_isIn_28 : decode cX8_isIn 28 = .ok (.iload_n 1, 1) := by decide +kernel
theorem dX8_isIn_29 : decode cX8_isIn 29 = .ok (.iaload, 1) := by decide +kernel
theorem dX8_isIn_30 : decode cX8_isIn 30 = .ok (.iaload, 1) := by decide +kernel
theorem dX8_isIn_31 : decode cX8_isIn 31 = .ok (.invokevirtual 221, 3) := by decide +kernel
theorem dX8_isIn_34 : decode cX8_isIn 34 = .ok (.iload_n 2, 1) := by decide +kernel
theorem dX8_isIn_35 : decode cX8_isIn 35 = .ok (.if_icmp .ne 7, 3) := by decide +kernel
theorem dX8_isIn_38 : decode cX8_isIn 38 = .ok (.iconst 1, 1) := by decide +kernel
theorem dX8_isIn_39 : decode cX8_isIn 39 = .ok (.goto 4, 3) := by decide +kernel
theorem dX8_isIn_42 : decode cX8_isIn 42 = .ok (.iconst 0, 1) := by decide +kernel
theorem dX8_isIn_43 : decode cX8_isIn 43 = .ok (.ireturn, 1) := by decide +kernel
theorem dX8_isMoved_0 : decode cX8_isMoved 0 = .ok (.iconst 0, 1) := by decide +kernel
theorem dX8_isMoved_1 : decode cX8_isMoved 1 = .ok (.istore_n 2, 1) := by decide +kernel
theorem dX8_isMoved_2 : decode cX8_isMoved 2 = .ok (.iload_n 2, 1) := by decide +kernel
theorem dX8_isMoved_3 : decode cX8_isMoved 3 = .ok (.aload_n 0, 1) := by decide +kernel
theorem dX8_isMoved_4 : decode cX8_isMoved 4 = .ok (.getfield 224, 3) := by decide +kernel
theorem dX8_isMoved_7 : decode cX8_isMoved 7 = .ok (.if_icmp .ge 29, 3) := by decide +kernel
theorem dX8_isMoved_10 : decode cX8_isMoved 10 = .ok (.aload_n 0, 1) := by decide +kernel
theorem dX8_isMoved_11 : decode cX8_isMoved 11 = .ok (.getfield 72, 3) := by decide +kernel
theorem dX8_isMoved_14 : decode cX8_isMoved 14 = .ok (.iload_n 2, 1) := by decide +kernel
theorem dX8_isMoved_15 : decode cX8_isMoved 15 = .ok (.baload, 1) := by decide +kernel
theorem dX8_isMoved_16 : decode cX8_isMoved 16 = .ok (.ifCond .eq 14, 3) := by decide +kernel
theorem dX8_isMoved_19 : decode cX8_isMoved 19 = .ok (.aload_n 0, 1) := by decide +kernel
theorem dX8_isMoved_20 : decode cX8_isMoved 20 = .ok (.iload_n 2, 1) := by decide +kernel
theorem dX8_isMoved_21 : decode cX8_isMoved 21 = .ok (.iload_n 1, 1) := by decide +kernel
theorem dX8_isMoved_22 : decode cX8_isMoved 22 = .ok (.invokevirtual 227, 3) := by decide +kernel
theorem dX8_isMoved_25 : decode cX8_isMoved 25 = .ok (.ifCond .eq 5, 3) := by decide +kernel
theorem dX8_isMoved_28 : decode cX8_isMoved 28 = .ok (.iconst 1, 1) := by decide +kernel
theorem dX8_isMoved_29 : decode cX8_isMoved 29 = .ok (.ireturn, 1) := by decide +kernel
theorem dX8_isMoved_30 : decode cX8_isMoved 30 = .ok (.iinc 2 1, 3) := by decide +kernel
theorem dX8_isMoved_33 : decode cX8_isMoved 33 = .ok (.goto (-31), 3) := by decide +kernel
theorem dX8_isMoved_36 : decode cX8_isMoved 36 = .ok (.iconst 0, 1) := by decide +kernel
theorem dX8_isMoved_37 : decode cX8_isMoved 37 = .ok (.ireturn, 1) := by decide +kernel
theorem dX8_shutAll_0 : decode cX8_shutAll 0 = .ok (.iconst 0, 1) := by decide +kernel
theorem dX8_shutAll_1 : decode cX8_shutAll 1 = .ok (.istore_n 2, 1) := by decide +kernel
theorem dX8_shutAll_2 : decode cX8_shutAll 2 = .ok (.iload_n 2, 1) := by decide +kernel
theorem dX8_shutAll_3 : decode cX8_shutAll 3 = .ok (.aload_n 0, 1) := by decide +kernel
theorem dX8_shutAll_4 : decode cX8_shutAll 4 = .ok (.getfield 224, 3) := by decide +kernel
theorem dX8_shutAll_7 : decode cX8_shutAll 7 = .ok (.if_icmp .ge 38, 3) := by decide +kernel
theorem dX8_shutAll_10 : decode cX8_shutAll 10 = .ok (.aload_n 0, 1) := by decide +kernel
theorem dX8_shutAll_11 : decode cX8_shutAll 11 = .ok (.getfield 72, 3) := by decide +kernel
theorem dX8_shutAll_14 : decode cX8_shutAll 14 = .ok (.iload_n 2, 1) := by decide +kernel
theorem dX8_shutAll_15 : decode cX8_shutAll 15 = .ok (.aload_n 0, 1) := by decide +kernel
theorem dX8_shutAll_16 : decode cX8_shutAll 16 = .ok (.getfield 72, 3) := by decide +kernel
theorem dX8_shutAll_19 : decode cX8_shutAll 19 = .ok (.iload_n 2, 1) := by decide +kernel
theorem dX8_shutAll_20 : decode cX8_shutAll 20 = .ok (.baload, 1) := by decide +kernel
theorem dX8_shutAll_21 : decode cX8_shutAll 21 = .ok (.ifCond .eq 16, 3) := by decide +kernel
theorem dX8_shutAll_24 : decode cX8_shutAll 24 = .ok (.aload_n 0, 1) := by decide +kernel
theorem dX8_shutAll_25 : decode cX8_shutAll 25 = .ok (.iload_n 2, 1) := by decide +kernel
theorem dX8_shutAll_26 : decode cX8_shutAll 26 = .ok (.iload_n 1, 1) := by decide +kernel
theorem dX8_shutAll_27 : decode cX8_shutAll 27 = .ok (.invokevirtual 227, 3) := by decide +kernel
theorem dX8_shutAll_30 : decode cX8_shutAll 30 = .ok (.ifCond .ne 7, 3) := by decide +kernel
theorem dX8_shutAll_33 : decode cX8_shutAll 33 = .ok (.iconst 1, 1) := by decide +kernel
theorem dX8_shutAll_34 : decode cX8_shutAll 34 = .ok (.goto 4, 3) := by decide +kernel
theorem dX8_shutAll_37 : decode cX8_shutAll 37 = .ok (.iconst 0, 1) := by decide +kernel
theorem dX8_shutAll_38 : decode cX8_shutAll 38 = .ok (.bastore, 1) := by decide +kernel
theorem dX8_shutAll_39 : decode cX8_shutAll 39 = .ok (.iinc 2 1, 3) := by decide +kernel
theorem dX8_shutAll_42 : decode cX8_shutAll 42 = .ok (.goto (-40), 3) := by decide +kernel
theorem dX8_shutAll_45 : decode cX8_shutAll 45 = .ok (.return_, 1) := by decide +kernel
theorem dX8_take_0 : decode cX8_take 0 = .ok (.aload_n 0, 1) := by decide +kernel
theorem dX8_take_1 : decode cX8_take 1 = .ok (.getfield 76, 3) := by decide +kernel
theorem dX8_take_4 : decode cX8_take 4 = .ok (.aload_n 0, 1) := by decide +kernel
theorem dX8_take_5 : decode cX8_take 5 = .ok (.getfield 230, 3) := by decide +kernel
theorem dX8_take_8 : decode cX8_take 8 = .ok (.iload_n 1, 1) := by decide +kernel
theorem dX8_take_9 : decode cX8_take 9 = .ok (.iastore, 1) := by decide +kernel
theorem dX8_take_10 : decode cX8_take 10 = .ok (.aload_n 0, 1) := by decide +kernel
theorem dX8_take_11 : decode cX8_take 11 = .ok (.getfield 79, 3) := by decide +kernel
theorem dX8_take_14 : decode cX8_take 14 = .ok (.aload_n 0, 1) := by decide +kernel
theorem dX8_take_15 : decode cX8_take 15 = .ok (.getfield 230, 3) := by decide +kernel
theorem dX8_take_18 : decode cX8_take 18 = .ok (.aload_n 0, 1) := by decide +kernel
theorem dX8_take_19 : decode cX8_take 19 = .ok (.iload_n 1, 1) := by decide +kernel
theorem dX8_take_20 : decode cX8_take 20 = .ok (.invokevirtual 215, 3) := by decide +kernel
theorem dX8_take_23 : decode cX8_take 23 = .ok (.lastore, 1) := by decide +kernel
theorem dX8_take_24 : decode cX8_take 24 = .ok (.aload_n 0, 1) := by decide +kernel
theorem dX8_take_25 : decode cX8_take 25 = .ok (.dup, 1) := by decide +kernel
theorem dX8_take_26 : decode cX8_take 26 = .ok (.getfield 230, 3) := by decide +kernel
theorem dX8_take_29 : decode cX8_take 29 = .ok (.iconst 1, 1) := by decide +kernel
theorem dX8_take_30 : decode cX8_take 30 = .ok (.iadd, 1) := by decide +kernel
theorem dX8_take_31 : decode cX8_take 31 = .ok (.putfield 230, 3) := by decide +kernel
theorem dX8_take_34 : decode cX8_take 34 = .ok (.aload_n 0, 1) := by decide +kernel
theorem dX8_take_35 : decode cX8_take 35 = .ok (.dup, 1) := by decide +kernel
theorem dX8_take_36 : decode cX8_take 36 = .ok (.getfield 211, 3) := by decide +kernel
theorem dX8_take_39 : decode cX8_take 39 = .ok (.lconst 1, 1) := by decide +kernel
theorem dX8_take_40 : decode cX8_take 40 = .ok (.iload_n 1, 1) := by decide +kernel
theorem dX8_take_41 : decode cX8_take 41 = .ok (.lshl, 1) := by decide +kernel
theorem dX8_take_42 : decode cX8_take 42 = .ok (.ldc2_w 162, 3) := by decide +kernel
theorem dX8_take_45 : decode cX8_take 45 = .ok (.lxor, 1) := by decide +kernel
theorem dX8_take_46 : decode cX8_take 46 = .ok (.land, 1) := by decide +kernel
theorem dX8_take_47 : decode cX8_take 47 = .ok (.putfield 211, 3) := by decide +kernel
theorem dX8_take_50 : decode cX8_take 50 = .ok (.return_, 1) := by decide +kernel
theorem dX8_isSafe_0 : decode cX8_isSafe 0 = .ok (.iload_n 1, 1) := by decide +kernel
theorem dX8_isSafe_1 : decode cX8_isSafe 1 = .ok (.iconst 4, 1) := by decide +kernel
theorem dX8_isSafe_2 : decode cX8_isSafe 2 = .ok (.if_icmp .lt 8, 3) := by decide +kernel
theorem dX8_isSafe_5 : decode cX8_isSafe 5 = .ok (.iload_n 2, 1) := by decide +kernel
theorem dX8_isSafe_6 : decode cX8_isSafe 6 = .ok (.iconst 4, 1) := by decide +kernel
theorem dX8_isSafe_7 : decode cX8_isSafe 7 = .ok (.if_icmp .ge 88, 3) := by decide +kernel
theorem dX8_isSafe_10 : decode cX8_isSafe 10 = .ok (.iload_n 1, 1) := by decide +kernel
theorem dX8_isSafe_11 : decode cX8_isSafe 11 = .ok (.iconst 4, 1) := by decide +kernel
theorem dX8_isSafe_12 : decode cX8_isSafe 12 = .ok (.if_icmp .ge 7, 3) := by decide +kernel
theorem dX8_isSafe_15 : decode cX8_isSafe 15 = .ok (.iload_n 1, 1) := by decide +kernel
theorem dX8_isSafe_16 : decode cX8_isSafe 16 = .ok (.goto 4, 3) := by decide +kernel
theorem dX8_isSafe_19 : decode cX8_isSafe 19 = .ok (.iload_n 2, 1) := by decide +kernel
theorem dX8_isSafe_20 : decode cX8_isSafe 20 = .ok (.istore_n 3, 1) := by decide +kernel
theorem dX8_isSafe_21 : decode cX8_isSafe 21 = .ok (.iload_n 1, 1) := by decide +kernel
theorem dX8_isSafe_22 : decode cX8_isSafe 22 = .ok (.iconst 4, 1) := by decide +kernel
theorem dX8_isSafe_23 : decode cX8_isSafe 23 = .ok (.if_icmp .ge 7, 3) := by decide +kernel
theorem dX8_isSafe_26 : decode cX8_isSafe 26 = .ok (.iload_n 2, 1) := by decide +kernel
theorem dX8_isSafe_27 : decode cX8_isSafe 27 = .ok (.goto 4, 3) := by decide +kernel
theorem dX8_isSafe_30 : decode cX8_isSafe 30 = .ok (.iload_n 1, 1) := by decide +kernel
theorem dX8_isSafe_31 : decode cX8_isSafe 31 = .ok (.istore 4, 2) := by decide +kernel
theorem dX8_isSafe_33 : decode cX8_isSafe 33 = .ok (.iconst 0, 1) := by decide +kernel
theorem dX8_isSafe_34 : decode cX8_isSafe 34 = .ok (.istore 5, 2) := by decide +kernel
theorem dX8_isSafe_36 : decode cX8_isSafe 36 = .ok (.iload 5, 2) := by decide +kernel
theorem dX8_isSafe_38 : decode cX8_isSafe 38 = .ok (.bipush 64, 2) := by decide +kernel
theorem dX8_isSafe_40 : decode cX8_isSafe 40 = .ok (.if_icmp .ge 53, 3) := by decide +kernel
theorem dX8_isSafe_43 : decode cX8_isSafe 43 = .ok (.aload_n 0, 1) := by decide +kernel
theorem dX8_isSafe_44 : decode cX8_isSafe 44 = .ok (.iload 4, 2) := by decide +kernel
theorem dX8_isSafe_46 : decode cX8_isSafe 46 = .ok (.invokevirtual 215, 3) := by decide +kernel
theorem dX8_isSafe_49 : decode cX8_isSafe 49 = .ok (.iload 5, 2) := by decide +kernel
theorem dX8_isSafe_51 : decode cX8_isSafe 51 = .ok (.invokestatic 109, 3) := by decide +kernel
theorem dX8_isSafe_54 : decode cX8_isSafe 54 = .ok (.ifCond .eq 33, 3) := by decide +kernel
theorem dX8_isSafe_57 : decode cX8_isSafe 57 = .ok (.aload_n 0, 1) := by decide +kernel
theorem dX8_isSafe_58 : decode cX8_isSafe 58 = .ok (.iload 5, 2) := by decide +kernel
theorem dX8_isSafe_60 : decode cX8_isSafe 60 = .ok (.invokevirtual 233, 3) := by decide +kernel
theorem dX8_isSafe_63 : decode cX8_isSafe 63 = .ok (.ifCond .ne 24, 3) := by decide +kernel
theorem dX8_isSafe_66 : decode cX8_isSafe 66 = .ok (.iload 5, 2) := by decide +kernel
theorem dX8_isSafe_68 : decode cX8_isSafe 68 = .ok (.iconst 4, 1) := by decide +kernel
theorem dX8_isSafe_69 : decode cX8_isSafe 69 = .ok (.if_icmp .lt 18, 3) := by decide +kernel
theorem dX8_isSafe_72 : decode cX8_isSafe 72 = .ok (.aload_n 0, 1) := by decide +kernel
theorem dX8_isSafe_73 : decode cX8_isSafe 73 = .ok (.iload_n 3, 1) := by decide +kernel
theorem dX8_isSafe_74 : decode cX8_isSafe 74 = .ok (.invokevirtual 215, 3) := by decide +kernel
theorem dX8_isSafe_77 : decode cX8_isSafe 77 = .ok (.iload 5, 2) := by decide +kernel
theorem dX8_isSafe_79 : decode cX8_isSafe 79 = .ok (.invokestatic 109, 3) := by decide +kernel
theorem dX8_isSafe_82 : decode cX8_isSafe 82 = .ok (.ifCond .ne 5, 3) := by decide +kernel
theorem dX8_isSafe_85 : decode cX8_isSafe 85 = .ok (.iconst 0, 1) := by decide +kernel
theorem dX8_isSafe_86 : decode cX8_isSafe 86 = .ok (.ireturn, 1) := by decide +kernel
theorem dX8_isSafe_87 : decode cX8_isSafe 87 = .ok (.iinc 5 1, 3) := by decide +kernel
theorem dX8_isSafe_90 : decode cX8_isSafe 90 = .ok (.goto (-54), 3) := by decide +kernel
theorem dX8_isSafe_93 : decode cX8_isSafe 93 = .ok (.iconst 1, 1) := by decide +kernel
theorem dX8_isSafe_94 : decode cX8_isSafe 94 = .ok (.ireturn, 1) := by decide +kernel
theorem dX8_isSafe_95 : decode cX8_isSafe 95 = .ok (.iconst 0, 1) := by decide +kernel
theorem dX8_isSafe_96 : decode cX8_isSafe 96 = .ok (.istore_n 3, 1) := by decide +kernel
theorem dX8_isSafe_97 : decode cX8_isSafe 97 = .ok (.iconst 0, 1) := by decide +kernel
theorem dX8_isSafe_98 : decode cX8_isSafe 98 = .ok (.istore 4, 2) := by decide +kernel
theorem dX8_isSafe_100 : decode cX8_isSafe 100 = .ok (.iload 4, 2) := by decide +kernel
theorem dX8_isSafe_102 : decode cX8_isSafe 102 = .ok (.bipush 64, 2) := by decide +kernel
theorem dX8_isSafe_104 : decode cX8_isSafe 104 = .ok (.if_icmp .ge 86, 3) := by decide +kernel
theorem dX8_isSafe_107 : decode cX8_isSafe 107 = .ok (.aload_n 0, 1) := by decide +kernel
theorem dX8_isSafe_108 : decode cX8_isSafe 108 = .ok (.iload_n 1, 1) := by decide +kernel
theorem dX8_isSafe_109 : decode cX8_isSafe 109 = .ok (.invokevirtual 215, 3) := by decide +kernel
theorem dX8_isSafe_112 : decode cX8_isSafe 112 = .ok (.iload 4, 2) := by decide +kernel
theorem dX8_isSafe_114 : decode cX8_isSafe 114 = .ok (.invokestatic 109, 3) := by decide +kernel
theorem dX8_isSafe_117 : decode cX8_isSafe 117 = .ok (.istore 5, 2) := by decide +kernel
theorem dX8_isSafe_119 : decode cX8_isSafe 119 = .ok (.aload_n 0, 1) := by decide +kernel
theorem dX8_isSafe_120 : decode cX8_isSafe 120 = .ok (.iload_n 2, 1) := by decide +kernel
theorem dX8_isSafe_121 : decode cX8_isSafe 121 = .ok (.invokevirtual 215, 3) := by decide +kernel
theorem dX8_isSafe_124 : decode cX8_isSafe 124 = .ok (.iload 4, 2) := by decide +kernel
theorem dX8_isSafe_126 : decode cX8_isSafe 126 = .ok (.invokestatic 109, 3) := by decide +kernel
theorem dX8_isSafe_129 : decode cX8_isSafe 129 = .ok (.istore 6, 2) := by decide +kernel
theorem dX8_isSafe_131 : decode cX8_isSafe 131 = .ok (.iload 5, 2) := by decide +kernel
theorem dX8_isSafe_133 : decode cX8_isSafe 133 = .ok (.ifCond .ne 8, 3) := by decide +kernel
theorem dX8_isSafe_136 : decode cX8_isSafe 136 = .ok (.iload 6, 2) := by decide +kernel
theorem dX8_isSafe_138 : decode cX8_isSafe 138 = .ok (.ifCond .eq 46, 3) := by decide +kernel
theorem dX8_isSafe_141 : decode cX8_isSafe 141 = .ok (.iload_n 3, 1) := by decide +kernel
theorem dX8_isSafe_142 : decode cX8_isSafe 142 = .ok (.iload 4, 2) := by decide +kernel
theorem dX8_isSafe_144 : decode cX8_isSafe 144 = .ok (.iconst 4, 1) := by decide +kernel
theorem dX8_isSafe_145 : decode cX8_isSafe 145 = .ok (.if_icmp .lt 32, 3) := by decide +kernel
theorem dX8_isSafe_148 : decode cX8_isSafe 148 = .ok (.aload_n 0, 1) := by decide +kernel
theorem dX8_isSafe_149 : decode cX8_isSafe 149 = .ok (.iload 4, 2) := by decide +kernel
theorem dX8_isSafe_151 : decode cX8_isSafe 151 = .ok (.invokevirtual 218, 3) := by decide +kernel
theorem dX8_isSafe_154 : decode cX8_isSafe 154 = .ok (.iload 5, 2) := by decide +kernel
theorem dX8_isSafe_156 : decode cX8_isSafe 156 = .ok (.ifCond .eq 12, 3) := by decide +kernel
theorem dX8_isSafe_159 : decode cX8_isSafe 159 = .ok (.iload 6, 2) := by decide +kernel
theorem dX8_isSafe_161 : decode cX8_isSafe 161 = .ok (.ifCond .eq 7, 3) := by decide +kernel
theorem dX8_isSafe_164 : decode cX8_isSafe 164 = .ok (.iconst 1, 1) := by decide +kernel
theorem dX8_isSafe_165 : decode cX8_isSafe 165 = .ok (.goto 4, 3) := by decide +kernel
theorem dX8_isSafe_168 : decode cX8_isSafe 168 = .ok (.iconst 0, 1) := by decide +kernel
theorem dX8_isSafe_169 : decode cX8_isSafe 169 = .ok (.isub, 1) := by decide +kernel
theorem dX8_isSafe_170 : decode cX8_isSafe 170 = .ok (.aload_n 0, 1) := by decide +kernel
theorem dX8_isSafe_171 : decode cX8_isSafe 171 = .ok (.getfield 7, 3) := by decide +kernel
theorem dX8_isSafe_174 : decode cX8_isSafe 174 = .ok (.if_icmp .lt 7, 3) := by decide +kernel
theorem dX8_isSafe_177 : decode cX8_isSafe 177 = .ok (.iconst 1, 1) := by decide +kernel
theorem dX8_isSafe_178 : decode cX8_isSafe 178 = .ok (.goto 4, 3) := by decide +kernel
theorem dX8_isSafe_181 : decode cX8_isSafe 181 = .ok (.iconst 0, 1) := by decide +kernel
theorem dX8_isSafe_182 : decode cX8_isSafe 182 = .ok (.iadd, 1) := by decide +kernel
theorem dX8_isSafe_183 : decode cX8_isSafe 183 = .ok (.istore_n 3, 1) := by decide +kernel
theorem dX8_isSafe_184 : decode cX8_isSafe 184 = .ok (.iinc 4 1, 3) := by decide +kernel
theorem dX8_isSafe_187 : decode cX8_isSafe 187 = .ok (.goto (-87), 3) := by decide +kernel
theorem dX8_isSafe_190 : decode cX8_isSafe 190 = .ok (.iload_n 3, 1) := by decide +kernel
theorem dX8_isSafe_191 : decode cX8_isSafe 191 = .ok (.aload_n 0, 1) := by decide +kernel
theorem dX8_isSafe_192 : decode cX8_isSafe 192 = .ok (.getfield 7, 3) := by decide +kernel
theorem dX8_isSafe_195 : decode cX8_isSafe 195 = .ok (.if_icmp .ge 7, 3) := by decide +kernel
theorem dX8_isSafe_198 : decode cX8_isSafe 198 = .ok (.iconst 1, 1) := by decide +kernel
theorem dX8_isSafe_199 : decode cX8_isSafe 199 = .ok (.goto 4, 3) := by decide +kernel
theorem dX8_isSafe_202 : decode cX8_isSafe 202 = .ok (.iconst 0, 1) := by decide +kernel
theorem dX8_isSafe_203 : decode cX8_isSafe 203 = .ok (.ireturn, 1) := by decide +kernel
theorem dX8_merge_0 : decode cX8_merge 0 = .ok (.iload_n 1, 1) := by decide +kernel
theorem dX8_merge_1 : decode cX8_merge 1 = .ok (.iload_n 2, 1) := by decide +kernel
theorem dX8_merge_2 : decode cX8_merge 2 = .ok (.if_icmp .ge 7, 3) := by decide +kernel
theorem dX8_merge_5 : decode cX8_merge 5 = .ok (.iload_n 1, 1) := by decide +kernel
theorem dX8_merge_6 : decode cX8_merge 6 = .ok (.goto 4, 3) := by decide +kernel
theorem dX8_merge_9 : decode cX8_merge 9 = .ok (.iload_n 2, 1) := by decide +kernel
theorem dX8_merge_10 : decode cX8_merge 10 = .ok (.istore_n 3, 1) := by decide +kernel
theorem dX8_merge_11 : decode cX8_merge 11 = .ok (.iload_n 1, 1) := by decide +kernel
theorem dX8_merge_12 : decode cX8_merge 12 = .ok (.iload_n 2, 1) := by decide +kernel
theorem dX8_merge_13 : decode cX8_merge 13 = .ok (.if_icmp .ge 7, 3) := by decide +kernel
theorem dX8_merge_16 : decode cX8_merge 16 = .ok (.iload_n 2, 1) := by decide +kernel
theorem dX8_merge_17 : decode cX8_merge 17 = .ok (.goto 4, 3) := by decide +kernel
theorem dX8_merge_20 : decode cX8_merge 20 = .ok (.iload_n 1, 1) := by decide +kernel
theorem dX8_merge_21 : decode cX8_merge 21 = .ok (.istore 4, 2) := by decide +kernel
theorem dX8_merge_23 : decode cX8_merge 23 = .ok (.aload_n 0, 1) := by decide +kernel
theorem dX8_merge_24 : decode cX8_merge 24 = .ok (.getfield 63, 3) := by decide +kernel
theorem dX8_merge_27 : decode cX8_merge 27 = .ok (.iload 4, 2) := by decide +kernel
theorem dX8_merge_29 : decode cX8_merge 29 = .ok (.iload_n 3, 1) := by decide +kernel
theorem dX8_merge_30 : decode cX8_merge 30 = .ok (.iastore, 1) := by decide +kernel
theorem dX8_merge_31 : decode cX8_merge 31 = .ok (.aload_n 0, 1) := by decide +kernel
theorem dX8_merge_32 : decode cX8_merge 32 = .ok (.getfield 66, 3) := by decide +kernel
theorem dX8_merge_35 : decode cX8_merge 35 = .ok (.iload_n 3, 1) := by decide +kernel
theorem dX8_merge_36 : decode cX8_merge 36 = .ok (.dup2, 1) := by decide +kernel
theorem dX8_merge_37 : decode cX8_merge 37 = .ok (.iaload, 1) := by decide +kernel
theorem dX8_merge_38 : decode cX8_merge 38 = .ok (.aload_n 0, 1) := by decide +kernel
theorem dX8_merge_39 : decode cX8_merge 39 = .ok (.getfield 66, 3) := by decide +kernel
theorem dX8_merge_42 : decode cX8_merge 42 = .ok (.iload 4, 2) := by decide +kernel
theorem dX8_merge_44 : decode cX8_merge 44 = .ok (.iaload, 1) := by decide +kernel
theorem dX8_merge_45 : decode cX8_merge 45 = .ok (.iadd, 1) := by decide +kernel
theorem dX8_merge_46 : decode cX8_merge 46 = .ok (.iastore, 1) := by decide +kernel
theorem dX8_merge_47 : decode cX8_merge 47 = .ok (.aload_n 0, 1) := by decide +kernel
theorem dX8_merge_48 : decode cX8_merge 48 = .ok (.dup, 1) := by decide +kernel
theorem dX8_merge_49 : decode cX8_merge 49 = .ok (.getfield 211, 3) := by decide +kernel
theorem dX8_merge_52 : decode cX8_merge 52 = .ok (.lconst 1, 1) := by decide +kernel
theorem dX8_merge_53 : decode cX8_merge 53 = .ok (.iload 4, 2) := by decide +kernel
theorem dX8_merge_55 : decode cX8_merge 55 = .ok (.lshl, 1) := by decide +kernel
theorem dX8_merge_56 : decode cX8_merge 56 = .ok (.ldc2_w 162, 3) := by decide +kernel
theorem dX8_merge_59 : decode cX8_merge 59 = .ok (.lxor, 1) := by decide +kernel
theorem dX8_merge_60 : decode cX8_merge 60 = .ok (.land, 1) := by decide +kernel
theorem dX8_merge_61 : decode cX8_merge 61 = .ok (.putfield 211, 3) := by decide +kernel
theorem dX8_merge_64 : decode cX8_merge 64 = .ok (.aload_n 0, 1) := by decide +kernel
theorem dX8_merge_65 : decode cX8_merge 65 = .ok (.getfield 60, 3) := by decide +kernel
theorem dX8_merge_68 : decode cX8_merge 68 = .ok (.iload_n 3, 1) := by decide +kernel
theorem dX8_merge_69 : decode cX8_merge 69 = .ok (.dup2, 1) := by decide +kernel
theorem dX8_merge_70 : decode cX8_merge 70 = .ok (.laload, 1) := by decide +kernel
theorem dX8_merge_71 : decode cX8_merge 71 = .ok (.aload_n 0, 1) := by decide +kernel
theorem dX8_merge_72 : decode cX8_merge 72 = .ok (.getfield 60, 3) := by decide +kernel
theorem dX8_merge_75 : decode cX8_merge 75 = .ok (.iload 4, 2) := by decide +kernel
theorem dX8_merge_77 : decode cX8_merge 77 = .ok (.laload, 1) := by decide +kernel
theorem dX8_merge_78 : decode cX8_merge 78 = .ok (.lor, 1) := by decide +kernel
theorem dX8_merge_79 : decode cX8_merge 79 = .ok (.lastore, 1) := by decide +kernel
theorem dX8_merge_80 : decode cX8_merge 80 = .ok (.iconst 0, 1) := by decide +kernel
theorem dX8_merge_81 : decode cX8_merge 81 = .ok (.istore 5, 2) := by decide +kernel
theorem dX8_merge_83 : decode cX8_merge 83 = .ok (.iload 5, 2) := by decide +kernel
theorem dX8_merge_85 : decode cX8_merge 85 = .ok (.bipush 64, 2) := by decide +kernel
theorem dX8_merge_87 : decode cX8_merge 87 = .ok (.if_icmp .ge 55, 3) := by decide +kernel
theorem dX8_merge_90 : decode cX8_merge 90 = .ok (.aload_n 0, 1) := by decide +kernel
theorem dX8_merge_91 : decode cX8_merge 91 = .ok (.getfield 60, 3) := by decide +kernel
theorem dX8_merge_94 : decode cX8_merge 94 = .ok (.iload 4, 2) := by decide +kernel
theorem dX8_merge_96 : decode cX8_merge 96 = .ok (.laload, 1) := by decide +kernel
theorem dX8_merge_97 : decode cX8_merge 97 = .ok (.iload 5, 2) := by decide +kernel
theorem dX8_merge_99 : decode cX8_merge 99 = .ok (.invokestatic 109, 3) := by decide +kernel
theorem dX8_merge_102 : decode cX8_merge 102 = .ok (.ifCond .eq 34, 3) := by decide +kernel
theorem dX8_merge_105 : decode cX8_merge 105 = .ok (.aload_n 0, 1) := by decide +kernel
theorem dX8_merge_106 : decode cX8_merge 106 = .ok (.getfield 60, 3) := by decide +kernel
theorem dX8_merge_109 : decode cX8_merge 109 = .ok (.iload 5, 2) := by decide +kernel
theorem dX8_merge_111 : decode cX8_merge 111 = .ok (.dup2, 1) := by decide +kernel
theorem dX8_merge_112 : decode cX8_merge 112 = .ok (.laload, 1) := by decide +kernel
theorem dX8_merge_113 : decode cX8_merge 113 = .ok (.lconst 1, 1) := by decide +kernel
theorem dX8_merge_114 : decode cX8_merge 114 = .ok (.iload_n 3, 1) := by decide +kernel
theorem dX8_merge_115 : decode cX8_merge 115 = .ok (.lshl, 1) := by decide +kernel
theorem dX8_merge_116 : decode cX8_merge 116 = .ok (.lor, 1) := by decide +kernel
theorem dX8_merge_117 : decode cX8_merge 117 = .ok (.lastore, 1) := by decide +kernel
theorem dX8_merge_118 : decode cX8_merge 118 = .ok (.aload_n 0, 1) := by decide +kernel
theorem dX8_merge_119 : decode cX8_merge 119 = .ok (.getfield 60, 3) := by decide +kernel
theorem dX8_merge_122 : decode cX8_merge 122 = .ok (.iload 5, 2) := by decide +kernel
theorem dX8_merge_124 : decode cX8_merge 124 = .ok (.dup2, 1) := by decide +kernel
theorem dX8_merge_125 : decode cX8_merge 125 = .ok (.laload, 1) := by decide +kernel
theorem dX8_merge_126 : decode cX8_merge 126 = .ok (.lconst 1, 1) := by decide +kernel
theorem dX8_merge_127 : decode cX8_merge 127 = .ok (.iload 4, 2) := by decide +kernel
theorem dX8_merge_129 : decode cX8_merge 129 = .ok (.lshl, 1) := by decide +kernel
theorem dX8_merge_130 : decode cX8_merge 130 = .ok (.ldc2_w 162, 3) := by decide +kernel
theorem dX8_merge_133 : decode cX8_merge 133 = .ok (.lxor, 1) := by decide +kernel
theorem dX8_merge_134 : decode cX8_merge 134 = .ok (.land, 1) := by decide +kernel
theorem dX8_merge_135 : decode cX8_merge 135 = .ok (.lastore, 1) := by decide +kernel
theorem dX8_merge_136 : decode cX8_merge 136 = .ok (.iinc 5 1, 3) := by decide +kernel
theorem dX8_merge_139 : decode cX8_merge 139 = .ok (.goto (-56), 3) := by decide +kernel
theorem dX8_merge_142 : decode cX8_merge 142 = .ok (.aload_n 0, 1) := by decide +kernel
theorem dX8_merge_143 : decode cX8_merge 143 = .ok (.getfield 60, 3) := by decide +kernel
theorem dX8_merge_146 : decode cX8_merge 146 = .ok (.iload_n 3, 1) := by decide +kernel
theorem dX8_merge_147 : decode cX8_merge 147 = .ok (.dup2, 1) := by decide +kernel
theorem dX8_merge_148 : decode cX8_merge 148 = .ok (.laload, 1) := by decide +kernel
theorem dX8_merge_149 : decode cX8_merge 149 = .ok (.lconst 1, 1) := by decide +kernel
theorem dX8_merge_150 : decode cX8_merge 150 = .ok (.iload_n 3, 1) := by decide +kernel
theorem dX8_merge_151 : decode cX8_merge 151 = .ok (.lshl, 1) := by decide +kernel
theorem dX8_merge_152 : decode cX8_merge 152 = .ok (.ldc2_w 162, 3) := by decide +kernel
theorem dX8_merge_155 : decode cX8_merge 155 = .ok (.lxor, 1) := by decide +kernel
theorem dX8_merge_156 : decode cX8_merge 156 = .ok (.land, 1) := by decide +kernel
theorem dX8_merge_157 : decode cX8_merge 157 = .ok (.lastore, 1) := by decide +kernel
theorem dX8_merge_158 : decode cX8_merge 158 = .ok (.return_, 1) := by decide +kernel
theorem dX8_takeLow_0 : decode cX8_takeLow 0 = .ok (.iconst 4, 1) := by decide +kernel
theorem dX8_takeLow_1 : decode cX8_takeLow 1 = .ok (.istore_n 1, 1) := by decide +kernel
theorem dX8_takeLow_2 : decode cX8_takeLow 2 = .ok (.iload_n 1, 1) := by decide +kernel
theorem dX8_takeLow_3 : decode cX8_takeLow 3 = .ok (.bipush 64, 2) := by decide +kernel
theorem dX8_takeLow_5 : decode cX8_takeLow 5 = .ok (.if_icmp .ge 51, 3) := by decide +kernel
theorem dX8_takeLow_8 : decode cX8_takeLow 8 = .ok (.aload_n 0, 1) := by decide +kernel
theorem dX8_takeLow_9 : decode cX8_takeLow 9 = .ok (.getfield 211, 3) := by decide +kernel
theorem dX8_takeLow_12 : decode cX8_takeLow 12 = .ok (.iload_n 1, 1) := by decide +kernel
theorem dX8_takeLow_13 : decode cX8_takeLow 13 = .ok (.invokestatic 109, 3) := by decide +kernel
theorem dX8_takeLow_16 : decode cX8_takeLow 16 = .ok (.ifCond .eq 34, 3) := by decide +kernel
theorem dX8_takeLow_19 : decode cX8_takeLow 19 = .ok (.aload_n 0, 1) := by decide +kernel
theorem dX8_takeLow_20 : decode cX8_takeLow 20 = .ok (.iload_n 1, 1) := by decide +kernel
theorem dX8_takeLow_21 : decode cX8_takeLow 21 = .ok (.invokevirtual 233, 3) := by decide +kernel
theorem dX8_takeLow_24 : decode cX8_takeLow 24 = .ok (.ifCond .eq 26, 3) := by decide +kernel
theorem dX8_takeLow_27 : decode cX8_takeLow 27 = .ok (.aload_n 0, 1) := by decide +kernel
theorem dX8_takeLow_28 : decode cX8_takeLow 28 = .ok (.iload_n 1, 1) := by decide +kernel
theorem dX8_takeLow_29 : decode cX8_takeLow 29 = .ok (.invokevirtual 236, 3) := by decide +kernel
theorem dX8_takeLow_32 : decode cX8_takeLow 32 = .ok (.ifCond .ne 18, 3) := by decide +kernel
theorem dX8_takeLow_35 : decode cX8_takeLow 35 = .ok (.aload_n 0, 1) := by decide +kernel
theorem dX8_takeLow_36 : decode cX8_takeLow 36 = .ok (.bipush 100, 2) := by decide +kernel
theorem dX8_takeLow_38 : decode cX8_takeLow 38 = .ok (.iload_n 1, 1) := by decide +kernel
theorem dX8_takeLow_39 : decode cX8_takeLow 39 = .ok (.iadd, 1) := by decide +kernel
theorem dX8_takeLow_40 : decode cX8_takeLow 40 = .ok (.invokevirtual 239, 3) := by decide +kernel
theorem dX8_takeLow_43 : decode cX8_takeLow 43 = .ok (.aload_n 0, 1) := by decide +kernel
theorem dX8_takeLow_44 : decode cX8_takeLow 44 = .ok (.iload_n 1, 1) := by decide +kernel
theorem dX8_takeLow_45 : decode cX8_takeLow 45 = .ok (.invokevirtual 243, 3) := by decide +kernel
theorem dX8_takeLow_48 : decode cX8_takeLow 48 = .ok (.iconst 1, 1) := by decide +kernel
theorem dX8_takeLow_49 : decode cX8_takeLow 49 = .ok (.ireturn, 1) := by decide +kernel
theorem dX8_takeLow_50 : decode cX8_takeLow 50 = .ok (.iinc 1 1, 3) := by decide +kernel
theorem dX8_takeLow_53 : decode cX8_takeLow 53 = .ok (.goto (-51), 3) := by decide +kernel
theorem dX8_takeLow_56 : decode cX8_takeLow 56 = .ok (.iconst 0, 1) := by decide +kernel
theorem dX8_takeLow_57 : decode cX8_takeLow 57 = .ok (.ireturn, 1) := by decide +kernel
theorem dX8_turnMove_0 : decode cX8_turnMove 0 = .ok (.iconst 0, 1) := by decide +kernel
theorem dX8_turnMove_1 : decode cX8_turnMove 1 = .ok (.istore_n 1, 1) := by decide +kernel
theorem dX8_turnMove_2 : decode cX8_turnMove 2 = .ok (.iload_n 1, 1) := by decide +kernel
theorem dX8_turnMove_3 : decode cX8_turnMove 3 = .ok (.aload_n 0, 1) := by decide +kernel
theorem dX8_turnMove_4 : decode cX8_turnMove 4 = .ok (.getfield 224, 3) := by decide +kernel
theorem dX8_turnMove_7 : decode cX8_turnMove 7 = .ok (.if_icmp .ge 129, 3) := by decide +kernel
theorem dX8_turnMove_10 : decode cX8_turnMove 10 = .ok (.aload_n 0, 1) := by decide +kernel
theorem dX8_turnMove_11 : decode cX8_turnMove 11 = .ok (.getfield 72, 3) := by decide +kernel
theorem dX8_turnMove_14 : decode cX8_turnMove 14 = .ok (.iload_n 1, 1) := by decide +kernel
theorem dX8_turnMove_15 : decode cX8_turnMove 15 = .ok (.baload, 1) := by decide +kernel
theorem dX8_turnMove_16 : decode cX8_turnMove 16 = .ok (.ifCond .eq 114, 3) := by decide +kernel
theorem dX8_turnMove_19 : decode cX8_turnMove 19 = .ok (.aload_n 0, 1) := by decide +kernel
theorem dX8_turnMove_20 : decode cX8_turnMove 20 = .ok (.aload_n 0, 1) := by decide +kernel
theorem dX8_turnMove_21 : decode cX8_turnMove 21 = .ok (.getfield 32, 3) := by decide +kernel
theorem dX8_turnMove_24 : decode cX8_turnMove 24 = .ok (.aload_n 0, 1) := by decide +kernel
theorem dX8_turnMove_25 : decode cX8_turnMove 25 = .ok (.getfield 69, 3) := by decide +kernel
theorem dX8_turnMove_28 : decode cX8_turnMove 28 = .ok (.iload_n 1, 1) := by decide +kernel
theorem dX8_turnMove_29 : decode cX8_turnMove 29 = .ok (.iaload, 1) := by decide +kernel
theorem dX8_turnMove_30 : decode cX8_turnMove 30 = .ok (.iaload, 1) := by decide +kernel
theorem dX8_turnMove_31 : decode cX8_turnMove 31 = .ok (.invokevirtual 221, 3) := by decide +kernel
theorem dX8_turnMove_34 : decode cX8_turnMove 34 = .ok (.istore_n 2, 1) := by decide +kernel
theorem dX8_turnMove_35 : decode cX8_turnMove 35 = .ok (.aload_n 0, 1) := by decide +kernel
theorem dX8_turnMove_36 : decode cX8_turnMove 36 = .ok (.aload_n 0, 1) := by decide +kernel
theorem dX8_turnMove_37 : decode cX8_turnMove 37 = .ok (.getfield 35, 3) := by decide +kernel
theorem dX8_turnMove_40 : decode cX8_turnMove 40 = .ok (.aload_n 0, 1) := by decide +kernel
theorem dX8_turnMove_41 : decode cX8_turnMove 41 = .ok (.getfield 69, 3) := by decide +kernel
theorem dX8_turnMove_44 : decode cX8_turnMove 44 = .ok (.iload_n 1, 1) := by decide +kernel
theorem dX8_turnMove_45 : decode cX8_turnMove 45 = .ok (.iaload, 1) := by decide +kernel
theorem dX8_turnMove_46 : decode cX8_turnMove 46 = .ok (.iaload, 1) := by decide +kernel
theorem dX8_turnMove_47 : decode cX8_turnMove 47 = .ok (.invokevirtual 221, 3) := by decide +kernel
theorem dX8_turnMove_50 : decode cX8_turnMove 50 = .ok (.istore_n 3, 1) := by decide +kernel
theorem dX8_turnMove_51 : decode cX8_turnMove 51 = .ok (.iload_n 2, 1) := by decide +kernel
theorem dX8_turnMove_52 : decode cX8_turnMove 52 = .ok (.iload_n 3, 1) := by decide +kernel
theorem dX8_turnMove_53 : decode cX8_turnMove 53 = .ok (.if_icmp .eq 26, 3) := by decide +kernel
theorem dX8_turnMove_56 : decode cX8_turnMove 56 = .ok (.iload_n 2, 1) := by decide +kernel
theorem dX8_turnMove_57 : decode cX8_turnMove 57 = .ok (.iconst 4, 1) := by decide +kernel
theorem dX8_turnMove_58 : decode cX8_turnMove 58 = .ok (.if_icmp .ge 8, 3) := by decide +kernel
theorem dX8_turnMove_61 : decode cX8_turnMove 61 = .ok (.iload_n 3, 1) := by decide +kernel
theorem dX8_turnMove_62 : decode cX8_turnMove 62 = .ok (.iconst 4, 1) := by decide +kernel
theorem dX8_turnMove_63 : decode cX8_turnMove 63 = .ok (.if_icmp .lt 16, 3) := by decide +kernel
theorem dX8_turnMove_66 : decode cX8_turnMove 66 = .ok (.aload_n 0, 1) := by decide +kernel
theorem dX8_turnMove_67 : decode cX8_turnMove 67 = .ok (.getfield 60, 3) := by decide +kernel
theorem dX8_turnMove_70 : decode cX8_turnMove 70 = .ok (.iload_n 2, 1) := by decide +kernel
theorem dX8_turnMove_71 : decode cX8_turnMove 71 = .ok (.laload, 1) := by decide +kernel
theorem dX8_turnMove_72 : decode cX8_turnMove 72 = .ok (.iload_n 3, 1) := by decide +kernel
theorem dX8_turnMove_73 : decode cX8_turnMove 73 = .ok (.invokestatic 109, 3) := by decide +kernel
theorem dX8_turnMove_76 : decode cX8_turnMove 76 = .ok (.ifCond .eq 21, 3) := by decide +kernel
theorem dX8_turnMove_79 : decode cX8_turnMove 79 = .ok (.aload_n 0, 1) := by decide +kernel
theorem dX8_turnMove_80 : decode cX8_turnMove 80 = .ok (.getfield 72, 3) := by decide +kernel
theorem dX8_turnMove_83 : decode cX8_turnMove 83 = .ok (.iload_n 1, 1) := by decide +kernel
theorem dX8_turnMove_84 : decode cX8_turnMove 84 = .ok (.iconst 0, 1) := by decide +kernel
theorem dX8_turnMove_85 : decode cX8_turnMove 85 = .ok (.bastore, 1) := by decide +kernel
theorem dX8_turnMove_86 : decode cX8_turnMove 86 = .ok (.aload_n 0, 1) := by decide +kernel
theorem dX8_turnMove_87 : decode cX8_turnMove 87 = .ok (.sipush 200, 3) := by decide +kernel
theorem dX8_turnMove_90 : decode cX8_turnMove 90 = .ok (.iload_n 1, 1) := by decide +kernel
theorem dX8_turnMove_91 : decode cX8_turnMove 91 = .ok (.iadd, 1) := by decide +kernel
theorem dX8_turnMove_92 : decode cX8_turnMove 92 = .ok (.invokevirtual 239, 3) := by decide +kernel
theorem dX8_turnMove_95 : decode cX8_turnMove 95 = .ok (.iconst 1, 1) := by decide +kernel
theorem dX8_turnMove_96 : decode cX8_turnMove 96 = .ok (.ireturn, 1) := by decide +kernel
theorem dX8_turnMove_97 : decode cX8_turnMove 97 = .ok (.aload_n 0, 1) := by decide +kernel
theorem dX8_turnMove_98 : decode cX8_turnMove 98 = .ok (.iload_n 2, 1) := by decide +kernel
theorem dX8_turnMove_99 : decode cX8_turnMove 99 = .ok (.iload_n 3, 1) := by decide +kernel
theorem dX8_turnMove_100 : decode cX8_turnMove 100 = .ok (.invokevirtual 246, 3) := by decide +kernel
theorem dX8_turnMove_103 : decode cX8_turnMove 103 = .ok (.ifCond .eq 27, 3) := by decide +kernel
theorem dX8_turnMove_106 : decode cX8_turnMove 106 = .ok (.aload_n 0, 1) := by decide +kernel
theorem dX8_turnMove_107 : decode cX8_turnMove 107 = .ok (.getfield 72, 3) := by decide +kernel
theorem dX8_turnMove_110 : decode cX8_turnMove 110 = .ok (.iload_n 1, 1) := by decide +kernel
theorem dX8_turnMove_111 : decode cX8_turnMove 111 = .ok (.iconst 0, 1) := by decide +kernel
theorem dX8_turnMove_112 : decode cX8_turnMove 112 = .ok (.bastore, 1) := by decide +kernel
theorem dX8_turnMove_113 : decode cX8_turnMove 113 = .ok (.aload_n 0, 1) := by decide +kernel
theorem dX8_turnMove_114 : decode cX8_turnMove 114 = .ok (.sipush 300, 3) := by decide +kernel
theorem dX8_turnMove_117 : decode cX8_turnMove 117 = .ok (.iload_n 1, 1) := by decide +kernel
theorem dX8_turnMove_118 : decode cX8_turnMove 118 = .ok (.iadd, 1) := by decide +kernel
theorem dX8_turnMove_119 : decode cX8_turnMove 119 = .ok (.invokevirtual 239, 3) := by decide +kernel
theorem dX8_turnMove_122 : decode cX8_turnMove 122 = .ok (.aload_n 0, 1) := by decide +kernel
theorem dX8_turnMove_123 : decode cX8_turnMove 123 = .ok (.iload_n 2, 1) := by decide +kernel
theorem dX8_turnMove_124 : decode cX8_turnMove 124 = .ok (.iload_n 3, 1) := by decide +kernel
theorem dX8_turnMove_125 : decode cX8_turnMove 125 = .ok (.invokevirtual 249, 3) := by decide +kernel
theorem dX8_turnMove_128 : decode cX8_turnMove 128 = .ok (.iconst 1, 1) := by decide +kernel
theorem dX8_turnMove_129 : decode cX8_turnMove 129 = .ok (.ireturn, 1) := by decide +kernel
theorem dX8_turnMove_130 : decode cX8_turnMove 130 = .ok (.iinc 1 1, 3) := by decide +kernel
theorem dX8_turnMove_133 : decode cX8_turnMove 133 = .ok (.goto (-131), 3) := by decide +kernel
theorem dX8_turnMove_136 : decode cX8_turnMove 136 = .ok (.iconst 0, 1) := by decide +kernel
theorem dX8_turnMove_137 : decode cX8_turnMove 137 = .ok (.ireturn, 1) := by decide +kernel
theorem dX8_giveUp_0 : decode cX8_giveUp 0 = .ok (.iconst 4, 1) := by decide +kernel
theorem dX8_giveUp_1 : decode cX8_giveUp 1 = .ok (.istore_n 1, 1) := by decide +kernel
theorem dX8_giveUp_2 : decode cX8_giveUp 2 = .ok (.iload_n 1, 1) := by decide +kernel
theorem dX8_giveUp_3 : decode cX8_giveUp 3 = .ok (.bipush 64, 2) := by decide +kernel
theorem dX8_giveUp_5 : decode cX8_giveUp 5 = .ok (.if_icmp .ge 44, 3) := by decide +kernel
theorem dX8_giveUp_8 : decode cX8_giveUp 8 = .ok (.aload_n 0, 1) := by decide +kernel
theorem dX8_giveUp_9 : decode cX8_giveUp 9 = .ok (.getfield 211, 3) := by decide +kernel
theorem dX8_giveUp_12 : decode cX8_giveUp 12 = .ok (.iload_n 1, 1) := by decide +kernel
theorem dX8_giveUp_13 : decode cX8_giveUp 13 = .ok (.invokestatic 109, 3) := by decide +kernel
theorem dX8_giveUp_16 : decode cX8_giveUp 16 = .ok (.ifCond .eq 27, 3) := by decide +kernel
theorem dX8_giveUp_19 : decode cX8_giveUp 19 = .ok (.aload_n 0, 1) := by decide +kernel
theorem dX8_giveUp_20 : decode cX8_giveUp 20 = .ok (.iload_n 1, 1) := by decide +kernel
theorem dX8_giveUp_21 : decode cX8_giveUp 21 = .ok (.invokevirtual 233, 3) := by decide +kernel
theorem dX8_giveUp_24 : decode cX8_giveUp 24 = .ok (.ifCond .eq 19, 3) := by decide +kernel
theorem dX8_giveUp_27 : decode cX8_giveUp 27 = .ok (.aload_n 0, 1) := by decide +kernel
theorem dX8_giveUp_28 : decode cX8_giveUp 28 = .ok (.sipush 400, 3) := by decide +kernel
theorem dX8_giveUp_31 : decode cX8_giveUp 31 = .ok (.iload_n 1, 1) := by decide +kernel
theorem dX8_giveUp_32 : decode cX8_giveUp 32 = .ok (.iadd, 1) := by decide +kernel
theorem dX8_giveUp_33 : decode cX8_giveUp 33 = .ok (.invokevirtual 239, 3) := by decide +kernel
theorem dX8_giveUp_36 : decode cX8_giveUp 36 = .ok (.aload_n 0, 1) := by decide +kernel
theorem dX8_giveUp_37 : decode cX8_giveUp 37 = .ok (.iload_n 1, 1) := by decide +kernel
theorem dX8_giveUp_38 : decode cX8_giveUp 38 = .ok (.invokevirtual 252, 3) := by decide +kernel
theorem dX8_giveUp_41 : decode cX8_giveUp 41 = .ok (.iconst 1, 1) := by decide +kernel
theorem dX8_giveUp_42 : decode cX8_giveUp 42 = .ok (.ireturn, 1) := by decide +kernel
theorem dX8_giveUp_43 : decode cX8_giveUp 43 = .ok (.iinc 1 1, 3) := by decide +kernel
theorem dX8_giveUp_46 : decode cX8_giveUp 46 = .ok (.goto (-44), 3) := by decide +kernel
theorem dX8_giveUp_49 : decode cX8_giveUp 49 = .ok (.iconst 0, 1) := by decide +kernel
theorem dX8_giveUp_50 : decode cX8_giveUp 50 = .ok (.ireturn, 1) := by decide +kernel
theorem dX8_hope_0 : decode cX8_hope 0 = .ok (.bipush (-6), 2) := by decide +kernel
theorem dX8_hope_2 : decode cX8_hope 2 = .ok (.istore_n 1, 1) := by decide +kernel
theorem dX8_hope_3 : decode cX8_hope 3 = .ok (.iconst 0, 1) := by decide +kernel
theorem dX8_hope_4 : decode cX8_hope 4 = .ok (.istore_n 2, 1) := by decide +kernel
theorem dX8_hope_5 : decode cX8_hope 5 = .ok (.iconst 4, 1) := by decide +kernel
theorem dX8_hope_6 : decode cX8_hope 6 = .ok (.istore_n 3, 1) := by decide +kernel
theorem dX8_hope_7 : decode cX8_hope 7 = .ok (.iload_n 3, 1) := by decide +kernel
theorem dX8_hope_8 : decode cX8_hope 8 = .ok (.bipush 64, 2) := by decide +kernel
theorem dX8_hope_10 : decode cX8_hope 10 = .ok (.if_icmp .ge 77, 3) := by decide +kernel
theorem dX8_hope_13 : decode cX8_hope 13 = .ok (.aload_n 0, 1) := by decide +kernel
theorem dX8_hope_14 : decode cX8_hope 14 = .ok (.getfield 211, 3) := by decide +kernel
theorem dX8_hope_17 : decode cX8_hope 17 = .ok (.iload_n 3, 1) := by decide +kernel
theorem dX8_hope_18 : decode cX8_hope 18 = .ok (.invokestatic 109, 3) := by decide +kernel
theorem dX8_hope_21 : decode cX8_hope 21 = .ok (.ifCond .eq 60, 3) := by decide +kernel
theorem dX8_hope_24 : decode cX8_hope 24 = .ok (.aload_n 0, 1) := by decide +kernel
theorem dX8_hope_25 : decode cX8_hope 25 = .ok (.aload_n 0, 1) := by decide +kernel
theorem dX8_hope_26 : decode cX8_hope 26 = .ok (.getfield 66, 3) := by decide +kernel
theorem dX8_hope_29 : decode cX8_hope 29 = .ok (.iload_n 3, 1) := by decide +kernel
theorem dX8_hope_30 : decode cX8_hope 30 = .ok (.iaload, 1) := by decide +kernel
theorem dX8_hope_31 : decode cX8_hope 31 = .ok (.aload_n 0, 1) := by decide +kernel
theorem dX8_hope_32 : decode cX8_hope 32 = .ok (.iload_n 3, 1) := by decide +kernel
theorem dX8_hope_33 : decode cX8_hope 33 = .ok (.invokevirtual 218, 3) := by decide +kernel
theorem dX8_hope_36 : decode cX8_hope 36 = .ok (.invokevirtual 201, 3) := by decide +kernel
theorem dX8_hope_39 : decode cX8_hope 39 = .ok (.istore 4, 2) := by decide +kernel
theorem dX8_hope_41 : decode cX8_hope 41 = .ok (.iload_n 1, 1) := by decide +kernel
theorem dX8_hope_42 : decode cX8_hope 42 = .ok (.ifCond .lt 9, 3) := by decide +kernel
theorem dX8_hope_45 : decode cX8_hope 45 = .ok (.iload 4, 2) := by decide +kernel
theorem dX8_hope_47 : decode cX8_hope 47 = .ok (.iload_n 2, 1) := by decide +kernel
theorem dX8_hope_48 : decode cX8_hope 48 = .ok (.if_icmp .ge 7, 3) := by decide +kernel
