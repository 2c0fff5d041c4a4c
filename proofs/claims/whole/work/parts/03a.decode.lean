theorem dX0_init_0 : decode cX0_init 0 = .ok (.aload_n 0, 1) := by decide +kernel
theorem dX0_init_1 : decode cX0_init 1 = .ok (.invokespecial 3, 3) := by decide +kernel
theorem dX0_init_4 : decode cX0_init 4 = .ok (.aload_n 0, 1) := by decide +kernel
theorem dX0_init_5 : decode cX0_init 5 = .ok (.new 9, 3) := by decide +kernel
theorem dX0_init_8 : decode cX0_init 8 = .ok (.dup, 1) := by decide +kernel
theorem dX0_init_9 : decode cX0_init 9 = .ok (.invokespecial 11, 3) := by decide +kernel
theorem dX0_init_12 : decode cX0_init 12 = .ok (.putfield 12, 3) := by decide +kernel
theorem dX0_init_15 : decode cX0_init 15 = .ok (.aload_n 0, 1) := by decide +kernel
theorem dX0_init_16 : decode cX0_init 16 = .ok (.new 18, 3) := by decide +kernel
theorem dX0_init_19 : decode cX0_init 19 = .ok (.dup, 1) := by decide +kernel
theorem dX0_init_20 : decode cX0_init 20 = .ok (.invokespecial 20, 3) := by decide +kernel
theorem dX0_init_23 : decode cX0_init 23 = .ok (.putfield 21, 3) := by decide +kernel
theorem dX0_init_26 : decode cX0_init 26 = .ok (.aload_n 0, 1) := by decide +kernel
theorem dX0_init_27 : decode cX0_init 27 = .ok (.new 25, 3) := by decide +kernel
theorem dX0_init_30 : decode cX0_init 30 = .ok (.dup, 1) := by decide +kernel
theorem dX0_init_31 : decode cX0_init 31 = .ok (.invokespecial 27, 3) := by decide +kernel
theorem dX0_init_34 : decode cX0_init 34 = .ok (.putfield 28, 3) := by decide +kernel
theorem dX0_init_37 : decode cX0_init 37 = .ok (.aload_n 0, 1) := by decide +kernel
theorem dX0_init_38 : decode cX0_init 38 = .ok (.bipush 64, 2) := by decide +kernel
theorem dX0_init_40 : decode cX0_init 40 = .ok (.newarray .int, 2) := by decide +kernel
theorem dX0_init_42 : decode cX0_init 42 = .ok (.putfield 32, 3) := by decide +kernel
theorem dX0_init_45 : decode cX0_init 45 = .ok (.aload_n 0, 1) := by decide +kernel
theorem dX0_init_46 : decode cX0_init 46 = .ok (.sipush 154, 3) := by decide +kernel
theorem dX0_init_49 : decode cX0_init 49 = .ok (.newarray .int, 2) := by decide +kernel
theorem dX0_init_51 : decode cX0_init 51 = .ok (.putfield 36, 3) := by decide +kernel
theorem dX0_init_54 : decode cX0_init 54 = .ok (.aload_n 0, 1) := by decide +kernel
theorem dX0_init_55 : decode cX0_init 55 = .ok (.iconst 4, 1) := by decide +kernel
theorem dX0_init_56 : decode cX0_init 56 = .ok (.newarray .int, 2) := by decide +kernel
theorem dX0_init_58 : decode cX0_init 58 = .ok (.putfield 39, 3) := by decide +kernel
theorem dX0_init_61 : decode cX0_init 61 = .ok (.aload_n 0, 1) := by decide +kernel
theorem dX0_init_62 : decode cX0_init 62 = .ok (.new 25, 3) := by decide +kernel
theorem dX0_init_65 : decode cX0_init 65 = .ok (.dup, 1) := by decide +kernel
theorem dX0_init_66 : decode cX0_init 66 = .ok (.invokespecial 27, 3) := by decide +kernel
theorem dX0_init_69 : decode cX0_init 69 = .ok (.putfield 42, 3) := by decide +kernel
theorem dX0_init_72 : decode cX0_init 72 = .ok (.aload_n 0, 1) := by decide +kernel
theorem dX0_init_73 : decode cX0_init 73 = .ok (.new 25, 3) := by decide +kernel
theorem dX0_init_76 : decode cX0_init 76 = .ok (.dup, 1) := by decide +kernel
theorem dX0_init_77 : decode cX0_init 77 = .ok (.invokespecial 27, 3) := by decide +kernel
theorem dX0_init_80 : decode cX0_init 80 = .ok (.putfield 45, 3) := by decide +kernel
theorem dX0_init_83 : decode cX0_init 83 = .ok (.aload_n 0, 1) := by decide +kernel
theorem dX0_init_84 : decode cX0_init 84 = .ok (.iconst 0, 1) := by decide +kernel
theorem dX0_init_85 : decode cX0_init 85 = .ok (.putfield 48, 3) := by decide +kernel
theorem dX0_init_88 : decode cX0_init 88 = .ok (.aload_n 0, 1) := by decide +kernel
theorem dX0_init_89 : decode cX0_init 89 = .ok (.lconst 0, 1) := by decide +kernel
theorem dX0_init_90 : decode cX0_init 90 = .ok (.putfield 52, 3) := by decide +kernel
theorem dX0_init_93 : decode cX0_init 93 = .ok (.aload_n 0, 1) := by decide +kernel
theorem dX0_init_94 : decode cX0_init 94 = .ok (.iconst 0, 1) := by decide +kernel
theorem dX0_init_95 : decode cX0_init 95 = .ok (.putfield 56, 3) := by decide +kernel
theorem dX0_init_98 : decode cX0_init 98 = .ok (.aload_n 0, 1) := by decide +kernel
theorem dX0_init_99 : decode cX0_init 99 = .ok (.iconst 0, 1) := by decide +kernel
theorem dX0_init_100 : decode cX0_init 100 = .ok (.putfield 59, 3) := by decide +kernel
theorem dX0_init_103 : decode cX0_init 103 = .ok (.aload_n 0, 1) := by decide +kernel
theorem dX0_init_104 : decode cX0_init 104 = .ok (.bipush 16, 2) := by decide +kernel
theorem dX0_init_106 : decode cX0_init 106 = .ok (.putfield 62, 3) := by decide +kernel
theorem dX0_init_109 : decode cX0_init 109 = .ok (.aload_n 0, 1) := by decide +kernel
theorem dX0_init_110 : decode cX0_init 110 = .ok (.iconst 0, 1) := by decide +kernel
theorem dX0_init_111 : decode cX0_init 111 = .ok (.putfield 65, 3) := by decide +kernel
theorem dX0_init_114 : decode cX0_init 114 = .ok (.aload_n 0, 1) := by decide +kernel
theorem dX0_init_115 : decode cX0_init 115 = .ok (.iconst 0, 1) := by decide +kernel
theorem dX0_init_116 : decode cX0_init 116 = .ok (.putfield 68, 3) := by decide +kernel
theorem dX0_init_119 : decode cX0_init 119 = .ok (.return_, 1) := by decide +kernel
theorem dX0_allot_0 : decode cX0_allot 0 = .ok (.aload_n 0, 1) := by decide +kernel
theorem dX0_allot_1 : decode cX0_allot 1 = .ok (.aload_n 1, 1) := by decide +kernel
theorem dX0_allot_2 : decode cX0_allot 2 = .ok (.invokevirtual 72, 3) := by decide +kernel
theorem dX0_allot_5 : decode cX0_allot 5 = .ok (.iconst 1, 1) := by decide +kernel
theorem dX0_allot_6 : decode cX0_allot 6 = .ok (.istore 4, 2) := by decide +kernel
theorem dX0_allot_8 : decode cX0_allot 8 = .ok (.iconst 0, 1) := by decide +kernel
theorem dX0_allot_9 : decode cX0_allot 9 = .ok (.istore 5, 2) := by decide +kernel
theorem dX0_allot_11 : decode cX0_allot 11 = .ok (.iload 5, 2) := by decide +kernel
theorem dX0_allot_13 : decode cX0_allot 13 = .ok (.bipush 6, 2) := by decide +kernel
theorem dX0_allot_15 : decode cX0_allot 15 = .ok (.if_icmp .ge 103, 3) := by decide +kernel
theorem dX0_allot_18 : decode cX0_allot 18 = .ok (.iload 4, 2) := by decide +kernel
theorem dX0_allot_20 : decode cX0_allot 20 = .ok (.ifCond .eq 98, 3) := by decide +kernel
theorem dX0_allot_23 : decode cX0_allot 23 = .ok (.aload_n 0, 1) := by decide +kernel
theorem dX0_allot_24 : decode cX0_allot 24 = .ok (.getfield 12, 3) := by decide +kernel
theorem dX0_allot_27 : decode cX0_allot 27 = .ok (.aload_n 0, 1) := by decide +kernel
theorem dX0_allot_28 : decode cX0_allot 28 = .ok (.getfield 42, 3) := by decide +kernel
theorem dX0_allot_31 : decode cX0_allot 31 = .ok (.invokevirtual 76, 3) := by decide +kernel
theorem dX0_allot_34 : decode cX0_allot 34 = .ok (.aload_n 0, 1) := by decide +kernel
theorem dX0_allot_35 : decode cX0_allot 35 = .ok (.getfield 21, 3) := by decide +kernel
theorem dX0_allot_38 : decode cX0_allot 38 = .ok (.aload_n 0, 1) := by decide +kernel
theorem dX0_allot_39 : decode cX0_allot 39 = .ok (.getfield 42, 3) := by decide +kernel
theorem dX0_allot_42 : decode cX0_allot 42 = .ok (.aload_n 0, 1) := by decide +kernel
theorem dX0_allot_43 : decode cX0_allot 43 = .ok (.getfield 12, 3) := by decide +kernel
theorem dX0_allot_46 : decode cX0_allot 46 = .ok (.iload_n 2, 1) := by decide +kernel
theorem dX0_allot_47 : decode cX0_allot 47 = .ok (.iload_n 3, 1) := by decide +kernel
theorem dX0_allot_48 : decode cX0_allot 48 = .ok (.invokevirtual 79, 3) := by decide +kernel
theorem dX0_allot_51 : decode cX0_allot 51 = .ok (.aload_n 0, 1) := by decide +kernel
theorem dX0_allot_52 : decode cX0_allot 52 = .ok (.dup, 1) := by decide +kernel
theorem dX0_allot_53 : decode cX0_allot 53 = .ok (.getfield 56, 3) := by decide +kernel
theorem dX0_allot_56 : decode cX0_allot 56 = .ok (.iconst 1, 1) := by decide +kernel
theorem dX0_allot_57 : decode cX0_allot 57 = .ok (.iadd, 1) := by decide +kernel
theorem dX0_allot_58 : decode cX0_allot 58 = .ok (.putfield 56, 3) := by decide +kernel
theorem dX0_allot_61 : decode cX0_allot 61 = .ok (.iload 5, 2) := by decide +kernel
theorem dX0_allot_63 : decode cX0_allot 63 = .ok (.ifCond .ne 7, 3) := by decide +kernel
theorem dX0_allot_66 : decode cX0_allot 66 = .ok (.aload_n 0, 1) := by decide +kernel
theorem dX0_allot_67 : decode cX0_allot 67 = .ok (.invokevirtual 83, 3) := by decide +kernel
theorem dX0_allot_70 : decode cX0_allot 70 = .ok (.aload_n 0, 1) := by decide +kernel
theorem dX0_allot_71 : decode cX0_allot 71 = .ok (.aload_n 0, 1) := by decide +kernel
theorem dX0_allot_72 : decode cX0_allot 72 = .ok (.getfield 21, 3) := by decide +kernel
theorem dX0_allot_75 : decode cX0_allot 75 = .ok (.getfield 86, 3) := by decide +kernel
theorem dX0_allot_78 : decode cX0_allot 78 = .ok (.lconst 0, 1) := by decide +kernel
theorem dX0_allot_79 : decode cX0_allot 79 = .ok (.lcmp, 1) := by decide +kernel
theorem dX0_allot_80 : decode cX0_allot 80 = .ok (.ifCond .ne 7, 3) := by decide +kernel
theorem dX0_allot_83 : decode cX0_allot 83 = .ok (.iconst 1, 1) := by decide +kernel
theorem dX0_allot_84 : decode cX0_allot 84 = .ok (.goto 4, 3) := by decide +kernel
theorem dX0_allot_87 : decode cX0_allot 87 = .ok (.iconst 0, 1) := by decide +kernel
theorem dX0_allot_88 : decode cX0_allot 88 = .ok (.putfield 68, 3) := by decide +kernel
theorem dX0_allot_91 : decode cX0_allot 91 = .ok (.aload_n 0, 1) := by decide +kernel
theorem dX0_allot_92 : decode cX0_allot 92 = .ok (.getfield 68, 3) := by decide +kernel
theorem dX0_allot_95 : decode cX0_allot 95 = .ok (.ifCond .ne 14, 3) := by decide +kernel
theorem dX0_allot_98 : decode cX0_allot 98 = .ok (.aload_n 0, 1) := by decide +kernel
theorem dX0_allot_99 : decode cX0_allot 99 = .ok (.invokevirtual 89, 3) := by decide +kernel
theorem dX0_allot_102 : decode cX0_allot 102 = .ok (.ifCond .eq 7, 3) := by decide +kernel
theorem dX0_allot_105 : decode cX0_allot 105 = .ok (.iconst 1, 1) := by decide +kernel
theorem dX0_allot_106 : decode cX0_allot 106 = .ok (.goto 4, 3) := by decide +kernel
theorem dX0_allot_109 : decode cX0_allot 109 = .ok (.iconst 0, 1) := by decide +kernel
theorem dX0_allot_110 : decode cX0_allot 110 = .ok (.istore 4, 2) := by decide +kernel
theorem dX0_allot_112 : decode cX0_allot 112 = .ok (.iinc 5 1, 3) := by decide +kernel
theorem dX0_allot_115 : decode cX0_allot 115 = .ok (.goto (-104), 3) := by decide +kernel
theorem dX0_allot_118 : decode cX0_allot 118 = .ok (.aload_n 0, 1) := by decide +kernel
theorem dX0_allot_119 : decode cX0_allot 119 = .ok (.getfield 68, 3) := by decide +kernel
theorem dX0_allot_122 : decode cX0_allot 122 = .ok (.ifCond .eq 7, 3) := by decide +kernel
theorem dX0_allot_125 : decode cX0_allot 125 = .ok (.aload_n 0, 1) := by decide +kernel
theorem dX0_allot_126 : decode cX0_allot 126 = .ok (.invokevirtual 93, 3) := by decide +kernel
theorem dX0_allot_129 : decode cX0_allot 129 = .ok (.return_, 1) := by decide +kernel
theorem dX0_begin_0 : decode cX0_begin 0 = .ok (.aload_n 0, 1) := by decide +kernel
theorem dX0_begin_1 : decode cX0_begin 1 = .ok (.getfield 42, 3) := by decide +kernel
theorem dX0_begin_4 : decode cX0_begin 4 = .ok (.aload_n 1, 1) := by decide +kernel
theorem dX0_begin_5 : decode cX0_begin 5 = .ok (.invokevirtual 96, 3) := by decide +kernel
theorem dX0_begin_8 : decode cX0_begin 8 = .ok (.aload_n 0, 1) := by decide +kernel
theorem dX0_begin_9 : decode cX0_begin 9 = .ok (.getfield 32, 3) := by decide +kernel
theorem dX0_begin_12 : decode cX0_begin 12 = .ok (.bipush (-6), 2) := by decide +kernel
theorem dX0_begin_14 : decode cX0_begin 14 = .ok (.invokestatic 99, 3) := by decide +kernel
theorem dX0_begin_17 : decode cX0_begin 17 = .ok (.aload_n 0, 1) := by decide +kernel
theorem dX0_begin_18 : decode cX0_begin 18 = .ok (.iconst 0, 1) := by decide +kernel
theorem dX0_begin_19 : decode cX0_begin 19 = .ok (.putfield 56, 3) := by decide +kernel
theorem dX0_begin_22 : decode cX0_begin 22 = .ok (.aload_n 0, 1) := by decide +kernel
theorem dX0_begin_23 : decode cX0_begin 23 = .ok (.iconst 0, 1) := by decide +kernel
theorem dX0_begin_24 : decode cX0_begin 24 = .ok (.putfield 59, 3) := by decide +kernel
theorem dX0_begin_27 : decode cX0_begin 27 = .ok (.aload_n 0, 1) := by decide +kernel
theorem dX0_begin_28 : decode cX0_begin 28 = .ok (.bipush 16, 2) := by decide +kernel
theorem dX0_begin_30 : decode cX0_begin 30 = .ok (.putfield 62, 3) := by decide +kernel
theorem dX0_begin_33 : decode cX0_begin 33 = .ok (.aload_n 0, 1) := by decide +kernel
theorem dX0_begin_34 : decode cX0_begin 34 = .ok (.iconst 0, 1) := by decide +kernel
theorem dX0_begin_35 : decode cX0_begin 35 = .ok (.putfield 65, 3) := by decide +kernel
theorem dX0_begin_38 : decode cX0_begin 38 = .ok (.aload_n 0, 1) := by decide +kernel
theorem dX0_begin_39 : decode cX0_begin 39 = .ok (.iconst 0, 1) := by decide +kernel
theorem dX0_begin_40 : decode cX0_begin 40 = .ok (.putfield 68, 3) := by decide +kernel
theorem dX0_begin_43 : decode cX0_begin 43 = .ok (.return_, 1) := by decide +kernel
theorem dX0_keepFirstRound_0 : decode cX0_keepFirstRound 0 = .ok (.aload_n 0, 1) := by decide +kernel
theorem dX0_keepFirstRound_1 : decode cX0_keepFirstRound 1 = .ok (.getfield 21, 3) := by decide +kernel
theorem dX0_keepFirstRound_4 : decode cX0_keepFirstRound 4 = .ok (.getfield 105, 3) := by decide +kernel
theorem dX0_keepFirstRound_7 : decode cX0_keepFirstRound 7 = .ok (.iconst 0, 1) := by decide +kernel
theorem dX0_keepFirstRound_8 : decode cX0_keepFirstRound 8 = .ok (.aload_n 0, 1) := by decide +kernel
theorem dX0_keepFirstRound_9 : decode cX0_keepFirstRound 9 = .ok (.getfield 36, 3) := by decide +kernel
theorem dX0_keepFirstRound_12 : decode cX0_keepFirstRound 12 = .ok (.iconst 0, 1) := by decide +kernel
theorem dX0_keepFirstRound_13 : decode cX0_keepFirstRound 13 = .ok (.aload_n 0, 1) := by decide +kernel
theorem dX0_keepFirstRound_14 : decode cX0_keepFirstRound 14 = .ok (.getfield 36, 3) := by decide +kernel
theorem dX0_keepFirstRound_17 : decode cX0_keepFirstRound 17 = .ok (.arraylength, 1) := by decide +kernel
theorem dX0_keepFirstRound_18 : decode cX0_keepFirstRound 18 = .ok (.invokestatic 108, 3) := by decide +kernel
theorem dX0_keepFirstRound_21 : decode cX0_keepFirstRound 21 = .ok (.aload_n 0, 1) := by decide +kernel
theorem dX0_keepFirstRound_22 : decode cX0_keepFirstRound 22 = .ok (.aload_n 0, 1) := by decide +kernel
theorem dX0_keepFirstRound_23 : decode cX0_keepFirstRound 23 = .ok (.getfield 21, 3) := by decide +kernel
theorem dX0_keepFirstRound_26 : decode cX0_keepFirstRound 26 = .ok (.getfield 114, 3) := by decide +kernel
theorem dX0_keepFirstRound_29 : decode cX0_keepFirstRound 29 = .ok (.putfield 48, 3) := by decide +kernel
theorem dX0_keepFirstRound_32 : decode cX0_keepFirstRound 32 = .ok (.aload_n 0, 1) := by decide +kernel
theorem dX0_keepFirstRound_33 : decode cX0_keepFirstRound 33 = .ok (.aload_n 0, 1) := by decide +kernel
theorem dX0_keepFirstRound_34 : decode cX0_keepFirstRound 34 = .ok (.getfield 21, 3) := by decide +kernel
theorem dX0_keepFirstRound_37 : decode cX0_keepFirstRound 37 = .ok (.getfield 86, 3) := by decide +kernel
theorem dX0_keepFirstRound_40 : decode cX0_keepFirstRound 40 = .ok (.putfield 52, 3) := by decide +kernel
theorem dX0_keepFirstRound_43 : decode cX0_keepFirstRound 43 = .ok (.return_, 1) := by decide +kernel
theorem dX0_spill_0 : decode cX0_spill 0 = .ok (.aload_n 0, 1) := by decide +kernel
theorem dX0_spill_1 : decode cX0_spill 1 = .ok (.invokevirtual 117, 3) := by decide +kernel
theorem dX0_spill_4 : decode cX0_spill 4 = .ok (.aload_n 0, 1) := by decide +kernel
theorem dX0_spill_5 : decode cX0_spill 5 = .ok (.getfield 45, 3) := by decide +kernel
theorem dX0_spill_8 : decode cX0_spill 8 = .ok (.invokevirtual 120, 3) := by decide +kernel
theorem dX0_spill_11 : decode cX0_spill 11 = .ok (.iconst 0, 1) := by decide +kernel
theorem dX0_spill_12 : decode cX0_spill 12 = .ok (.istore_n 1, 1) := by decide +kernel
theorem dX0_spill_13 : decode cX0_spill 13 = .ok (.iload_n 1, 1) := by decide +kernel
theorem dX0_spill_14 : decode cX0_spill 14 = .ok (.aload_n 0, 1) := by decide +kernel
theorem dX0_spill_15 : decode cX0_spill 15 = .ok (.getfield 42, 3) := by decide +kernel
theorem dX0_spill_18 : decode cX0_spill 18 = .ok (.getfield 123, 3) := by decide +kernel
theorem dX0_spill_21 : decode cX0_spill 21 = .ok (.if_icmp .ge 19, 3) := by decide +kernel
theorem dX0_spill_24 : decode cX0_spill 24 = .ok (.aload_n 0, 1) := by decide +kernel
theorem dX0_spill_25 : decode cX0_spill 25 = .ok (.iload_n 1, 1) := by decide +kernel
theorem dX0_spill_26 : decode cX0_spill 26 = .ok (.invokevirtual 126, 3) := by decide +kernel
theorem dX0_spill_29 : decode cX0_spill 29 = .ok (.ifCond .ne 5, 3) := by decide +kernel
theorem dX0_spill_32 : decode cX0_spill 32 = .ok (.iconst 0, 1) := by decide +kernel
theorem dX0_spill_33 : decode cX0_spill 33 = .ok (.ireturn, 1) := by decide +kernel
theorem dX0_spill_34 : decode cX0_spill 34 = .ok (.iinc 1 1, 3) := by decide +kernel
theorem dX0_spill_37 : decode cX0_spill 37 = .ok (.goto (-24), 3) := by decide +kernel
theorem dX0_spill_40 : decode cX0_spill 40 = .ok (.aload_n 0, 1) := by decide +kernel
theorem dX0_spill_41 : decode cX0_spill 41 = .ok (.getfield 42, 3) := by decide +kernel
theorem dX0_spill_44 : decode cX0_spill 44 = .ok (.astore_n 1, 1) := by decide +kernel
theorem dX0_spill_45 : decode cX0_spill 45 = .ok (.aload_n 0, 1) := by decide +kernel
theorem dX0_spill_46 : decode cX0_spill 46 = .ok (.aload_n 0, 1) := by decide +kernel
theorem dX0_spill_47 : decode cX0_spill 47 = .ok (.getfield 45, 3) := by decide +kernel
theorem dX0_spill_50 : decode cX0_spill 50 = .ok (.putfield 42, 3) := by decide +kernel
theorem dX0_spill_53 : decode cX0_spill 53 = .ok (.aload_n 0, 1) := by decide +kernel
theorem dX0_spill_54 : decode cX0_spill 54 = .ok (.aload_n 1, 1) := by decide +kernel
theorem dX0_spill_55 : decode cX0_spill 55 = .ok (.putfield 45, 3) := by decide +kernel
theorem dX0_spill_58 : decode cX0_spill 58 = .ok (.iconst 1, 1) := by decide +kernel
theorem dX0_spill_59 : decode cX0_spill 59 = .ok (.ireturn, 1) := by decide +kernel
theorem dX0_giveSlots_0 : decode cX0_giveSlots 0 = .ok (.iconst 0, 1) := by decide +kernel
theorem dX0_giveSlots_1 : decode cX0_giveSlots 1 = .ok (.istore_n 1, 1) := by decide +kernel
theorem dX0_giveSlots_2 : decode cX0_giveSlots 2 = .ok (.iload_n 1, 1) := by decide +kernel
theorem dX0_giveSlots_3 : decode cX0_giveSlots 3 = .ok (.bipush 64, 2) := by decide +kernel
theorem dX0_giveSlots_5 : decode cX0_giveSlots 5 = .ok (.if_icmp .ge 83, 3) := by decide +kernel
theorem dX0_giveSlots_8 : decode cX0_giveSlots 8 = .ok (.aload_n 0, 1) := by decide +kernel
theorem dX0_giveSlots_9 : decode cX0_giveSlots 9 = .ok (.getfield 21, 3) := by decide +kernel
theorem dX0_giveSlots_12 : decode cX0_giveSlots 12 = .ok (.getfield 86, 3) := by decide +kernel
theorem dX0_giveSlots_15 : decode cX0_giveSlots 15 = .ok (.iload_n 1, 1) := by decide +kernel
theorem dX0_giveSlots_16 : decode cX0_giveSlots 16 = .ok (.invokestatic 130, 3) := by decide +kernel
theorem dX0_giveSlots_19 : decode cX0_giveSlots 19 = .ok (.ifCond .eq 63, 3) := by decide +kernel
theorem dX0_giveSlots_22 : decode cX0_giveSlots 22 = .ok (.iconst 0, 1) := by decide +kernel
theorem dX0_giveSlots_23 : decode cX0_giveSlots 23 = .ok (.istore_n 2, 1) := by decide +kernel
theorem dX0_giveSlots_24 : decode cX0_giveSlots 24 = .ok (.iload_n 2, 1) := by decide +kernel
theorem dX0_giveSlots_25 : decode cX0_giveSlots 25 = .ok (.bipush 64, 2) := by decide +kernel
theorem dX0_giveSlots_27 : decode cX0_giveSlots 27 = .ok (.if_icmp .ge 45, 3) := by decide +kernel
theorem dX0_giveSlots_30 : decode cX0_giveSlots 30 = .ok (.aload_n 0, 1) := by decide +kernel
theorem dX0_giveSlots_31 : decode cX0_giveSlots 31 = .ok (.getfield 42, 3) := by decide +kernel
theorem dX0_giveSlots_34 : decode cX0_giveSlots 34 = .ok (.getfield 134, 3) := by decide +kernel
theorem dX0_giveSlots_37 : decode cX0_giveSlots 37 = .ok (.iload_n 2, 1) := by decide +kernel
theorem dX0_giveSlots_38 : decode cX0_giveSlots 38 = .ok (.invokestatic 130, 3) := by decide +kernel
theorem dX0_giveSlots_41 : decode cX0_giveSlots 41 = .ok (.ifCond .eq 25, 3) := by decide +kernel
theorem dX0_giveSlots_44 : decode cX0_giveSlots 44 = .ok (.aload_n 0, 1) := by decide +kernel
theorem dX0_giveSlots_45 : decode cX0_giveSlots 45 = .ok (.getfield 21, 3) := by decide +kernel
theorem dX0_giveSlots_48 : decode cX0_giveSlots 48 = .ok (.iload_n 2, 1) := by decide +kernel
theorem dX0_giveSlots_49 : decode cX0_giveSlots 49 = .ok (.invokevirtual 137, 3) := by decide +kernel
theorem dX0_giveSlots_52 : decode cX0_giveSlots 52 = .ok (.iload_n 1, 1) := by decide +kernel
theorem dX0_giveSlots_53 : decode cX0_giveSlots 53 = .ok (.if_icmp .ne 13, 3) := by decide +kernel
theorem dX0_giveSlots_56 : decode cX0_giveSlots 56 = .ok (.aload_n 0, 1) := by decide +kernel
theorem dX0_giveSlots_57 : decode cX0_giveSlots 57 = .ok (.getfield 32, 3) := by decide +kernel
theorem dX0_giveSlots_60 : decode cX0_giveSlots 60 = .ok (.iload_n 2, 1) := by decide +kernel
theorem dX0_giveSlots_61 : decode cX0_giveSlots 61 = .ok (.aload_n 0, 1) := by decide +kernel
theorem dX0_giveSlots_62 : decode cX0_giveSlots 62 = .ok (.getfield 59, 3) := by decide +kernel
theorem dX0_giveSlots_65 : decode cX0_giveSlots 65 = .ok (.iastore, 1) := by decide +kernel
theorem dX0_giveSlots_66 : decode cX0_giveSlots 66 = .ok (.iinc 2 1, 3) := by decide +kernel
theorem dX0_giveSlots_69 : decode cX0_giveSlots 69 = .ok (.goto (-45), 3) := by decide +kernel
theorem dX0_giveSlots_72 : decode cX0_giveSlots 72 = .ok (.aload_n 0, 1) := by decide +kernel
theorem dX0_giveSlots_73 : decode cX0_giveSlots 73 = .ok (.dup, 1) := by decide +kernel
theorem dX0_giveSlots_74 : decode cX0_giveSlots 74 = .ok (.getfield 59, 3) := by decide +kernel
theorem dX0_giveSlots_77 : decode cX0_giveSlots 77 = .ok (.iconst 1, 1) := by decide +kernel
theorem dX0_giveSlots_78 : decode cX0_giveSlots 78 = .ok (.iadd, 1) := by decide +kernel
theorem dX0_giveSlots_79 : decode cX0_giveSlots 79 = .ok (.putfield 59, 3) := by decide +kernel
theorem dX0_giveSlots_82 : decode cX0_giveSlots 82 = .ok (.iinc 1 1, 3) := by decide +kernel
theorem dX0_giveSlots_85 : decode cX0_giveSlots 85 = .ok (.goto (-83), 3) := by decide +kernel
theorem dX0_giveSlots_88 : decode cX0_giveSlots 88 = .ok (.return_, 1) := by decide +kernel
theorem dX0_rewrite_0 : decode cX0_rewrite 0 = .ok (.aload_n 0, 1) := by decide +kernel
theorem dX0_rewrite_1 : decode cX0_rewrite 1 = .ok (.getfield 42, 3) := by decide +kernel
theorem dX0_rewrite_4 : decode cX0_rewrite 4 = .ok (.iload_n 1, 1) := by decide +kernel
theorem dX0_rewrite_5 : decode cX0_rewrite 5 = .ok (.iconst 0, 1) := by decide +kernel
theorem dX0_rewrite_6 : decode cX0_rewrite 6 = .ok (.invokevirtual 141, 3) := by decide +kernel
theorem dX0_rewrite_9 : decode cX0_rewrite 9 = .ok (.istore_n 2, 1) := by decide +kernel
theorem dX0_rewrite_10 : decode cX0_rewrite 10 = .ok (.iconst 1, 1) := by decide +kernel
theorem dX0_rewrite_11 : decode cX0_rewrite 11 = .ok (.istore_n 3, 1) := by decide +kernel
theorem dX0_rewrite_12 : decode cX0_rewrite 12 = .ok (.iload_n 3, 1) := by decide +kernel
theorem dX0_rewrite_13 : decode cX0_rewrite 13 = .ok (.iconst 3, 1) := by decide +kernel
theorem dX0_rewrite_14 : decode cX0_rewrite 14 = .ok (.if_icmp .gt 97, 3) := by decide +kernel
theorem dX0_rewrite_17 : decode cX0_rewrite 17 = .ok (.aload_n 0, 1) := by decide +kernel
theorem dX0_rewrite_18 : decode cX0_rewrite 18 = .ok (.getfield 39, 3) := by decide +kernel
theorem dX0_rewrite_21 : decode cX0_rewrite 21 = .ok (.iload_n 3, 1) := by decide +kernel
theorem dX0_rewrite_22 : decode cX0_rewrite 22 = .ok (.aload_n 0, 1) := by decide +kernel
theorem dX0_rewrite_23 : decode cX0_rewrite 23 = .ok (.getfield 42, 3) := by decide +kernel
theorem dX0_rewrite_26 : decode cX0_rewrite 26 = .ok (.iload_n 1, 1) := by decide +kernel
theorem dX0_rewrite_27 : decode cX0_rewrite 27 = .ok (.iload_n 3, 1) := by decide +kernel
theorem dX0_rewrite_28 : decode cX0_rewrite 28 = .ok (.invokevirtual 141, 3) := by decide +kernel
theorem dX0_rewrite_31 : decode cX0_rewrite 31 = .ok (.iastore, 1) := by decide +kernel
theorem dX0_rewrite_32 : decode cX0_rewrite 32 = .ok (.aload_n 0, 1) := by decide +kernel
theorem dX0_rewrite_33 : decode cX0_rewrite 33 = .ok (.aload_n 0, 1) := by decide +kernel
theorem dX0_rewrite_34 : decode cX0_rewrite 34 = .ok (.getfield 42, 3) := by decide +kernel
theorem dX0_rewrite_37 : decode cX0_rewrite 37 = .ok (.iload_n 1, 1) := by decide +kernel
theorem dX0_rewrite_38 : decode cX0_rewrite 38 = .ok (.iload_n 3, 1) := by decide +kernel
theorem dX0_rewrite_39 : decode cX0_rewrite 39 = .ok (.invokevirtual 145, 3) := by decide +kernel
theorem dX0_rewrite_42 : decode cX0_rewrite 42 = .ok (.invokevirtual 148, 3) := by decide +kernel
theorem dX0_rewrite_45 : decode cX0_rewrite 45 = .ok (.istore 4, 2) := by decide +kernel
theorem dX0_rewrite_47 : decode cX0_rewrite 47 = .ok (.iload_n 2, 1) := by decide +kernel
theorem dX0_rewrite_48 : decode cX0_rewrite 48 = .ok (.iload_n 3, 1) := by decide +kernel
theorem dX0_rewrite_49 : decode cX0_rewrite 49 = .ok (.invokestatic 151, 3) := by decide +kernel
theorem dX0_rewrite_52 : decode cX0_rewrite 52 = .ok (.bipush 114, 2) := by decide +kernel
theorem dX0_rewrite_54 : decode cX0_rewrite 54 = .ok (.if_icmp .ne 51, 3) := by decide +kernel
theorem dX0_rewrite_57 : decode cX0_rewrite 57 = .ok (.iload 4, 2) := by decide +kernel
theorem dX0_rewrite_59 : decode cX0_rewrite 59 = .ok (.ifCond .lt 46, 3) := by decide +kernel
theorem dX0_rewrite_62 : decode cX0_rewrite 62 = .ok (.aload_n 0, 1) := by decide +kernel
theorem dX0_rewrite_63 : decode cX0_rewrite 63 = .ok (.getfield 39, 3) := by decide +kernel
theorem dX0_rewrite_66 : decode cX0_rewrite 66 = .ok (.iload_n 3, 1) := by decide +kernel
theorem dX0_rewrite_67 : decode cX0_rewrite 67 = .ok (.aload_n 0, 1) := by decide +kernel
theorem dX0_rewrite_68 : decode cX0_rewrite 68 = .ok (.invokevirtual 155, 3) := by decide +kernel
theorem dX0_rewrite_71 : decode cX0_rewrite 71 = .ok (.iastore, 1) := by decide +kernel
theorem dX0_rewrite_72 : decode cX0_rewrite 72 = .ok (.aload_n 0, 1) := by decide +kernel
theorem dX0_rewrite_73 : decode cX0_rewrite 73 = .ok (.getfield 39, 3) := by decide +kernel
theorem dX0_rewrite_76 : decode cX0_rewrite 76 = .ok (.iload_n 3, 1) := by decide +kernel
theorem dX0_rewrite_77 : decode cX0_rewrite 77 = .ok (.iaload, 1) := by decide +kernel
theorem dX0_rewrite_78 : decode cX0_rewrite 78 = .ok (.ifCond .lt 25, 3) := by decide +kernel
theorem dX0_rewrite_81 : decode cX0_rewrite 81 = .ok (.aload_n 0, 1) := by decide +kernel
theorem dX0_rewrite_82 : decode cX0_rewrite 82 = .ok (.getfield 45, 3) := by decide +kernel
theorem dX0_rewrite_85 : decode cX0_rewrite 85 = .ok (.bipush 7, 2) := by decide +kernel
theorem dX0_rewrite_87 : decode cX0_rewrite 87 = .ok (.aload_n 0, 1) := by decide +kernel
theorem dX0_rewrite_88 : decode cX0_rewrite 88 = .ok (.getfield 39, 3) := by decide +kernel
theorem dX0_rewrite_91 : decode cX0_rewrite 91 = .ok (.iload_n 3, 1) := by decide +kernel
theorem dX0_rewrite_92 : decode cX0_rewrite 92 = .ok (.iaload, 1) := by decide +kernel
theorem dX0_rewrite_93 : decode cX0_rewrite 93 = .ok (.iload 4, 2) := by decide +kernel
theorem dX0_rewrite_95 : decode cX0_rewrite 95 = .ok (.bipush (-6), 2) := by decide +kernel
theorem dX0_rewrite_97 : decode cX0_rewrite 97 = .ok (.invokevirtual 159, 3) := by decide +kernel
theorem dX0_rewrite_100 : decode cX0_rewrite 100 = .ok (.ifCond .ne 5, 3) := by decide +kernel
theorem dX0_rewrite_103 : decode cX0_rewrite 103 = .ok (.iconst 0, 1) := by decide +kernel
theorem dX0_rewrite_104 : decode cX0_rewrite 104 = .ok (.ireturn, 1) := by decide +kernel
theorem dX0_rewrite_105 : decode cX0_rewrite 105 = .ok (.iinc 3 1, 3) := by decide +kernel
theorem dX0_rewrite_108 : decode cX0_rewrite 108 = .ok (.goto (-96), 3) := by decide +kernel
theorem dX0_rewrite_111 : decode cX0_rewrite 111 = .ok (.aload_n 0, 1) := by decide +kernel
theorem dX0_rewrite_112 : decode cX0_rewrite 112 = .ok (.aload_n 0, 1) := by decide +kernel
theorem dX0_rewrite_113 : decode cX0_rewrite 113 = .ok (.getfield 42, 3) := by decide +kernel
theorem dX0_rewrite_116 : decode cX0_rewrite 116 = .ok (.iload_n 1, 1) := by decide +kernel
theorem dX0_rewrite_117 : decode cX0_rewrite 117 = .ok (.iconst 1, 1) := by decide +kernel
theorem dX0_rewrite_118 : decode cX0_rewrite 118 = .ok (.invokevirtual 145, 3) := by decide +kernel
theorem dX0_rewrite_121 : decode cX0_rewrite 121 = .ok (.invokevirtual 148, 3) := by decide +kernel
theorem dX0_rewrite_124 : decode cX0_rewrite 124 = .ok (.istore_n 3, 1) := by decide +kernel
theorem dX0_rewrite_125 : decode cX0_rewrite 125 = .ok (.iload_n 2, 1) := by decide +kernel
theorem dX0_rewrite_126 : decode cX0_rewrite 126 = .ok (.iconst 1, 1) := by decide +kernel
theorem dX0_rewrite_127 : decode cX0_rewrite 127 = .ok (.invokestatic 151, 3) := by decide +kernel
theorem dX0_rewrite_130 : decode cX0_rewrite 130 = .ok (.bipush 119, 2) := by decide +kernel
theorem dX0_rewrite_132 : decode cX0_rewrite 132 = .ok (.if_icmp .ne 11, 3) := by decide +kernel
theorem dX0_rewrite_135 : decode cX0_rewrite 135 = .ok (.iload_n 3, 1) := by decide +kernel
theorem dX0_rewrite_136 : decode cX0_rewrite 136 = .ok (.ifCond .lt 7, 3) := by decide +kernel
theorem dX0_rewrite_139 : decode cX0_rewrite 139 = .ok (.iconst 1, 1) := by decide +kernel
theorem dX0_rewrite_140 : decode cX0_rewrite 140 = .ok (.goto 4, 3) := by decide +kernel
theorem dX0_rewrite_143 : decode cX0_rewrite 143 = .ok (.iconst 0, 1) := by decide +kernel
theorem dX0_rewrite_144 : decode cX0_rewrite 144 = .ok (.istore 4, 2) := by decide +kernel
theorem dX0_rewrite_146 : decode cX0_rewrite 146 = .ok (.iload 4, 2) := by decide +kernel
theorem dX0_rewrite_148 : decode cX0_rewrite 148 = .ok (.ifCond .eq 24, 3) := by decide +kernel
theorem dX0_rewrite_151 : decode cX0_rewrite 151 = .ok (.aload_n 0, 1) := by decide +kernel
theorem dX0_rewrite_152 : decode cX0_rewrite 152 = .ok (.getfield 39, 3) := by decide +kernel
theorem dX0_rewrite_155 : decode cX0_rewrite 155 = .ok (.iconst 1, 1) := by decide +kernel
theorem dX0_rewrite_156 : decode cX0_rewrite 156 = .ok (.aload_n 0, 1) := by decide +kernel
theorem dX0_rewrite_157 : decode cX0_rewrite 157 = .ok (.invokevirtual 155, 3) := by decide +kernel
theorem dX0_rewrite_160 : decode cX0_rewrite 160 = .ok (.iastore, 1) := by decide +kernel
theorem dX0_rewrite_161 : decode cX0_rewrite 161 = .ok (.aload_n 0, 1) := by decide +kernel
theorem dX0_rewrite_162 : decode cX0_rewrite 162 = .ok (.getfield 39, 3) := by decide +kernel
theorem dX0_rewrite_165 : decode cX0_rewrite 165 = .ok (.iconst 1, 1) := by decide +kernel
theorem dX0_rewrite_166 : decode cX0_rewrite 166 = .ok (.iaload, 1) := by decide +kernel
theorem dX0_rewrite_167 : decode cX0_rewrite 167 = .ok (.ifCond .ge 5, 3) := by decide +kernel
theorem dX0_rewrite_170 : decode cX0_rewrite 170 = .ok (.iconst 0, 1) := by decide +kernel
theorem dX0_rewrite_171 : decode cX0_rewrite 171 = .ok (.ireturn, 1) := by decide +kernel
theorem dX0_rewrite_172 : decode cX0_rewrite 172 = .ok (.aload_n 0, 1) := by decide +kernel
theorem dX0_rewrite_173 : decode cX0_rewrite 173 = .ok (.getfield 45, 3) := by decide +kernel
theorem dX0_rewrite_176 : decode cX0_rewrite 176 = .ok (.iload_n 2, 1) := by decide +kernel
theorem dX0_rewrite_177 : decode cX0_rewrite 177 = .ok (.aload_n 0, 1) := by decide +kernel
theorem dX0_rewrite_178 : decode cX0_rewrite 178 = .ok (.getfield 39, 3) := by decide +kernel
theorem dX0_rewrite_181 : decode cX0_rewrite 181 = .ok (.iconst 1, 1) := by decide +kernel
theorem dX0_rewrite_182 : decode cX0_rewrite 182 = .ok (.iaload, 1) := by decide +kernel
theorem dX0_rewrite_183 : decode cX0_rewrite 183 = .ok (.aload_n 0, 1) := by decide +kernel
theorem dX0_rewrite_184 : decode cX0_rewrite 184 = .ok (.getfield 39, 3) := by decide +kernel
theorem dX0_rewrite_187 : decode cX0_rewrite 187 = .ok (.iconst 2, 1) := by decide +kernel
theorem dX0_rewrite_188 : decode cX0_rewrite 188 = .ok (.iaload, 1) := by decide +kernel
theorem dX0_rewrite_189 : decode cX0_rewrite 189 = .ok (.aload_n 0, 1) := by decide +kernel
theorem dX0_rewrite_190 : decode cX0_rewrite 190 = .ok (.getfield 39, 3) := by decide +kernel
theorem dX0_rewrite_193 : decode cX0_rewrite 193 = .ok (.iconst 3, 1) := by decide +kernel
theorem dX0_rewrite_194 : decode cX0_rewrite 194 = .ok (.iaload, 1) := by decide +kernel
theorem dX0_rewrite_195 : decode cX0_rewrite 195 = .ok (.invokevirtual 159, 3) := by decide +kernel
theorem dX0_rewrite_198 : decode cX0_rewrite 198 = .ok (.ifCond .eq 33, 3) := by decide +kernel
theorem dX0_rewrite_201 : decode cX0_rewrite 201 = .ok (.iload 4, 2) := by decide +kernel
theorem dX0_rewrite_203 : decode cX0_rewrite 203 = .ok (.ifCond .eq 24, 3) := by decide +kernel
theorem dX0_rewrite_206 : decode cX0_rewrite 206 = .ok (.aload_n 0, 1) := by decide +kernel
theorem dX0_rewrite_207 : decode cX0_rewrite 207 = .ok (.getfield 45, 3) := by decide +kernel
theorem dX0_rewrite_210 : decode cX0_rewrite 210 = .ok (.bipush 8, 2) := by decide +kernel
theorem dX0_rewrite_212 : decode cX0_rewrite 212 = .ok (.aload_n 0, 1) := by decide +kernel
theorem dX0_rewrite_213 : decode cX0_rewrite 213 = .ok (.getfield 39, 3) := by decide +kernel
theorem dX0_rewrite_216 : decode cX0_rewrite 216 = .ok (.iconst 1, 1) := by decide +kernel
theorem dX0_rewrite_217 : decode cX0_rewrite 217 = .ok (.iaload, 1) := by decide +kernel
theorem dX0_rewrite_218 : decode cX0_rewrite 218 = .ok (.iload_n 3, 1) := by decide +kernel
theorem dX0_rewrite_219 : decode cX0_rewrite 219 = .ok (.bipush (-6), 2) := by decide +kernel
theorem dX0_rewrite_221 : decode cX0_rewrite 221 = .ok (.invokevirtual 159, 3) := by decide +kernel
theorem dX0_rewrite_224 : decode cX0_rewrite 224 = .ok (.ifCond .eq 7, 3) := by decide +kernel
theorem dX0_rewrite_227 : decode cX0_rewrite 227 = .ok (.iconst 1, 1) := by decide +kernel
theorem dX0_rewrite_228 : decode cX0_rewrite 228 = .ok (.goto 4, 3) := by decide +kernel
theorem dX0_rewrite_231 : decode cX0_rewrite 231 = .ok (.iconst 0, 1) := by decide +kernel
theorem dX0_rewrite_232 : decode cX0_rewrite 232 = .ok (.ireturn, 1) := by decide +kernel
theorem dX0_slotOfName_0 : decode cX0_slotOfName 0 = .ok (.iload_n 1, 1) := by decide +kernel
theorem dX0_slotOfName_1 : decode cX0_slotOfName 1 = .ok (.ifCond .lt 18, 3) := by decide +kernel
theorem dX0_slotOfName_4 : decode cX0_slotOfName 4 = .ok (.iload_n 1, 1) := by decide +kernel
theorem dX0_slotOfName_5 : decode cX0_slotOfName 5 = .ok (.bipush 64, 2) := by decide +kernel
theorem dX0_slotOfName_7 : decode cX0_slotOfName 7 = .ok (.if_icmp .ge 12, 3) := by decide +kernel
theorem dX0_slotOfName_10 : decode cX0_slotOfName 10 = .ok (.aload_n 0, 1) := by decide +kernel
theorem dX0_slotOfName_11 : decode cX0_slotOfName 11 = .ok (.getfield 32, 3) := by decide +kernel
theorem dX0_slotOfName_14 : decode cX0_slotOfName 14 = .ok (.iload_n 1, 1) := by decide +kernel
theorem dX0_slotOfName_15 : decode cX0_slotOfName 15 = .ok (.iaload, 1) := by decide +kernel
theorem dX0_slotOfName_16 : decode cX0_slotOfName 16 = .ok (.goto 5, 3) := by decide +kernel
theorem dX0_slotOfName_19 : decode cX0_slotOfName 19 = .ok (.bipush (-6), 2) := by decide +kernel
theorem dX0_slotOfName_21 : decode cX0_slotOfName 21 = .ok (.ireturn, 1) := by decide +kernel
theorem dX0_makeName_0 : decode cX0_makeName 0 = .ok (.aload_n 0, 1) := by decide +kernel
theorem dX0_makeName_1 : decode cX0_makeName 1 = .ok (.getfield 62, 3) := by decide +kernel
theorem dX0_makeName_4 : decode cX0_makeName 4 = .ok (.bipush 64, 2) := by decide +kernel
theorem dX0_makeName_6 : decode cX0_makeName 6 = .ok (.if_icmp .lt 6, 3) := by decide +kernel
theorem dX0_makeName_9 : decode cX0_makeName 9 = .ok (.bipush (-6), 2) := by decide +kernel
theorem dX0_makeName_11 : decode cX0_makeName 11 = .ok (.ireturn, 1) := by decide +kernel
theorem dX0_makeName_12 : decode cX0_makeName 12 = .ok (.aload_n 0, 1) := by decide +kernel
theorem dX0_makeName_13 : decode cX0_makeName 13 = .ok (.dup, 1) := by decide +kernel
theorem dX0_makeName_14 : decode cX0_makeName 14 = .ok (.getfield 62, 3) := by decide +kernel
theorem dX0_makeName_17 : decode cX0_makeName 17 = .ok (.iconst 1, 1) := by decide +kernel
theorem dX0_makeName_18 : decode cX0_makeName 18 = .ok (.iadd, 1) := by decide +kernel
theorem dX0_makeName_19 : decode cX0_makeName 19 = .ok (.putfield 62, 3) := by decide +kernel
theorem dX0_makeName_22 : decode cX0_makeName 22 = .ok (.aload_n 0, 1) := by decide +kernel
theorem dX0_makeName_23 : decode cX0_makeName 23 = .ok (.getfield 62, 3) := by decide +kernel
theorem dX0_makeName_26 : decode cX0_makeName 26 = .ok (.iconst 1, 1) := by decide +kernel
theorem dX0_makeName_27 : decode cX0_makeName 27 = .ok (.isub, 1) := by decide +kernel
theorem dX0_makeName_28 : decode cX0_makeName 28 = .ok (.ireturn, 1) := by decide +kernel
theorem dX0_finish_0 : decode cX0_finish 0 = .ok (.aload_n 0, 1) := by decide +kernel
theorem dX0_finish_1 : decode cX0_finish 1 = .ok (.getfield 28, 3) := by decide +kernel
theorem dX0_finish_4 : decode cX0_finish 4 = .ok (.invokevirtual 120, 3) := by decide +kernel
theorem dX0_finish_7 : decode cX0_finish 7 = .ok (.iconst 0, 1) := by decide +kernel
theorem dX0_finish_8 : decode cX0_finish 8 = .ok (.istore_n 1, 1) := by decide +kernel
theorem dX0_finish_9 : decode cX0_finish 9 = .ok (.iload_n 1, 1) := by decide +kernel
theorem dX0_finish_10 : decode cX0_finish 10 = .ok (.aload_n 0, 1) := by decide +kernel
theorem dX0_finish_11 : decode cX0_finish 11 = .ok (.getfield 42, 3) := by decide +kernel
theorem dX0_finish_14 : decode cX0_finish 14 = .ok (.getfield 123, 3) := by decide +kernel
theorem dX0_finish_17 : decode cX0_finish 17 = .ok (.if_icmp .ge 132, 3) := by decide +kernel
theorem dX0_finish_20 : decode cX0_finish 20 = .ok (.aload_n 0, 1) := by decide +kernel
theorem dX0_finish_21 : decode cX0_finish 21 = .ok (.getfield 42, 3) := by decide +kernel
theorem dX0_finish_24 : decode cX0_finish 24 = .ok (.iload_n 1, 1) := by decide +kernel
theorem dX0_finish_25 : decode cX0_finish 25 = .ok (.iconst 0, 1) := by decide +kernel
theorem dX0_finish_26 : decode cX0_finish 26 = .ok (.invokevirtual 141, 3) := by decide +kernel
theorem dX0_finish_29 : decode cX0_finish 29 = .ok (.istore_n 2, 1) := by decide +kernel
theorem dX0_finish_30 : decode cX0_finish 30 = .ok (.iconst 1, 1) := by decide +kernel
theorem dX0_finish_31 : decode cX0_finish 31 = .ok (.istore_n 3, 1) := by decide +kernel
theorem dX0_finish_32 : decode cX0_finish 32 = .ok (.iload_n 3, 1) := by decide +kernel
theorem dX0_finish_33 : decode cX0_finish 33 = .ok (.iconst 3, 1) := by decide +kernel
theorem dX0_finish_34 : decode cX0_finish 34 = .ok (.if_icmp .gt 49, 3) := by decide +kernel
theorem dX0_finish_37 : decode cX0_finish 37 = .ok (.aload_n 0, 1) := by decide +kernel
theorem dX0_finish_38 : decode cX0_finish 38 = .ok (.getfield 42, 3) := by decide +kernel
theorem dX0_finish_41 : decode cX0_finish 41 = .ok (.iload_n 1, 1) := by decide +kernel
theorem dX0_finish_42 : decode cX0_finish 42 = .ok (.iload_n 3, 1) := by decide +kernel
theorem dX0_finish_43 : decode cX0_finish 43 = .ok (.invokevirtual 145, 3) := by decide +kernel
theorem dX0_finish_46 : decode cX0_finish 46 = .ok (.istore 4, 2) := by decide +kernel
theorem dX0_finish_48 : decode cX0_finish 48 = .ok (.aload_n 0, 1) := by decide +kernel
theorem dX0_finish_49 : decode cX0_finish 49 = .ok (.getfield 39, 3) := by decide +kernel
theorem dX0_finish_52 : decode cX0_finish 52 = .ok (.iload_n 3, 1) := by decide +kernel
theorem dX0_finish_53 : decode cX0_finish 53 = .ok (.iload 4, 2) := by decide +kernel
theorem dX0_finish_55 : decode cX0_finish 55 = .ok (.ifCond .lt 12, 3) := by decide +kernel
theorem dX0_finish_58 : decode cX0_finish 58 = .ok (.aload_n 0, 1) := by decide +kernel
theorem dX0_finish_59 : decode cX0_finish 59 = .ok (.iload 4, 2) := by decide +kernel
theorem dX0_finish_61 : decode cX0_finish 61 = .ok (.invokevirtual 163, 3) := by decide +kernel
theorem dX0_finish_64 : decode cX0_finish 64 = .ok (.goto 12, 3) := by decide +kernel
theorem dX0_finish_67 : decode cX0_finish 67 = .ok (.aload_n 0, 1) := by decide +kernel
theorem dX0_finish_68 : decode cX0_finish 68 = .ok (.getfield 42, 3) := by decide +kernel
theorem dX0_finish_71 : decode cX0_finish 71 = .ok (.iload_n 1, 1) := by decide +kernel
theorem dX0_finish_72 : decode cX0_finish 72 = .ok (.iload_n 3, 1) := by decide +kernel
theorem dX0_finish_73 : decode cX0_finish 73 = .ok (.invokevirtual 141, 3) := by decide +kernel
theorem dX0_finish_76 : decode cX0_finish 76 = .ok (.iastore, 1) := by decide +kernel
theorem dX0_finish_77 : decode cX0_finish 77 = .ok (.iinc 3 1, 3) := by decide +kernel
theorem dX0_finish_80 : decode cX0_finish 80 = .ok (.goto (-48), 3) := by decide +kernel
theorem dX0_finish_83 : decode cX0_finish 83 = .ok (.iload_n 2, 1) := by decide +kernel
theorem dX0_finish_84 : decode cX0_finish 84 = .ok (.iconst 1, 1) := by decide +kernel
theorem dX0_finish_85 : decode cX0_finish 85 = .ok (.if_icmp .ne 31, 3) := by decide +kernel
theorem dX0_finish_88 : decode cX0_finish 88 = .ok (.aload_n 0, 1) := by decide +kernel
theorem dX0_finish_89 : decode cX0_finish 89 = .ok (.getfield 39, 3) := by decide +kernel
theorem dX0_finish_92 : decode cX0_finish 92 = .ok (.iconst 1, 1) := by decide +kernel
theorem dX0_finish_93 : decode cX0_finish 93 = .ok (.iaload, 1) := by decide +kernel
theorem dX0_finish_94 : decode cX0_finish 94 = .ok (.aload_n 0, 1) := by decide +kernel
theorem dX0_finish_95 : decode cX0_finish 95 = .ok (.getfield 39, 3) := by decide +kernel
theorem dX0_finish_98 : decode cX0_finish 98 = .ok (.iconst 2, 1) := by decide +kernel
theorem dX0_finish_99 : decode cX0_finish 99 = .ok (.iaload, 1) := by decide +kernel
theorem dX0_finish_100 : decode cX0_finish 100 = .ok (.if_icmp .ne 16, 3) := by decide +kernel
theorem dX0_finish_103 : decode cX0_finish 103 = .ok (.aload_n 0, 1) := by decide +kernel
theorem dX0_finish_104 : decode cX0_finish 104 = .ok (.dup, 1) := by decide +kernel
theorem dX0_finish_105 : decode cX0_finish 105 = .ok (.getfield 65, 3) := by decide +kernel
theorem dX0_finish_108 : decode cX0_finish 108 = .ok (.iconst 1, 1) := by decide +kernel
theorem dX0_finish_109 : decode cX0_finish 109 = .ok (.iadd, 1) := by decide +kernel
theorem dX0_finish_110 : decode cX0_finish 110 = .ok (.putfield 65, 3) := by decide +kernel
theorem dX0_finish_113 : decode cX0_finish 113 = .ok (.goto 30, 3) := by decide +kernel
theorem dX0_finish_116 : decode cX0_finish 116 = .ok (.aload_n 0, 1) := by decide +kernel
theorem dX0_finish_117 : decode cX0_finish 117 = .ok (.getfield 28, 3) := by decide +kernel
theorem dX0_finish_120 : decode cX0_finish 120 = .ok (.iload_n 2, 1) := by decide +kernel
theorem dX0_finish_121 : decode cX0_finish 121 = .ok (.aload_n 0, 1) := by decide +kernel
theorem dX0_finish_122 : decode cX0_finish 122 = .ok (.getfield 39, 3) := by decide +kernel
theorem dX0_finish_125 : decode cX0_finish 125 = .ok (.iconst 1, 1) := by decide +kernel
theorem dX0_finish_126 : decode cX0_finish 126 = .ok (.iaload, 1) := by decide +kernel
theorem dX0_finish_127 : decode cX0_finish 127 = .ok (.aload_n 0, 1) := by decide +kernel
theorem dX0_finish_128 : decode cX0_finish 128 = .ok (.getfield 39, 3) := by decide +kernel
theorem dX0_finish_131 : decode cX0_finish 131 = .ok (.iconst 2, 1) := by decide +kernel
theorem dX0_finish_132 : decode cX0_finish 132 = .ok (.iaload, 1) := by decide +kernel
theorem dX0_finish_133 : decode cX0_finish 133 = .ok (.aload_n 0, 1) := by decide +kernel
theorem dX0_finish_134 : decode cX0_finish 134 = .ok (.getfield 39, 3) := by decide +kernel
theorem dX0_finish_137 : decode cX0_finish 137 = .ok (.iconst 3, 1) := by decide +kernel
theorem dX0_finish_138 : decode cX0_finish 138 = .ok (.iaload, 1) := by decide +kernel
theorem dX0_finish_139 : decode cX0_finish 139 = .ok (.invokevirtual 159, 3) := by decide +kernel
theorem dX0_finish_142 : decode cX0_finish 142 = .ok (.pop, 1) := by decide +kernel
theorem dX0_finish_143 : decode cX0_finish 143 = .ok (.iinc 1 1, 3) := by decide +kernel
theorem dX0_finish_146 : decode cX0_finish 146 = .ok (.goto (-137), 3) := by decide +kernel
theorem dX0_finish_149 : decode cX0_finish 149 = .ok (.return_, 1) := by decide +kernel
theorem dX0_registerOf_0 : decode cX0_registerOf 0 = .ok (.aload_n 0, 1) := by decide +kernel
theorem dX0_registerOf_1 : decode cX0_registerOf 1 = .ok (.getfield 21, 3) := by decide +kernel
theorem dX0_registerOf_4 : decode cX0_registerOf 4 = .ok (.getfield 166, 3) := by decide +kernel
theorem dX0_registerOf_7 : decode cX0_registerOf 7 = .ok (.aload_n 0, 1) := by decide +kernel
theorem dX0_registerOf_8 : decode cX0_registerOf 8 = .ok (.getfield 21, 3) := by decide +kernel
theorem dX0_registerOf_11 : decode cX0_registerOf 11 = .ok (.iload_n 1, 1) := by decide +kernel
theorem dX0_registerOf_12 : decode cX0_registerOf 12 = .ok (.invokevirtual 137, 3) := by decide +kernel
theorem dX0_registerOf_15 : decode cX0_registerOf 15 = .ok (.iaload, 1) := by decide +kernel
theorem dX0_registerOf_16 : decode cX0_registerOf 16 = .ok (.ireturn, 1) := by decide +kernel
theorem dX0_placeOf_0 : decode cX0_placeOf 0 = .ok (.aload_n 0, 1) := by decide +kernel
theorem dX0_placeOf_1 : decode cX0_placeOf 1 = .ok (.iload_n 1, 1) := by decide +kernel
theorem dX0_placeOf_2 : decode cX0_placeOf 2 = .ok (.invokevirtual 148, 3) := by decide +kernel
theorem dX0_placeOf_5 : decode cX0_placeOf 5 = .ok (.istore_n 2, 1) := by decide +kernel
theorem dX0_placeOf_6 : decode cX0_placeOf 6 = .ok (.iload_n 2, 1) := by decide +kernel
theorem dX0_placeOf_7 : decode cX0_placeOf 7 = .ok (.ifCond .lt 10, 3) := by decide +kernel
theorem dX0_placeOf_10 : decode cX0_placeOf 10 = .ok (.bipush 10, 2) := by decide +kernel
theorem dX0_placeOf_12 : decode cX0_placeOf 12 = .ok (.iload_n 2, 1) := by decide +kernel
theorem dX0_placeOf_13 : decode cX0_placeOf 13 = .ok (.iadd, 1) := by decide +kernel
theorem dX0_placeOf_14 : decode cX0_placeOf 14 = .ok (.goto 8, 3) := by decide +kernel
theorem dX0_placeOf_17 : decode cX0_placeOf 17 = .ok (.aload_n 0, 1) := by decide +kernel
theorem dX0_placeOf_18 : decode cX0_placeOf 18 = .ok (.iload_n 1, 1) := by decide +kernel
theorem dX0_placeOf_19 : decode cX0_placeOf 19 = .ok (.invokevirtual 163, 3) := by decide +kernel
theorem dX0_placeOf_22 : decode cX0_placeOf 22 = .ok (.ireturn, 1) := by decide +kernel
theorem dX1_init_0 : decode cX1_init 0 = .ok (.aload_n 0, 1) := by decide +kernel
theorem dX1_init_1 : decode cX1_init 1 = .ok (.invokespecial 1, 3) := by decide +kernel
theorem dX1_init_4 : decode cX1_init 4 = .ok (.aload_n 0, 1) := by decide +kernel
theorem dX1_init_5 : decode cX1_init 5 = .ok (.new 7, 3) := by decide +kernel
theorem dX1_init_8 : decode cX1_init 8 = .ok (.dup, 1) := by decide +kernel
theorem dX1_init_9 : decode cX1_init 9 = .ok (.invokespecial 9, 3) := by decide +kernel
theorem dX1_init_12 : decode cX1_init 12 = .ok (.putfield 10, 3) := by decide +kernel
theorem dX1_init_15 : decode cX1_init 15 = .ok (.aload_n 0, 1) := by decide +kernel
theorem dX1_init_16 : decode cX1_init 16 = .ok (.iconst 0, 1) := by decide +kernel
theorem dX1_init_17 : decode cX1_init 17 = .ok (.putfield 16, 3) := by decide +kernel
theorem dX1_init_20 : decode cX1_init 20 = .ok (.aload_n 0, 1) := by decide +kernel
theorem dX1_init_21 : decode cX1_init 21 = .ok (.iconst 0, 1) := by decide +kernel
theorem dX1_init_22 : decode cX1_init 22 = .ok (.putfield 20, 3) := by decide +kernel
theorem dX1_init_25 : decode cX1_init 25 = .ok (.aload_n 0, 1) := by decide +kernel
theorem dX1_init_26 : decode cX1_init 26 = .ok (.iconst 0, 1) := by decide +kernel
theorem dX1_init_27 : decode cX1_init 27 = .ok (.putfield 23, 3) := by decide +kernel
theorem dX1_init_30 : decode cX1_init 30 = .ok (.return_, 1) := by decide +kernel
theorem dX2_init_0 : decode cX2_init 0 = .ok (.aload_n 0, 1) := by decide +kernel
theorem dX2_init_1 : decode cX2_init 1 = .ok (.invokespecial 3, 3) := by decide +kernel
theorem dX2_init_4 : decode cX2_init 4 = .ok (.aload_n 0, 1) := by decide +kernel
theorem dX2_init_5 : decode cX2_init 5 = .ok (.sipush 360, 3) := by decide +kernel
theorem dX2_init_8 : decode cX2_init 8 = .ok (.newarray .int, 2) := by decide +kernel
theorem dX2_init_10 : decode cX2_init 10 = .ok (.putfield 9, 3) := by decide +kernel
theorem dX2_init_13 : decode cX2_init 13 = .ok (.aload_n 0, 1) := by decide +kernel
theorem dX2_init_14 : decode cX2_init 14 = .ok (.bipush 90, 2) := by decide +kernel
theorem dX2_init_16 : decode cX2_init 16 = .ok (.newarray .long, 2) := by decide +kernel
theorem dX2_init_18 : decode cX2_init 18 = .ok (.putfield 15, 3) := by decide +kernel
theorem dX2_init_21 : decode cX2_init 21 = .ok (.aload_n 0, 1) := by decide +kernel
theorem dX2_init_22 : decode cX2_init 22 = .ok (.bipush 90, 2) := by decide +kernel
theorem dX2_init_24 : decode cX2_init 24 = .ok (.newarray .int, 2) := by decide +kernel
theorem dX2_init_26 : decode cX2_init 26 = .ok (.putfield 19, 3) := by decide +kernel
theorem dX2_init_29 : decode cX2_init 29 = .ok (.aload_n 0, 1) := by decide +kernel
theorem dX2_init_30 : decode cX2_init 30 = .ok (.bipush 10, 2) := by decide +kernel
theorem dX2_init_32 : decode cX2_init 32 = .ok (.newarray .int, 2) := by decide +kernel
theorem dX2_init_34 : decode cX2_init 34 = .ok (.putfield 22, 3) := by decide +kernel
theorem dX2_init_37 : decode cX2_init 37 = .ok (.aload_n 0, 1) := by decide +kernel
theorem dX2_init_38 : decode cX2_init 38 = .ok (.iconst 0, 1) := by decide +kernel
theorem dX2_init_39 : decode cX2_init 39 = .ok (.putfield 25, 3) := by decide +kernel
theorem dX2_init_42 : decode cX2_init 42 = .ok (.aload_n 0, 1) := by decide +kernel
theorem dX2_init_43 : decode cX2_init 43 = .ok (.iconst 0, 1) := by decide +kernel
theorem dX2_init_44 : decode cX2_init 44 = .ok (.putfield 29, 3) := by decide +kernel
theorem dX2_init_47 : decode cX2_init 47 = .ok (.aload_n 0, 1) := by decide +kernel
theorem dX2_init_48 : decode cX2_init 48 = .ok (.lconst 0, 1) := by decide +kernel
theorem dX2_init_49 : decode cX2_init 49 = .ok (.putfield 32, 3) := by decide +kernel
theorem dX2_init_52 : decode cX2_init 52 = .ok (.aload_n 0, 1) := by decide +kernel
theorem dX2_init_53 : decode cX2_init 53 = .ok (.iconst 4, 1) := by decide +kernel
theorem dX2_init_54 : decode cX2_init 54 = .ok (.putfield 36, 3) := by decide +kernel
theorem dX2_init_57 : decode cX2_init 57 = .ok (.return_, 1) := by decide +kernel
theorem dX2_clear_0 : decode cX2_clear 0 = .ok (.aload_n 0, 1) := by decide +kernel
theorem dX2_clear_1 : decode cX2_clear 1 = .ok (.iconst 0, 1) := by decide +kernel
theorem dX2_clear_2 : decode cX2_clear 2 = .ok (.putfield 25, 3) := by decide +kernel
theorem dX2_clear_5 : decode cX2_clear 5 = .ok (.aload_n 0, 1) := by decide +kernel
theorem dX2_clear_6 : decode cX2_clear 6 = .ok (.iconst 0, 1) := by decide +kernel
theorem dX2_clear_7 : decode cX2_clear 7 = .ok (.putfield 29, 3) := by decide +kernel
theorem dX2_clear_10 : decode cX2_clear 10 = .ok (.aload_n 0, 1) := by decide +kernel
theorem dX2_clear_11 : decode cX2_clear 11 = .ok (.lconst 0, 1) := by decide +kernel
theorem dX2_clear_12 : decode cX2_clear 12 = .ok (.putfield 32, 3) := by decide +kernel
theorem dX2_clear_15 : decode cX2_clear 15 = .ok (.aload_n 0, 1) := by decide +kernel
theorem dX2_clear_16 : decode cX2_clear 16 = .ok (.iconst 4, 1) := by decide +kernel
theorem dX2_clear_17 : decode cX2_clear 17 = .ok (.putfield 36, 3) := by decide +kernel
theorem dX2_clear_20 : decode cX2_clear 20 = .ok (.iconst 0, 1) := by decide +kernel
theorem dX2_clear_21 : decode cX2_clear 21 = .ok (.istore_n 1, 1) := by decide +kernel
theorem dX2_clear_22 : decode cX2_clear 22 = .ok (.iload_n 1, 1) := by decide +kernel
theorem dX2_clear_23 : decode cX2_clear 23 = .ok (.bipush 10, 2) := by decide +kernel
theorem dX2_clear_25 : decode cX2_clear 25 = .ok (.if_icmp .ge 17, 3) := by decide +kernel
theorem dX2_clear_28 : decode cX2_clear 28 = .ok (.aload_n 0, 1) := by decide +kernel
theorem dX2_clear_29 : decode cX2_clear 29 = .ok (.getfield 22, 3) := by decide +kernel
theorem dX2_clear_32 : decode cX2_clear 32 = .ok (.iload_n 1, 1) := by decide +kernel
theorem dX2_clear_33 : decode cX2_clear 33 = .ok (.bipush (-6), 2) := by decide +kernel
theorem dX2_clear_35 : decode cX2_clear 35 = .ok (.iastore, 1) := by decide +kernel
theorem dX2_clear_36 : decode cX2_clear 36 = .ok (.iinc 1 1, 3) := by decide +kernel
theorem dX2_clear_39 : decode cX2_clear 39 = .ok (.goto (-17), 3) := by decide +kernel
theorem dX2_clear_42 : decode cX2_clear 42 = .ok (.return_, 1) := by decide +kernel
theorem dX2_add_0 : decode cX2_add 0 = .ok (.aload_n 0, 1) := by decide +kernel
theorem dX2_add_1 : decode cX2_add 1 = .ok (.getfield 25, 3) := by decide +kernel
theorem dX2_add_4 : decode cX2_add 4 = .ok (.ifCond .lt 12, 3) := by decide +kernel
theorem dX2_add_7 : decode cX2_add 7 = .ok (.aload_n 0, 1) := by decide +kernel
theorem dX2_add_8 : decode cX2_add 8 = .ok (.getfield 25, 3) := by decide +kernel
theorem dX2_add_11 : decode cX2_add 11 = .ok (.bipush 90, 2) := by decide +kernel
theorem dX2_add_13 : decode cX2_add 13 = .ok (.if_icmp .lt 5, 3) := by decide +kernel
theorem dX2_add_16 : decode cX2_add 16 = .ok (.iconst 0, 1) := by decide +kernel
theorem dX2_add_17 : decode cX2_add 17 = .ok (.ireturn, 1) := by decide +kernel
theorem dX2_add_18 : decode cX2_add 18 = .ok (.iconst 4, 1) := by decide +kernel
theorem dX2_add_19 : decode cX2_add 19 = .ok (.aload_n 0, 1) := by decide +kernel
theorem dX2_add_20 : decode cX2_add 20 = .ok (.getfield 25, 3) := by decide +kernel
theorem dX2_add_23 : decode cX2_add 23 = .ok (.imul, 1) := by decide +kernel
theorem dX2_add_24 : decode cX2_add 24 = .ok (.istore 5, 2) := by decide +kernel
theorem dX2_add_26 : decode cX2_add 26 = .ok (.aload_n 0, 1) := by decide +kernel
theorem dX2_add_27 : decode cX2_add 27 = .ok (.getfield 9, 3) := by decide +kernel
theorem dX2_add_30 : decode cX2_add 30 = .ok (.iload 5, 2) := by decide +kernel
theorem dX2_add_32 : decode cX2_add 32 = .ok (.iload_n 1, 1) := by decide +kernel
theorem dX2_add_33 : decode cX2_add 33 = .ok (.iastore, 1) := by decide +kernel
theorem dX2_add_34 : decode cX2_add 34 = .ok (.aload_n 0, 1) := by decide +kernel
theorem dX2_add_35 : decode cX2_add 35 = .ok (.getfield 9, 3) := by decide +kernel
theorem dX2_add_38 : decode cX2_add 38 = .ok (.iload 5, 2) := by decide +kernel
theorem dX2_add_40 : decode cX2_add 40 = .ok (.iconst 1, 1) := by decide +kernel
theorem dX2_add_41 : decode cX2_add 41 = .ok (.iadd, 1) := by decide +kernel
theorem dX2_add_42 : decode cX2_add 42 = .ok (.iload_n 2, 1) := by decide +kernel
theorem dX2_add_43 : decode cX2_add 43 = .ok (.iastore, 1) := by decide +kernel
theorem dX2_add_44 : decode cX2_add 44 = .ok (.aload_n 0, 1) := by decide +kernel
theorem dX2_add_45 : decode cX2_add 45 = .ok (.getfield 9, 3) := by decide +kernel
theorem dX2_add_48 : decode cX2_add 48 = .ok (.iload 5, 2) := by decide +kernel
theorem dX2_add_50 : decode cX2_add 50 = .ok (.iconst 2, 1) := by decide +kernel
theorem dX2_add_51 : decode cX2_add 51 = .ok (.iadd, 1) := by decide +kernel
theorem dX2_add_52 : decode cX2_add 52 = .ok (.iload_n 3, 1) := by decide +kernel
theorem dX2_add_53 : decode cX2_add 53 = .ok (.iastore, 1) := by decide +kernel
theorem dX2_add_54 : decode cX2_add 54 = .ok (.aload_n 0, 1) := by decide +kernel
theorem dX2_add_55 : decode cX2_add 55 = .ok (.getfield 9, 3) := by decide +kernel
theorem dX2_add_58 : decode cX2_add 58 = .ok (.iload 5, 2) := by decide +kernel
theorem dX2_add_60 : decode cX2_add 60 = .ok (.iconst 3, 1) := by decide +kernel
theorem dX2_add_61 : decode cX2_add 61 = .ok (.iadd, 1) := by decide +kernel
theorem dX2_add_62 : decode cX2_add 62 = .ok (.iload 4, 2) := by decide +kernel
theorem dX2_add_64 : decode cX2_add 64 = .ok (.iastore, 1) := by decide +kernel
theorem dX2_add_65 : decode cX2_add 65 = .ok (.aload_n 0, 1) := by decide +kernel
theorem dX2_add_66 : decode cX2_add 66 = .ok (.getfield 15, 3) := by decide +kernel
theorem dX2_add_69 : decode cX2_add 69 = .ok (.aload_n 0, 1) := by decide +kernel
theorem dX2_add_70 : decode cX2_add 70 = .ok (.getfield 25, 3) := by decide +kernel
theorem dX2_add_73 : decode cX2_add 73 = .ok (.lconst 0, 1) := by decide +kernel
theorem dX2_add_74 : decode cX2_add 74 = .ok (.lastore, 1) := by decide +kernel
theorem dX2_add_75 : decode cX2_add 75 = .ok (.aload_n 0, 1) := by decide +kernel
theorem dX2_add_76 : decode cX2_add 76 = .ok (.getfield 19, 3) := by decide +kernel
theorem dX2_add_79 : decode cX2_add 79 = .ok (.aload_n 0, 1) := by decide +kernel
theorem dX2_add_80 : decode cX2_add 80 = .ok (.getfield 25, 3) := by decide +kernel
theorem dX2_add_83 : decode cX2_add 83 = .ok (.bipush (-6), 2) := by decide +kernel
theorem dX2_add_85 : decode cX2_add 85 = .ok (.iastore, 1) := by decide +kernel
theorem dX2_add_86 : decode cX2_add 86 = .ok (.iconst 1, 1) := by decide +kernel
theorem dX2_add_87 : decode cX2_add 87 = .ok (.istore 6, 2) := by decide +kernel
theorem dX2_add_89 : decode cX2_add 89 = .ok (.iload 6, 2) := by decide +kernel
theorem dX2_add_91 : decode cX2_add 91 = .ok (.iconst 3, 1) := by decide +kernel
theorem dX2_add_92 : decode cX2_add 92 = .ok (.if_icmp .gt 29, 3) := by decide +kernel
theorem dX2_add_95 : decode cX2_add 95 = .ok (.aload_n 0, 1) := by decide +kernel
theorem dX2_add_96 : decode cX2_add 96 = .ok (.aload_n 0, 1) := by decide +kernel
theorem dX2_add_97 : decode cX2_add 97 = .ok (.getfield 9, 3) := by decide +kernel
theorem dX2_add_100 : decode cX2_add 100 = .ok (.iload 5, 2) := by decide +kernel
theorem dX2_add_102 : decode cX2_add 102 = .ok (.iload 6, 2) := by decide +kernel
theorem dX2_add_104 : decode cX2_add 104 = .ok (.iadd, 1) := by decide +kernel
theorem dX2_add_105 : decode cX2_add 105 = .ok (.iaload, 1) := by decide +kernel
theorem dX2_add_106 : decode cX2_add 106 = .ok (.iload_n 1, 1) := by decide +kernel
theorem dX2_add_107 : decode cX2_add 107 = .ok (.iload 6, 2) := by decide +kernel
theorem dX2_add_109 : decode cX2_add 109 = .ok (.invokestatic 39, 3) := by decide +kernel
theorem dX2_add_112 : decode cX2_add 112 = .ok (.invokevirtual 43, 3) := by decide +kernel
theorem dX2_add_115 : decode cX2_add 115 = .ok (.iinc 6 1, 3) := by decide +kernel
theorem dX2_add_118 : decode cX2_add 118 = .ok (.goto (-29), 3) := by decide +kernel
theorem dX2_add_121 : decode cX2_add 121 = .ok (.iload_n 1, 1) := by decide +kernel
theorem dX2_add_122 : decode cX2_add 122 = .ok (.iconst 1, 1) := by decide +kernel
theorem dX2_add_123 : decode cX2_add 123 = .ok (.if_icmp .ne 13, 3) := by decide +kernel
theorem dX2_add_126 : decode cX2_add 126 = .ok (.aload_n 0, 1) := by decide +kernel
theorem dX2_add_127 : decode cX2_add 127 = .ok (.dup, 1) := by decide +kernel
theorem dX2_add_128 : decode cX2_add 128 = .ok (.getfield 29, 3) := by decide +kernel
theorem dX2_add_131 : decode cX2_add 131 = .ok (.iconst 1, 1) := by decide +kernel
theorem dX2_add_132 : decode cX2_add 132 = .ok (.iadd, 1) := by decide +kernel
theorem dX2_add_133 : decode cX2_add 133 = .ok (.putfield 29, 3) := by decide +kernel
theorem dX2_add_136 : decode cX2_add 136 = .ok (.iload_n 1, 1) := by decide +kernel
theorem dX2_add_137 : decode cX2_add 137 = .ok (.iconst 5, 1) := by decide +kernel
theorem dX2_add_138 : decode cX2_add 138 = .ok (.if_icmp .ne 32, 3) := by decide +kernel
theorem dX2_add_141 : decode cX2_add 141 = .ok (.iload_n 2, 1) := by decide +kernel
theorem dX2_add_142 : decode cX2_add 142 = .ok (.ifCond .lt 28, 3) := by decide +kernel
theorem dX2_add_145 : decode cX2_add 145 = .ok (.iload_n 2, 1) := by decide +kernel
theorem dX2_add_146 : decode cX2_add 146 = .ok (.bipush 10, 2) := by decide +kernel
theorem dX2_add_148 : decode cX2_add 148 = .ok (.if_icmp .ge 22, 3) := by decide +kernel
theorem dX2_add_151 : decode cX2_add 151 = .ok (.aload_n 0, 1) := by decide +kernel
theorem dX2_add_152 : decode cX2_add 152 = .ok (.getfield 22, 3) := by decide +kernel
theorem dX2_add_155 : decode cX2_add 155 = .ok (.iload_n 2, 1) := by decide +kernel
theorem dX2_add_156 : decode cX2_add 156 = .ok (.iaload, 1) := by decide +kernel
theorem dX2_add_157 : decode cX2_add 157 = .ok (.ifCond .ge 13, 3) := by decide +kernel
theorem dX2_add_160 : decode cX2_add 160 = .ok (.aload_n 0, 1) := by decide +kernel
theorem dX2_add_161 : decode cX2_add 161 = .ok (.getfield 22, 3) := by decide +kernel
theorem dX2_add_164 : decode cX2_add 164 = .ok (.iload_n 2, 1) := by decide +kernel
theorem dX2_add_165 : decode cX2_add 165 = .ok (.aload_n 0, 1) := by decide +kernel
theorem dX2_add_166 : decode cX2_add 166 = .ok (.getfield 25, 3) := by decide +kernel
theorem dX2_add_169 : decode cX2_add 169 = .ok (.iastore, 1) := by decide +kernel
theorem dX2_add_170 : decode cX2_add 170 = .ok (.aload_n 0, 1) := by decide +kernel
theorem dX2_add_171 : decode cX2_add 171 = .ok (.dup, 1) := by decide +kernel
theorem dX2_add_172 : decode cX2_add 172 = .ok (.getfield 25, 3) := by decide +kernel
theorem dX2_add_175 : decode cX2_add 175 = .ok (.iconst 1, 1) := by decide +kernel
theorem dX2_add_176 : decode cX2_add 176 = .ok (.iadd, 1) := by decide +kernel
theorem dX2_add_177 : decode cX2_add 177 = .ok (.putfield 25, 3) := by decide +kernel
theorem dX2_add_180 : decode cX2_add 180 = .ok (.iconst 1, 1) := by decide +kernel
theorem dX2_add_181 : decode cX2_add 181 = .ok (.ireturn, 1) := by decide +kernel
theorem dX2_noteName_0 : decode cX2_noteName 0 = .ok (.iload_n 1, 1) := by decide +kernel
theorem dX2_noteName_1 : decode cX2_noteName 1 = .ok (.ifCond .lt 25, 3) := by decide +kernel
theorem dX2_noteName_4 : decode cX2_noteName 4 = .ok (.iload_n 1, 1) := by decide +kernel
theorem dX2_noteName_5 : decode cX2_noteName 5 = .ok (.bipush 64, 2) := by decide +kernel
theorem dX2_noteName_7 : decode cX2_noteName 7 = .ok (.if_icmp .ge 19, 3) := by decide +kernel
theorem dX2_noteName_10 : decode cX2_noteName 10 = .ok (.aload_n 0, 1) := by decide +kernel
theorem dX2_noteName_11 : decode cX2_noteName 11 = .ok (.getfield 25, 3) := by decide +kernel
theorem dX2_noteName_14 : decode cX2_noteName 14 = .ok (.ifCond .lt 12, 3) := by decide +kernel
theorem dX2_noteName_17 : decode cX2_noteName 17 = .ok (.aload_n 0, 1) := by decide +kernel
theorem dX2_noteName_18 : decode cX2_noteName 18 = .ok (.getfield 25, 3) := by decide +kernel
theorem dX2_noteName_21 : decode cX2_noteName 21 = .ok (.bipush 90, 2) := by decide +kernel
theorem dX2_noteName_23 : decode cX2_noteName 23 = .ok (.if_icmp .lt 4, 3) := by decide +kernel
theorem dX2_noteName_26 : decode cX2_noteName 26 = .ok (.return_, 1) := by decide +kernel
theorem dX2_noteName_27 : decode cX2_noteName 27 = .ok (.iload_n 2, 1) := by decide +kernel
theorem dX2_noteName_28 : decode cX2_noteName 28 = .ok (.bipush 114, 2) := by decide +kernel
theorem dX2_noteName_30 : decode cX2_noteName 30 = .ok (.if_icmp .eq 10, 3) := by decide +kernel
theorem dX2_noteName_33 : decode cX2_noteName 33 = .ok (.iload_n 2, 1) := by decide +kernel
theorem dX2_noteName_34 : decode cX2_noteName 34 = .ok (.bipush 119, 2) := by decide +kernel
theorem dX2_noteName_36 : decode cX2_noteName 36 = .ok (.if_icmp .eq 4, 3) := by decide +kernel
theorem dX2_noteName_39 : decode cX2_noteName 39 = .ok (.return_, 1) := by decide +kernel
theorem dX2_noteName_40 : decode cX2_noteName 40 = .ok (.iload_n 2, 1) := by decide +kernel
theorem dX2_noteName_41 : decode cX2_noteName 41 = .ok (.bipush 114, 2) := by decide +kernel
theorem dX2_noteName_43 : decode cX2_noteName 43 = .ok (.if_icmp .ne 21, 3) := by decide +kernel
theorem dX2_noteName_46 : decode cX2_noteName 46 = .ok (.aload_n 0, 1) := by decide +kernel
theorem dX2_noteName_47 : decode cX2_noteName 47 = .ok (.getfield 15, 3) := by decide +kernel
theorem dX2_noteName_50 : decode cX2_noteName 50 = .ok (.aload_n 0, 1) := by decide +kernel
theorem dX2_noteName_51 : decode cX2_noteName 51 = .ok (.getfield 25, 3) := by decide +kernel
theorem dX2_noteName_54 : decode cX2_noteName 54 = .ok (.dup2, 1) := by decide +kernel
theorem dX2_noteName_55 : decode cX2_noteName 55 = .ok (.laload, 1) := by decide +kernel
theorem dX2_noteName_56 : decode cX2_noteName 56 = .ok (.lconst 1, 1) := by decide +kernel
theorem dX2_noteName_57 : decode cX2_noteName 57 = .ok (.iload_n 1, 1) := by decide +kernel
theorem dX2_noteName_58 : decode cX2_noteName 58 = .ok (.lshl, 1) := by decide +kernel
theorem dX2_noteName_59 : decode cX2_noteName 59 = .ok (.lor, 1) := by decide +kernel
theorem dX2_noteName_60 : decode cX2_noteName 60 = .ok (.lastore, 1) := by decide +kernel
theorem dX2_noteName_61 : decode cX2_noteName 61 = .ok (.goto 13, 3) := by decide +kernel
theorem dX2_noteName_64 : decode cX2_noteName 64 = .ok (.aload_n 0, 1) := by decide +kernel
theorem dX2_noteName_65 : decode cX2_noteName 65 = .ok (.getfield 19, 3) := by decide +kernel
theorem dX2_noteName_68 : decode cX2_noteName 68 = .ok (.aload_n 0, 1) := by decide +kernel
theorem dX2_noteName_69 : decode cX2_noteName 69 = .ok (.getfield 25, 3) := by decide +kernel
theorem dX2_noteName_72 : decode cX2_noteName 72 = .ok (.iload_n 1, 1) := by decide +kernel
theorem dX2_noteName_73 : decode cX2_noteName 73 = .ok (.iastore, 1) := by decide +kernel
theorem dX2_noteName_74 : decode cX2_noteName 74 = .ok (.aload_n 0, 1) := by decide +kernel
theorem dX2_noteName_75 : decode cX2_noteName 75 = .ok (.dup, 1) := by decide +kernel
theorem dX2_noteName_76 : decode cX2_noteName 76 = .ok (.getfield 32, 3) := by decide +kernel
theorem dX2_noteName_79 : decode cX2_noteName 79 = .ok (.lconst 1, 1) := by decide +kernel
theorem dX2_noteName_80 : decode cX2_noteName 80 = .ok (.iload_n 1, 1) := by decide +kernel
theorem dX2_noteName_81 : decode cX2_noteName 81 = .ok (.lshl, 1) := by decide +kernel
theorem dX2_noteName_82 : decode cX2_noteName 82 = .ok (.lor, 1) := by decide +kernel
theorem dX2_noteName_83 : decode cX2_noteName 83 = .ok (.putfield 32, 3) := by decide +kernel
theorem dX2_noteName_86 : decode cX2_noteName 86 = .ok (.aload_n 0, 1) := by decide +kernel
theorem dX2_noteName_87 : decode cX2_noteName 87 = .ok (.aload_n 0, 1) := by decide +kernel
theorem dX2_noteName_88 : decode cX2_noteName 88 = .ok (.getfield 36, 3) := by decide +kernel
theorem dX2_noteName_91 : decode cX2_noteName 91 = .ok (.iload_n 1, 1) := by decide +kernel
theorem dX2_noteName_92 : decode cX2_noteName 92 = .ok (.iconst 1, 1) := by decide +kernel
theorem dX2_noteName_93 : decode cX2_noteName 93 = .ok (.iadd, 1) := by decide +kernel
theorem dX2_noteName_94 : decode cX2_noteName 94 = .ok (.invokestatic 47, 3) := by decide +kernel
theorem dX2_noteName_97 : decode cX2_noteName 97 = .ok (.putfield 36, 3) := by decide +kernel
theorem dX2_noteName_100 : decode cX2_noteName 100 = .ok (.return_, 1) := by decide +kernel
theorem dX2_partAt_0 : decode cX2_partAt 0 = .ok (.iload_n 1, 1) := by decide +kernel
theorem dX2_partAt_1 : decode cX2_partAt 1 = .ok (.ifCond .lt 26, 3) := by decide +kernel
theorem dX2_partAt_4 : decode cX2_partAt 4 = .ok (.iload_n 1, 1) := by decide +kernel
theorem dX2_partAt_5 : decode cX2_partAt 5 = .ok (.aload_n 0, 1) := by decide +kernel
theorem dX2_partAt_6 : decode cX2_partAt 6 = .ok (.getfield 25, 3) := by decide +kernel
theorem dX2_partAt_9 : decode cX2_partAt 9 = .ok (.if_icmp .ge 18, 3) := by decide +kernel
theorem dX2_partAt_12 : decode cX2_partAt 12 = .ok (.iload_n 1, 1) := by decide +kernel
theorem dX2_partAt_13 : decode cX2_partAt 13 = .ok (.bipush 90, 2) := by decide +kernel
theorem dX2_partAt_15 : decode cX2_partAt 15 = .ok (.if_icmp .ge 12, 3) := by decide +kernel
theorem dX2_partAt_18 : decode cX2_partAt 18 = .ok (.iload_n 2, 1) := by decide +kernel
theorem dX2_partAt_19 : decode cX2_partAt 19 = .ok (.ifCond .lt 8, 3) := by decide +kernel
theorem dX2_partAt_22 : decode cX2_partAt 22 = .ok (.iload_n 2, 1) := by decide +kernel
theorem dX2_partAt_23 : decode cX2_partAt 23 = .ok (.iconst 3, 1) := by decide +kernel
theorem dX2_partAt_24 : decode cX2_partAt 24 = .ok (.if_icmp .le 6, 3) := by decide +kernel
theorem dX2_partAt_27 : decode cX2_partAt 27 = .ok (.bipush (-6), 2) := by decide +kernel
theorem dX2_partAt_29 : decode cX2_partAt 29 = .ok (.ireturn, 1) := by decide +kernel
theorem dX2_partAt_30 : decode cX2_partAt 30 = .ok (.aload_n 0, 1) := by decide +kernel
theorem dX2_partAt_31 : decode cX2_partAt 31 = .ok (.getfield 9, 3) := by decide +kernel
theorem dX2_partAt_34 : decode cX2_partAt 34 = .ok (.iconst 4, 1) := by decide +kernel
theorem dX2_partAt_35 : decode cX2_partAt 35 = .ok (.iload_n 1, 1) := by decide +kernel
theorem dX2_partAt_36 : decode cX2_partAt 36 = .ok (.imul, 1) := by decide +kernel
theorem dX2_partAt_37 : decode cX2_partAt 37 = .ok (.iload_n 2, 1) := by decide +kernel
theorem dX2_partAt_38 : decode cX2_partAt 38 = .ok (.iadd, 1) := by decide +kernel
theorem dX2_partAt_39 : decode cX2_partAt 39 = .ok (.iaload, 1) := by decide +kernel
theorem dX2_partAt_40 : decode cX2_partAt 40 = .ok (.ireturn, 1) := by decide +kernel
theorem dX2_nameAt_0 : decode cX2_nameAt 0 = .ok (.aload_n 0, 1) := by decide +kernel
theorem dX2_nameAt_1 : decode cX2_nameAt 1 = .ok (.iload_n 1, 1) := by decide +kernel
theorem dX2_nameAt_2 : decode cX2_nameAt 2 = .ok (.iconst 0, 1) := by decide +kernel
theorem dX2_nameAt_3 : decode cX2_nameAt 3 = .ok (.invokevirtual 53, 3) := by decide +kernel
theorem dX2_nameAt_6 : decode cX2_nameAt 6 = .ok (.iload_n 2, 1) := by decide +kernel
theorem dX2_nameAt_7 : decode cX2_nameAt 7 = .ok (.invokestatic 39, 3) := by decide +kernel
theorem dX2_nameAt_10 : decode cX2_nameAt 10 = .ok (.istore_n 3, 1) := by decide +kernel
theorem dX2_nameAt_11 : decode cX2_nameAt 11 = .ok (.iload_n 3, 1) := by decide +kernel
theorem dX2_nameAt_12 : decode cX2_nameAt 12 = .ok (.bipush 114, 2) := by decide +kernel
theorem dX2_nameAt_14 : decode cX2_nameAt 14 = .ok (.if_icmp .eq 12, 3) := by decide +kernel
theorem dX2_nameAt_17 : decode cX2_nameAt 17 = .ok (.iload_n 3, 1) := by decide +kernel
theorem dX2_nameAt_18 : decode cX2_nameAt 18 = .ok (.bipush 119, 2) := by decide +kernel
theorem dX2_nameAt_20 : decode cX2_nameAt 20 = .ok (.if_icmp .eq 6, 3) := by decide +kernel
theorem dX2_nameAt_23 : decode cX2_nameAt 23 = .ok (.bipush (-6), 2) := by decide +kernel
theorem dX2_nameAt_25 : decode cX2_nameAt 25 = .ok (.ireturn, 1) := by decide +kernel
theorem dX2_nameAt_26 : decode cX2_nameAt 26 = .ok (.aload_n 0, 1) := by decide +kernel
theorem dX2_nameAt_27 : decode cX2_nameAt 27 = .ok (.iload_n 1, 1) := by decide +kernel
theorem dX2_nameAt_28 : decode cX2_nameAt 28 = .ok (.iload_n 2, 1) := by decide +kernel
theorem dX2_nameAt_29 : decode cX2_nameAt 29 = .ok (.invokevirtual 53, 3) := by decide +kernel
theorem dX2_nameAt_32 : decode cX2_nameAt 32 = .ok (.istore 4, 2) := by decide +kernel
theorem dX2_nameAt_34 : decode cX2_nameAt 34 = .ok (.iload 4, 2) := by decide +kernel
theorem dX2_nameAt_36 : decode cX2_nameAt 36 = .ok (.ifCond .lt 15, 3) := by decide +kernel
theorem dX2_nameAt_39 : decode cX2_nameAt 39 = .ok (.iload 4, 2) := by decide +kernel
theorem dX2_nameAt_41 : decode cX2_nameAt 41 = .ok (.bipush 64, 2) := by decide +kernel
theorem dX2_nameAt_43 : decode cX2_nameAt 43 = .ok (.if_icmp .ge 8, 3) := by decide +kernel
theorem dX2_nameAt_46 : decode cX2_nameAt 46 = .ok (.iload 4, 2) := by decide +kernel
theorem dX2_nameAt_48 : decode cX2_nameAt 48 = .ok (.goto 5, 3) := by decide +kernel
theorem dX2_nameAt_51 : decode cX2_nameAt 51 = .ok (.bipush (-6), 2) := by decide +kernel
theorem dX2_nameAt_53 : decode cX2_nameAt 53 = .ok (.ireturn, 1) := by decide +kernel
theorem dX2_targetOf_0 : decode cX2_targetOf 0 = .ok (.aload_n 0, 1) := by decide +kernel
theorem dX2_targetOf_1 : decode cX2_targetOf 1 = .ok (.iload_n 1, 1) := by decide +kernel
theorem dX2_targetOf_2 : decode cX2_targetOf 2 = .ok (.iconst 0, 1) := by decide +kernel
theorem dX2_targetOf_3 : decode cX2_targetOf 3 = .ok (.invokevirtual 53, 3) := by decide +kernel
theorem dX2_targetOf_6 : decode cX2_targetOf 6 = .ok (.bipush 6, 2) := by decide +kernel
theorem dX2_targetOf_8 : decode cX2_targetOf 8 = .ok (.if_icmp .eq 6, 3) := by decide +kernel
theorem dX2_targetOf_11 : decode cX2_targetOf 11 = .ok (.bipush (-6), 2) := by decide +kernel
theorem dX2_targetOf_13 : decode cX2_targetOf 13 = .ok (.ireturn, 1) := by decide +kernel
theorem dX2_targetOf_14 : decode cX2_targetOf 14 = .ok (.aload_n 0, 1) := by decide +kernel
theorem dX2_targetOf_15 : decode cX2_targetOf 15 = .ok (.iload_n 1, 1) := by decide +kernel
theorem dX2_targetOf_16 : decode cX2_targetOf 16 = .ok (.iconst 2, 1) := by decide +kernel
theorem dX2_targetOf_17 : decode cX2_targetOf 17 = .ok (.invokevirtual 53, 3) := by decide +kernel
theorem dX2_targetOf_20 : decode cX2_targetOf 20 = .ok (.istore_n 2, 1) := by decide +kernel
theorem dX2_targetOf_21 : decode cX2_targetOf 21 = .ok (.iload_n 2, 1) := by decide +kernel
theorem dX2_targetOf_22 : decode cX2_targetOf 22 = .ok (.ifCond .lt 18, 3) := by decide +kernel
theorem dX2_targetOf_25 : decode cX2_targetOf 25 = .ok (.iload_n 2, 1) := by decide +kernel
theorem dX2_targetOf_26 : decode cX2_targetOf 26 = .ok (.bipush 10, 2) := by decide +kernel
theorem dX2_targetOf_28 : decode cX2_targetOf 28 = .ok (.if_icmp .ge 12, 3) := by decide +kernel
theorem dX2_targetOf_31 : decode cX2_targetOf 31 = .ok (.aload_n 0, 1) := by decide +kernel
theorem dX2_targetOf_32 : decode cX2_targetOf 32 = .ok (.getfield 22, 3) := by decide +kernel
theorem dX2_targetOf_35 : decode cX2_targetOf 35 = .ok (.iload_n 2, 1) := by decide +kernel
theorem dX2_targetOf_36 : decode cX2_targetOf 36 = .ok (.iaload, 1) := by decide +kernel
theorem dX2_targetOf_37 : decode cX2_targetOf 37 = .ok (.goto 5, 3) := by decide +kernel
theorem dX2_targetOf_40 : decode cX2_targetOf 40 = .ok (.bipush (-6), 2) := by decide +kernel
theorem dX2_targetOf_42 : decode cX2_targetOf 42 = .ok (.ireturn, 1) := by decide +kernel
theorem dX2_copyFrom_0 : decode cX2_copyFrom 0 = .ok (.aload_n 1, 1) := by decide +kernel
theorem dX2_copyFrom_1 : decode cX2_copyFrom 1 = .ok (.getfield 9, 3) := by decide +kernel
theorem dX2_copyFrom_4 : decode cX2_copyFrom 4 = .ok (.iconst 0, 1) := by decide +kernel
theorem dX2_copyFrom_5 : decode cX2_copyFrom 5 = .ok (.aload_n 0, 1) := by decide +kernel
theorem dX2_copyFrom_6 : decode cX2_copyFrom 6 = .ok (.getfield 9, 3) := by decide +kernel
theorem dX2_copyFrom_9 : decode cX2_copyFrom 9 = .ok (.iconst 0, 1) := by decide +kernel
theorem dX2_copyFrom_10 : decode cX2_copyFrom 10 = .ok (.aload_n 0, 1) := by decide +kernel
theorem dX2_copyFrom_11 : decode cX2_copyFrom 11 = .ok (.getfield 9, 3) := by decide +kernel
theorem dX2_copyFrom_14 : decode cX2_copyFrom 14 = .ok (.arraylength, 1) := by decide +kernel
theorem dX2_copyFrom_15 : decode cX2_copyFrom 15 = .ok (.invokestatic 56, 3) := by decide +kernel
theorem dX2_copyFrom_18 : decode cX2_copyFrom 18 = .ok (.aload_n 1, 1) := by decide +kernel
theorem dX2_copyFrom_19 : decode cX2_copyFrom 19 = .ok (.getfield 15, 3) := by decide +kernel
theorem dX2_copyFrom_22 : decode cX2_copyFrom 22 = .ok (.iconst 0, 1) := by decide +kernel
theorem dX2_copyFrom_23 : decode cX2_copyFrom 23 = .ok (.aload_n 0, 1) := by decide +kernel
theorem dX2_copyFrom_24 : decode cX2_copyFrom 24 = .ok (.getfield 15, 3) := by decide +kernel
theorem dX2_copyFrom_27 : decode cX2_copyFrom 27 = .ok (.iconst 0, 1) := by decide +kernel
theorem dX2_copyFrom_28 : decode cX2_copyFrom 28 = .ok (.aload_n 0, 1) := by decide +kernel
theorem dX2_copyFrom_29 : decode cX2_copyFrom 29 = .ok (.getfield 15, 3) := by decide +kernel
theorem dX2_copyFrom_32 : decode cX2_copyFrom 32 = .ok (.arraylength, 1) := by decide +kernel
theorem dX2_copyFrom_33 : decode cX2_copyFrom 33 = .ok (.invokestatic 56, 3) := by decide +kernel
theorem dX2_copyFrom_36 : decode cX2_copyFrom 36 = .ok (.aload_n 1, 1) := by decide +kernel
theorem dX2_copyFrom_37 : decode cX2_copyFrom 37 = .ok (.getfield 19, 3) := by decide +kernel
theorem dX2_copyFrom_40 : decode cX2_copyFrom 40 = .ok (.iconst 0, 1) := by decide +kernel
theorem dX2_copyFrom_41 : decode cX2_copyFrom 41 = .ok (.aload_n 0, 1) := by decide +kernel
theorem dX2_copyFrom_42 : decode cX2_copyFrom 42 = .ok (.getfield 19, 3) := by decide +kernel
theorem dX2_copyFrom_45 : decode cX2_copyFrom 45 = .ok (.iconst 0, 1) := by decide +kernel
theorem dX2_copyFrom_46 : decode cX2_copyFrom 46 = .ok (.aload_n 0, 1) := by decide +kernel
theorem dX2_copyFrom_47 : decode cX2_copyFrom 47 = .ok (.getfield 19, 3) := by decide +kernel
theorem dX2_copyFrom_50 : decode cX2_copyFrom 50 = .ok (.arraylength, 1) := by decide +kernel
theorem dX2_copyFrom_51 : decode cX2_copyFrom 51 = .ok (.invokestatic 56, 3) := by decide +kernel
theorem dX2_copyFrom_54 : decode cX2_copyFrom 54 = .ok (.aload_n 1, 1) := by decide +kernel
theorem dX2_copyFrom_55 : decode cX2_copyFrom 55 = .ok (.getfield 22, 3) := by decide +kernel
theorem dX2_copyFrom_58 : decode cX2_copyFrom 58 = .ok (.iconst 0, 1) := by decide +kernel
theorem dX2_copyFrom_59 : decode cX2_copyFrom 59 = .ok (.aload_n 0, 1) := by decide +kernel
theorem dX2_copyFrom_60 : decode cX2_copyFrom 60 = .ok (.getfield 22, 3) := by decide +kernel
theorem dX2_copyFrom_63 : decode cX2_copyFrom 63 = .ok (.iconst 0, 1) := by decide +kernel
theorem dX2_copyFrom_64 : decode cX2_copyFrom 64 = .ok (.aload_n 0, 1) := by decide +kernel
theorem dX2_copyFrom_65 : decode cX2_copyFrom 65 = .ok (.getfield 22, 3) := by decide +kernel
theorem dX2_copyFrom_68 : decode cX2_copyFrom 68 = .ok (.arraylength, 1) := by decide +kernel
theorem dX2_copyFrom_69 : decode cX2_copyFrom 69 = .ok (.invokestatic 56, 3) := by decide +kernel
theorem dX2_copyFrom_72 : decode cX2_copyFrom 72 = .ok (.aload_n 0, 1) := by decide +kernel
theorem dX2_copyFrom_73 : decode cX2_copyFrom 73 = .ok (.aload_n 1, 1) := by decide +kernel
theorem dX2_copyFrom_74 : decode cX2_copyFrom 74 = .ok (.getfield 25, 3) := by decide +kernel
theorem dX2_copyFrom_77 : decode cX2_copyFrom 77 = .ok (.putfield 25, 3) := by decide +kernel
theorem dX2_copyFrom_80 : decode cX2_copyFrom 80 = .ok (.aload_n 0, 1) := by decide +kernel
theorem dX2_copyFrom_81 : decode cX2_copyFrom 81 = .ok (.aload_n 1, 1) := by decide +kernel
theorem dX2_copyFrom_82 : decode cX2_copyFrom 82 = .ok (.getfield 29, 3) := by decide +kernel
theorem dX2_copyFrom_85 : decode cX2_copyFrom 85 = .ok (.putfield 29, 3) := by decide +kernel
theorem dX2_copyFrom_88 : decode cX2_copyFrom 88 = .ok (.aload_n 0, 1) := by decide +kernel
theorem dX2_copyFrom_89 : decode cX2_copyFrom 89 = .ok (.aload_n 1, 1) := by decide +kernel
theorem dX2_copyFrom_90 : decode cX2_copyFrom 90 = .ok (.getfield 32, 3) := by decide +kernel
theorem dX2_copyFrom_93 : decode cX2_copyFrom 93 = .ok (.putfield 32, 3) := by decide +kernel
theorem dX2_copyFrom_96 : decode cX2_copyFrom 96 = .ok (.aload_n 0, 1) := by decide +kernel
theorem dX2_copyFrom_97 : decode cX2_copyFrom 97 = .ok (.aload_n 1, 1) := by decide +kernel
theorem dX2_copyFrom_98 : decode cX2_copyFrom 98 = .ok (.getfield 36, 3) := by decide +kernel
theorem dX2_copyFrom_101 : decode cX2_copyFrom 101 = .ok (.putfield 36, 3) := by decide +kernel
theorem dX2_copyFrom_104 : decode cX2_copyFrom 104 = .ok (.return_, 1) := by decide +kernel
theorem dX3_init_0 : decode cX3_init 0 = .ok (.aload_n 0, 1) := by decide +kernel
theorem dX3_init_1 : decode cX3_init 1 = .ok (.invokespecial 3, 3) := by decide +kernel
theorem dX3_init_4 : decode cX3_init 4 = .ok (.aload_n 0, 1) := by decide +kernel
theorem dX3_init_5 : decode cX3_init 5 = .ok (.bipush 90, 2) := by decide +kernel
theorem dX3_init_7 : decode cX3_init 7 = .ok (.newarray .long, 2) := by decide +kernel
theorem dX3_init_9 : decode cX3_init 9 = .ok (.putfield 9, 3) := by decide +kernel
theorem dX3_init_12 : decode cX3_init 12 = .ok (.aload_n 0, 1) := by decide +kernel
theorem dX3_init_13 : decode cX3_init 13 = .ok (.bipush 90, 2) := by decide +kernel
theorem dX3_init_15 : decode cX3_init 15 = .ok (.newarray .long, 2) := by decide +kernel
theorem dX3_init_17 : decode cX3_init 17 = .ok (.putfield 15, 3) := by decide +kernel
theorem dX3_init_20 : decode cX3_init 20 = .ok (.aload_n 0, 1) := by decide +kernel
theorem dX3_init_21 : decode cX3_init 21 = .ok (.bipush 90, 2) := by decide +kernel
theorem dX3_init_23 : decode cX3_init 23 = .ok (.newarray .int, 2) := by decide +kernel
theorem dX3_init_25 : decode cX3_init 25 = .ok (.putfield 18, 3) := by decide +kernel
theorem dX3_init_28 : decode cX3_init 28 = .ok (.aload_n 0, 1) := by decide +kernel
theorem dX3_init_29 : decode cX3_init 29 = .ok (.bipush 64, 2) := by decide +kernel
theorem dX3_init_31 : decode cX3_init 31 = .ok (.newarray .long, 2) := by decide +kernel
theorem dX3_init_33 : decode cX3_init 33 = .ok (.putfield 22, 3) := by decide +kernel
theorem dX3_init_36 : decode cX3_init 36 = .ok (.aload_n 0, 1) := by decide +kernel
theorem dX3_init_37 : decode cX3_init 37 = .ok (.bipush 64, 2) := by decide +kernel
theorem dX3_init_39 : decode cX3_init 39 = .ok (.newarray .int, 2) := by decide +kernel
theorem dX3_init_41 : decode cX3_init 41 = .ok (.putfield 25, 3) := by decide +kernel
theorem dX3_init_44 : decode cX3_init 44 = .ok (.return_, 1) := by decide +kernel
theorem dX3_find_0 : decode cX3_find 0 = .ok (.aload_n 0, 1) := by decide +kernel
theorem dX3_find_1 : decode cX3_find 1 = .ok (.aload_n 1, 1) := by decide +kernel
theorem dX3_find_2 : decode cX3_find 2 = .ok (.invokevirtual 28, 3) := by decide +kernel
theorem dX3_find_5 : decode cX3_find 5 = .ok (.aload_n 0, 1) := by decide +kernel
theorem dX3_find_6 : decode cX3_find 6 = .ok (.aload_n 1, 1) := by decide +kernel
theorem dX3_find_7 : decode cX3_find 7 = .ok (.invokevirtual 32, 3) := by decide +kernel
theorem dX3_find_10 : decode cX3_find 10 = .ok (.aload_n 0, 1) := by decide +kernel
theorem dX3_find_11 : decode cX3_find 11 = .ok (.aload_n 1, 1) := by decide +kernel
theorem dX3_find_12 : decode cX3_find 12 = .ok (.invokevirtual 35, 3) := by decide +kernel
theorem dX3_find_15 : decode cX3_find 15 = .ok (.aload_n 0, 1) := by decide +kernel
theorem dX3_find_16 : decode cX3_find 16 = .ok (.aload_n 1, 1) := by decide +kernel
theorem dX3_find_17 : decode cX3_find 17 = .ok (.invokevirtual 38, 3) := by decide +kernel
theorem dX3_find_20 : decode cX3_find 20 = .ok (.return_, 1) := by decide +kernel
theorem dX3_findLive_0 : decode cX3_findLive 0 = .ok (.aload_n 0, 1) := by decide +kernel
theorem dX3_findLive_1 : decode cX3_findLive 1 = .ok (.getfield 9, 3) := by decide +kernel
theorem dX3_findLive_4 : decode cX3_findLive 4 = .ok (.lconst 0, 1) := by decide +kernel
theorem dX3_findLive_5 : decode cX3_findLive 5 = .ok (.invokestatic 41, 3) := by decide +kernel
theorem dX3_findLive_8 : decode cX3_findLive 8 = .ok (.aload_n 0, 1) := by decide +kernel
theorem dX3_findLive_9 : decode cX3_findLive 9 = .ok (.getfield 15, 3) := by decide +kernel
theorem dX3_findLive_12 : decode cX3_findLive 12 = .ok (.lconst 0, 1) := by decide +kernel
theorem dX3_findLive_13 : decode cX3_findLive 13 = .ok (.invokestatic 41, 3) := by decide +kernel
theorem dX3_findLive_16 : decode cX3_findLive 16 = .ok (.iconst 1, 1) := by decide +kernel
theorem dX3_findLive_17 : decode cX3_findLive 17 = .ok (.istore_n 2, 1) := by decide +kernel
theorem dX3_findLive_18 : decode cX3_findLive 18 = .ok (.iconst 0, 1) := by decide +kernel
theorem dX3_findLive_19 : decode cX3_findLive 19 = .ok (.istore_n 3, 1) := by decide +kernel
theorem dX3_findLive_20 : decode cX3_findLive 20 = .ok (.iload_n 3, 1) := by decide +kernel
theorem dX3_findLive_21 : decode cX3_findLive 21 = .ok (.sipush 10000, 3) := by decide +kernel
theorem dX3_findLive_24 : decode cX3_findLive 24 = .ok (.if_icmp .ge 19, 3) := by decide +kernel
theorem dX3_findLive_27 : decode cX3_findLive 27 = .ok (.iload_n 2, 1) := by decide +kernel
theorem dX3_findLive_28 : decode cX3_findLive 28 = .ok (.ifCond .eq 15, 3) := by decide +kernel
theorem dX3_findLive_31 : decode cX3_findLive 31 = .ok (.aload_n 0, 1) := by decide +kernel
theorem dX3_findLive_32 : decode cX3_findLive 32 = .ok (.aload_n 1, 1) := by decide +kernel
theorem dX3_findLive_33 : decode cX3_findLive 33 = .ok (.invokevirtual 47, 3) := by decide +kernel
theorem dX3_findLive_36 : decode cX3_findLive 36 = .ok (.istore_n 2, 1) := by decide +kernel
theorem dX3_findLive_37 : decode cX3_findLive 37 = .ok (.iinc 3 1, 3) := by decide +kernel
theorem dX3_findLive_40 : decode cX3_findLive 40 = .ok (.goto (-20), 3) := by decide +kernel
theorem dX3_findLive_43 : decode cX3_findLive 43 = .ok (.return_, 1) := by decide +kernel
theorem dX3_passFromBehind_0 : decode cX3_passFromBehind 0 = .ok (.iconst 0, 1) := by decide +kernel
theorem dX3_passFromBehind_1 : decode cX3_passFromBehind 1 = .ok (.istore_n 2, 1) := by decide +kernel
theorem dX3_passFromBehind_2 : decode cX3_passFromBehind 2 = .ok (.lconst 0, 1) := by decide +kernel
theorem dX3_passFromBehind_3 : decode cX3_passFromBehind 3 = .ok (.lstore_n 3, 1) := by decide +kernel
theorem dX3_passFromBehind_4 : decode cX3_passFromBehind 4 = .ok (.aload_n 1, 1) := by decide +kernel
theorem dX3_passFromBehind_5 : decode cX3_passFromBehind 5 = .ok (.getfield 51, 3) := by decide +kernel
theorem dX3_passFromBehind_8 : decode cX3_passFromBehind 8 = .ok (.bipush 90, 2) := by decide +kernel
theorem dX3_passFromBehind_10 : decode cX3_passFromBehind 10 = .ok (.invokestatic 57, 3) := by decide +kernel
theorem dX3_passFromBehind_13 : decode cX3_passFromBehind 13 = .ok (.iconst 1, 1) := by decide +kernel
theorem dX3_passFromBehind_14 : decode cX3_passFromBehind 14 = .ok (.isub, 1) := by decide +kernel
theorem dX3_passFromBehind_15 : decode cX3_passFromBehind 15 = .ok (.istore 5, 2) := by decide +kernel
theorem dX3_passFromBehind_17 : decode cX3_passFromBehind 17 = .ok (.iload 5, 2) := by decide +kernel
theorem dX3_passFromBehind_19 : decode cX3_passFromBehind 19 = .ok (.ifCond .lt 145, 3) := by decide +kernel
theorem dX3_passFromBehind_22 : decode cX3_passFromBehind 22 = .ok (.lload_n 3, 1) := by decide +kernel
theorem dX3_passFromBehind_23 : decode cX3_passFromBehind 23 = .ok (.lstore 6, 2) := by decide +kernel
theorem dX3_passFromBehind_25 : decode cX3_passFromBehind 25 = .ok (.aload_n 1, 1) := by decide +kernel
theorem dX3_passFromBehind_26 : decode cX3_passFromBehind 26 = .ok (.iload 5, 2) := by decide +kernel
theorem dX3_passFromBehind_28 : decode cX3_passFromBehind 28 = .ok (.invokevirtual 63, 3) := by decide +kernel
theorem dX3_passFromBehind_31 : decode cX3_passFromBehind 31 = .ok (.istore 8, 2) := by decide +kernel
theorem dX3_passFromBehind_33 : decode cX3_passFromBehind 33 = .ok (.iload 8, 2) := by decide +kernel
theorem dX3_passFromBehind_35 : decode cX3_passFromBehind 35 = .ok (.ifCond .lt 22, 3) := by decide +kernel
theorem dX3_passFromBehind_38 : decode cX3_passFromBehind 38 = .ok (.iload 8, 2) := by decide +kernel
theorem dX3_passFromBehind_40 : decode cX3_passFromBehind 40 = .ok (.bipush 90, 2) := by decide +kernel
theorem dX3_passFromBehind_42 : decode cX3_passFromBehind 42 = .ok (.if_icmp .ge 15, 3) := by decide +kernel
theorem dX3_passFromBehind_45 : decode cX3_passFromBehind 45 = .ok (.lload 6, 2) := by decide +kernel
theorem dX3_passFromBehind_47 : decode cX3_passFromBehind 47 = .ok (.aload_n 0, 1) := by decide +kernel
theorem dX3_passFromBehind_48 : decode cX3_passFromBehind 48 = .ok (.getfield 9, 3) := by decide +kernel
theorem dX3_passFromBehind_51 : decode cX3_passFromBehind 51 = .ok (.iload 8, 2) := by decide +kernel
theorem dX3_passFromBehind_53 : decode cX3_passFromBehind 53 = .ok (.laload, 1) := by decide +kernel
theorem dX3_passFromBehind_54 : decode cX3_passFromBehind 54 = .ok (.lor, 1) := by decide +kernel
theorem dX3_passFromBehind_55 : decode cX3_passFromBehind 55 = .ok (.lstore 6, 2) := by decide +kernel
theorem dX3_passFromBehind_57 : decode cX3_passFromBehind 57 = .ok (.lload 6, 2) := by decide +kernel
theorem dX3_passFromBehind_59 : decode cX3_passFromBehind 59 = .ok (.lstore 9, 2) := by decide +kernel
theorem dX3_passFromBehind_61 : decode cX3_passFromBehind 61 = .ok (.aload_n 1, 1) := by decide +kernel
theorem dX3_passFromBehind_62 : decode cX3_passFromBehind 62 = .ok (.getfield 67, 3) := by decide +kernel
theorem dX3_passFromBehind_65 : decode cX3_passFromBehind 65 = .ok (.iload 5, 2) := by decide +kernel
theorem dX3_passFromBehind_67 : decode cX3_passFromBehind 67 = .ok (.iaload, 1) := by decide +kernel
theorem dX3_passFromBehind_68 : decode cX3_passFromBehind 68 = .ok (.ifCond .lt 21, 3) := by decide +kernel
theorem dX3_passFromBehind_71 : decode cX3_passFromBehind 71 = .ok (.lload 9, 2) := by decide +kernel
theorem dX3_passFromBehind_73 : decode cX3_passFromBehind 73 = .ok (.lconst 1, 1) := by decide +kernel
theorem dX3_passFromBehind_74 : decode cX3_passFromBehind 74 = .ok (.aload_n 1, 1) := by decide +kernel
theorem dX3_passFromBehind_75 : decode cX3_passFromBehind 75 = .ok (.getfield 67, 3) := by decide +kernel
theorem dX3_passFromBehind_78 : decode cX3_passFromBehind 78 = .ok (.iload 5, 2) := by decide +kernel
theorem dX3_passFromBehind_80 : decode cX3_passFromBehind 80 = .ok (.iaload, 1) := by decide +kernel
theorem dX3_passFromBehind_81 : decode cX3_passFromBehind 81 = .ok (.lshl, 1) := by decide +kernel
theorem dX3_passFromBehind_82 : decode cX3_passFromBehind 82 = .ok (.ldc2_w 70, 3) := by decide +kernel
theorem dX3_passFromBehind_85 : decode cX3_passFromBehind 85 = .ok (.lxor, 1) := by decide +kernel
theorem dX3_passFromBehind_86 : decode cX3_passFromBehind 86 = .ok (.land, 1) := by decide +kernel
theorem dX3_passFromBehind_87 : decode cX3_passFromBehind 87 = .ok (.lstore 9, 2) := by decide +kernel
theorem dX3_passFromBehind_89 : decode cX3_passFromBehind 89 = .ok (.lload 9, 2) := by decide +kernel
theorem dX3_passFromBehind_91 : decode cX3_passFromBehind 91 = .ok (.aload_n 1, 1) := by decide +kernel
theorem dX3_passFromBehind_92 : decode cX3_passFromBehind 92 = .ok (.getfield 72, 3) := by decide +kernel
theorem dX3_passFromBehind_95 : decode cX3_passFromBehind 95 = .ok (.iload 5, 2) := by decide +kernel
theorem dX3_passFromBehind_97 : decode cX3_passFromBehind 97 = .ok (.laload, 1) := by decide +kernel
theorem dX3_passFromBehind_98 : decode cX3_passFromBehind 98 = .ok (.lor, 1) := by decide +kernel
theorem dX3_passFromBehind_99 : decode cX3_passFromBehind 99 = .ok (.lstore 9, 2) := by decide +kernel
theorem dX3_passFromBehind_101 : decode cX3_passFromBehind 101 = .ok (.iload_n 2, 1) := by decide +kernel
theorem dX3_passFromBehind_102 : decode cX3_passFromBehind 102 = .ok (.ifCond .ne 29, 3) := by decide +kernel
theorem dX3_passFromBehind_105 : decode cX3_passFromBehind 105 = .ok (.lload 9, 2) := by decide +kernel
theorem dX3_passFromBehind_107 : decode cX3_passFromBehind 107 = .ok (.aload_n 0, 1) := by decide +kernel
theorem dX3_passFromBehind_108 : decode cX3_passFromBehind 108 = .ok (.getfield 9, 3) := by decide +kernel
theorem dX3_passFromBehind_111 : decode cX3_passFromBehind 111 = .ok (.iload 5, 2) := by decide +kernel
theorem dX3_passFromBehind_113 : decode cX3_passFromBehind 113 = .ok (.laload, 1) := by decide +kernel
theorem dX3_passFromBehind_114 : decode cX3_passFromBehind 114 = .ok (.lcmp, 1) := by decide +kernel
theorem dX3_passFromBehind_115 : decode cX3_passFromBehind 115 = .ok (.ifCond .ne 16, 3) := by decide +kernel
theorem dX3_passFromBehind_118 : decode cX3_passFromBehind 118 = .ok (.lload 6, 2) := by decide +kernel
theorem dX3_passFromBehind_120 : decode cX3_passFromBehind 120 = .ok (.aload_n 0, 1) := by decide +kernel
theorem dX3_passFromBehind_121 : decode cX3_passFromBehind 121 = .ok (.getfield 15, 3) := by decide +kernel
theorem dX3_passFromBehind_124 : decode cX3_passFromBehind 124 = .ok (.iload 5, 2) := by decide +kernel
theorem dX3_passFromBehind_126 : decode cX3_passFromBehind 126 = .ok (.laload, 1) := by decide +kernel
theorem dX3_passFromBehind_127 : decode cX3_passFromBehind 127 = .ok (.lcmp, 1) := by decide +kernel
theorem dX3_passFromBehind_128 : decode cX3_passFromBehind 128 = .ok (.ifCond .eq 7, 3) := by decide +kernel
theorem dX3_passFromBehind_131 : decode cX3_passFromBehind 131 = .ok (.iconst 1, 1) := by decide +kernel
theorem dX3_passFromBehind_132 : decode cX3_passFromBehind 132 = .ok (.goto 4, 3) := by decide +kernel
theorem dX3_passFromBehind_135 : decode cX3_passFromBehind 135 = .ok (.iconst 0, 1) := by decide +kernel
theorem dX3_passFromBehind_136 : decode cX3_passFromBehind 136 = .ok (.istore_n 2, 1) := by decide +kernel
theorem dX3_passFromBehind_137 : decode cX3_passFromBehind 137 = .ok (.aload_n 0, 1) := by decide +kernel
theorem dX3_passFromBehind_138 : decode cX3_passFromBehind 138 = .ok (.getfield 15, 3) := by decide +kernel
theorem dX3_passFromBehind_141 : decode cX3_passFromBehind 141 = .ok (.iload 5, 2) := by decide +kernel
theorem dX3_passFromBehind_143 : decode cX3_passFromBehind 143 = .ok (.lload 6, 2) := by decide +kernel
theorem dX3_passFromBehind_145 : decode cX3_passFromBehind 145 = .ok (.lastore, 1) := by decide +kernel
theorem dX3_passFromBehind_146 : decode cX3_passFromBehind 146 = .ok (.aload_n 0, 1) := by decide +kernel
theorem dX3_passFromBehind_147 : decode cX3_passFromBehind 147 = .ok (.getfield 9, 3) := by decide +kernel
theorem dX3_passFromBehind_150 : decode cX3_passFromBehind 150 = .ok (.iload 5, 2) := by decide +kernel
theorem dX3_passFromBehind_152 : decode cX3_passFromBehind 152 = .ok (.lload 9, 2) := by decide +kernel
theorem dX3_passFromBehind_154 : decode cX3_passFromBehind 154 = .ok (.lastore, 1) := by decide +kernel
theorem dX3_passFromBehind_155 : decode cX3_passFromBehind 155 = .ok (.lload 9, 2) := by decide +kernel
theorem dX3_passFromBehind_157 : decode cX3_passFromBehind 157 = .ok (.lstore_n 3, 1) := by decide +kernel
theorem dX3_passFromBehind_158 : decode cX3_passFromBehind 158 = .ok (.iinc 5 (-1), 3) := by decide +kernel
theorem dX3_passFromBehind_161 : decode cX3_passFromBehind 161 = .ok (.goto (-144), 3) := by decide +kernel
theorem dX3_passFromBehind_164 : decode cX3_passFromBehind 164 = .ok (.iload_n 2, 1) := by decide +kernel
theorem dX3_passFromBehind_165 : decode cX3_passFromBehind 165 = .ok (.ireturn, 1) := by decide +kernel
theorem dX3_findEdges_0 : decode cX3_findEdges 0 = .ok (.aload_n 0, 1) := by decide +kernel
theorem dX3_findEdges_1 : decode cX3_findEdges 1 = .ok (.getfield 22, 3) := by decide +kernel
theorem dX3_findEdges_4 : decode cX3_findEdges 4 = .ok (.lconst 0, 1) := by decide +kernel
theorem dX3_findEdges_5 : decode cX3_findEdges 5 = .ok (.invokestatic 41, 3) := by decide +kernel
theorem dX3_findEdges_8 : decode cX3_findEdges 8 = .ok (.iconst 0, 1) := by decide +kernel
theorem dX3_findEdges_9 : decode cX3_findEdges 9 = .ok (.istore_n 2, 1) := by decide +kernel
theorem dX3_findEdges_10 : decode cX3_findEdges 10 = .ok (.iload_n 2, 1) := by decide +kernel
theorem dX3_findEdges_11 : decode cX3_findEdges 11 = .ok (.iconst 4, 1) := by decide +kernel
theorem dX3_findEdges_12 : decode cX3_findEdges 12 = .ok (.if_icmp .ge 26, 3) := by decide +kernel
theorem dX3_findEdges_15 : decode cX3_findEdges 15 = .ok (.aload_n 0, 1) := by decide +kernel
theorem dX3_findEdges_16 : decode cX3_findEdges 16 = .ok (.getfield 22, 3) := by decide +kernel
theorem dX3_findEdges_19 : decode cX3_findEdges 19 = .ok (.iload_n 2, 1) := by decide +kernel
theorem dX3_findEdges_20 : decode cX3_findEdges 20 = .ok (.ldc2_w 75, 3) := by decide +kernel
theorem dX3_findEdges_23 : decode cX3_findEdges 23 = .ok (.lconst 1, 1) := by decide +kernel
theorem dX3_findEdges_24 : decode cX3_findEdges 24 = .ok (.iload_n 2, 1) := by decide +kernel
theorem dX3_findEdges_25 : decode cX3_findEdges 25 = .ok (.lshl, 1) := by decide +kernel
theorem dX3_findEdges_26 : decode cX3_findEdges 26 = .ok (.ldc2_w 70, 3) := by decide +kernel
theorem dX3_findEdges_29 : decode cX3_findEdges 29 = .ok (.lxor, 1) := by decide +kernel
theorem dX3_findEdges_30 : decode cX3_findEdges 30 = .ok (.land, 1) := by decide +kernel
theorem dX3_findEdges_31 : decode cX3_findEdges 31 = .ok (.lastore, 1) := by decide +kernel
theorem dX3_findEdges_32 : decode cX3_findEdges 32 = .ok (.iinc 2 1, 3) := by decide +kernel
theorem dX3_findEdges_35 : decode cX3_findEdges 35 = .ok (.goto (-25), 3) := by decide +kernel
theorem dX3_findEdges_38 : decode cX3_findEdges 38 = .ok (.iconst 0, 1) := by decide +kernel
theorem dX3_findEdges_39 : decode cX3_findEdges 39 = .ok (.istore_n 2, 1) := by decide +kernel
theorem dX3_findEdges_40 : decode cX3_findEdges 40 = .ok (.iload_n 2, 1) := by decide +kernel
theorem dX3_findEdges_41 : decode cX3_findEdges 41 = .ok (.aload_n 1, 1) := by decide +kernel
theorem dX3_findEdges_42 : decode cX3_findEdges 42 = .ok (.getfield 51, 3) := by decide +kernel
theorem dX3_findEdges_45 : decode cX3_findEdges 45 = .ok (.if_icmp .ge 89, 3) := by decide +kernel
theorem dX3_findEdges_48 : decode cX3_findEdges 48 = .ok (.iload_n 2, 1) := by decide +kernel
theorem dX3_findEdges_49 : decode cX3_findEdges 49 = .ok (.bipush 90, 2) := by decide +kernel
theorem dX3_findEdges_51 : decode cX3_findEdges 51 = .ok (.if_icmp .ge 83, 3) := by decide +kernel
theorem dX3_findEdges_54 : decode cX3_findEdges 54 = .ok (.aload_n 1, 1) := by decide +kernel
theorem dX3_findEdges_55 : decode cX3_findEdges 55 = .ok (.getfield 67, 3) := by decide +kernel
theorem dX3_findEdges_58 : decode cX3_findEdges 58 = .ok (.iload_n 2, 1) := by decide +kernel
theorem dX3_findEdges_59 : decode cX3_findEdges 59 = .ok (.iaload, 1) := by decide +kernel
theorem dX3_findEdges_60 : decode cX3_findEdges 60 = .ok (.istore_n 3, 1) := by decide +kernel
theorem dX3_findEdges_61 : decode cX3_findEdges 61 = .ok (.iload_n 3, 1) := by decide +kernel
theorem dX3_findEdges_62 : decode cX3_findEdges 62 = .ok (.ifCond .lt 66, 3) := by decide +kernel
theorem dX3_findEdges_65 : decode cX3_findEdges 65 = .ok (.iload_n 3, 1) := by decide +kernel
theorem dX3_findEdges_66 : decode cX3_findEdges 66 = .ok (.bipush 64, 2) := by decide +kernel
theorem dX3_findEdges_68 : decode cX3_findEdges 68 = .ok (.if_icmp .ge 60, 3) := by decide +kernel
theorem dX3_findEdges_71 : decode cX3_findEdges 71 = .ok (.aload_n 0, 1) := by decide +kernel
theorem dX3_findEdges_72 : decode cX3_findEdges 72 = .ok (.getfield 15, 3) := by decide +kernel
theorem dX3_findEdges_75 : decode cX3_findEdges 75 = .ok (.iload_n 2, 1) := by decide +kernel
theorem dX3_findEdges_76 : decode cX3_findEdges 76 = .ok (.laload, 1) := by decide +kernel
theorem dX3_findEdges_77 : decode cX3_findEdges 77 = .ok (.lconst 1, 1) := by decide +kernel
theorem dX3_findEdges_78 : decode cX3_findEdges 78 = .ok (.iload_n 3, 1) := by decide +kernel
theorem dX3_findEdges_79 : decode cX3_findEdges 79 = .ok (.lshl, 1) := by decide +kernel
theorem dX3_findEdges_80 : decode cX3_findEdges 80 = .ok (.ldc2_w 70, 3) := by decide +kernel
theorem dX3_findEdges_83 : decode cX3_findEdges 83 = .ok (.lxor, 1) := by decide +kernel
theorem dX3_findEdges_84 : decode cX3_findEdges 84 = .ok (.land, 1) := by decide +kernel
theorem dX3_findEdges_85 : decode cX3_findEdges 85 = .ok (.lstore 4, 2) := by decide +kernel
theorem dX3_findEdges_87 : decode cX3_findEdges 87 = .ok (.aload_n 1, 1) := by decide +kernel
theorem dX3_findEdges_88 : decode cX3_findEdges 88 = .ok (.iload_n 2, 1) := by decide +kernel
theorem dX3_findEdges_89 : decode cX3_findEdges 89 = .ok (.iconst 0, 1) := by decide +kernel
theorem dX3_findEdges_90 : decode cX3_findEdges 90 = .ok (.invokevirtual 77, 3) := by decide +kernel
theorem dX3_findEdges_93 : decode cX3_findEdges 93 = .ok (.iconst 1, 1) := by decide +kernel
theorem dX3_findEdges_94 : decode cX3_findEdges 94 = .ok (.if_icmp .ne 18, 3) := by decide +kernel
theorem dX3_findEdges_97 : decode cX3_findEdges 97 = .ok (.lload 4, 2) := by decide +kernel
theorem dX3_findEdges_99 : decode cX3_findEdges 99 = .ok (.aload_n 1, 1) := by decide +kernel
theorem dX3_findEdges_100 : decode cX3_findEdges 100 = .ok (.getfield 72, 3) := by decide +kernel
theorem dX3_findEdges_103 : decode cX3_findEdges 103 = .ok (.iload_n 2, 1) := by decide +kernel
theorem dX3_findEdges_104 : decode cX3_findEdges 104 = .ok (.laload, 1) := by decide +kernel
theorem dX3_findEdges_105 : decode cX3_findEdges 105 = .ok (.ldc2_w 70, 3) := by decide +kernel
theorem dX3_findEdges_108 : decode cX3_findEdges 108 = .ok (.lxor, 1) := by decide +kernel
theorem dX3_findEdges_109 : decode cX3_findEdges 109 = .ok (.land, 1) := by decide +kernel
theorem dX3_findEdges_110 : decode cX3_findEdges 110 = .ok (.lstore 4, 2) := by decide +kernel
theorem dX3_findEdges_112 : decode cX3_findEdges 112 = .ok (.aload_n 0, 1) := by decide +kernel
theorem dX3_findEdges_113 : decode cX3_findEdges 113 = .ok (.iload_n 3, 1) := by decide +kernel
theorem dX3_findEdges_114 : decode cX3_findEdges 114 = .ok (.lload 4, 2) := by decide +kernel
theorem dX3_findEdges_116 : decode cX3_findEdges 116 = .ok (.aload_n 1, 1) := by decide +kernel
theorem dX3_findEdges_117 : decode cX3_findEdges 117 = .ok (.getfield 80, 3) := by decide +kernel
theorem dX3_findEdges_120 : decode cX3_findEdges 120 = .ok (.bipush 64, 2) := by decide +kernel
theorem dX3_findEdges_122 : decode cX3_findEdges 122 = .ok (.invokestatic 57, 3) := by decide +kernel
theorem dX3_findEdges_125 : decode cX3_findEdges 125 = .ok (.invokevirtual 83, 3) := by decide +kernel
theorem dX3_findEdges_128 : decode cX3_findEdges 128 = .ok (.iinc 2 1, 3) := by decide +kernel
theorem dX3_findEdges_131 : decode cX3_findEdges 131 = .ok (.goto (-91), 3) := by decide +kernel
theorem dX3_findEdges_134 : decode cX3_findEdges 134 = .ok (.return_, 1) := by decide +kernel
theorem dX3_putBeside_0 : decode cX3_putBeside 0 = .ok (.iload_n 1, 1) := by decide +kernel
theorem dX3_putBeside_1 : decode cX3_putBeside 1 = .ok (.ifCond .lt 16, 3) := by decide +kernel
theorem dX3_putBeside_4 : decode cX3_putBeside 4 = .ok (.iload_n 1, 1) := by decide +kernel
theorem dX3_putBeside_5 : decode cX3_putBeside 5 = .ok (.bipush 64, 2) := by decide +kernel
theorem dX3_putBeside_7 : decode cX3_putBeside 7 = .ok (.if_icmp .ge 10, 3) := by decide +kernel
theorem dX3_putBeside_10 : decode cX3_putBeside 10 = .ok (.iload 4, 2) := by decide +kernel
theorem dX3_putBeside_12 : decode cX3_putBeside 12 = .ok (.bipush 64, 2) := by decide +kernel
theorem dX3_putBeside_14 : decode cX3_putBeside 14 = .ok (.if_icmp .le 4, 3) := by decide +kernel
theorem dX3_putBeside_17 : decode cX3_putBeside 17 = .ok (.return_, 1) := by decide +kernel
theorem dX3_putBeside_18 : decode cX3_putBeside 18 = .ok (.aload_n 0, 1) := by decide +kernel
theorem dX3_putBeside_19 : decode cX3_putBeside 19 = .ok (.getfield 22, 3) := by decide +kernel
theorem dX3_putBeside_22 : decode cX3_putBeside 22 = .ok (.iload_n 1, 1) := by decide +kernel
theorem dX3_putBeside_23 : decode cX3_putBeside 23 = .ok (.dup2, 1) := by decide +kernel
theorem dX3_putBeside_24 : decode cX3_putBeside 24 = .ok (.laload, 1) := by decide +kernel
theorem dX3_putBeside_25 : decode cX3_putBeside 25 = .ok (.lload_n 2, 1) := by decide +kernel
theorem dX3_putBeside_26 : decode cX3_putBeside 26 = .ok (.lor, 1) := by decide +kernel
theorem dX3_putBeside_27 : decode cX3_putBeside 27 = .ok (.lastore, 1) := by decide +kernel
theorem dX3_putBeside_28 : decode cX3_putBeside 28 = .ok (.iconst 0, 1) := by decide +kernel
theorem dX3_putBeside_29 : decode cX3_putBeside 29 = .ok (.istore 5, 2) := by decide +kernel
theorem dX3_putBeside_31 : decode cX3_putBeside 31 = .ok (.iload 5, 2) := by decide +kernel
theorem dX3_putBeside_33 : decode cX3_putBeside 33 = .ok (.iload 4, 2) := by decide +kernel
theorem dX3_putBeside_35 : decode cX3_putBeside 35 = .ok (.if_icmp .ge 31, 3) := by decide +kernel
theorem dX3_putBeside_38 : decode cX3_putBeside 38 = .ok (.lload_n 2, 1) := by decide +kernel
theorem dX3_putBeside_39 : decode cX3_putBeside 39 = .ok (.iload 5, 2) := by decide +kernel
theorem dX3_putBeside_41 : decode cX3_putBeside 41 = .ok (.invokestatic 87, 3) := by decide +kernel
theorem dX3_putBeside_44 : decode cX3_putBeside 44 = .ok (.ifCond .eq 16, 3) := by decide +kernel
theorem dX3_putBeside_47 : decode cX3_putBeside 47 = .ok (.aload_n 0, 1) := by decide +kernel
theorem dX3_putBeside_48 : decode cX3_putBeside 48 = .ok (.getfield 22, 3) := by decide +kernel
theorem dX3_putBeside_51 : decode cX3_putBeside 51 = .ok (.iload 5, 2) := by decide +kernel
theorem dX3_putBeside_53 : decode cX3_putBeside 53 = .ok (.dup2, 1) := by decide +kernel
theorem dX3_putBeside_54 : decode cX3_putBeside 54 = .ok (.laload, 1) := by decide +kernel
theorem dX3_putBeside_55 : decode cX3_putBeside 55 = .ok (.lconst 1, 1) := by decide +kernel
theorem dX3_putBeside_56 : decode cX3_putBeside 56 = .ok (.iload_n 1, 1) := by decide +kernel
theorem dX3_putBeside_57 : decode cX3_putBeside 57 = .ok (.lshl, 1) := by decide +kernel
theorem dX3_putBeside_58 : decode cX3_putBeside 58 = .ok (.lor, 1) := by decide +kernel
theorem dX3_putBeside_59 : decode cX3_putBeside 59 = .ok (.lastore, 1) := by decide +kernel
theorem dX3_putBeside_60 : decode cX3_putBeside 60 = .ok (.iinc 5 1, 3) := by decide +kernel
theorem dX3_putBeside_63 : decode cX3_putBeside 63 = .ok (.goto (-32), 3) := by decide +kernel
theorem dX3_putBeside_66 : decode cX3_putBeside 66 = .ok (.return_, 1) := by decide +kernel
theorem dX3_findRates_0 : decode cX3_findRates 0 = .ok (.aload_n 0, 1) := by decide +kernel
theorem dX3_findRates_1 : decode cX3_findRates 1 = .ok (.getfield 18, 3) := by decide +kernel
theorem dX3_findRates_4 : decode cX3_findRates 4 = .ok (.iconst 1, 1) := by decide +kernel
theorem dX3_findRates_5 : decode cX3_findRates 5 = .ok (.invokestatic 91, 3) := by decide +kernel
theorem dX3_findRates_8 : decode cX3_findRates 8 = .ok (.iconst 0, 1) := by decide +kernel
theorem dX3_findRates_9 : decode cX3_findRates 9 = .ok (.istore_n 2, 1) := by decide +kernel
theorem dX3_findRates_10 : decode cX3_findRates 10 = .ok (.iload_n 2, 1) := by decide +kernel
theorem dX3_findRates_11 : decode cX3_findRates 11 = .ok (.aload_n 1, 1) := by decide +kernel
theorem dX3_findRates_12 : decode cX3_findRates 12 = .ok (.getfield 51, 3) := by decide +kernel
theorem dX3_findRates_15 : decode cX3_findRates 15 = .ok (.if_icmp .ge 50, 3) := by decide +kernel
theorem dX3_findRates_18 : decode cX3_findRates 18 = .ok (.iload_n 2, 1) := by decide +kernel
theorem dX3_findRates_19 : decode cX3_findRates 19 = .ok (.bipush 90, 2) := by decide +kernel
theorem dX3_findRates_21 : decode cX3_findRates 21 = .ok (.if_icmp .ge 44, 3) := by decide +kernel
theorem dX3_findRates_24 : decode cX3_findRates 24 = .ok (.aload_n 1, 1) := by decide +kernel
theorem dX3_findRates_25 : decode cX3_findRates 25 = .ok (.iload_n 2, 1) := by decide +kernel
theorem dX3_findRates_26 : decode cX3_findRates 26 = .ok (.invokevirtual 63, 3) := by decide +kernel
theorem dX3_findRates_29 : decode cX3_findRates 29 = .ok (.istore_n 3, 1) := by decide +kernel
theorem dX3_findRates_30 : decode cX3_findRates 30 = .ok (.iload_n 3, 1) := by decide +kernel
theorem dX3_findRates_31 : decode cX3_findRates 31 = .ok (.istore 4, 2) := by decide +kernel
theorem dX3_findRates_33 : decode cX3_findRates 33 = .ok (.iload 4, 2) := by decide +kernel
theorem dX3_findRates_35 : decode cX3_findRates 35 = .ok (.ifCond .lt 24, 3) := by decide +kernel
theorem dX3_findRates_38 : decode cX3_findRates 38 = .ok (.iload 4, 2) := by decide +kernel
theorem dX3_findRates_40 : decode cX3_findRates 40 = .ok (.iload_n 2, 1) := by decide +kernel
theorem dX3_findRates_41 : decode cX3_findRates 41 = .ok (.if_icmp .gt 18, 3) := by decide +kernel
theorem dX3_findRates_44 : decode cX3_findRates 44 = .ok (.aload_n 0, 1) := by decide +kernel
theorem dX3_findRates_45 : decode cX3_findRates 45 = .ok (.getfield 18, 3) := by decide +kernel
theorem dX3_findRates_48 : decode cX3_findRates 48 = .ok (.iload 4, 2) := by decide +kernel
theorem dX3_findRates_50 : decode cX3_findRates 50 = .ok (.bipush 10, 2) := by decide +kernel
theorem dX3_findRates_52 : decode cX3_findRates 52 = .ok (.iastore, 1) := by decide +kernel
theorem dX3_findRates_53 : decode cX3_findRates 53 = .ok (.iinc 4 1, 3) := by decide +kernel
theorem dX3_findRates_56 : decode cX3_findRates 56 = .ok (.goto (-23), 3) := by decide +kernel
theorem dX3_findRates_59 : decode cX3_findRates 59 = .ok (.iinc 2 1, 3) := by decide +kernel
theorem dX3_findRates_62 : decode cX3_findRates 62 = .ok (.goto (-52), 3) := by decide +kernel
theorem dX3_findRates_65 : decode cX3_findRates 65 = .ok (.return_, 1) := by decide +kernel
theorem dX3_findCosts_0 : decode cX3_findCosts 0 = .ok (.aload_n 0, 1) := by decide +kernel
theorem dX3_findCosts_1 : decode cX3_findCosts 1 = .ok (.getfield 25, 3) := by decide +kernel
theorem dX3_findCosts_4 : decode cX3_findCosts 4 = .ok (.iconst 0, 1) := by decide +kernel
theorem dX3_findCosts_5 : decode cX3_findCosts 5 = .ok (.invokestatic 91, 3) := by decide +kernel
theorem dX3_findCosts_8 : decode cX3_findCosts 8 = .ok (.iconst 0, 1) := by decide +kernel
theorem dX3_findCosts_9 : decode cX3_findCosts 9 = .ok (.istore_n 2, 1) := by decide +kernel
theorem dX3_findCosts_10 : decode cX3_findCosts 10 = .ok (.iload_n 2, 1) := by decide +kernel
theorem dX3_findCosts_11 : decode cX3_findCosts 11 = .ok (.aload_n 1, 1) := by decide +kernel
theorem dX3_findCosts_12 : decode cX3_findCosts 12 = .ok (.getfield 51, 3) := by decide +kernel
theorem dX3_findCosts_15 : decode cX3_findCosts 15 = .ok (.if_icmp .ge 91, 3) := by decide +kernel
theorem dX3_findCosts_18 : decode cX3_findCosts 18 = .ok (.iload_n 2, 1) := by decide +kernel
