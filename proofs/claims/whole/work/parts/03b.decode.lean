theorem dX3_findCosts_19 : decode cX3_findCosts 19 = .ok (.bipush 90, 2) := by decide +kernel
theorem dX3_findCosts_21 : decode cX3_findCosts 21 = .ok (.if_icmp .ge 85, 3) := by decide +kernel
theorem dX3_findCosts_24 : decode cX3_findCosts 24 = .ok (.iconst 1, 1) := by decide +kernel
theorem dX3_findCosts_25 : decode cX3_findCosts 25 = .ok (.istore_n 3, 1) := by decide +kernel
theorem dX3_findCosts_26 : decode cX3_findCosts 26 = .ok (.iload_n 3, 1) := by decide +kernel
theorem dX3_findCosts_27 : decode cX3_findCosts 27 = .ok (.iconst 3, 1) := by decide +kernel
theorem dX3_findCosts_28 : decode cX3_findCosts 28 = .ok (.if_icmp .gt 72, 3) := by decide +kernel
theorem dX3_findCosts_31 : decode cX3_findCosts 31 = .ok (.aload_n 1, 1) := by decide +kernel
theorem dX3_findCosts_32 : decode cX3_findCosts 32 = .ok (.iload_n 2, 1) := by decide +kernel
theorem dX3_findCosts_33 : decode cX3_findCosts 33 = .ok (.iload_n 3, 1) := by decide +kernel
theorem dX3_findCosts_34 : decode cX3_findCosts 34 = .ok (.invokevirtual 94, 3) := by decide +kernel
theorem dX3_findCosts_37 : decode cX3_findCosts 37 = .ok (.istore 4, 2) := by decide +kernel
theorem dX3_findCosts_39 : decode cX3_findCosts 39 = .ok (.iload 4, 2) := by decide +kernel
theorem dX3_findCosts_41 : decode cX3_findCosts 41 = .ok (.bipush 16, 2) := by decide +kernel
theorem dX3_findCosts_43 : decode cX3_findCosts 43 = .ok (.if_icmp .lt 23, 3) := by decide +kernel
theorem dX3_findCosts_46 : decode cX3_findCosts 46 = .ok (.iload 4, 2) := by decide +kernel
theorem dX3_findCosts_48 : decode cX3_findCosts 48 = .ok (.bipush 64, 2) := by decide +kernel
theorem dX3_findCosts_50 : decode cX3_findCosts 50 = .ok (.if_icmp .ge 16, 3) := by decide +kernel
theorem dX3_findCosts_53 : decode cX3_findCosts 53 = .ok (.aload_n 0, 1) := by decide +kernel
theorem dX3_findCosts_54 : decode cX3_findCosts 54 = .ok (.getfield 25, 3) := by decide +kernel
theorem dX3_findCosts_57 : decode cX3_findCosts 57 = .ok (.iload 4, 2) := by decide +kernel
theorem dX3_findCosts_59 : decode cX3_findCosts 59 = .ok (.sipush 10000, 3) := by decide +kernel
theorem dX3_findCosts_62 : decode cX3_findCosts 62 = .ok (.iastore, 1) := by decide +kernel
theorem dX3_findCosts_63 : decode cX3_findCosts 63 = .ok (.goto 31, 3) := by decide +kernel
theorem dX3_findCosts_66 : decode cX3_findCosts 66 = .ok (.iload 4, 2) := by decide +kernel
theorem dX3_findCosts_68 : decode cX3_findCosts 68 = .ok (.ifCond .lt 26, 3) := by decide +kernel
theorem dX3_findCosts_71 : decode cX3_findCosts 71 = .ok (.iload 4, 2) := by decide +kernel
theorem dX3_findCosts_73 : decode cX3_findCosts 73 = .ok (.bipush 16, 2) := by decide +kernel
theorem dX3_findCosts_75 : decode cX3_findCosts 75 = .ok (.if_icmp .ge 19, 3) := by decide +kernel
theorem dX3_findCosts_78 : decode cX3_findCosts 78 = .ok (.aload_n 0, 1) := by decide +kernel
theorem dX3_findCosts_79 : decode cX3_findCosts 79 = .ok (.getfield 25, 3) := by decide +kernel
theorem dX3_findCosts_82 : decode cX3_findCosts 82 = .ok (.iload 4, 2) := by decide +kernel
theorem dX3_findCosts_84 : decode cX3_findCosts 84 = .ok (.dup2, 1) := by decide +kernel
theorem dX3_findCosts_85 : decode cX3_findCosts 85 = .ok (.iaload, 1) := by decide +kernel
theorem dX3_findCosts_86 : decode cX3_findCosts 86 = .ok (.aload_n 0, 1) := by decide +kernel
theorem dX3_findCosts_87 : decode cX3_findCosts 87 = .ok (.getfield 18, 3) := by decide +kernel
theorem dX3_findCosts_90 : decode cX3_findCosts 90 = .ok (.iload_n 2, 1) := by decide +kernel
theorem dX3_findCosts_91 : decode cX3_findCosts 91 = .ok (.iaload, 1) := by decide +kernel
theorem dX3_findCosts_92 : decode cX3_findCosts 92 = .ok (.iadd, 1) := by decide +kernel
theorem dX3_findCosts_93 : decode cX3_findCosts 93 = .ok (.iastore, 1) := by decide +kernel
theorem dX3_findCosts_94 : decode cX3_findCosts 94 = .ok (.iinc 3 1, 3) := by decide +kernel
theorem dX3_findCosts_97 : decode cX3_findCosts 97 = .ok (.goto (-71), 3) := by decide +kernel
theorem dX3_findCosts_100 : decode cX3_findCosts 100 = .ok (.iinc 2 1, 3) := by decide +kernel
theorem dX3_findCosts_103 : decode cX3_findCosts 103 = .ok (.goto (-93), 3) := by decide +kernel
theorem dX3_findCosts_106 : decode cX3_findCosts 106 = .ok (.return_, 1) := by decide +kernel
theorem dX4_init_0 : decode cX4_init 0 = .ok (.aload_n 0, 1) := by decide +kernel
theorem dX4_init_1 : decode cX4_init 1 = .ok (.invokespecial 3, 3) := by decide +kernel
theorem dX4_init_4 : decode cX4_init 4 = .ok (.aload_n 0, 1) := by decide +kernel
theorem dX4_init_5 : decode cX4_init 5 = .ok (.bipush 60, 2) := by decide +kernel
theorem dX4_init_7 : decode cX4_init 7 = .ok (.newarray .int, 2) := by decide +kernel
theorem dX4_init_9 : decode cX4_init 9 = .ok (.putfield 9, 3) := by decide +kernel
theorem dX4_init_12 : decode cX4_init 12 = .ok (.aload_n 0, 1) := by decide +kernel
theorem dX4_init_13 : decode cX4_init 13 = .ok (.iconst 0, 1) := by decide +kernel
theorem dX4_init_14 : decode cX4_init 14 = .ok (.putfield 15, 3) := by decide +kernel
theorem dX4_init_17 : decode cX4_init 17 = .ok (.return_, 1) := by decide +kernel
theorem dX4_add_0 : decode cX4_add 0 = .ok (.aload_n 0, 1) := by decide +kernel
theorem dX4_add_1 : decode cX4_add 1 = .ok (.getfield 15, 3) := by decide +kernel
theorem dX4_add_4 : decode cX4_add 4 = .ok (.ifCond .lt 12, 3) := by decide +kernel
theorem dX4_add_7 : decode cX4_add 7 = .ok (.aload_n 0, 1) := by decide +kernel
theorem dX4_add_8 : decode cX4_add 8 = .ok (.getfield 15, 3) := by decide +kernel
theorem dX4_add_11 : decode cX4_add 11 = .ok (.bipush 60, 2) := by decide +kernel
theorem dX4_add_13 : decode cX4_add 13 = .ok (.if_icmp .lt 5, 3) := by decide +kernel
theorem dX4_add_16 : decode cX4_add 16 = .ok (.iconst 0, 1) := by decide +kernel
theorem dX4_add_17 : decode cX4_add 17 = .ok (.ireturn, 1) := by decide +kernel
theorem dX4_add_18 : decode cX4_add 18 = .ok (.aload_n 0, 1) := by decide +kernel
theorem dX4_add_19 : decode cX4_add 19 = .ok (.getfield 9, 3) := by decide +kernel
theorem dX4_add_22 : decode cX4_add 22 = .ok (.aload_n 0, 1) := by decide +kernel
theorem dX4_add_23 : decode cX4_add 23 = .ok (.getfield 15, 3) := by decide +kernel
theorem dX4_add_26 : decode cX4_add 26 = .ok (.iload_n 1, 1) := by decide +kernel
theorem dX4_add_27 : decode cX4_add 27 = .ok (.iastore, 1) := by decide +kernel
theorem dX4_add_28 : decode cX4_add 28 = .ok (.aload_n 0, 1) := by decide +kernel
theorem dX4_add_29 : decode cX4_add 29 = .ok (.dup, 1) := by decide +kernel
theorem dX4_add_30 : decode cX4_add 30 = .ok (.getfield 15, 3) := by decide +kernel
theorem dX4_add_33 : decode cX4_add 33 = .ok (.iconst 1, 1) := by decide +kernel
theorem dX4_add_34 : decode cX4_add 34 = .ok (.iadd, 1) := by decide +kernel
theorem dX4_add_35 : decode cX4_add 35 = .ok (.putfield 15, 3) := by decide +kernel
theorem dX4_add_38 : decode cX4_add 38 = .ok (.iconst 1, 1) := by decide +kernel
theorem dX4_add_39 : decode cX4_add 39 = .ok (.ireturn, 1) := by decide +kernel
theorem dX4_faultPlace_0 : decode cX4_faultPlace 0 = .ok (.bipush (-6), 2) := by decide +kernel
theorem dX4_faultPlace_2 : decode cX4_faultPlace 2 = .ok (.istore_n 1, 1) := by decide +kernel
theorem dX4_faultPlace_3 : decode cX4_faultPlace 3 = .ok (.iconst 0, 1) := by decide +kernel
theorem dX4_faultPlace_4 : decode cX4_faultPlace 4 = .ok (.istore_n 2, 1) := by decide +kernel
theorem dX4_faultPlace_5 : decode cX4_faultPlace 5 = .ok (.iconst 0, 1) := by decide +kernel
theorem dX4_faultPlace_6 : decode cX4_faultPlace 6 = .ok (.istore_n 3, 1) := by decide +kernel
theorem dX4_faultPlace_7 : decode cX4_faultPlace 7 = .ok (.iload_n 3, 1) := by decide +kernel
theorem dX4_faultPlace_8 : decode cX4_faultPlace 8 = .ok (.aload_n 0, 1) := by decide +kernel
theorem dX4_faultPlace_9 : decode cX4_faultPlace 9 = .ok (.getfield 15, 3) := by decide +kernel
theorem dX4_faultPlace_12 : decode cX4_faultPlace 12 = .ok (.if_icmp .ge 69, 3) := by decide +kernel
theorem dX4_faultPlace_15 : decode cX4_faultPlace 15 = .ok (.iload_n 3, 1) := by decide +kernel
theorem dX4_faultPlace_16 : decode cX4_faultPlace 16 = .ok (.bipush 60, 2) := by decide +kernel
theorem dX4_faultPlace_18 : decode cX4_faultPlace 18 = .ok (.if_icmp .ge 63, 3) := by decide +kernel
theorem dX4_faultPlace_21 : decode cX4_faultPlace 21 = .ok (.iload_n 2, 1) := by decide +kernel
theorem dX4_faultPlace_22 : decode cX4_faultPlace 22 = .ok (.ifCond .ne 19, 3) := by decide +kernel
theorem dX4_faultPlace_25 : decode cX4_faultPlace 25 = .ok (.aload_n 0, 1) := by decide +kernel
theorem dX4_faultPlace_26 : decode cX4_faultPlace 26 = .ok (.getfield 9, 3) := by decide +kernel
theorem dX4_faultPlace_29 : decode cX4_faultPlace 29 = .ok (.iload_n 3, 1) := by decide +kernel
theorem dX4_faultPlace_30 : decode cX4_faultPlace 30 = .ok (.iaload, 1) := by decide +kernel
theorem dX4_faultPlace_31 : decode cX4_faultPlace 31 = .ok (.invokestatic 19, 3) := by decide +kernel
theorem dX4_faultPlace_34 : decode cX4_faultPlace 34 = .ok (.istore_n 1, 1) := by decide +kernel
theorem dX4_faultPlace_35 : decode cX4_faultPlace 35 = .ok (.iload_n 1, 1) := by decide +kernel
theorem dX4_faultPlace_36 : decode cX4_faultPlace 36 = .ok (.ifCond .ge 24, 3) := by decide +kernel
theorem dX4_faultPlace_39 : decode cX4_faultPlace 39 = .ok (.iload_n 3, 1) := by decide +kernel
theorem dX4_faultPlace_40 : decode cX4_faultPlace 40 = .ok (.ireturn, 1) := by decide +kernel
theorem dX4_faultPlace_41 : decode cX4_faultPlace 41 = .ok (.aload_n 0, 1) := by decide +kernel
theorem dX4_faultPlace_42 : decode cX4_faultPlace 42 = .ok (.getfield 9, 3) := by decide +kernel
theorem dX4_faultPlace_45 : decode cX4_faultPlace 45 = .ok (.iload_n 3, 1) := by decide +kernel
theorem dX4_faultPlace_46 : decode cX4_faultPlace 46 = .ok (.iaload, 1) := by decide +kernel
theorem dX4_faultPlace_47 : decode cX4_faultPlace 47 = .ok (.iload_n 1, 1) := by decide +kernel
theorem dX4_faultPlace_48 : decode cX4_faultPlace 48 = .ok (.iload_n 2, 1) := by decide +kernel
theorem dX4_faultPlace_49 : decode cX4_faultPlace 49 = .ok (.invokestatic 23, 3) := by decide +kernel
theorem dX4_faultPlace_52 : decode cX4_faultPlace 52 = .ok (.invokestatic 27, 3) := by decide +kernel
theorem dX4_faultPlace_55 : decode cX4_faultPlace 55 = .ok (.ifCond .ge 5, 3) := by decide +kernel
theorem dX4_faultPlace_58 : decode cX4_faultPlace 58 = .ok (.iload_n 3, 1) := by decide +kernel
theorem dX4_faultPlace_59 : decode cX4_faultPlace 59 = .ok (.ireturn, 1) := by decide +kernel
theorem dX4_faultPlace_60 : decode cX4_faultPlace 60 = .ok (.iinc 2 1, 3) := by decide +kernel
theorem dX4_faultPlace_63 : decode cX4_faultPlace 63 = .ok (.iload_n 1, 1) := by decide +kernel
theorem dX4_faultPlace_64 : decode cX4_faultPlace 64 = .ok (.iload_n 2, 1) := by decide +kernel
theorem dX4_faultPlace_65 : decode cX4_faultPlace 65 = .ok (.invokestatic 23, 3) := by decide +kernel
theorem dX4_faultPlace_68 : decode cX4_faultPlace 68 = .ok (.bipush 45, 2) := by decide +kernel
theorem dX4_faultPlace_70 : decode cX4_faultPlace 70 = .ok (.if_icmp .ne 5, 3) := by decide +kernel
theorem dX4_faultPlace_73 : decode cX4_faultPlace 73 = .ok (.iconst 0, 1) := by decide +kernel
theorem dX4_faultPlace_74 : decode cX4_faultPlace 74 = .ok (.istore_n 2, 1) := by decide +kernel
theorem dX4_faultPlace_75 : decode cX4_faultPlace 75 = .ok (.iinc 3 1, 3) := by decide +kernel
theorem dX4_faultPlace_78 : decode cX4_faultPlace 78 = .ok (.goto (-71), 3) := by decide +kernel
theorem dX4_faultPlace_81 : decode cX4_faultPlace 81 = .ok (.iload_n 2, 1) := by decide +kernel
theorem dX4_faultPlace_82 : decode cX4_faultPlace 82 = .ok (.ifCond .ne 8, 3) := by decide +kernel
theorem dX4_faultPlace_85 : decode cX4_faultPlace 85 = .ok (.bipush (-6), 2) := by decide +kernel
theorem dX4_faultPlace_87 : decode cX4_faultPlace 87 = .ok (.goto 7, 3) := by decide +kernel
theorem dX4_faultPlace_90 : decode cX4_faultPlace 90 = .ok (.aload_n 0, 1) := by decide +kernel
theorem dX4_faultPlace_91 : decode cX4_faultPlace 91 = .ok (.getfield 15, 3) := by decide +kernel
theorem dX4_faultPlace_94 : decode cX4_faultPlace 94 = .ok (.ireturn, 1) := by decide +kernel
theorem dX4_tellTo_0 : decode cX4_tellTo 0 = .ok (.aload_n 1, 1) := by decide +kernel
theorem dX4_tellTo_1 : decode cX4_tellTo 1 = .ok (.invokevirtual 31, 3) := by decide +kernel
theorem dX4_tellTo_4 : decode cX4_tellTo 4 = .ok (.iconst 0, 1) := by decide +kernel
theorem dX4_tellTo_5 : decode cX4_tellTo 5 = .ok (.istore_n 2, 1) := by decide +kernel
theorem dX4_tellTo_6 : decode cX4_tellTo 6 = .ok (.iconst 0, 1) := by decide +kernel
theorem dX4_tellTo_7 : decode cX4_tellTo 7 = .ok (.istore_n 3, 1) := by decide +kernel
theorem dX4_tellTo_8 : decode cX4_tellTo 8 = .ok (.iload_n 3, 1) := by decide +kernel
theorem dX4_tellTo_9 : decode cX4_tellTo 9 = .ok (.bipush 60, 2) := by decide +kernel
theorem dX4_tellTo_11 : decode cX4_tellTo 11 = .ok (.if_icmp .ge 98, 3) := by decide +kernel
theorem dX4_tellTo_14 : decode cX4_tellTo 14 = .ok (.iload_n 2, 1) := by decide +kernel
theorem dX4_tellTo_15 : decode cX4_tellTo 15 = .ok (.aload_n 0, 1) := by decide +kernel
theorem dX4_tellTo_16 : decode cX4_tellTo 16 = .ok (.getfield 15, 3) := by decide +kernel
theorem dX4_tellTo_19 : decode cX4_tellTo 19 = .ok (.if_icmp .ge 90, 3) := by decide +kernel
theorem dX4_tellTo_22 : decode cX4_tellTo 22 = .ok (.iload_n 2, 1) := by decide +kernel
theorem dX4_tellTo_23 : decode cX4_tellTo 23 = .ok (.bipush 60, 2) := by decide +kernel
theorem dX4_tellTo_25 : decode cX4_tellTo 25 = .ok (.if_icmp .ge 84, 3) := by decide +kernel
theorem dX4_tellTo_28 : decode cX4_tellTo 28 = .ok (.aload_n 0, 1) := by decide +kernel
theorem dX4_tellTo_29 : decode cX4_tellTo 29 = .ok (.getfield 9, 3) := by decide +kernel
theorem dX4_tellTo_32 : decode cX4_tellTo 32 = .ok (.iload_n 2, 1) := by decide +kernel
theorem dX4_tellTo_33 : decode cX4_tellTo 33 = .ok (.iaload, 1) := by decide +kernel
theorem dX4_tellTo_34 : decode cX4_tellTo 34 = .ok (.invokestatic 19, 3) := by decide +kernel
theorem dX4_tellTo_37 : decode cX4_tellTo 37 = .ok (.istore 4, 2) := by decide +kernel
theorem dX4_tellTo_39 : decode cX4_tellTo 39 = .ok (.aload_n 1, 1) := by decide +kernel
theorem dX4_tellTo_40 : decode cX4_tellTo 40 = .ok (.iload 4, 2) := by decide +kernel
theorem dX4_tellTo_42 : decode cX4_tellTo 42 = .ok (.aload_n 0, 1) := by decide +kernel
theorem dX4_tellTo_43 : decode cX4_tellTo 43 = .ok (.iload 4, 2) := by decide +kernel
theorem dX4_tellTo_45 : decode cX4_tellTo 45 = .ok (.iconst 1, 1) := by decide +kernel
theorem dX4_tellTo_46 : decode cX4_tellTo 46 = .ok (.iload_n 2, 1) := by decide +kernel
theorem dX4_tellTo_47 : decode cX4_tellTo 47 = .ok (.invokevirtual 36, 3) := by decide +kernel
theorem dX4_tellTo_50 : decode cX4_tellTo 50 = .ok (.aload_n 0, 1) := by decide +kernel
theorem dX4_tellTo_51 : decode cX4_tellTo 51 = .ok (.iload 4, 2) := by decide +kernel
theorem dX4_tellTo_53 : decode cX4_tellTo 53 = .ok (.iconst 2, 1) := by decide +kernel
theorem dX4_tellTo_54 : decode cX4_tellTo 54 = .ok (.iload_n 2, 1) := by decide +kernel
theorem dX4_tellTo_55 : decode cX4_tellTo 55 = .ok (.invokevirtual 36, 3) := by decide +kernel
theorem dX4_tellTo_58 : decode cX4_tellTo 58 = .ok (.aload_n 0, 1) := by decide +kernel
theorem dX4_tellTo_59 : decode cX4_tellTo 59 = .ok (.iload 4, 2) := by decide +kernel
theorem dX4_tellTo_61 : decode cX4_tellTo 61 = .ok (.iconst 3, 1) := by decide +kernel
theorem dX4_tellTo_62 : decode cX4_tellTo 62 = .ok (.iload_n 2, 1) := by decide +kernel
theorem dX4_tellTo_63 : decode cX4_tellTo 63 = .ok (.invokevirtual 36, 3) := by decide +kernel
theorem dX4_tellTo_66 : decode cX4_tellTo 66 = .ok (.invokevirtual 40, 3) := by decide +kernel
theorem dX4_tellTo_69 : decode cX4_tellTo 69 = .ok (.pop, 1) := by decide +kernel
theorem dX4_tellTo_70 : decode cX4_tellTo 70 = .ok (.iinc 2 1, 3) := by decide +kernel
theorem dX4_tellTo_73 : decode cX4_tellTo 73 = .ok (.iconst 1, 1) := by decide +kernel
theorem dX4_tellTo_74 : decode cX4_tellTo 74 = .ok (.istore 5, 2) := by decide +kernel
theorem dX4_tellTo_76 : decode cX4_tellTo 76 = .ok (.iload 5, 2) := by decide +kernel
theorem dX4_tellTo_78 : decode cX4_tellTo 78 = .ok (.iconst 3, 1) := by decide +kernel
theorem dX4_tellTo_79 : decode cX4_tellTo 79 = .ok (.if_icmp .gt 24, 3) := by decide +kernel
theorem dX4_tellTo_82 : decode cX4_tellTo 82 = .ok (.iload 4, 2) := by decide +kernel
theorem dX4_tellTo_84 : decode cX4_tellTo 84 = .ok (.iload 5, 2) := by decide +kernel
theorem dX4_tellTo_86 : decode cX4_tellTo 86 = .ok (.invokestatic 23, 3) := by decide +kernel
theorem dX4_tellTo_89 : decode cX4_tellTo 89 = .ok (.bipush 45, 2) := by decide +kernel
theorem dX4_tellTo_91 : decode cX4_tellTo 91 = .ok (.if_icmp .eq 6, 3) := by decide +kernel
theorem dX4_tellTo_94 : decode cX4_tellTo 94 = .ok (.iinc 2 1, 3) := by decide +kernel
theorem dX4_tellTo_97 : decode cX4_tellTo 97 = .ok (.iinc 5 1, 3) := by decide +kernel
theorem dX4_tellTo_100 : decode cX4_tellTo 100 = .ok (.goto (-24), 3) := by decide +kernel
theorem dX4_tellTo_103 : decode cX4_tellTo 103 = .ok (.iinc 3 1, 3) := by decide +kernel
theorem dX4_tellTo_106 : decode cX4_tellTo 106 = .ok (.goto (-98), 3) := by decide +kernel
theorem dX4_tellTo_109 : decode cX4_tellTo 109 = .ok (.return_, 1) := by decide +kernel
theorem dX4_partOf_0 : decode cX4_partOf 0 = .ok (.iload_n 3, 1) := by decide +kernel
theorem dX4_partOf_1 : decode cX4_partOf 1 = .ok (.iload_n 2, 1) := by decide +kernel
theorem dX4_partOf_2 : decode cX4_partOf 2 = .ok (.iadd, 1) := by decide +kernel
theorem dX4_partOf_3 : decode cX4_partOf 3 = .ok (.istore 4, 2) := by decide +kernel
theorem dX4_partOf_5 : decode cX4_partOf 5 = .ok (.iload 4, 2) := by decide +kernel
theorem dX4_partOf_7 : decode cX4_partOf 7 = .ok (.ifCond .lt 19, 3) := by decide +kernel
theorem dX4_partOf_10 : decode cX4_partOf 10 = .ok (.iload 4, 2) := by decide +kernel
theorem dX4_partOf_12 : decode cX4_partOf 12 = .ok (.aload_n 0, 1) := by decide +kernel
theorem dX4_partOf_13 : decode cX4_partOf 13 = .ok (.getfield 15, 3) := by decide +kernel
theorem dX4_partOf_16 : decode cX4_partOf 16 = .ok (.if_icmp .ge 10, 3) := by decide +kernel
theorem dX4_partOf_19 : decode cX4_partOf 19 = .ok (.iload 4, 2) := by decide +kernel
theorem dX4_partOf_21 : decode cX4_partOf 21 = .ok (.bipush 60, 2) := by decide +kernel
theorem dX4_partOf_23 : decode cX4_partOf 23 = .ok (.if_icmp .lt 6, 3) := by decide +kernel
theorem dX4_partOf_26 : decode cX4_partOf 26 = .ok (.bipush (-6), 2) := by decide +kernel
theorem dX4_partOf_28 : decode cX4_partOf 28 = .ok (.ireturn, 1) := by decide +kernel
theorem dX4_partOf_29 : decode cX4_partOf 29 = .ok (.aload_n 0, 1) := by decide +kernel
theorem dX4_partOf_30 : decode cX4_partOf 30 = .ok (.getfield 9, 3) := by decide +kernel
theorem dX4_partOf_33 : decode cX4_partOf 33 = .ok (.iload 4, 2) := by decide +kernel
theorem dX4_partOf_35 : decode cX4_partOf 35 = .ok (.iaload, 1) := by decide +kernel
theorem dX4_partOf_36 : decode cX4_partOf 36 = .ok (.iload_n 1, 1) := by decide +kernel
theorem dX4_partOf_37 : decode cX4_partOf 37 = .ok (.iload_n 2, 1) := by decide +kernel
theorem dX4_partOf_38 : decode cX4_partOf 38 = .ok (.invokestatic 23, 3) := by decide +kernel
theorem dX4_partOf_41 : decode cX4_partOf 41 = .ok (.invokestatic 27, 3) := by decide +kernel
theorem dX4_partOf_44 : decode cX4_partOf 44 = .ok (.ireturn, 1) := by decide +kernel
theorem dX4_kindOf_0 : decode cX4_kindOf 0 = .ok (.ldc 44, 2) := by decide +kernel
theorem dX4_kindOf_2 : decode cX4_kindOf 2 = .ok (.iload_n 0, 1) := by decide +kernel
theorem dX4_kindOf_3 : decode cX4_kindOf 3 = .ok (.i2c, 1) := by decide +kernel
theorem dX4_kindOf_4 : decode cX4_kindOf 4 = .ok (.invokevirtual 46, 3) := by decide +kernel
theorem dX4_kindOf_7 : decode cX4_kindOf 7 = .ok (.ireturn, 1) := by decide +kernel
theorem dX4_meaningOf_0 : decode cX4_meaningOf 0 = .ok (.iload_n 1, 1) := by decide +kernel
theorem dX4_meaningOf_1 : decode cX4_meaningOf 1 = .ok (.bipush 48, 2) := by decide +kernel
theorem dX4_meaningOf_3 : decode cX4_meaningOf 3 = .ok (.if_icmp .ne 25, 3) := by decide +kernel
theorem dX4_meaningOf_6 : decode cX4_meaningOf 6 = .ok (.iload_n 0, 1) := by decide +kernel
theorem dX4_meaningOf_7 : decode cX4_meaningOf 7 = .ok (.bipush 48, 2) := by decide +kernel
theorem dX4_meaningOf_9 : decode cX4_meaningOf 9 = .ok (.if_icmp .lt 16, 3) := by decide +kernel
theorem dX4_meaningOf_12 : decode cX4_meaningOf 12 = .ok (.iload_n 0, 1) := by decide +kernel
theorem dX4_meaningOf_13 : decode cX4_meaningOf 13 = .ok (.bipush 57, 2) := by decide +kernel
theorem dX4_meaningOf_15 : decode cX4_meaningOf 15 = .ok (.if_icmp .gt 10, 3) := by decide +kernel
theorem dX4_meaningOf_18 : decode cX4_meaningOf 18 = .ok (.iload_n 0, 1) := by decide +kernel
theorem dX4_meaningOf_19 : decode cX4_meaningOf 19 = .ok (.bipush 48, 2) := by decide +kernel
theorem dX4_meaningOf_21 : decode cX4_meaningOf 21 = .ok (.isub, 1) := by decide +kernel
theorem dX4_meaningOf_22 : decode cX4_meaningOf 22 = .ok (.goto 5, 3) := by decide +kernel
theorem dX4_meaningOf_25 : decode cX4_meaningOf 25 = .ok (.bipush (-6), 2) := by decide +kernel
theorem dX4_meaningOf_27 : decode cX4_meaningOf 27 = .ok (.ireturn, 1) := by decide +kernel
theorem dX4_meaningOf_28 : decode cX4_meaningOf 28 = .ok (.iload_n 1, 1) := by decide +kernel
theorem dX4_meaningOf_29 : decode cX4_meaningOf 29 = .ok (.bipush 45, 2) := by decide +kernel
theorem dX4_meaningOf_31 : decode cX4_meaningOf 31 = .ok (.if_icmp .ne 6, 3) := by decide +kernel
theorem dX4_meaningOf_34 : decode cX4_meaningOf 34 = .ok (.bipush (-6), 2) := by decide +kernel
theorem dX4_meaningOf_36 : decode cX4_meaningOf 36 = .ok (.ireturn, 1) := by decide +kernel
theorem dX4_meaningOf_37 : decode cX4_meaningOf 37 = .ok (.iload_n 0, 1) := by decide +kernel
theorem dX4_meaningOf_38 : decode cX4_meaningOf 38 = .ok (.bipush 65, 2) := by decide +kernel
theorem dX4_meaningOf_40 : decode cX4_meaningOf 40 = .ok (.if_icmp .lt 14, 3) := by decide +kernel
theorem dX4_meaningOf_43 : decode cX4_meaningOf 43 = .ok (.iload_n 0, 1) := by decide +kernel
theorem dX4_meaningOf_44 : decode cX4_meaningOf 44 = .ok (.bipush 68, 2) := by decide +kernel
theorem dX4_meaningOf_46 : decode cX4_meaningOf 46 = .ok (.if_icmp .gt 8, 3) := by decide +kernel
theorem dX4_meaningOf_49 : decode cX4_meaningOf 49 = .ok (.iload_n 0, 1) := by decide +kernel
theorem dX4_meaningOf_50 : decode cX4_meaningOf 50 = .ok (.bipush 65, 2) := by decide +kernel
theorem dX4_meaningOf_52 : decode cX4_meaningOf 52 = .ok (.isub, 1) := by decide +kernel
theorem dX4_meaningOf_53 : decode cX4_meaningOf 53 = .ok (.ireturn, 1) := by decide +kernel
theorem dX4_meaningOf_54 : decode cX4_meaningOf 54 = .ok (.iload_n 0, 1) := by decide +kernel
theorem dX4_meaningOf_55 : decode cX4_meaningOf 55 = .ok (.bipush 97, 2) := by decide +kernel
theorem dX4_meaningOf_57 : decode cX4_meaningOf 57 = .ok (.if_icmp .lt 18, 3) := by decide +kernel
theorem dX4_meaningOf_60 : decode cX4_meaningOf 60 = .ok (.iload_n 0, 1) := by decide +kernel
theorem dX4_meaningOf_61 : decode cX4_meaningOf 61 = .ok (.bipush 108, 2) := by decide +kernel
theorem dX4_meaningOf_63 : decode cX4_meaningOf 63 = .ok (.if_icmp .gt 12, 3) := by decide +kernel
theorem dX4_meaningOf_66 : decode cX4_meaningOf 66 = .ok (.iload_n 0, 1) := by decide +kernel
theorem dX4_meaningOf_67 : decode cX4_meaningOf 67 = .ok (.bipush 97, 2) := by decide +kernel
theorem dX4_meaningOf_69 : decode cX4_meaningOf 69 = .ok (.isub, 1) := by decide +kernel
theorem dX4_meaningOf_70 : decode cX4_meaningOf 70 = .ok (.iconst 4, 1) := by decide +kernel
theorem dX4_meaningOf_71 : decode cX4_meaningOf 71 = .ok (.iadd, 1) := by decide +kernel
theorem dX4_meaningOf_72 : decode cX4_meaningOf 72 = .ok (.goto 5, 3) := by decide +kernel
theorem dX4_meaningOf_75 : decode cX4_meaningOf 75 = .ok (.bipush (-6), 2) := by decide +kernel
theorem dX4_meaningOf_77 : decode cX4_meaningOf 77 = .ok (.ireturn, 1) := by decide +kernel
theorem dX5_init_0 : decode cX5_init 0 = .ok (.aload_n 0, 1) := by decide +kernel
theorem dX5_init_1 : decode cX5_init 1 = .ok (.invokespecial 3, 3) := by decide +kernel
theorem dX5_init_4 : decode cX5_init 4 = .ok (.aload_n 0, 1) := by decide +kernel
theorem dX5_init_5 : decode cX5_init 5 = .ok (.bipush 64, 2) := by decide +kernel
theorem dX5_init_7 : decode cX5_init 7 = .ok (.newarray .long, 2) := by decide +kernel
theorem dX5_init_9 : decode cX5_init 9 = .ok (.putfield 9, 3) := by decide +kernel
theorem dX5_init_12 : decode cX5_init 12 = .ok (.aload_n 0, 1) := by decide +kernel
theorem dX5_init_13 : decode cX5_init 13 = .ok (.bipush 64, 2) := by decide +kernel
theorem dX5_init_15 : decode cX5_init 15 = .ok (.newarray .int, 2) := by decide +kernel
theorem dX5_init_17 : decode cX5_init 17 = .ok (.putfield 15, 3) := by decide +kernel
theorem dX5_init_20 : decode cX5_init 20 = .ok (.aload_n 0, 1) := by decide +kernel
theorem dX5_init_21 : decode cX5_init 21 = .ok (.bipush 64, 2) := by decide +kernel
theorem dX5_init_23 : decode cX5_init 23 = .ok (.newarray .int, 2) := by decide +kernel
theorem dX5_init_25 : decode cX5_init 25 = .ok (.putfield 19, 3) := by decide +kernel
theorem dX5_init_28 : decode cX5_init 28 = .ok (.aload_n 0, 1) := by decide +kernel
theorem dX5_init_29 : decode cX5_init 29 = .ok (.bipush 64, 2) := by decide +kernel
theorem dX5_init_31 : decode cX5_init 31 = .ok (.newarray .int, 2) := by decide +kernel
theorem dX5_init_33 : decode cX5_init 33 = .ok (.putfield 22, 3) := by decide +kernel
theorem dX5_init_36 : decode cX5_init 36 = .ok (.aload_n 0, 1) := by decide +kernel
theorem dX5_init_37 : decode cX5_init 37 = .ok (.bipush 64, 2) := by decide +kernel
theorem dX5_init_39 : decode cX5_init 39 = .ok (.newarray .int, 2) := by decide +kernel
theorem dX5_init_41 : decode cX5_init 41 = .ok (.putfield 25, 3) := by decide +kernel
theorem dX5_init_44 : decode cX5_init 44 = .ok (.aload_n 0, 1) := by decide +kernel
theorem dX5_init_45 : decode cX5_init 45 = .ok (.bipush 90, 2) := by decide +kernel
theorem dX5_init_47 : decode cX5_init 47 = .ok (.newarray .int, 2) := by decide +kernel
theorem dX5_init_49 : decode cX5_init 49 = .ok (.putfield 28, 3) := by decide +kernel
theorem dX5_init_52 : decode cX5_init 52 = .ok (.aload_n 0, 1) := by decide +kernel
theorem dX5_init_53 : decode cX5_init 53 = .ok (.bipush 90, 2) := by decide +kernel
theorem dX5_init_55 : decode cX5_init 55 = .ok (.newarray .int, 2) := by decide +kernel
theorem dX5_init_57 : decode cX5_init 57 = .ok (.putfield 31, 3) := by decide +kernel
theorem dX5_init_60 : decode cX5_init 60 = .ok (.aload_n 0, 1) := by decide +kernel
theorem dX5_init_61 : decode cX5_init 61 = .ok (.bipush 90, 2) := by decide +kernel
theorem dX5_init_63 : decode cX5_init 63 = .ok (.newarray .boolean, 2) := by decide +kernel
theorem dX5_init_65 : decode cX5_init 65 = .ok (.putfield 34, 3) := by decide +kernel
theorem dX5_init_68 : decode cX5_init 68 = .ok (.aload_n 0, 1) := by decide +kernel
theorem dX5_init_69 : decode cX5_init 69 = .ok (.bipush 64, 2) := by decide +kernel
theorem dX5_init_71 : decode cX5_init 71 = .ok (.newarray .int, 2) := by decide +kernel
theorem dX5_init_73 : decode cX5_init 73 = .ok (.putfield 38, 3) := by decide +kernel
theorem dX5_init_76 : decode cX5_init 76 = .ok (.aload_n 0, 1) := by decide +kernel
theorem dX5_init_77 : decode cX5_init 77 = .ok (.sipush 154, 3) := by decide +kernel
theorem dX5_init_80 : decode cX5_init 80 = .ok (.newarray .int, 2) := by decide +kernel
theorem dX5_init_82 : decode cX5_init 82 = .ok (.putfield 41, 3) := by decide +kernel
theorem dX5_init_85 : decode cX5_init 85 = .ok (.aload_n 0, 1) := by decide +kernel
theorem dX5_init_86 : decode cX5_init 86 = .ok (.iconst 4, 1) := by decide +kernel
theorem dX5_init_87 : decode cX5_init 87 = .ok (.putfield 44, 3) := by decide +kernel
theorem dX5_init_90 : decode cX5_init 90 = .ok (.aload_n 0, 1) := by decide +kernel
theorem dX5_init_91 : decode cX5_init 91 = .ok (.iconst 0, 1) := by decide +kernel
theorem dX5_init_92 : decode cX5_init 92 = .ok (.putfield 48, 3) := by decide +kernel
theorem dX5_init_95 : decode cX5_init 95 = .ok (.aload_n 0, 1) := by decide +kernel
theorem dX5_init_96 : decode cX5_init 96 = .ok (.iconst 0, 1) := by decide +kernel
theorem dX5_init_97 : decode cX5_init 97 = .ok (.putfield 51, 3) := by decide +kernel
theorem dX5_init_100 : decode cX5_init 100 = .ok (.aload_n 0, 1) := by decide +kernel
theorem dX5_init_101 : decode cX5_init 101 = .ok (.iconst 0, 1) := by decide +kernel
theorem dX5_init_102 : decode cX5_init 102 = .ok (.putfield 54, 3) := by decide +kernel
theorem dX5_init_105 : decode cX5_init 105 = .ok (.aload_n 0, 1) := by decide +kernel
theorem dX5_init_106 : decode cX5_init 106 = .ok (.lconst 0, 1) := by decide +kernel
theorem dX5_init_107 : decode cX5_init 107 = .ok (.putfield 57, 3) := by decide +kernel
theorem dX5_init_110 : decode cX5_init 110 = .ok (.aload_n 0, 1) := by decide +kernel
theorem dX5_init_111 : decode cX5_init 111 = .ok (.lconst 0, 1) := by decide +kernel
theorem dX5_init_112 : decode cX5_init 112 = .ok (.putfield 61, 3) := by decide +kernel
theorem dX5_init_115 : decode cX5_init 115 = .ok (.aload_n 0, 1) := by decide +kernel
theorem dX5_init_116 : decode cX5_init 116 = .ok (.lconst 0, 1) := by decide +kernel
theorem dX5_init_117 : decode cX5_init 117 = .ok (.putfield 64, 3) := by decide +kernel
theorem dX5_init_120 : decode cX5_init 120 = .ok (.aload_n 0, 1) := by decide +kernel
theorem dX5_init_121 : decode cX5_init 121 = .ok (.lconst 0, 1) := by decide +kernel
theorem dX5_init_122 : decode cX5_init 122 = .ok (.putfield 67, 3) := by decide +kernel
theorem dX5_init_125 : decode cX5_init 125 = .ok (.aload_n 0, 1) := by decide +kernel
theorem dX5_init_126 : decode cX5_init 126 = .ok (.iconst 0, 1) := by decide +kernel
theorem dX5_init_127 : decode cX5_init 127 = .ok (.putfield 70, 3) := by decide +kernel
theorem dX5_init_130 : decode cX5_init 130 = .ok (.aload_n 0, 1) := by decide +kernel
theorem dX5_init_131 : decode cX5_init 131 = .ok (.iconst 0, 1) := by decide +kernel
theorem dX5_init_132 : decode cX5_init 132 = .ok (.putfield 73, 3) := by decide +kernel
theorem dX5_init_135 : decode cX5_init 135 = .ok (.return_, 1) := by decide +kernel
theorem dX5_play_0 : decode cX5_play 0 = .ok (.aload_n 0, 1) := by decide +kernel
theorem dX5_play_1 : decode cX5_play 1 = .ok (.iload_n 3, 1) := by decide +kernel
theorem dX5_play_2 : decode cX5_play 2 = .ok (.putfield 70, 3) := by decide +kernel
theorem dX5_play_5 : decode cX5_play 5 = .ok (.aload_n 0, 1) := by decide +kernel
theorem dX5_play_6 : decode cX5_play 6 = .ok (.iload 4, 2) := by decide +kernel
theorem dX5_play_8 : decode cX5_play 8 = .ok (.putfield 73, 3) := by decide +kernel
theorem dX5_play_11 : decode cX5_play 11 = .ok (.aload_n 0, 1) := by decide +kernel
theorem dX5_play_12 : decode cX5_play 12 = .ok (.aload_n 1, 1) := by decide +kernel
theorem dX5_play_13 : decode cX5_play 13 = .ok (.aload_n 2, 1) := by decide +kernel
theorem dX5_play_14 : decode cX5_play 14 = .ok (.invokevirtual 76, 3) := by decide +kernel
theorem dX5_play_17 : decode cX5_play 17 = .ok (.iconst 0, 1) := by decide +kernel
theorem dX5_play_18 : decode cX5_play 18 = .ok (.istore 5, 2) := by decide +kernel
theorem dX5_play_20 : decode cX5_play 20 = .ok (.iload 5, 2) := by decide +kernel
theorem dX5_play_22 : decode cX5_play 22 = .ok (.sipush 154, 3) := by decide +kernel
theorem dX5_play_25 : decode cX5_play 25 = .ok (.if_icmp .ge 41, 3) := by decide +kernel
theorem dX5_play_28 : decode cX5_play 28 = .ok (.aload_n 0, 1) := by decide +kernel
theorem dX5_play_29 : decode cX5_play 29 = .ok (.invokevirtual 80, 3) := by decide +kernel
theorem dX5_play_32 : decode cX5_play 32 = .ok (.ifCond .eq 34, 3) := by decide +kernel
theorem dX5_play_35 : decode cX5_play 35 = .ok (.aload_n 0, 1) := by decide +kernel
theorem dX5_play_36 : decode cX5_play 36 = .ok (.invokevirtual 84, 3) := by decide +kernel
theorem dX5_play_39 : decode cX5_play 39 = .ok (.ifCond .ne 21, 3) := by decide +kernel
theorem dX5_play_42 : decode cX5_play 42 = .ok (.aload_n 0, 1) := by decide +kernel
theorem dX5_play_43 : decode cX5_play 43 = .ok (.invokevirtual 87, 3) := by decide +kernel
theorem dX5_play_46 : decode cX5_play 46 = .ok (.ifCond .ne 14, 3) := by decide +kernel
theorem dX5_play_49 : decode cX5_play 49 = .ok (.aload_n 0, 1) := by decide +kernel
theorem dX5_play_50 : decode cX5_play 50 = .ok (.invokevirtual 90, 3) := by decide +kernel
theorem dX5_play_53 : decode cX5_play 53 = .ok (.ifCond .ne 7, 3) := by decide +kernel
theorem dX5_play_56 : decode cX5_play 56 = .ok (.aload_n 0, 1) := by decide +kernel
theorem dX5_play_57 : decode cX5_play 57 = .ok (.invokevirtual 93, 3) := by decide +kernel
theorem dX5_play_60 : decode cX5_play 60 = .ok (.iinc 5 1, 3) := by decide +kernel
theorem dX5_play_63 : decode cX5_play 63 = .ok (.goto (-43), 3) := by decide +kernel
theorem dX5_play_66 : decode cX5_play 66 = .ok (.aload_n 0, 1) := by decide +kernel
theorem dX5_play_67 : decode cX5_play 67 = .ok (.invokevirtual 96, 3) := by decide +kernel
theorem dX5_play_70 : decode cX5_play 70 = .ok (.return_, 1) := by decide +kernel
theorem dX5_begin_0 : decode cX5_begin 0 = .ok (.aload_n 0, 1) := by decide +kernel
theorem dX5_begin_1 : decode cX5_begin 1 = .ok (.iconst 0, 1) := by decide +kernel
theorem dX5_begin_2 : decode cX5_begin 2 = .ok (.putfield 51, 3) := by decide +kernel
theorem dX5_begin_5 : decode cX5_begin 5 = .ok (.aload_n 0, 1) := by decide +kernel
theorem dX5_begin_6 : decode cX5_begin 6 = .ok (.iconst 0, 1) := by decide +kernel
theorem dX5_begin_7 : decode cX5_begin 7 = .ok (.putfield 54, 3) := by decide +kernel
theorem dX5_begin_10 : decode cX5_begin 10 = .ok (.aload_n 0, 1) := by decide +kernel
theorem dX5_begin_11 : decode cX5_begin 11 = .ok (.lconst 0, 1) := by decide +kernel
theorem dX5_begin_12 : decode cX5_begin 12 = .ok (.putfield 67, 3) := by decide +kernel
theorem dX5_begin_15 : decode cX5_begin 15 = .ok (.aload_n 0, 1) := by decide +kernel
theorem dX5_begin_16 : decode cX5_begin 16 = .ok (.aload_n 1, 1) := by decide +kernel
theorem dX5_begin_17 : decode cX5_begin 17 = .ok (.getfield 99, 3) := by decide +kernel
theorem dX5_begin_20 : decode cX5_begin 20 = .ok (.ldc2_w 104, 3) := by decide +kernel
theorem dX5_begin_23 : decode cX5_begin 23 = .ok (.lor, 1) := by decide +kernel
theorem dX5_begin_24 : decode cX5_begin 24 = .ok (.putfield 57, 3) := by decide +kernel
theorem dX5_begin_27 : decode cX5_begin 27 = .ok (.aload_n 0, 1) := by decide +kernel
theorem dX5_begin_28 : decode cX5_begin 28 = .ok (.aload_n 1, 1) := by decide +kernel
theorem dX5_begin_29 : decode cX5_begin 29 = .ok (.getfield 106, 3) := by decide +kernel
theorem dX5_begin_32 : decode cX5_begin 32 = .ok (.bipush 64, 2) := by decide +kernel
theorem dX5_begin_34 : decode cX5_begin 34 = .ok (.invokestatic 107, 3) := by decide +kernel
theorem dX5_begin_37 : decode cX5_begin 37 = .ok (.putfield 44, 3) := by decide +kernel
theorem dX5_begin_40 : decode cX5_begin 40 = .ok (.iconst 0, 1) := by decide +kernel
theorem dX5_begin_41 : decode cX5_begin 41 = .ok (.istore_n 3, 1) := by decide +kernel
theorem dX5_begin_42 : decode cX5_begin 42 = .ok (.iload_n 3, 1) := by decide +kernel
theorem dX5_begin_43 : decode cX5_begin 43 = .ok (.bipush 64, 2) := by decide +kernel
theorem dX5_begin_45 : decode cX5_begin 45 = .ok (.if_icmp .ge 57, 3) := by decide +kernel
theorem dX5_begin_48 : decode cX5_begin 48 = .ok (.aload_n 0, 1) := by decide +kernel
theorem dX5_begin_49 : decode cX5_begin 49 = .ok (.getfield 9, 3) := by decide +kernel
theorem dX5_begin_52 : decode cX5_begin 52 = .ok (.iload_n 3, 1) := by decide +kernel
theorem dX5_begin_53 : decode cX5_begin 53 = .ok (.aload_n 2, 1) := by decide +kernel
theorem dX5_begin_54 : decode cX5_begin 54 = .ok (.getfield 113, 3) := by decide +kernel
theorem dX5_begin_57 : decode cX5_begin 57 = .ok (.iload_n 3, 1) := by decide +kernel
theorem dX5_begin_58 : decode cX5_begin 58 = .ok (.laload, 1) := by decide +kernel
theorem dX5_begin_59 : decode cX5_begin 59 = .ok (.lastore, 1) := by decide +kernel
theorem dX5_begin_60 : decode cX5_begin 60 = .ok (.aload_n 0, 1) := by decide +kernel
theorem dX5_begin_61 : decode cX5_begin 61 = .ok (.getfield 19, 3) := by decide +kernel
theorem dX5_begin_64 : decode cX5_begin 64 = .ok (.iload_n 3, 1) := by decide +kernel
theorem dX5_begin_65 : decode cX5_begin 65 = .ok (.aload_n 2, 1) := by decide +kernel
theorem dX5_begin_66 : decode cX5_begin 66 = .ok (.getfield 116, 3) := by decide +kernel
theorem dX5_begin_69 : decode cX5_begin 69 = .ok (.iload_n 3, 1) := by decide +kernel
theorem dX5_begin_70 : decode cX5_begin 70 = .ok (.iaload, 1) := by decide +kernel
theorem dX5_begin_71 : decode cX5_begin 71 = .ok (.iastore, 1) := by decide +kernel
theorem dX5_begin_72 : decode cX5_begin 72 = .ok (.aload_n 0, 1) := by decide +kernel
theorem dX5_begin_73 : decode cX5_begin 73 = .ok (.getfield 22, 3) := by decide +kernel
theorem dX5_begin_76 : decode cX5_begin 76 = .ok (.iload_n 3, 1) := by decide +kernel
theorem dX5_begin_77 : decode cX5_begin 77 = .ok (.iload_n 3, 1) := by decide +kernel
theorem dX5_begin_78 : decode cX5_begin 78 = .ok (.iastore, 1) := by decide +kernel
theorem dX5_begin_79 : decode cX5_begin 79 = .ok (.aload_n 0, 1) := by decide +kernel
theorem dX5_begin_80 : decode cX5_begin 80 = .ok (.getfield 25, 3) := by decide +kernel
theorem dX5_begin_83 : decode cX5_begin 83 = .ok (.iload_n 3, 1) := by decide +kernel
theorem dX5_begin_84 : decode cX5_begin 84 = .ok (.iload_n 3, 1) := by decide +kernel
theorem dX5_begin_85 : decode cX5_begin 85 = .ok (.iconst 4, 1) := by decide +kernel
theorem dX5_begin_86 : decode cX5_begin 86 = .ok (.if_icmp .ge 7, 3) := by decide +kernel
theorem dX5_begin_89 : decode cX5_begin 89 = .ok (.iload_n 3, 1) := by decide +kernel
theorem dX5_begin_90 : decode cX5_begin 90 = .ok (.goto 5, 3) := by decide +kernel
theorem dX5_begin_93 : decode cX5_begin 93 = .ok (.bipush (-6), 2) := by decide +kernel
theorem dX5_begin_95 : decode cX5_begin 95 = .ok (.iastore, 1) := by decide +kernel
theorem dX5_begin_96 : decode cX5_begin 96 = .ok (.iinc 3 1, 3) := by decide +kernel
theorem dX5_begin_99 : decode cX5_begin 99 = .ok (.goto (-57), 3) := by decide +kernel
theorem dX5_begin_102 : decode cX5_begin 102 = .ok (.aload_n 0, 1) := by decide +kernel
theorem dX5_begin_103 : decode cX5_begin 103 = .ok (.iconst 0, 1) := by decide +kernel
theorem dX5_begin_104 : decode cX5_begin 104 = .ok (.putfield 48, 3) := by decide +kernel
theorem dX5_begin_107 : decode cX5_begin 107 = .ok (.iconst 0, 1) := by decide +kernel
theorem dX5_begin_108 : decode cX5_begin 108 = .ok (.istore_n 3, 1) := by decide +kernel
theorem dX5_begin_109 : decode cX5_begin 109 = .ok (.iload_n 3, 1) := by decide +kernel
theorem dX5_begin_110 : decode cX5_begin 110 = .ok (.aload_n 1, 1) := by decide +kernel
theorem dX5_begin_111 : decode cX5_begin 111 = .ok (.getfield 117, 3) := by decide +kernel
theorem dX5_begin_114 : decode cX5_begin 114 = .ok (.if_icmp .ge 93, 3) := by decide +kernel
theorem dX5_begin_117 : decode cX5_begin 117 = .ok (.iload_n 3, 1) := by decide +kernel
theorem dX5_begin_118 : decode cX5_begin 118 = .ok (.bipush 90, 2) := by decide +kernel
theorem dX5_begin_120 : decode cX5_begin 120 = .ok (.if_icmp .ge 87, 3) := by decide +kernel
theorem dX5_begin_123 : decode cX5_begin 123 = .ok (.aload_n 1, 1) := by decide +kernel
theorem dX5_begin_124 : decode cX5_begin 124 = .ok (.iload_n 3, 1) := by decide +kernel
theorem dX5_begin_125 : decode cX5_begin 125 = .ok (.iconst 1, 1) := by decide +kernel
theorem dX5_begin_126 : decode cX5_begin 126 = .ok (.invokevirtual 120, 3) := by decide +kernel
theorem dX5_begin_129 : decode cX5_begin 129 = .ok (.istore 4, 2) := by decide +kernel
theorem dX5_begin_131 : decode cX5_begin 131 = .ok (.aload_n 1, 1) := by decide +kernel
theorem dX5_begin_132 : decode cX5_begin 132 = .ok (.iload_n 3, 1) := by decide +kernel
theorem dX5_begin_133 : decode cX5_begin 133 = .ok (.iconst 2, 1) := by decide +kernel
theorem dX5_begin_134 : decode cX5_begin 134 = .ok (.invokevirtual 120, 3) := by decide +kernel
theorem dX5_begin_137 : decode cX5_begin 137 = .ok (.istore 5, 2) := by decide +kernel
theorem dX5_begin_139 : decode cX5_begin 139 = .ok (.aload_n 1, 1) := by decide +kernel
theorem dX5_begin_140 : decode cX5_begin 140 = .ok (.iload_n 3, 1) := by decide +kernel
theorem dX5_begin_141 : decode cX5_begin 141 = .ok (.iconst 0, 1) := by decide +kernel
theorem dX5_begin_142 : decode cX5_begin 142 = .ok (.invokevirtual 123, 3) := by decide +kernel
theorem dX5_begin_145 : decode cX5_begin 145 = .ok (.iconst 1, 1) := by decide +kernel
theorem dX5_begin_146 : decode cX5_begin 146 = .ok (.if_icmp .ne 55, 3) := by decide +kernel
theorem dX5_begin_149 : decode cX5_begin 149 = .ok (.iload 4, 2) := by decide +kernel
theorem dX5_begin_151 : decode cX5_begin 151 = .ok (.ifCond .lt 50, 3) := by decide +kernel
theorem dX5_begin_154 : decode cX5_begin 154 = .ok (.iload 5, 2) := by decide +kernel
theorem dX5_begin_156 : decode cX5_begin 156 = .ok (.ifCond .lt 45, 3) := by decide +kernel
theorem dX5_begin_159 : decode cX5_begin 159 = .ok (.aload_n 0, 1) := by decide +kernel
theorem dX5_begin_160 : decode cX5_begin 160 = .ok (.getfield 28, 3) := by decide +kernel
theorem dX5_begin_163 : decode cX5_begin 163 = .ok (.aload_n 0, 1) := by decide +kernel
theorem dX5_begin_164 : decode cX5_begin 164 = .ok (.getfield 48, 3) := by decide +kernel
theorem dX5_begin_167 : decode cX5_begin 167 = .ok (.iload 4, 2) := by decide +kernel
theorem dX5_begin_169 : decode cX5_begin 169 = .ok (.iastore, 1) := by decide +kernel
theorem dX5_begin_170 : decode cX5_begin 170 = .ok (.aload_n 0, 1) := by decide +kernel
theorem dX5_begin_171 : decode cX5_begin 171 = .ok (.getfield 31, 3) := by decide +kernel
theorem dX5_begin_174 : decode cX5_begin 174 = .ok (.aload_n 0, 1) := by decide +kernel
theorem dX5_begin_175 : decode cX5_begin 175 = .ok (.getfield 48, 3) := by decide +kernel
theorem dX5_begin_178 : decode cX5_begin 178 = .ok (.iload 5, 2) := by decide +kernel
theorem dX5_begin_180 : decode cX5_begin 180 = .ok (.iastore, 1) := by decide +kernel
theorem dX5_begin_181 : decode cX5_begin 181 = .ok (.aload_n 0, 1) := by decide +kernel
theorem dX5_begin_182 : decode cX5_begin 182 = .ok (.getfield 34, 3) := by decide +kernel
theorem dX5_begin_185 : decode cX5_begin 185 = .ok (.aload_n 0, 1) := by decide +kernel
theorem dX5_begin_186 : decode cX5_begin 186 = .ok (.getfield 48, 3) := by decide +kernel
theorem dX5_begin_189 : decode cX5_begin 189 = .ok (.iconst 1, 1) := by decide +kernel
theorem dX5_begin_190 : decode cX5_begin 190 = .ok (.bastore, 1) := by decide +kernel
theorem dX5_begin_191 : decode cX5_begin 191 = .ok (.aload_n 0, 1) := by decide +kernel
theorem dX5_begin_192 : decode cX5_begin 192 = .ok (.dup, 1) := by decide +kernel
theorem dX5_begin_193 : decode cX5_begin 193 = .ok (.getfield 48, 3) := by decide +kernel
theorem dX5_begin_196 : decode cX5_begin 196 = .ok (.iconst 1, 1) := by decide +kernel
theorem dX5_begin_197 : decode cX5_begin 197 = .ok (.iadd, 1) := by decide +kernel
theorem dX5_begin_198 : decode cX5_begin 198 = .ok (.putfield 48, 3) := by decide +kernel
theorem dX5_begin_201 : decode cX5_begin 201 = .ok (.iinc 3 1, 3) := by decide +kernel
theorem dX5_begin_204 : decode cX5_begin 204 = .ok (.goto (-95), 3) := by decide +kernel
theorem dX5_begin_207 : decode cX5_begin 207 = .ok (.return_, 1) := by decide +kernel
theorem dX5_lookAround_0 : decode cX5_lookAround 0 = .ok (.aload_n 0, 1) := by decide +kernel
theorem dX5_lookAround_1 : decode cX5_lookAround 1 = .ok (.lconst 0, 1) := by decide +kernel
theorem dX5_lookAround_2 : decode cX5_lookAround 2 = .ok (.putfield 61, 3) := by decide +kernel
theorem dX5_lookAround_5 : decode cX5_lookAround 5 = .ok (.iconst 4, 1) := by decide +kernel
theorem dX5_lookAround_6 : decode cX5_lookAround 6 = .ok (.istore_n 1, 1) := by decide +kernel
theorem dX5_lookAround_7 : decode cX5_lookAround 7 = .ok (.iload_n 1, 1) := by decide +kernel
theorem dX5_lookAround_8 : decode cX5_lookAround 8 = .ok (.aload_n 0, 1) := by decide +kernel
theorem dX5_lookAround_9 : decode cX5_lookAround 9 = .ok (.getfield 44, 3) := by decide +kernel
theorem dX5_lookAround_12 : decode cX5_lookAround 12 = .ok (.if_icmp .ge 60, 3) := by decide +kernel
theorem dX5_lookAround_15 : decode cX5_lookAround 15 = .ok (.aload_n 0, 1) := by decide +kernel
theorem dX5_lookAround_16 : decode cX5_lookAround 16 = .ok (.getfield 15, 3) := by decide +kernel
theorem dX5_lookAround_19 : decode cX5_lookAround 19 = .ok (.iload_n 1, 1) := by decide +kernel
theorem dX5_lookAround_20 : decode cX5_lookAround 20 = .ok (.aload_n 0, 1) := by decide +kernel
theorem dX5_lookAround_21 : decode cX5_lookAround 21 = .ok (.getfield 9, 3) := by decide +kernel
theorem dX5_lookAround_24 : decode cX5_lookAround 24 = .ok (.iload_n 1, 1) := by decide +kernel
theorem dX5_lookAround_25 : decode cX5_lookAround 25 = .ok (.laload, 1) := by decide +kernel
theorem dX5_lookAround_26 : decode cX5_lookAround 26 = .ok (.invokestatic 126, 3) := by decide +kernel
theorem dX5_lookAround_29 : decode cX5_lookAround 29 = .ok (.iastore, 1) := by decide +kernel
theorem dX5_lookAround_30 : decode cX5_lookAround 30 = .ok (.aload_n 0, 1) := by decide +kernel
theorem dX5_lookAround_31 : decode cX5_lookAround 31 = .ok (.getfield 57, 3) := by decide +kernel
theorem dX5_lookAround_34 : decode cX5_lookAround 34 = .ok (.iload_n 1, 1) := by decide +kernel
theorem dX5_lookAround_35 : decode cX5_lookAround 35 = .ok (.invokestatic 132, 3) := by decide +kernel
theorem dX5_lookAround_38 : decode cX5_lookAround 38 = .ok (.ifCond .eq 28, 3) := by decide +kernel
theorem dX5_lookAround_41 : decode cX5_lookAround 41 = .ok (.aload_n 0, 1) := by decide +kernel
theorem dX5_lookAround_42 : decode cX5_lookAround 42 = .ok (.getfield 15, 3) := by decide +kernel
theorem dX5_lookAround_45 : decode cX5_lookAround 45 = .ok (.iload_n 1, 1) := by decide +kernel
theorem dX5_lookAround_46 : decode cX5_lookAround 46 = .ok (.iaload, 1) := by decide +kernel
theorem dX5_lookAround_47 : decode cX5_lookAround 47 = .ok (.aload_n 0, 1) := by decide +kernel
theorem dX5_lookAround_48 : decode cX5_lookAround 48 = .ok (.getfield 70, 3) := by decide +kernel
theorem dX5_lookAround_51 : decode cX5_lookAround 51 = .ok (.if_icmp .ge 15, 3) := by decide +kernel
theorem dX5_lookAround_54 : decode cX5_lookAround 54 = .ok (.aload_n 0, 1) := by decide +kernel
theorem dX5_lookAround_55 : decode cX5_lookAround 55 = .ok (.dup, 1) := by decide +kernel
theorem dX5_lookAround_56 : decode cX5_lookAround 56 = .ok (.getfield 61, 3) := by decide +kernel
theorem dX5_lookAround_59 : decode cX5_lookAround 59 = .ok (.lconst 1, 1) := by decide +kernel
theorem dX5_lookAround_60 : decode cX5_lookAround 60 = .ok (.iload_n 1, 1) := by decide +kernel
theorem dX5_lookAround_61 : decode cX5_lookAround 61 = .ok (.lshl, 1) := by decide +kernel
theorem dX5_lookAround_62 : decode cX5_lookAround 62 = .ok (.lor, 1) := by decide +kernel
theorem dX5_lookAround_63 : decode cX5_lookAround 63 = .ok (.putfield 61, 3) := by decide +kernel
theorem dX5_lookAround_66 : decode cX5_lookAround 66 = .ok (.iinc 1 1, 3) := by decide +kernel
theorem dX5_lookAround_69 : decode cX5_lookAround 69 = .ok (.goto (-62), 3) := by decide +kernel
theorem dX5_lookAround_72 : decode cX5_lookAround 72 = .ok (.aload_n 0, 1) := by decide +kernel
theorem dX5_lookAround_73 : decode cX5_lookAround 73 = .ok (.lconst 0, 1) := by decide +kernel
theorem dX5_lookAround_74 : decode cX5_lookAround 74 = .ok (.putfield 64, 3) := by decide +kernel
theorem dX5_lookAround_77 : decode cX5_lookAround 77 = .ok (.iconst 0, 1) := by decide +kernel
theorem dX5_lookAround_78 : decode cX5_lookAround 78 = .ok (.istore_n 1, 1) := by decide +kernel
theorem dX5_lookAround_79 : decode cX5_lookAround 79 = .ok (.iload_n 1, 1) := by decide +kernel
theorem dX5_lookAround_80 : decode cX5_lookAround 80 = .ok (.aload_n 0, 1) := by decide +kernel
theorem dX5_lookAround_81 : decode cX5_lookAround 81 = .ok (.getfield 48, 3) := by decide +kernel
theorem dX5_lookAround_84 : decode cX5_lookAround 84 = .ok (.if_icmp .ge 52, 3) := by decide +kernel
theorem dX5_lookAround_87 : decode cX5_lookAround 87 = .ok (.aload_n 0, 1) := by decide +kernel
theorem dX5_lookAround_88 : decode cX5_lookAround 88 = .ok (.getfield 34, 3) := by decide +kernel
theorem dX5_lookAround_91 : decode cX5_lookAround 91 = .ok (.iload_n 1, 1) := by decide +kernel
theorem dX5_lookAround_92 : decode cX5_lookAround 92 = .ok (.baload, 1) := by decide +kernel
theorem dX5_lookAround_93 : decode cX5_lookAround 93 = .ok (.ifCond .eq 37, 3) := by decide +kernel
theorem dX5_lookAround_96 : decode cX5_lookAround 96 = .ok (.aload_n 0, 1) := by decide +kernel
theorem dX5_lookAround_97 : decode cX5_lookAround 97 = .ok (.dup, 1) := by decide +kernel
theorem dX5_lookAround_98 : decode cX5_lookAround 98 = .ok (.getfield 64, 3) := by decide +kernel
theorem dX5_lookAround_101 : decode cX5_lookAround 101 = .ok (.lconst 1, 1) := by decide +kernel
theorem dX5_lookAround_102 : decode cX5_lookAround 102 = .ok (.aload_n 0, 1) := by decide +kernel
theorem dX5_lookAround_103 : decode cX5_lookAround 103 = .ok (.aload_n 0, 1) := by decide +kernel
theorem dX5_lookAround_104 : decode cX5_lookAround 104 = .ok (.getfield 28, 3) := by decide +kernel
theorem dX5_lookAround_107 : decode cX5_lookAround 107 = .ok (.iload_n 1, 1) := by decide +kernel
theorem dX5_lookAround_108 : decode cX5_lookAround 108 = .ok (.iaload, 1) := by decide +kernel
theorem dX5_lookAround_109 : decode cX5_lookAround 109 = .ok (.invokevirtual 136, 3) := by decide +kernel
theorem dX5_lookAround_112 : decode cX5_lookAround 112 = .ok (.lshl, 1) := by decide +kernel
theorem dX5_lookAround_113 : decode cX5_lookAround 113 = .ok (.lconst 1, 1) := by decide +kernel
theorem dX5_lookAround_114 : decode cX5_lookAround 114 = .ok (.aload_n 0, 1) := by decide +kernel
theorem dX5_lookAround_115 : decode cX5_lookAround 115 = .ok (.aload_n 0, 1) := by decide +kernel
theorem dX5_lookAround_116 : decode cX5_lookAround 116 = .ok (.getfield 31, 3) := by decide +kernel
theorem dX5_lookAround_119 : decode cX5_lookAround 119 = .ok (.iload_n 1, 1) := by decide +kernel
theorem dX5_lookAround_120 : decode cX5_lookAround 120 = .ok (.iaload, 1) := by decide +kernel
theorem dX5_lookAround_121 : decode cX5_lookAround 121 = .ok (.invokevirtual 136, 3) := by decide +kernel
theorem dX5_lookAround_124 : decode cX5_lookAround 124 = .ok (.lshl, 1) := by decide +kernel
theorem dX5_lookAround_125 : decode cX5_lookAround 125 = .ok (.lor, 1) := by decide +kernel
theorem dX5_lookAround_126 : decode cX5_lookAround 126 = .ok (.lor, 1) := by decide +kernel
theorem dX5_lookAround_127 : decode cX5_lookAround 127 = .ok (.putfield 64, 3) := by decide +kernel
theorem dX5_lookAround_130 : decode cX5_lookAround 130 = .ok (.iinc 1 1, 3) := by decide +kernel
theorem dX5_lookAround_133 : decode cX5_lookAround 133 = .ok (.goto (-54), 3) := by decide +kernel
theorem dX5_lookAround_136 : decode cX5_lookAround 136 = .ok (.aload_n 0, 1) := by decide +kernel
theorem dX5_lookAround_137 : decode cX5_lookAround 137 = .ok (.getfield 57, 3) := by decide +kernel
theorem dX5_lookAround_140 : decode cX5_lookAround 140 = .ok (.ldc2_w 140, 3) := by decide +kernel
theorem dX5_lookAround_143 : decode cX5_lookAround 143 = .ok (.land, 1) := by decide +kernel
theorem dX5_lookAround_144 : decode cX5_lookAround 144 = .ok (.lconst 0, 1) := by decide +kernel
theorem dX5_lookAround_145 : decode cX5_lookAround 145 = .ok (.lcmp, 1) := by decide +kernel
theorem dX5_lookAround_146 : decode cX5_lookAround 146 = .ok (.ifCond .eq 7, 3) := by decide +kernel
theorem dX5_lookAround_149 : decode cX5_lookAround 149 = .ok (.iconst 1, 1) := by decide +kernel
theorem dX5_lookAround_150 : decode cX5_lookAround 150 = .ok (.goto 4, 3) := by decide +kernel
theorem dX5_lookAround_153 : decode cX5_lookAround 153 = .ok (.iconst 0, 1) := by decide +kernel
theorem dX5_lookAround_154 : decode cX5_lookAround 154 = .ok (.ireturn, 1) := by decide +kernel
theorem dX5_takeLow_0 : decode cX5_takeLow 0 = .ok (.aload_n 0, 1) := by decide +kernel
theorem dX5_takeLow_1 : decode cX5_takeLow 1 = .ok (.aload_n 0, 1) := by decide +kernel
theorem dX5_takeLow_2 : decode cX5_takeLow 2 = .ok (.getfield 61, 3) := by decide +kernel
theorem dX5_takeLow_5 : decode cX5_takeLow 5 = .ok (.aload_n 0, 1) := by decide +kernel
theorem dX5_takeLow_6 : decode cX5_takeLow 6 = .ok (.getfield 64, 3) := by decide +kernel
theorem dX5_takeLow_9 : decode cX5_takeLow 9 = .ok (.ldc2_w 142, 3) := by decide +kernel
theorem dX5_takeLow_12 : decode cX5_takeLow 12 = .ok (.lxor, 1) := by decide +kernel
theorem dX5_takeLow_13 : decode cX5_takeLow 13 = .ok (.land, 1) := by decide +kernel
theorem dX5_takeLow_14 : decode cX5_takeLow 14 = .ok (.invokevirtual 144, 3) := by decide +kernel
theorem dX5_takeLow_17 : decode cX5_takeLow 17 = .ok (.istore_n 1, 1) := by decide +kernel
theorem dX5_takeLow_18 : decode cX5_takeLow 18 = .ok (.iload_n 1, 1) := by decide +kernel
theorem dX5_takeLow_19 : decode cX5_takeLow 19 = .ok (.ifCond .ge 5, 3) := by decide +kernel
theorem dX5_takeLow_22 : decode cX5_takeLow 22 = .ok (.iconst 0, 1) := by decide +kernel
theorem dX5_takeLow_23 : decode cX5_takeLow 23 = .ok (.ireturn, 1) := by decide +kernel
theorem dX5_takeLow_24 : decode cX5_takeLow 24 = .ok (.aload_n 0, 1) := by decide +kernel
theorem dX5_takeLow_25 : decode cX5_takeLow 25 = .ok (.iload_n 1, 1) := by decide +kernel
theorem dX5_takeLow_26 : decode cX5_takeLow 26 = .ok (.invokevirtual 147, 3) := by decide +kernel
theorem dX5_takeLow_29 : decode cX5_takeLow 29 = .ok (.aload_n 0, 1) := by decide +kernel
theorem dX5_takeLow_30 : decode cX5_takeLow 30 = .ok (.iconst 1, 1) := by decide +kernel
theorem dX5_takeLow_31 : decode cX5_takeLow 31 = .ok (.iload_n 1, 1) := by decide +kernel
theorem dX5_takeLow_32 : decode cX5_takeLow 32 = .ok (.invokevirtual 151, 3) := by decide +kernel
theorem dX5_takeLow_35 : decode cX5_takeLow 35 = .ok (.iconst 1, 1) := by decide +kernel
theorem dX5_takeLow_36 : decode cX5_takeLow 36 = .ok (.ireturn, 1) := by decide +kernel
theorem dX5_settleMove_0 : decode cX5_settleMove 0 = .ok (.iconst 0, 1) := by decide +kernel
theorem dX5_settleMove_1 : decode cX5_settleMove 1 = .ok (.istore_n 1, 1) := by decide +kernel
theorem dX5_settleMove_2 : decode cX5_settleMove 2 = .ok (.iload_n 1, 1) := by decide +kernel
theorem dX5_settleMove_3 : decode cX5_settleMove 3 = .ok (.aload_n 0, 1) := by decide +kernel
theorem dX5_settleMove_4 : decode cX5_settleMove 4 = .ok (.getfield 48, 3) := by decide +kernel
theorem dX5_settleMove_7 : decode cX5_settleMove 7 = .ok (.if_icmp .ge 121, 3) := by decide +kernel
theorem dX5_settleMove_10 : decode cX5_settleMove 10 = .ok (.aload_n 0, 1) := by decide +kernel
theorem dX5_settleMove_11 : decode cX5_settleMove 11 = .ok (.getfield 34, 3) := by decide +kernel
theorem dX5_settleMove_14 : decode cX5_settleMove 14 = .ok (.iload_n 1, 1) := by decide +kernel
theorem dX5_settleMove_15 : decode cX5_settleMove 15 = .ok (.baload, 1) := by decide +kernel
theorem dX5_settleMove_16 : decode cX5_settleMove 16 = .ok (.ifCond .eq 106, 3) := by decide +kernel
theorem dX5_settleMove_19 : decode cX5_settleMove 19 = .ok (.aload_n 0, 1) := by decide +kernel
theorem dX5_settleMove_20 : decode cX5_settleMove 20 = .ok (.aload_n 0, 1) := by decide +kernel
theorem dX5_settleMove_21 : decode cX5_settleMove 21 = .ok (.getfield 28, 3) := by decide +kernel
theorem dX5_settleMove_24 : decode cX5_settleMove 24 = .ok (.iload_n 1, 1) := by decide +kernel
theorem dX5_settleMove_25 : decode cX5_settleMove 25 = .ok (.iaload, 1) := by decide +kernel
theorem dX5_settleMove_26 : decode cX5_settleMove 26 = .ok (.invokevirtual 136, 3) := by decide +kernel
theorem dX5_settleMove_29 : decode cX5_settleMove 29 = .ok (.istore_n 2, 1) := by decide +kernel
theorem dX5_settleMove_30 : decode cX5_settleMove 30 = .ok (.aload_n 0, 1) := by decide +kernel
theorem dX5_settleMove_31 : decode cX5_settleMove 31 = .ok (.aload_n 0, 1) := by decide +kernel
theorem dX5_settleMove_32 : decode cX5_settleMove 32 = .ok (.getfield 31, 3) := by decide +kernel
theorem dX5_settleMove_35 : decode cX5_settleMove 35 = .ok (.iload_n 1, 1) := by decide +kernel
theorem dX5_settleMove_36 : decode cX5_settleMove 36 = .ok (.iaload, 1) := by decide +kernel
theorem dX5_settleMove_37 : decode cX5_settleMove 37 = .ok (.invokevirtual 136, 3) := by decide +kernel
theorem dX5_settleMove_40 : decode cX5_settleMove 40 = .ok (.istore_n 3, 1) := by decide +kernel
theorem dX5_settleMove_41 : decode cX5_settleMove 41 = .ok (.iload_n 2, 1) := by decide +kernel
theorem dX5_settleMove_42 : decode cX5_settleMove 42 = .ok (.iload_n 3, 1) := by decide +kernel
theorem dX5_settleMove_43 : decode cX5_settleMove 43 = .ok (.if_icmp .eq 16, 3) := by decide +kernel
theorem dX5_settleMove_46 : decode cX5_settleMove 46 = .ok (.aload_n 0, 1) := by decide +kernel
theorem dX5_settleMove_47 : decode cX5_settleMove 47 = .ok (.getfield 9, 3) := by decide +kernel
theorem dX5_settleMove_50 : decode cX5_settleMove 50 = .ok (.iload_n 2, 1) := by decide +kernel
theorem dX5_settleMove_51 : decode cX5_settleMove 51 = .ok (.laload, 1) := by decide +kernel
theorem dX5_settleMove_52 : decode cX5_settleMove 52 = .ok (.iload_n 3, 1) := by decide +kernel
theorem dX5_settleMove_53 : decode cX5_settleMove 53 = .ok (.invokestatic 132, 3) := by decide +kernel
theorem dX5_settleMove_56 : decode cX5_settleMove 56 = .ok (.ifCond .eq 18, 3) := by decide +kernel
theorem dX5_settleMove_59 : decode cX5_settleMove 59 = .ok (.aload_n 0, 1) := by decide +kernel
theorem dX5_settleMove_60 : decode cX5_settleMove 60 = .ok (.getfield 34, 3) := by decide +kernel
theorem dX5_settleMove_63 : decode cX5_settleMove 63 = .ok (.iload_n 1, 1) := by decide +kernel
theorem dX5_settleMove_64 : decode cX5_settleMove 64 = .ok (.iconst 0, 1) := by decide +kernel
theorem dX5_settleMove_65 : decode cX5_settleMove 65 = .ok (.bastore, 1) := by decide +kernel
theorem dX5_settleMove_66 : decode cX5_settleMove 66 = .ok (.aload_n 0, 1) := by decide +kernel
theorem dX5_settleMove_67 : decode cX5_settleMove 67 = .ok (.iconst 2, 1) := by decide +kernel
theorem dX5_settleMove_68 : decode cX5_settleMove 68 = .ok (.iload_n 1, 1) := by decide +kernel
theorem dX5_settleMove_69 : decode cX5_settleMove 69 = .ok (.invokevirtual 151, 3) := by decide +kernel
theorem dX5_settleMove_72 : decode cX5_settleMove 72 = .ok (.iconst 1, 1) := by decide +kernel
theorem dX5_settleMove_73 : decode cX5_settleMove 73 = .ok (.ireturn, 1) := by decide +kernel
theorem dX5_settleMove_74 : decode cX5_settleMove 74 = .ok (.iload_n 2, 1) := by decide +kernel
theorem dX5_settleMove_75 : decode cX5_settleMove 75 = .ok (.iload_n 3, 1) := by decide +kernel
theorem dX5_settleMove_76 : decode cX5_settleMove 76 = .ok (.invokestatic 107, 3) := by decide +kernel
theorem dX5_settleMove_79 : decode cX5_settleMove 79 = .ok (.istore 4, 2) := by decide +kernel
theorem dX5_settleMove_81 : decode cX5_settleMove 81 = .ok (.iload_n 2, 1) := by decide +kernel
theorem dX5_settleMove_82 : decode cX5_settleMove 82 = .ok (.iload_n 3, 1) := by decide +kernel
theorem dX5_settleMove_83 : decode cX5_settleMove 83 = .ok (.invokestatic 155, 3) := by decide +kernel
theorem dX5_settleMove_86 : decode cX5_settleMove 86 = .ok (.istore 5, 2) := by decide +kernel
theorem dX5_settleMove_88 : decode cX5_settleMove 88 = .ok (.aload_n 0, 1) := by decide +kernel
theorem dX5_settleMove_89 : decode cX5_settleMove 89 = .ok (.iload 4, 2) := by decide +kernel
theorem dX5_settleMove_91 : decode cX5_settleMove 91 = .ok (.iload 5, 2) := by decide +kernel
theorem dX5_settleMove_93 : decode cX5_settleMove 93 = .ok (.invokevirtual 158, 3) := by decide +kernel
theorem dX5_settleMove_96 : decode cX5_settleMove 96 = .ok (.ifCond .eq 26, 3) := by decide +kernel
theorem dX5_settleMove_99 : decode cX5_settleMove 99 = .ok (.aload_n 0, 1) := by decide +kernel
theorem dX5_settleMove_100 : decode cX5_settleMove 100 = .ok (.getfield 34, 3) := by decide +kernel
theorem dX5_settleMove_103 : decode cX5_settleMove 103 = .ok (.iload_n 1, 1) := by decide +kernel
theorem dX5_settleMove_104 : decode cX5_settleMove 104 = .ok (.iconst 0, 1) := by decide +kernel
theorem dX5_settleMove_105 : decode cX5_settleMove 105 = .ok (.bastore, 1) := by decide +kernel
theorem dX5_settleMove_106 : decode cX5_settleMove 106 = .ok (.aload_n 0, 1) := by decide +kernel
theorem dX5_settleMove_107 : decode cX5_settleMove 107 = .ok (.iload 4, 2) := by decide +kernel
theorem dX5_settleMove_109 : decode cX5_settleMove 109 = .ok (.iload 5, 2) := by decide +kernel
theorem dX5_settleMove_111 : decode cX5_settleMove 111 = .ok (.invokevirtual 162, 3) := by decide +kernel
theorem dX5_settleMove_114 : decode cX5_settleMove 114 = .ok (.aload_n 0, 1) := by decide +kernel
theorem dX5_settleMove_115 : decode cX5_settleMove 115 = .ok (.iconst 3, 1) := by decide +kernel
theorem dX5_settleMove_116 : decode cX5_settleMove 116 = .ok (.iload_n 1, 1) := by decide +kernel
theorem dX5_settleMove_117 : decode cX5_settleMove 117 = .ok (.invokevirtual 151, 3) := by decide +kernel
theorem dX5_settleMove_120 : decode cX5_settleMove 120 = .ok (.iconst 1, 1) := by decide +kernel
theorem dX5_settleMove_121 : decode cX5_settleMove 121 = .ok (.ireturn, 1) := by decide +kernel
theorem dX5_settleMove_122 : decode cX5_settleMove 122 = .ok (.iinc 1 1, 3) := by decide +kernel
theorem dX5_settleMove_125 : decode cX5_settleMove 125 = .ok (.goto (-123), 3) := by decide +kernel
theorem dX5_settleMove_128 : decode cX5_settleMove 128 = .ok (.iconst 0, 1) := by decide +kernel
theorem dX5_settleMove_129 : decode cX5_settleMove 129 = .ok (.ireturn, 1) := by decide +kernel
theorem dX5_giveUpMoves_0 : decode cX5_giveUpMoves 0 = .ok (.aload_n 0, 1) := by decide +kernel
theorem dX5_giveUpMoves_1 : decode cX5_giveUpMoves 1 = .ok (.aload_n 0, 1) := by decide +kernel
theorem dX5_giveUpMoves_2 : decode cX5_giveUpMoves 2 = .ok (.getfield 61, 3) := by decide +kernel
theorem dX5_giveUpMoves_5 : decode cX5_giveUpMoves 5 = .ok (.invokevirtual 144, 3) := by decide +kernel
theorem dX5_giveUpMoves_8 : decode cX5_giveUpMoves 8 = .ok (.istore_n 1, 1) := by decide +kernel
theorem dX5_giveUpMoves_9 : decode cX5_giveUpMoves 9 = .ok (.iload_n 1, 1) := by decide +kernel
theorem dX5_giveUpMoves_10 : decode cX5_giveUpMoves 10 = .ok (.ifCond .ge 5, 3) := by decide +kernel
theorem dX5_giveUpMoves_13 : decode cX5_giveUpMoves 13 = .ok (.iconst 0, 1) := by decide +kernel
theorem dX5_giveUpMoves_14 : decode cX5_giveUpMoves 14 = .ok (.ireturn, 1) := by decide +kernel
theorem dX5_giveUpMoves_15 : decode cX5_giveUpMoves 15 = .ok (.aload_n 0, 1) := by decide +kernel
theorem dX5_giveUpMoves_16 : decode cX5_giveUpMoves 16 = .ok (.iload_n 1, 1) := by decide +kernel
theorem dX5_giveUpMoves_17 : decode cX5_giveUpMoves 17 = .ok (.invokevirtual 165, 3) := by decide +kernel
theorem dX5_giveUpMoves_20 : decode cX5_giveUpMoves 20 = .ok (.aload_n 0, 1) := by decide +kernel
theorem dX5_giveUpMoves_21 : decode cX5_giveUpMoves 21 = .ok (.iconst 4, 1) := by decide +kernel
theorem dX5_giveUpMoves_22 : decode cX5_giveUpMoves 22 = .ok (.iload_n 1, 1) := by decide +kernel
theorem dX5_giveUpMoves_23 : decode cX5_giveUpMoves 23 = .ok (.invokevirtual 151, 3) := by decide +kernel
theorem dX5_giveUpMoves_26 : decode cX5_giveUpMoves 26 = .ok (.iconst 1, 1) := by decide +kernel
theorem dX5_giveUpMoves_27 : decode cX5_giveUpMoves 27 = .ok (.ireturn, 1) := by decide +kernel
theorem dX5_takeInHope_0 : decode cX5_takeInHope 0 = .ok (.bipush (-6), 2) := by decide +kernel
theorem dX5_takeInHope_2 : decode cX5_takeInHope 2 = .ok (.istore_n 1, 1) := by decide +kernel
theorem dX5_takeInHope_3 : decode cX5_takeInHope 3 = .ok (.iconst 0, 1) := by decide +kernel
theorem dX5_takeInHope_4 : decode cX5_takeInHope 4 = .ok (.istore_n 2, 1) := by decide +kernel
theorem dX5_takeInHope_5 : decode cX5_takeInHope 5 = .ok (.iconst 4, 1) := by decide +kernel
theorem dX5_takeInHope_6 : decode cX5_takeInHope 6 = .ok (.istore_n 3, 1) := by decide +kernel
theorem dX5_takeInHope_7 : decode cX5_takeInHope 7 = .ok (.iload_n 3, 1) := by decide +kernel
theorem dX5_takeInHope_8 : decode cX5_takeInHope 8 = .ok (.aload_n 0, 1) := by decide +kernel
theorem dX5_takeInHope_9 : decode cX5_takeInHope 9 = .ok (.getfield 44, 3) := by decide +kernel
theorem dX5_takeInHope_12 : decode cX5_takeInHope 12 = .ok (.if_icmp .ge 56, 3) := by decide +kernel
theorem dX5_takeInHope_15 : decode cX5_takeInHope 15 = .ok (.aload_n 0, 1) := by decide +kernel
theorem dX5_takeInHope_16 : decode cX5_takeInHope 16 = .ok (.getfield 57, 3) := by decide +kernel
theorem dX5_takeInHope_19 : decode cX5_takeInHope 19 = .ok (.iload_n 3, 1) := by decide +kernel
theorem dX5_takeInHope_20 : decode cX5_takeInHope 20 = .ok (.invokestatic 132, 3) := by decide +kernel
theorem dX5_takeInHope_23 : decode cX5_takeInHope 23 = .ok (.ifCond .eq 39, 3) := by decide +kernel
theorem dX5_takeInHope_26 : decode cX5_takeInHope 26 = .ok (.aload_n 0, 1) := by decide +kernel
theorem dX5_takeInHope_27 : decode cX5_takeInHope 27 = .ok (.getfield 73, 3) := by decide +kernel
theorem dX5_takeInHope_30 : decode cX5_takeInHope 30 = .ok (.aload_n 0, 1) := by decide +kernel
theorem dX5_takeInHope_31 : decode cX5_takeInHope 31 = .ok (.getfield 19, 3) := by decide +kernel
theorem dX5_takeInHope_34 : decode cX5_takeInHope 34 = .ok (.iload_n 3, 1) := by decide +kernel
theorem dX5_takeInHope_35 : decode cX5_takeInHope 35 = .ok (.iaload, 1) := by decide +kernel
theorem dX5_takeInHope_36 : decode cX5_takeInHope 36 = .ok (.aload_n 0, 1) := by decide +kernel
theorem dX5_takeInHope_37 : decode cX5_takeInHope 37 = .ok (.getfield 15, 3) := by decide +kernel
theorem dX5_takeInHope_40 : decode cX5_takeInHope 40 = .ok (.iload_n 3, 1) := by decide +kernel
theorem dX5_takeInHope_41 : decode cX5_takeInHope 41 = .ok (.iaload, 1) := by decide +kernel
theorem dX5_takeInHope_42 : decode cX5_takeInHope 42 = .ok (.invokestatic 168, 3) := by decide +kernel
theorem dX5_takeInHope_45 : decode cX5_takeInHope 45 = .ok (.istore 4, 2) := by decide +kernel
theorem dX5_takeInHope_47 : decode cX5_takeInHope 47 = .ok (.iload_n 1, 1) := by decide +kernel
theorem dX5_takeInHope_48 : decode cX5_takeInHope 48 = .ok (.ifCond .lt 9, 3) := by decide +kernel
theorem dX5_takeInHope_51 : decode cX5_takeInHope 51 = .ok (.iload 4, 2) := by decide +kernel
theorem dX5_takeInHope_53 : decode cX5_takeInHope 53 = .ok (.iload_n 2, 1) := by decide +kernel
theorem dX5_takeInHope_54 : decode cX5_takeInHope 54 = .ok (.if_icmp .ge 8, 3) := by decide +kernel
theorem dX5_takeInHope_57 : decode cX5_takeInHope 57 = .ok (.iload_n 3, 1) := by decide +kernel
theorem dX5_takeInHope_58 : decode cX5_takeInHope 58 = .ok (.istore_n 1, 1) := by decide +kernel
theorem dX5_takeInHope_59 : decode cX5_takeInHope 59 = .ok (.iload 4, 2) := by decide +kernel
theorem dX5_takeInHope_61 : decode cX5_takeInHope 61 = .ok (.istore_n 2, 1) := by decide +kernel
theorem dX5_takeInHope_62 : decode cX5_takeInHope 62 = .ok (.iinc 3 1, 3) := by decide +kernel
theorem dX5_takeInHope_65 : decode cX5_takeInHope 65 = .ok (.goto (-58), 3) := by decide +kernel
theorem dX5_takeInHope_68 : decode cX5_takeInHope 68 = .ok (.iload_n 1, 1) := by decide +kernel
theorem dX5_takeInHope_69 : decode cX5_takeInHope 69 = .ok (.ifCond .lt 19, 3) := by decide +kernel
theorem dX5_takeInHope_72 : decode cX5_takeInHope 72 = .ok (.aload_n 0, 1) := by decide +kernel
theorem dX5_takeInHope_73 : decode cX5_takeInHope 73 = .ok (.iload_n 1, 1) := by decide +kernel
theorem dX5_takeInHope_74 : decode cX5_takeInHope 74 = .ok (.invokevirtual 165, 3) := by decide +kernel
theorem dX5_takeInHope_77 : decode cX5_takeInHope 77 = .ok (.aload_n 0, 1) := by decide +kernel
theorem dX5_takeInHope_78 : decode cX5_takeInHope 78 = .ok (.iload_n 1, 1) := by decide +kernel
theorem dX5_takeInHope_79 : decode cX5_takeInHope 79 = .ok (.invokevirtual 147, 3) := by decide +kernel
theorem dX5_takeInHope_82 : decode cX5_takeInHope 82 = .ok (.aload_n 0, 1) := by decide +kernel
theorem dX5_takeInHope_83 : decode cX5_takeInHope 83 = .ok (.iconst 5, 1) := by decide +kernel
theorem dX5_takeInHope_84 : decode cX5_takeInHope 84 = .ok (.iload_n 1, 1) := by decide +kernel
theorem dX5_takeInHope_85 : decode cX5_takeInHope 85 = .ok (.invokevirtual 151, 3) := by decide +kernel
theorem dX5_takeInHope_88 : decode cX5_takeInHope 88 = .ok (.return_, 1) := by decide +kernel
theorem dX5_isSafe_0 : decode cX5_isSafe 0 = .ok (.iload_n 1, 1) := by decide +kernel
theorem dX5_isSafe_1 : decode cX5_isSafe 1 = .ok (.ifCond .lt 19, 3) := by decide +kernel
theorem dX5_isSafe_4 : decode cX5_isSafe 4 = .ok (.iload_n 2, 1) := by decide +kernel
theorem dX5_isSafe_5 : decode cX5_isSafe 5 = .ok (.ifCond .lt 15, 3) := by decide +kernel
theorem dX5_isSafe_8 : decode cX5_isSafe 8 = .ok (.iload_n 1, 1) := by decide +kernel
theorem dX5_isSafe_9 : decode cX5_isSafe 9 = .ok (.bipush 64, 2) := by decide +kernel
theorem dX5_isSafe_11 : decode cX5_isSafe 11 = .ok (.if_icmp .ge 9, 3) := by decide +kernel
theorem dX5_isSafe_14 : decode cX5_isSafe 14 = .ok (.iload_n 2, 1) := by decide +kernel
theorem dX5_isSafe_15 : decode cX5_isSafe 15 = .ok (.bipush 64, 2) := by decide +kernel
theorem dX5_isSafe_17 : decode cX5_isSafe 17 = .ok (.if_icmp .lt 5, 3) := by decide +kernel
theorem dX5_isSafe_20 : decode cX5_isSafe 20 = .ok (.iconst 0, 1) := by decide +kernel
theorem dX5_isSafe_21 : decode cX5_isSafe 21 = .ok (.ireturn, 1) := by decide +kernel
theorem dX5_isSafe_22 : decode cX5_isSafe 22 = .ok (.iload_n 1, 1) := by decide +kernel
theorem dX5_isSafe_23 : decode cX5_isSafe 23 = .ok (.iconst 4, 1) := by decide +kernel
theorem dX5_isSafe_24 : decode cX5_isSafe 24 = .ok (.if_icmp .ge 44, 3) := by decide +kernel
theorem dX5_isSafe_27 : decode cX5_isSafe 27 = .ok (.aload_n 0, 1) := by decide +kernel
theorem dX5_isSafe_28 : decode cX5_isSafe 28 = .ok (.getfield 9, 3) := by decide +kernel
theorem dX5_isSafe_31 : decode cX5_isSafe 31 = .ok (.iload_n 2, 1) := by decide +kernel
theorem dX5_isSafe_32 : decode cX5_isSafe 32 = .ok (.laload, 1) := by decide +kernel
theorem dX5_isSafe_33 : decode cX5_isSafe 33 = .ok (.aload_n 0, 1) := by decide +kernel
theorem dX5_isSafe_34 : decode cX5_isSafe 34 = .ok (.getfield 61, 3) := by decide +kernel
theorem dX5_isSafe_37 : decode cX5_isSafe 37 = .ok (.ldc2_w 142, 3) := by decide +kernel
theorem dX5_isSafe_40 : decode cX5_isSafe 40 = .ok (.lxor, 1) := by decide +kernel
theorem dX5_isSafe_41 : decode cX5_isSafe 41 = .ok (.land, 1) := by decide +kernel
theorem dX5_isSafe_42 : decode cX5_isSafe 42 = .ok (.ldc2_w 140, 3) := by decide +kernel
theorem dX5_isSafe_45 : decode cX5_isSafe 45 = .ok (.land, 1) := by decide +kernel
theorem dX5_isSafe_46 : decode cX5_isSafe 46 = .ok (.aload_n 0, 1) := by decide +kernel
theorem dX5_isSafe_47 : decode cX5_isSafe 47 = .ok (.getfield 9, 3) := by decide +kernel
theorem dX5_isSafe_50 : decode cX5_isSafe 50 = .ok (.iload_n 1, 1) := by decide +kernel
theorem dX5_isSafe_51 : decode cX5_isSafe 51 = .ok (.laload, 1) := by decide +kernel
theorem dX5_isSafe_52 : decode cX5_isSafe 52 = .ok (.ldc2_w 142, 3) := by decide +kernel
theorem dX5_isSafe_55 : decode cX5_isSafe 55 = .ok (.lxor, 1) := by decide +kernel
theorem dX5_isSafe_56 : decode cX5_isSafe 56 = .ok (.land, 1) := by decide +kernel
theorem dX5_isSafe_57 : decode cX5_isSafe 57 = .ok (.lconst 0, 1) := by decide +kernel
theorem dX5_isSafe_58 : decode cX5_isSafe 58 = .ok (.lcmp, 1) := by decide +kernel
theorem dX5_isSafe_59 : decode cX5_isSafe 59 = .ok (.ifCond .ne 7, 3) := by decide +kernel
theorem dX5_isSafe_62 : decode cX5_isSafe 62 = .ok (.iconst 1, 1) := by decide +kernel
theorem dX5_isSafe_63 : decode cX5_isSafe 63 = .ok (.goto 4, 3) := by decide +kernel
theorem dX5_isSafe_66 : decode cX5_isSafe 66 = .ok (.iconst 0, 1) := by decide +kernel
theorem dX5_isSafe_67 : decode cX5_isSafe 67 = .ok (.ireturn, 1) := by decide +kernel
theorem dX5_isSafe_68 : decode cX5_isSafe 68 = .ok (.aload_n 0, 1) := by decide +kernel
theorem dX5_isSafe_69 : decode cX5_isSafe 69 = .ok (.getfield 9, 3) := by decide +kernel
theorem dX5_isSafe_72 : decode cX5_isSafe 72 = .ok (.iload_n 1, 1) := by decide +kernel
theorem dX5_isSafe_73 : decode cX5_isSafe 73 = .ok (.laload, 1) := by decide +kernel
theorem dX5_isSafe_74 : decode cX5_isSafe 74 = .ok (.aload_n 0, 1) := by decide +kernel
theorem dX5_isSafe_75 : decode cX5_isSafe 75 = .ok (.getfield 9, 3) := by decide +kernel
theorem dX5_isSafe_78 : decode cX5_isSafe 78 = .ok (.iload_n 2, 1) := by decide +kernel
theorem dX5_isSafe_79 : decode cX5_isSafe 79 = .ok (.laload, 1) := by decide +kernel
theorem dX5_isSafe_80 : decode cX5_isSafe 80 = .ok (.lor, 1) := by decide +kernel
theorem dX5_isSafe_81 : decode cX5_isSafe 81 = .ok (.lstore_n 3, 1) := by decide +kernel
theorem dX5_isSafe_82 : decode cX5_isSafe 82 = .ok (.aload_n 0, 1) := by decide +kernel
theorem dX5_isSafe_83 : decode cX5_isSafe 83 = .ok (.getfield 9, 3) := by decide +kernel
theorem dX5_isSafe_86 : decode cX5_isSafe 86 = .ok (.iload_n 1, 1) := by decide +kernel
theorem dX5_isSafe_87 : decode cX5_isSafe 87 = .ok (.laload, 1) := by decide +kernel
theorem dX5_isSafe_88 : decode cX5_isSafe 88 = .ok (.aload_n 0, 1) := by decide +kernel
theorem dX5_isSafe_89 : decode cX5_isSafe 89 = .ok (.getfield 9, 3) := by decide +kernel
theorem dX5_isSafe_92 : decode cX5_isSafe 92 = .ok (.iload_n 2, 1) := by decide +kernel
theorem dX5_isSafe_93 : decode cX5_isSafe 93 = .ok (.laload, 1) := by decide +kernel
theorem dX5_isSafe_94 : decode cX5_isSafe 94 = .ok (.land, 1) := by decide +kernel
theorem dX5_isSafe_95 : decode cX5_isSafe 95 = .ok (.lstore 5, 2) := by decide +kernel
theorem dX5_isSafe_97 : decode cX5_isSafe 97 = .ok (.iconst 0, 1) := by decide +kernel
theorem dX5_isSafe_98 : decode cX5_isSafe 98 = .ok (.istore 7, 2) := by decide +kernel
theorem dX5_isSafe_100 : decode cX5_isSafe 100 = .ok (.iconst 0, 1) := by decide +kernel
theorem dX5_isSafe_101 : decode cX5_isSafe 101 = .ok (.istore 8, 2) := by decide +kernel
theorem dX5_isSafe_103 : decode cX5_isSafe 103 = .ok (.iload 8, 2) := by decide +kernel
theorem dX5_isSafe_105 : decode cX5_isSafe 105 = .ok (.aload_n 0, 1) := by decide +kernel
theorem dX5_isSafe_106 : decode cX5_isSafe 106 = .ok (.getfield 44, 3) := by decide +kernel
theorem dX5_isSafe_109 : decode cX5_isSafe 109 = .ok (.if_icmp .ge 61, 3) := by decide +kernel
theorem dX5_isSafe_112 : decode cX5_isSafe 112 = .ok (.lload_n 3, 1) := by decide +kernel
theorem dX5_isSafe_113 : decode cX5_isSafe 113 = .ok (.iload 8, 2) := by decide +kernel
theorem dX5_isSafe_115 : decode cX5_isSafe 115 = .ok (.invokestatic 132, 3) := by decide +kernel
theorem dX5_isSafe_118 : decode cX5_isSafe 118 = .ok (.ifCond .eq 46, 3) := by decide +kernel
theorem dX5_isSafe_121 : decode cX5_isSafe 121 = .ok (.lload 5, 2) := by decide +kernel
theorem dX5_isSafe_123 : decode cX5_isSafe 123 = .ok (.iload 8, 2) := by decide +kernel
theorem dX5_isSafe_125 : decode cX5_isSafe 125 = .ok (.invokestatic 132, 3) := by decide +kernel
theorem dX5_isSafe_128 : decode cX5_isSafe 128 = .ok (.ifCond .eq 7, 3) := by decide +kernel
theorem dX5_isSafe_131 : decode cX5_isSafe 131 = .ok (.iconst 1, 1) := by decide +kernel
theorem dX5_isSafe_132 : decode cX5_isSafe 132 = .ok (.goto 4, 3) := by decide +kernel
theorem dX5_isSafe_135 : decode cX5_isSafe 135 = .ok (.iconst 0, 1) := by decide +kernel
theorem dX5_isSafe_136 : decode cX5_isSafe 136 = .ok (.istore 9, 2) := by decide +kernel
theorem dX5_isSafe_138 : decode cX5_isSafe 138 = .ok (.iload 8, 2) := by decide +kernel
theorem dX5_isSafe_140 : decode cX5_isSafe 140 = .ok (.iconst 4, 1) := by decide +kernel
theorem dX5_isSafe_141 : decode cX5_isSafe 141 = .ok (.if_icmp .lt 20, 3) := by decide +kernel
theorem dX5_isSafe_144 : decode cX5_isSafe 144 = .ok (.aload_n 0, 1) := by decide +kernel
theorem dX5_isSafe_145 : decode cX5_isSafe 145 = .ok (.getfield 15, 3) := by decide +kernel
theorem dX5_isSafe_148 : decode cX5_isSafe 148 = .ok (.iload 8, 2) := by decide +kernel
theorem dX5_isSafe_150 : decode cX5_isSafe 150 = .ok (.iaload, 1) := by decide +kernel
theorem dX5_isSafe_151 : decode cX5_isSafe 151 = .ok (.iload 9, 2) := by decide +kernel
theorem dX5_isSafe_153 : decode cX5_isSafe 153 = .ok (.isub, 1) := by decide +kernel
theorem dX5_isSafe_154 : decode cX5_isSafe 154 = .ok (.aload_n 0, 1) := by decide +kernel
theorem dX5_isSafe_155 : decode cX5_isSafe 155 = .ok (.getfield 70, 3) := by decide +kernel
theorem dX5_isSafe_158 : decode cX5_isSafe 158 = .ok (.if_icmp .lt 6, 3) := by decide +kernel
theorem dX5_isSafe_161 : decode cX5_isSafe 161 = .ok (.iinc 7 1, 3) := by decide +kernel
theorem dX5_isSafe_164 : decode cX5_isSafe 164 = .ok (.iinc 8 1, 3) := by decide +kernel
theorem dX5_isSafe_167 : decode cX5_isSafe 167 = .ok (.goto (-64), 3) := by decide +kernel
theorem dX5_isSafe_170 : decode cX5_isSafe 170 = .ok (.iload 7, 2) := by decide +kernel
theorem dX5_isSafe_172 : decode cX5_isSafe 172 = .ok (.aload_n 0, 1) := by decide +kernel
theorem dX5_isSafe_173 : decode cX5_isSafe 173 = .ok (.getfield 70, 3) := by decide +kernel
theorem dX5_isSafe_176 : decode cX5_isSafe 176 = .ok (.if_icmp .ge 7, 3) := by decide +kernel
theorem dX5_isSafe_179 : decode cX5_isSafe 179 = .ok (.iconst 1, 1) := by decide +kernel
theorem dX5_isSafe_180 : decode cX5_isSafe 180 = .ok (.goto 4, 3) := by decide +kernel
theorem dX5_isSafe_183 : decode cX5_isSafe 183 = .ok (.iconst 0, 1) := by decide +kernel
theorem dX5_isSafe_184 : decode cX5_isSafe 184 = .ok (.ireturn, 1) := by decide +kernel
theorem dX5_makeOne_0 : decode cX5_makeOne 0 = .ok (.iload_n 1, 1) := by decide +kernel
theorem dX5_makeOne_1 : decode cX5_makeOne 1 = .ok (.ifCond .lt 19, 3) := by decide +kernel
theorem dX5_makeOne_4 : decode cX5_makeOne 4 = .ok (.iload_n 2, 1) := by decide +kernel
theorem dX5_makeOne_5 : decode cX5_makeOne 5 = .ok (.ifCond .lt 15, 3) := by decide +kernel
theorem dX5_makeOne_8 : decode cX5_makeOne 8 = .ok (.iload_n 1, 1) := by decide +kernel
theorem dX5_makeOne_9 : decode cX5_makeOne 9 = .ok (.bipush 64, 2) := by decide +kernel
theorem dX5_makeOne_11 : decode cX5_makeOne 11 = .ok (.if_icmp .ge 9, 3) := by decide +kernel
theorem dX5_makeOne_14 : decode cX5_makeOne 14 = .ok (.iload_n 2, 1) := by decide +kernel
theorem dX5_makeOne_15 : decode cX5_makeOne 15 = .ok (.bipush 64, 2) := by decide +kernel
theorem dX5_makeOne_17 : decode cX5_makeOne 17 = .ok (.if_icmp .lt 4, 3) := by decide +kernel
theorem dX5_makeOne_20 : decode cX5_makeOne 20 = .ok (.return_, 1) := by decide +kernel
theorem dX5_makeOne_21 : decode cX5_makeOne 21 = .ok (.iconst 0, 1) := by decide +kernel
theorem dX5_makeOne_22 : decode cX5_makeOne 22 = .ok (.istore_n 3, 1) := by decide +kernel
theorem dX5_makeOne_23 : decode cX5_makeOne 23 = .ok (.iload_n 3, 1) := by decide +kernel
theorem dX5_makeOne_24 : decode cX5_makeOne 24 = .ok (.aload_n 0, 1) := by decide +kernel
theorem dX5_makeOne_25 : decode cX5_makeOne 25 = .ok (.getfield 44, 3) := by decide +kernel
theorem dX5_makeOne_28 : decode cX5_makeOne 28 = .ok (.if_icmp .ge 46, 3) := by decide +kernel
theorem dX5_makeOne_31 : decode cX5_makeOne 31 = .ok (.aload_n 0, 1) := by decide +kernel
theorem dX5_makeOne_32 : decode cX5_makeOne 32 = .ok (.getfield 9, 3) := by decide +kernel
theorem dX5_makeOne_35 : decode cX5_makeOne 35 = .ok (.iload_n 2, 1) := by decide +kernel
theorem dX5_makeOne_36 : decode cX5_makeOne 36 = .ok (.laload, 1) := by decide +kernel
theorem dX5_makeOne_37 : decode cX5_makeOne 37 = .ok (.iload_n 3, 1) := by decide +kernel
theorem dX5_makeOne_38 : decode cX5_makeOne 38 = .ok (.invokestatic 132, 3) := by decide +kernel
theorem dX5_makeOne_41 : decode cX5_makeOne 41 = .ok (.ifCond .eq 27, 3) := by decide +kernel
theorem dX5_makeOne_44 : decode cX5_makeOne 44 = .ok (.aload_n 0, 1) := by decide +kernel
theorem dX5_makeOne_45 : decode cX5_makeOne 45 = .ok (.getfield 9, 3) := by decide +kernel
theorem dX5_makeOne_48 : decode cX5_makeOne 48 = .ok (.iload_n 3, 1) := by decide +kernel
theorem dX5_makeOne_49 : decode cX5_makeOne 49 = .ok (.aload_n 0, 1) := by decide +kernel
theorem dX5_makeOne_50 : decode cX5_makeOne 50 = .ok (.getfield 9, 3) := by decide +kernel
theorem dX5_makeOne_53 : decode cX5_makeOne 53 = .ok (.iload_n 3, 1) := by decide +kernel
theorem dX5_makeOne_54 : decode cX5_makeOne 54 = .ok (.laload, 1) := by decide +kernel
theorem dX5_makeOne_55 : decode cX5_makeOne 55 = .ok (.lconst 1, 1) := by decide +kernel
theorem dX5_makeOne_56 : decode cX5_makeOne 56 = .ok (.iload_n 2, 1) := by decide +kernel
theorem dX5_makeOne_57 : decode cX5_makeOne 57 = .ok (.lshl, 1) := by decide +kernel
theorem dX5_makeOne_58 : decode cX5_makeOne 58 = .ok (.ldc2_w 142, 3) := by decide +kernel
theorem dX5_makeOne_61 : decode cX5_makeOne 61 = .ok (.lxor, 1) := by decide +kernel
theorem dX5_makeOne_62 : decode cX5_makeOne 62 = .ok (.land, 1) := by decide +kernel
theorem dX5_makeOne_63 : decode cX5_makeOne 63 = .ok (.lconst 1, 1) := by decide +kernel
theorem dX5_makeOne_64 : decode cX5_makeOne 64 = .ok (.iload_n 1, 1) := by decide +kernel
theorem dX5_makeOne_65 : decode cX5_makeOne 65 = .ok (.lshl, 1) := by decide +kernel
theorem dX5_makeOne_66 : decode cX5_makeOne 66 = .ok (.lor, 1) := by decide +kernel
theorem dX5_makeOne_67 : decode cX5_makeOne 67 = .ok (.lastore, 1) := by decide +kernel
theorem dX5_makeOne_68 : decode cX5_makeOne 68 = .ok (.iinc 3 1, 3) := by decide +kernel
theorem dX5_makeOne_71 : decode cX5_makeOne 71 = .ok (.goto (-48), 3) := by decide +kernel
theorem dX5_makeOne_74 : decode cX5_makeOne 74 = .ok (.aload_n 0, 1) := by decide +kernel
theorem dX5_makeOne_75 : decode cX5_makeOne 75 = .ok (.getfield 9, 3) := by decide +kernel
theorem dX5_makeOne_78 : decode cX5_makeOne 78 = .ok (.iload_n 1, 1) := by decide +kernel
theorem dX5_makeOne_79 : decode cX5_makeOne 79 = .ok (.dup2, 1) := by decide +kernel
theorem dX5_makeOne_80 : decode cX5_makeOne 80 = .ok (.laload, 1) := by decide +kernel
theorem dX5_makeOne_81 : decode cX5_makeOne 81 = .ok (.aload_n 0, 1) := by decide +kernel
theorem dX5_makeOne_82 : decode cX5_makeOne 82 = .ok (.getfield 9, 3) := by decide +kernel
theorem dX5_makeOne_85 : decode cX5_makeOne 85 = .ok (.iload_n 2, 1) := by decide +kernel
theorem dX5_makeOne_86 : decode cX5_makeOne 86 = .ok (.laload, 1) := by decide +kernel
theorem dX5_makeOne_87 : decode cX5_makeOne 87 = .ok (.lor, 1) := by decide +kernel
theorem dX5_makeOne_88 : decode cX5_makeOne 88 = .ok (.lastore, 1) := by decide +kernel
theorem dX5_makeOne_89 : decode cX5_makeOne 89 = .ok (.aload_n 0, 1) := by decide +kernel
theorem dX5_makeOne_90 : decode cX5_makeOne 90 = .ok (.getfield 19, 3) := by decide +kernel
theorem dX5_makeOne_93 : decode cX5_makeOne 93 = .ok (.iload_n 1, 1) := by decide +kernel
theorem dX5_makeOne_94 : decode cX5_makeOne 94 = .ok (.dup2, 1) := by decide +kernel
theorem dX5_makeOne_95 : decode cX5_makeOne 95 = .ok (.iaload, 1) := by decide +kernel
theorem dX5_makeOne_96 : decode cX5_makeOne 96 = .ok (.aload_n 0, 1) := by decide +kernel
theorem dX5_makeOne_97 : decode cX5_makeOne 97 = .ok (.getfield 19, 3) := by decide +kernel
theorem dX5_makeOne_100 : decode cX5_makeOne 100 = .ok (.iload_n 2, 1) := by decide +kernel
theorem dX5_makeOne_101 : decode cX5_makeOne 101 = .ok (.iaload, 1) := by decide +kernel
theorem dX5_makeOne_102 : decode cX5_makeOne 102 = .ok (.iadd, 1) := by decide +kernel
theorem dX5_makeOne_103 : decode cX5_makeOne 103 = .ok (.iastore, 1) := by decide +kernel
theorem dX5_makeOne_104 : decode cX5_makeOne 104 = .ok (.aload_n 0, 1) := by decide +kernel
theorem dX5_makeOne_105 : decode cX5_makeOne 105 = .ok (.getfield 22, 3) := by decide +kernel
theorem dX5_makeOne_108 : decode cX5_makeOne 108 = .ok (.iload_n 2, 1) := by decide +kernel
theorem dX5_makeOne_109 : decode cX5_makeOne 109 = .ok (.iload_n 1, 1) := by decide +kernel
theorem dX5_makeOne_110 : decode cX5_makeOne 110 = .ok (.iastore, 1) := by decide +kernel
theorem dX5_makeOne_111 : decode cX5_makeOne 111 = .ok (.aload_n 0, 1) := by decide +kernel
theorem dX5_makeOne_112 : decode cX5_makeOne 112 = .ok (.dup, 1) := by decide +kernel
theorem dX5_makeOne_113 : decode cX5_makeOne 113 = .ok (.getfield 57, 3) := by decide +kernel
theorem dX5_makeOne_116 : decode cX5_makeOne 116 = .ok (.lconst 1, 1) := by decide +kernel
theorem dX5_makeOne_117 : decode cX5_makeOne 117 = .ok (.iload_n 2, 1) := by decide +kernel
theorem dX5_makeOne_118 : decode cX5_makeOne 118 = .ok (.lshl, 1) := by decide +kernel
theorem dX5_makeOne_119 : decode cX5_makeOne 119 = .ok (.ldc2_w 142, 3) := by decide +kernel
theorem dX5_makeOne_122 : decode cX5_makeOne 122 = .ok (.lxor, 1) := by decide +kernel
theorem dX5_makeOne_123 : decode cX5_makeOne 123 = .ok (.land, 1) := by decide +kernel
theorem dX5_makeOne_124 : decode cX5_makeOne 124 = .ok (.putfield 57, 3) := by decide +kernel
theorem dX5_makeOne_127 : decode cX5_makeOne 127 = .ok (.return_, 1) := by decide +kernel
theorem dX5_takeAway_0 : decode cX5_takeAway 0 = .ok (.iload_n 1, 1) := by decide +kernel
theorem dX5_takeAway_1 : decode cX5_takeAway 1 = .ok (.ifCond .lt 25, 3) := by decide +kernel
theorem dX5_takeAway_4 : decode cX5_takeAway 4 = .ok (.iload_n 1, 1) := by decide +kernel
theorem dX5_takeAway_5 : decode cX5_takeAway 5 = .ok (.bipush 64, 2) := by decide +kernel
theorem dX5_takeAway_7 : decode cX5_takeAway 7 = .ok (.if_icmp .ge 19, 3) := by decide +kernel
theorem dX5_takeAway_10 : decode cX5_takeAway 10 = .ok (.aload_n 0, 1) := by decide +kernel
theorem dX5_takeAway_11 : decode cX5_takeAway 11 = .ok (.getfield 51, 3) := by decide +kernel
theorem dX5_takeAway_14 : decode cX5_takeAway 14 = .ok (.ifCond .lt 12, 3) := by decide +kernel
theorem dX5_takeAway_17 : decode cX5_takeAway 17 = .ok (.aload_n 0, 1) := by decide +kernel
theorem dX5_takeAway_18 : decode cX5_takeAway 18 = .ok (.getfield 51, 3) := by decide +kernel
theorem dX5_takeAway_21 : decode cX5_takeAway 21 = .ok (.bipush 64, 2) := by decide +kernel
theorem dX5_takeAway_23 : decode cX5_takeAway 23 = .ok (.if_icmp .lt 4, 3) := by decide +kernel
theorem dX5_takeAway_26 : decode cX5_takeAway 26 = .ok (.return_, 1) := by decide +kernel
theorem dX5_takeAway_27 : decode cX5_takeAway 27 = .ok (.iconst 0, 1) := by decide +kernel
theorem dX5_takeAway_28 : decode cX5_takeAway 28 = .ok (.istore_n 2, 1) := by decide +kernel
theorem dX5_takeAway_29 : decode cX5_takeAway 29 = .ok (.iload_n 2, 1) := by decide +kernel
theorem dX5_takeAway_30 : decode cX5_takeAway 30 = .ok (.aload_n 0, 1) := by decide +kernel
theorem dX5_takeAway_31 : decode cX5_takeAway 31 = .ok (.getfield 44, 3) := by decide +kernel
theorem dX5_takeAway_34 : decode cX5_takeAway 34 = .ok (.if_icmp .ge 38, 3) := by decide +kernel
theorem dX5_takeAway_37 : decode cX5_takeAway 37 = .ok (.aload_n 0, 1) := by decide +kernel
theorem dX5_takeAway_38 : decode cX5_takeAway 38 = .ok (.getfield 9, 3) := by decide +kernel
theorem dX5_takeAway_41 : decode cX5_takeAway 41 = .ok (.iload_n 1, 1) := by decide +kernel
theorem dX5_takeAway_42 : decode cX5_takeAway 42 = .ok (.laload, 1) := by decide +kernel
theorem dX5_takeAway_43 : decode cX5_takeAway 43 = .ok (.iload_n 2, 1) := by decide +kernel
theorem dX5_takeAway_44 : decode cX5_takeAway 44 = .ok (.invokestatic 132, 3) := by decide +kernel
theorem dX5_takeAway_47 : decode cX5_takeAway 47 = .ok (.ifCond .eq 19, 3) := by decide +kernel
theorem dX5_takeAway_50 : decode cX5_takeAway 50 = .ok (.aload_n 0, 1) := by decide +kernel
theorem dX5_takeAway_51 : decode cX5_takeAway 51 = .ok (.getfield 9, 3) := by decide +kernel
theorem dX5_takeAway_54 : decode cX5_takeAway 54 = .ok (.iload_n 2, 1) := by decide +kernel
theorem dX5_takeAway_55 : decode cX5_takeAway 55 = .ok (.dup2, 1) := by decide +kernel
theorem dX5_takeAway_56 : decode cX5_takeAway 56 = .ok (.laload, 1) := by decide +kernel
theorem dX5_takeAway_57 : decode cX5_takeAway 57 = .ok (.lconst 1, 1) := by decide +kernel
theorem dX5_takeAway_58 : decode cX5_takeAway 58 = .ok (.iload_n 1, 1) := by decide +kernel
theorem dX5_takeAway_59 : decode cX5_takeAway 59 = .ok (.lshl, 1) := by decide +kernel
theorem dX5_takeAway_60 : decode cX5_takeAway 60 = .ok (.ldc2_w 142, 3) := by decide +kernel
theorem dX5_takeAway_63 : decode cX5_takeAway 63 = .ok (.lxor, 1) := by decide +kernel
theorem dX5_takeAway_64 : decode cX5_takeAway 64 = .ok (.land, 1) := by decide +kernel
theorem dX5_takeAway_65 : decode cX5_takeAway 65 = .ok (.lastore, 1) := by decide +kernel
theorem dX5_takeAway_66 : decode cX5_takeAway 66 = .ok (.iinc 2 1, 3) := by decide +kernel
theorem dX5_takeAway_69 : decode cX5_takeAway 69 = .ok (.goto (-40), 3) := by decide +kernel
theorem dX5_takeAway_72 : decode cX5_takeAway 72 = .ok (.aload_n 0, 1) := by decide +kernel
theorem dX5_takeAway_73 : decode cX5_takeAway 73 = .ok (.dup, 1) := by decide +kernel
theorem dX5_takeAway_74 : decode cX5_takeAway 74 = .ok (.getfield 57, 3) := by decide +kernel
theorem dX5_takeAway_77 : decode cX5_takeAway 77 = .ok (.lconst 1, 1) := by decide +kernel
theorem dX5_takeAway_78 : decode cX5_takeAway 78 = .ok (.iload_n 1, 1) := by decide +kernel
theorem dX5_takeAway_79 : decode cX5_takeAway 79 = .ok (.lshl, 1) := by decide +kernel
theorem dX5_takeAway_80 : decode cX5_takeAway 80 = .ok (.ldc2_w 142, 3) := by decide +kernel
theorem dX5_takeAway_83 : decode cX5_takeAway 83 = .ok (.lxor, 1) := by decide +kernel
theorem dX5_takeAway_84 : decode cX5_takeAway 84 = .ok (.land, 1) := by decide +kernel
theorem dX5_takeAway_85 : decode cX5_takeAway 85 = .ok (.putfield 57, 3) := by decide +kernel
theorem dX5_takeAway_88 : decode cX5_takeAway 88 = .ok (.aload_n 0, 1) := by decide +kernel
theorem dX5_takeAway_89 : decode cX5_takeAway 89 = .ok (.getfield 38, 3) := by decide +kernel
theorem dX5_takeAway_92 : decode cX5_takeAway 92 = .ok (.aload_n 0, 1) := by decide +kernel
theorem dX5_takeAway_93 : decode cX5_takeAway 93 = .ok (.getfield 51, 3) := by decide +kernel
theorem dX5_takeAway_96 : decode cX5_takeAway 96 = .ok (.iload_n 1, 1) := by decide +kernel
theorem dX5_takeAway_97 : decode cX5_takeAway 97 = .ok (.iastore, 1) := by decide +kernel
theorem dX5_takeAway_98 : decode cX5_takeAway 98 = .ok (.aload_n 0, 1) := by decide +kernel
theorem dX5_takeAway_99 : decode cX5_takeAway 99 = .ok (.dup, 1) := by decide +kernel
theorem dX5_takeAway_100 : decode cX5_takeAway 100 = .ok (.getfield 51, 3) := by decide +kernel
theorem dX5_takeAway_103 : decode cX5_takeAway 103 = .ok (.iconst 1, 1) := by decide +kernel
theorem dX5_takeAway_104 : decode cX5_takeAway 104 = .ok (.iadd, 1) := by decide +kernel
theorem dX5_takeAway_105 : decode cX5_takeAway 105 = .ok (.putfield 51, 3) := by decide +kernel
theorem dX5_takeAway_108 : decode cX5_takeAway 108 = .ok (.return_, 1) := by decide +kernel
theorem dX5_shutMovesOf_0 : decode cX5_shutMovesOf 0 = .ok (.iconst 0, 1) := by decide +kernel
theorem dX5_shutMovesOf_1 : decode cX5_shutMovesOf 1 = .ok (.istore_n 2, 1) := by decide +kernel
theorem dX5_shutMovesOf_2 : decode cX5_shutMovesOf 2 = .ok (.iload_n 2, 1) := by decide +kernel
theorem dX5_shutMovesOf_3 : decode cX5_shutMovesOf 3 = .ok (.aload_n 0, 1) := by decide +kernel
theorem dX5_shutMovesOf_4 : decode cX5_shutMovesOf 4 = .ok (.getfield 48, 3) := by decide +kernel
theorem dX5_shutMovesOf_7 : decode cX5_shutMovesOf 7 = .ok (.if_icmp .ge 44, 3) := by decide +kernel
theorem dX5_shutMovesOf_10 : decode cX5_shutMovesOf 10 = .ok (.aload_n 0, 1) := by decide +kernel
theorem dX5_shutMovesOf_11 : decode cX5_shutMovesOf 11 = .ok (.aload_n 0, 1) := by decide +kernel
theorem dX5_shutMovesOf_12 : decode cX5_shutMovesOf 12 = .ok (.getfield 28, 3) := by decide +kernel
theorem dX5_shutMovesOf_15 : decode cX5_shutMovesOf 15 = .ok (.iload_n 2, 1) := by decide +kernel
theorem dX5_shutMovesOf_16 : decode cX5_shutMovesOf 16 = .ok (.iaload, 1) := by decide +kernel
theorem dX5_shutMovesOf_17 : decode cX5_shutMovesOf 17 = .ok (.invokevirtual 136, 3) := by decide +kernel
theorem dX5_shutMovesOf_20 : decode cX5_shutMovesOf 20 = .ok (.iload_n 1, 1) := by decide +kernel
theorem dX5_shutMovesOf_21 : decode cX5_shutMovesOf 21 = .ok (.if_icmp .eq 17, 3) := by decide +kernel
theorem dX5_shutMovesOf_24 : decode cX5_shutMovesOf 24 = .ok (.aload_n 0, 1) := by decide +kernel
theorem dX5_shutMovesOf_25 : decode cX5_shutMovesOf 25 = .ok (.aload_n 0, 1) := by decide +kernel
theorem dX5_shutMovesOf_26 : decode cX5_shutMovesOf 26 = .ok (.getfield 31, 3) := by decide +kernel
theorem dX5_shutMovesOf_29 : decode cX5_shutMovesOf 29 = .ok (.iload_n 2, 1) := by decide +kernel
theorem dX5_shutMovesOf_30 : decode cX5_shutMovesOf 30 = .ok (.iaload, 1) := by decide +kernel
theorem dX5_shutMovesOf_31 : decode cX5_shutMovesOf 31 = .ok (.invokevirtual 136, 3) := by decide +kernel
theorem dX5_shutMovesOf_34 : decode cX5_shutMovesOf 34 = .ok (.iload_n 1, 1) := by decide +kernel
theorem dX5_shutMovesOf_35 : decode cX5_shutMovesOf 35 = .ok (.if_icmp .ne 10, 3) := by decide +kernel
theorem dX5_shutMovesOf_38 : decode cX5_shutMovesOf 38 = .ok (.aload_n 0, 1) := by decide +kernel
theorem dX5_shutMovesOf_39 : decode cX5_shutMovesOf 39 = .ok (.getfield 34, 3) := by decide +kernel
theorem dX5_shutMovesOf_42 : decode cX5_shutMovesOf 42 = .ok (.iload_n 2, 1) := by decide +kernel
theorem dX5_shutMovesOf_43 : decode cX5_shutMovesOf 43 = .ok (.iconst 0, 1) := by decide +kernel
theorem dX5_shutMovesOf_44 : decode cX5_shutMovesOf 44 = .ok (.bastore, 1) := by decide +kernel
theorem dX5_shutMovesOf_45 : decode cX5_shutMovesOf 45 = .ok (.iinc 2 1, 3) := by decide +kernel
theorem dX5_shutMovesOf_48 : decode cX5_shutMovesOf 48 = .ok (.goto (-46), 3) := by decide +kernel
theorem dX5_shutMovesOf_51 : decode cX5_shutMovesOf 51 = .ok (.return_, 1) := by decide +kernel
theorem dX5_bringBack_0 : decode cX5_bringBack 0 = .ok (.aload_n 0, 1) := by decide +kernel
theorem dX5_bringBack_1 : decode cX5_bringBack 1 = .ok (.getfield 51, 3) := by decide +kernel
theorem dX5_bringBack_4 : decode cX5_bringBack 4 = .ok (.iconst 1, 1) := by decide +kernel
theorem dX5_bringBack_5 : decode cX5_bringBack 5 = .ok (.isub, 1) := by decide +kernel
theorem dX5_bringBack_6 : decode cX5_bringBack 6 = .ok (.istore_n 1, 1) := by decide +kernel
theorem dX5_bringBack_7 : decode cX5_bringBack 7 = .ok (.iload_n 1, 1) := by decide +kernel
theorem dX5_bringBack_8 : decode cX5_bringBack 8 = .ok (.ifCond .lt 81, 3) := by decide +kernel
theorem dX5_bringBack_11 : decode cX5_bringBack 11 = .ok (.aload_n 0, 1) := by decide +kernel
theorem dX5_bringBack_12 : decode cX5_bringBack 12 = .ok (.getfield 38, 3) := by decide +kernel
theorem dX5_bringBack_15 : decode cX5_bringBack 15 = .ok (.iload_n 1, 1) := by decide +kernel
theorem dX5_bringBack_16 : decode cX5_bringBack 16 = .ok (.iaload, 1) := by decide +kernel
theorem dX5_bringBack_17 : decode cX5_bringBack 17 = .ok (.istore_n 2, 1) := by decide +kernel
theorem dX5_bringBack_18 : decode cX5_bringBack 18 = .ok (.aload_n 0, 1) := by decide +kernel
theorem dX5_bringBack_19 : decode cX5_bringBack 19 = .ok (.iload_n 2, 1) := by decide +kernel
theorem dX5_bringBack_20 : decode cX5_bringBack 20 = .ok (.invokevirtual 172, 3) := by decide +kernel
theorem dX5_bringBack_23 : decode cX5_bringBack 23 = .ok (.istore_n 3, 1) := by decide +kernel
theorem dX5_bringBack_24 : decode cX5_bringBack 24 = .ok (.iconst 0, 1) := by decide +kernel
theorem dX5_bringBack_25 : decode cX5_bringBack 25 = .ok (.istore 4, 2) := by decide +kernel
theorem dX5_bringBack_27 : decode cX5_bringBack 27 = .ok (.iload 4, 2) := by decide +kernel
theorem dX5_bringBack_29 : decode cX5_bringBack 29 = .ok (.aload_n 0, 1) := by decide +kernel
theorem dX5_bringBack_30 : decode cX5_bringBack 30 = .ok (.getfield 70, 3) := by decide +kernel
theorem dX5_bringBack_33 : decode cX5_bringBack 33 = .ok (.if_icmp .ge 18, 3) := by decide +kernel
theorem dX5_bringBack_36 : decode cX5_bringBack 36 = .ok (.iload_n 3, 1) := by decide +kernel
theorem dX5_bringBack_37 : decode cX5_bringBack 37 = .ok (.iload 4, 2) := by decide +kernel
theorem dX5_bringBack_39 : decode cX5_bringBack 39 = .ok (.iushr, 1) := by decide +kernel
theorem dX5_bringBack_40 : decode cX5_bringBack 40 = .ok (.iconst 1, 1) := by decide +kernel
theorem dX5_bringBack_41 : decode cX5_bringBack 41 = .ok (.iand, 1) := by decide +kernel
theorem dX5_bringBack_42 : decode cX5_bringBack 42 = .ok (.ifCond .eq 9, 3) := by decide +kernel
theorem dX5_bringBack_45 : decode cX5_bringBack 45 = .ok (.iinc 4 1, 3) := by decide +kernel
theorem dX5_bringBack_48 : decode cX5_bringBack 48 = .ok (.goto (-21), 3) := by decide +kernel
theorem dX5_bringBack_51 : decode cX5_bringBack 51 = .ok (.iload 4, 2) := by decide +kernel
theorem dX5_bringBack_53 : decode cX5_bringBack 53 = .ok (.aload_n 0, 1) := by decide +kernel
theorem dX5_bringBack_54 : decode cX5_bringBack 54 = .ok (.getfield 70, 3) := by decide +kernel
theorem dX5_bringBack_57 : decode cX5_bringBack 57 = .ok (.if_icmp .ge 14, 3) := by decide +kernel
theorem dX5_bringBack_60 : decode cX5_bringBack 60 = .ok (.aload_n 0, 1) := by decide +kernel
theorem dX5_bringBack_61 : decode cX5_bringBack 61 = .ok (.getfield 25, 3) := by decide +kernel
theorem dX5_bringBack_64 : decode cX5_bringBack 64 = .ok (.iload_n 2, 1) := by decide +kernel
theorem dX5_bringBack_65 : decode cX5_bringBack 65 = .ok (.iload 4, 2) := by decide +kernel
theorem dX5_bringBack_67 : decode cX5_bringBack 67 = .ok (.iastore, 1) := by decide +kernel
theorem dX5_bringBack_68 : decode cX5_bringBack 68 = .ok (.goto 15, 3) := by decide +kernel
theorem dX5_bringBack_71 : decode cX5_bringBack 71 = .ok (.aload_n 0, 1) := by decide +kernel
theorem dX5_bringBack_72 : decode cX5_bringBack 72 = .ok (.dup, 1) := by decide +kernel
theorem dX5_bringBack_73 : decode cX5_bringBack 73 = .ok (.getfield 67, 3) := by decide +kernel
theorem dX5_bringBack_76 : decode cX5_bringBack 76 = .ok (.lconst 1, 1) := by decide +kernel
theorem dX5_bringBack_77 : decode cX5_bringBack 77 = .ok (.iload_n 2, 1) := by decide +kernel
theorem dX5_bringBack_78 : decode cX5_bringBack 78 = .ok (.lshl, 1) := by decide +kernel
theorem dX5_bringBack_79 : decode cX5_bringBack 79 = .ok (.lor, 1) := by decide +kernel
theorem dX5_bringBack_80 : decode cX5_bringBack 80 = .ok (.putfield 67, 3) := by decide +kernel
theorem dX5_bringBack_83 : decode cX5_bringBack 83 = .ok (.iinc 1 (-1), 3) := by decide +kernel
theorem dX5_bringBack_86 : decode cX5_bringBack 86 = .ok (.goto (-79), 3) := by decide +kernel
theorem dX5_bringBack_89 : decode cX5_bringBack 89 = .ok (.return_, 1) := by decide +kernel
theorem dX5_registersBeside_0 : decode cX5_registersBeside 0 = .ok (.iconst 0, 1) := by decide +kernel
theorem dX5_registersBeside_1 : decode cX5_registersBeside 1 = .ok (.istore_n 2, 1) := by decide +kernel
theorem dX5_registersBeside_2 : decode cX5_registersBeside 2 = .ok (.iconst 0, 1) := by decide +kernel
theorem dX5_registersBeside_3 : decode cX5_registersBeside 3 = .ok (.istore_n 3, 1) := by decide +kernel
theorem dX5_registersBeside_4 : decode cX5_registersBeside 4 = .ok (.iload_n 3, 1) := by decide +kernel
theorem dX5_registersBeside_5 : decode cX5_registersBeside 5 = .ok (.aload_n 0, 1) := by decide +kernel
theorem dX5_registersBeside_6 : decode cX5_registersBeside 6 = .ok (.getfield 44, 3) := by decide +kernel
theorem dX5_registersBeside_9 : decode cX5_registersBeside 9 = .ok (.if_icmp .ge 46, 3) := by decide +kernel
theorem dX5_registersBeside_12 : decode cX5_registersBeside 12 = .ok (.aload_n 0, 1) := by decide +kernel
theorem dX5_registersBeside_13 : decode cX5_registersBeside 13 = .ok (.getfield 9, 3) := by decide +kernel
theorem dX5_registersBeside_16 : decode cX5_registersBeside 16 = .ok (.iload_n 1, 1) := by decide +kernel
theorem dX5_registersBeside_17 : decode cX5_registersBeside 17 = .ok (.laload, 1) := by decide +kernel
theorem dX5_registersBeside_18 : decode cX5_registersBeside 18 = .ok (.iload_n 3, 1) := by decide +kernel
theorem dX5_registersBeside_19 : decode cX5_registersBeside 19 = .ok (.invokestatic 132, 3) := by decide +kernel
theorem dX5_registersBeside_22 : decode cX5_registersBeside 22 = .ok (.ifCond .eq 27, 3) := by decide +kernel
theorem dX5_registersBeside_25 : decode cX5_registersBeside 25 = .ok (.aload_n 0, 1) := by decide +kernel
theorem dX5_registersBeside_26 : decode cX5_registersBeside 26 = .ok (.getfield 25, 3) := by decide +kernel
theorem dX5_registersBeside_29 : decode cX5_registersBeside 29 = .ok (.aload_n 0, 1) := by decide +kernel
theorem dX5_registersBeside_30 : decode cX5_registersBeside 30 = .ok (.iload_n 3, 1) := by decide +kernel
theorem dX5_registersBeside_31 : decode cX5_registersBeside 31 = .ok (.invokevirtual 136, 3) := by decide +kernel
theorem dX5_registersBeside_34 : decode cX5_registersBeside 34 = .ok (.iaload, 1) := by decide +kernel
theorem dX5_registersBeside_35 : decode cX5_registersBeside 35 = .ok (.istore 4, 2) := by decide +kernel
theorem dX5_registersBeside_37 : decode cX5_registersBeside 37 = .ok (.iload 4, 2) := by decide +kernel
theorem dX5_registersBeside_39 : decode cX5_registersBeside 39 = .ok (.ifCond .lt 10, 3) := by decide +kernel
theorem dX5_registersBeside_42 : decode cX5_registersBeside 42 = .ok (.iload_n 2, 1) := by decide +kernel
theorem dX5_registersBeside_43 : decode cX5_registersBeside 43 = .ok (.iconst 1, 1) := by decide +kernel
theorem dX5_registersBeside_44 : decode cX5_registersBeside 44 = .ok (.iload 4, 2) := by decide +kernel
theorem dX5_registersBeside_46 : decode cX5_registersBeside 46 = .ok (.ishl, 1) := by decide +kernel
theorem dX5_registersBeside_47 : decode cX5_registersBeside 47 = .ok (.ior, 1) := by decide +kernel
theorem dX5_registersBeside_48 : decode cX5_registersBeside 48 = .ok (.istore_n 2, 1) := by decide +kernel
theorem dX5_registersBeside_49 : decode cX5_registersBeside 49 = .ok (.iinc 3 1, 3) := by decide +kernel
theorem dX5_registersBeside_52 : decode cX5_registersBeside 52 = .ok (.goto (-48), 3) := by decide +kernel
theorem dX5_registersBeside_55 : decode cX5_registersBeside 55 = .ok (.iload_n 2, 1) := by decide +kernel
theorem dX5_registersBeside_56 : decode cX5_registersBeside 56 = .ok (.ireturn, 1) := by decide +kernel
theorem dX5_note_0 : decode cX5_note 0 = .ok (.aload_n 0, 1) := by decide +kernel
theorem dX5_note_1 : decode cX5_note 1 = .ok (.getfield 54, 3) := by decide +kernel
theorem dX5_note_4 : decode cX5_note 4 = .ok (.ifCond .lt 38, 3) := by decide +kernel
theorem dX5_note_7 : decode cX5_note 7 = .ok (.aload_n 0, 1) := by decide +kernel
theorem dX5_note_8 : decode cX5_note 8 = .ok (.getfield 54, 3) := by decide +kernel
theorem dX5_note_11 : decode cX5_note 11 = .ok (.sipush 154, 3) := by decide +kernel
theorem dX5_note_14 : decode cX5_note 14 = .ok (.if_icmp .ge 28, 3) := by decide +kernel
theorem dX5_note_17 : decode cX5_note 17 = .ok (.aload_n 0, 1) := by decide +kernel
theorem dX5_note_18 : decode cX5_note 18 = .ok (.getfield 41, 3) := by decide +kernel
theorem dX5_note_21 : decode cX5_note 21 = .ok (.aload_n 0, 1) := by decide +kernel
theorem dX5_note_22 : decode cX5_note 22 = .ok (.getfield 54, 3) := by decide +kernel
theorem dX5_note_25 : decode cX5_note 25 = .ok (.bipush 100, 2) := by decide +kernel
theorem dX5_note_27 : decode cX5_note 27 = .ok (.iload_n 1, 1) := by decide +kernel
theorem dX5_note_28 : decode cX5_note 28 = .ok (.imul, 1) := by decide +kernel
theorem dX5_note_29 : decode cX5_note 29 = .ok (.iload_n 2, 1) := by decide +kernel
theorem dX5_note_30 : decode cX5_note 30 = .ok (.iadd, 1) := by decide +kernel
theorem dX5_note_31 : decode cX5_note 31 = .ok (.iastore, 1) := by decide +kernel
theorem dX5_note_32 : decode cX5_note 32 = .ok (.aload_n 0, 1) := by decide +kernel
theorem dX5_note_33 : decode cX5_note 33 = .ok (.dup, 1) := by decide +kernel
theorem dX5_note_34 : decode cX5_note 34 = .ok (.getfield 54, 3) := by decide +kernel
theorem dX5_note_37 : decode cX5_note 37 = .ok (.iconst 1, 1) := by decide +kernel
theorem dX5_note_38 : decode cX5_note 38 = .ok (.iadd, 1) := by decide +kernel
theorem dX5_note_39 : decode cX5_note 39 = .ok (.putfield 54, 3) := by decide +kernel
theorem dX5_note_42 : decode cX5_note 42 = .ok (.return_, 1) := by decide +kernel
theorem dX5_nodeOf_0 : decode cX5_nodeOf 0 = .ok (.iconst 0, 1) := by decide +kernel
theorem dX5_nodeOf_1 : decode cX5_nodeOf 1 = .ok (.iload_n 1, 1) := by decide +kernel
theorem dX5_nodeOf_2 : decode cX5_nodeOf 2 = .ok (.bipush 63, 2) := by decide +kernel
theorem dX5_nodeOf_4 : decode cX5_nodeOf 4 = .ok (.invokestatic 107, 3) := by decide +kernel
theorem dX5_nodeOf_7 : decode cX5_nodeOf 7 = .ok (.invokestatic 155, 3) := by decide +kernel
theorem dX5_nodeOf_10 : decode cX5_nodeOf 10 = .ok (.istore_n 2, 1) := by decide +kernel
theorem dX5_nodeOf_11 : decode cX5_nodeOf 11 = .ok (.iconst 0, 1) := by decide +kernel
theorem dX5_nodeOf_12 : decode cX5_nodeOf 12 = .ok (.istore_n 3, 1) := by decide +kernel
theorem dX5_nodeOf_13 : decode cX5_nodeOf 13 = .ok (.iload_n 3, 1) := by decide +kernel
theorem dX5_nodeOf_14 : decode cX5_nodeOf 14 = .ok (.bipush 64, 2) := by decide +kernel
theorem dX5_nodeOf_16 : decode cX5_nodeOf 16 = .ok (.if_icmp .ge 26, 3) := by decide +kernel
theorem dX5_nodeOf_19 : decode cX5_nodeOf 19 = .ok (.aload_n 0, 1) := by decide +kernel
theorem dX5_nodeOf_20 : decode cX5_nodeOf 20 = .ok (.getfield 22, 3) := by decide +kernel
theorem dX5_nodeOf_23 : decode cX5_nodeOf 23 = .ok (.iload_n 2, 1) := by decide +kernel
theorem dX5_nodeOf_24 : decode cX5_nodeOf 24 = .ok (.iaload, 1) := by decide +kernel
theorem dX5_nodeOf_25 : decode cX5_nodeOf 25 = .ok (.iload_n 2, 1) := by decide +kernel
theorem dX5_nodeOf_26 : decode cX5_nodeOf 26 = .ok (.if_icmp .eq 16, 3) := by decide +kernel
theorem dX5_nodeOf_29 : decode cX5_nodeOf 29 = .ok (.aload_n 0, 1) := by decide +kernel
theorem dX5_nodeOf_30 : decode cX5_nodeOf 30 = .ok (.getfield 22, 3) := by decide +kernel
theorem dX5_nodeOf_33 : decode cX5_nodeOf 33 = .ok (.iload_n 2, 1) := by decide +kernel
theorem dX5_nodeOf_34 : decode cX5_nodeOf 34 = .ok (.iaload, 1) := by decide +kernel
theorem dX5_nodeOf_35 : decode cX5_nodeOf 35 = .ok (.istore_n 2, 1) := by decide +kernel
theorem dX5_nodeOf_36 : decode cX5_nodeOf 36 = .ok (.iinc 3 1, 3) := by decide +kernel
theorem dX5_nodeOf_39 : decode cX5_nodeOf 39 = .ok (.goto (-26), 3) := by decide +kernel
theorem dX5_nodeOf_42 : decode cX5_nodeOf 42 = .ok (.iload_n 2, 1) := by decide +kernel
theorem dX5_nodeOf_43 : decode cX5_nodeOf 43 = .ok (.ireturn, 1) := by decide +kernel
theorem dX5_leastOf_0 : decode cX5_leastOf 0 = .ok (.iconst 0, 1) := by decide +kernel
theorem dX5_leastOf_1 : decode cX5_leastOf 1 = .ok (.istore_n 3, 1) := by decide +kernel
theorem dX5_leastOf_2 : decode cX5_leastOf 2 = .ok (.iload_n 3, 1) := by decide +kernel
theorem dX5_leastOf_3 : decode cX5_leastOf 3 = .ok (.aload_n 0, 1) := by decide +kernel
theorem dX5_leastOf_4 : decode cX5_leastOf 4 = .ok (.getfield 44, 3) := by decide +kernel
theorem dX5_leastOf_7 : decode cX5_leastOf 7 = .ok (.if_icmp .ge 19, 3) := by decide +kernel
theorem dX5_leastOf_10 : decode cX5_leastOf 10 = .ok (.lload_n 1, 1) := by decide +kernel
theorem dX5_leastOf_11 : decode cX5_leastOf 11 = .ok (.iload_n 3, 1) := by decide +kernel
theorem dX5_leastOf_12 : decode cX5_leastOf 12 = .ok (.invokestatic 132, 3) := by decide +kernel
theorem dX5_leastOf_15 : decode cX5_leastOf 15 = .ok (.ifCond .eq 5, 3) := by decide +kernel
theorem dX5_leastOf_18 : decode cX5_leastOf 18 = .ok (.iload_n 3, 1) := by decide +kernel
theorem dX5_leastOf_19 : decode cX5_leastOf 19 = .ok (.ireturn, 1) := by decide +kernel
theorem dX5_leastOf_20 : decode cX5_leastOf 20 = .ok (.iinc 3 1, 3) := by decide +kernel
theorem dX5_leastOf_23 : decode cX5_leastOf 23 = .ok (.goto (-21), 3) := by decide +kernel
theorem dX5_leastOf_26 : decode cX5_leastOf 26 = .ok (.bipush (-6), 2) := by decide +kernel
theorem dX5_leastOf_28 : decode cX5_leastOf 28 = .ok (.ireturn, 1) := by decide +kernel
theorem dX6_init_0 : decode cX6_init 0 = .ok (.aload_n 0, 1) := by decide +kernel
theorem dX6_init_1 : decode cX6_init 1 = .ok (.invokespecial 3, 3) := by decide +kernel
theorem dX6_init_4 : decode cX6_init 4 = .ok (.aload_n 0, 1) := by decide +kernel
theorem dX6_init_5 : decode cX6_init 5 = .ok (.bipush 64, 2) := by decide +kernel
theorem dX6_init_7 : decode cX6_init 7 = .ok (.newarray .int, 2) := by decide +kernel
theorem dX6_init_9 : decode cX6_init 9 = .ok (.putfield 9, 3) := by decide +kernel
theorem dX6_init_12 : decode cX6_init 12 = .ok (.aload_n 0, 1) := by decide +kernel
theorem dX6_init_13 : decode cX6_init 13 = .ok (.bipush 64, 2) := by decide +kernel
theorem dX6_init_15 : decode cX6_init 15 = .ok (.newarray .int, 2) := by decide +kernel
theorem dX6_init_17 : decode cX6_init 17 = .ok (.putfield 15, 3) := by decide +kernel
theorem dX6_init_20 : decode cX6_init 20 = .ok (.aload_n 0, 1) := by decide +kernel
theorem dX6_init_21 : decode cX6_init 21 = .ok (.sipush 500, 3) := by decide +kernel
theorem dX6_init_24 : decode cX6_init 24 = .ok (.newarray .int, 2) := by decide +kernel
theorem dX6_init_26 : decode cX6_init 26 = .ok (.putfield 18, 3) := by decide +kernel
theorem dX6_init_29 : decode cX6_init 29 = .ok (.aload_n 0, 1) := by decide +kernel
theorem dX6_init_30 : decode cX6_init 30 = .ok (.iconst 0, 1) := by decide +kernel
theorem dX6_init_31 : decode cX6_init 31 = .ok (.putfield 21, 3) := by decide +kernel
theorem dX6_init_34 : decode cX6_init 34 = .ok (.aload_n 0, 1) := by decide +kernel
theorem dX6_init_35 : decode cX6_init 35 = .ok (.iconst 0, 1) := by decide +kernel
theorem dX6_init_36 : decode cX6_init 36 = .ok (.putfield 25, 3) := by decide +kernel
theorem dX6_init_39 : decode cX6_init 39 = .ok (.aload_n 0, 1) := by decide +kernel
theorem dX6_init_40 : decode cX6_init 40 = .ok (.iconst 0, 1) := by decide +kernel
theorem dX6_init_41 : decode cX6_init 41 = .ok (.putfield 28, 3) := by decide +kernel
theorem dX6_init_44 : decode cX6_init 44 = .ok (.aload_n 0, 1) := by decide +kernel
theorem dX6_init_45 : decode cX6_init 45 = .ok (.iconst 0, 1) := by decide +kernel
