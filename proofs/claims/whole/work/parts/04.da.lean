theorem dX0_init_0 : decode cX0_init 0 = .ok (.aload_n 0, 1) := by decide +kernel
theorem dX0_init_1 : decode cX0_init 1 = .ok (.invokespecial 1, 3) := by decide +kernel
theorem dX0_init_4 : decode cX0_init 4 = .ok (.return_, 1) := by decide +kernel
theorem dX0_presses_0 : decode cX0_presses 0 = .ok (.aload_n 0, 1) := by decide +kernel
theorem dX0_presses_1 : decode cX0_presses 1 = .ok (.iload_n 1, 1) := by decide +kernel
theorem dX0_presses_2 : decode cX0_presses 2 = .ok (.iload_n 2, 1) := by decide +kernel
theorem dX0_presses_3 : decode cX0_presses 3 = .ok (.invokespecial 7, 3) := by decide +kernel
theorem dX0_presses_6 : decode cX0_presses 6 = .ok (.iload_n 1, 1) := by decide +kernel
theorem dX0_presses_7 : decode cX0_presses 7 = .ok (.iconst 3, 1) := by decide +kernel
theorem dX0_presses_8 : decode cX0_presses 8 = .ok (.idiv, 1) := by decide +kernel
theorem dX0_presses_9 : decode cX0_presses 9 = .ok (.iadd, 1) := by decide +kernel
theorem dX0_presses_10 : decode cX0_presses 10 = .ok (.ireturn, 1) := by decide +kernel
theorem dX0_spreads_0 : decode cX0_spreads 0 = .ok (.iconst 2, 1) := by decide +kernel
theorem dX0_spreads_1 : decode cX0_spreads 1 = .ok (.ireturn, 1) := by decide +kernel
theorem dX0_price_0 : decode cX0_price 0 = .ok (.iconst 2, 1) := by decide +kernel
theorem dX0_price_1 : decode cX0_price 1 = .ok (.aload_n 0, 1) := by decide +kernel
theorem dX0_price_2 : decode cX0_price 2 = .ok (.iload_n 1, 1) := by decide +kernel
theorem dX0_price_3 : decode cX0_price 3 = .ok (.invokespecial 11, 3) := by decide +kernel
theorem dX0_price_6 : decode cX0_price 6 = .ok (.imul, 1) := by decide +kernel
theorem dX0_price_7 : decode cX0_price 7 = .ok (.ireturn, 1) := by decide +kernel
theorem dX0_failureAsTold_0 : decode cX0_failureAsTold 0 = .ok (.sipush 200, 3) := by decide +kernel
theorem dX0_failureAsTold_3 : decode cX0_failureAsTold 3 = .ok (.aload_n 0, 1) := by decide +kernel
theorem dX0_failureAsTold_4 : decode cX0_failureAsTold 4 = .ok (.iload_n 1, 1) := by decide +kernel
theorem dX0_failureAsTold_5 : decode cX0_failureAsTold 5 = .ok (.invokevirtual 15, 3) := by decide +kernel
theorem dX0_failureAsTold_8 : decode cX0_failureAsTold 8 = .ok (.iadd, 1) := by decide +kernel
theorem dX0_failureAsTold_9 : decode cX0_failureAsTold 9 = .ok (.ireturn, 1) := by decide +kernel
theorem dX1_init_0 : decode cX1_init 0 = .ok (.aload_n 0, 1) := by decide +kernel
theorem dX1_init_1 : decode cX1_init 1 = .ok (.invokespecial 3, 3) := by decide +kernel
theorem dX1_init_4 : decode cX1_init 4 = .ok (.aload_n 0, 1) := by decide +kernel
theorem dX1_init_5 : decode cX1_init 5 = .ok (.bipush 15, 2) := by decide +kernel
theorem dX1_init_7 : decode cX1_init 7 = .ok (.newarray .int, 2) := by decide +kernel
theorem dX1_init_9 : decode cX1_init 9 = .ok (.putfield 9, 3) := by decide +kernel
theorem dX1_init_12 : decode cX1_init 12 = .ok (.aload_n 0, 1) := by decide +kernel
theorem dX1_init_13 : decode cX1_init 13 = .ok (.bipush 6, 2) := by decide +kernel
theorem dX1_init_15 : decode cX1_init 15 = .ok (.newarray .int, 2) := by decide +kernel
theorem dX1_init_17 : decode cX1_init 17 = .ok (.putfield 15, 3) := by decide +kernel
theorem dX1_init_20 : decode cX1_init 20 = .ok (.aload_n 0, 1) := by decide +kernel
theorem dX1_init_21 : decode cX1_init 21 = .ok (.bipush 6, 2) := by decide +kernel
theorem dX1_init_23 : decode cX1_init 23 = .ok (.newarray .int, 2) := by decide +kernel
theorem dX1_init_25 : decode cX1_init 25 = .ok (.putfield 18, 3) := by decide +kernel
theorem dX1_init_28 : decode cX1_init 28 = .ok (.aload_n 0, 1) := by decide +kernel
theorem dX1_init_29 : decode cX1_init 29 = .ok (.bipush 6, 2) := by decide +kernel
theorem dX1_init_31 : decode cX1_init 31 = .ok (.newarray .int, 2) := by decide +kernel
theorem dX1_init_33 : decode cX1_init 33 = .ok (.putfield 21, 3) := by decide +kernel
theorem dX1_init_36 : decode cX1_init 36 = .ok (.aload_n 0, 1) := by decide +kernel
theorem dX1_init_37 : decode cX1_init 37 = .ok (.bipush 6, 2) := by decide +kernel
theorem dX1_init_39 : decode cX1_init 39 = .ok (.newarray .int, 2) := by decide +kernel
theorem dX1_init_41 : decode cX1_init 41 = .ok (.putfield 24, 3) := by decide +kernel
theorem dX1_init_44 : decode cX1_init 44 = .ok (.aload_n 0, 1) := by decide +kernel
theorem dX1_init_45 : decode cX1_init 45 = .ok (.bipush 6, 2) := by decide +kernel
theorem dX1_init_47 : decode cX1_init 47 = .ok (.newarray .int, 2) := by decide +kernel
theorem dX1_init_49 : decode cX1_init 49 = .ok (.putfield 27, 3) := by decide +kernel
theorem dX1_init_52 : decode cX1_init 52 = .ok (.aload_n 0, 1) := by decide +kernel
theorem dX1_init_53 : decode cX1_init 53 = .ok (.bipush 6, 2) := by decide +kernel
theorem dX1_init_55 : decode cX1_init 55 = .ok (.newarray .int, 2) := by decide +kernel
theorem dX1_init_57 : decode cX1_init 57 = .ok (.putfield 30, 3) := by decide +kernel
theorem dX1_init_60 : decode cX1_init 60 = .ok (.aload_n 0, 1) := by decide +kernel
theorem dX1_init_61 : decode cX1_init 61 = .ok (.bipush 6, 2) := by decide +kernel
theorem dX1_init_63 : decode cX1_init 63 = .ok (.newarray .int, 2) := by decide +kernel
theorem dX1_init_65 : decode cX1_init 65 = .ok (.putfield 33, 3) := by decide +kernel
theorem dX1_init_68 : decode cX1_init 68 = .ok (.aload_n 0, 1) := by decide +kernel
theorem dX1_init_69 : decode cX1_init 69 = .ok (.bipush 6, 2) := by decide +kernel
theorem dX1_init_71 : decode cX1_init 71 = .ok (.newarray .int, 2) := by decide +kernel
theorem dX1_init_73 : decode cX1_init 73 = .ok (.putfield 36, 3) := by decide +kernel
theorem dX1_init_76 : decode cX1_init 76 = .ok (.aload_n 0, 1) := by decide +kernel
theorem dX1_init_77 : decode cX1_init 77 = .ok (.bipush 15, 2) := by decide +kernel
theorem dX1_init_79 : decode cX1_init 79 = .ok (.newarray .int, 2) := by decide +kernel
theorem dX1_init_81 : decode cX1_init 81 = .ok (.putfield 39, 3) := by decide +kernel
theorem dX1_init_84 : decode cX1_init 84 = .ok (.aload_n 0, 1) := by decide +kernel
theorem dX1_init_85 : decode cX1_init 85 = .ok (.aload_n 1, 1) := by decide +kernel
theorem dX1_init_86 : decode cX1_init 86 = .ok (.putfield 42, 3) := by decide +kernel
theorem dX1_init_89 : decode cX1_init 89 = .ok (.aload_n 0, 1) := by decide +kernel
theorem dX1_init_90 : decode cX1_init 90 = .ok (.getfield 9, 3) := by decide +kernel
theorem dX1_init_93 : decode cX1_init 93 = .ok (.iconst 5, 1) := by decide +kernel
theorem dX1_init_94 : decode cX1_init 94 = .ok (.invokestatic 46, 3) := by decide +kernel
theorem dX1_init_97 : decode cX1_init 97 = .ok (.return_, 1) := by decide +kernel
theorem dX1_become_0 : decode cX1_become 0 = .ok (.aload_n 0, 1) := by decide +kernel
theorem dX1_become_1 : decode cX1_become 1 = .ok (.aload_n 1, 1) := by decide +kernel
theorem dX1_become_2 : decode cX1_become 2 = .ok (.getfield 52, 3) := by decide +kernel
theorem dX1_become_5 : decode cX1_become 5 = .ok (.putfield 52, 3) := by decide +kernel
theorem dX1_become_8 : decode cX1_become 8 = .ok (.aload_n 0, 1) := by decide +kernel
theorem dX1_become_9 : decode cX1_become 9 = .ok (.aload_n 1, 1) := by decide +kernel
theorem dX1_become_10 : decode cX1_become 10 = .ok (.getfield 56, 3) := by decide +kernel
theorem dX1_become_13 : decode cX1_become 13 = .ok (.putfield 56, 3) := by decide +kernel
theorem dX1_become_16 : decode cX1_become 16 = .ok (.aload_n 1, 1) := by decide +kernel
theorem dX1_become_17 : decode cX1_become 17 = .ok (.getfield 9, 3) := by decide +kernel
theorem dX1_become_20 : decode cX1_become 20 = .ok (.iconst 0, 1) := by decide +kernel
theorem dX1_become_21 : decode cX1_become 21 = .ok (.aload_n 0, 1) := by decide +kernel
theorem dX1_become_22 : decode cX1_become 22 = .ok (.getfield 9, 3) := by decide +kernel
theorem dX1_become_25 : decode cX1_become 25 = .ok (.iconst 0, 1) := by decide +kernel
theorem dX1_become_26 : decode cX1_become 26 = .ok (.bipush 15, 2) := by decide +kernel
theorem dX1_become_28 : decode cX1_become 28 = .ok (.invokestatic 59, 3) := by decide +kernel
theorem dX1_become_31 : decode cX1_become 31 = .ok (.aload_n 1, 1) := by decide +kernel
theorem dX1_become_32 : decode cX1_become 32 = .ok (.getfield 15, 3) := by decide +kernel
theorem dX1_become_35 : decode cX1_become 35 = .ok (.iconst 0, 1) := by decide +kernel
theorem dX1_become_36 : decode cX1_become 36 = .ok (.aload_n 0, 1) := by decide +kernel
theorem dX1_become_37 : decode cX1_become 37 = .ok (.getfield 15, 3) := by decide +kernel
theorem dX1_become_40 : decode cX1_become 40 = .ok (.iconst 0, 1) := by decide +kernel
theorem dX1_become_41 : decode cX1_become 41 = .ok (.bipush 6, 2) := by decide +kernel
theorem dX1_become_43 : decode cX1_become 43 = .ok (.invokestatic 59, 3) := by decide +kernel
theorem dX1_become_46 : decode cX1_become 46 = .ok (.aload_n 1, 1) := by decide +kernel
theorem dX1_become_47 : decode cX1_become 47 = .ok (.getfield 18, 3) := by decide +kernel
theorem dX1_become_50 : decode cX1_become 50 = .ok (.iconst 0, 1) := by decide +kernel
theorem dX1_become_51 : decode cX1_become 51 = .ok (.aload_n 0, 1) := by decide +kernel
theorem dX1_become_52 : decode cX1_become 52 = .ok (.getfield 18, 3) := by decide +kernel
theorem dX1_become_55 : decode cX1_become 55 = .ok (.iconst 0, 1) := by decide +kernel
theorem dX1_become_56 : decode cX1_become 56 = .ok (.bipush 6, 2) := by decide +kernel
theorem dX1_become_58 : decode cX1_become 58 = .ok (.invokestatic 59, 3) := by decide +kernel
theorem dX1_become_61 : decode cX1_become 61 = .ok (.aload_n 1, 1) := by decide +kernel
theorem dX1_become_62 : decode cX1_become 62 = .ok (.getfield 21, 3) := by decide +kernel
theorem dX1_become_65 : decode cX1_become 65 = .ok (.iconst 0, 1) := by decide +kernel
theorem dX1_become_66 : decode cX1_become 66 = .ok (.aload_n 0, 1) := by decide +kernel
theorem dX1_become_67 : decode cX1_become 67 = .ok (.getfield 21, 3) := by decide +kernel
theorem dX1_become_70 : decode cX1_become 70 = .ok (.iconst 0, 1) := by decide +kernel
theorem dX1_become_71 : decode cX1_become 71 = .ok (.bipush 6, 2) := by decide +kernel
theorem dX1_become_73 : decode cX1_become 73 = .ok (.invokestatic 59, 3) := by decide +kernel
theorem dX1_become_76 : decode cX1_become 76 = .ok (.aload_n 1, 1) := by decide +kernel
theorem dX1_become_77 : decode cX1_become 77 = .ok (.getfield 24, 3) := by decide +kernel
theorem dX1_become_80 : decode cX1_become 80 = .ok (.iconst 0, 1) := by decide +kernel
theorem dX1_become_81 : decode cX1_become 81 = .ok (.aload_n 0, 1) := by decide +kernel
theorem dX1_become_82 : decode cX1_become 82 = .ok (.getfield 24, 3) := by decide +kernel
theorem dX1_become_85 : decode cX1_become 85 = .ok (.iconst 0, 1) := by decide +kernel
theorem dX1_become_86 : decode cX1_become 86 = .ok (.bipush 6, 2) := by decide +kernel
theorem dX1_become_88 : decode cX1_become 88 = .ok (.invokestatic 59, 3) := by decide +kernel
theorem dX1_become_91 : decode cX1_become 91 = .ok (.aload_n 1, 1) := by decide +kernel
theorem dX1_become_92 : decode cX1_become 92 = .ok (.getfield 27, 3) := by decide +kernel
theorem dX1_become_95 : decode cX1_become 95 = .ok (.iconst 0, 1) := by decide +kernel
theorem dX1_become_96 : decode cX1_become 96 = .ok (.aload_n 0, 1) := by decide +kernel
theorem dX1_become_97 : decode cX1_become 97 = .ok (.getfield 27, 3) := by decide +kernel
theorem dX1_become_100 : decode cX1_become 100 = .ok (.iconst 0, 1) := by decide +kernel
theorem dX1_become_101 : decode cX1_become 101 = .ok (.bipush 6, 2) := by decide +kernel
theorem dX1_become_103 : decode cX1_become 103 = .ok (.invokestatic 59, 3) := by decide +kernel
theorem dX1_become_106 : decode cX1_become 106 = .ok (.aload_n 1, 1) := by decide +kernel
theorem dX1_become_107 : decode cX1_become 107 = .ok (.getfield 30, 3) := by decide +kernel
theorem dX1_become_110 : decode cX1_become 110 = .ok (.iconst 0, 1) := by decide +kernel
theorem dX1_become_111 : decode cX1_become 111 = .ok (.aload_n 0, 1) := by decide +kernel
theorem dX1_become_112 : decode cX1_become 112 = .ok (.getfield 30, 3) := by decide +kernel
theorem dX1_become_115 : decode cX1_become 115 = .ok (.iconst 0, 1) := by decide +kernel
theorem dX1_become_116 : decode cX1_become 116 = .ok (.bipush 6, 2) := by decide +kernel
theorem dX1_become_118 : decode cX1_become 118 = .ok (.invokestatic 59, 3) := by decide +kernel
theorem dX1_become_121 : decode cX1_become 121 = .ok (.aload_n 1, 1) := by decide +kernel
theorem dX1_become_122 : decode cX1_become 122 = .ok (.getfield 33, 3) := by decide +kernel
theorem dX1_become_125 : decode cX1_become 125 = .ok (.iconst 0, 1) := by decide +kernel
theorem dX1_become_126 : decode cX1_become 126 = .ok (.aload_n 0, 1) := by decide +kernel
theorem dX1_become_127 : decode cX1_become 127 = .ok (.getfield 33, 3) := by decide +kernel
theorem dX1_become_130 : decode cX1_become 130 = .ok (.iconst 0, 1) := by decide +kernel
theorem dX1_become_131 : decode cX1_become 131 = .ok (.bipush 6, 2) := by decide +kernel
theorem dX1_become_133 : decode cX1_become 133 = .ok (.invokestatic 59, 3) := by decide +kernel
theorem dX1_become_136 : decode cX1_become 136 = .ok (.aload_n 1, 1) := by decide +kernel
theorem dX1_become_137 : decode cX1_become 137 = .ok (.getfield 36, 3) := by decide +kernel
theorem dX1_become_140 : decode cX1_become 140 = .ok (.iconst 0, 1) := by decide +kernel
theorem dX1_become_141 : decode cX1_become 141 = .ok (.aload_n 0, 1) := by decide +kernel
theorem dX1_become_142 : decode cX1_become 142 = .ok (.getfield 36, 3) := by decide +kernel
theorem dX1_become_145 : decode cX1_become 145 = .ok (.iconst 0, 1) := by decide +kernel
theorem dX1_become_146 : decode cX1_become 146 = .ok (.bipush 6, 2) := by decide +kernel
theorem dX1_become_148 : decode cX1_become 148 = .ok (.invokestatic 59, 3) := by decide +kernel
theorem dX1_become_151 : decode cX1_become 151 = .ok (.return_, 1) := by decide +kernel
theorem dX1_has_0 : decode cX1_has 0 = .ok (.iload_n 1, 1) := by decide +kernel
theorem dX1_has_1 : decode cX1_has 1 = .ok (.iconst 0, 1) := by decide +kernel
theorem dX1_has_2 : decode cX1_has 2 = .ok (.aload_n 0, 1) := by decide +kernel
theorem dX1_has_3 : decode cX1_has 3 = .ok (.getfield 52, 3) := by decide +kernel
theorem dX1_has_6 : decode cX1_has 6 = .ok (.iconst 1, 1) := by decide +kernel
theorem dX1_has_7 : decode cX1_has 7 = .ok (.isub, 1) := by decide +kernel
theorem dX1_has_8 : decode cX1_has 8 = .ok (.invokestatic 65, 3) := by decide +kernel
theorem dX1_has_11 : decode cX1_has 11 = .ok (.ireturn, 1) := by decide +kernel
theorem dX1_setHeight_0 : decode cX1_setHeight 0 = .ok (.iload_n 1, 1) := by decide +kernel
theorem dX1_setHeight_1 : decode cX1_setHeight 1 = .ok (.invokestatic 69, 3) := by decide +kernel
theorem dX1_setHeight_4 : decode cX1_setHeight 4 = .ok (.ifCond .eq 13, 3) := by decide +kernel
theorem dX1_setHeight_7 : decode cX1_setHeight 7 = .ok (.iload_n 2, 1) := by decide +kernel
theorem dX1_setHeight_8 : decode cX1_setHeight 8 = .ok (.iconst 0, 1) := by decide +kernel
theorem dX1_setHeight_9 : decode cX1_setHeight 9 = .ok (.bipush 20, 2) := by decide +kernel
theorem dX1_setHeight_11 : decode cX1_setHeight 11 = .ok (.invokestatic 65, 3) := by decide +kernel
theorem dX1_setHeight_14 : decode cX1_setHeight 14 = .ok (.ifCond .ne 5, 3) := by decide +kernel
theorem dX1_setHeight_17 : decode cX1_setHeight 17 = .ok (.iconst 0, 1) := by decide +kernel
theorem dX1_setHeight_18 : decode cX1_setHeight 18 = .ok (.ireturn, 1) := by decide +kernel
theorem dX1_setHeight_19 : decode cX1_setHeight 19 = .ok (.aload_n 0, 1) := by decide +kernel
theorem dX1_setHeight_20 : decode cX1_setHeight 20 = .ok (.getfield 9, 3) := by decide +kernel
theorem dX1_setHeight_23 : decode cX1_setHeight 23 = .ok (.iload_n 1, 1) := by decide +kernel
theorem dX1_setHeight_24 : decode cX1_setHeight 24 = .ok (.iload_n 2, 1) := by decide +kernel
theorem dX1_setHeight_25 : decode cX1_setHeight 25 = .ok (.iastore, 1) := by decide +kernel
theorem dX1_setHeight_26 : decode cX1_setHeight 26 = .ok (.iconst 1, 1) := by decide +kernel
theorem dX1_setHeight_27 : decode cX1_setHeight 27 = .ok (.ireturn, 1) := by decide +kernel
theorem dX1_addWalker_0 : decode cX1_addWalker 0 = .ok (.aload_n 0, 1) := by decide +kernel
theorem dX1_addWalker_1 : decode cX1_addWalker 1 = .ok (.getfield 52, 3) := by decide +kernel
theorem dX1_addWalker_4 : decode cX1_addWalker 4 = .ok (.bipush 6, 2) := by decide +kernel
theorem dX1_addWalker_6 : decode cX1_addWalker 6 = .ok (.if_icmp .ge 11, 3) := by decide +kernel
theorem dX1_addWalker_9 : decode cX1_addWalker 9 = .ok (.iload 4, 2) := by decide +kernel
theorem dX1_addWalker_11 : decode cX1_addWalker 11 = .ok (.invokestatic 69, 3) := by decide +kernel
theorem dX1_addWalker_14 : decode cX1_addWalker 14 = .ok (.ifCond .ne 5, 3) := by decide +kernel
theorem dX1_addWalker_17 : decode cX1_addWalker 17 = .ok (.iconst 0, 1) := by decide +kernel
theorem dX1_addWalker_18 : decode cX1_addWalker 18 = .ok (.ireturn, 1) := by decide +kernel
theorem dX1_addWalker_19 : decode cX1_addWalker 19 = .ok (.aload_n 0, 1) := by decide +kernel
theorem dX1_addWalker_20 : decode cX1_addWalker 20 = .ok (.aload_n 0, 1) := by decide +kernel
theorem dX1_addWalker_21 : decode cX1_addWalker 21 = .ok (.getfield 52, 3) := by decide +kernel
theorem dX1_addWalker_24 : decode cX1_addWalker 24 = .ok (.iload_n 1, 1) := by decide +kernel
theorem dX1_addWalker_25 : decode cX1_addWalker 25 = .ok (.iload_n 2, 1) := by decide +kernel
theorem dX1_addWalker_26 : decode cX1_addWalker 26 = .ok (.iload_n 3, 1) := by decide +kernel
theorem dX1_addWalker_27 : decode cX1_addWalker 27 = .ok (.invokevirtual 73, 3) := by decide +kernel
theorem dX1_addWalker_30 : decode cX1_addWalker 30 = .ok (.ifCond .ne 5, 3) := by decide +kernel
theorem dX1_addWalker_33 : decode cX1_addWalker 33 = .ok (.iconst 0, 1) := by decide +kernel
theorem dX1_addWalker_34 : decode cX1_addWalker 34 = .ok (.ireturn, 1) := by decide +kernel
theorem dX1_addWalker_35 : decode cX1_addWalker 35 = .ok (.aload_n 0, 1) := by decide +kernel
theorem dX1_addWalker_36 : decode cX1_addWalker 36 = .ok (.getfield 24, 3) := by decide +kernel
theorem dX1_addWalker_39 : decode cX1_addWalker 39 = .ok (.aload_n 0, 1) := by decide +kernel
theorem dX1_addWalker_40 : decode cX1_addWalker 40 = .ok (.getfield 52, 3) := by decide +kernel
theorem dX1_addWalker_43 : decode cX1_addWalker 43 = .ok (.iload 4, 2) := by decide +kernel
theorem dX1_addWalker_45 : decode cX1_addWalker 45 = .ok (.iastore, 1) := by decide +kernel
theorem dX1_addWalker_46 : decode cX1_addWalker 46 = .ok (.aload_n 0, 1) := by decide +kernel
theorem dX1_addWalker_47 : decode cX1_addWalker 47 = .ok (.getfield 27, 3) := by decide +kernel
theorem dX1_addWalker_50 : decode cX1_addWalker 50 = .ok (.aload_n 0, 1) := by decide +kernel
theorem dX1_addWalker_51 : decode cX1_addWalker 51 = .ok (.getfield 52, 3) := by decide +kernel
theorem dX1_addWalker_54 : decode cX1_addWalker 54 = .ok (.iconst 0, 1) := by decide +kernel
theorem dX1_addWalker_55 : decode cX1_addWalker 55 = .ok (.iastore, 1) := by decide +kernel
theorem dX1_addWalker_56 : decode cX1_addWalker 56 = .ok (.aload_n 0, 1) := by decide +kernel
theorem dX1_addWalker_57 : decode cX1_addWalker 57 = .ok (.dup, 1) := by decide +kernel
theorem dX1_addWalker_58 : decode cX1_addWalker 58 = .ok (.getfield 52, 3) := by decide +kernel
theorem dX1_addWalker_61 : decode cX1_addWalker 61 = .ok (.iconst 1, 1) := by decide +kernel
theorem dX1_addWalker_62 : decode cX1_addWalker 62 = .ok (.iadd, 1) := by decide +kernel
theorem dX1_addWalker_63 : decode cX1_addWalker 63 = .ok (.putfield 52, 3) := by decide +kernel
theorem dX1_addWalker_66 : decode cX1_addWalker 66 = .ok (.iconst 1, 1) := by decide +kernel
theorem dX1_addWalker_67 : decode cX1_addWalker 67 = .ok (.ireturn, 1) := by decide +kernel
theorem dX1_setNature_0 : decode cX1_setNature 0 = .ok (.iload_n 1, 1) := by decide +kernel
theorem dX1_setNature_1 : decode cX1_setNature 1 = .ok (.iconst 0, 1) := by decide +kernel
theorem dX1_setNature_2 : decode cX1_setNature 2 = .ok (.iconst 5, 1) := by decide +kernel
theorem dX1_setNature_3 : decode cX1_setNature 3 = .ok (.invokestatic 65, 3) := by decide +kernel
theorem dX1_setNature_6 : decode cX1_setNature 6 = .ok (.ifCond .eq 34, 3) := by decide +kernel
theorem dX1_setNature_9 : decode cX1_setNature 9 = .ok (.iload_n 2, 1) := by decide +kernel
theorem dX1_setNature_10 : decode cX1_setNature 10 = .ok (.iconst 0, 1) := by decide +kernel
theorem dX1_setNature_11 : decode cX1_setNature 11 = .ok (.bipush 7, 2) := by decide +kernel
theorem dX1_setNature_13 : decode cX1_setNature 13 = .ok (.invokestatic 65, 3) := by decide +kernel
theorem dX1_setNature_16 : decode cX1_setNature 16 = .ok (.ifCond .eq 24, 3) := by decide +kernel
theorem dX1_setNature_19 : decode cX1_setNature 19 = .ok (.iload_n 3, 1) := by decide +kernel
theorem dX1_setNature_20 : decode cX1_setNature 20 = .ok (.iconst 0, 1) := by decide +kernel
theorem dX1_setNature_21 : decode cX1_setNature 21 = .ok (.bipush 9, 2) := by decide +kernel
theorem dX1_setNature_23 : decode cX1_setNature 23 = .ok (.invokestatic 65, 3) := by decide +kernel
theorem dX1_setNature_26 : decode cX1_setNature 26 = .ok (.ifCond .eq 14, 3) := by decide +kernel
theorem dX1_setNature_29 : decode cX1_setNature 29 = .ok (.iload 4, 2) := by decide +kernel
theorem dX1_setNature_31 : decode cX1_setNature 31 = .ok (.iconst 0, 1) := by decide +kernel
theorem dX1_setNature_32 : decode cX1_setNature 32 = .ok (.bipush 120, 2) := by decide +kernel
theorem dX1_setNature_34 : decode cX1_setNature 34 = .ok (.invokestatic 65, 3) := by decide +kernel
theorem dX1_setNature_37 : decode cX1_setNature 37 = .ok (.ifCond .ne 5, 3) := by decide +kernel
theorem dX1_setNature_40 : decode cX1_setNature 40 = .ok (.iconst 0, 1) := by decide +kernel
theorem dX1_setNature_41 : decode cX1_setNature 41 = .ok (.ireturn, 1) := by decide +kernel
theorem dX1_setNature_42 : decode cX1_setNature 42 = .ok (.aload_n 0, 1) := by decide +kernel
theorem dX1_setNature_43 : decode cX1_setNature 43 = .ok (.getfield 15, 3) := by decide +kernel
theorem dX1_setNature_46 : decode cX1_setNature 46 = .ok (.iload_n 1, 1) := by decide +kernel
theorem dX1_setNature_47 : decode cX1_setNature 47 = .ok (.iload_n 2, 1) := by decide +kernel
theorem dX1_setNature_48 : decode cX1_setNature 48 = .ok (.iastore, 1) := by decide +kernel
theorem dX1_setNature_49 : decode cX1_setNature 49 = .ok (.aload_n 0, 1) := by decide +kernel
theorem dX1_setNature_50 : decode cX1_setNature 50 = .ok (.getfield 18, 3) := by decide +kernel
theorem dX1_setNature_53 : decode cX1_setNature 53 = .ok (.iload_n 1, 1) := by decide +kernel
theorem dX1_setNature_54 : decode cX1_setNature 54 = .ok (.iload_n 3, 1) := by decide +kernel
theorem dX1_setNature_55 : decode cX1_setNature 55 = .ok (.iastore, 1) := by decide +kernel
theorem dX1_setNature_56 : decode cX1_setNature 56 = .ok (.aload_n 0, 1) := by decide +kernel
theorem dX1_setNature_57 : decode cX1_setNature 57 = .ok (.getfield 21, 3) := by decide +kernel
theorem dX1_setNature_60 : decode cX1_setNature 60 = .ok (.iload_n 1, 1) := by decide +kernel
theorem dX1_setNature_61 : decode cX1_setNature 61 = .ok (.iload 4, 2) := by decide +kernel
theorem dX1_setNature_63 : decode cX1_setNature 63 = .ok (.iastore, 1) := by decide +kernel
theorem dX1_setNature_64 : decode cX1_setNature 64 = .ok (.aload_n 0, 1) := by decide +kernel
theorem dX1_setNature_65 : decode cX1_setNature 65 = .ok (.getfield 30, 3) := by decide +kernel
theorem dX1_setNature_68 : decode cX1_setNature 68 = .ok (.iload_n 1, 1) := by decide +kernel
theorem dX1_setNature_69 : decode cX1_setNature 69 = .ok (.aload_n 0, 1) := by decide +kernel
theorem dX1_setNature_70 : decode cX1_setNature 70 = .ok (.getfield 42, 3) := by decide +kernel
theorem dX1_setNature_73 : decode cX1_setNature 73 = .ok (.iload_n 2, 1) := by decide +kernel
theorem dX1_setNature_74 : decode cX1_setNature 74 = .ok (.aaload, 1) := by decide +kernel
theorem dX1_setNature_75 : decode cX1_setNature 75 = .ok (.iload_n 3, 1) := by decide +kernel
theorem dX1_setNature_76 : decode cX1_setNature 76 = .ok (.iload 4, 2) := by decide +kernel
theorem dX1_setNature_78 : decode cX1_setNature 78 = .ok (.invokevirtual 77, 3) := by decide +kernel
theorem dX1_setNature_81 : decode cX1_setNature 81 = .ok (.iastore, 1) := by decide +kernel
theorem dX1_setNature_82 : decode cX1_setNature 82 = .ok (.aload_n 0, 1) := by decide +kernel
theorem dX1_setNature_83 : decode cX1_setNature 83 = .ok (.getfield 33, 3) := by decide +kernel
theorem dX1_setNature_86 : decode cX1_setNature 86 = .ok (.iload_n 1, 1) := by decide +kernel
theorem dX1_setNature_87 : decode cX1_setNature 87 = .ok (.aload_n 0, 1) := by decide +kernel
theorem dX1_setNature_88 : decode cX1_setNature 88 = .ok (.getfield 42, 3) := by decide +kernel
theorem dX1_setNature_91 : decode cX1_setNature 91 = .ok (.iload_n 2, 1) := by decide +kernel
theorem dX1_setNature_92 : decode cX1_setNature 92 = .ok (.aaload, 1) := by decide +kernel
theorem dX1_setNature_93 : decode cX1_setNature 93 = .ok (.invokevirtual 83, 3) := by decide +kernel
theorem dX1_setNature_96 : decode cX1_setNature 96 = .ok (.iastore, 1) := by decide +kernel
theorem dX1_setNature_97 : decode cX1_setNature 97 = .ok (.aload_n 0, 1) := by decide +kernel
theorem dX1_setNature_98 : decode cX1_setNature 98 = .ok (.getfield 36, 3) := by decide +kernel
theorem dX1_setNature_101 : decode cX1_setNature 101 = .ok (.iload_n 1, 1) := by decide +kernel
theorem dX1_setNature_102 : decode cX1_setNature 102 = .ok (.aload_n 0, 1) := by decide +kernel
theorem dX1_setNature_103 : decode cX1_setNature 103 = .ok (.getfield 42, 3) := by decide +kernel
theorem dX1_setNature_106 : decode cX1_setNature 106 = .ok (.iload_n 2, 1) := by decide +kernel
theorem dX1_setNature_107 : decode cX1_setNature 107 = .ok (.aaload, 1) := by decide +kernel
theorem dX1_setNature_108 : decode cX1_setNature 108 = .ok (.iload_n 3, 1) := by decide +kernel
theorem dX1_setNature_109 : decode cX1_setNature 109 = .ok (.invokevirtual 87, 3) := by decide +kernel
theorem dX1_setNature_112 : decode cX1_setNature 112 = .ok (.iastore, 1) := by decide +kernel
theorem dX1_setNature_113 : decode cX1_setNature 113 = .ok (.iconst 1, 1) := by decide +kernel
theorem dX1_setNature_114 : decode cX1_setNature 114 = .ok (.ireturn, 1) := by decide +kernel
theorem dX1_setPlace_0 : decode cX1_setPlace 0 = .ok (.aload_n 0, 1) := by decide +kernel
theorem dX1_setPlace_1 : decode cX1_setPlace 1 = .ok (.iload_n 1, 1) := by decide +kernel
theorem dX1_setPlace_2 : decode cX1_setPlace 2 = .ok (.invokevirtual 91, 3) := by decide +kernel
theorem dX1_setPlace_5 : decode cX1_setPlace 5 = .ok (.ifCond .eq 10, 3) := by decide +kernel
theorem dX1_setPlace_8 : decode cX1_setPlace 8 = .ok (.iload_n 2, 1) := by decide +kernel
theorem dX1_setPlace_9 : decode cX1_setPlace 9 = .ok (.invokestatic 69, 3) := by decide +kernel
theorem dX1_setPlace_12 : decode cX1_setPlace 12 = .ok (.ifCond .ne 5, 3) := by decide +kernel
theorem dX1_setPlace_15 : decode cX1_setPlace 15 = .ok (.iconst 0, 1) := by decide +kernel
theorem dX1_setPlace_16 : decode cX1_setPlace 16 = .ok (.ireturn, 1) := by decide +kernel
theorem dX1_setPlace_17 : decode cX1_setPlace 17 = .ok (.aload_n 0, 1) := by decide +kernel
theorem dX1_setPlace_18 : decode cX1_setPlace 18 = .ok (.getfield 24, 3) := by decide +kernel
theorem dX1_setPlace_21 : decode cX1_setPlace 21 = .ok (.iload_n 1, 1) := by decide +kernel
theorem dX1_setPlace_22 : decode cX1_setPlace 22 = .ok (.iload_n 2, 1) := by decide +kernel
theorem dX1_setPlace_23 : decode cX1_setPlace 23 = .ok (.iastore, 1) := by decide +kernel
theorem dX1_setPlace_24 : decode cX1_setPlace 24 = .ok (.iconst 1, 1) := by decide +kernel
theorem dX1_setPlace_25 : decode cX1_setPlace 25 = .ok (.ireturn, 1) := by decide +kernel
theorem dX1_setWay_0 : decode cX1_setWay 0 = .ok (.aload_n 0, 1) := by decide +kernel
theorem dX1_setWay_1 : decode cX1_setWay 1 = .ok (.iload_n 1, 1) := by decide +kernel
theorem dX1_setWay_2 : decode cX1_setWay 2 = .ok (.invokevirtual 91, 3) := by decide +kernel
theorem dX1_setWay_5 : decode cX1_setWay 5 = .ok (.ifCond .eq 12, 3) := by decide +kernel
theorem dX1_setWay_8 : decode cX1_setWay 8 = .ok (.iload_n 2, 1) := by decide +kernel
theorem dX1_setWay_9 : decode cX1_setWay 9 = .ok (.iconst 0, 1) := by decide +kernel
theorem dX1_setWay_10 : decode cX1_setWay 10 = .ok (.iconst 2, 1) := by decide +kernel
theorem dX1_setWay_11 : decode cX1_setWay 11 = .ok (.invokestatic 65, 3) := by decide +kernel
theorem dX1_setWay_14 : decode cX1_setWay 14 = .ok (.ifCond .ne 5, 3) := by decide +kernel
theorem dX1_setWay_17 : decode cX1_setWay 17 = .ok (.iconst 0, 1) := by decide +kernel
theorem dX1_setWay_18 : decode cX1_setWay 18 = .ok (.ireturn, 1) := by decide +kernel
theorem dX1_setWay_19 : decode cX1_setWay 19 = .ok (.aload_n 0, 1) := by decide +kernel
theorem dX1_setWay_20 : decode cX1_setWay 20 = .ok (.getfield 27, 3) := by decide +kernel
theorem dX1_setWay_23 : decode cX1_setWay 23 = .ok (.iload_n 1, 1) := by decide +kernel
theorem dX1_setWay_24 : decode cX1_setWay 24 = .ok (.iload_n 2, 1) := by decide +kernel
theorem dX1_setWay_25 : decode cX1_setWay 25 = .ok (.iconst 1, 1) := by decide +kernel
theorem dX1_setWay_26 : decode cX1_setWay 26 = .ok (.if_icmp .ne 7, 3) := by decide +kernel
theorem dX1_setWay_29 : decode cX1_setWay 29 = .ok (.iconst (-1), 1) := by decide +kernel
theorem dX1_setWay_30 : decode cX1_setWay 30 = .ok (.goto 6, 3) := by decide +kernel
theorem dX1_setWay_33 : decode cX1_setWay 33 = .ok (.iload_n 2, 1) := by decide +kernel
theorem dX1_setWay_34 : decode cX1_setWay 34 = .ok (.iconst 2, 1) := by decide +kernel
theorem dX1_setWay_35 : decode cX1_setWay 35 = .ok (.idiv, 1) := by decide +kernel
theorem dX1_setWay_36 : decode cX1_setWay 36 = .ok (.iastore, 1) := by decide +kernel
theorem dX1_setWay_37 : decode cX1_setWay 37 = .ok (.iconst 1, 1) := by decide +kernel
theorem dX1_setWay_38 : decode cX1_setWay 38 = .ok (.ireturn, 1) := by decide +kernel
theorem dX1_passDaysAsTold_0 : decode cX1_passDaysAsTold 0 = .ok (.iload_n 1, 1) := by decide +kernel
theorem dX1_passDaysAsTold_1 : decode cX1_passDaysAsTold 1 = .ok (.iconst 1, 1) := by decide +kernel
theorem dX1_passDaysAsTold_2 : decode cX1_passDaysAsTold 2 = .ok (.bipush 60, 2) := by decide +kernel
theorem dX1_passDaysAsTold_4 : decode cX1_passDaysAsTold 4 = .ok (.invokestatic 65, 3) := by decide +kernel
theorem dX1_passDaysAsTold_7 : decode cX1_passDaysAsTold 7 = .ok (.ifCond .eq 15, 3) := by decide +kernel
theorem dX1_passDaysAsTold_10 : decode cX1_passDaysAsTold 10 = .ok (.aload_n 0, 1) := by decide +kernel
theorem dX1_passDaysAsTold_11 : decode cX1_passDaysAsTold 11 = .ok (.getfield 56, 3) := by decide +kernel
theorem dX1_passDaysAsTold_14 : decode cX1_passDaysAsTold 14 = .ok (.iload_n 1, 1) := by decide +kernel
theorem dX1_passDaysAsTold_15 : decode cX1_passDaysAsTold 15 = .ok (.iadd, 1) := by decide +kernel
theorem dX1_passDaysAsTold_16 : decode cX1_passDaysAsTold 16 = .ok (.sipush 999, 3) := by decide +kernel
theorem dX1_passDaysAsTold_19 : decode cX1_passDaysAsTold 19 = .ok (.if_icmp .le 5, 3) := by decide +kernel
theorem dX1_passDaysAsTold_22 : decode cX1_passDaysAsTold 22 = .ok (.iconst 0, 1) := by decide +kernel
theorem dX1_passDaysAsTold_23 : decode cX1_passDaysAsTold 23 = .ok (.ireturn, 1) := by decide +kernel
theorem dX1_passDaysAsTold_24 : decode cX1_passDaysAsTold 24 = .ok (.aload_n 0, 1) := by decide +kernel
theorem dX1_passDaysAsTold_25 : decode cX1_passDaysAsTold 25 = .ok (.iload_n 1, 1) := by decide +kernel
theorem dX1_passDaysAsTold_26 : decode cX1_passDaysAsTold 26 = .ok (.invokevirtual 94, 3) := by decide +kernel
theorem dX1_passDaysAsTold_29 : decode cX1_passDaysAsTold 29 = .ok (.iconst 1, 1) := by decide +kernel
theorem dX1_passDaysAsTold_30 : decode cX1_passDaysAsTold 30 = .ok (.ireturn, 1) := by decide +kernel
theorem dX1_passDays_0 : decode cX1_passDays 0 = .ok (.iconst 0, 1) := by decide +kernel
theorem dX1_passDays_1 : decode cX1_passDays 1 = .ok (.istore_n 2, 1) := by decide +kernel
theorem dX1_passDays_2 : decode cX1_passDays 2 = .ok (.iload_n 2, 1) := by decide +kernel
theorem dX1_passDays_3 : decode cX1_passDays 3 = .ok (.iload_n 1, 1) := by decide +kernel
theorem dX1_passDays_4 : decode cX1_passDays 4 = .ok (.if_icmp .ge 14, 3) := by decide +kernel
theorem dX1_passDays_7 : decode cX1_passDays 7 = .ok (.aload_n 0, 1) := by decide +kernel
theorem dX1_passDays_8 : decode cX1_passDays 8 = .ok (.invokevirtual 98, 3) := by decide +kernel
theorem dX1_passDays_11 : decode cX1_passDays 11 = .ok (.pop, 1) := by decide +kernel
theorem dX1_passDays_12 : decode cX1_passDays 12 = .ok (.iinc 2 1, 3) := by decide +kernel
theorem dX1_passDays_15 : decode cX1_passDays 15 = .ok (.goto (-13), 3) := by decide +kernel
theorem dX1_passDays_18 : decode cX1_passDays 18 = .ok (.return_, 1) := by decide +kernel
theorem dX1_passDay_0 : decode cX1_passDay 0 = .ok (.aload_n 0, 1) := by decide +kernel
theorem dX1_passDay_1 : decode cX1_passDay 1 = .ok (.dup, 1) := by decide +kernel
theorem dX1_passDay_2 : decode cX1_passDay 2 = .ok (.getfield 56, 3) := by decide +kernel
theorem dX1_passDay_5 : decode cX1_passDay 5 = .ok (.iconst 1, 1) := by decide +kernel
theorem dX1_passDay_6 : decode cX1_passDay 6 = .ok (.iadd, 1) := by decide +kernel
theorem dX1_passDay_7 : decode cX1_passDay 7 = .ok (.putfield 56, 3) := by decide +kernel
theorem dX1_passDay_10 : decode cX1_passDay 10 = .ok (.iconst 0, 1) := by decide +kernel
theorem dX1_passDay_11 : decode cX1_passDay 11 = .ok (.istore_n 1, 1) := by decide +kernel
theorem dX1_passDay_12 : decode cX1_passDay 12 = .ok (.iconst 0, 1) := by decide +kernel
theorem dX1_passDay_13 : decode cX1_passDay 13 = .ok (.istore_n 2, 1) := by decide +kernel
theorem dX1_passDay_14 : decode cX1_passDay 14 = .ok (.iload_n 2, 1) := by decide +kernel
theorem dX1_passDay_15 : decode cX1_passDay 15 = .ok (.aload_n 0, 1) := by decide +kernel
theorem dX1_passDay_16 : decode cX1_passDay 16 = .ok (.getfield 52, 3) := by decide +kernel
theorem dX1_passDay_19 : decode cX1_passDay 19 = .ok (.if_icmp .ge 75, 3) := by decide +kernel
theorem dX1_passDay_22 : decode cX1_passDay 22 = .ok (.aload_n 0, 1) := by decide +kernel
theorem dX1_passDay_23 : decode cX1_passDay 23 = .ok (.getfield 24, 3) := by decide +kernel
theorem dX1_passDay_26 : decode cX1_passDay 26 = .ok (.iload_n 2, 1) := by decide +kernel
theorem dX1_passDay_27 : decode cX1_passDay 27 = .ok (.iaload, 1) := by decide +kernel
theorem dX1_passDay_28 : decode cX1_passDay 28 = .ok (.aload_n 0, 1) := by decide +kernel
theorem dX1_passDay_29 : decode cX1_passDay 29 = .ok (.getfield 27, 3) := by decide +kernel
theorem dX1_passDay_32 : decode cX1_passDay 32 = .ok (.iload_n 2, 1) := by decide +kernel
theorem dX1_passDay_33 : decode cX1_passDay 33 = .ok (.iaload, 1) := by decide +kernel
theorem dX1_passDay_34 : decode cX1_passDay 34 = .ok (.iadd, 1) := by decide +kernel
theorem dX1_passDay_35 : decode cX1_passDay 35 = .ok (.invokestatic 69, 3) := by decide +kernel
theorem dX1_passDay_38 : decode cX1_passDay 38 = .ok (.ifCond .ne 10, 3) := by decide +kernel
theorem dX1_passDay_41 : decode cX1_passDay 41 = .ok (.aload_n 0, 1) := by decide +kernel
theorem dX1_passDay_42 : decode cX1_passDay 42 = .ok (.getfield 27, 3) := by decide +kernel
theorem dX1_passDay_45 : decode cX1_passDay 45 = .ok (.iload_n 2, 1) := by decide +kernel
theorem dX1_passDay_46 : decode cX1_passDay 46 = .ok (.iconst 0, 1) := by decide +kernel
theorem dX1_passDay_47 : decode cX1_passDay 47 = .ok (.iastore, 1) := by decide +kernel
theorem dX1_passDay_48 : decode cX1_passDay 48 = .ok (.aload_n 0, 1) := by decide +kernel
theorem dX1_passDay_49 : decode cX1_passDay 49 = .ok (.getfield 27, 3) := by decide +kernel
theorem dX1_passDay_52 : decode cX1_passDay 52 = .ok (.iload_n 2, 1) := by decide +kernel
theorem dX1_passDay_53 : decode cX1_passDay 53 = .ok (.iaload, 1) := by decide +kernel
theorem dX1_passDay_54 : decode cX1_passDay 54 = .ok (.ifCond .eq 34, 3) := by decide +kernel
theorem dX1_passDay_57 : decode cX1_passDay 57 = .ok (.aload_n 0, 1) := by decide +kernel
theorem dX1_passDay_58 : decode cX1_passDay 58 = .ok (.iload_n 2, 1) := by decide +kernel
theorem dX1_passDay_59 : decode cX1_passDay 59 = .ok (.aload_n 0, 1) := by decide +kernel
theorem dX1_passDay_60 : decode cX1_passDay 60 = .ok (.getfield 27, 3) := by decide +kernel
theorem dX1_passDay_63 : decode cX1_passDay 63 = .ok (.iload_n 2, 1) := by decide +kernel
theorem dX1_passDay_64 : decode cX1_passDay 64 = .ok (.iaload, 1) := by decide +kernel
theorem dX1_passDay_65 : decode cX1_passDay 65 = .ok (.invokevirtual 102, 3) := by decide +kernel
theorem dX1_passDay_68 : decode cX1_passDay 68 = .ok (.ifCond .eq 20, 3) := by decide +kernel
theorem dX1_passDay_71 : decode cX1_passDay 71 = .ok (.aload_n 0, 1) := by decide +kernel
theorem dX1_passDay_72 : decode cX1_passDay 72 = .ok (.getfield 24, 3) := by decide +kernel
theorem dX1_passDay_75 : decode cX1_passDay 75 = .ok (.iload_n 2, 1) := by decide +kernel
theorem dX1_passDay_76 : decode cX1_passDay 76 = .ok (.dup2, 1) := by decide +kernel
theorem dX1_passDay_77 : decode cX1_passDay 77 = .ok (.iaload, 1) := by decide +kernel
theorem dX1_passDay_78 : decode cX1_passDay 78 = .ok (.aload_n 0, 1) := by decide +kernel
theorem dX1_passDay_79 : decode cX1_passDay 79 = .ok (.getfield 27, 3) := by decide +kernel
theorem dX1_passDay_82 : decode cX1_passDay 82 = .ok (.iload_n 2, 1) := by decide +kernel
theorem dX1_passDay_83 : decode cX1_passDay 83 = .ok (.iaload, 1) := by decide +kernel
theorem dX1_passDay_84 : decode cX1_passDay 84 = .ok (.iadd, 1) := by decide +kernel
theorem dX1_passDay_85 : decode cX1_passDay 85 = .ok (.iastore, 1) := by decide +kernel
theorem dX1_passDay_86 : decode cX1_passDay 86 = .ok (.iconst 1, 1) := by decide +kernel
theorem dX1_passDay_87 : decode cX1_passDay 87 = .ok (.istore_n 1, 1) := by decide +kernel
theorem dX1_passDay_88 : decode cX1_passDay 88 = .ok (.iinc 2 1, 3) := by decide +kernel
theorem dX1_passDay_91 : decode cX1_passDay 91 = .ok (.goto (-77), 3) := by decide +kernel
theorem dX1_passDay_94 : decode cX1_passDay 94 = .ok (.iload_n 1, 1) := by decide +kernel
theorem dX1_passDay_95 : decode cX1_passDay 95 = .ok (.ireturn, 1) := by decide +kernel
theorem dX1_mayGo_0 : decode cX1_mayGo 0 = .ok (.aload_n 0, 1) := by decide +kernel
theorem dX1_mayGo_1 : decode cX1_mayGo 1 = .ok (.getfield 24, 3) := by decide +kernel
theorem dX1_mayGo_4 : decode cX1_mayGo 4 = .ok (.iload_n 1, 1) := by decide +kernel
theorem dX1_mayGo_5 : decode cX1_mayGo 5 = .ok (.iaload, 1) := by decide +kernel
theorem dX1_mayGo_6 : decode cX1_mayGo 6 = .ok (.iload_n 2, 1) := by decide +kernel
theorem dX1_mayGo_7 : decode cX1_mayGo 7 = .ok (.iadd, 1) := by decide +kernel
theorem dX1_mayGo_8 : decode cX1_mayGo 8 = .ok (.istore_n 3, 1) := by decide +kernel
theorem dX1_mayGo_9 : decode cX1_mayGo 9 = .ok (.iload_n 3, 1) := by decide +kernel
theorem dX1_mayGo_10 : decode cX1_mayGo 10 = .ok (.invokestatic 69, 3) := by decide +kernel
theorem dX1_mayGo_13 : decode cX1_mayGo 13 = .ok (.ifCond .eq 32, 3) := by decide +kernel
theorem dX1_mayGo_16 : decode cX1_mayGo 16 = .ok (.aload_n 0, 1) := by decide +kernel
theorem dX1_mayGo_17 : decode cX1_mayGo 17 = .ok (.iload_n 3, 1) := by decide +kernel
theorem dX1_mayGo_18 : decode cX1_mayGo 18 = .ok (.invokevirtual 106, 3) := by decide +kernel
theorem dX1_mayGo_21 : decode cX1_mayGo 21 = .ok (.aload_n 0, 1) := by decide +kernel
theorem dX1_mayGo_22 : decode cX1_mayGo 22 = .ok (.aload_n 0, 1) := by decide +kernel
theorem dX1_mayGo_23 : decode cX1_mayGo 23 = .ok (.getfield 24, 3) := by decide +kernel
theorem dX1_mayGo_26 : decode cX1_mayGo 26 = .ok (.iload_n 1, 1) := by decide +kernel
theorem dX1_mayGo_27 : decode cX1_mayGo 27 = .ok (.iaload, 1) := by decide +kernel
theorem dX1_mayGo_28 : decode cX1_mayGo 28 = .ok (.invokevirtual 106, 3) := by decide +kernel
theorem dX1_mayGo_31 : decode cX1_mayGo 31 = .ok (.isub, 1) := by decide +kernel
theorem dX1_mayGo_32 : decode cX1_mayGo 32 = .ok (.aload_n 0, 1) := by decide +kernel
theorem dX1_mayGo_33 : decode cX1_mayGo 33 = .ok (.getfield 36, 3) := by decide +kernel
theorem dX1_mayGo_36 : decode cX1_mayGo 36 = .ok (.iload_n 1, 1) := by decide +kernel
theorem dX1_mayGo_37 : decode cX1_mayGo 37 = .ok (.iaload, 1) := by decide +kernel
theorem dX1_mayGo_38 : decode cX1_mayGo 38 = .ok (.if_icmp .gt 7, 3) := by decide +kernel
theorem dX1_mayGo_41 : decode cX1_mayGo 41 = .ok (.iconst 1, 1) := by decide +kernel
theorem dX1_mayGo_42 : decode cX1_mayGo 42 = .ok (.goto 4, 3) := by decide +kernel
theorem dX1_mayGo_45 : decode cX1_mayGo 45 = .ok (.iconst 0, 1) := by decide +kernel
theorem dX1_mayGo_46 : decode cX1_mayGo 46 = .ok (.ireturn, 1) := by decide +kernel
theorem dX1_shownAge_0 : decode cX1_shownAge 0 = .ok (.aload_n 0, 1) := by decide +kernel
theorem dX1_shownAge_1 : decode cX1_shownAge 1 = .ok (.getfield 42, 3) := by decide +kernel
theorem dX1_shownAge_4 : decode cX1_shownAge 4 = .ok (.aload_n 0, 1) := by decide +kernel
theorem dX1_shownAge_5 : decode cX1_shownAge 5 = .ok (.getfield 15, 3) := by decide +kernel
theorem dX1_shownAge_8 : decode cX1_shownAge 8 = .ok (.iload_n 1, 1) := by decide +kernel
theorem dX1_shownAge_9 : decode cX1_shownAge 9 = .ok (.iaload, 1) := by decide +kernel
theorem dX1_shownAge_10 : decode cX1_shownAge 10 = .ok (.aaload, 1) := by decide +kernel
theorem dX1_shownAge_11 : decode cX1_shownAge 11 = .ok (.aload_n 0, 1) := by decide +kernel
theorem dX1_shownAge_12 : decode cX1_shownAge 12 = .ok (.getfield 18, 3) := by decide +kernel
theorem dX1_shownAge_15 : decode cX1_shownAge 15 = .ok (.iload_n 1, 1) := by decide +kernel
theorem dX1_shownAge_16 : decode cX1_shownAge 16 = .ok (.iaload, 1) := by decide +kernel
theorem dX1_shownAge_17 : decode cX1_shownAge 17 = .ok (.aload_n 0, 1) := by decide +kernel
theorem dX1_shownAge_18 : decode cX1_shownAge 18 = .ok (.getfield 21, 3) := by decide +kernel
theorem dX1_shownAge_21 : decode cX1_shownAge 21 = .ok (.iload_n 1, 1) := by decide +kernel
theorem dX1_shownAge_22 : decode cX1_shownAge 22 = .ok (.iaload, 1) := by decide +kernel
theorem dX1_shownAge_23 : decode cX1_shownAge 23 = .ok (.invokevirtual 109, 3) := by decide +kernel
theorem dX1_shownAge_26 : decode cX1_shownAge 26 = .ok (.ireturn, 1) := by decide +kernel
theorem dX1_payOf_0 : decode cX1_payOf 0 = .ok (.iconst 0, 1) := by decide +kernel
theorem dX1_payOf_1 : decode cX1_payOf 1 = .ok (.istore_n 2, 1) := by decide +kernel
theorem dX1_payOf_2 : decode cX1_payOf 2 = .ok (.iconst 0, 1) := by decide +kernel
theorem dX1_payOf_3 : decode cX1_payOf 3 = .ok (.istore_n 3, 1) := by decide +kernel
theorem dX1_payOf_4 : decode cX1_payOf 4 = .ok (.iload_n 3, 1) := by decide +kernel
theorem dX1_payOf_5 : decode cX1_payOf 5 = .ok (.aload_n 0, 1) := by decide +kernel
theorem dX1_payOf_6 : decode cX1_payOf 6 = .ok (.getfield 52, 3) := by decide +kernel
theorem dX1_payOf_9 : decode cX1_payOf 9 = .ok (.if_icmp .ge 30, 3) := by decide +kernel
theorem dX1_payOf_12 : decode cX1_payOf 12 = .ok (.iload_n 1, 1) := by decide +kernel
theorem dX1_payOf_13 : decode cX1_payOf 13 = .ok (.iload_n 3, 1) := by decide +kernel
theorem dX1_payOf_14 : decode cX1_payOf 14 = .ok (.invokestatic 112, 3) := by decide +kernel
theorem dX1_payOf_17 : decode cX1_payOf 17 = .ok (.ifCond .eq 16, 3) := by decide +kernel
theorem dX1_payOf_20 : decode cX1_payOf 20 = .ok (.iload_n 2, 1) := by decide +kernel
theorem dX1_payOf_21 : decode cX1_payOf 21 = .ok (.aload_n 0, 1) := by decide +kernel
theorem dX1_payOf_22 : decode cX1_payOf 22 = .ok (.iload_n 3, 1) := by decide +kernel
theorem dX1_payOf_23 : decode cX1_payOf 23 = .ok (.invokevirtual 115, 3) := by decide +kernel
theorem dX1_payOf_26 : decode cX1_payOf 26 = .ok (.bipush 10, 2) := by decide +kernel
theorem dX1_payOf_28 : decode cX1_payOf 28 = .ok (.idiv, 1) := by decide +kernel
theorem dX1_payOf_29 : decode cX1_payOf 29 = .ok (.iconst 1, 1) := by decide +kernel
theorem dX1_payOf_30 : decode cX1_payOf 30 = .ok (.iadd, 1) := by decide +kernel
theorem dX1_payOf_31 : decode cX1_payOf 31 = .ok (.iadd, 1) := by decide +kernel
theorem dX1_payOf_32 : decode cX1_payOf 32 = .ok (.istore_n 2, 1) := by decide +kernel
theorem dX1_payOf_33 : decode cX1_payOf 33 = .ok (.iinc 3 1, 3) := by decide +kernel
theorem dX1_payOf_36 : decode cX1_payOf 36 = .ok (.goto (-32), 3) := by decide +kernel
theorem dX1_payOf_39 : decode cX1_payOf 39 = .ok (.iload_n 2, 1) := by decide +kernel
theorem dX1_payOf_40 : decode cX1_payOf 40 = .ok (.ireturn, 1) := by decide +kernel
theorem dX1_sendAway_0 : decode cX1_sendAway 0 = .ok (.aload_n 0, 1) := by decide +kernel
theorem dX1_sendAway_1 : decode cX1_sendAway 1 = .ok (.getfield 30, 3) := by decide +kernel
theorem dX1_sendAway_4 : decode cX1_sendAway 4 = .ok (.iload_n 1, 1) := by decide +kernel
theorem dX1_sendAway_5 : decode cX1_sendAway 5 = .ok (.iconst 0, 1) := by decide +kernel
theorem dX1_sendAway_6 : decode cX1_sendAway 6 = .ok (.iastore, 1) := by decide +kernel
theorem dX1_sendAway_7 : decode cX1_sendAway 7 = .ok (.return_, 1) := by decide +kernel
theorem dX1_level_0 : decode cX1_level 0 = .ok (.aload_n 0, 1) := by decide +kernel
theorem dX1_level_1 : decode cX1_level 1 = .ok (.getfield 9, 3) := by decide +kernel
theorem dX1_level_4 : decode cX1_level 4 = .ok (.iload_n 1, 1) := by decide +kernel
theorem dX1_level_5 : decode cX1_level 5 = .ok (.iaload, 1) := by decide +kernel
theorem dX1_level_6 : decode cX1_level 6 = .ok (.istore_n 2, 1) := by decide +kernel
theorem dX1_level_7 : decode cX1_level 7 = .ok (.iconst 0, 1) := by decide +kernel
theorem dX1_level_8 : decode cX1_level 8 = .ok (.istore_n 3, 1) := by decide +kernel
theorem dX1_level_9 : decode cX1_level 9 = .ok (.iload_n 3, 1) := by decide +kernel
theorem dX1_level_10 : decode cX1_level 10 = .ok (.aload_n 0, 1) := by decide +kernel
theorem dX1_level_11 : decode cX1_level 11 = .ok (.getfield 52, 3) := by decide +kernel
theorem dX1_level_14 : decode cX1_level 14 = .ok (.if_icmp .ge 74, 3) := by decide +kernel
theorem dX1_level_17 : decode cX1_level 17 = .ok (.aload_n 0, 1) := by decide +kernel
theorem dX1_level_18 : decode cX1_level 18 = .ok (.getfield 24, 3) := by decide +kernel
theorem dX1_level_21 : decode cX1_level 21 = .ok (.iload_n 3, 1) := by decide +kernel
theorem dX1_level_22 : decode cX1_level 22 = .ok (.iaload, 1) := by decide +kernel
theorem dX1_level_23 : decode cX1_level 23 = .ok (.iload_n 1, 1) := by decide +kernel
theorem dX1_level_24 : decode cX1_level 24 = .ok (.if_icmp .ge 14, 3) := by decide +kernel
theorem dX1_level_27 : decode cX1_level 27 = .ok (.iload_n 1, 1) := by decide +kernel
theorem dX1_level_28 : decode cX1_level 28 = .ok (.aload_n 0, 1) := by decide +kernel
theorem dX1_level_29 : decode cX1_level 29 = .ok (.getfield 24, 3) := by decide +kernel
theorem dX1_level_32 : decode cX1_level 32 = .ok (.iload_n 3, 1) := by decide +kernel
theorem dX1_level_33 : decode cX1_level 33 = .ok (.iaload, 1) := by decide +kernel
theorem dX1_level_34 : decode cX1_level 34 = .ok (.isub, 1) := by decide +kernel
theorem dX1_level_35 : decode cX1_level 35 = .ok (.goto 11, 3) := by decide +kernel
theorem dX1_level_38 : decode cX1_level 38 = .ok (.aload_n 0, 1) := by decide +kernel
theorem dX1_level_39 : decode cX1_level 39 = .ok (.getfield 24, 3) := by decide +kernel
theorem dX1_level_42 : decode cX1_level 42 = .ok (.iload_n 3, 1) := by decide +kernel
theorem dX1_level_43 : decode cX1_level 43 = .ok (.iaload, 1) := by decide +kernel
theorem dX1_level_44 : decode cX1_level 44 = .ok (.iload_n 1, 1) := by decide +kernel
theorem dX1_level_45 : decode cX1_level 45 = .ok (.isub, 1) := by decide +kernel
theorem dX1_level_46 : decode cX1_level 46 = .ok (.istore 4, 2) := by decide +kernel
theorem dX1_level_48 : decode cX1_level 48 = .ok (.iload 4, 2) := by decide +kernel
theorem dX1_level_50 : decode cX1_level 50 = .ok (.aload_n 0, 1) := by decide +kernel
theorem dX1_level_51 : decode cX1_level 51 = .ok (.getfield 33, 3) := by decide +kernel
theorem dX1_level_54 : decode cX1_level 54 = .ok (.iload_n 3, 1) := by decide +kernel
theorem dX1_level_55 : decode cX1_level 55 = .ok (.iaload, 1) := by decide +kernel
theorem dX1_level_56 : decode cX1_level 56 = .ok (.if_icmp .gt 26, 3) := by decide +kernel
theorem dX1_level_59 : decode cX1_level 59 = .ok (.iload 4, 2) := by decide +kernel
theorem dX1_level_61 : decode cX1_level 61 = .ok (.aload_n 0, 1) := by decide +kernel
theorem dX1_level_62 : decode cX1_level 62 = .ok (.getfield 30, 3) := by decide +kernel
theorem dX1_level_65 : decode cX1_level 65 = .ok (.iload_n 3, 1) := by decide +kernel
theorem dX1_level_66 : decode cX1_level 66 = .ok (.iaload, 1) := by decide +kernel
theorem dX1_level_67 : decode cX1_level 67 = .ok (.if_icmp .ge 15, 3) := by decide +kernel
theorem dX1_level_70 : decode cX1_level 70 = .ok (.iload_n 2, 1) := by decide +kernel
theorem dX1_level_71 : decode cX1_level 71 = .ok (.aload_n 0, 1) := by decide +kernel
theorem dX1_level_72 : decode cX1_level 72 = .ok (.getfield 30, 3) := by decide +kernel
theorem dX1_level_75 : decode cX1_level 75 = .ok (.iload_n 3, 1) := by decide +kernel
theorem dX1_level_76 : decode cX1_level 76 = .ok (.iaload, 1) := by decide +kernel
theorem dX1_level_77 : decode cX1_level 77 = .ok (.iload 4, 2) := by decide +kernel
theorem dX1_level_79 : decode cX1_level 79 = .ok (.isub, 1) := by decide +kernel
theorem dX1_level_80 : decode cX1_level 80 = .ok (.isub, 1) := by decide +kernel
theorem dX1_level_81 : decode cX1_level 81 = .ok (.istore_n 2, 1) := by decide +kernel
theorem dX1_level_82 : decode cX1_level 82 = .ok (.iinc 3 1, 3) := by decide +kernel
theorem dX1_level_85 : decode cX1_level 85 = .ok (.goto (-76), 3) := by decide +kernel
theorem dX1_level_88 : decode cX1_level 88 = .ok (.iload_n 2, 1) := by decide +kernel
theorem dX1_level_89 : decode cX1_level 89 = .ok (.ifCond .ge 7, 3) := by decide +kernel
theorem dX1_level_92 : decode cX1_level 92 = .ok (.iconst 0, 1) := by decide +kernel
theorem dX1_level_93 : decode cX1_level 93 = .ok (.goto 4, 3) := by decide +kernel
theorem dX1_level_96 : decode cX1_level 96 = .ok (.iload_n 2, 1) := by decide +kernel
theorem dX1_level_97 : decode cX1_level 97 = .ok (.ireturn, 1) := by decide +kernel
theorem dX1_riseFrom_0 : decode cX1_riseFrom 0 = .ok (.aload_n 0, 1) := by decide +kernel
theorem dX1_riseFrom_1 : decode cX1_riseFrom 1 = .ok (.iload_n 1, 1) := by decide +kernel
theorem dX1_riseFrom_2 : decode cX1_riseFrom 2 = .ok (.iconst 1, 1) := by decide +kernel
theorem dX1_riseFrom_3 : decode cX1_riseFrom 3 = .ok (.iadd, 1) := by decide +kernel
theorem dX1_riseFrom_4 : decode cX1_riseFrom 4 = .ok (.invokevirtual 106, 3) := by decide +kernel
theorem dX1_riseFrom_7 : decode cX1_riseFrom 7 = .ok (.aload_n 0, 1) := by decide +kernel
theorem dX1_riseFrom_8 : decode cX1_riseFrom 8 = .ok (.iload_n 1, 1) := by decide +kernel
theorem dX1_riseFrom_9 : decode cX1_riseFrom 9 = .ok (.invokevirtual 106, 3) := by decide +kernel
theorem dX1_riseFrom_12 : decode cX1_riseFrom 12 = .ok (.isub, 1) := by decide +kernel
theorem dX1_riseFrom_13 : decode cX1_riseFrom 13 = .ok (.ireturn, 1) := by decide +kernel
theorem dX1_steepness_0 : decode cX1_steepness 0 = .ok (.aload_n 0, 1) := by decide +kernel
theorem dX1_steepness_1 : decode cX1_steepness 1 = .ok (.iload_n 1, 1) := by decide +kernel
theorem dX1_steepness_2 : decode cX1_steepness 2 = .ok (.invokevirtual 118, 3) := by decide +kernel
theorem dX1_steepness_5 : decode cX1_steepness 5 = .ok (.invokestatic 121, 3) := by decide +kernel
theorem dX1_steepness_8 : decode cX1_steepness 8 = .ok (.ireturn, 1) := by decide +kernel
theorem dX1_steepestCell_0 : decode cX1_steepestCell 0 = .ok (.iconst 0, 1) := by decide +kernel
theorem dX1_steepestCell_1 : decode cX1_steepestCell 1 = .ok (.istore_n 1, 1) := by decide +kernel
theorem dX1_steepestCell_2 : decode cX1_steepestCell 2 = .ok (.aload_n 0, 1) := by decide +kernel
theorem dX1_steepestCell_3 : decode cX1_steepestCell 3 = .ok (.iconst 0, 1) := by decide +kernel
theorem dX1_steepestCell_4 : decode cX1_steepestCell 4 = .ok (.invokevirtual 126, 3) := by decide +kernel
theorem dX1_steepestCell_7 : decode cX1_steepestCell 7 = .ok (.istore_n 2, 1) := by decide +kernel
theorem dX1_steepestCell_8 : decode cX1_steepestCell 8 = .ok (.iconst 1, 1) := by decide +kernel
theorem dX1_steepestCell_9 : decode cX1_steepestCell 9 = .ok (.istore_n 3, 1) := by decide +kernel
theorem dX1_steepestCell_10 : decode cX1_steepestCell 10 = .ok (.iload_n 3, 1) := by decide +kernel
theorem dX1_steepestCell_11 : decode cX1_steepestCell 11 = .ok (.bipush 14, 2) := by decide +kernel
theorem dX1_steepestCell_13 : decode cX1_steepestCell 13 = .ok (.if_icmp .ge 27, 3) := by decide +kernel
theorem dX1_steepestCell_16 : decode cX1_steepestCell 16 = .ok (.aload_n 0, 1) := by decide +kernel
theorem dX1_steepestCell_17 : decode cX1_steepestCell 17 = .ok (.iload_n 3, 1) := by decide +kernel
theorem dX1_steepestCell_18 : decode cX1_steepestCell 18 = .ok (.invokevirtual 126, 3) := by decide +kernel
theorem dX1_steepestCell_21 : decode cX1_steepestCell 21 = .ok (.istore 4, 2) := by decide +kernel
theorem dX1_steepestCell_23 : decode cX1_steepestCell 23 = .ok (.iload 4, 2) := by decide +kernel
theorem dX1_steepestCell_25 : decode cX1_steepestCell 25 = .ok (.iload_n 2, 1) := by decide +kernel
theorem dX1_steepestCell_26 : decode cX1_steepestCell 26 = .ok (.if_icmp .le 8, 3) := by decide +kernel
theorem dX1_steepestCell_29 : decode cX1_steepestCell 29 = .ok (.iload 4, 2) := by decide +kernel
theorem dX1_steepestCell_31 : decode cX1_steepestCell 31 = .ok (.istore_n 2, 1) := by decide +kernel
theorem dX1_steepestCell_32 : decode cX1_steepestCell 32 = .ok (.iload_n 3, 1) := by decide +kernel
theorem dX1_steepestCell_33 : decode cX1_steepestCell 33 = .ok (.istore_n 1, 1) := by decide +kernel
theorem dX1_steepestCell_34 : decode cX1_steepestCell 34 = .ok (.iinc 3 1, 3) := by decide +kernel
theorem dX1_steepestCell_37 : decode cX1_steepestCell 37 = .ok (.goto (-27), 3) := by decide +kernel
theorem dX1_steepestCell_40 : decode cX1_steepestCell 40 = .ok (.iload_n 1, 1) := by decide +kernel
theorem dX1_steepestCell_41 : decode cX1_steepestCell 41 = .ok (.ireturn, 1) := by decide +kernel
theorem dX1_flattestCell_0 : decode cX1_flattestCell 0 = .ok (.iconst 0, 1) := by decide +kernel
theorem dX1_flattestCell_1 : decode cX1_flattestCell 1 = .ok (.istore_n 1, 1) := by decide +kernel
theorem dX1_flattestCell_2 : decode cX1_flattestCell 2 = .ok (.aload_n 0, 1) := by decide +kernel
theorem dX1_flattestCell_3 : decode cX1_flattestCell 3 = .ok (.iconst 0, 1) := by decide +kernel
theorem dX1_flattestCell_4 : decode cX1_flattestCell 4 = .ok (.invokevirtual 126, 3) := by decide +kernel
theorem dX1_flattestCell_7 : decode cX1_flattestCell 7 = .ok (.istore_n 2, 1) := by decide +kernel
theorem dX1_flattestCell_8 : decode cX1_flattestCell 8 = .ok (.iconst 1, 1) := by decide +kernel
theorem dX1_flattestCell_9 : decode cX1_flattestCell 9 = .ok (.istore_n 3, 1) := by decide +kernel
theorem dX1_flattestCell_10 : decode cX1_flattestCell 10 = .ok (.iload_n 3, 1) := by decide +kernel
theorem dX1_flattestCell_11 : decode cX1_flattestCell 11 = .ok (.bipush 14, 2) := by decide +kernel
theorem dX1_flattestCell_13 : decode cX1_flattestCell 13 = .ok (.if_icmp .ge 27, 3) := by decide +kernel
theorem dX1_flattestCell_16 : decode cX1_flattestCell 16 = .ok (.aload_n 0, 1) := by decide +kernel
theorem dX1_flattestCell_17 : decode cX1_flattestCell 17 = .ok (.iload_n 3, 1) := by decide +kernel
theorem dX1_flattestCell_18 : decode cX1_flattestCell 18 = .ok (.invokevirtual 126, 3) := by decide +kernel
theorem dX1_flattestCell_21 : decode cX1_flattestCell 21 = .ok (.istore 4, 2) := by decide +kernel
theorem dX1_flattestCell_23 : decode cX1_flattestCell 23 = .ok (.iload 4, 2) := by decide +kernel
theorem dX1_flattestCell_25 : decode cX1_flattestCell 25 = .ok (.iload_n 2, 1) := by decide +kernel
theorem dX1_flattestCell_26 : decode cX1_flattestCell 26 = .ok (.if_icmp .ge 8, 3) := by decide +kernel
theorem dX1_flattestCell_29 : decode cX1_flattestCell 29 = .ok (.iload 4, 2) := by decide +kernel
theorem dX1_flattestCell_31 : decode cX1_flattestCell 31 = .ok (.istore_n 2, 1) := by decide +kernel
theorem dX1_flattestCell_32 : decode cX1_flattestCell 32 = .ok (.iload_n 3, 1) := by decide +kernel
theorem dX1_flattestCell_33 : decode cX1_flattestCell 33 = .ok (.istore_n 1, 1) := by decide +kernel
theorem dX1_flattestCell_34 : decode cX1_flattestCell 34 = .ok (.iinc 3 1, 3) := by decide +kernel
theorem dX1_flattestCell_37 : decode cX1_flattestCell 37 = .ok (.goto (-27), 3) := by decide +kernel
theorem dX1_flattestCell_40 : decode cX1_flattestCell 40 = .ok (.iload_n 1, 1) := by decide +kernel
theorem dX1_flattestCell_41 : decode cX1_flattestCell 41 = .ok (.ireturn, 1) := by decide +kernel
theorem dX1_flood_0 : decode cX1_flood 0 = .ok (.iconst 0, 1) := by decide +kernel
theorem dX1_flood_1 : decode cX1_flood 1 = .ok (.istore_n 1, 1) := by decide +kernel
theorem dX1_flood_2 : decode cX1_flood 2 = .ok (.iconst 0, 1) := by decide +kernel
theorem dX1_flood_3 : decode cX1_flood 3 = .ok (.istore_n 2, 1) := by decide +kernel
theorem dX1_flood_4 : decode cX1_flood 4 = .ok (.iload_n 2, 1) := by decide +kernel
theorem dX1_flood_5 : decode cX1_flood 5 = .ok (.bipush 15, 2) := by decide +kernel
theorem dX1_flood_7 : decode cX1_flood 7 = .ok (.if_icmp .ge 26, 3) := by decide +kernel
theorem dX1_flood_10 : decode cX1_flood 10 = .ok (.aload_n 0, 1) := by decide +kernel
theorem dX1_flood_11 : decode cX1_flood 11 = .ok (.getfield 39, 3) := by decide +kernel
theorem dX1_flood_14 : decode cX1_flood 14 = .ok (.iload_n 2, 1) := by decide +kernel
theorem dX1_flood_15 : decode cX1_flood 15 = .ok (.iload_n 1, 1) := by decide +kernel
theorem dX1_flood_16 : decode cX1_flood 16 = .ok (.iastore, 1) := by decide +kernel
theorem dX1_flood_17 : decode cX1_flood 17 = .ok (.iload_n 1, 1) := by decide +kernel
theorem dX1_flood_18 : decode cX1_flood 18 = .ok (.aload_n 0, 1) := by decide +kernel
theorem dX1_flood_19 : decode cX1_flood 19 = .ok (.iload_n 2, 1) := by decide +kernel
theorem dX1_flood_20 : decode cX1_flood 20 = .ok (.invokevirtual 106, 3) := by decide +kernel
theorem dX1_flood_23 : decode cX1_flood 23 = .ok (.invokestatic 129, 3) := by decide +kernel
theorem dX1_flood_26 : decode cX1_flood 26 = .ok (.istore_n 1, 1) := by decide +kernel
theorem dX1_flood_27 : decode cX1_flood 27 = .ok (.iinc 2 1, 3) := by decide +kernel
theorem dX1_flood_30 : decode cX1_flood 30 = .ok (.goto (-26), 3) := by decide +kernel
theorem dX1_flood_33 : decode cX1_flood 33 = .ok (.iconst 0, 1) := by decide +kernel
theorem dX1_flood_34 : decode cX1_flood 34 = .ok (.istore_n 1, 1) := by decide +kernel
theorem dX1_flood_35 : decode cX1_flood 35 = .ok (.bipush 14, 2) := by decide +kernel
theorem dX1_flood_37 : decode cX1_flood 37 = .ok (.istore_n 2, 1) := by decide +kernel
theorem dX1_flood_38 : decode cX1_flood 38 = .ok (.iload_n 2, 1) := by decide +kernel
theorem dX1_flood_39 : decode cX1_flood 39 = .ok (.ifCond .lt 43, 3) := by decide +kernel
theorem dX1_flood_42 : decode cX1_flood 42 = .ok (.aload_n 0, 1) := by decide +kernel
theorem dX1_flood_43 : decode cX1_flood 43 = .ok (.iload_n 2, 1) := by decide +kernel
theorem dX1_flood_44 : decode cX1_flood 44 = .ok (.invokevirtual 106, 3) := by decide +kernel
theorem dX1_flood_47 : decode cX1_flood 47 = .ok (.istore_n 3, 1) := by decide +kernel
theorem dX1_flood_48 : decode cX1_flood 48 = .ok (.aload_n 0, 1) := by decide +kernel
theorem dX1_flood_49 : decode cX1_flood 49 = .ok (.getfield 39, 3) := by decide +kernel
theorem dX1_flood_52 : decode cX1_flood 52 = .ok (.iload_n 2, 1) := by decide +kernel
theorem dX1_flood_53 : decode cX1_flood 53 = .ok (.iconst 0, 1) := by decide +kernel
theorem dX1_flood_54 : decode cX1_flood 54 = .ok (.aload_n 0, 1) := by decide +kernel
theorem dX1_flood_55 : decode cX1_flood 55 = .ok (.getfield 39, 3) := by decide +kernel
theorem dX1_flood_58 : decode cX1_flood 58 = .ok (.iload_n 2, 1) := by decide +kernel
theorem dX1_flood_59 : decode cX1_flood 59 = .ok (.iaload, 1) := by decide +kernel
theorem dX1_flood_60 : decode cX1_flood 60 = .ok (.iload_n 1, 1) := by decide +kernel
theorem dX1_flood_61 : decode cX1_flood 61 = .ok (.invokestatic 132, 3) := by decide +kernel
theorem dX1_flood_64 : decode cX1_flood 64 = .ok (.iload_n 3, 1) := by decide +kernel
theorem dX1_flood_65 : decode cX1_flood 65 = .ok (.isub, 1) := by decide +kernel
theorem dX1_flood_66 : decode cX1_flood 66 = .ok (.invokestatic 129, 3) := by decide +kernel
theorem dX1_flood_69 : decode cX1_flood 69 = .ok (.iastore, 1) := by decide +kernel
theorem dX1_flood_70 : decode cX1_flood 70 = .ok (.iload_n 1, 1) := by decide +kernel
theorem dX1_flood_71 : decode cX1_flood 71 = .ok (.iload_n 3, 1) := by decide +kernel
theorem dX1_flood_72 : decode cX1_flood 72 = .ok (.invokestatic 129, 3) := by decide +kernel
theorem dX1_flood_75 : decode cX1_flood 75 = .ok (.istore_n 1, 1) := by decide +kernel
theorem dX1_flood_76 : decode cX1_flood 76 = .ok (.iinc 2 (-1), 3) := by decide +kernel
theorem dX1_flood_79 : decode cX1_flood 79 = .ok (.goto (-41), 3) := by decide +kernel
theorem dX1_flood_82 : decode cX1_flood 82 = .ok (.return_, 1) := by decide +kernel
theorem dX1_waterOf_0 : decode cX1_waterOf 0 = .ok (.iload_n 1, 1) := by decide +kernel
theorem dX1_waterOf_1 : decode cX1_waterOf 1 = .ok (.invokestatic 69, 3) := by decide +kernel
theorem dX1_waterOf_4 : decode cX1_waterOf 4 = .ok (.ifCond .ne 8, 3) := by decide +kernel
theorem dX1_waterOf_7 : decode cX1_waterOf 7 = .ok (.aload_n 0, 1) := by decide +kernel
theorem dX1_waterOf_8 : decode cX1_waterOf 8 = .ok (.invokevirtual 135, 3) := by decide +kernel
theorem dX1_waterOf_11 : decode cX1_waterOf 11 = .ok (.ireturn, 1) := by decide +kernel
theorem dX1_waterOf_12 : decode cX1_waterOf 12 = .ok (.aload_n 0, 1) := by decide +kernel
theorem dX1_waterOf_13 : decode cX1_waterOf 13 = .ok (.invokevirtual 138, 3) := by decide +kernel
theorem dX1_waterOf_16 : decode cX1_waterOf 16 = .ok (.aload_n 0, 1) := by decide +kernel
theorem dX1_waterOf_17 : decode cX1_waterOf 17 = .ok (.getfield 39, 3) := by decide +kernel
theorem dX1_waterOf_20 : decode cX1_waterOf 20 = .ok (.iload_n 1, 1) := by decide +kernel
theorem dX1_waterOf_21 : decode cX1_waterOf 21 = .ok (.iaload, 1) := by decide +kernel
theorem dX1_waterOf_22 : decode cX1_waterOf 22 = .ok (.ireturn, 1) := by decide +kernel
theorem dX1_allWater_0 : decode cX1_allWater 0 = .ok (.aload_n 0, 1) := by decide +kernel
theorem dX1_allWater_1 : decode cX1_allWater 1 = .ok (.invokevirtual 138, 3) := by decide +kernel
theorem dX1_allWater_4 : decode cX1_allWater 4 = .ok (.iconst 0, 1) := by decide +kernel
theorem dX1_allWater_5 : decode cX1_allWater 5 = .ok (.istore_n 1, 1) := by decide +kernel
theorem dX1_allWater_6 : decode cX1_allWater 6 = .ok (.iconst 0, 1) := by decide +kernel
theorem dX1_allWater_7 : decode cX1_allWater 7 = .ok (.istore_n 2, 1) := by decide +kernel
theorem dX1_allWater_8 : decode cX1_allWater 8 = .ok (.iload_n 2, 1) := by decide +kernel
theorem dX1_allWater_9 : decode cX1_allWater 9 = .ok (.bipush 15, 2) := by decide +kernel
theorem dX1_allWater_11 : decode cX1_allWater 11 = .ok (.if_icmp .ge 18, 3) := by decide +kernel
theorem dX1_allWater_14 : decode cX1_allWater 14 = .ok (.iload_n 1, 1) := by decide +kernel
theorem dX1_allWater_15 : decode cX1_allWater 15 = .ok (.aload_n 0, 1) := by decide +kernel
theorem dX1_allWater_16 : decode cX1_allWater 16 = .ok (.getfield 39, 3) := by decide +kernel
theorem dX1_allWater_19 : decode cX1_allWater 19 = .ok (.iload_n 2, 1) := by decide +kernel
theorem dX1_allWater_20 : decode cX1_allWater 20 = .ok (.iaload, 1) := by decide +kernel
theorem dX1_allWater_21 : decode cX1_allWater 21 = .ok (.iadd, 1) := by decide +kernel
theorem dX1_allWater_22 : decode cX1_allWater 22 = .ok (.istore_n 1, 1) := by decide +kernel
theorem dX1_allWater_23 : decode cX1_allWater 23 = .ok (.iinc 2 1, 3) := by decide +kernel
theorem dX1_allWater_26 : decode cX1_allWater 26 = .ok (.goto (-18), 3) := by decide +kernel
theorem dX1_allWater_29 : decode cX1_allWater 29 = .ok (.iload_n 1, 1) := by decide +kernel
theorem dX1_allWater_30 : decode cX1_allWater 30 = .ok (.ireturn, 1) := by decide +kernel
theorem dX1_wetCells_0 : decode cX1_wetCells 0 = .ok (.aload_n 0, 1) := by decide +kernel
theorem dX1_wetCells_1 : decode cX1_wetCells 1 = .ok (.invokevirtual 138, 3) := by decide +kernel
theorem dX1_wetCells_4 : decode cX1_wetCells 4 = .ok (.iconst 0, 1) := by decide +kernel
theorem dX1_wetCells_5 : decode cX1_wetCells 5 = .ok (.istore_n 1, 1) := by decide +kernel
theorem dX1_wetCells_6 : decode cX1_wetCells 6 = .ok (.iconst 0, 1) := by decide +kernel
theorem dX1_wetCells_7 : decode cX1_wetCells 7 = .ok (.istore_n 2, 1) := by decide +kernel
theorem dX1_wetCells_8 : decode cX1_wetCells 8 = .ok (.iload_n 2, 1) := by decide +kernel
theorem dX1_wetCells_9 : decode cX1_wetCells 9 = .ok (.bipush 15, 2) := by decide +kernel
theorem dX1_wetCells_11 : decode cX1_wetCells 11 = .ok (.if_icmp .ge 24, 3) := by decide +kernel
theorem dX1_wetCells_14 : decode cX1_wetCells 14 = .ok (.aload_n 0, 1) := by decide +kernel
theorem dX1_wetCells_15 : decode cX1_wetCells 15 = .ok (.getfield 39, 3) := by decide +kernel
theorem dX1_wetCells_18 : decode cX1_wetCells 18 = .ok (.iload_n 2, 1) := by decide +kernel
theorem dX1_wetCells_19 : decode cX1_wetCells 19 = .ok (.iaload, 1) := by decide +kernel
theorem dX1_wetCells_20 : decode cX1_wetCells 20 = .ok (.ifCond .le 9, 3) := by decide +kernel
theorem dX1_wetCells_23 : decode cX1_wetCells 23 = .ok (.iload_n 1, 1) := by decide +kernel
theorem dX1_wetCells_24 : decode cX1_wetCells 24 = .ok (.iconst 1, 1) := by decide +kernel
theorem dX1_wetCells_25 : decode cX1_wetCells 25 = .ok (.iload_n 2, 1) := by decide +kernel
theorem dX1_wetCells_26 : decode cX1_wetCells 26 = .ok (.ishl, 1) := by decide +kernel
theorem dX1_wetCells_27 : decode cX1_wetCells 27 = .ok (.ior, 1) := by decide +kernel
theorem dX1_wetCells_28 : decode cX1_wetCells 28 = .ok (.istore_n 1, 1) := by decide +kernel
theorem dX1_wetCells_29 : decode cX1_wetCells 29 = .ok (.iinc 2 1, 3) := by decide +kernel
theorem dX1_wetCells_32 : decode cX1_wetCells 32 = .ok (.goto (-24), 3) := by decide +kernel
theorem dX1_wetCells_35 : decode cX1_wetCells 35 = .ok (.iload_n 1, 1) := by decide +kernel
theorem dX1_wetCells_36 : decode cX1_wetCells 36 = .ok (.ireturn, 1) := by decide +kernel
theorem dX1_allHeight_0 : decode cX1_allHeight 0 = .ok (.iconst 0, 1) := by decide +kernel
theorem dX1_allHeight_1 : decode cX1_allHeight 1 = .ok (.istore_n 1, 1) := by decide +kernel
theorem dX1_allHeight_2 : decode cX1_allHeight 2 = .ok (.iconst 0, 1) := by decide +kernel
theorem dX1_allHeight_3 : decode cX1_allHeight 3 = .ok (.istore_n 2, 1) := by decide +kernel
theorem dX1_allHeight_4 : decode cX1_allHeight 4 = .ok (.iload_n 2, 1) := by decide +kernel
theorem dX1_allHeight_5 : decode cX1_allHeight 5 = .ok (.bipush 15, 2) := by decide +kernel
theorem dX1_allHeight_7 : decode cX1_allHeight 7 = .ok (.if_icmp .ge 18, 3) := by decide +kernel
theorem dX1_allHeight_10 : decode cX1_allHeight 10 = .ok (.iload_n 1, 1) := by decide +kernel
theorem dX1_allHeight_11 : decode cX1_allHeight 11 = .ok (.aload_n 0, 1) := by decide +kernel
theorem dX1_allHeight_12 : decode cX1_allHeight 12 = .ok (.getfield 9, 3) := by decide +kernel
theorem dX1_allHeight_15 : decode cX1_allHeight 15 = .ok (.iload_n 2, 1) := by decide +kernel
theorem dX1_allHeight_16 : decode cX1_allHeight 16 = .ok (.iaload, 1) := by decide +kernel
theorem dX1_allHeight_17 : decode cX1_allHeight 17 = .ok (.iadd, 1) := by decide +kernel
theorem dX1_allHeight_18 : decode cX1_allHeight 18 = .ok (.istore_n 1, 1) := by decide +kernel
theorem dX1_allHeight_19 : decode cX1_allHeight 19 = .ok (.iinc 2 1, 3) := by decide +kernel
theorem dX1_allHeight_22 : decode cX1_allHeight 22 = .ok (.goto (-18), 3) := by decide +kernel
theorem dX1_allHeight_25 : decode cX1_allHeight 25 = .ok (.iload_n 1, 1) := by decide +kernel
theorem dX1_allHeight_26 : decode cX1_allHeight 26 = .ok (.ireturn, 1) := by decide +kernel
theorem dX1_allGround_0 : decode cX1_allGround 0 = .ok (.iconst 0, 1) := by decide +kernel
theorem dX1_allGround_1 : decode cX1_allGround 1 = .ok (.istore_n 1, 1) := by decide +kernel
theorem dX1_allGround_2 : decode cX1_allGround 2 = .ok (.iconst 0, 1) := by decide +kernel
theorem dX1_allGround_3 : decode cX1_allGround 3 = .ok (.istore_n 2, 1) := by decide +kernel
theorem dX1_allGround_4 : decode cX1_allGround 4 = .ok (.iload_n 2, 1) := by decide +kernel
theorem dX1_allGround_5 : decode cX1_allGround 5 = .ok (.bipush 15, 2) := by decide +kernel
theorem dX1_allGround_7 : decode cX1_allGround 7 = .ok (.if_icmp .ge 17, 3) := by decide +kernel
theorem dX1_allGround_10 : decode cX1_allGround 10 = .ok (.iload_n 1, 1) := by decide +kernel
theorem dX1_allGround_11 : decode cX1_allGround 11 = .ok (.aload_n 0, 1) := by decide +kernel
theorem dX1_allGround_12 : decode cX1_allGround 12 = .ok (.iload_n 2, 1) := by decide +kernel
theorem dX1_allGround_13 : decode cX1_allGround 13 = .ok (.invokevirtual 106, 3) := by decide +kernel
theorem dX1_allGround_16 : decode cX1_allGround 16 = .ok (.iadd, 1) := by decide +kernel
theorem dX1_allGround_17 : decode cX1_allGround 17 = .ok (.istore_n 1, 1) := by decide +kernel
theorem dX1_allGround_18 : decode cX1_allGround 18 = .ok (.iinc 2 1, 3) := by decide +kernel
theorem dX1_allGround_21 : decode cX1_allGround 21 = .ok (.goto (-17), 3) := by decide +kernel
theorem dX1_allGround_24 : decode cX1_allGround 24 = .ok (.iload_n 1, 1) := by decide +kernel
theorem dX1_allGround_25 : decode cX1_allGround 25 = .ok (.ireturn, 1) := by decide +kernel
theorem dX1_whoHasAWay_0 : decode cX1_whoHasAWay 0 = .ok (.iconst 0, 1) := by decide +kernel
theorem dX1_whoHasAWay_1 : decode cX1_whoHasAWay 1 = .ok (.istore_n 1, 1) := by decide +kernel
theorem dX1_whoHasAWay_2 : decode cX1_whoHasAWay 2 = .ok (.iconst 0, 1) := by decide +kernel
theorem dX1_whoHasAWay_3 : decode cX1_whoHasAWay 3 = .ok (.istore_n 2, 1) := by decide +kernel
theorem dX1_whoHasAWay_4 : decode cX1_whoHasAWay 4 = .ok (.iload_n 2, 1) := by decide +kernel
theorem dX1_whoHasAWay_5 : decode cX1_whoHasAWay 5 = .ok (.aload_n 0, 1) := by decide +kernel
theorem dX1_whoHasAWay_6 : decode cX1_whoHasAWay 6 = .ok (.getfield 52, 3) := by decide +kernel
theorem dX1_whoHasAWay_9 : decode cX1_whoHasAWay 9 = .ok (.if_icmp .ge 24, 3) := by decide +kernel
theorem dX1_whoHasAWay_12 : decode cX1_whoHasAWay 12 = .ok (.aload_n 0, 1) := by decide +kernel
theorem dX1_whoHasAWay_13 : decode cX1_whoHasAWay 13 = .ok (.getfield 27, 3) := by decide +kernel
theorem dX1_whoHasAWay_16 : decode cX1_whoHasAWay 16 = .ok (.iload_n 2, 1) := by decide +kernel
theorem dX1_whoHasAWay_17 : decode cX1_whoHasAWay 17 = .ok (.iaload, 1) := by decide +kernel
theorem dX1_whoHasAWay_18 : decode cX1_whoHasAWay 18 = .ok (.ifCond .eq 9, 3) := by decide +kernel
theorem dX1_whoHasAWay_21 : decode cX1_whoHasAWay 21 = .ok (.iload_n 1, 1) := by decide +kernel
theorem dX1_whoHasAWay_22 : decode cX1_whoHasAWay 22 = .ok (.iconst 1, 1) := by decide +kernel
theorem dX1_whoHasAWay_23 : decode cX1_whoHasAWay 23 = .ok (.iload_n 2, 1) := by decide +kernel
theorem dX1_whoHasAWay_24 : decode cX1_whoHasAWay 24 = .ok (.ishl, 1) := by decide +kernel
theorem dX1_whoHasAWay_25 : decode cX1_whoHasAWay 25 = .ok (.ior, 1) := by decide +kernel
theorem dX1_whoHasAWay_26 : decode cX1_whoHasAWay 26 = .ok (.istore_n 1, 1) := by decide +kernel
theorem dX1_whoHasAWay_27 : decode cX1_whoHasAWay 27 = .ok (.iinc 2 1, 3) := by decide +kernel
theorem dX1_whoHasAWay_30 : decode cX1_whoHasAWay 30 = .ok (.goto (-26), 3) := by decide +kernel
theorem dX1_whoHasAWay_33 : decode cX1_whoHasAWay 33 = .ok (.iload_n 1, 1) := by decide +kernel
theorem dX1_whoHasAWay_34 : decode cX1_whoHasAWay 34 = .ok (.ireturn, 1) := by decide +kernel
theorem dX1_howManyOnEdge_0 : decode cX1_howManyOnEdge 0 = .ok (.iconst 0, 1) := by decide +kernel
theorem dX1_howManyOnEdge_1 : decode cX1_howManyOnEdge 1 = .ok (.istore_n 1, 1) := by decide +kernel
theorem dX1_howManyOnEdge_2 : decode cX1_howManyOnEdge 2 = .ok (.iconst 0, 1) := by decide +kernel
theorem dX1_howManyOnEdge_3 : decode cX1_howManyOnEdge 3 = .ok (.istore_n 2, 1) := by decide +kernel
theorem dX1_howManyOnEdge_4 : decode cX1_howManyOnEdge 4 = .ok (.iload_n 2, 1) := by decide +kernel
theorem dX1_howManyOnEdge_5 : decode cX1_howManyOnEdge 5 = .ok (.aload_n 0, 1) := by decide +kernel
theorem dX1_howManyOnEdge_6 : decode cX1_howManyOnEdge 6 = .ok (.getfield 52, 3) := by decide +kernel
theorem dX1_howManyOnEdge_9 : decode cX1_howManyOnEdge 9 = .ok (.if_icmp .ge 32, 3) := by decide +kernel
theorem dX1_howManyOnEdge_12 : decode cX1_howManyOnEdge 12 = .ok (.aload_n 0, 1) := by decide +kernel
theorem dX1_howManyOnEdge_13 : decode cX1_howManyOnEdge 13 = .ok (.getfield 24, 3) := by decide +kernel
theorem dX1_howManyOnEdge_16 : decode cX1_howManyOnEdge 16 = .ok (.iload_n 2, 1) := by decide +kernel
theorem dX1_howManyOnEdge_17 : decode cX1_howManyOnEdge 17 = .ok (.iaload, 1) := by decide +kernel
theorem dX1_howManyOnEdge_18 : decode cX1_howManyOnEdge 18 = .ok (.ifCond .eq 14, 3) := by decide +kernel
theorem dX1_howManyOnEdge_21 : decode cX1_howManyOnEdge 21 = .ok (.aload_n 0, 1) := by decide +kernel
theorem dX1_howManyOnEdge_22 : decode cX1_howManyOnEdge 22 = .ok (.getfield 24, 3) := by decide +kernel
theorem dX1_howManyOnEdge_25 : decode cX1_howManyOnEdge 25 = .ok (.iload_n 2, 1) := by decide +kernel
theorem dX1_howManyOnEdge_26 : decode cX1_howManyOnEdge 26 = .ok (.iaload, 1) := by decide +kernel
theorem dX1_howManyOnEdge_27 : decode cX1_howManyOnEdge 27 = .ok (.bipush 14, 2) := by decide +kernel
theorem dX1_howManyOnEdge_29 : decode cX1_howManyOnEdge 29 = .ok (.if_icmp .ne 6, 3) := by decide +kernel
theorem dX1_howManyOnEdge_32 : decode cX1_howManyOnEdge 32 = .ok (.iinc 1 1, 3) := by decide +kernel
theorem dX1_howManyOnEdge_35 : decode cX1_howManyOnEdge 35 = .ok (.iinc 2 1, 3) := by decide +kernel
theorem dX1_howManyOnEdge_38 : decode cX1_howManyOnEdge 38 = .ok (.goto (-34), 3) := by decide +kernel
theorem dX1_howManyOnEdge_41 : decode cX1_howManyOnEdge 41 = .ok (.iload_n 1, 1) := by decide +kernel
theorem dX1_howManyOnEdge_42 : decode cX1_howManyOnEdge 42 = .ok (.ireturn, 1) := by decide +kernel
theorem dX1_walkFar_0 : decode cX1_walkFar 0 = .ok (.iconst 0, 1) := by decide +kernel
theorem dX1_walkFar_1 : decode cX1_walkFar 1 = .ok (.istore_n 3, 1) := by decide +kernel
theorem dX1_walkFar_2 : decode cX1_walkFar 2 = .ok (.iload_n 3, 1) := by decide +kernel
theorem dX1_walkFar_3 : decode cX1_walkFar 3 = .ok (.bipush 15, 2) := by decide +kernel
theorem dX1_walkFar_5 : decode cX1_walkFar 5 = .ok (.if_icmp .ge 28, 3) := by decide +kernel
theorem dX1_walkFar_8 : decode cX1_walkFar 8 = .ok (.aload_n 0, 1) := by decide +kernel
theorem dX1_walkFar_9 : decode cX1_walkFar 9 = .ok (.iload_n 1, 1) := by decide +kernel
theorem dX1_walkFar_10 : decode cX1_walkFar 10 = .ok (.iload_n 2, 1) := by decide +kernel
theorem dX1_walkFar_11 : decode cX1_walkFar 11 = .ok (.invokevirtual 102, 3) := by decide +kernel
theorem dX1_walkFar_14 : decode cX1_walkFar 14 = .ok (.ifCond .eq 19, 3) := by decide +kernel
theorem dX1_walkFar_17 : decode cX1_walkFar 17 = .ok (.aload_n 0, 1) := by decide +kernel
theorem dX1_walkFar_18 : decode cX1_walkFar 18 = .ok (.getfield 24, 3) := by decide +kernel
theorem dX1_walkFar_21 : decode cX1_walkFar 21 = .ok (.iload_n 1, 1) := by decide +kernel
theorem dX1_walkFar_22 : decode cX1_walkFar 22 = .ok (.dup2, 1) := by decide +kernel
theorem dX1_walkFar_23 : decode cX1_walkFar 23 = .ok (.iaload, 1) := by decide +kernel
theorem dX1_walkFar_24 : decode cX1_walkFar 24 = .ok (.iload_n 2, 1) := by decide +kernel
theorem dX1_walkFar_25 : decode cX1_walkFar 25 = .ok (.iadd, 1) := by decide +kernel
theorem dX1_walkFar_26 : decode cX1_walkFar 26 = .ok (.iastore, 1) := by decide +kernel
theorem dX1_walkFar_27 : decode cX1_walkFar 27 = .ok (.iinc 3 1, 3) := by decide +kernel
theorem dX1_walkFar_30 : decode cX1_walkFar 30 = .ok (.goto (-28), 3) := by decide +kernel
theorem dX1_walkFar_33 : decode cX1_walkFar 33 = .ok (.aload_n 0, 1) := by decide +kernel
theorem dX1_walkFar_34 : decode cX1_walkFar 34 = .ok (.getfield 24, 3) := by decide +kernel
theorem dX1_walkFar_37 : decode cX1_walkFar 37 = .ok (.iload_n 1, 1) := by decide +kernel
theorem dX1_walkFar_38 : decode cX1_walkFar 38 = .ok (.iaload, 1) := by decide +kernel
theorem dX1_walkFar_39 : decode cX1_walkFar 39 = .ok (.ireturn, 1) := by decide +kernel
theorem dX1_walkTo_0 : decode cX1_walkTo 0 = .ok (.iload_n 3, 1) := by decide +kernel
theorem dX1_walkTo_1 : decode cX1_walkTo 1 = .ok (.aload_n 0, 1) := by decide +kernel
theorem dX1_walkTo_2 : decode cX1_walkTo 2 = .ok (.getfield 24, 3) := by decide +kernel
theorem dX1_walkTo_5 : decode cX1_walkTo 5 = .ok (.iload_n 1, 1) := by decide +kernel
theorem dX1_walkTo_6 : decode cX1_walkTo 6 = .ok (.iaload, 1) := by decide +kernel
theorem dX1_walkTo_7 : decode cX1_walkTo 7 = .ok (.if_icmp .ge 7, 3) := by decide +kernel
theorem dX1_walkTo_10 : decode cX1_walkTo 10 = .ok (.iconst (-1), 1) := by decide +kernel
theorem dX1_walkTo_11 : decode cX1_walkTo 11 = .ok (.goto 4, 3) := by decide +kernel
theorem dX1_walkTo_14 : decode cX1_walkTo 14 = .ok (.iconst 1, 1) := by decide +kernel
theorem dX1_walkTo_15 : decode cX1_walkTo 15 = .ok (.istore 4, 2) := by decide +kernel
theorem dX1_walkTo_17 : decode cX1_walkTo 17 = .ok (.iconst 0, 1) := by decide +kernel
theorem dX1_walkTo_18 : decode cX1_walkTo 18 = .ok (.istore 5, 2) := by decide +kernel
theorem dX1_walkTo_20 : decode cX1_walkTo 20 = .ok (.iload 5, 2) := by decide +kernel
theorem dX1_walkTo_22 : decode cX1_walkTo 22 = .ok (.bipush 15, 2) := by decide +kernel
theorem dX1_walkTo_24 : decode cX1_walkTo 24 = .ok (.if_icmp .ge 48, 3) := by decide +kernel
theorem dX1_walkTo_27 : decode cX1_walkTo 27 = .ok (.aload_n 0, 1) := by decide +kernel
theorem dX1_walkTo_28 : decode cX1_walkTo 28 = .ok (.getfield 24, 3) := by decide +kernel
theorem dX1_walkTo_31 : decode cX1_walkTo 31 = .ok (.iload_n 1, 1) := by decide +kernel
theorem dX1_walkTo_32 : decode cX1_walkTo 32 = .ok (.iaload, 1) := by decide +kernel
theorem dX1_walkTo_33 : decode cX1_walkTo 33 = .ok (.iload_n 3, 1) := by decide +kernel
theorem dX1_walkTo_34 : decode cX1_walkTo 34 = .ok (.if_icmp .eq 38, 3) := by decide +kernel
theorem dX1_walkTo_37 : decode cX1_walkTo 37 = .ok (.aload_n 0, 1) := by decide +kernel
theorem dX1_walkTo_38 : decode cX1_walkTo 38 = .ok (.iload_n 1, 1) := by decide +kernel
theorem dX1_walkTo_39 : decode cX1_walkTo 39 = .ok (.iload_n 2, 1) := by decide +kernel
theorem dX1_walkTo_40 : decode cX1_walkTo 40 = .ok (.invokevirtual 141, 3) := by decide +kernel
theorem dX1_walkTo_43 : decode cX1_walkTo 43 = .ok (.aload_n 0, 1) := by decide +kernel
theorem dX1_walkTo_44 : decode cX1_walkTo 44 = .ok (.iload_n 1, 1) := by decide +kernel
theorem dX1_walkTo_45 : decode cX1_walkTo 45 = .ok (.iload 4, 2) := by decide +kernel
theorem dX1_walkTo_47 : decode cX1_walkTo 47 = .ok (.invokevirtual 102, 3) := by decide +kernel
theorem dX1_walkTo_50 : decode cX1_walkTo 50 = .ok (.ifCond .ne 5, 3) := by decide +kernel
theorem dX1_walkTo_53 : decode cX1_walkTo 53 = .ok (.iconst 0, 1) := by decide +kernel
theorem dX1_walkTo_54 : decode cX1_walkTo 54 = .ok (.ireturn, 1) := by decide +kernel
theorem dX1_walkTo_55 : decode cX1_walkTo 55 = .ok (.aload_n 0, 1) := by decide +kernel
theorem dX1_walkTo_56 : decode cX1_walkTo 56 = .ok (.getfield 24, 3) := by decide +kernel
theorem dX1_walkTo_59 : decode cX1_walkTo 59 = .ok (.iload_n 1, 1) := by decide +kernel
theorem dX1_walkTo_60 : decode cX1_walkTo 60 = .ok (.dup2, 1) := by decide +kernel
theorem dX1_walkTo_61 : decode cX1_walkTo 61 = .ok (.iaload, 1) := by decide +kernel
theorem dX1_walkTo_62 : decode cX1_walkTo 62 = .ok (.iload 4, 2) := by decide +kernel
theorem dX1_walkTo_64 : decode cX1_walkTo 64 = .ok (.iadd, 1) := by decide +kernel
theorem dX1_walkTo_65 : decode cX1_walkTo 65 = .ok (.iastore, 1) := by decide +kernel
theorem dX1_walkTo_66 : decode cX1_walkTo 66 = .ok (.iinc 5 1, 3) := by decide +kernel
theorem dX1_walkTo_69 : decode cX1_walkTo 69 = .ok (.goto (-49), 3) := by decide +kernel
theorem dX1_walkTo_72 : decode cX1_walkTo 72 = .ok (.iconst 1, 1) := by decide +kernel
theorem dX1_walkTo_73 : decode cX1_walkTo 73 = .ok (.ireturn, 1) := by decide +kernel
theorem dX1_gather_0 : decode cX1_gather 0 = .ok (.iconst 0, 1) := by decide +kernel
theorem dX1_gather_1 : decode cX1_gather 1 = .ok (.istore_n 3, 1) := by decide +kernel
theorem dX1_gather_2 : decode cX1_gather 2 = .ok (.iload_n 3, 1) := by decide +kernel
theorem dX1_gather_3 : decode cX1_gather 3 = .ok (.aload_n 0, 1) := by decide +kernel
theorem dX1_gather_4 : decode cX1_gather 4 = .ok (.getfield 52, 3) := by decide +kernel
theorem dX1_gather_7 : decode cX1_gather 7 = .ok (.if_icmp .ge 29, 3) := by decide +kernel
theorem dX1_gather_10 : decode cX1_gather 10 = .ok (.iload_n 2, 1) := by decide +kernel
theorem dX1_gather_11 : decode cX1_gather 11 = .ok (.iload_n 3, 1) := by decide +kernel
theorem dX1_gather_12 : decode cX1_gather 12 = .ok (.invokestatic 112, 3) := by decide +kernel
theorem dX1_gather_15 : decode cX1_gather 15 = .ok (.ifCond .eq 15, 3) := by decide +kernel
theorem dX1_gather_18 : decode cX1_gather 18 = .ok (.aload_n 0, 1) := by decide +kernel
theorem dX1_gather_19 : decode cX1_gather 19 = .ok (.getfield 24, 3) := by decide +kernel
theorem dX1_gather_22 : decode cX1_gather 22 = .ok (.iload_n 3, 1) := by decide +kernel
theorem dX1_gather_23 : decode cX1_gather 23 = .ok (.aload_n 0, 1) := by decide +kernel
theorem dX1_gather_24 : decode cX1_gather 24 = .ok (.getfield 24, 3) := by decide +kernel
theorem dX1_gather_27 : decode cX1_gather 27 = .ok (.iload_n 1, 1) := by decide +kernel
theorem dX1_gather_28 : decode cX1_gather 28 = .ok (.iaload, 1) := by decide +kernel
theorem dX1_gather_29 : decode cX1_gather 29 = .ok (.iastore, 1) := by decide +kernel
theorem dX1_gather_30 : decode cX1_gather 30 = .ok (.iinc 3 1, 3) := by decide +kernel
theorem dX1_gather_33 : decode cX1_gather 33 = .ok (.goto (-31), 3) := by decide +kernel
theorem dX1_gather_36 : decode cX1_gather 36 = .ok (.return_, 1) := by decide +kernel
theorem dX2_init_0 : decode cX2_init 0 = .ok (.aload_n 0, 1) := by decide +kernel
theorem dX2_init_1 : decode cX2_init 1 = .ok (.invokespecial 1, 3) := by decide +kernel
theorem dX2_init_4 : decode cX2_init 4 = .ok (.return_, 1) := by decide +kernel
theorem dX2_presses_0 : decode cX2_presses 0 = .ok (.iconst 2, 1) := by decide +kernel
theorem dX2_presses_1 : decode cX2_presses 1 = .ok (.aload_n 0, 1) := by decide +kernel
theorem dX2_presses_2 : decode cX2_presses 2 = .ok (.iload_n 1, 1) := by decide +kernel
theorem dX2_presses_3 : decode cX2_presses 3 = .ok (.iload_n 2, 1) := by decide +kernel
theorem dX2_presses_4 : decode cX2_presses 4 = .ok (.invokespecial 7, 3) := by decide +kernel
theorem dX2_presses_7 : decode cX2_presses 7 = .ok (.imul, 1) := by decide +kernel
theorem dX2_presses_8 : decode cX2_presses 8 = .ok (.ireturn, 1) := by decide +kernel
theorem dX2_spreads_0 : decode cX2_spreads 0 = .ok (.iconst 2, 1) := by decide +kernel
theorem dX2_spreads_1 : decode cX2_spreads 1 = .ok (.ireturn, 1) := by decide +kernel
theorem dX2_price_0 : decode cX2_price 0 = .ok (.bipush 9, 2) := by decide +kernel
theorem dX2_price_2 : decode cX2_price 2 = .ok (.ireturn, 1) := by decide +kernel
theorem dX3_init_0 : decode cX3_init 0 = .ok (.aload_n 0, 1) := by decide +kernel
theorem dX3_init_1 : decode cX3_init 1 = .ok (.invokespecial 1, 3) := by decide +kernel
theorem dX3_init_4 : decode cX3_init 4 = .ok (.return_, 1) := by decide +kernel
theorem dX3_shows_0 : decode cX3_shows 0 = .ok (.iload_n 1, 1) := by decide +kernel
theorem dX3_shows_1 : decode cX3_shows 1 = .ok (.bipush 10, 2) := by decide +kernel
theorem dX3_shows_3 : decode cX3_shows 3 = .ok (.iadd, 1) := by decide +kernel
theorem dX3_shows_4 : decode cX3_shows 4 = .ok (.istore_n 3, 1) := by decide +kernel
theorem dX3_shows_5 : decode cX3_shows 5 = .ok (.iload_n 2, 1) := by decide +kernel
theorem dX3_shows_6 : decode cX3_shows 6 = .ok (.iload_n 3, 1) := by decide +kernel
theorem dX3_shows_7 : decode cX3_shows 7 = .ok (.if_icmp .ge 7, 3) := by decide +kernel
theorem dX3_shows_10 : decode cX3_shows 10 = .ok (.iconst 0, 1) := by decide +kernel
theorem dX3_shows_11 : decode cX3_shows 11 = .ok (.goto 6, 3) := by decide +kernel
theorem dX3_shows_14 : decode cX3_shows 14 = .ok (.iload_n 2, 1) := by decide +kernel
theorem dX3_shows_15 : decode cX3_shows 15 = .ok (.iload_n 3, 1) := by decide +kernel
theorem dX3_shows_16 : decode cX3_shows 16 = .ok (.isub, 1) := by decide +kernel
theorem dX3_shows_17 : decode cX3_shows 17 = .ok (.ireturn, 1) := by decide +kernel
theorem dX3_price_0 : decode cX3_price 0 = .ok (.aload_n 0, 1) := by decide +kernel
theorem dX3_price_1 : decode cX3_price 1 = .ok (.iload_n 1, 1) := by decide +kernel
theorem dX3_price_2 : decode cX3_price 2 = .ok (.invokespecial 7, 3) := by decide +kernel
theorem dX3_price_5 : decode cX3_price 5 = .ok (.iconst 1, 1) := by decide +kernel
theorem dX3_price_6 : decode cX3_price 6 = .ok (.isub, 1) := by decide +kernel
theorem dX3_price_7 : decode cX3_price 7 = .ok (.ireturn, 1) := by decide +kernel
theorem dX4_init_0 : decode cX4_init 0 = .ok (.aload_n 0, 1) := by decide +kernel
theorem dX4_init_1 : decode cX4_init 1 = .ok (.invokespecial 1, 3) := by decide +kernel
theorem dX4_init_4 : decode cX4_init 4 = .ok (.return_, 1) := by decide +kernel
theorem dX4_presses_0 : decode cX4_presses 0 = .ok (.aload_n 0, 1) := by decide +kernel
theorem dX4_presses_1 : decode cX4_presses 1 = .ok (.iload_n 1, 1) := by decide +kernel
theorem dX4_presses_2 : decode cX4_presses 2 = .ok (.iload_n 2, 1) := by decide +kernel
theorem dX4_presses_3 : decode cX4_presses 3 = .ok (.invokespecial 7, 3) := by decide +kernel
theorem dX4_presses_6 : decode cX4_presses 6 = .ok (.istore_n 3, 1) := by decide +kernel
theorem dX4_presses_7 : decode cX4_presses 7 = .ok (.iload_n 3, 1) := by decide +kernel
theorem dX4_presses_8 : decode cX4_presses 8 = .ok (.iconst 1, 1) := by decide +kernel
theorem dX4_presses_9 : decode cX4_presses 9 = .ok (.if_icmp .ge 7, 3) := by decide +kernel
theorem dX4_presses_12 : decode cX4_presses 12 = .ok (.iconst 0, 1) := by decide +kernel
theorem dX4_presses_13 : decode cX4_presses 13 = .ok (.goto 6, 3) := by decide +kernel
theorem dX4_presses_16 : decode cX4_presses 16 = .ok (.iload_n 3, 1) := by decide +kernel
theorem dX4_presses_17 : decode cX4_presses 17 = .ok (.iconst 1, 1) := by decide +kernel
theorem dX4_presses_18 : decode cX4_presses 18 = .ok (.isub, 1) := by decide +kernel
theorem dX4_presses_19 : decode cX4_presses 19 = .ok (.ireturn, 1) := by decide +kernel
theorem dX4_spreads_0 : decode cX4_spreads 0 = .ok (.iconst 1, 1) := by decide +kernel
theorem dX4_spreads_1 : decode cX4_spreads 1 = .ok (.ireturn, 1) := by decide +kernel
theorem dX4_strides_0 : decode cX4_strides 0 = .ok (.iconst 1, 1) := by decide +kernel
theorem dX4_strides_1 : decode cX4_strides 1 = .ok (.ireturn, 1) := by decide +kernel
theorem dX4_price_0 : decode cX4_price 0 = .ok (.aload_n 0, 1) := by decide +kernel
theorem dX4_price_1 : decode cX4_price 1 = .ok (.iload_n 1, 1) := by decide +kernel
theorem dX4_price_2 : decode cX4_price 2 = .ok (.invokespecial 11, 3) := by decide +kernel
theorem dX4_price_5 : decode cX4_price 5 = .ok (.iload_n 1, 1) := by decide +kernel
theorem dX4_price_6 : decode cX4_price 6 = .ok (.iadd, 1) := by decide +kernel
theorem dX4_price_7 : decode cX4_price 7 = .ok (.ireturn, 1) := by decide +kernel
theorem dX4_failureAsTold_0 : decode cX4_failureAsTold 0 = .ok (.aload_n 0, 1) := by decide +kernel
theorem dX4_failureAsTold_1 : decode cX4_failureAsTold 1 = .ok (.iload_n 1, 1) := by decide +kernel
theorem dX4_failureAsTold_2 : decode cX4_failureAsTold 2 = .ok (.invokespecial 15, 3) := by decide +kernel
theorem dX4_failureAsTold_5 : decode cX4_failureAsTold 5 = .ok (.bipush 100, 2) := by decide +kernel
theorem dX4_failureAsTold_7 : decode cX4_failureAsTold 7 = .ok (.iadd, 1) := by decide +kernel
theorem dX4_failureAsTold_8 : decode cX4_failureAsTold 8 = .ok (.ireturn, 1) := by decide +kernel
theorem dX5_init_0 : decode cX5_init 0 = .ok (.aload_n 0, 1) := by decide +kernel
theorem dX5_init_1 : decode cX5_init 1 = .ok (.invokespecial 3, 3) := by decide +kernel
theorem dX5_init_4 : decode cX5_init 4 = .ok (.aload_n 0, 1) := by decide +kernel
theorem dX5_init_5 : decode cX5_init 5 = .ok (.iconst 0, 1) := by decide +kernel
theorem dX5_init_6 : decode cX5_init 6 = .ok (.putfield 11, 3) := by decide +kernel
theorem dX5_init_9 : decode cX5_init 9 = .ok (.aload_n 0, 1) := by decide +kernel
theorem dX5_init_10 : decode cX5_init 10 = .ok (.bipush 100, 2) := by decide +kernel
theorem dX5_init_12 : decode cX5_init 12 = .ok (.newarray .int, 2) := by decide +kernel
theorem dX5_init_14 : decode cX5_init 14 = .ok (.putfield 15, 3) := by decide +kernel
theorem dX5_init_17 : decode cX5_init 17 = .ok (.return_, 1) := by decide +kernel
theorem dX5_holdNothing_0 : decode cX5_holdNothing 0 = .ok (.aload_n 0, 1) := by decide +kernel
theorem dX5_holdNothing_1 : decode cX5_holdNothing 1 = .ok (.iconst 0, 1) := by decide +kernel
theorem dX5_holdNothing_2 : decode cX5_holdNothing 2 = .ok (.putfield 11, 3) := by decide +kernel
theorem dX5_holdNothing_5 : decode cX5_holdNothing 5 = .ok (.return_, 1) := by decide +kernel
theorem dX5_holdKind_0 : decode cX5_holdKind 0 = .ok (.aload_n 0, 1) := by decide +kernel
theorem dX5_holdKind_1 : decode cX5_holdKind 1 = .ok (.iconst 1, 1) := by decide +kernel
theorem dX5_holdKind_2 : decode cX5_holdKind 2 = .ok (.putfield 11, 3) := by decide +kernel
theorem dX5_holdKind_5 : decode cX5_holdKind 5 = .ok (.aload_n 0, 1) := by decide +kernel
theorem dX5_holdKind_6 : decode cX5_holdKind 6 = .ok (.iload_n 1, 1) := by decide +kernel
theorem dX5_holdKind_7 : decode cX5_holdKind 7 = .ok (.putfield 19, 3) := by decide +kernel
theorem dX5_holdKind_10 : decode cX5_holdKind 10 = .ok (.aload_n 0, 1) := by decide +kernel
theorem dX5_holdKind_11 : decode cX5_holdKind 11 = .ok (.iload_n 2, 1) := by decide +kernel
theorem dX5_holdKind_12 : decode cX5_holdKind 12 = .ok (.putfield 22, 3) := by decide +kernel
theorem dX5_holdKind_15 : decode cX5_holdKind 15 = .ok (.return_, 1) := by decide +kernel
theorem dX5_holdRow_0 : decode cX5_holdRow 0 = .ok (.aload_n 0, 1) := by decide +kernel
theorem dX5_holdRow_1 : decode cX5_holdRow 1 = .ok (.iconst 2, 1) := by decide +kernel
theorem dX5_holdRow_2 : decode cX5_holdRow 2 = .ok (.putfield 11, 3) := by decide +kernel
theorem dX5_holdRow_5 : decode cX5_holdRow 5 = .ok (.aload_n 0, 1) := by decide +kernel
theorem dX5_holdRow_6 : decode cX5_holdRow 6 = .ok (.iload_n 1, 1) := by decide +kernel
theorem dX5_holdRow_7 : decode cX5_holdRow 7 = .ok (.putfield 25, 3) := by decide +kernel
theorem dX5_holdRow_10 : decode cX5_holdRow 10 = .ok (.aload_n 0, 1) := by decide +kernel
theorem dX5_holdRow_11 : decode cX5_holdRow 11 = .ok (.iload_n 2, 1) := by decide +kernel
theorem dX5_holdRow_12 : decode cX5_holdRow 12 = .ok (.putfield 28, 3) := by decide +kernel
theorem dX5_holdRow_15 : decode cX5_holdRow 15 = .ok (.aload_n 0, 1) := by decide +kernel
theorem dX5_holdRow_16 : decode cX5_holdRow 16 = .ok (.getfield 15, 3) := by decide +kernel
theorem dX5_holdRow_19 : decode cX5_holdRow 19 = .ok (.iconst 0, 1) := by decide +kernel
theorem dX5_holdRow_20 : decode cX5_holdRow 20 = .ok (.invokestatic 31, 3) := by decide +kernel
theorem dX5_holdRow_23 : decode cX5_holdRow 23 = .ok (.return_, 1) := by decide +kernel
theorem dX5_hasPlaces_0 : decode cX5_hasPlaces 0 = .ok (.iload_n 2, 1) := by decide +kernel
theorem dX5_hasPlaces_1 : decode cX5_hasPlaces 1 = .ok (.ifCond .lt 29, 3) := by decide +kernel
theorem dX5_hasPlaces_4 : decode cX5_hasPlaces 4 = .ok (.iload_n 2, 1) := by decide +kernel
theorem dX5_hasPlaces_5 : decode cX5_hasPlaces 5 = .ok (.aload_n 0, 1) := by decide +kernel
theorem dX5_hasPlaces_6 : decode cX5_hasPlaces 6 = .ok (.getfield 28, 3) := by decide +kernel
theorem dX5_hasPlaces_9 : decode cX5_hasPlaces 9 = .ok (.if_icmp .gt 21, 3) := by decide +kernel
theorem dX5_hasPlaces_12 : decode cX5_hasPlaces 12 = .ok (.iload_n 1, 1) := by decide +kernel
theorem dX5_hasPlaces_13 : decode cX5_hasPlaces 13 = .ok (.iconst 0, 1) := by decide +kernel
theorem dX5_hasPlaces_14 : decode cX5_hasPlaces 14 = .ok (.aload_n 0, 1) := by decide +kernel
theorem dX5_hasPlaces_15 : decode cX5_hasPlaces 15 = .ok (.getfield 28, 3) := by decide +kernel
theorem dX5_hasPlaces_18 : decode cX5_hasPlaces 18 = .ok (.iload_n 2, 1) := by decide +kernel
theorem dX5_hasPlaces_19 : decode cX5_hasPlaces 19 = .ok (.isub, 1) := by decide +kernel
theorem dX5_hasPlaces_20 : decode cX5_hasPlaces 20 = .ok (.invokestatic 37, 3) := by decide +kernel
theorem dX5_hasPlaces_23 : decode cX5_hasPlaces 23 = .ok (.ifCond .eq 7, 3) := by decide +kernel
theorem dX5_hasPlaces_26 : decode cX5_hasPlaces 26 = .ok (.iconst 1, 1) := by decide +kernel
theorem dX5_hasPlaces_27 : decode cX5_hasPlaces 27 = .ok (.goto 4, 3) := by decide +kernel
theorem dX5_hasPlaces_30 : decode cX5_hasPlaces 30 = .ok (.iconst 0, 1) := by decide +kernel
theorem dX5_hasPlaces_31 : decode cX5_hasPlaces 31 = .ok (.ireturn, 1) := by decide +kernel
theorem dX5_valueOrZero_0 : decode cX5_valueOrZero 0 = .ok (.iload_n 1, 1) := by decide +kernel
theorem dX5_valueOrZero_1 : decode cX5_valueOrZero 1 = .ok (.iconst 0, 1) := by decide +kernel
theorem dX5_valueOrZero_2 : decode cX5_valueOrZero 2 = .ok (.aload_n 0, 1) := by decide +kernel
theorem dX5_valueOrZero_3 : decode cX5_valueOrZero 3 = .ok (.getfield 28, 3) := by decide +kernel
theorem dX5_valueOrZero_6 : decode cX5_valueOrZero 6 = .ok (.iconst 1, 1) := by decide +kernel
theorem dX5_valueOrZero_7 : decode cX5_valueOrZero 7 = .ok (.isub, 1) := by decide +kernel
theorem dX5_valueOrZero_8 : decode cX5_valueOrZero 8 = .ok (.invokestatic 37, 3) := by decide +kernel
theorem dX5_valueOrZero_11 : decode cX5_valueOrZero 11 = .ok (.ifCond .eq 12, 3) := by decide +kernel
theorem dX5_valueOrZero_14 : decode cX5_valueOrZero 14 = .ok (.aload_n 0, 1) := by decide +kernel
theorem dX5_valueOrZero_15 : decode cX5_valueOrZero 15 = .ok (.getfield 15, 3) := by decide +kernel
theorem dX5_valueOrZero_18 : decode cX5_valueOrZero 18 = .ok (.iload_n 1, 1) := by decide +kernel
theorem dX5_valueOrZero_19 : decode cX5_valueOrZero 19 = .ok (.iaload, 1) := by decide +kernel
theorem dX5_valueOrZero_20 : decode cX5_valueOrZero 20 = .ok (.goto 4, 3) := by decide +kernel
theorem dX5_valueOrZero_23 : decode cX5_valueOrZero 23 = .ok (.iconst 0, 1) := by decide +kernel
theorem dX5_valueOrZero_24 : decode cX5_valueOrZero 24 = .ok (.ireturn, 1) := by decide +kernel
theorem dX5_store_0 : decode cX5_store 0 = .ok (.aload_n 0, 1) := by decide +kernel
theorem dX5_store_1 : decode cX5_store 1 = .ok (.getfield 25, 3) := by decide +kernel
theorem dX5_store_4 : decode cX5_store 4 = .ok (.ifCond .ne 14, 3) := by decide +kernel
theorem dX5_store_7 : decode cX5_store 7 = .ok (.aload_n 0, 1) := by decide +kernel
theorem dX5_store_8 : decode cX5_store 8 = .ok (.getfield 15, 3) := by decide +kernel
theorem dX5_store_11 : decode cX5_store 11 = .ok (.iload_n 1, 1) := by decide +kernel
theorem dX5_store_12 : decode cX5_store 12 = .ok (.iload_n 2, 1) := by decide +kernel
theorem dX5_store_13 : decode cX5_store 13 = .ok (.i2b, 1) := by decide +kernel
theorem dX5_store_14 : decode cX5_store 14 = .ok (.iastore, 1) := by decide +kernel
theorem dX5_store_15 : decode cX5_store 15 = .ok (.goto 29, 3) := by decide +kernel
theorem dX5_store_18 : decode cX5_store 18 = .ok (.aload_n 0, 1) := by decide +kernel
theorem dX5_store_19 : decode cX5_store 19 = .ok (.getfield 25, 3) := by decide +kernel
theorem dX5_store_22 : decode cX5_store 22 = .ok (.iconst 1, 1) := by decide +kernel
theorem dX5_store_23 : decode cX5_store 23 = .ok (.if_icmp .ne 14, 3) := by decide +kernel
theorem dX5_store_26 : decode cX5_store 26 = .ok (.aload_n 0, 1) := by decide +kernel
theorem dX5_store_27 : decode cX5_store 27 = .ok (.getfield 15, 3) := by decide +kernel
theorem dX5_store_30 : decode cX5_store 30 = .ok (.iload_n 1, 1) := by decide +kernel
theorem dX5_store_31 : decode cX5_store 31 = .ok (.iload_n 2, 1) := by decide +kernel
theorem dX5_store_32 : decode cX5_store 32 = .ok (.i2s, 1) := by decide +kernel
theorem dX5_store_33 : decode cX5_store 33 = .ok (.iastore, 1) := by decide +kernel
theorem dX5_store_34 : decode cX5_store 34 = .ok (.goto 10, 3) := by decide +kernel
theorem dX5_store_37 : decode cX5_store 37 = .ok (.aload_n 0, 1) := by decide +kernel
theorem dX5_store_38 : decode cX5_store 38 = .ok (.getfield 15, 3) := by decide +kernel
theorem dX5_store_41 : decode cX5_store 41 = .ok (.iload_n 1, 1) := by decide +kernel
theorem dX5_store_42 : decode cX5_store 42 = .ok (.iload_n 2, 1) := by decide +kernel
theorem dX5_store_43 : decode cX5_store 43 = .ok (.iastore, 1) := by decide +kernel
theorem dX5_store_44 : decode cX5_store 44 = .ok (.return_, 1) := by decide +kernel
theorem dX5_skips_0 : decode cX5_skips 0 = .ok (.aload_n 0, 1) := by decide +kernel
theorem dX5_skips_1 : decode cX5_skips 1 = .ok (.getfield 25, 3) := by decide +kernel
theorem dX5_skips_4 : decode cX5_skips 4 = .ok (.ifCond .ne 20, 3) := by decide +kernel
theorem dX5_skips_7 : decode cX5_skips 7 = .ok (.aload_n 0, 1) := by decide +kernel
theorem dX5_skips_8 : decode cX5_skips 8 = .ok (.getfield 15, 3) := by decide +kernel
theorem dX5_skips_11 : decode cX5_skips 11 = .ok (.iload_n 1, 1) := by decide +kernel
theorem dX5_skips_12 : decode cX5_skips 12 = .ok (.iaload, 1) := by decide +kernel
theorem dX5_skips_13 : decode cX5_skips 13 = .ok (.bipush (-128), 2) := by decide +kernel
theorem dX5_skips_15 : decode cX5_skips 15 = .ok (.if_icmp .ne 7, 3) := by decide +kernel
theorem dX5_skips_18 : decode cX5_skips 18 = .ok (.iconst 1, 1) := by decide +kernel
theorem dX5_skips_19 : decode cX5_skips 19 = .ok (.goto 4, 3) := by decide +kernel
theorem dX5_skips_22 : decode cX5_skips 22 = .ok (.iconst 0, 1) := by decide +kernel
theorem dX5_skips_23 : decode cX5_skips 23 = .ok (.ireturn, 1) := by decide +kernel
theorem dX5_skips_24 : decode cX5_skips 24 = .ok (.aload_n 0, 1) := by decide +kernel
theorem dX5_skips_25 : decode cX5_skips 25 = .ok (.getfield 15, 3) := by decide +kernel
theorem dX5_skips_28 : decode cX5_skips 28 = .ok (.iload_n 1, 1) := by decide +kernel
theorem dX5_skips_29 : decode cX5_skips 29 = .ok (.iaload, 1) := by decide +kernel
theorem dX5_skips_30 : decode cX5_skips 30 = .ok (.aload_n 0, 1) := by decide +kernel
theorem dX5_skips_31 : decode cX5_skips 31 = .ok (.getfield 25, 3) := by decide +kernel
theorem dX5_skips_34 : decode cX5_skips 34 = .ok (.iconst 1, 1) := by decide +kernel
theorem dX5_skips_35 : decode cX5_skips 35 = .ok (.if_icmp .ne 9, 3) := by decide +kernel
theorem dX5_skips_38 : decode cX5_skips 38 = .ok (.sipush (-32768), 3) := by decide +kernel
theorem dX5_skips_41 : decode cX5_skips 41 = .ok (.goto 5, 3) := by decide +kernel
theorem dX5_skips_44 : decode cX5_skips 44 = .ok (.ldc 41, 2) := by decide +kernel
theorem dX5_skips_46 : decode cX5_skips 46 = .ok (.if_icmp .ne 7, 3) := by decide +kernel
theorem dX5_skips_49 : decode cX5_skips 49 = .ok (.iconst 1, 1) := by decide +kernel
theorem dX5_skips_50 : decode cX5_skips 50 = .ok (.goto 4, 3) := by decide +kernel
theorem dX5_skips_53 : decode cX5_skips 53 = .ok (.iconst 0, 1) := by decide +kernel
theorem dX5_skips_54 : decode cX5_skips 54 = .ok (.ireturn, 1) := by decide +kernel
theorem dX6_init_0 : decode cX6_init 0 = .ok (.aload_n 0, 1) := by decide +kernel
theorem dX6_init_1 : decode cX6_init 1 = .ok (.invokespecial 1, 3) := by decide +kernel
theorem dX6_init_4 : decode cX6_init 4 = .ok (.return_, 1) := by decide +kernel
theorem dX6_presses_0 : decode cX6_presses 0 = .ok (.aload_n 0, 1) := by decide +kernel
theorem dX6_presses_1 : decode cX6_presses 1 = .ok (.iload_n 1, 1) := by decide +kernel
theorem dX6_presses_2 : decode cX6_presses 2 = .ok (.iload_n 2, 1) := by decide +kernel
theorem dX6_presses_3 : decode cX6_presses 3 = .ok (.invokespecial 7, 3) := by decide +kernel
theorem dX6_presses_6 : decode cX6_presses 6 = .ok (.iload_n 2, 1) := by decide +kernel
theorem dX6_presses_7 : decode cX6_presses 7 = .ok (.bipush 60, 2) := by decide +kernel
theorem dX6_presses_9 : decode cX6_presses 9 = .ok (.if_icmp .lt 7, 3) := by decide +kernel
theorem dX6_presses_12 : decode cX6_presses 12 = .ok (.iconst 2, 1) := by decide +kernel
theorem dX6_presses_13 : decode cX6_presses 13 = .ok (.goto 4, 3) := by decide +kernel
theorem dX6_presses_16 : decode cX6_presses 16 = .ok (.iconst 0, 1) := by decide +kernel
theorem dX6_presses_17 : decode cX6_presses 17 = .ok (.iadd, 1) := by decide +kernel
theorem dX6_presses_18 : decode cX6_presses 18 = .ok (.ireturn, 1) := by decide +kernel
theorem dX6_strides_0 : decode cX6_strides 0 = .ok (.iconst 0, 1) := by decide +kernel
theorem dX6_strides_1 : decode cX6_strides 1 = .ok (.ireturn, 1) := by decide +kernel
theorem dX6_price_0 : decode cX6_price 0 = .ok (.iconst 0, 1) := by decide +kernel
theorem dX6_price_1 : decode cX6_price 1 = .ok (.ireturn, 1) := by decide +kernel
theorem dX6_fail_0 : decode cX6_fail 0 = .ok (.return_, 1) := by decide +kernel
theorem dX7_digitsBehind_0 : decode cX7_digitsBehind 0 = .ok (.iload_n 0, 1) := by decide +kernel
theorem dX7_digitsBehind_1 : decode cX7_digitsBehind 1 = .ok (.lookupswitch 60 #[(100, 58), (103, 51), (109, 56), (119, 53), (121, 58)], 51) := by decide +kernel
theorem dX7_digitsBehind_52 : decode cX7_digitsBehind 52 = .ok (.iconst 4, 1) := by decide +kernel
theorem dX7_digitsBehind_53 : decode cX7_digitsBehind 53 = .ok (.ireturn, 1) := by decide +kernel
theorem dX7_digitsBehind_54 : decode cX7_digitsBehind 54 = .ok (.bipush 7, 2) := by decide +kernel
theorem dX7_digitsBehind_56 : decode cX7_digitsBehind 56 = .ok (.ireturn, 1) := by decide +kernel
theorem dX7_digitsBehind_57 : decode cX7_digitsBehind 57 = .ok (.iconst 3, 1) := by decide +kernel
theorem dX7_digitsBehind_58 : decode cX7_digitsBehind 58 = .ok (.ireturn, 1) := by decide +kernel
theorem dX7_digitsBehind_59 : decode cX7_digitsBehind 59 = .ok (.iconst 2, 1) := by decide +kernel
theorem dX7_digitsBehind_60 : decode cX7_digitsBehind 60 = .ok (.ireturn, 1) := by decide +kernel
theorem dX7_digitsBehind_61 : decode cX7_digitsBehind 61 = .ok (.iconst (-1), 1) := by decide +kernel
theorem dX7_digitsBehind_62 : decode cX7_digitsBehind 62 = .ok (.ireturn, 1) := by decide +kernel
theorem dX7_lengthFrom_0 : decode cX7_lengthFrom 0 = .ok (.aload_n 0, 1) := by decide +kernel
theorem dX7_lengthFrom_1 : decode cX7_lengthFrom 1 = .ok (.iload_n 1, 1) := by decide +kernel
theorem dX7_lengthFrom_2 : decode cX7_lengthFrom 2 = .ok (.invokevirtual 7, 3) := by decide +kernel
theorem dX7_lengthFrom_5 : decode cX7_lengthFrom 5 = .ok (.invokestatic 13, 3) := by decide +kernel
theorem dX7_lengthFrom_8 : decode cX7_lengthFrom 8 = .ok (.iconst 2, 1) := by decide +kernel
theorem dX7_lengthFrom_9 : decode cX7_lengthFrom 9 = .ok (.iadd, 1) := by decide +kernel
theorem dX7_lengthFrom_10 : decode cX7_lengthFrom 10 = .ok (.ireturn, 1) := by decide +kernel
theorem dX7_firstBadPlace_0 : decode cX7_firstBadPlace 0 = .ok (.iconst 0, 1) := by decide +kernel
theorem dX7_firstBadPlace_1 : decode cX7_firstBadPlace 1 = .ok (.istore_n 1, 1) := by decide +kernel
theorem dX7_firstBadPlace_2 : decode cX7_firstBadPlace 2 = .ok (.aload_n 0, 1) := by decide +kernel
theorem dX7_firstBadPlace_3 : decode cX7_firstBadPlace 3 = .ok (.iload_n 1, 1) := by decide +kernel
theorem dX7_firstBadPlace_4 : decode cX7_firstBadPlace 4 = .ok (.invokevirtual 7, 3) := by decide +kernel
theorem dX7_firstBadPlace_7 : decode cX7_firstBadPlace 7 = .ok (.invokestatic 13, 3) := by decide +kernel
theorem dX7_firstBadPlace_10 : decode cX7_firstBadPlace 10 = .ok (.istore_n 2, 1) := by decide +kernel
theorem dX7_firstBadPlace_11 : decode cX7_firstBadPlace 11 = .ok (.iload_n 2, 1) := by decide +kernel
theorem dX7_firstBadPlace_12 : decode cX7_firstBadPlace 12 = .ok (.ifCond .ge 5, 3) := by decide +kernel
theorem dX7_firstBadPlace_15 : decode cX7_firstBadPlace 15 = .ok (.iload_n 1, 1) := by decide +kernel
theorem dX7_firstBadPlace_16 : decode cX7_firstBadPlace 16 = .ok (.ireturn, 1) := by decide +kernel
theorem dX7_firstBadPlace_17 : decode cX7_firstBadPlace 17 = .ok (.iinc 1 1, 3) := by decide +kernel
theorem dX7_firstBadPlace_20 : decode cX7_firstBadPlace 20 = .ok (.iload_n 1, 1) := by decide +kernel
theorem dX7_firstBadPlace_21 : decode cX7_firstBadPlace 21 = .ok (.iload_n 2, 1) := by decide +kernel
theorem dX7_firstBadPlace_22 : decode cX7_firstBadPlace 22 = .ok (.iadd, 1) := by decide +kernel
theorem dX7_firstBadPlace_23 : decode cX7_firstBadPlace 23 = .ok (.istore_n 3, 1) := by decide +kernel
theorem dX7_firstBadPlace_24 : decode cX7_firstBadPlace 24 = .ok (.iload_n 1, 1) := by decide +kernel
theorem dX7_firstBadPlace_25 : decode cX7_firstBadPlace 25 = .ok (.iload_n 3, 1) := by decide +kernel
theorem dX7_firstBadPlace_26 : decode cX7_firstBadPlace 26 = .ok (.if_icmp .ge 26, 3) := by decide +kernel
theorem dX7_firstBadPlace_29 : decode cX7_firstBadPlace 29 = .ok (.aload_n 0, 1) := by decide +kernel
theorem dX7_firstBadPlace_30 : decode cX7_firstBadPlace 30 = .ok (.iload_n 1, 1) := by decide +kernel
theorem dX7_firstBadPlace_31 : decode cX7_firstBadPlace 31 = .ok (.invokevirtual 7, 3) := by decide +kernel
theorem dX7_firstBadPlace_34 : decode cX7_firstBadPlace 34 = .ok (.bipush 48, 2) := by decide +kernel
theorem dX7_firstBadPlace_36 : decode cX7_firstBadPlace 36 = .ok (.bipush 57, 2) := by decide +kernel
theorem dX7_firstBadPlace_38 : decode cX7_firstBadPlace 38 = .ok (.invokestatic 18, 3) := by decide +kernel
theorem dX7_firstBadPlace_41 : decode cX7_firstBadPlace 41 = .ok (.ifCond .ne 5, 3) := by decide +kernel
theorem dX7_firstBadPlace_44 : decode cX7_firstBadPlace 44 = .ok (.iload_n 1, 1) := by decide +kernel
theorem dX7_firstBadPlace_45 : decode cX7_firstBadPlace 45 = .ok (.ireturn, 1) := by decide +kernel
theorem dX7_firstBadPlace_46 : decode cX7_firstBadPlace 46 = .ok (.iinc 1 1, 3) := by decide +kernel
theorem dX7_firstBadPlace_49 : decode cX7_firstBadPlace 49 = .ok (.goto (-25), 3) := by decide +kernel
theorem dX7_firstBadPlace_52 : decode cX7_firstBadPlace 52 = .ok (.aload_n 0, 1) := by decide +kernel
theorem dX7_firstBadPlace_53 : decode cX7_firstBadPlace 53 = .ok (.iload_n 1, 1) := by decide +kernel
theorem dX7_firstBadPlace_54 : decode cX7_firstBadPlace 54 = .ok (.invokevirtual 7, 3) := by decide +kernel
theorem dX7_firstBadPlace_57 : decode cX7_firstBadPlace 57 = .ok (.bipush 59, 2) := by decide +kernel
theorem dX7_firstBadPlace_59 : decode cX7_firstBadPlace 59 = .ok (.if_icmp .eq 5, 3) := by decide +kernel
theorem dX7_firstBadPlace_62 : decode cX7_firstBadPlace 62 = .ok (.iload_n 1, 1) := by decide +kernel
theorem dX7_firstBadPlace_63 : decode cX7_firstBadPlace 63 = .ok (.ireturn, 1) := by decide +kernel
theorem dX7_firstBadPlace_64 : decode cX7_firstBadPlace 64 = .ok (.iinc 1 1, 3) := by decide +kernel
theorem dX7_firstBadPlace_67 : decode cX7_firstBadPlace 67 = .ok (.iload_n 1, 1) := by decide +kernel
theorem dX7_firstBadPlace_68 : decode cX7_firstBadPlace 68 = .ok (.aload_n 0, 1) := by decide +kernel
theorem dX7_firstBadPlace_69 : decode cX7_firstBadPlace 69 = .ok (.getfield 24, 3) := by decide +kernel
theorem dX7_firstBadPlace_72 : decode cX7_firstBadPlace 72 = .ok (.if_icmp .lt (-70), 3) := by decide +kernel
theorem dX7_firstBadPlace_75 : decode cX7_firstBadPlace 75 = .ok (.iconst (-1), 1) := by decide +kernel
theorem dX7_firstBadPlace_76 : decode cX7_firstBadPlace 76 = .ok (.ireturn, 1) := by decide +kernel
theorem dX7_number_0 : decode cX7_number 0 = .ok (.iconst 0, 1) := by decide +kernel
theorem dX7_number_1 : decode cX7_number 1 = .ok (.istore_n 3, 1) := by decide +kernel
theorem dX7_number_2 : decode cX7_number 2 = .ok (.iconst 0, 1) := by decide +kernel
theorem dX7_number_3 : decode cX7_number 3 = .ok (.istore 4, 2) := by decide +kernel
theorem dX7_number_5 : decode cX7_number 5 = .ok (.iload 4, 2) := by decide +kernel
theorem dX7_number_7 : decode cX7_number 7 = .ok (.iload_n 2, 1) := by decide +kernel
theorem dX7_number_8 : decode cX7_number 8 = .ok (.if_icmp .ge 26, 3) := by decide +kernel
theorem dX7_number_11 : decode cX7_number 11 = .ok (.iload_n 3, 1) := by decide +kernel
theorem dX7_number_12 : decode cX7_number 12 = .ok (.bipush 10, 2) := by decide +kernel
theorem dX7_number_14 : decode cX7_number 14 = .ok (.imul, 1) := by decide +kernel
theorem dX7_number_15 : decode cX7_number 15 = .ok (.aload_n 0, 1) := by decide +kernel
theorem dX7_number_16 : decode cX7_number 16 = .ok (.iload_n 1, 1) := by decide +kernel
theorem dX7_number_17 : decode cX7_number 17 = .ok (.iload 4, 2) := by decide +kernel
theorem dX7_number_19 : decode cX7_number 19 = .ok (.iadd, 1) := by decide +kernel
theorem dX7_number_20 : decode cX7_number 20 = .ok (.invokevirtual 7, 3) := by decide +kernel
theorem dX7_number_23 : decode cX7_number 23 = .ok (.iadd, 1) := by decide +kernel
theorem dX7_number_24 : decode cX7_number 24 = .ok (.bipush 48, 2) := by decide +kernel
theorem dX7_number_26 : decode cX7_number 26 = .ok (.isub, 1) := by decide +kernel
theorem dX7_number_27 : decode cX7_number 27 = .ok (.istore_n 3, 1) := by decide +kernel
theorem dX7_number_28 : decode cX7_number 28 = .ok (.iinc 4 1, 3) := by decide +kernel
theorem dX7_number_31 : decode cX7_number 31 = .ok (.goto (-26), 3) := by decide +kernel
theorem dX7_number_34 : decode cX7_number 34 = .ok (.iload_n 3, 1) := by decide +kernel
theorem dX7_number_35 : decode cX7_number 35 = .ok (.ireturn, 1) := by decide +kernel
theorem dX7_carryOut_0 : decode cX7_carryOut 0 = .ok (.iload_n 1, 1) := by decide +kernel
theorem dX7_carryOut_1 : decode cX7_carryOut 1 = .ok (.iconst 1, 1) := by decide +kernel
theorem dX7_carryOut_2 : decode cX7_carryOut 2 = .ok (.iadd, 1) := by decide +kernel
theorem dX7_carryOut_3 : decode cX7_carryOut 3 = .ok (.istore_n 3, 1) := by decide +kernel
theorem dX7_carryOut_4 : decode cX7_carryOut 4 = .ok (.aload_n 0, 1) := by decide +kernel
theorem dX7_carryOut_5 : decode cX7_carryOut 5 = .ok (.iload_n 1, 1) := by decide +kernel
theorem dX7_carryOut_6 : decode cX7_carryOut 6 = .ok (.invokevirtual 7, 3) := by decide +kernel
theorem dX7_carryOut_9 : decode cX7_carryOut 9 = .ok (.lookupswitch 135 #[(103, 43), (109, 97), (119, 62), (121, 116)], 43) := by decide +kernel
theorem dX7_carryOut_52 : decode cX7_carryOut 52 = .ok (.aload_n 2, 1) := by decide +kernel
theorem dX7_carryOut_53 : decode cX7_carryOut 53 = .ok (.aload_n 0, 1) := by decide +kernel
theorem dX7_carryOut_54 : decode cX7_carryOut 54 = .ok (.iload_n 3, 1) := by decide +kernel
theorem dX7_carryOut_55 : decode cX7_carryOut 55 = .ok (.iconst 2, 1) := by decide +kernel
theorem dX7_carryOut_56 : decode cX7_carryOut 56 = .ok (.invokestatic 28, 3) := by decide +kernel
theorem dX7_carryOut_59 : decode cX7_carryOut 59 = .ok (.aload_n 0, 1) := by decide +kernel
theorem dX7_carryOut_60 : decode cX7_carryOut 60 = .ok (.iload_n 3, 1) := by decide +kernel
theorem dX7_carryOut_61 : decode cX7_carryOut 61 = .ok (.iconst 2, 1) := by decide +kernel
theorem dX7_carryOut_62 : decode cX7_carryOut 62 = .ok (.iadd, 1) := by decide +kernel
theorem dX7_carryOut_63 : decode cX7_carryOut 63 = .ok (.iconst 2, 1) := by decide +kernel
theorem dX7_carryOut_64 : decode cX7_carryOut 64 = .ok (.invokestatic 28, 3) := by decide +kernel
theorem dX7_carryOut_67 : decode cX7_carryOut 67 = .ok (.invokevirtual 32, 3) := by decide +kernel
theorem dX7_carryOut_70 : decode cX7_carryOut 70 = .ok (.ireturn, 1) := by decide +kernel
theorem dX7_carryOut_71 : decode cX7_carryOut 71 = .ok (.aload_n 2, 1) := by decide +kernel
theorem dX7_carryOut_72 : decode cX7_carryOut 72 = .ok (.aload_n 0, 1) := by decide +kernel
theorem dX7_carryOut_73 : decode cX7_carryOut 73 = .ok (.iload_n 3, 1) := by decide +kernel
theorem dX7_carryOut_74 : decode cX7_carryOut 74 = .ok (.iconst 1, 1) := by decide +kernel
theorem dX7_carryOut_75 : decode cX7_carryOut 75 = .ok (.invokestatic 28, 3) := by decide +kernel
theorem dX7_carryOut_78 : decode cX7_carryOut 78 = .ok (.aload_n 0, 1) := by decide +kernel
theorem dX7_carryOut_79 : decode cX7_carryOut 79 = .ok (.iload_n 3, 1) := by decide +kernel
theorem dX7_carryOut_80 : decode cX7_carryOut 80 = .ok (.iconst 1, 1) := by decide +kernel
theorem dX7_carryOut_81 : decode cX7_carryOut 81 = .ok (.iadd, 1) := by decide +kernel
theorem dX7_carryOut_82 : decode cX7_carryOut 82 = .ok (.iconst 1, 1) := by decide +kernel
theorem dX7_carryOut_83 : decode cX7_carryOut 83 = .ok (.invokestatic 28, 3) := by decide +kernel
theorem dX7_carryOut_86 : decode cX7_carryOut 86 = .ok (.aload_n 0, 1) := by decide +kernel
theorem dX7_carryOut_87 : decode cX7_carryOut 87 = .ok (.iload_n 3, 1) := by decide +kernel
theorem dX7_carryOut_88 : decode cX7_carryOut 88 = .ok (.iconst 2, 1) := by decide +kernel
theorem dX7_carryOut_89 : decode cX7_carryOut 89 = .ok (.iadd, 1) := by decide +kernel
theorem dX7_carryOut_90 : decode cX7_carryOut 90 = .ok (.iconst 3, 1) := by decide +kernel
theorem dX7_carryOut_91 : decode cX7_carryOut 91 = .ok (.invokestatic 28, 3) := by decide +kernel
theorem dX7_carryOut_94 : decode cX7_carryOut 94 = .ok (.aload_n 0, 1) := by decide +kernel
theorem dX7_carryOut_95 : decode cX7_carryOut 95 = .ok (.iload_n 3, 1) := by decide +kernel
theorem dX7_carryOut_96 : decode cX7_carryOut 96 = .ok (.iconst 5, 1) := by decide +kernel
theorem dX7_carryOut_97 : decode cX7_carryOut 97 = .ok (.iadd, 1) := by decide +kernel
theorem dX7_carryOut_98 : decode cX7_carryOut 98 = .ok (.iconst 2, 1) := by decide +kernel
theorem dX7_carryOut_99 : decode cX7_carryOut 99 = .ok (.invokestatic 28, 3) := by decide +kernel
theorem dX7_carryOut_102 : decode cX7_carryOut 102 = .ok (.invokevirtual 38, 3) := by decide +kernel
theorem dX7_carryOut_105 : decode cX7_carryOut 105 = .ok (.ireturn, 1) := by decide +kernel
theorem dX7_carryOut_106 : decode cX7_carryOut 106 = .ok (.aload_n 2, 1) := by decide +kernel
theorem dX7_carryOut_107 : decode cX7_carryOut 107 = .ok (.aload_n 0, 1) := by decide +kernel
theorem dX7_carryOut_108 : decode cX7_carryOut 108 = .ok (.iload_n 3, 1) := by decide +kernel
theorem dX7_carryOut_109 : decode cX7_carryOut 109 = .ok (.iconst 1, 1) := by decide +kernel
theorem dX7_carryOut_110 : decode cX7_carryOut 110 = .ok (.invokestatic 28, 3) := by decide +kernel
theorem dX7_carryOut_113 : decode cX7_carryOut 113 = .ok (.aload_n 0, 1) := by decide +kernel
theorem dX7_carryOut_114 : decode cX7_carryOut 114 = .ok (.iload_n 3, 1) := by decide +kernel
theorem dX7_carryOut_115 : decode cX7_carryOut 115 = .ok (.iconst 1, 1) := by decide +kernel
theorem dX7_carryOut_116 : decode cX7_carryOut 116 = .ok (.iadd, 1) := by decide +kernel
theorem dX7_carryOut_117 : decode cX7_carryOut 117 = .ok (.iconst 2, 1) := by decide +kernel
theorem dX7_carryOut_118 : decode cX7_carryOut 118 = .ok (.invokestatic 28, 3) := by decide +kernel
theorem dX7_carryOut_121 : decode cX7_carryOut 121 = .ok (.invokevirtual 42, 3) := by decide +kernel
theorem dX7_carryOut_124 : decode cX7_carryOut 124 = .ok (.ireturn, 1) := by decide +kernel
theorem dX7_carryOut_125 : decode cX7_carryOut 125 = .ok (.aload_n 2, 1) := by decide +kernel
theorem dX7_carryOut_126 : decode cX7_carryOut 126 = .ok (.aload_n 0, 1) := by decide +kernel
theorem dX7_carryOut_127 : decode cX7_carryOut 127 = .ok (.iload_n 3, 1) := by decide +kernel
theorem dX7_carryOut_128 : decode cX7_carryOut 128 = .ok (.iconst 1, 1) := by decide +kernel
theorem dX7_carryOut_129 : decode cX7_carryOut 129 = .ok (.invokestatic 28, 3) := by decide +kernel
theorem dX7_carryOut_132 : decode cX7_carryOut 132 = .ok (.aload_n 0, 1) := by decide +kernel
theorem dX7_carryOut_133 : decode cX7_carryOut 133 = .ok (.iload_n 3, 1) := by decide +kernel
theorem dX7_carryOut_134 : decode cX7_carryOut 134 = .ok (.iconst 1, 1) := by decide +kernel
theorem dX7_carryOut_135 : decode cX7_carryOut 135 = .ok (.iadd, 1) := by decide +kernel
theorem dX7_carryOut_136 : decode cX7_carryOut 136 = .ok (.iconst 1, 1) := by decide +kernel
theorem dX7_carryOut_137 : decode cX7_carryOut 137 = .ok (.invokestatic 28, 3) := by decide +kernel
theorem dX7_carryOut_140 : decode cX7_carryOut 140 = .ok (.invokevirtual 45, 3) := by decide +kernel
theorem dX7_carryOut_143 : decode cX7_carryOut 143 = .ok (.ireturn, 1) := by decide +kernel
theorem dX7_carryOut_144 : decode cX7_carryOut 144 = .ok (.aload_n 2, 1) := by decide +kernel
theorem dX7_carryOut_145 : decode cX7_carryOut 145 = .ok (.aload_n 0, 1) := by decide +kernel
theorem dX7_carryOut_146 : decode cX7_carryOut 146 = .ok (.iload_n 3, 1) := by decide +kernel
theorem dX7_carryOut_147 : decode cX7_carryOut 147 = .ok (.iconst 2, 1) := by decide +kernel
theorem dX7_carryOut_148 : decode cX7_carryOut 148 = .ok (.invokestatic 28, 3) := by decide +kernel
theorem dX7_carryOut_151 : decode cX7_carryOut 151 = .ok (.invokevirtual 48, 3) := by decide +kernel
theorem dX7_carryOut_154 : decode cX7_carryOut 154 = .ok (.ireturn, 1) := by decide +kernel
theorem dX8_init_0 : decode cX8_init 0 = .ok (.aload_n 0, 1) := by decide +kernel
theorem dX8_init_1 : decode cX8_init 1 = .ok (.invokespecial 1, 3) := by decide +kernel
theorem dX8_init_4 : decode cX8_init 4 = .ok (.return_, 1) := by decide +kernel
theorem dX8_presses_0 : decode cX8_presses 0 = .ok (.aload_n 0, 1) := by decide +kernel
theorem dX8_presses_1 : decode cX8_presses 1 = .ok (.iload_n 1, 1) := by decide +kernel
theorem dX8_presses_2 : decode cX8_presses 2 = .ok (.iload_n 2, 1) := by decide +kernel
theorem dX8_presses_3 : decode cX8_presses 3 = .ok (.invokespecial 7, 3) := by decide +kernel
theorem dX8_presses_6 : decode cX8_presses 6 = .ok (.iconst 1, 1) := by decide +kernel
theorem dX8_presses_7 : decode cX8_presses 7 = .ok (.iadd, 1) := by decide +kernel
theorem dX8_presses_8 : decode cX8_presses 8 = .ok (.ireturn, 1) := by decide +kernel
theorem dX8_strides_0 : decode cX8_strides 0 = .ok (.iconst 3, 1) := by decide +kernel
theorem dX8_strides_1 : decode cX8_strides 1 = .ok (.ireturn, 1) := by decide +kernel
theorem dX8_shows_0 : decode cX8_shows 0 = .ok (.aload_n 0, 1) := by decide +kernel
theorem dX8_shows_1 : decode cX8_shows 1 = .ok (.iload_n 1, 1) := by decide +kernel
theorem dX8_shows_2 : decode cX8_shows 2 = .ok (.iload_n 2, 1) := by decide +kernel
theorem dX8_shows_3 : decode cX8_shows 3 = .ok (.invokespecial 11, 3) := by decide +kernel
theorem dX8_shows_6 : decode cX8_shows 6 = .ok (.iconst 2, 1) := by decide +kernel
theorem dX8_shows_7 : decode cX8_shows 7 = .ok (.idiv, 1) := by decide +kernel
theorem dX8_shows_8 : decode cX8_shows 8 = .ok (.ireturn, 1) := by decide +kernel
theorem dX9_init_0 : decode cX9_init 0 = .ok (.aload_n 0, 1) := by decide +kernel
theorem dX9_init_1 : decode cX9_init 1 = .ok (.invokespecial 1, 3) := by decide +kernel
theorem dX9_init_4 : decode cX9_init 4 = .ok (.return_, 1) := by decide +kernel
theorem dX9_presses_0 : decode cX9_presses 0 = .ok (.iload_n 2, 1) := by decide +kernel
theorem dX9_presses_1 : decode cX9_presses 1 = .ok (.bipush 60, 2) := by decide +kernel
theorem dX9_presses_3 : decode cX9_presses 3 = .ok (.if_icmp .ge 7, 3) := by decide +kernel
theorem dX9_presses_6 : decode cX9_presses 6 = .ok (.iconst 0, 1) := by decide +kernel
theorem dX9_presses_7 : decode cX9_presses 7 = .ok (.goto 10, 3) := by decide +kernel
theorem dX9_presses_10 : decode cX9_presses 10 = .ok (.iload_n 2, 1) := by decide +kernel
theorem dX9_presses_11 : decode cX9_presses 11 = .ok (.bipush 60, 2) := by decide +kernel
theorem dX9_presses_13 : decode cX9_presses 13 = .ok (.isub, 1) := by decide +kernel
theorem dX9_presses_14 : decode cX9_presses 14 = .ok (.bipush 10, 2) := by decide +kernel
theorem dX9_presses_16 : decode cX9_presses 16 = .ok (.idiv, 1) := by decide +kernel
theorem dX9_presses_17 : decode cX9_presses 17 = .ok (.ireturn, 1) := by decide +kernel
theorem dX9_spreads_0 : decode cX9_spreads 0 = .ok (.iconst 0, 1) := by decide +kernel
theorem dX9_spreads_1 : decode cX9_spreads 1 = .ok (.ireturn, 1) := by decide +kernel
theorem dX9_strides_0 : decode cX9_strides 0 = .ok (.iconst 2, 1) := by decide +kernel
theorem dX9_strides_1 : decode cX9_strides 1 = .ok (.ireturn, 1) := by decide +kernel
theorem dX9_shows_0 : decode cX9_shows 0 = .ok (.iload_n 2, 1) := by decide +kernel
theorem dX9_shows_1 : decode cX9_shows 1 = .ok (.ireturn, 1) := by decide +kernel
theorem dX9_price_0 : decode cX9_price 0 = .ok (.iconst 3, 1) := by decide +kernel
theorem dX9_price_1 : decode cX9_price 1 = .ok (.ireturn, 1) := by decide +kernel
theorem dX9_fail_0 : decode cX9_fail 0 = .ok (.iload_n 1, 1) := by decide +kernel
theorem dX9_fail_1 : decode cX9_fail 1 = .ok (.ifCond .eq 13, 3) := by decide +kernel
theorem dX9_fail_4 : decode cX9_fail 4 = .ok (.new 7, 3) := by decide +kernel
theorem dX9_fail_7 : decode cX9_fail 7 = .ok (.dup, 1) := by decide +kernel
theorem dX9_fail_8 : decode cX9_fail 8 = .ok (.ldc 9, 2) := by decide +kernel
theorem dX9_fail_10 : decode cX9_fail 10 = .ok (.invokespecial 11, 3) := by decide +kernel
theorem dX9_fail_13 : decode cX9_fail 13 = .ok (.athrow, 1) := by decide +kernel
theorem dX9_fail_14 : decode cX9_fail 14 = .ok (.return_, 1) := by decide +kernel
theorem dX9_failureAsTold_0 : decode cX9_failureAsTold 0 = .ok (.iload_n 1, 1) := by decide +kernel
theorem dX9_failureAsTold_1 : decode cX9_failureAsTold 1 = .ok (.ireturn, 1) := by decide +kernel
theorem dX10_init_0 : decode cX10_init 0 = .ok (.aload_n 0, 1) := by decide +kernel
theorem dX10_init_1 : decode cX10_init 1 = .ok (.invokespecial 1, 3) := by decide +kernel
theorem dX10_init_4 : decode cX10_init 4 = .ok (.return_, 1) := by decide +kernel
theorem dX10_presses_0 : decode cX10_presses 0 = .ok (.iconst 0, 1) := by decide +kernel
theorem dX10_presses_1 : decode cX10_presses 1 = .ok (.ireturn, 1) := by decide +kernel
theorem dX10_strides_0 : decode cX10_strides 0 = .ok (.iconst 3, 1) := by decide +kernel
theorem dX10_strides_1 : decode cX10_strides 1 = .ok (.iload_n 1, 1) := by decide +kernel
theorem dX10_strides_2 : decode cX10_strides 2 = .ok (.iconst 3, 1) := by decide +kernel
theorem dX10_strides_3 : decode cX10_strides 3 = .ok (.idiv, 1) := by decide +kernel
theorem dX10_strides_4 : decode cX10_strides 4 = .ok (.iadd, 1) := by decide +kernel
theorem dX10_strides_5 : decode cX10_strides 5 = .ok (.ireturn, 1) := by decide +kernel
theorem dX10_price_0 : decode cX10_price 0 = .ok (.aload_n 0, 1) := by decide +kernel
theorem dX10_price_1 : decode cX10_price 1 = .ok (.iload_n 1, 1) := by decide +kernel
theorem dX10_price_2 : decode cX10_price 2 = .ok (.invokespecial 7, 3) := by decide +kernel
theorem dX10_price_5 : decode cX10_price 5 = .ok (.iload_n 1, 1) := by decide +kernel
theorem dX10_price_6 : decode cX10_price 6 = .ok (.iadd, 1) := by decide +kernel
theorem dX10_price_7 : decode cX10_price 7 = .ok (.ireturn, 1) := by decide +kernel
theorem dX11_init_0 : decode cX11_init 0 = .ok (.aload_n 0, 1) := by decide +kernel
theorem dX11_init_1 : decode cX11_init 1 = .ok (.invokespecial 1, 3) := by decide +kernel
theorem dX11_init_4 : decode cX11_init 4 = .ok (.aload_n 0, 1) := by decide +kernel
theorem dX11_init_5 : decode cX11_init 5 = .ok (.bipush 8, 2) := by decide +kernel
theorem dX11_init_7 : decode cX11_init 7 = .ok (.anewarray 9, 3) := by decide +kernel
theorem dX11_init_10 : decode cX11_init 10 = .ok (.putfield 11, 3) := by decide +kernel
theorem dX11_init_13 : decode cX11_init 13 = .ok (.iconst 0, 1) := by decide +kernel
theorem dX11_init_14 : decode cX11_init 14 = .ok (.istore_n 1, 1) := by decide +kernel
theorem dX11_init_15 : decode cX11_init 15 = .ok (.iload_n 1, 1) := by decide +kernel
theorem dX11_init_16 : decode cX11_init 16 = .ok (.bipush 8, 2) := by decide +kernel
theorem dX11_init_18 : decode cX11_init 18 = .ok (.if_icmp .ge 22, 3) := by decide +kernel
theorem dX11_init_21 : decode cX11_init 21 = .ok (.aload_n 0, 1) := by decide +kernel
theorem dX11_init_22 : decode cX11_init 22 = .ok (.getfield 11, 3) := by decide +kernel
theorem dX11_init_25 : decode cX11_init 25 = .ok (.iload_n 1, 1) := by decide +kernel
theorem dX11_init_26 : decode cX11_init 26 = .ok (.new 9, 3) := by decide +kernel
theorem dX11_init_29 : decode cX11_init 29 = .ok (.dup, 1) := by decide +kernel
theorem dX11_init_30 : decode cX11_init 30 = .ok (.invokespecial 15, 3) := by decide +kernel
theorem dX11_init_33 : decode cX11_init 33 = .ok (.aastore, 1) := by decide +kernel
theorem dX11_init_34 : decode cX11_init 34 = .ok (.iinc 1 1, 3) := by decide +kernel
theorem dX11_init_37 : decode cX11_init 37 = .ok (.goto (-22), 3) := by decide +kernel
theorem dX11_init_40 : decode cX11_init 40 = .ok (.bipush 8, 2) := by decide +kernel
theorem dX11_init_42 : decode cX11_init 42 = .ok (.anewarray 16, 3) := by decide +kernel
theorem dX11_init_45 : decode cX11_init 45 = .ok (.astore_n 1, 1) := by decide +kernel
theorem dX11_init_46 : decode cX11_init 46 = .ok (.aload_n 1, 1) := by decide +kernel
theorem dX11_init_47 : decode cX11_init 47 = .ok (.iconst 0, 1) := by decide +kernel
theorem dX11_init_48 : decode cX11_init 48 = .ok (.new 16, 3) := by decide +kernel
theorem dX11_init_51 : decode cX11_init 51 = .ok (.dup, 1) := by decide +kernel
theorem dX11_init_52 : decode cX11_init 52 = .ok (.invokespecial 18, 3) := by decide +kernel
theorem dX11_init_55 : decode cX11_init 55 = .ok (.aastore, 1) := by decide +kernel
theorem dX11_init_56 : decode cX11_init 56 = .ok (.aload_n 1, 1) := by decide +kernel
theorem dX11_init_57 : decode cX11_init 57 = .ok (.iconst 1, 1) := by decide +kernel
theorem dX11_init_58 : decode cX11_init 58 = .ok (.new 19, 3) := by decide +kernel
theorem dX11_init_61 : decode cX11_init 61 = .ok (.dup, 1) := by decide +kernel
theorem dX11_init_62 : decode cX11_init 62 = .ok (.invokespecial 21, 3) := by decide +kernel
theorem dX11_init_65 : decode cX11_init 65 = .ok (.aastore, 1) := by decide +kernel
theorem dX11_init_66 : decode cX11_init 66 = .ok (.aload_n 1, 1) := by decide +kernel
theorem dX11_init_67 : decode cX11_init 67 = .ok (.iconst 2, 1) := by decide +kernel
theorem dX11_init_68 : decode cX11_init 68 = .ok (.new 22, 3) := by decide +kernel
theorem dX11_init_71 : decode cX11_init 71 = .ok (.dup, 1) := by decide +kernel
theorem dX11_init_72 : decode cX11_init 72 = .ok (.invokespecial 24, 3) := by decide +kernel
theorem dX11_init_75 : decode cX11_init 75 = .ok (.aastore, 1) := by decide +kernel
theorem dX11_init_76 : decode cX11_init 76 = .ok (.aload_n 1, 1) := by decide +kernel
theorem dX11_init_77 : decode cX11_init 77 = .ok (.iconst 3, 1) := by decide +kernel
theorem dX11_init_78 : decode cX11_init 78 = .ok (.new 25, 3) := by decide +kernel
theorem dX11_init_81 : decode cX11_init 81 = .ok (.dup, 1) := by decide +kernel
theorem dX11_init_82 : decode cX11_init 82 = .ok (.invokespecial 27, 3) := by decide +kernel
theorem dX11_init_85 : decode cX11_init 85 = .ok (.aastore, 1) := by decide +kernel
theorem dX11_init_86 : decode cX11_init 86 = .ok (.aload_n 1, 1) := by decide +kernel
theorem dX11_init_87 : decode cX11_init 87 = .ok (.iconst 4, 1) := by decide +kernel
theorem dX11_init_88 : decode cX11_init 88 = .ok (.new 28, 3) := by decide +kernel
theorem dX11_init_91 : decode cX11_init 91 = .ok (.dup, 1) := by decide +kernel
theorem dX11_init_92 : decode cX11_init 92 = .ok (.invokespecial 30, 3) := by decide +kernel
theorem dX11_init_95 : decode cX11_init 95 = .ok (.aastore, 1) := by decide +kernel
theorem dX11_init_96 : decode cX11_init 96 = .ok (.aload_n 1, 1) := by decide +kernel
theorem dX11_init_97 : decode cX11_init 97 = .ok (.iconst 5, 1) := by decide +kernel
theorem dX11_init_98 : decode cX11_init 98 = .ok (.new 31, 3) := by decide +kernel
theorem dX11_init_101 : decode cX11_init 101 = .ok (.dup, 1) := by decide +kernel
theorem dX11_init_102 : decode cX11_init 102 = .ok (.invokespecial 33, 3) := by decide +kernel
theorem dX11_init_105 : decode cX11_init 105 = .ok (.aastore, 1) := by decide +kernel
theorem dX11_init_106 : decode cX11_init 106 = .ok (.aload_n 1, 1) := by decide +kernel
theorem dX11_init_107 : decode cX11_init 107 = .ok (.bipush 6, 2) := by decide +kernel
theorem dX11_init_109 : decode cX11_init 109 = .ok (.new 34, 3) := by decide +kernel
theorem dX11_init_112 : decode cX11_init 112 = .ok (.dup, 1) := by decide +kernel
theorem dX11_init_113 : decode cX11_init 113 = .ok (.invokespecial 36, 3) := by decide +kernel
theorem dX11_init_116 : decode cX11_init 116 = .ok (.aastore, 1) := by decide +kernel
theorem dX11_init_117 : decode cX11_init 117 = .ok (.aload_n 1, 1) := by decide +kernel
theorem dX11_init_118 : decode cX11_init 118 = .ok (.bipush 7, 2) := by decide +kernel
theorem dX11_init_120 : decode cX11_init 120 = .ok (.new 37, 3) := by decide +kernel
theorem dX11_init_123 : decode cX11_init 123 = .ok (.dup, 1) := by decide +kernel
theorem dX11_init_124 : decode cX11_init 124 = .ok (.invokespecial 39, 3) := by decide +kernel
theorem dX11_init_127 : decode cX11_init 127 = .ok (.aastore, 1) := by decide +kernel
theorem dX11_init_128 : decode cX11_init 128 = .ok (.aload_n 0, 1) := by decide +kernel
theorem dX11_init_129 : decode cX11_init 129 = .ok (.new 40, 3) := by decide +kernel
theorem dX11_init_132 : decode cX11_init 132 = .ok (.dup, 1) := by decide +kernel
theorem dX11_init_133 : decode cX11_init 133 = .ok (.aload_n 1, 1) := by decide +kernel
theorem dX11_init_134 : decode cX11_init 134 = .ok (.invokespecial 42, 3) := by decide +kernel
theorem dX11_init_137 : decode cX11_init 137 = .ok (.putfield 45, 3) := by decide +kernel
theorem dX11_init_140 : decode cX11_init 140 = .ok (.aload_n 0, 1) := by decide +kernel
theorem dX11_init_141 : decode cX11_init 141 = .ok (.new 40, 3) := by decide +kernel
theorem dX11_init_144 : decode cX11_init 144 = .ok (.dup, 1) := by decide +kernel
theorem dX11_init_145 : decode cX11_init 145 = .ok (.aload_n 1, 1) := by decide +kernel
theorem dX11_init_146 : decode cX11_init 146 = .ok (.invokespecial 42, 3) := by decide +kernel
theorem dX11_init_149 : decode cX11_init 149 = .ok (.putfield 49, 3) := by decide +kernel
theorem dX11_init_152 : decode cX11_init 152 = .ok (.aload_n 0, 1) := by decide +kernel
theorem dX11_init_153 : decode cX11_init 153 = .ok (.new 40, 3) := by decide +kernel
theorem dX11_init_156 : decode cX11_init 156 = .ok (.dup, 1) := by decide +kernel
theorem dX11_init_157 : decode cX11_init 157 = .ok (.aload_n 1, 1) := by decide +kernel
theorem dX11_init_158 : decode cX11_init 158 = .ok (.invokespecial 42, 3) := by decide +kernel
theorem dX11_init_161 : decode cX11_init 161 = .ok (.putfield 52, 3) := by decide +kernel
theorem dX11_init_164 : decode cX11_init 164 = .ok (.return_, 1) := by decide +kernel
theorem dX11_country_0 : decode cX11_country 0 = .ok (.aload_n 0, 1) := by decide +kernel
theorem dX11_country_1 : decode cX11_country 1 = .ok (.iload_n 1, 1) := by decide +kernel
theorem dX11_country_2 : decode cX11_country 2 = .ok (.invokevirtual 55, 3) := by decide +kernel
theorem dX11_country_5 : decode cX11_country 5 = .ok (.istore_n 2, 1) := by decide +kernel
theorem dX11_country_6 : decode cX11_country 6 = .ok (.iload_n 2, 1) := by decide +kernel
theorem dX11_country_7 : decode cX11_country 7 = .ok (.ifCond .ge 5, 3) := by decide +kernel
theorem dX11_country_10 : decode cX11_country 10 = .ok (.iload_n 2, 1) := by decide +kernel
theorem dX11_country_11 : decode cX11_country 11 = .ok (.ireturn, 1) := by decide +kernel
theorem dX11_country_12 : decode cX11_country 12 = .ok (.aload_n 0, 1) := by decide +kernel
theorem dX11_country_13 : decode cX11_country 13 = .ok (.getfield 11, 3) := by decide +kernel
theorem dX11_country_16 : decode cX11_country 16 = .ok (.iload_n 1, 1) := by decide +kernel
theorem dX11_country_17 : decode cX11_country 17 = .ok (.aaload, 1) := by decide +kernel
theorem dX11_country_18 : decode cX11_country 18 = .ok (.astore_n 3, 1) := by decide +kernel
theorem dX11_country_19 : decode cX11_country 19 = .ok (.aload_n 3, 1) := by decide +kernel
theorem dX11_country_20 : decode cX11_country 20 = .ok (.getfield 59, 3) := by decide +kernel
theorem dX11_country_23 : decode cX11_country 23 = .ok (.ifCond .eq 6, 3) := by decide +kernel
theorem dX11_country_26 : decode cX11_country 26 = .ok (.bipush (-12), 2) := by decide +kernel
theorem dX11_country_28 : decode cX11_country 28 = .ok (.ireturn, 1) := by decide +kernel
theorem dX11_country_29 : decode cX11_country 29 = .ok (.aload_n 3, 1) := by decide +kernel
theorem dX11_country_30 : decode cX11_country 30 = .ok (.invokestatic 63, 3) := by decide +kernel
theorem dX11_country_33 : decode cX11_country 33 = .ok (.istore 4, 2) := by decide +kernel
theorem dX11_country_35 : decode cX11_country 35 = .ok (.iload 4, 2) := by decide +kernel
theorem dX11_country_37 : decode cX11_country 37 = .ok (.ifCond .lt 10, 3) := by decide +kernel
theorem dX11_country_40 : decode cX11_country 40 = .ok (.sipush (-1000), 3) := by decide +kernel
theorem dX11_country_43 : decode cX11_country 43 = .ok (.iload 4, 2) := by decide +kernel
theorem dX11_country_45 : decode cX11_country 45 = .ok (.isub, 1) := by decide +kernel
theorem dX11_country_46 : decode cX11_country 46 = .ok (.ireturn, 1) := by decide +kernel
theorem dX11_country_47 : decode cX11_country 47 = .ok (.aload_n 0, 1) := by decide +kernel
theorem dX11_country_48 : decode cX11_country 48 = .ok (.getfield 49, 3) := by decide +kernel
theorem dX11_country_51 : decode cX11_country 51 = .ok (.aload_n 0, 1) := by decide +kernel
theorem dX11_country_52 : decode cX11_country 52 = .ok (.getfield 45, 3) := by decide +kernel
theorem dX11_country_55 : decode cX11_country 55 = .ok (.invokevirtual 69, 3) := by decide +kernel
theorem dX11_country_58 : decode cX11_country 58 = .ok (.iconst 0, 1) := by decide +kernel
theorem dX11_country_59 : decode cX11_country 59 = .ok (.istore 5, 2) := by decide +kernel
theorem dX11_country_61 : decode cX11_country 61 = .ok (.iconst 0, 1) := by decide +kernel
theorem dX11_country_62 : decode cX11_country 62 = .ok (.istore 6, 2) := by decide +kernel
theorem dX11_country_64 : decode cX11_country 64 = .ok (.iload 6, 2) := by decide +kernel
theorem dX11_country_66 : decode cX11_country 66 = .ok (.aload_n 3, 1) := by decide +kernel
theorem dX11_country_67 : decode cX11_country 67 = .ok (.getfield 73, 3) := by decide +kernel
theorem dX11_country_70 : decode cX11_country 70 = .ok (.if_icmp .ge 47, 3) := by decide +kernel
theorem dX11_country_73 : decode cX11_country 73 = .ok (.iload 5, 2) := by decide +kernel
theorem dX11_country_75 : decode cX11_country 75 = .ok (.bipush 100, 2) := by decide +kernel
theorem dX11_country_77 : decode cX11_country 77 = .ok (.if_icmp .ge 40, 3) := by decide +kernel
theorem dX11_country_80 : decode cX11_country 80 = .ok (.aload_n 3, 1) := by decide +kernel
theorem dX11_country_81 : decode cX11_country 81 = .ok (.iload 6, 2) := by decide +kernel
theorem dX11_country_83 : decode cX11_country 83 = .ok (.aload_n 0, 1) := by decide +kernel
theorem dX11_country_84 : decode cX11_country 84 = .ok (.getfield 49, 3) := by decide +kernel
theorem dX11_country_87 : decode cX11_country 87 = .ok (.invokestatic 76, 3) := by decide +kernel
theorem dX11_country_90 : decode cX11_country 90 = .ok (.ifCond .ne 10, 3) := by decide +kernel
theorem dX11_country_93 : decode cX11_country 93 = .ok (.sipush (-2000), 3) := by decide +kernel
theorem dX11_country_96 : decode cX11_country 96 = .ok (.iload 6, 2) := by decide +kernel
theorem dX11_country_98 : decode cX11_country 98 = .ok (.isub, 1) := by decide +kernel
theorem dX11_country_99 : decode cX11_country 99 = .ok (.ireturn, 1) := by decide +kernel
theorem dX11_country_100 : decode cX11_country 100 = .ok (.iload 6, 2) := by decide +kernel
theorem dX11_country_102 : decode cX11_country 102 = .ok (.aload_n 3, 1) := by decide +kernel
theorem dX11_country_103 : decode cX11_country 103 = .ok (.iload 6, 2) := by decide +kernel
theorem dX11_country_105 : decode cX11_country 105 = .ok (.invokestatic 80, 3) := by decide +kernel
theorem dX11_country_108 : decode cX11_country 108 = .ok (.iadd, 1) := by decide +kernel
theorem dX11_country_109 : decode cX11_country 109 = .ok (.istore 6, 2) := by decide +kernel
theorem dX11_country_111 : decode cX11_country 111 = .ok (.iinc 5 1, 3) := by decide +kernel
theorem dX11_country_114 : decode cX11_country 114 = .ok (.goto (-50), 3) := by decide +kernel
theorem dX11_country_117 : decode cX11_country 117 = .ok (.aload_n 0, 1) := by decide +kernel
theorem dX11_country_118 : decode cX11_country 118 = .ok (.getfield 45, 3) := by decide +kernel
theorem dX11_country_121 : decode cX11_country 121 = .ok (.aload_n 0, 1) := by decide +kernel
theorem dX11_country_122 : decode cX11_country 122 = .ok (.getfield 49, 3) := by decide +kernel
theorem dX11_country_125 : decode cX11_country 125 = .ok (.invokevirtual 69, 3) := by decide +kernel
theorem dX11_country_128 : decode cX11_country 128 = .ok (.iload 5, 2) := by decide +kernel
theorem dX11_country_130 : decode cX11_country 130 = .ok (.ireturn, 1) := by decide +kernel
theorem dX11_walker_0 : decode cX11_walker 0 = .ok (.aload_n 0, 1) := by decide +kernel
theorem dX11_walker_1 : decode cX11_walker 1 = .ok (.getfield 45, 3) := by decide +kernel
theorem dX11_walker_4 : decode cX11_walker 4 = .ok (.iload_n 1, 1) := by decide +kernel
theorem dX11_walker_5 : decode cX11_walker 5 = .ok (.invokevirtual 84, 3) := by decide +kernel
theorem dX11_walker_8 : decode cX11_walker 8 = .ok (.ifCond .ne 5, 3) := by decide +kernel
theorem dX11_walker_11 : decode cX11_walker 11 = .ok (.iconst (-1), 1) := by decide +kernel
theorem dX11_walker_12 : decode cX11_walker 12 = .ok (.ireturn, 1) := by decide +kernel
theorem dX11_walker_13 : decode cX11_walker 13 = .ok (.iload_n 2, 1) := by decide +kernel
theorem dX11_walker_14 : decode cX11_walker 14 = .ok (.tableswitch 142 0 8 #[50, 60, 70, 80, 90, 103, 113, 123, 132], 50) := by decide +kernel
theorem dX11_walker_64 : decode cX11_walker 64 = .ok (.aload_n 0, 1) := by decide +kernel
theorem dX11_walker_65 : decode cX11_walker 65 = .ok (.getfield 45, 3) := by decide +kernel
theorem dX11_walker_68 : decode cX11_walker 68 = .ok (.getfield 88, 3) := by decide +kernel
theorem dX11_walker_71 : decode cX11_walker 71 = .ok (.iload_n 1, 1) := by decide +kernel
theorem dX11_walker_72 : decode cX11_walker 72 = .ok (.iaload, 1) := by decide +kernel
theorem dX11_walker_73 : decode cX11_walker 73 = .ok (.ireturn, 1) := by decide +kernel
theorem dX11_walker_74 : decode cX11_walker 74 = .ok (.aload_n 0, 1) := by decide +kernel
theorem dX11_walker_75 : decode cX11_walker 75 = .ok (.getfield 45, 3) := by decide +kernel
theorem dX11_walker_78 : decode cX11_walker 78 = .ok (.getfield 92, 3) := by decide +kernel
theorem dX11_walker_81 : decode cX11_walker 81 = .ok (.iload_n 1, 1) := by decide +kernel
theorem dX11_walker_82 : decode cX11_walker 82 = .ok (.iaload, 1) := by decide +kernel
theorem dX11_walker_83 : decode cX11_walker 83 = .ok (.ireturn, 1) := by decide +kernel
theorem dX11_walker_84 : decode cX11_walker 84 = .ok (.aload_n 0, 1) := by decide +kernel
theorem dX11_walker_85 : decode cX11_walker 85 = .ok (.getfield 45, 3) := by decide +kernel
theorem dX11_walker_88 : decode cX11_walker 88 = .ok (.getfield 95, 3) := by decide +kernel
theorem dX11_walker_91 : decode cX11_walker 91 = .ok (.iload_n 1, 1) := by decide +kernel
theorem dX11_walker_92 : decode cX11_walker 92 = .ok (.iaload, 1) := by decide +kernel
theorem dX11_walker_93 : decode cX11_walker 93 = .ok (.ireturn, 1) := by decide +kernel
theorem dX11_walker_94 : decode cX11_walker 94 = .ok (.aload_n 0, 1) := by decide +kernel
theorem dX11_walker_95 : decode cX11_walker 95 = .ok (.getfield 45, 3) := by decide +kernel
theorem dX11_walker_98 : decode cX11_walker 98 = .ok (.getfield 98, 3) := by decide +kernel
theorem dX11_walker_101 : decode cX11_walker 101 = .ok (.iload_n 1, 1) := by decide +kernel
theorem dX11_walker_102 : decode cX11_walker 102 = .ok (.iaload, 1) := by decide +kernel
theorem dX11_walker_103 : decode cX11_walker 103 = .ok (.ireturn, 1) := by decide +kernel
theorem dX11_walker_104 : decode cX11_walker 104 = .ok (.aload_n 0, 1) := by decide +kernel
theorem dX11_walker_105 : decode cX11_walker 105 = .ok (.getfield 45, 3) := by decide +kernel
theorem dX11_walker_108 : decode cX11_walker 108 = .ok (.getfield 101, 3) := by decide +kernel
theorem dX11_walker_111 : decode cX11_walker 111 = .ok (.iload_n 1, 1) := by decide +kernel
theorem dX11_walker_112 : decode cX11_walker 112 = .ok (.iaload, 1) := by decide +kernel
theorem dX11_walker_113 : decode cX11_walker 113 = .ok (.invokestatic 104, 3) := by decide +kernel
theorem dX11_walker_116 : decode cX11_walker 116 = .ok (.ireturn, 1) := by decide +kernel
theorem dX11_walker_117 : decode cX11_walker 117 = .ok (.aload_n 0, 1) := by decide +kernel
theorem dX11_walker_118 : decode cX11_walker 118 = .ok (.getfield 45, 3) := by decide +kernel
theorem dX11_walker_121 : decode cX11_walker 121 = .ok (.getfield 107, 3) := by decide +kernel
theorem dX11_walker_124 : decode cX11_walker 124 = .ok (.iload_n 1, 1) := by decide +kernel
theorem dX11_walker_125 : decode cX11_walker 125 = .ok (.iaload, 1) := by decide +kernel
theorem dX11_walker_126 : decode cX11_walker 126 = .ok (.ireturn, 1) := by decide +kernel
theorem dX11_walker_127 : decode cX11_walker 127 = .ok (.aload_n 0, 1) := by decide +kernel
theorem dX11_walker_128 : decode cX11_walker 128 = .ok (.getfield 45, 3) := by decide +kernel
theorem dX11_walker_131 : decode cX11_walker 131 = .ok (.getfield 110, 3) := by decide +kernel
theorem dX11_walker_134 : decode cX11_walker 134 = .ok (.iload_n 1, 1) := by decide +kernel
theorem dX11_walker_135 : decode cX11_walker 135 = .ok (.iaload, 1) := by decide +kernel
theorem dX11_walker_136 : decode cX11_walker 136 = .ok (.ireturn, 1) := by decide +kernel
theorem dX11_walker_137 : decode cX11_walker 137 = .ok (.aload_n 0, 1) := by decide +kernel
theorem dX11_walker_138 : decode cX11_walker 138 = .ok (.getfield 45, 3) := by decide +kernel
theorem dX11_walker_141 : decode cX11_walker 141 = .ok (.iload_n 1, 1) := by decide +kernel
theorem dX11_walker_142 : decode cX11_walker 142 = .ok (.invokevirtual 113, 3) := by decide +kernel
theorem dX11_walker_145 : decode cX11_walker 145 = .ok (.ireturn, 1) := by decide +kernel
theorem dX11_walker_146 : decode cX11_walker 146 = .ok (.aload_n 0, 1) := by decide +kernel
theorem dX11_walker_147 : decode cX11_walker 147 = .ok (.getfield 45, 3) := by decide +kernel
theorem dX11_walker_150 : decode cX11_walker 150 = .ok (.getfield 116, 3) := by decide +kernel
theorem dX11_walker_153 : decode cX11_walker 153 = .ok (.iload_n 1, 1) := by decide +kernel
theorem dX11_walker_154 : decode cX11_walker 154 = .ok (.iaload, 1) := by decide +kernel
theorem dX11_walker_155 : decode cX11_walker 155 = .ok (.ireturn, 1) := by decide +kernel
theorem dX11_walker_156 : decode cX11_walker 156 = .ok (.iconst (-1), 1) := by decide +kernel
theorem dX11_walker_157 : decode cX11_walker 157 = .ok (.ireturn, 1) := by decide +kernel
theorem dX11_height_0 : decode cX11_height 0 = .ok (.iload_n 1, 1) := by decide +kernel
theorem dX11_height_1 : decode cX11_height 1 = .ok (.invokestatic 119, 3) := by decide +kernel
theorem dX11_height_4 : decode cX11_height 4 = .ok (.ifCond .eq 15, 3) := by decide +kernel
theorem dX11_height_7 : decode cX11_height 7 = .ok (.aload_n 0, 1) := by decide +kernel
theorem dX11_height_8 : decode cX11_height 8 = .ok (.getfield 45, 3) := by decide +kernel
theorem dX11_height_11 : decode cX11_height 11 = .ok (.getfield 122, 3) := by decide +kernel
theorem dX11_height_14 : decode cX11_height 14 = .ok (.iload_n 1, 1) := by decide +kernel
theorem dX11_height_15 : decode cX11_height 15 = .ok (.iaload, 1) := by decide +kernel
theorem dX11_height_16 : decode cX11_height 16 = .ok (.goto 4, 3) := by decide +kernel
theorem dX11_height_19 : decode cX11_height 19 = .ok (.iconst (-1), 1) := by decide +kernel
theorem dX11_height_20 : decode cX11_height 20 = .ok (.ireturn, 1) := by decide +kernel
theorem dX11_comes_0 : decode cX11_comes 0 = .ok (.iload_n 2, 1) := by decide +kernel
theorem dX11_comes_1 : decode cX11_comes 1 = .ok (.iconst 0, 1) := by decide +kernel
theorem dX11_comes_2 : decode cX11_comes 2 = .ok (.bipush 120, 2) := by decide +kernel
theorem dX11_comes_4 : decode cX11_comes 4 = .ok (.invokestatic 125, 3) := by decide +kernel
theorem dX11_comes_7 : decode cX11_comes 7 = .ok (.ifCond .eq 14, 3) := by decide +kernel
theorem dX11_comes_10 : decode cX11_comes 10 = .ok (.iload_n 3, 1) := by decide +kernel
theorem dX11_comes_11 : decode cX11_comes 11 = .ok (.invokestatic 119, 3) := by decide +kernel
theorem dX11_comes_14 : decode cX11_comes 14 = .ok (.ifCond .eq 7, 3) := by decide +kernel
theorem dX11_comes_17 : decode cX11_comes 17 = .ok (.iconst 1, 1) := by decide +kernel
theorem dX11_comes_18 : decode cX11_comes 18 = .ok (.goto 4, 3) := by decide +kernel
theorem dX11_comes_21 : decode cX11_comes 21 = .ok (.iconst 0, 1) := by decide +kernel
theorem dX11_comes_22 : decode cX11_comes 22 = .ok (.istore 4, 2) := by decide +kernel
theorem dX11_comes_24 : decode cX11_comes 24 = .ok (.iload 4, 2) := by decide +kernel
theorem dX11_comes_26 : decode cX11_comes 26 = .ok (.ifCond .eq 11, 3) := by decide +kernel
theorem dX11_comes_29 : decode cX11_comes 29 = .ok (.aload_n 0, 1) := by decide +kernel
theorem dX11_comes_30 : decode cX11_comes 30 = .ok (.iload_n 1, 1) := by decide +kernel
theorem dX11_comes_31 : decode cX11_comes 31 = .ok (.invokevirtual 129, 3) := by decide +kernel
theorem dX11_comes_34 : decode cX11_comes 34 = .ok (.goto 4, 3) := by decide +kernel
theorem dX11_comes_37 : decode cX11_comes 37 = .ok (.iconst (-1), 1) := by decide +kernel
theorem dX11_comes_38 : decode cX11_comes 38 = .ok (.istore 5, 2) := by decide +kernel
theorem dX11_comes_40 : decode cX11_comes 40 = .ok (.iload 5, 2) := by decide +kernel
theorem dX11_comes_42 : decode cX11_comes 42 = .ok (.ifCond .ge 6, 3) := by decide +kernel
theorem dX11_comes_45 : decode cX11_comes 45 = .ok (.iload 5, 2) := by decide +kernel
theorem dX11_comes_47 : decode cX11_comes 47 = .ok (.ireturn, 1) := by decide +kernel
theorem dX11_comes_48 : decode cX11_comes 48 = .ok (.aload_n 0, 1) := by decide +kernel
theorem dX11_comes_49 : decode cX11_comes 49 = .ok (.getfield 45, 3) := by decide +kernel
theorem dX11_comes_52 : decode cX11_comes 52 = .ok (.aload_n 0, 1) := by decide +kernel
theorem dX11_comes_53 : decode cX11_comes 53 = .ok (.getfield 11, 3) := by decide +kernel
theorem dX11_comes_56 : decode cX11_comes 56 = .ok (.iload_n 1, 1) := by decide +kernel
theorem dX11_comes_57 : decode cX11_comes 57 = .ok (.aaload, 1) := by decide +kernel
theorem dX11_comes_58 : decode cX11_comes 58 = .ok (.getfield 132, 3) := by decide +kernel
theorem dX11_comes_61 : decode cX11_comes 61 = .ok (.aload_n 0, 1) := by decide +kernel
theorem dX11_comes_62 : decode cX11_comes 62 = .ok (.getfield 11, 3) := by decide +kernel
theorem dX11_comes_65 : decode cX11_comes 65 = .ok (.iload_n 1, 1) := by decide +kernel
theorem dX11_comes_66 : decode cX11_comes 66 = .ok (.aaload, 1) := by decide +kernel
theorem dX11_comes_67 : decode cX11_comes 67 = .ok (.getfield 134, 3) := by decide +kernel
theorem dX11_comes_70 : decode cX11_comes 70 = .ok (.iload_n 2, 1) := by decide +kernel
theorem dX11_comes_71 : decode cX11_comes 71 = .ok (.iload_n 3, 1) := by decide +kernel
theorem dX11_comes_72 : decode cX11_comes 72 = .ok (.invokevirtual 136, 3) := by decide +kernel
theorem dX11_comes_75 : decode cX11_comes 75 = .ok (.ifCond .ne 6, 3) := by decide +kernel
theorem dX11_comes_78 : decode cX11_comes 78 = .ok (.bipush (-2), 2) := by decide +kernel
theorem dX11_comes_80 : decode cX11_comes 80 = .ok (.ireturn, 1) := by decide +kernel
theorem dX11_comes_81 : decode cX11_comes 81 = .ok (.aload_n 0, 1) := by decide +kernel
theorem dX11_comes_82 : decode cX11_comes 82 = .ok (.getfield 45, 3) := by decide +kernel
theorem dX11_comes_85 : decode cX11_comes 85 = .ok (.getfield 140, 3) := by decide +kernel
theorem dX11_comes_88 : decode cX11_comes 88 = .ok (.iconst 1, 1) := by decide +kernel
theorem dX11_comes_89 : decode cX11_comes 89 = .ok (.isub, 1) := by decide +kernel
theorem dX11_comes_90 : decode cX11_comes 90 = .ok (.ireturn, 1) := by decide +kernel
theorem dX11_raises_0 : decode cX11_raises 0 = .ok (.iload_n 1, 1) := by decide +kernel
theorem dX11_raises_1 : decode cX11_raises 1 = .ok (.invokestatic 119, 3) := by decide +kernel
theorem dX11_raises_4 : decode cX11_raises 4 = .ok (.ifCond .ne 5, 3) := by decide +kernel
theorem dX11_raises_7 : decode cX11_raises 7 = .ok (.iconst (-1), 1) := by decide +kernel
theorem dX11_raises_8 : decode cX11_raises 8 = .ok (.ireturn, 1) := by decide +kernel
theorem dX11_raises_9 : decode cX11_raises 9 = .ok (.aload_n 0, 1) := by decide +kernel
theorem dX11_raises_10 : decode cX11_raises 10 = .ok (.getfield 45, 3) := by decide +kernel
theorem dX11_raises_13 : decode cX11_raises 13 = .ok (.getfield 122, 3) := by decide +kernel
theorem dX11_raises_16 : decode cX11_raises 16 = .ok (.iload_n 1, 1) := by decide +kernel
theorem dX11_raises_17 : decode cX11_raises 17 = .ok (.iaload, 1) := by decide +kernel
theorem dX11_raises_18 : decode cX11_raises 18 = .ok (.istore_n 3, 1) := by decide +kernel
theorem dX11_raises_19 : decode cX11_raises 19 = .ok (.aload_n 0, 1) := by decide +kernel
theorem dX11_raises_20 : decode cX11_raises 20 = .ok (.getfield 45, 3) := by decide +kernel
theorem dX11_raises_23 : decode cX11_raises 23 = .ok (.iload_n 1, 1) := by decide +kernel
theorem dX11_raises_24 : decode cX11_raises 24 = .ok (.iload_n 2, 1) := by decide +kernel
theorem dX11_raises_25 : decode cX11_raises 25 = .ok (.invokevirtual 143, 3) := by decide +kernel
theorem dX11_raises_28 : decode cX11_raises 28 = .ok (.ifCond .eq 7, 3) := by decide +kernel
theorem dX11_raises_31 : decode cX11_raises 31 = .ok (.iload_n 3, 1) := by decide +kernel
theorem dX11_raises_32 : decode cX11_raises 32 = .ok (.goto 4, 3) := by decide +kernel
theorem dX11_raises_35 : decode cX11_raises 35 = .ok (.iconst (-1), 1) := by decide +kernel
theorem dX11_raises_36 : decode cX11_raises 36 = .ok (.ireturn, 1) := by decide +kernel
theorem dX11_moves_0 : decode cX11_moves 0 = .ok (.aload_n 0, 1) := by decide +kernel
theorem dX11_moves_1 : decode cX11_moves 1 = .ok (.getfield 45, 3) := by decide +kernel
theorem dX11_moves_4 : decode cX11_moves 4 = .ok (.iload_n 1, 1) := by decide +kernel
theorem dX11_moves_5 : decode cX11_moves 5 = .ok (.invokevirtual 84, 3) := by decide +kernel
theorem dX11_moves_8 : decode cX11_moves 8 = .ok (.ifCond .ne 5, 3) := by decide +kernel
theorem dX11_moves_11 : decode cX11_moves 11 = .ok (.iconst (-1), 1) := by decide +kernel
theorem dX11_moves_12 : decode cX11_moves 12 = .ok (.ireturn, 1) := by decide +kernel
theorem dX11_moves_13 : decode cX11_moves 13 = .ok (.aload_n 0, 1) := by decide +kernel
theorem dX11_moves_14 : decode cX11_moves 14 = .ok (.getfield 45, 3) := by decide +kernel
theorem dX11_moves_17 : decode cX11_moves 17 = .ok (.getfield 98, 3) := by decide +kernel
theorem dX11_moves_20 : decode cX11_moves 20 = .ok (.iload_n 1, 1) := by decide +kernel
theorem dX11_moves_21 : decode cX11_moves 21 = .ok (.iaload, 1) := by decide +kernel
theorem dX11_moves_22 : decode cX11_moves 22 = .ok (.istore_n 3, 1) := by decide +kernel
theorem dX11_moves_23 : decode cX11_moves 23 = .ok (.aload_n 0, 1) := by decide +kernel
theorem dX11_moves_24 : decode cX11_moves 24 = .ok (.getfield 45, 3) := by decide +kernel
theorem dX11_moves_27 : decode cX11_moves 27 = .ok (.iload_n 1, 1) := by decide +kernel
theorem dX11_moves_28 : decode cX11_moves 28 = .ok (.iload_n 2, 1) := by decide +kernel
theorem dX11_moves_29 : decode cX11_moves 29 = .ok (.invokevirtual 147, 3) := by decide +kernel
theorem dX11_moves_32 : decode cX11_moves 32 = .ok (.ifCond .eq 7, 3) := by decide +kernel
theorem dX11_moves_35 : decode cX11_moves 35 = .ok (.iload_n 3, 1) := by decide +kernel
theorem dX11_moves_36 : decode cX11_moves 36 = .ok (.goto 4, 3) := by decide +kernel
theorem dX11_moves_39 : decode cX11_moves 39 = .ok (.iconst (-1), 1) := by decide +kernel
theorem dX11_moves_40 : decode cX11_moves 40 = .ok (.ireturn, 1) := by decide +kernel
theorem dX11_turns_0 : decode cX11_turns 0 = .ok (.aload_n 0, 1) := by decide +kernel
theorem dX11_turns_1 : decode cX11_turns 1 = .ok (.getfield 45, 3) := by decide +kernel
theorem dX11_turns_4 : decode cX11_turns 4 = .ok (.iload_n 1, 1) := by decide +kernel
theorem dX11_turns_5 : decode cX11_turns 5 = .ok (.invokevirtual 84, 3) := by decide +kernel
theorem dX11_turns_8 : decode cX11_turns 8 = .ok (.ifCond .ne 5, 3) := by decide +kernel
theorem dX11_turns_11 : decode cX11_turns 11 = .ok (.iconst (-1), 1) := by decide +kernel
theorem dX11_turns_12 : decode cX11_turns 12 = .ok (.ireturn, 1) := by decide +kernel
theorem dX11_turns_13 : decode cX11_turns 13 = .ok (.aload_n 0, 1) := by decide +kernel
theorem dX11_turns_14 : decode cX11_turns 14 = .ok (.getfield 45, 3) := by decide +kernel
theorem dX11_turns_17 : decode cX11_turns 17 = .ok (.getfield 101, 3) := by decide +kernel
theorem dX11_turns_20 : decode cX11_turns 20 = .ok (.iload_n 1, 1) := by decide +kernel
theorem dX11_turns_21 : decode cX11_turns 21 = .ok (.iaload, 1) := by decide +kernel
theorem dX11_turns_22 : decode cX11_turns 22 = .ok (.invokestatic 104, 3) := by decide +kernel
theorem dX11_turns_25 : decode cX11_turns 25 = .ok (.istore_n 3, 1) := by decide +kernel
theorem dX11_turns_26 : decode cX11_turns 26 = .ok (.aload_n 0, 1) := by decide +kernel
theorem dX11_turns_27 : decode cX11_turns 27 = .ok (.getfield 45, 3) := by decide +kernel
theorem dX11_turns_30 : decode cX11_turns 30 = .ok (.iload_n 1, 1) := by decide +kernel
theorem dX11_turns_31 : decode cX11_turns 31 = .ok (.iload_n 2, 1) := by decide +kernel
theorem dX11_turns_32 : decode cX11_turns 32 = .ok (.invokevirtual 150, 3) := by decide +kernel
theorem dX11_turns_35 : decode cX11_turns 35 = .ok (.ifCond .eq 7, 3) := by decide +kernel
theorem dX11_turns_38 : decode cX11_turns 38 = .ok (.iload_n 3, 1) := by decide +kernel
theorem dX11_turns_39 : decode cX11_turns 39 = .ok (.goto 4, 3) := by decide +kernel
theorem dX11_turns_42 : decode cX11_turns 42 = .ok (.iconst (-1), 1) := by decide +kernel
theorem dX11_turns_43 : decode cX11_turns 43 = .ok (.ireturn, 1) := by decide +kernel
theorem dX11_days_0 : decode cX11_days 0 = .ok (.iload_n 1, 1) := by decide +kernel
theorem dX11_days_1 : decode cX11_days 1 = .ok (.iconst 1, 1) := by decide +kernel
theorem dX11_days_2 : decode cX11_days 2 = .ok (.bipush 60, 2) := by decide +kernel
theorem dX11_days_4 : decode cX11_days 4 = .ok (.invokestatic 125, 3) := by decide +kernel
theorem dX11_days_7 : decode cX11_days 7 = .ok (.ifCond .ne 5, 3) := by decide +kernel
theorem dX11_days_10 : decode cX11_days 10 = .ok (.iconst (-1), 1) := by decide +kernel
theorem dX11_days_11 : decode cX11_days 11 = .ok (.ireturn, 1) := by decide +kernel
theorem dX11_days_12 : decode cX11_days 12 = .ok (.aload_n 0, 1) := by decide +kernel
theorem dX11_days_13 : decode cX11_days 13 = .ok (.getfield 45, 3) := by decide +kernel
theorem dX11_days_16 : decode cX11_days 16 = .ok (.iload_n 1, 1) := by decide +kernel
theorem dX11_days_17 : decode cX11_days 17 = .ok (.invokevirtual 153, 3) := by decide +kernel
theorem dX11_days_20 : decode cX11_days 20 = .ok (.ifCond .eq 13, 3) := by decide +kernel
theorem dX11_days_23 : decode cX11_days 23 = .ok (.aload_n 0, 1) := by decide +kernel
theorem dX11_days_24 : decode cX11_days 24 = .ok (.getfield 45, 3) := by decide +kernel
theorem dX11_days_27 : decode cX11_days 27 = .ok (.invokevirtual 156, 3) := by decide +kernel
theorem dX11_days_30 : decode cX11_days 30 = .ok (.goto 5, 3) := by decide +kernel
theorem dX11_days_33 : decode cX11_days 33 = .ok (.bipush (-3), 2) := by decide +kernel
theorem dX11_days_35 : decode cX11_days 35 = .ok (.ireturn, 1) := by decide +kernel
theorem dX11_ground_0 : decode cX11_ground 0 = .ok (.iload_n 1, 1) := by decide +kernel
theorem dX11_ground_1 : decode cX11_ground 1 = .ok (.invokestatic 119, 3) := by decide +kernel
theorem dX11_ground_4 : decode cX11_ground 4 = .ok (.ifCond .eq 14, 3) := by decide +kernel
theorem dX11_ground_7 : decode cX11_ground 7 = .ok (.aload_n 0, 1) := by decide +kernel
theorem dX11_ground_8 : decode cX11_ground 8 = .ok (.getfield 45, 3) := by decide +kernel
theorem dX11_ground_11 : decode cX11_ground 11 = .ok (.iload_n 1, 1) := by decide +kernel
theorem dX11_ground_12 : decode cX11_ground 12 = .ok (.invokevirtual 160, 3) := by decide +kernel
theorem dX11_ground_15 : decode cX11_ground 15 = .ok (.goto 4, 3) := by decide +kernel
theorem dX11_ground_18 : decode cX11_ground 18 = .ok (.iconst (-1), 1) := by decide +kernel
theorem dX11_ground_19 : decode cX11_ground 19 = .ok (.ireturn, 1) := by decide +kernel
theorem dX11_water_0 : decode cX11_water 0 = .ok (.iload_n 1, 1) := by decide +kernel
theorem dX11_water_1 : decode cX11_water 1 = .ok (.invokestatic 163, 3) := by decide +kernel
theorem dX11_water_4 : decode cX11_water 4 = .ok (.ifCond .eq 14, 3) := by decide +kernel
theorem dX11_water_7 : decode cX11_water 7 = .ok (.aload_n 0, 1) := by decide +kernel
theorem dX11_water_8 : decode cX11_water 8 = .ok (.getfield 45, 3) := by decide +kernel
theorem dX11_water_11 : decode cX11_water 11 = .ok (.iload_n 1, 1) := by decide +kernel
theorem dX11_water_12 : decode cX11_water 12 = .ok (.invokevirtual 166, 3) := by decide +kernel
theorem dX11_water_15 : decode cX11_water 15 = .ok (.goto 4, 3) := by decide +kernel
theorem dX11_water_18 : decode cX11_water 18 = .ok (.iconst (-1), 1) := by decide +kernel
theorem dX11_water_19 : decode cX11_water 19 = .ok (.ireturn, 1) := by decide +kernel
theorem dX11_lakes_0 : decode cX11_lakes 0 = .ok (.aload_n 0, 1) := by decide +kernel
theorem dX11_lakes_1 : decode cX11_lakes 1 = .ok (.getfield 45, 3) := by decide +kernel
theorem dX11_lakes_4 : decode cX11_lakes 4 = .ok (.invokevirtual 169, 3) := by decide +kernel
theorem dX11_lakes_7 : decode cX11_lakes 7 = .ok (.istore_n 1, 1) := by decide +kernel
theorem dX11_lakes_8 : decode cX11_lakes 8 = .ok (.iload_n 1, 1) := by decide +kernel
theorem dX11_lakes_9 : decode cX11_lakes 9 = .ok (.iload_n 1, 1) := by decide +kernel
theorem dX11_lakes_10 : decode cX11_lakes 10 = .ok (.iconst 1, 1) := by decide +kernel
theorem dX11_lakes_11 : decode cX11_lakes 11 = .ok (.ishl, 1) := by decide +kernel
theorem dX11_lakes_12 : decode cX11_lakes 12 = .ok (.iconst (-1), 1) := by decide +kernel
theorem dX11_lakes_13 : decode cX11_lakes 13 = .ok (.ixor, 1) := by decide +kernel
theorem dX11_lakes_14 : decode cX11_lakes 14 = .ok (.iand, 1) := by decide +kernel
theorem dX11_lakes_15 : decode cX11_lakes 15 = .ok (.invokestatic 172, 3) := by decide +kernel
theorem dX11_lakes_18 : decode cX11_lakes 18 = .ok (.ireturn, 1) := by decide +kernel
theorem dX11_rise_0 : decode cX11_rise 0 = .ok (.iload_n 1, 1) := by decide +kernel
theorem dX11_rise_1 : decode cX11_rise 1 = .ok (.iconst 0, 1) := by decide +kernel
theorem dX11_rise_2 : decode cX11_rise 2 = .ok (.bipush 13, 2) := by decide +kernel
theorem dX11_rise_4 : decode cX11_rise 4 = .ok (.invokestatic 125, 3) := by decide +kernel
theorem dX11_rise_7 : decode cX11_rise 7 = .ok (.ifCond .eq 14, 3) := by decide +kernel
theorem dX11_rise_10 : decode cX11_rise 10 = .ok (.aload_n 0, 1) := by decide +kernel
theorem dX11_rise_11 : decode cX11_rise 11 = .ok (.getfield 45, 3) := by decide +kernel
theorem dX11_rise_14 : decode cX11_rise 14 = .ok (.iload_n 1, 1) := by decide +kernel
theorem dX11_rise_15 : decode cX11_rise 15 = .ok (.invokevirtual 177, 3) := by decide +kernel
theorem dX11_rise_18 : decode cX11_rise 18 = .ok (.goto 5, 3) := by decide +kernel
theorem dX11_rise_21 : decode cX11_rise 21 = .ok (.ldc 180, 2) := by decide +kernel
theorem dX11_rise_23 : decode cX11_rise 23 = .ok (.ireturn, 1) := by decide +kernel
theorem dX11_steepest_0 : decode cX11_steepest 0 = .ok (.iload_n 1, 1) := by decide +kernel
theorem dX11_steepest_1 : decode cX11_steepest 1 = .ok (.tableswitch 77 0 3 #[31, 39, 54, 62], 31) := by decide +kernel
theorem dX11_steepest_32 : decode cX11_steepest 32 = .ok (.aload_n 0, 1) := by decide +kernel
theorem dX11_steepest_33 : decode cX11_steepest 33 = .ok (.getfield 45, 3) := by decide +kernel
theorem dX11_steepest_36 : decode cX11_steepest 36 = .ok (.invokevirtual 181, 3) := by decide +kernel
theorem dX11_steepest_39 : decode cX11_steepest 39 = .ok (.ireturn, 1) := by decide +kernel
theorem dX11_steepest_40 : decode cX11_steepest 40 = .ok (.aload_n 0, 1) := by decide +kernel
theorem dX11_steepest_41 : decode cX11_steepest 41 = .ok (.getfield 45, 3) := by decide +kernel
theorem dX11_steepest_44 : decode cX11_steepest 44 = .ok (.aload_n 0, 1) := by decide +kernel
theorem dX11_steepest_45 : decode cX11_steepest 45 = .ok (.getfield 45, 3) := by decide +kernel
theorem dX11_steepest_48 : decode cX11_steepest 48 = .ok (.invokevirtual 181, 3) := by decide +kernel
theorem dX11_steepest_51 : decode cX11_steepest 51 = .ok (.invokevirtual 184, 3) := by decide +kernel
theorem dX11_steepest_54 : decode cX11_steepest 54 = .ok (.ireturn, 1) := by decide +kernel
theorem dX11_steepest_55 : decode cX11_steepest 55 = .ok (.aload_n 0, 1) := by decide +kernel
theorem dX11_steepest_56 : decode cX11_steepest 56 = .ok (.getfield 45, 3) := by decide +kernel
theorem dX11_steepest_59 : decode cX11_steepest 59 = .ok (.invokevirtual 187, 3) := by decide +kernel
theorem dX11_steepest_62 : decode cX11_steepest 62 = .ok (.ireturn, 1) := by decide +kernel
theorem dX11_steepest_63 : decode cX11_steepest 63 = .ok (.aload_n 0, 1) := by decide +kernel
theorem dX11_steepest_64 : decode cX11_steepest 64 = .ok (.getfield 45, 3) := by decide +kernel
theorem dX11_steepest_67 : decode cX11_steepest 67 = .ok (.aload_n 0, 1) := by decide +kernel
theorem dX11_steepest_68 : decode cX11_steepest 68 = .ok (.getfield 45, 3) := by decide +kernel
theorem dX11_steepest_71 : decode cX11_steepest 71 = .ok (.invokevirtual 187, 3) := by decide +kernel
theorem dX11_steepest_74 : decode cX11_steepest 74 = .ok (.invokevirtual 184, 3) := by decide +kernel
theorem dX11_steepest_77 : decode cX11_steepest 77 = .ok (.ireturn, 1) := by decide +kernel
theorem dX11_steepest_78 : decode cX11_steepest 78 = .ok (.iconst (-1), 1) := by decide +kernel
theorem dX11_steepest_79 : decode cX11_steepest 79 = .ok (.ireturn, 1) := by decide +kernel
theorem dX11_behind_0 : decode cX11_behind 0 = .ok (.aload_n 0, 1) := by decide +kernel
theorem dX11_behind_1 : decode cX11_behind 1 = .ok (.getfield 45, 3) := by decide +kernel
theorem dX11_behind_4 : decode cX11_behind 4 = .ok (.iload_n 1, 1) := by decide +kernel
theorem dX11_behind_5 : decode cX11_behind 5 = .ok (.invokevirtual 84, 3) := by decide +kernel
theorem dX11_behind_8 : decode cX11_behind 8 = .ok (.ifCond .eq 13, 3) := by decide +kernel
theorem dX11_behind_11 : decode cX11_behind 11 = .ok (.iload_n 2, 1) := by decide +kernel
theorem dX11_behind_12 : decode cX11_behind 12 = .ok (.iconst 0, 1) := by decide +kernel
theorem dX11_behind_13 : decode cX11_behind 13 = .ok (.bipush 60, 2) := by decide +kernel
theorem dX11_behind_15 : decode cX11_behind 15 = .ok (.invokestatic 125, 3) := by decide +kernel
theorem dX11_behind_18 : decode cX11_behind 18 = .ok (.ifCond .ne 5, 3) := by decide +kernel
theorem dX11_behind_21 : decode cX11_behind 21 = .ok (.iconst (-1), 1) := by decide +kernel
theorem dX11_behind_22 : decode cX11_behind 22 = .ok (.ireturn, 1) := by decide +kernel
theorem dX11_behind_23 : decode cX11_behind 23 = .ok (.aload_n 0, 1) := by decide +kernel
theorem dX11_behind_24 : decode cX11_behind 24 = .ok (.iload_n 2, 1) := by decide +kernel
theorem dX11_behind_25 : decode cX11_behind 25 = .ok (.invokevirtual 190, 3) := by decide +kernel
theorem dX11_behind_28 : decode cX11_behind 28 = .ok (.aload_n 0, 1) := by decide +kernel
theorem dX11_behind_29 : decode cX11_behind 29 = .ok (.getfield 49, 3) := by decide +kernel
theorem dX11_behind_32 : decode cX11_behind 32 = .ok (.getfield 98, 3) := by decide +kernel
theorem dX11_behind_35 : decode cX11_behind 35 = .ok (.iload_n 1, 1) := by decide +kernel
theorem dX11_behind_36 : decode cX11_behind 36 = .ok (.iaload, 1) := by decide +kernel
theorem dX11_behind_37 : decode cX11_behind 37 = .ok (.ireturn, 1) := by decide +kernel
theorem dX11_groundThen_0 : decode cX11_groundThen 0 = .ok (.iload_n 1, 1) := by decide +kernel
theorem dX11_groundThen_1 : decode cX11_groundThen 1 = .ok (.invokestatic 163, 3) := by decide +kernel
theorem dX11_groundThen_4 : decode cX11_groundThen 4 = .ok (.ifCond .eq 13, 3) := by decide +kernel
theorem dX11_groundThen_7 : decode cX11_groundThen 7 = .ok (.iload_n 2, 1) := by decide +kernel
theorem dX11_groundThen_8 : decode cX11_groundThen 8 = .ok (.iconst 0, 1) := by decide +kernel
theorem dX11_groundThen_9 : decode cX11_groundThen 9 = .ok (.bipush 60, 2) := by decide +kernel
theorem dX11_groundThen_11 : decode cX11_groundThen 11 = .ok (.invokestatic 125, 3) := by decide +kernel
theorem dX11_groundThen_14 : decode cX11_groundThen 14 = .ok (.ifCond .ne 5, 3) := by decide +kernel
theorem dX11_groundThen_17 : decode cX11_groundThen 17 = .ok (.iconst (-1), 1) := by decide +kernel
theorem dX11_groundThen_18 : decode cX11_groundThen 18 = .ok (.ireturn, 1) := by decide +kernel
theorem dX11_groundThen_19 : decode cX11_groundThen 19 = .ok (.aload_n 0, 1) := by decide +kernel
theorem dX11_groundThen_20 : decode cX11_groundThen 20 = .ok (.iload_n 2, 1) := by decide +kernel
theorem dX11_groundThen_21 : decode cX11_groundThen 21 = .ok (.invokevirtual 190, 3) := by decide +kernel
theorem dX11_groundThen_24 : decode cX11_groundThen 24 = .ok (.iload_n 1, 1) := by decide +kernel
theorem dX11_groundThen_25 : decode cX11_groundThen 25 = .ok (.invokestatic 119, 3) := by decide +kernel
theorem dX11_groundThen_28 : decode cX11_groundThen 28 = .ok (.ifCond .eq 14, 3) := by decide +kernel
theorem dX11_groundThen_31 : decode cX11_groundThen 31 = .ok (.aload_n 0, 1) := by decide +kernel
theorem dX11_groundThen_32 : decode cX11_groundThen 32 = .ok (.getfield 49, 3) := by decide +kernel
theorem dX11_groundThen_35 : decode cX11_groundThen 35 = .ok (.iload_n 1, 1) := by decide +kernel
theorem dX11_groundThen_36 : decode cX11_groundThen 36 = .ok (.invokevirtual 160, 3) := by decide +kernel
theorem dX11_groundThen_39 : decode cX11_groundThen 39 = .ok (.goto 10, 3) := by decide +kernel
theorem dX11_groundThen_42 : decode cX11_groundThen 42 = .ok (.aload_n 0, 1) := by decide +kernel
theorem dX11_groundThen_43 : decode cX11_groundThen 43 = .ok (.getfield 49, 3) := by decide +kernel
theorem dX11_groundThen_46 : decode cX11_groundThen 46 = .ok (.invokevirtual 156, 3) := by decide +kernel
theorem dX11_groundThen_49 : decode cX11_groundThen 49 = .ok (.ireturn, 1) := by decide +kernel
theorem dX11_arrives_0 : decode cX11_arrives 0 = .ok (.aload_n 0, 1) := by decide +kernel
theorem dX11_arrives_1 : decode cX11_arrives 1 = .ok (.getfield 45, 3) := by decide +kernel
theorem dX11_arrives_4 : decode cX11_arrives 4 = .ok (.iload_n 1, 1) := by decide +kernel
theorem dX11_arrives_5 : decode cX11_arrives 5 = .ok (.invokevirtual 84, 3) := by decide +kernel
theorem dX11_arrives_8 : decode cX11_arrives 8 = .ok (.ifCond .eq 10, 3) := by decide +kernel
theorem dX11_arrives_11 : decode cX11_arrives 11 = .ok (.iload_n 2, 1) := by decide +kernel
theorem dX11_arrives_12 : decode cX11_arrives 12 = .ok (.invokestatic 119, 3) := by decide +kernel
theorem dX11_arrives_15 : decode cX11_arrives 15 = .ok (.ifCond .ne 5, 3) := by decide +kernel
theorem dX11_arrives_18 : decode cX11_arrives 18 = .ok (.iconst (-1), 1) := by decide +kernel
theorem dX11_arrives_19 : decode cX11_arrives 19 = .ok (.ireturn, 1) := by decide +kernel
theorem dX11_arrives_20 : decode cX11_arrives 20 = .ok (.aload_n 0, 1) := by decide +kernel
theorem dX11_arrives_21 : decode cX11_arrives 21 = .ok (.getfield 49, 3) := by decide +kernel
theorem dX11_arrives_24 : decode cX11_arrives 24 = .ok (.aload_n 0, 1) := by decide +kernel
theorem dX11_arrives_25 : decode cX11_arrives 25 = .ok (.getfield 45, 3) := by decide +kernel
theorem dX11_arrives_28 : decode cX11_arrives 28 = .ok (.invokevirtual 69, 3) := by decide +kernel
theorem dX11_arrives_31 : decode cX11_arrives 31 = .ok (.iconst 0, 1) := by decide +kernel
theorem dX11_arrives_32 : decode cX11_arrives 32 = .ok (.istore_n 3, 1) := by decide +kernel
theorem dX11_arrives_33 : decode cX11_arrives 33 = .ok (.iload_n 3, 1) := by decide +kernel
theorem dX11_arrives_34 : decode cX11_arrives 34 = .ok (.bipush 60, 2) := by decide +kernel
theorem dX11_arrives_36 : decode cX11_arrives 36 = .ok (.if_icmp .gt 32, 3) := by decide +kernel
theorem dX11_arrives_39 : decode cX11_arrives 39 = .ok (.aload_n 0, 1) := by decide +kernel
theorem dX11_arrives_40 : decode cX11_arrives 40 = .ok (.getfield 49, 3) := by decide +kernel
theorem dX11_arrives_43 : decode cX11_arrives 43 = .ok (.getfield 98, 3) := by decide +kernel
theorem dX11_arrives_46 : decode cX11_arrives 46 = .ok (.iload_n 1, 1) := by decide +kernel
theorem dX11_arrives_47 : decode cX11_arrives 47 = .ok (.iaload, 1) := by decide +kernel
theorem dX11_arrives_48 : decode cX11_arrives 48 = .ok (.iload_n 2, 1) := by decide +kernel
theorem dX11_arrives_49 : decode cX11_arrives 49 = .ok (.if_icmp .ne 5, 3) := by decide +kernel
theorem dX11_arrives_52 : decode cX11_arrives 52 = .ok (.iload_n 3, 1) := by decide +kernel
theorem dX11_arrives_53 : decode cX11_arrives 53 = .ok (.ireturn, 1) := by decide +kernel
theorem dX11_arrives_54 : decode cX11_arrives 54 = .ok (.aload_n 0, 1) := by decide +kernel
theorem dX11_arrives_55 : decode cX11_arrives 55 = .ok (.getfield 49, 3) := by decide +kernel
theorem dX11_arrives_58 : decode cX11_arrives 58 = .ok (.invokevirtual 194, 3) := by decide +kernel
theorem dX11_arrives_61 : decode cX11_arrives 61 = .ok (.pop, 1) := by decide +kernel
theorem dX11_arrives_62 : decode cX11_arrives 62 = .ok (.iinc 3 1, 3) := by decide +kernel
theorem dX11_arrives_65 : decode cX11_arrives 65 = .ok (.goto (-32), 3) := by decide +kernel
theorem dX11_arrives_68 : decode cX11_arrives 68 = .ok (.bipush (-4), 2) := by decide +kernel
theorem dX11_arrives_70 : decode cX11_arrives 70 = .ok (.ireturn, 1) := by decide +kernel
theorem dX11_stuck_0 : decode cX11_stuck 0 = .ok (.aload_n 0, 1) := by decide +kernel
theorem dX11_stuck_1 : decode cX11_stuck 1 = .ok (.getfield 45, 3) := by decide +kernel
theorem dX11_stuck_4 : decode cX11_stuck 4 = .ok (.iload_n 1, 1) := by decide +kernel
theorem dX11_stuck_5 : decode cX11_stuck 5 = .ok (.invokevirtual 84, 3) := by decide +kernel
theorem dX11_stuck_8 : decode cX11_stuck 8 = .ok (.ifCond .ne 5, 3) := by decide +kernel
theorem dX11_stuck_11 : decode cX11_stuck 11 = .ok (.iconst (-1), 1) := by decide +kernel
theorem dX11_stuck_12 : decode cX11_stuck 12 = .ok (.ireturn, 1) := by decide +kernel
theorem dX11_stuck_13 : decode cX11_stuck 13 = .ok (.aload_n 0, 1) := by decide +kernel
theorem dX11_stuck_14 : decode cX11_stuck 14 = .ok (.getfield 49, 3) := by decide +kernel
theorem dX11_stuck_17 : decode cX11_stuck 17 = .ok (.aload_n 0, 1) := by decide +kernel
theorem dX11_stuck_18 : decode cX11_stuck 18 = .ok (.getfield 45, 3) := by decide +kernel
theorem dX11_stuck_21 : decode cX11_stuck 21 = .ok (.invokevirtual 69, 3) := by decide +kernel
theorem dX11_stuck_24 : decode cX11_stuck 24 = .ok (.iconst 0, 1) := by decide +kernel
theorem dX11_stuck_25 : decode cX11_stuck 25 = .ok (.istore_n 2, 1) := by decide +kernel
theorem dX11_stuck_26 : decode cX11_stuck 26 = .ok (.iload_n 2, 1) := by decide +kernel
theorem dX11_stuck_27 : decode cX11_stuck 27 = .ok (.bipush 60, 2) := by decide +kernel
theorem dX11_stuck_29 : decode cX11_stuck 29 = .ok (.if_icmp .gt 42, 3) := by decide +kernel
theorem dX11_stuck_32 : decode cX11_stuck 32 = .ok (.aload_n 0, 1) := by decide +kernel
theorem dX11_stuck_33 : decode cX11_stuck 33 = .ok (.getfield 49, 3) := by decide +kernel
theorem dX11_stuck_36 : decode cX11_stuck 36 = .ok (.getfield 98, 3) := by decide +kernel
theorem dX11_stuck_39 : decode cX11_stuck 39 = .ok (.iload_n 1, 1) := by decide +kernel
theorem dX11_stuck_40 : decode cX11_stuck 40 = .ok (.iaload, 1) := by decide +kernel
theorem dX11_stuck_41 : decode cX11_stuck 41 = .ok (.istore_n 3, 1) := by decide +kernel
theorem dX11_stuck_42 : decode cX11_stuck 42 = .ok (.aload_n 0, 1) := by decide +kernel
theorem dX11_stuck_43 : decode cX11_stuck 43 = .ok (.getfield 49, 3) := by decide +kernel
theorem dX11_stuck_46 : decode cX11_stuck 46 = .ok (.invokevirtual 194, 3) := by decide +kernel
theorem dX11_stuck_49 : decode cX11_stuck 49 = .ok (.pop, 1) := by decide +kernel
theorem dX11_stuck_50 : decode cX11_stuck 50 = .ok (.aload_n 0, 1) := by decide +kernel
theorem dX11_stuck_51 : decode cX11_stuck 51 = .ok (.getfield 49, 3) := by decide +kernel
theorem dX11_stuck_54 : decode cX11_stuck 54 = .ok (.getfield 98, 3) := by decide +kernel
theorem dX11_stuck_57 : decode cX11_stuck 57 = .ok (.iload_n 1, 1) := by decide +kernel
theorem dX11_stuck_58 : decode cX11_stuck 58 = .ok (.iaload, 1) := by decide +kernel
theorem dX11_stuck_59 : decode cX11_stuck 59 = .ok (.iload_n 3, 1) := by decide +kernel
theorem dX11_stuck_60 : decode cX11_stuck 60 = .ok (.if_icmp .ne 5, 3) := by decide +kernel
theorem dX11_stuck_63 : decode cX11_stuck 63 = .ok (.iload_n 2, 1) := by decide +kernel
theorem dX11_stuck_64 : decode cX11_stuck 64 = .ok (.ireturn, 1) := by decide +kernel
theorem dX11_stuck_65 : decode cX11_stuck 65 = .ok (.iinc 2 1, 3) := by decide +kernel
theorem dX11_stuck_68 : decode cX11_stuck 68 = .ok (.goto (-42), 3) := by decide +kernel
theorem dX11_stuck_71 : decode cX11_stuck 71 = .ok (.bipush (-4), 2) := by decide +kernel
theorem dX11_stuck_73 : decode cX11_stuck 73 = .ok (.ireturn, 1) := by decide +kernel
theorem dX11_goes_0 : decode cX11_goes 0 = .ok (.aload_n 0, 1) := by decide +kernel
theorem dX11_goes_1 : decode cX11_goes 1 = .ok (.getfield 45, 3) := by decide +kernel
theorem dX11_goes_4 : decode cX11_goes 4 = .ok (.iload_n 1, 1) := by decide +kernel
theorem dX11_goes_5 : decode cX11_goes 5 = .ok (.invokevirtual 84, 3) := by decide +kernel
theorem dX11_goes_8 : decode cX11_goes 8 = .ok (.ifCond .eq 10, 3) := by decide +kernel
theorem dX11_goes_11 : decode cX11_goes 11 = .ok (.iload_n 2, 1) := by decide +kernel
theorem dX11_goes_12 : decode cX11_goes 12 = .ok (.invokestatic 119, 3) := by decide +kernel
theorem dX11_goes_15 : decode cX11_goes 15 = .ok (.ifCond .ne 5, 3) := by decide +kernel
theorem dX11_goes_18 : decode cX11_goes 18 = .ok (.iconst (-1), 1) := by decide +kernel
theorem dX11_goes_19 : decode cX11_goes 19 = .ok (.ireturn, 1) := by decide +kernel
theorem dX11_goes_20 : decode cX11_goes 20 = .ok (.aload_n 0, 1) := by decide +kernel
theorem dX11_goes_21 : decode cX11_goes 21 = .ok (.iload_n 1, 1) := by decide +kernel
theorem dX11_goes_22 : decode cX11_goes 22 = .ok (.iconst 0, 1) := by decide +kernel
theorem dX11_goes_23 : decode cX11_goes 23 = .ok (.iload_n 2, 1) := by decide +kernel
theorem dX11_goes_24 : decode cX11_goes 24 = .ok (.invokevirtual 198, 3) := by decide +kernel
theorem dX11_goes_27 : decode cX11_goes 27 = .ok (.ifCond .eq 7, 3) := by decide +kernel
theorem dX11_goes_30 : decode cX11_goes 30 = .ok (.iconst 1, 1) := by decide +kernel
theorem dX11_goes_31 : decode cX11_goes 31 = .ok (.goto 4, 3) := by decide +kernel
theorem dX11_goes_34 : decode cX11_goes 34 = .ok (.iconst 0, 1) := by decide +kernel
theorem dX11_goes_35 : decode cX11_goes 35 = .ok (.ireturn, 1) := by decide +kernel
theorem dX11_far_0 : decode cX11_far 0 = .ok (.aload_n 0, 1) := by decide +kernel
theorem dX11_far_1 : decode cX11_far 1 = .ok (.getfield 45, 3) := by decide +kernel
theorem dX11_far_4 : decode cX11_far 4 = .ok (.iload_n 1, 1) := by decide +kernel
theorem dX11_far_5 : decode cX11_far 5 = .ok (.invokevirtual 84, 3) := by decide +kernel
theorem dX11_far_8 : decode cX11_far 8 = .ok (.ifCond .eq 12, 3) := by decide +kernel
theorem dX11_far_11 : decode cX11_far 11 = .ok (.iload_n 2, 1) := by decide +kernel
theorem dX11_far_12 : decode cX11_far 12 = .ok (.iconst 0, 1) := by decide +kernel
theorem dX11_far_13 : decode cX11_far 13 = .ok (.iconst 1, 1) := by decide +kernel
theorem dX11_far_14 : decode cX11_far 14 = .ok (.invokestatic 125, 3) := by decide +kernel
theorem dX11_far_17 : decode cX11_far 17 = .ok (.ifCond .ne 5, 3) := by decide +kernel
theorem dX11_far_20 : decode cX11_far 20 = .ok (.iconst (-1), 1) := by decide +kernel
theorem dX11_far_21 : decode cX11_far 21 = .ok (.ireturn, 1) := by decide +kernel
theorem dX11_far_22 : decode cX11_far 22 = .ok (.aload_n 0, 1) := by decide +kernel
theorem dX11_far_23 : decode cX11_far 23 = .ok (.getfield 49, 3) := by decide +kernel
theorem dX11_far_26 : decode cX11_far 26 = .ok (.aload_n 0, 1) := by decide +kernel
theorem dX11_far_27 : decode cX11_far 27 = .ok (.getfield 45, 3) := by decide +kernel
theorem dX11_far_30 : decode cX11_far 30 = .ok (.invokevirtual 69, 3) := by decide +kernel
theorem dX11_far_33 : decode cX11_far 33 = .ok (.aload_n 0, 1) := by decide +kernel
theorem dX11_far_34 : decode cX11_far 34 = .ok (.getfield 49, 3) := by decide +kernel
theorem dX11_far_37 : decode cX11_far 37 = .ok (.iload_n 1, 1) := by decide +kernel
theorem dX11_far_38 : decode cX11_far 38 = .ok (.iload_n 2, 1) := by decide +kernel
theorem dX11_far_39 : decode cX11_far 39 = .ok (.ifCond .ne 7, 3) := by decide +kernel
theorem dX11_far_42 : decode cX11_far 42 = .ok (.iconst 1, 1) := by decide +kernel
theorem dX11_far_43 : decode cX11_far 43 = .ok (.goto 4, 3) := by decide +kernel
theorem dX11_far_46 : decode cX11_far 46 = .ok (.iconst (-1), 1) := by decide +kernel
theorem dX11_far_47 : decode cX11_far 47 = .ok (.invokevirtual 201, 3) := by decide +kernel
theorem dX11_far_50 : decode cX11_far 50 = .ok (.ireturn, 1) := by decide +kernel
theorem dX11_company_0 : decode cX11_company 0 = .ok (.aload_n 0, 1) := by decide +kernel
theorem dX11_company_1 : decode cX11_company 1 = .ok (.getfield 45, 3) := by decide +kernel
theorem dX11_company_4 : decode cX11_company 4 = .ok (.iload_n 1, 1) := by decide +kernel
theorem dX11_company_5 : decode cX11_company 5 = .ok (.invokevirtual 84, 3) := by decide +kernel
theorem dX11_company_8 : decode cX11_company 8 = .ok (.ifCond .eq 10, 3) := by decide +kernel
theorem dX11_company_11 : decode cX11_company 11 = .ok (.iload_n 2, 1) := by decide +kernel
theorem dX11_company_12 : decode cX11_company 12 = .ok (.invokestatic 119, 3) := by decide +kernel
theorem dX11_company_15 : decode cX11_company 15 = .ok (.ifCond .ne 5, 3) := by decide +kernel
theorem dX11_company_18 : decode cX11_company 18 = .ok (.iconst (-1), 1) := by decide +kernel
theorem dX11_company_19 : decode cX11_company 19 = .ok (.ireturn, 1) := by decide +kernel
theorem dX11_company_20 : decode cX11_company 20 = .ok (.bipush (-4), 2) := by decide +kernel
theorem dX11_company_22 : decode cX11_company 22 = .ok (.istore_n 3, 1) := by decide +kernel
theorem dX11_company_23 : decode cX11_company 23 = .ok (.bipush 7, 2) := by decide +kernel
theorem dX11_company_25 : decode cX11_company 25 = .ok (.istore 4, 2) := by decide +kernel
theorem dX11_company_27 : decode cX11_company 27 = .ok (.iconst 0, 1) := by decide +kernel
theorem dX11_company_28 : decode cX11_company 28 = .ok (.istore 5, 2) := by decide +kernel
theorem dX11_company_30 : decode cX11_company 30 = .ok (.iload 5, 2) := by decide +kernel
theorem dX11_company_32 : decode cX11_company 32 = .ok (.iconst 1, 1) := by decide +kernel
theorem dX11_company_33 : decode cX11_company 33 = .ok (.aload_n 0, 1) := by decide +kernel
theorem dX11_company_34 : decode cX11_company 34 = .ok (.getfield 45, 3) := by decide +kernel
theorem dX11_company_37 : decode cX11_company 37 = .ok (.getfield 140, 3) := by decide +kernel
theorem dX11_company_40 : decode cX11_company 40 = .ok (.ishl, 1) := by decide +kernel
theorem dX11_company_41 : decode cX11_company 41 = .ok (.if_icmp .ge 50, 3) := by decide +kernel
theorem dX11_company_44 : decode cX11_company 44 = .ok (.iload 5, 2) := by decide +kernel
theorem dX11_company_46 : decode cX11_company 46 = .ok (.invokestatic 172, 3) := by decide +kernel
theorem dX11_company_49 : decode cX11_company 49 = .ok (.istore 6, 2) := by decide +kernel
theorem dX11_company_51 : decode cX11_company 51 = .ok (.iload 6, 2) := by decide +kernel
theorem dX11_company_53 : decode cX11_company 53 = .ok (.iload 4, 2) := by decide +kernel
theorem dX11_company_55 : decode cX11_company 55 = .ok (.if_icmp .ge 30, 3) := by decide +kernel
theorem dX11_company_58 : decode cX11_company 58 = .ok (.iload 5, 2) := by decide +kernel
theorem dX11_company_60 : decode cX11_company 60 = .ok (.iload_n 1, 1) := by decide +kernel
theorem dX11_company_61 : decode cX11_company 61 = .ok (.invokestatic 205, 3) := by decide +kernel
theorem dX11_company_64 : decode cX11_company 64 = .ok (.ifCond .ne 21, 3) := by decide +kernel
theorem dX11_company_67 : decode cX11_company 67 = .ok (.aload_n 0, 1) := by decide +kernel
theorem dX11_company_68 : decode cX11_company 68 = .ok (.iload_n 1, 1) := by decide +kernel
theorem dX11_company_69 : decode cX11_company 69 = .ok (.iload 5, 2) := by decide +kernel
theorem dX11_company_71 : decode cX11_company 71 = .ok (.iload_n 2, 1) := by decide +kernel
theorem dX11_company_72 : decode cX11_company 72 = .ok (.invokevirtual 198, 3) := by decide +kernel
theorem dX11_company_75 : decode cX11_company 75 = .ok (.ifCond .eq 10, 3) := by decide +kernel
theorem dX11_company_78 : decode cX11_company 78 = .ok (.iload 6, 2) := by decide +kernel
theorem dX11_company_80 : decode cX11_company 80 = .ok (.istore 4, 2) := by decide +kernel
theorem dX11_company_82 : decode cX11_company 82 = .ok (.iload 5, 2) := by decide +kernel
theorem dX11_company_84 : decode cX11_company 84 = .ok (.istore_n 3, 1) := by decide +kernel
theorem dX11_company_85 : decode cX11_company 85 = .ok (.iinc 5 1, 3) := by decide +kernel
theorem dX11_company_88 : decode cX11_company 88 = .ok (.goto (-58), 3) := by decide +kernel
theorem dX11_company_91 : decode cX11_company 91 = .ok (.iload_n 3, 1) := by decide +kernel
theorem dX11_company_92 : decode cX11_company 92 = .ok (.ireturn, 1) := by decide +kernel
theorem dX11_hire_0 : decode cX11_hire 0 = .ok (.aload_n 0, 1) := by decide +kernel
theorem dX11_hire_1 : decode cX11_hire 1 = .ok (.getfield 45, 3) := by decide +kernel
theorem dX11_hire_4 : decode cX11_hire 4 = .ok (.iload_n 1, 1) := by decide +kernel
theorem dX11_hire_5 : decode cX11_hire 5 = .ok (.invokevirtual 84, 3) := by decide +kernel
theorem dX11_hire_8 : decode cX11_hire 8 = .ok (.ifCond .eq 19, 3) := by decide +kernel
theorem dX11_hire_11 : decode cX11_hire 11 = .ok (.iload_n 2, 1) := by decide +kernel
theorem dX11_hire_12 : decode cX11_hire 12 = .ok (.invokestatic 119, 3) := by decide +kernel
theorem dX11_hire_15 : decode cX11_hire 15 = .ok (.ifCond .eq 12, 3) := by decide +kernel
theorem dX11_hire_18 : decode cX11_hire 18 = .ok (.iload_n 3, 1) := by decide +kernel
theorem dX11_hire_19 : decode cX11_hire 19 = .ok (.iconst 0, 1) := by decide +kernel
theorem dX11_hire_20 : decode cX11_hire 20 = .ok (.iconst 1, 1) := by decide +kernel
theorem dX11_hire_21 : decode cX11_hire 21 = .ok (.invokestatic 125, 3) := by decide +kernel
theorem dX11_hire_24 : decode cX11_hire 24 = .ok (.ifCond .ne 5, 3) := by decide +kernel
theorem dX11_hire_27 : decode cX11_hire 27 = .ok (.iconst (-1), 1) := by decide +kernel
theorem dX11_hire_28 : decode cX11_hire 28 = .ok (.ireturn, 1) := by decide +kernel
theorem dX11_hire_29 : decode cX11_hire 29 = .ok (.bipush (-4), 2) := by decide +kernel
theorem dX11_hire_31 : decode cX11_hire 31 = .ok (.istore 4, 2) := by decide +kernel
theorem dX11_hire_33 : decode cX11_hire 33 = .ok (.bipush (-4), 2) := by decide +kernel
theorem dX11_hire_35 : decode cX11_hire 35 = .ok (.istore 5, 2) := by decide +kernel
theorem dX11_hire_37 : decode cX11_hire 37 = .ok (.iconst 0, 1) := by decide +kernel
theorem dX11_hire_38 : decode cX11_hire 38 = .ok (.istore 6, 2) := by decide +kernel
theorem dX11_hire_40 : decode cX11_hire 40 = .ok (.iload 6, 2) := by decide +kernel
theorem dX11_hire_42 : decode cX11_hire 42 = .ok (.iconst 1, 1) := by decide +kernel
theorem dX11_hire_43 : decode cX11_hire 43 = .ok (.aload_n 0, 1) := by decide +kernel
theorem dX11_hire_44 : decode cX11_hire 44 = .ok (.getfield 45, 3) := by decide +kernel
theorem dX11_hire_47 : decode cX11_hire 47 = .ok (.getfield 140, 3) := by decide +kernel
theorem dX11_hire_50 : decode cX11_hire 50 = .ok (.ishl, 1) := by decide +kernel
theorem dX11_hire_51 : decode cX11_hire 51 = .ok (.if_icmp .ge 74, 3) := by decide +kernel
theorem dX11_hire_54 : decode cX11_hire 54 = .ok (.aload_n 0, 1) := by decide +kernel
theorem dX11_hire_55 : decode cX11_hire 55 = .ok (.getfield 45, 3) := by decide +kernel
theorem dX11_hire_58 : decode cX11_hire 58 = .ok (.iload 6, 2) := by decide +kernel
theorem dX11_hire_60 : decode cX11_hire 60 = .ok (.invokevirtual 208, 3) := by decide +kernel
theorem dX11_hire_63 : decode cX11_hire 63 = .ok (.istore 7, 2) := by decide +kernel
theorem dX11_hire_65 : decode cX11_hire 65 = .ok (.iload 4, 2) := by decide +kernel
theorem dX11_hire_67 : decode cX11_hire 67 = .ok (.bipush (-4), 2) := by decide +kernel
theorem dX11_hire_69 : decode cX11_hire 69 = .ok (.if_icmp .eq 10, 3) := by decide +kernel
theorem dX11_hire_72 : decode cX11_hire 72 = .ok (.iload 7, 2) := by decide +kernel
theorem dX11_hire_74 : decode cX11_hire 74 = .ok (.iload 5, 2) := by decide +kernel
theorem dX11_hire_76 : decode cX11_hire 76 = .ok (.if_icmp .ge 7, 3) := by decide +kernel
theorem dX11_hire_79 : decode cX11_hire 79 = .ok (.iconst 1, 1) := by decide +kernel
theorem dX11_hire_80 : decode cX11_hire 80 = .ok (.goto 4, 3) := by decide +kernel
theorem dX11_hire_83 : decode cX11_hire 83 = .ok (.iconst 0, 1) := by decide +kernel
theorem dX11_hire_84 : decode cX11_hire 84 = .ok (.istore 8, 2) := by decide +kernel
theorem dX11_hire_86 : decode cX11_hire 86 = .ok (.iload 8, 2) := by decide +kernel
theorem dX11_hire_88 : decode cX11_hire 88 = .ok (.ifCond .eq 31, 3) := by decide +kernel
theorem dX11_hire_91 : decode cX11_hire 91 = .ok (.iload 6, 2) := by decide +kernel
theorem dX11_hire_93 : decode cX11_hire 93 = .ok (.iload_n 1, 1) := by decide +kernel
theorem dX11_hire_94 : decode cX11_hire 94 = .ok (.invokestatic 205, 3) := by decide +kernel
theorem dX11_hire_97 : decode cX11_hire 97 = .ok (.ifCond .ne 22, 3) := by decide +kernel
theorem dX11_hire_100 : decode cX11_hire 100 = .ok (.aload_n 0, 1) := by decide +kernel
theorem dX11_hire_101 : decode cX11_hire 101 = .ok (.iload_n 1, 1) := by decide +kernel
theorem dX11_hire_102 : decode cX11_hire 102 = .ok (.iload 6, 2) := by decide +kernel
theorem dX11_hire_104 : decode cX11_hire 104 = .ok (.iload_n 2, 1) := by decide +kernel
theorem dX11_hire_105 : decode cX11_hire 105 = .ok (.invokevirtual 198, 3) := by decide +kernel
theorem dX11_hire_108 : decode cX11_hire 108 = .ok (.ifCond .eq 11, 3) := by decide +kernel
theorem dX11_hire_111 : decode cX11_hire 111 = .ok (.iload 7, 2) := by decide +kernel
theorem dX11_hire_113 : decode cX11_hire 113 = .ok (.istore 5, 2) := by decide +kernel
theorem dX11_hire_115 : decode cX11_hire 115 = .ok (.iload 6, 2) := by decide +kernel
theorem dX11_hire_117 : decode cX11_hire 117 = .ok (.istore 4, 2) := by decide +kernel
theorem dX11_hire_119 : decode cX11_hire 119 = .ok (.iinc 6 1, 3) := by decide +kernel
theorem dX11_hire_122 : decode cX11_hire 122 = .ok (.goto (-82), 3) := by decide +kernel
theorem dX11_hire_125 : decode cX11_hire 125 = .ok (.iload_n 3, 1) := by decide +kernel
theorem dX11_hire_126 : decode cX11_hire 126 = .ok (.ifCond .ne 8, 3) := by decide +kernel
theorem dX11_hire_129 : decode cX11_hire 129 = .ok (.iload 4, 2) := by decide +kernel
theorem dX11_hire_131 : decode cX11_hire 131 = .ok (.goto 5, 3) := by decide +kernel
theorem dX11_hire_134 : decode cX11_hire 134 = .ok (.iload 5, 2) := by decide +kernel
theorem dX11_hire_136 : decode cX11_hire 136 = .ok (.ireturn, 1) := by decide +kernel
theorem dX11_sit_0 : decode cX11_sit 0 = .ok (.aload_n 0, 1) := by decide +kernel
theorem dX11_sit_1 : decode cX11_sit 1 = .ok (.getfield 45, 3) := by decide +kernel
theorem dX11_sit_4 : decode cX11_sit 4 = .ok (.iload_n 1, 1) := by decide +kernel
theorem dX11_sit_5 : decode cX11_sit 5 = .ok (.invokevirtual 84, 3) := by decide +kernel
theorem dX11_sit_8 : decode cX11_sit 8 = .ok (.ifCond .eq 12, 3) := by decide +kernel
theorem dX11_sit_11 : decode cX11_sit 11 = .ok (.iload_n 2, 1) := by decide +kernel
theorem dX11_sit_12 : decode cX11_sit 12 = .ok (.iconst 0, 1) := by decide +kernel
theorem dX11_sit_13 : decode cX11_sit 13 = .ok (.iconst 1, 1) := by decide +kernel
theorem dX11_sit_14 : decode cX11_sit 14 = .ok (.invokestatic 125, 3) := by decide +kernel
theorem dX11_sit_17 : decode cX11_sit 17 = .ok (.ifCond .ne 5, 3) := by decide +kernel
theorem dX11_sit_20 : decode cX11_sit 20 = .ok (.iconst (-1), 1) := by decide +kernel
theorem dX11_sit_21 : decode cX11_sit 21 = .ok (.ireturn, 1) := by decide +kernel
theorem dX11_sit_22 : decode cX11_sit 22 = .ok (.aload_n 0, 1) := by decide +kernel
theorem dX11_sit_23 : decode cX11_sit 23 = .ok (.getfield 49, 3) := by decide +kernel
theorem dX11_sit_26 : decode cX11_sit 26 = .ok (.aload_n 0, 1) := by decide +kernel
theorem dX11_sit_27 : decode cX11_sit 27 = .ok (.getfield 45, 3) := by decide +kernel
theorem dX11_sit_30 : decode cX11_sit 30 = .ok (.invokevirtual 69, 3) := by decide +kernel
theorem dX11_sit_33 : decode cX11_sit 33 = .ok (.iconst 0, 1) := by decide +kernel
theorem dX11_sit_34 : decode cX11_sit 34 = .ok (.istore_n 3, 1) := by decide +kernel
theorem dX11_sit_35 : decode cX11_sit 35 = .ok (.iconst 0, 1) := by decide +kernel
theorem dX11_sit_36 : decode cX11_sit 36 = .ok (.istore 4, 2) := by decide +kernel
theorem dX11_sit_38 : decode cX11_sit 38 = .ok (.iconst 0, 1) := by decide +kernel
theorem dX11_sit_39 : decode cX11_sit 39 = .ok (.istore 5, 2) := by decide +kernel
theorem dX11_sit_41 : decode cX11_sit 41 = .ok (.iload 5, 2) := by decide +kernel
theorem dX11_sit_43 : decode cX11_sit 43 = .ok (.bipush 15, 2) := by decide +kernel
theorem dX11_sit_45 : decode cX11_sit 45 = .ok (.if_icmp .ge 48, 3) := by decide +kernel
theorem dX11_sit_48 : decode cX11_sit 48 = .ok (.aload_n 0, 1) := by decide +kernel
theorem dX11_sit_49 : decode cX11_sit 49 = .ok (.getfield 49, 3) := by decide +kernel
theorem dX11_sit_52 : decode cX11_sit 52 = .ok (.getfield 98, 3) := by decide +kernel
theorem dX11_sit_55 : decode cX11_sit 55 = .ok (.iload_n 1, 1) := by decide +kernel
theorem dX11_sit_56 : decode cX11_sit 56 = .ok (.iload 5, 2) := by decide +kernel
theorem dX11_sit_58 : decode cX11_sit 58 = .ok (.iastore, 1) := by decide +kernel
theorem dX11_sit_59 : decode cX11_sit 59 = .ok (.aload_n 0, 1) := by decide +kernel
theorem dX11_sit_60 : decode cX11_sit 60 = .ok (.getfield 49, 3) := by decide +kernel
theorem dX11_sit_63 : decode cX11_sit 63 = .ok (.invokevirtual 156, 3) := by decide +kernel
theorem dX11_sit_66 : decode cX11_sit 66 = .ok (.istore 6, 2) := by decide +kernel
theorem dX11_sit_68 : decode cX11_sit 68 = .ok (.iload 5, 2) := by decide +kernel
theorem dX11_sit_70 : decode cX11_sit 70 = .ok (.ifCond .eq 10, 3) := by decide +kernel
theorem dX11_sit_73 : decode cX11_sit 73 = .ok (.iload 6, 2) := by decide +kernel
theorem dX11_sit_75 : decode cX11_sit 75 = .ok (.iload 4, 2) := by decide +kernel
theorem dX11_sit_77 : decode cX11_sit 77 = .ok (.if_icmp .ge 10, 3) := by decide +kernel
theorem dX11_sit_80 : decode cX11_sit 80 = .ok (.iload 6, 2) := by decide +kernel
theorem dX11_sit_82 : decode cX11_sit 82 = .ok (.istore 4, 2) := by decide +kernel
theorem dX11_sit_84 : decode cX11_sit 84 = .ok (.iload 5, 2) := by decide +kernel
theorem dX11_sit_86 : decode cX11_sit 86 = .ok (.istore_n 3, 1) := by decide +kernel
theorem dX11_sit_87 : decode cX11_sit 87 = .ok (.iinc 5 1, 3) := by decide +kernel
theorem dX11_sit_90 : decode cX11_sit 90 = .ok (.goto (-49), 3) := by decide +kernel
theorem dX11_sit_93 : decode cX11_sit 93 = .ok (.iload_n 2, 1) := by decide +kernel
theorem dX11_sit_94 : decode cX11_sit 94 = .ok (.ifCond .ne 7, 3) := by decide +kernel
theorem dX11_sit_97 : decode cX11_sit 97 = .ok (.iload_n 3, 1) := by decide +kernel
theorem dX11_sit_98 : decode cX11_sit 98 = .ok (.goto 5, 3) := by decide +kernel
theorem dX11_sit_101 : decode cX11_sit 101 = .ok (.iload 4, 2) := by decide +kernel
theorem dX11_sit_103 : decode cX11_sit 103 = .ok (.ireturn, 1) := by decide +kernel
theorem dX11_apart_0 : decode cX11_apart 0 = .ok (.iload_n 1, 1) := by decide +kernel
theorem dX11_apart_1 : decode cX11_apart 1 = .ok (.iconst 0, 1) := by decide +kernel
theorem dX11_apart_2 : decode cX11_apart 2 = .ok (.iconst 1, 1) := by decide +kernel
theorem dX11_apart_3 : decode cX11_apart 3 = .ok (.invokestatic 125, 3) := by decide +kernel
theorem dX11_apart_6 : decode cX11_apart 6 = .ok (.ifCond .ne 5, 3) := by decide +kernel
theorem dX11_apart_9 : decode cX11_apart 9 = .ok (.iconst (-1), 1) := by decide +kernel
theorem dX11_apart_10 : decode cX11_apart 10 = .ok (.ireturn, 1) := by decide +kernel
theorem dX11_apart_11 : decode cX11_apart 11 = .ok (.aload_n 0, 1) := by decide +kernel
theorem dX11_apart_12 : decode cX11_apart 12 = .ok (.getfield 45, 3) := by decide +kernel
theorem dX11_apart_15 : decode cX11_apart 15 = .ok (.invokevirtual 156, 3) := by decide +kernel
theorem dX11_apart_18 : decode cX11_apart 18 = .ok (.istore_n 2, 1) := by decide +kernel
theorem dX11_apart_19 : decode cX11_apart 19 = .ok (.iconst 0, 1) := by decide +kernel
theorem dX11_apart_20 : decode cX11_apart 20 = .ok (.istore_n 3, 1) := by decide +kernel
theorem dX11_apart_21 : decode cX11_apart 21 = .ok (.bipush (-4), 2) := by decide +kernel
theorem dX11_apart_23 : decode cX11_apart 23 = .ok (.istore 4, 2) := by decide +kernel
theorem dX11_apart_25 : decode cX11_apart 25 = .ok (.iconst 0, 1) := by decide +kernel
theorem dX11_apart_26 : decode cX11_apart 26 = .ok (.istore 5, 2) := by decide +kernel
theorem dX11_apart_28 : decode cX11_apart 28 = .ok (.iload 5, 2) := by decide +kernel
theorem dX11_apart_30 : decode cX11_apart 30 = .ok (.aload_n 0, 1) := by decide +kernel
theorem dX11_apart_31 : decode cX11_apart 31 = .ok (.getfield 45, 3) := by decide +kernel
theorem dX11_apart_34 : decode cX11_apart 34 = .ok (.getfield 140, 3) := by decide +kernel
theorem dX11_apart_37 : decode cX11_apart 37 = .ok (.if_icmp .ge 67, 3) := by decide +kernel
theorem dX11_apart_40 : decode cX11_apart 40 = .ok (.iload 5, 2) := by decide +kernel
theorem dX11_apart_42 : decode cX11_apart 42 = .ok (.iconst 1, 1) := by decide +kernel
theorem dX11_apart_43 : decode cX11_apart 43 = .ok (.iadd, 1) := by decide +kernel
theorem dX11_apart_44 : decode cX11_apart 44 = .ok (.istore 6, 2) := by decide +kernel
theorem dX11_apart_46 : decode cX11_apart 46 = .ok (.iload 6, 2) := by decide +kernel
theorem dX11_apart_48 : decode cX11_apart 48 = .ok (.aload_n 0, 1) := by decide +kernel
theorem dX11_apart_49 : decode cX11_apart 49 = .ok (.getfield 45, 3) := by decide +kernel
theorem dX11_apart_52 : decode cX11_apart 52 = .ok (.getfield 140, 3) := by decide +kernel
theorem dX11_apart_55 : decode cX11_apart 55 = .ok (.if_icmp .ge 43, 3) := by decide +kernel
theorem dX11_apart_58 : decode cX11_apart 58 = .ok (.aload_n 0, 1) := by decide +kernel
theorem dX11_apart_59 : decode cX11_apart 59 = .ok (.iload 5, 2) := by decide +kernel
theorem dX11_apart_61 : decode cX11_apart 61 = .ok (.iload 6, 2) := by decide +kernel
theorem dX11_apart_63 : decode cX11_apart 63 = .ok (.invokevirtual 211, 3) := by decide +kernel
theorem dX11_apart_66 : decode cX11_apart 66 = .ok (.iload_n 2, 1) := by decide +kernel
theorem dX11_apart_67 : decode cX11_apart 67 = .ok (.if_icmp .le 25, 3) := by decide +kernel
theorem dX11_apart_70 : decode cX11_apart 70 = .ok (.iload_n 3, 1) := by decide +kernel
theorem dX11_apart_71 : decode cX11_apart 71 = .ok (.ifCond .ne 14, 3) := by decide +kernel
theorem dX11_apart_74 : decode cX11_apart 74 = .ok (.bipush 10, 2) := by decide +kernel
theorem dX11_apart_76 : decode cX11_apart 76 = .ok (.iload 5, 2) := by decide +kernel
theorem dX11_apart_78 : decode cX11_apart 78 = .ok (.imul, 1) := by decide +kernel
theorem dX11_apart_79 : decode cX11_apart 79 = .ok (.iload 6, 2) := by decide +kernel
theorem dX11_apart_81 : decode cX11_apart 81 = .ok (.iadd, 1) := by decide +kernel
theorem dX11_apart_82 : decode cX11_apart 82 = .ok (.goto 5, 3) := by decide +kernel
theorem dX11_apart_85 : decode cX11_apart 85 = .ok (.iload 4, 2) := by decide +kernel
theorem dX11_apart_87 : decode cX11_apart 87 = .ok (.istore 4, 2) := by decide +kernel
theorem dX11_apart_89 : decode cX11_apart 89 = .ok (.iinc 3 1, 3) := by decide +kernel
theorem dX11_apart_92 : decode cX11_apart 92 = .ok (.iinc 6 1, 3) := by decide +kernel
theorem dX11_apart_95 : decode cX11_apart 95 = .ok (.goto (-49), 3) := by decide +kernel
theorem dX11_apart_98 : decode cX11_apart 98 = .ok (.iinc 5 1, 3) := by decide +kernel
theorem dX11_apart_101 : decode cX11_apart 101 = .ok (.goto (-73), 3) := by decide +kernel
theorem dX11_apart_104 : decode cX11_apart 104 = .ok (.iload_n 1, 1) := by decide +kernel
theorem dX11_apart_105 : decode cX11_apart 105 = .ok (.ifCond .ne 7, 3) := by decide +kernel
theorem dX11_apart_108 : decode cX11_apart 108 = .ok (.iload_n 3, 1) := by decide +kernel
theorem dX11_apart_109 : decode cX11_apart 109 = .ok (.goto 5, 3) := by decide +kernel
theorem dX11_apart_112 : decode cX11_apart 112 = .ok (.iload 4, 2) := by decide +kernel
theorem dX11_apart_114 : decode cX11_apart 114 = .ok (.ireturn, 1) := by decide +kernel
theorem dX11_keeps_0 : decode cX11_keeps 0 = .ok (.bipush (-4), 2) := by decide +kernel
theorem dX11_keeps_2 : decode cX11_keeps 2 = .ok (.istore_n 1, 1) := by decide +kernel
theorem dX11_keeps_3 : decode cX11_keeps 3 = .ok (.iconst (-1), 1) := by decide +kernel
theorem dX11_keeps_4 : decode cX11_keeps 4 = .ok (.istore_n 2, 1) := by decide +kernel
theorem dX11_keeps_5 : decode cX11_keeps 5 = .ok (.iconst 0, 1) := by decide +kernel
theorem dX11_keeps_6 : decode cX11_keeps 6 = .ok (.istore_n 3, 1) := by decide +kernel
theorem dX11_keeps_7 : decode cX11_keeps 7 = .ok (.iload_n 3, 1) := by decide +kernel
theorem dX11_keeps_8 : decode cX11_keeps 8 = .ok (.iconst 1, 1) := by decide +kernel
theorem dX11_keeps_9 : decode cX11_keeps 9 = .ok (.aload_n 0, 1) := by decide +kernel
theorem dX11_keeps_10 : decode cX11_keeps 10 = .ok (.getfield 45, 3) := by decide +kernel
theorem dX11_keeps_13 : decode cX11_keeps 13 = .ok (.getfield 140, 3) := by decide +kernel
theorem dX11_keeps_16 : decode cX11_keeps 16 = .ok (.ishl, 1) := by decide +kernel
theorem dX11_keeps_17 : decode cX11_keeps 17 = .ok (.if_icmp .ge 34, 3) := by decide +kernel
theorem dX11_keeps_20 : decode cX11_keeps 20 = .ok (.iload_n 3, 1) := by decide +kernel
theorem dX11_keeps_21 : decode cX11_keeps 21 = .ok (.invokestatic 172, 3) := by decide +kernel
theorem dX11_keeps_24 : decode cX11_keeps 24 = .ok (.istore 4, 2) := by decide +kernel
theorem dX11_keeps_26 : decode cX11_keeps 26 = .ok (.iload 4, 2) := by decide +kernel
theorem dX11_keeps_28 : decode cX11_keeps 28 = .ok (.iload_n 2, 1) := by decide +kernel
theorem dX11_keeps_29 : decode cX11_keeps 29 = .ok (.if_icmp .le 16, 3) := by decide +kernel
theorem dX11_keeps_32 : decode cX11_keeps 32 = .ok (.aload_n 0, 1) := by decide +kernel
theorem dX11_keeps_33 : decode cX11_keeps 33 = .ok (.iload_n 3, 1) := by decide +kernel
theorem dX11_keeps_34 : decode cX11_keeps 34 = .ok (.invokevirtual 214, 3) := by decide +kernel
theorem dX11_keeps_37 : decode cX11_keeps 37 = .ok (.ifCond .ne 8, 3) := by decide +kernel
theorem dX11_keeps_40 : decode cX11_keeps 40 = .ok (.iload 4, 2) := by decide +kernel
theorem dX11_keeps_42 : decode cX11_keeps 42 = .ok (.istore_n 2, 1) := by decide +kernel
theorem dX11_keeps_43 : decode cX11_keeps 43 = .ok (.iload_n 3, 1) := by decide +kernel
theorem dX11_keeps_44 : decode cX11_keeps 44 = .ok (.istore_n 1, 1) := by decide +kernel
theorem dX11_keeps_45 : decode cX11_keeps 45 = .ok (.iinc 3 1, 3) := by decide +kernel
theorem dX11_keeps_48 : decode cX11_keeps 48 = .ok (.goto (-41), 3) := by decide +kernel
theorem dX11_keeps_51 : decode cX11_keeps 51 = .ok (.iload_n 1, 1) := by decide +kernel
theorem dX11_keeps_52 : decode cX11_keeps 52 = .ok (.ireturn, 1) := by decide +kernel
theorem dX11_even_0 : decode cX11_even 0 = .ok (.bipush (-4), 2) := by decide +kernel
theorem dX11_even_2 : decode cX11_even 2 = .ok (.istore_n 1, 1) := by decide +kernel
theorem dX11_even_3 : decode cX11_even 3 = .ok (.aload_n 0, 1) := by decide +kernel
theorem dX11_even_4 : decode cX11_even 4 = .ok (.getfield 45, 3) := by decide +kernel
theorem dX11_even_7 : decode cX11_even 7 = .ok (.aload_n 0, 1) := by decide +kernel
theorem dX11_even_8 : decode cX11_even 8 = .ok (.getfield 45, 3) := by decide +kernel
theorem dX11_even_11 : decode cX11_even 11 = .ok (.invokevirtual 181, 3) := by decide +kernel
theorem dX11_even_14 : decode cX11_even 14 = .ok (.invokevirtual 184, 3) := by decide +kernel
theorem dX11_even_17 : decode cX11_even 17 = .ok (.istore_n 2, 1) := by decide +kernel
theorem dX11_even_18 : decode cX11_even 18 = .ok (.iconst 0, 1) := by decide +kernel
theorem dX11_even_19 : decode cX11_even 19 = .ok (.istore_n 3, 1) := by decide +kernel
theorem dX11_even_20 : decode cX11_even 20 = .ok (.iload_n 3, 1) := by decide +kernel
theorem dX11_even_21 : decode cX11_even 21 = .ok (.aload_n 0, 1) := by decide +kernel
theorem dX11_even_22 : decode cX11_even 22 = .ok (.getfield 45, 3) := by decide +kernel
theorem dX11_even_25 : decode cX11_even 25 = .ok (.getfield 140, 3) := by decide +kernel
theorem dX11_even_28 : decode cX11_even 28 = .ok (.if_icmp .ge 80, 3) := by decide +kernel
theorem dX11_even_31 : decode cX11_even 31 = .ok (.aload_n 0, 1) := by decide +kernel
theorem dX11_even_32 : decode cX11_even 32 = .ok (.getfield 49, 3) := by decide +kernel
theorem dX11_even_35 : decode cX11_even 35 = .ok (.aload_n 0, 1) := by decide +kernel
theorem dX11_even_36 : decode cX11_even 36 = .ok (.getfield 45, 3) := by decide +kernel
theorem dX11_even_39 : decode cX11_even 39 = .ok (.invokevirtual 69, 3) := by decide +kernel
theorem dX11_even_42 : decode cX11_even 42 = .ok (.iconst 0, 1) := by decide +kernel
theorem dX11_even_43 : decode cX11_even 43 = .ok (.istore 4, 2) := by decide +kernel
theorem dX11_even_45 : decode cX11_even 45 = .ok (.iload 4, 2) := by decide +kernel
theorem dX11_even_47 : decode cX11_even 47 = .ok (.bipush 15, 2) := by decide +kernel
theorem dX11_even_49 : decode cX11_even 49 = .ok (.if_icmp .ge 53, 3) := by decide +kernel
theorem dX11_even_52 : decode cX11_even 52 = .ok (.aload_n 0, 1) := by decide +kernel
theorem dX11_even_53 : decode cX11_even 53 = .ok (.getfield 49, 3) := by decide +kernel
theorem dX11_even_56 : decode cX11_even 56 = .ok (.getfield 98, 3) := by decide +kernel
theorem dX11_even_59 : decode cX11_even 59 = .ok (.iload_n 3, 1) := by decide +kernel
theorem dX11_even_60 : decode cX11_even 60 = .ok (.iload 4, 2) := by decide +kernel
theorem dX11_even_62 : decode cX11_even 62 = .ok (.iastore, 1) := by decide +kernel
theorem dX11_even_63 : decode cX11_even 63 = .ok (.aload_n 0, 1) := by decide +kernel
theorem dX11_even_64 : decode cX11_even 64 = .ok (.getfield 49, 3) := by decide +kernel
theorem dX11_even_67 : decode cX11_even 67 = .ok (.aload_n 0, 1) := by decide +kernel
theorem dX11_even_68 : decode cX11_even 68 = .ok (.getfield 49, 3) := by decide +kernel
theorem dX11_even_71 : decode cX11_even 71 = .ok (.invokevirtual 181, 3) := by decide +kernel
theorem dX11_even_74 : decode cX11_even 74 = .ok (.invokevirtual 184, 3) := by decide +kernel
theorem dX11_even_77 : decode cX11_even 77 = .ok (.istore 5, 2) := by decide +kernel
theorem dX11_even_79 : decode cX11_even 79 = .ok (.iload 5, 2) := by decide +kernel
theorem dX11_even_81 : decode cX11_even 81 = .ok (.iload_n 2, 1) := by decide +kernel
theorem dX11_even_82 : decode cX11_even 82 = .ok (.if_icmp .ge 14, 3) := by decide +kernel
theorem dX11_even_85 : decode cX11_even 85 = .ok (.iload 5, 2) := by decide +kernel
theorem dX11_even_87 : decode cX11_even 87 = .ok (.istore_n 2, 1) := by decide +kernel
theorem dX11_even_88 : decode cX11_even 88 = .ok (.bipush 100, 2) := by decide +kernel
theorem dX11_even_90 : decode cX11_even 90 = .ok (.iload_n 3, 1) := by decide +kernel
theorem dX11_even_91 : decode cX11_even 91 = .ok (.imul, 1) := by decide +kernel
theorem dX11_even_92 : decode cX11_even 92 = .ok (.iload 4, 2) := by decide +kernel
theorem dX11_even_94 : decode cX11_even 94 = .ok (.iadd, 1) := by decide +kernel
theorem dX11_even_95 : decode cX11_even 95 = .ok (.istore_n 1, 1) := by decide +kernel
theorem dX11_even_96 : decode cX11_even 96 = .ok (.iinc 4 1, 3) := by decide +kernel
theorem dX11_even_99 : decode cX11_even 99 = .ok (.goto (-54), 3) := by decide +kernel
theorem dX11_even_102 : decode cX11_even 102 = .ok (.iinc 3 1, 3) := by decide +kernel
theorem dX11_even_105 : decode cX11_even 105 = .ok (.goto (-85), 3) := by decide +kernel
theorem dX11_even_108 : decode cX11_even 108 = .ok (.iload_n 1, 1) := by decide +kernel
theorem dX11_even_109 : decode cX11_even 109 = .ok (.ireturn, 1) := by decide +kernel
theorem dX11_order_0 : decode cX11_order 0 = .ok (.iload_n 1, 1) := by decide +kernel
theorem dX11_order_1 : decode cX11_order 1 = .ok (.iconst 0, 1) := by decide +kernel
theorem dX11_order_2 : decode cX11_order 2 = .ok (.iconst 1, 1) := by decide +kernel
theorem dX11_order_3 : decode cX11_order 3 = .ok (.invokestatic 125, 3) := by decide +kernel
theorem dX11_order_6 : decode cX11_order 6 = .ok (.ifCond .ne 5, 3) := by decide +kernel
theorem dX11_order_9 : decode cX11_order 9 = .ok (.iconst (-1), 1) := by decide +kernel
theorem dX11_order_10 : decode cX11_order 10 = .ok (.ireturn, 1) := by decide +kernel
theorem dX11_order_11 : decode cX11_order 11 = .ok (.bipush (-4), 2) := by decide +kernel
theorem dX11_order_13 : decode cX11_order 13 = .ok (.istore_n 2, 1) := by decide +kernel
theorem dX11_order_14 : decode cX11_order 14 = .ok (.bipush (-4), 2) := by decide +kernel
theorem dX11_order_16 : decode cX11_order 16 = .ok (.istore_n 3, 1) := by decide +kernel
theorem dX11_order_17 : decode cX11_order 17 = .ok (.iconst 0, 1) := by decide +kernel
theorem dX11_order_18 : decode cX11_order 18 = .ok (.istore 4, 2) := by decide +kernel
theorem dX11_order_20 : decode cX11_order 20 = .ok (.iload 4, 2) := by decide +kernel
theorem dX11_order_22 : decode cX11_order 22 = .ok (.aload_n 0, 1) := by decide +kernel
theorem dX11_order_23 : decode cX11_order 23 = .ok (.getfield 45, 3) := by decide +kernel
theorem dX11_order_26 : decode cX11_order 26 = .ok (.getfield 140, 3) := by decide +kernel
theorem dX11_order_29 : decode cX11_order 29 = .ok (.if_icmp .ge 61, 3) := by decide +kernel
theorem dX11_order_32 : decode cX11_order 32 = .ok (.aload_n 0, 1) := by decide +kernel
theorem dX11_order_33 : decode cX11_order 33 = .ok (.getfield 49, 3) := by decide +kernel
theorem dX11_order_36 : decode cX11_order 36 = .ok (.aload_n 0, 1) := by decide +kernel
theorem dX11_order_37 : decode cX11_order 37 = .ok (.getfield 45, 3) := by decide +kernel
theorem dX11_order_40 : decode cX11_order 40 = .ok (.invokevirtual 69, 3) := by decide +kernel
theorem dX11_order_43 : decode cX11_order 43 = .ok (.aload_n 0, 1) := by decide +kernel
theorem dX11_order_44 : decode cX11_order 44 = .ok (.getfield 49, 3) := by decide +kernel
theorem dX11_order_47 : decode cX11_order 47 = .ok (.getfield 98, 3) := by decide +kernel
theorem dX11_order_50 : decode cX11_order 50 = .ok (.iload 4, 2) := by decide +kernel
theorem dX11_order_52 : decode cX11_order 52 = .ok (.iconst 0, 1) := by decide +kernel
theorem dX11_order_53 : decode cX11_order 53 = .ok (.iastore, 1) := by decide +kernel
theorem dX11_order_54 : decode cX11_order 54 = .ok (.aload_n 0, 1) := by decide +kernel
theorem dX11_order_55 : decode cX11_order 55 = .ok (.getfield 49, 3) := by decide +kernel
theorem dX11_order_58 : decode cX11_order 58 = .ok (.iload 4, 2) := by decide +kernel
theorem dX11_order_60 : decode cX11_order 60 = .ok (.iconst 1, 1) := by decide +kernel
theorem dX11_order_61 : decode cX11_order 61 = .ok (.invokevirtual 201, 3) := by decide +kernel
theorem dX11_order_64 : decode cX11_order 64 = .ok (.istore 5, 2) := by decide +kernel
theorem dX11_order_66 : decode cX11_order 66 = .ok (.iload_n 2, 1) := by decide +kernel
theorem dX11_order_67 : decode cX11_order 67 = .ok (.bipush (-4), 2) := by decide +kernel
theorem dX11_order_69 : decode cX11_order 69 = .ok (.if_icmp .eq 9, 3) := by decide +kernel
theorem dX11_order_72 : decode cX11_order 72 = .ok (.iload 5, 2) := by decide +kernel
theorem dX11_order_74 : decode cX11_order 74 = .ok (.iload_n 3, 1) := by decide +kernel
theorem dX11_order_75 : decode cX11_order 75 = .ok (.if_icmp .le 9, 3) := by decide +kernel
theorem dX11_order_78 : decode cX11_order 78 = .ok (.iload 5, 2) := by decide +kernel
theorem dX11_order_80 : decode cX11_order 80 = .ok (.istore_n 3, 1) := by decide +kernel
theorem dX11_order_81 : decode cX11_order 81 = .ok (.iload 4, 2) := by decide +kernel
theorem dX11_order_83 : decode cX11_order 83 = .ok (.istore_n 2, 1) := by decide +kernel
theorem dX11_order_84 : decode cX11_order 84 = .ok (.iinc 4 1, 3) := by decide +kernel
theorem dX11_order_87 : decode cX11_order 87 = .ok (.goto (-67), 3) := by decide +kernel
theorem dX11_order_90 : decode cX11_order 90 = .ok (.iload_n 1, 1) := by decide +kernel
theorem dX11_order_91 : decode cX11_order 91 = .ok (.ifCond .ne 7, 3) := by decide +kernel
theorem dX11_order_94 : decode cX11_order 94 = .ok (.iload_n 2, 1) := by decide +kernel
theorem dX11_order_95 : decode cX11_order 95 = .ok (.goto 4, 3) := by decide +kernel
theorem dX11_order_98 : decode cX11_order 98 = .ok (.iload_n 3, 1) := by decide +kernel
theorem dX11_order_99 : decode cX11_order 99 = .ok (.ireturn, 1) := by decide +kernel
theorem dX11_ages_0 : decode cX11_ages 0 = .ok (.aload_n 0, 1) := by decide +kernel
theorem dX11_ages_1 : decode cX11_ages 1 = .ok (.getfield 45, 3) := by decide +kernel
theorem dX11_ages_4 : decode cX11_ages 4 = .ok (.iload_n 2, 1) := by decide +kernel
theorem dX11_ages_5 : decode cX11_ages 5 = .ok (.invokevirtual 84, 3) := by decide +kernel
theorem dX11_ages_8 : decode cX11_ages 8 = .ok (.ifCond .eq 16, 3) := by decide +kernel
theorem dX11_ages_11 : decode cX11_ages 11 = .ok (.iload_n 3, 1) := by decide +kernel
theorem dX11_ages_12 : decode cX11_ages 12 = .ok (.iconst 0, 1) := by decide +kernel
theorem dX11_ages_13 : decode cX11_ages 13 = .ok (.iconst 2, 1) := by decide +kernel
theorem dX11_ages_14 : decode cX11_ages 14 = .ok (.invokestatic 125, 3) := by decide +kernel
theorem dX11_ages_17 : decode cX11_ages 17 = .ok (.ifCond .eq 7, 3) := by decide +kernel
theorem dX11_ages_20 : decode cX11_ages 20 = .ok (.iconst 1, 1) := by decide +kernel
theorem dX11_ages_21 : decode cX11_ages 21 = .ok (.goto 4, 3) := by decide +kernel
theorem dX11_ages_24 : decode cX11_ages 24 = .ok (.iconst 0, 1) := by decide +kernel
theorem dX11_ages_25 : decode cX11_ages 25 = .ok (.istore 4, 2) := by decide +kernel
theorem dX11_ages_27 : decode cX11_ages 27 = .ok (.iload 4, 2) := by decide +kernel
theorem dX11_ages_29 : decode cX11_ages 29 = .ok (.ifCond .eq 11, 3) := by decide +kernel
theorem dX11_ages_32 : decode cX11_ages 32 = .ok (.aload_n 0, 1) := by decide +kernel
theorem dX11_ages_33 : decode cX11_ages 33 = .ok (.iload_n 1, 1) := by decide +kernel
theorem dX11_ages_34 : decode cX11_ages 34 = .ok (.invokevirtual 55, 3) := by decide +kernel
theorem dX11_ages_37 : decode cX11_ages 37 = .ok (.goto 4, 3) := by decide +kernel
theorem dX11_ages_40 : decode cX11_ages 40 = .ok (.iconst (-1), 1) := by decide +kernel
theorem dX11_ages_41 : decode cX11_ages 41 = .ok (.istore 5, 2) := by decide +kernel
theorem dX11_ages_43 : decode cX11_ages 43 = .ok (.iload 5, 2) := by decide +kernel
theorem dX11_ages_45 : decode cX11_ages 45 = .ok (.ifCond .ge 6, 3) := by decide +kernel
theorem dX11_ages_48 : decode cX11_ages 48 = .ok (.iload 5, 2) := by decide +kernel
theorem dX11_ages_50 : decode cX11_ages 50 = .ok (.ireturn, 1) := by decide +kernel
theorem dX11_ages_51 : decode cX11_ages 51 = .ok (.iconst 0, 1) := by decide +kernel
theorem dX11_ages_52 : decode cX11_ages 52 = .ok (.istore 6, 2) := by decide +kernel
theorem dX11_ages_54 : decode cX11_ages 54 = .ok (.bipush (-4), 2) := by decide +kernel
theorem dX11_ages_56 : decode cX11_ages 56 = .ok (.istore 7, 2) := by decide +kernel
theorem dX11_ages_58 : decode cX11_ages 58 = .ok (.bipush (-4), 2) := by decide +kernel
theorem dX11_ages_60 : decode cX11_ages 60 = .ok (.istore 8, 2) := by decide +kernel
theorem dX11_ages_62 : decode cX11_ages 62 = .ok (.iconst 0, 1) := by decide +kernel
theorem dX11_ages_63 : decode cX11_ages 63 = .ok (.istore 9, 2) := by decide +kernel
theorem dX11_ages_65 : decode cX11_ages 65 = .ok (.iload 9, 2) := by decide +kernel
theorem dX11_ages_67 : decode cX11_ages 67 = .ok (.bipush 120, 2) := by decide +kernel
theorem dX11_ages_69 : decode cX11_ages 69 = .ok (.if_icmp .gt 61, 3) := by decide +kernel
theorem dX11_ages_72 : decode cX11_ages 72 = .ok (.aload_n 0, 1) := by decide +kernel
theorem dX11_ages_73 : decode cX11_ages 73 = .ok (.iload_n 1, 1) := by decide +kernel
theorem dX11_ages_74 : decode cX11_ages 74 = .ok (.iload_n 2, 1) := by decide +kernel
theorem dX11_ages_75 : decode cX11_ages 75 = .ok (.aload_n 0, 1) := by decide +kernel
theorem dX11_ages_76 : decode cX11_ages 76 = .ok (.getfield 45, 3) := by decide +kernel
theorem dX11_ages_79 : decode cX11_ages 79 = .ok (.getfield 88, 3) := by decide +kernel
theorem dX11_ages_82 : decode cX11_ages 82 = .ok (.iload_n 2, 1) := by decide +kernel
theorem dX11_ages_83 : decode cX11_ages 83 = .ok (.iaload, 1) := by decide +kernel
theorem dX11_ages_84 : decode cX11_ages 84 = .ok (.aload_n 0, 1) := by decide +kernel
theorem dX11_ages_85 : decode cX11_ages 85 = .ok (.getfield 45, 3) := by decide +kernel
theorem dX11_ages_88 : decode cX11_ages 88 = .ok (.getfield 92, 3) := by decide +kernel
theorem dX11_ages_91 : decode cX11_ages 91 = .ok (.iload_n 2, 1) := by decide +kernel
theorem dX11_ages_92 : decode cX11_ages 92 = .ok (.iaload, 1) := by decide +kernel
theorem dX11_ages_93 : decode cX11_ages 93 = .ok (.iload 9, 2) := by decide +kernel
theorem dX11_ages_95 : decode cX11_ages 95 = .ok (.invokevirtual 217, 3) := by decide +kernel
theorem dX11_ages_98 : decode cX11_ages 98 = .ok (.ifCond .eq 26, 3) := by decide +kernel
theorem dX11_ages_101 : decode cX11_ages 101 = .ok (.iinc 6 1, 3) := by decide +kernel
theorem dX11_ages_104 : decode cX11_ages 104 = .ok (.iload 7, 2) := by decide +kernel
theorem dX11_ages_106 : decode cX11_ages 106 = .ok (.bipush (-4), 2) := by decide +kernel
theorem dX11_ages_108 : decode cX11_ages 108 = .ok (.if_icmp .ne 8, 3) := by decide +kernel
theorem dX11_ages_111 : decode cX11_ages 111 = .ok (.iload 9, 2) := by decide +kernel
theorem dX11_ages_113 : decode cX11_ages 113 = .ok (.goto 5, 3) := by decide +kernel
theorem dX11_ages_116 : decode cX11_ages 116 = .ok (.iload 7, 2) := by decide +kernel
theorem dX11_ages_118 : decode cX11_ages 118 = .ok (.istore 7, 2) := by decide +kernel
theorem dX11_ages_120 : decode cX11_ages 120 = .ok (.iload 9, 2) := by decide +kernel
theorem dX11_ages_122 : decode cX11_ages 122 = .ok (.istore 8, 2) := by decide +kernel
theorem dX11_ages_124 : decode cX11_ages 124 = .ok (.iinc 9 1, 3) := by decide +kernel
theorem dX11_ages_127 : decode cX11_ages 127 = .ok (.goto (-62), 3) := by decide +kernel
theorem dX11_ages_130 : decode cX11_ages 130 = .ok (.iload_n 3, 1) := by decide +kernel
theorem dX11_ages_131 : decode cX11_ages 131 = .ok (.ifCond .ne 6, 3) := by decide +kernel
theorem dX11_ages_134 : decode cX11_ages 134 = .ok (.iload 6, 2) := by decide +kernel
theorem dX11_ages_136 : decode cX11_ages 136 = .ok (.ireturn, 1) := by decide +kernel
theorem dX11_ages_137 : decode cX11_ages 137 = .ok (.iload_n 3, 1) := by decide +kernel
theorem dX11_ages_138 : decode cX11_ages 138 = .ok (.iconst 1, 1) := by decide +kernel
theorem dX11_ages_139 : decode cX11_ages 139 = .ok (.if_icmp .ne 8, 3) := by decide +kernel
theorem dX11_ages_142 : decode cX11_ages 142 = .ok (.iload 7, 2) := by decide +kernel
theorem dX11_ages_144 : decode cX11_ages 144 = .ok (.goto 5, 3) := by decide +kernel
theorem dX11_ages_147 : decode cX11_ages 147 = .ok (.iload 8, 2) := by decide +kernel
theorem dX11_ages_149 : decode cX11_ages 149 = .ok (.ireturn, 1) := by decide +kernel
theorem dX11_whatIs_0 : decode cX11_whatIs 0 = .ok (.aload_n 0, 1) := by decide +kernel
theorem dX11_whatIs_1 : decode cX11_whatIs 1 = .ok (.getfield 45, 3) := by decide +kernel
theorem dX11_whatIs_4 : decode cX11_whatIs 4 = .ok (.iload_n 2, 1) := by decide +kernel
theorem dX11_whatIs_5 : decode cX11_whatIs 5 = .ok (.invokevirtual 84, 3) := by decide +kernel
theorem dX11_whatIs_8 : decode cX11_whatIs 8 = .ok (.ifCond .eq 16, 3) := by decide +kernel
theorem dX11_whatIs_11 : decode cX11_whatIs 11 = .ok (.iload_n 3, 1) := by decide +kernel
theorem dX11_whatIs_12 : decode cX11_whatIs 12 = .ok (.iconst 0, 1) := by decide +kernel
theorem dX11_whatIs_13 : decode cX11_whatIs 13 = .ok (.iconst 1, 1) := by decide +kernel
theorem dX11_whatIs_14 : decode cX11_whatIs 14 = .ok (.invokestatic 125, 3) := by decide +kernel
theorem dX11_whatIs_17 : decode cX11_whatIs 17 = .ok (.ifCond .eq 7, 3) := by decide +kernel
theorem dX11_whatIs_20 : decode cX11_whatIs 20 = .ok (.iconst 1, 1) := by decide +kernel
theorem dX11_whatIs_21 : decode cX11_whatIs 21 = .ok (.goto 4, 3) := by decide +kernel
theorem dX11_whatIs_24 : decode cX11_whatIs 24 = .ok (.iconst 0, 1) := by decide +kernel
theorem dX11_whatIs_25 : decode cX11_whatIs 25 = .ok (.istore 4, 2) := by decide +kernel
theorem dX11_whatIs_27 : decode cX11_whatIs 27 = .ok (.iload 4, 2) := by decide +kernel
theorem dX11_whatIs_29 : decode cX11_whatIs 29 = .ok (.ifCond .eq 11, 3) := by decide +kernel
theorem dX11_whatIs_32 : decode cX11_whatIs 32 = .ok (.aload_n 0, 1) := by decide +kernel
theorem dX11_whatIs_33 : decode cX11_whatIs 33 = .ok (.iload_n 1, 1) := by decide +kernel
theorem dX11_whatIs_34 : decode cX11_whatIs 34 = .ok (.invokevirtual 55, 3) := by decide +kernel
theorem dX11_whatIs_37 : decode cX11_whatIs 37 = .ok (.goto 4, 3) := by decide +kernel
theorem dX11_whatIs_40 : decode cX11_whatIs 40 = .ok (.iconst (-1), 1) := by decide +kernel
theorem dX11_whatIs_41 : decode cX11_whatIs 41 = .ok (.istore 5, 2) := by decide +kernel
theorem dX11_whatIs_43 : decode cX11_whatIs 43 = .ok (.iload 5, 2) := by decide +kernel
theorem dX11_whatIs_45 : decode cX11_whatIs 45 = .ok (.ifCond .ge 6, 3) := by decide +kernel
theorem dX11_whatIs_48 : decode cX11_whatIs 48 = .ok (.iload 5, 2) := by decide +kernel
theorem dX11_whatIs_50 : decode cX11_whatIs 50 = .ok (.ireturn, 1) := by decide +kernel
theorem dX11_whatIs_51 : decode cX11_whatIs 51 = .ok (.iconst 0, 1) := by decide +kernel
theorem dX11_whatIs_52 : decode cX11_whatIs 52 = .ok (.istore 6, 2) := by decide +kernel
theorem dX11_whatIs_54 : decode cX11_whatIs 54 = .ok (.iload_n 3, 1) := by decide +kernel
theorem dX11_whatIs_55 : decode cX11_whatIs 55 = .ok (.ifCond .ne 8, 3) := by decide +kernel
theorem dX11_whatIs_58 : decode cX11_whatIs 58 = .ok (.bipush 8, 2) := by decide +kernel
theorem dX11_whatIs_60 : decode cX11_whatIs 60 = .ok (.goto 5, 3) := by decide +kernel
theorem dX11_whatIs_63 : decode cX11_whatIs 63 = .ok (.bipush 10, 2) := by decide +kernel
theorem dX11_whatIs_65 : decode cX11_whatIs 65 = .ok (.istore 7, 2) := by decide +kernel
theorem dX11_whatIs_67 : decode cX11_whatIs 67 = .ok (.iconst 0, 1) := by decide +kernel
theorem dX11_whatIs_68 : decode cX11_whatIs 68 = .ok (.istore 8, 2) := by decide +kernel
theorem dX11_whatIs_70 : decode cX11_whatIs 70 = .ok (.iload 8, 2) := by decide +kernel
theorem dX11_whatIs_72 : decode cX11_whatIs 72 = .ok (.iload 7, 2) := by decide +kernel
theorem dX11_whatIs_74 : decode cX11_whatIs 74 = .ok (.if_icmp .ge 80, 3) := by decide +kernel
theorem dX11_whatIs_77 : decode cX11_whatIs 77 = .ok (.iload_n 3, 1) := by decide +kernel
theorem dX11_whatIs_78 : decode cX11_whatIs 78 = .ok (.ifCond .ne 8, 3) := by decide +kernel
theorem dX11_whatIs_81 : decode cX11_whatIs 81 = .ok (.iload 8, 2) := by decide +kernel
theorem dX11_whatIs_83 : decode cX11_whatIs 83 = .ok (.goto 12, 3) := by decide +kernel
theorem dX11_whatIs_86 : decode cX11_whatIs 86 = .ok (.aload_n 0, 1) := by decide +kernel
theorem dX11_whatIs_87 : decode cX11_whatIs 87 = .ok (.getfield 45, 3) := by decide +kernel
theorem dX11_whatIs_90 : decode cX11_whatIs 90 = .ok (.getfield 88, 3) := by decide +kernel
theorem dX11_whatIs_93 : decode cX11_whatIs 93 = .ok (.iload_n 2, 1) := by decide +kernel
theorem dX11_whatIs_94 : decode cX11_whatIs 94 = .ok (.iaload, 1) := by decide +kernel
theorem dX11_whatIs_95 : decode cX11_whatIs 95 = .ok (.istore 9, 2) := by decide +kernel
theorem dX11_whatIs_97 : decode cX11_whatIs 97 = .ok (.iload_n 3, 1) := by decide +kernel
theorem dX11_whatIs_98 : decode cX11_whatIs 98 = .ok (.ifCond .ne 15, 3) := by decide +kernel
theorem dX11_whatIs_101 : decode cX11_whatIs 101 = .ok (.aload_n 0, 1) := by decide +kernel
theorem dX11_whatIs_102 : decode cX11_whatIs 102 = .ok (.getfield 45, 3) := by decide +kernel
theorem dX11_whatIs_105 : decode cX11_whatIs 105 = .ok (.getfield 92, 3) := by decide +kernel
theorem dX11_whatIs_108 : decode cX11_whatIs 108 = .ok (.iload_n 2, 1) := by decide +kernel
theorem dX11_whatIs_109 : decode cX11_whatIs 109 = .ok (.iaload, 1) := by decide +kernel
theorem dX11_whatIs_110 : decode cX11_whatIs 110 = .ok (.goto 5, 3) := by decide +kernel
theorem dX11_whatIs_113 : decode cX11_whatIs 113 = .ok (.iload 8, 2) := by decide +kernel
theorem dX11_whatIs_115 : decode cX11_whatIs 115 = .ok (.istore 10, 2) := by decide +kernel
theorem dX11_whatIs_117 : decode cX11_whatIs 117 = .ok (.aload_n 0, 1) := by decide +kernel
theorem dX11_whatIs_118 : decode cX11_whatIs 118 = .ok (.iload_n 1, 1) := by decide +kernel
theorem dX11_whatIs_119 : decode cX11_whatIs 119 = .ok (.iload_n 2, 1) := by decide +kernel
theorem dX11_whatIs_120 : decode cX11_whatIs 120 = .ok (.iload 9, 2) := by decide +kernel
theorem dX11_whatIs_122 : decode cX11_whatIs 122 = .ok (.iload 10, 2) := by decide +kernel
theorem dX11_whatIs_124 : decode cX11_whatIs 124 = .ok (.aload_n 0, 1) := by decide +kernel
theorem dX11_whatIs_125 : decode cX11_whatIs 125 = .ok (.getfield 45, 3) := by decide +kernel
theorem dX11_whatIs_128 : decode cX11_whatIs 128 = .ok (.getfield 95, 3) := by decide +kernel
theorem dX11_whatIs_131 : decode cX11_whatIs 131 = .ok (.iload_n 2, 1) := by decide +kernel
theorem dX11_whatIs_132 : decode cX11_whatIs 132 = .ok (.iaload, 1) := by decide +kernel
theorem dX11_whatIs_133 : decode cX11_whatIs 133 = .ok (.invokevirtual 217, 3) := by decide +kernel
theorem dX11_whatIs_136 : decode cX11_whatIs 136 = .ok (.ifCond .eq 12, 3) := by decide +kernel
theorem dX11_whatIs_139 : decode cX11_whatIs 139 = .ok (.iload 6, 2) := by decide +kernel
theorem dX11_whatIs_141 : decode cX11_whatIs 141 = .ok (.iconst 1, 1) := by decide +kernel
theorem dX11_whatIs_142 : decode cX11_whatIs 142 = .ok (.iload 8, 2) := by decide +kernel
theorem dX11_whatIs_144 : decode cX11_whatIs 144 = .ok (.ishl, 1) := by decide +kernel
theorem dX11_whatIs_145 : decode cX11_whatIs 145 = .ok (.ior, 1) := by decide +kernel
theorem dX11_whatIs_146 : decode cX11_whatIs 146 = .ok (.istore 6, 2) := by decide +kernel
theorem dX11_whatIs_148 : decode cX11_whatIs 148 = .ok (.iinc 8 1, 3) := by decide +kernel
theorem dX11_whatIs_151 : decode cX11_whatIs 151 = .ok (.goto (-81), 3) := by decide +kernel
theorem dX11_whatIs_154 : decode cX11_whatIs 154 = .ok (.iload 6, 2) := by decide +kernel
theorem dX11_whatIs_156 : decode cX11_whatIs 156 = .ok (.ireturn, 1) := by decide +kernel
theorem dX11_two_0 : decode cX11_two 0 = .ok (.aload_n 0, 1) := by decide +kernel
theorem dX11_two_1 : decode cX11_two 1 = .ok (.getfield 45, 3) := by decide +kernel
theorem dX11_two_4 : decode cX11_two 4 = .ok (.iload_n 1, 1) := by decide +kernel
theorem dX11_two_5 : decode cX11_two 5 = .ok (.invokevirtual 84, 3) := by decide +kernel
theorem dX11_two_8 : decode cX11_two 8 = .ok (.ifCond .eq 19, 3) := by decide +kernel
theorem dX11_two_11 : decode cX11_two 11 = .ok (.aload_n 0, 1) := by decide +kernel
theorem dX11_two_12 : decode cX11_two 12 = .ok (.getfield 45, 3) := by decide +kernel
theorem dX11_two_15 : decode cX11_two 15 = .ok (.iload_n 2, 1) := by decide +kernel
theorem dX11_two_16 : decode cX11_two 16 = .ok (.invokevirtual 84, 3) := by decide +kernel
theorem dX11_two_19 : decode cX11_two 19 = .ok (.ifCond .eq 8, 3) := by decide +kernel
theorem dX11_two_22 : decode cX11_two 22 = .ok (.iload_n 1, 1) := by decide +kernel
theorem dX11_two_23 : decode cX11_two 23 = .ok (.iload_n 2, 1) := by decide +kernel
