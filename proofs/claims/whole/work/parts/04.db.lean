theorem dX11_two_24 : decode cX11_two 24 = .ok (.if_icmp .ne 5, 3) := by decide +kernel
theorem dX11_two_27 : decode cX11_two 27 = .ok (.iconst (-1), 1) := by decide +kernel
theorem dX11_two_28 : decode cX11_two 28 = .ok (.ireturn, 1) := by decide +kernel
theorem dX11_two_29 : decode cX11_two 29 = .ok (.iconst 0, 1) := by decide +kernel
theorem dX11_two_30 : decode cX11_two 30 = .ok (.istore_n 3, 1) := by decide +kernel
theorem dX11_two_31 : decode cX11_two 31 = .ok (.iload_n 3, 1) := by decide +kernel
theorem dX11_two_32 : decode cX11_two 32 = .ok (.iconst 2, 1) := by decide +kernel
theorem dX11_two_33 : decode cX11_two 33 = .ok (.if_icmp .ge 102, 3) := by decide +kernel
theorem dX11_two_36 : decode cX11_two 36 = .ok (.iconst 0, 1) := by decide +kernel
theorem dX11_two_37 : decode cX11_two 37 = .ok (.istore 4, 2) := by decide +kernel
theorem dX11_two_39 : decode cX11_two 39 = .ok (.iload 4, 2) := by decide +kernel
theorem dX11_two_41 : decode cX11_two 41 = .ok (.iconst 2, 1) := by decide +kernel
theorem dX11_two_42 : decode cX11_two 42 = .ok (.if_icmp .ge 87, 3) := by decide +kernel
theorem dX11_two_45 : decode cX11_two 45 = .ok (.aload_n 0, 1) := by decide +kernel
theorem dX11_two_46 : decode cX11_two 46 = .ok (.iload_n 1, 1) := by decide +kernel
theorem dX11_two_47 : decode cX11_two 47 = .ok (.iload_n 2, 1) := by decide +kernel
theorem dX11_two_48 : decode cX11_two 48 = .ok (.iload_n 3, 1) := by decide +kernel
theorem dX11_two_49 : decode cX11_two 49 = .ok (.iload 4, 2) := by decide +kernel
theorem dX11_two_51 : decode cX11_two 51 = .ok (.invokevirtual 221, 3) := by decide +kernel
theorem dX11_two_54 : decode cX11_two 54 = .ok (.aload_n 0, 1) := by decide +kernel
theorem dX11_two_55 : decode cX11_two 55 = .ok (.iload_n 1, 1) := by decide +kernel
theorem dX11_two_56 : decode cX11_two 56 = .ok (.iload_n 2, 1) := by decide +kernel
theorem dX11_two_57 : decode cX11_two 57 = .ok (.iconst 1, 1) := by decide +kernel
theorem dX11_two_58 : decode cX11_two 58 = .ok (.iload_n 3, 1) := by decide +kernel
theorem dX11_two_59 : decode cX11_two 59 = .ok (.isub, 1) := by decide +kernel
theorem dX11_two_60 : decode cX11_two 60 = .ok (.iload 4, 2) := by decide +kernel
theorem dX11_two_62 : decode cX11_two 62 = .ok (.invokevirtual 221, 3) := by decide +kernel
theorem dX11_two_65 : decode cX11_two 65 = .ok (.if_icmp .gt 7, 3) := by decide +kernel
theorem dX11_two_68 : decode cX11_two 68 = .ok (.iconst 1, 1) := by decide +kernel
theorem dX11_two_69 : decode cX11_two 69 = .ok (.goto 4, 3) := by decide +kernel
theorem dX11_two_72 : decode cX11_two 72 = .ok (.iconst 0, 1) := by decide +kernel
theorem dX11_two_73 : decode cX11_two 73 = .ok (.istore 5, 2) := by decide +kernel
theorem dX11_two_75 : decode cX11_two 75 = .ok (.aload_n 0, 1) := by decide +kernel
theorem dX11_two_76 : decode cX11_two 76 = .ok (.iload_n 2, 1) := by decide +kernel
theorem dX11_two_77 : decode cX11_two 77 = .ok (.iload_n 1, 1) := by decide +kernel
theorem dX11_two_78 : decode cX11_two 78 = .ok (.iload 4, 2) := by decide +kernel
theorem dX11_two_80 : decode cX11_two 80 = .ok (.iload_n 3, 1) := by decide +kernel
theorem dX11_two_81 : decode cX11_two 81 = .ok (.invokevirtual 221, 3) := by decide +kernel
theorem dX11_two_84 : decode cX11_two 84 = .ok (.aload_n 0, 1) := by decide +kernel
theorem dX11_two_85 : decode cX11_two 85 = .ok (.iload_n 2, 1) := by decide +kernel
theorem dX11_two_86 : decode cX11_two 86 = .ok (.iload_n 1, 1) := by decide +kernel
theorem dX11_two_87 : decode cX11_two 87 = .ok (.iconst 1, 1) := by decide +kernel
theorem dX11_two_88 : decode cX11_two 88 = .ok (.iload 4, 2) := by decide +kernel
theorem dX11_two_90 : decode cX11_two 90 = .ok (.isub, 1) := by decide +kernel
theorem dX11_two_91 : decode cX11_two 91 = .ok (.iload_n 3, 1) := by decide +kernel
theorem dX11_two_92 : decode cX11_two 92 = .ok (.invokevirtual 221, 3) := by decide +kernel
theorem dX11_two_95 : decode cX11_two 95 = .ok (.if_icmp .gt 7, 3) := by decide +kernel
theorem dX11_two_98 : decode cX11_two 98 = .ok (.iconst 1, 1) := by decide +kernel
theorem dX11_two_99 : decode cX11_two 99 = .ok (.goto 4, 3) := by decide +kernel
theorem dX11_two_102 : decode cX11_two 102 = .ok (.iconst 0, 1) := by decide +kernel
theorem dX11_two_103 : decode cX11_two 103 = .ok (.istore 6, 2) := by decide +kernel
theorem dX11_two_105 : decode cX11_two 105 = .ok (.iload 5, 2) := by decide +kernel
theorem dX11_two_107 : decode cX11_two 107 = .ok (.ifCond .eq 16, 3) := by decide +kernel
theorem dX11_two_110 : decode cX11_two 110 = .ok (.iload 6, 2) := by decide +kernel
theorem dX11_two_112 : decode cX11_two 112 = .ok (.ifCond .eq 11, 3) := by decide +kernel
theorem dX11_two_115 : decode cX11_two 115 = .ok (.bipush 10, 2) := by decide +kernel
theorem dX11_two_117 : decode cX11_two 117 = .ok (.iload_n 3, 1) := by decide +kernel
theorem dX11_two_118 : decode cX11_two 118 = .ok (.imul, 1) := by decide +kernel
theorem dX11_two_119 : decode cX11_two 119 = .ok (.iload 4, 2) := by decide +kernel
theorem dX11_two_121 : decode cX11_two 121 = .ok (.iadd, 1) := by decide +kernel
theorem dX11_two_122 : decode cX11_two 122 = .ok (.ireturn, 1) := by decide +kernel
theorem dX11_two_123 : decode cX11_two 123 = .ok (.iinc 4 1, 3) := by decide +kernel
theorem dX11_two_126 : decode cX11_two 126 = .ok (.goto (-87), 3) := by decide +kernel
theorem dX11_two_129 : decode cX11_two 129 = .ok (.iinc 3 1, 3) := by decide +kernel
theorem dX11_two_132 : decode cX11_two 132 = .ok (.goto (-101), 3) := by decide +kernel
theorem dX11_two_135 : decode cX11_two 135 = .ok (.bipush (-4), 2) := by decide +kernel
theorem dX11_two_137 : decode cX11_two 137 = .ok (.ireturn, 1) := by decide +kernel
theorem dX11_fog_0 : decode cX11_fog 0 = .ok (.aload_n 0, 1) := by decide +kernel
theorem dX11_fog_1 : decode cX11_fog 1 = .ok (.getfield 45, 3) := by decide +kernel
theorem dX11_fog_4 : decode cX11_fog 4 = .ok (.iload_n 1, 1) := by decide +kernel
theorem dX11_fog_5 : decode cX11_fog 5 = .ok (.invokevirtual 84, 3) := by decide +kernel
theorem dX11_fog_8 : decode cX11_fog 8 = .ok (.ifCond .eq 14, 3) := by decide +kernel
theorem dX11_fog_11 : decode cX11_fog 11 = .ok (.iload_n 2, 1) := by decide +kernel
theorem dX11_fog_12 : decode cX11_fog 12 = .ok (.invokestatic 119, 3) := by decide +kernel
theorem dX11_fog_15 : decode cX11_fog 15 = .ok (.ifCond .eq 7, 3) := by decide +kernel
theorem dX11_fog_18 : decode cX11_fog 18 = .ok (.iconst 1, 1) := by decide +kernel
theorem dX11_fog_19 : decode cX11_fog 19 = .ok (.goto 4, 3) := by decide +kernel
theorem dX11_fog_22 : decode cX11_fog 22 = .ok (.iconst 0, 1) := by decide +kernel
theorem dX11_fog_23 : decode cX11_fog 23 = .ok (.istore 6, 2) := by decide +kernel
theorem dX11_fog_25 : decode cX11_fog 25 = .ok (.iload 6, 2) := by decide +kernel
theorem dX11_fog_27 : decode cX11_fog 27 = .ok (.ifCond .eq 34, 3) := by decide +kernel
theorem dX11_fog_30 : decode cX11_fog 30 = .ok (.iload_n 3, 1) := by decide +kernel
theorem dX11_fog_31 : decode cX11_fog 31 = .ok (.iconst 0, 1) := by decide +kernel
theorem dX11_fog_32 : decode cX11_fog 32 = .ok (.bipush 7, 2) := by decide +kernel
theorem dX11_fog_34 : decode cX11_fog 34 = .ok (.invokestatic 125, 3) := by decide +kernel
theorem dX11_fog_37 : decode cX11_fog 37 = .ok (.ifCond .eq 24, 3) := by decide +kernel
theorem dX11_fog_40 : decode cX11_fog 40 = .ok (.iload 4, 2) := by decide +kernel
theorem dX11_fog_42 : decode cX11_fog 42 = .ok (.iconst 2, 1) := by decide +kernel
theorem dX11_fog_43 : decode cX11_fog 43 = .ok (.bipush 20, 2) := by decide +kernel
theorem dX11_fog_45 : decode cX11_fog 45 = .ok (.invokestatic 125, 3) := by decide +kernel
theorem dX11_fog_48 : decode cX11_fog 48 = .ok (.ifCond .eq 13, 3) := by decide +kernel
theorem dX11_fog_51 : decode cX11_fog 51 = .ok (.iload 5, 2) := by decide +kernel
theorem dX11_fog_53 : decode cX11_fog 53 = .ok (.iconst 0, 1) := by decide +kernel
theorem dX11_fog_54 : decode cX11_fog 54 = .ok (.iconst 1, 1) := by decide +kernel
theorem dX11_fog_55 : decode cX11_fog 55 = .ok (.invokestatic 125, 3) := by decide +kernel
theorem dX11_fog_58 : decode cX11_fog 58 = .ok (.ifCond .ne 7, 3) := by decide +kernel
theorem dX11_fog_61 : decode cX11_fog 61 = .ok (.ldc2_w 225, 3) := by decide +kernel
theorem dX11_fog_64 : decode cX11_fog 64 = .ok (.lreturn, 1) := by decide +kernel
theorem dX11_fog_65 : decode cX11_fog 65 = .ok (.aload_n 0, 1) := by decide +kernel
theorem dX11_fog_66 : decode cX11_fog 66 = .ok (.getfield 49, 3) := by decide +kernel
theorem dX11_fog_69 : decode cX11_fog 69 = .ok (.aload_n 0, 1) := by decide +kernel
theorem dX11_fog_70 : decode cX11_fog 70 = .ok (.getfield 45, 3) := by decide +kernel
theorem dX11_fog_73 : decode cX11_fog 73 = .ok (.invokevirtual 69, 3) := by decide +kernel
theorem dX11_fog_76 : decode cX11_fog 76 = .ok (.lconst 0, 1) := by decide +kernel
theorem dX11_fog_77 : decode cX11_fog 77 = .ok (.lstore 7, 2) := by decide +kernel
theorem dX11_fog_79 : decode cX11_fog 79 = .ok (.lconst 1, 1) := by decide +kernel
theorem dX11_fog_80 : decode cX11_fog 80 = .ok (.lstore 9, 2) := by decide +kernel
theorem dX11_fog_82 : decode cX11_fog 82 = .ok (.lconst 1, 1) := by decide +kernel
theorem dX11_fog_83 : decode cX11_fog 83 = .ok (.lstore 11, 2) := by decide +kernel
theorem dX11_fog_85 : decode cX11_fog 85 = .ok (.iconst 0, 1) := by decide +kernel
theorem dX11_fog_86 : decode cX11_fog 86 = .ok (.istore 13, 2) := by decide +kernel
theorem dX11_fog_88 : decode cX11_fog 88 = .ok (.iload 13, 2) := by decide +kernel
theorem dX11_fog_90 : decode cX11_fog 90 = .ok (.iload_n 3, 1) := by decide +kernel
theorem dX11_fog_91 : decode cX11_fog 91 = .ok (.if_icmp .gt 59, 3) := by decide +kernel
theorem dX11_fog_94 : decode cX11_fog 94 = .ok (.aload_n 0, 1) := by decide +kernel
theorem dX11_fog_95 : decode cX11_fog 95 = .ok (.getfield 49, 3) := by decide +kernel
theorem dX11_fog_98 : decode cX11_fog 98 = .ok (.getfield 98, 3) := by decide +kernel
theorem dX11_fog_101 : decode cX11_fog 101 = .ok (.iload_n 1, 1) := by decide +kernel
theorem dX11_fog_102 : decode cX11_fog 102 = .ok (.iaload, 1) := by decide +kernel
theorem dX11_fog_103 : decode cX11_fog 103 = .ok (.iload_n 2, 1) := by decide +kernel
theorem dX11_fog_104 : decode cX11_fog 104 = .ok (.if_icmp .ne 10, 3) := by decide +kernel
theorem dX11_fog_107 : decode cX11_fog 107 = .ok (.lload 7, 2) := by decide +kernel
theorem dX11_fog_109 : decode cX11_fog 109 = .ok (.lload 11, 2) := by decide +kernel
theorem dX11_fog_111 : decode cX11_fog 111 = .ok (.ladd, 1) := by decide +kernel
theorem dX11_fog_112 : decode cX11_fog 112 = .ok (.lstore 7, 2) := by decide +kernel
theorem dX11_fog_114 : decode cX11_fog 114 = .ok (.lload 11, 2) := by decide +kernel
theorem dX11_fog_116 : decode cX11_fog 116 = .ok (.iload_n 3, 1) := by decide +kernel
theorem dX11_fog_117 : decode cX11_fog 117 = .ok (.iload 13, 2) := by decide +kernel
theorem dX11_fog_119 : decode cX11_fog 119 = .ok (.isub, 1) := by decide +kernel
theorem dX11_fog_120 : decode cX11_fog 120 = .ok (.i2l, 1) := by decide +kernel
theorem dX11_fog_121 : decode cX11_fog 121 = .ok (.lmul, 1) := by decide +kernel
theorem dX11_fog_122 : decode cX11_fog 122 = .ok (.iload 13, 2) := by decide +kernel
theorem dX11_fog_124 : decode cX11_fog 124 = .ok (.iconst 1, 1) := by decide +kernel
theorem dX11_fog_125 : decode cX11_fog 125 = .ok (.iadd, 1) := by decide +kernel
theorem dX11_fog_126 : decode cX11_fog 126 = .ok (.i2l, 1) := by decide +kernel
theorem dX11_fog_127 : decode cX11_fog 127 = .ok (.ldiv, 1) := by decide +kernel
theorem dX11_fog_128 : decode cX11_fog 128 = .ok (.iload 4, 2) := by decide +kernel
theorem dX11_fog_130 : decode cX11_fog 130 = .ok (.iconst 1, 1) := by decide +kernel
theorem dX11_fog_131 : decode cX11_fog 131 = .ok (.isub, 1) := by decide +kernel
theorem dX11_fog_132 : decode cX11_fog 132 = .ok (.i2l, 1) := by decide +kernel
theorem dX11_fog_133 : decode cX11_fog 133 = .ok (.lmul, 1) := by decide +kernel
theorem dX11_fog_134 : decode cX11_fog 134 = .ok (.lstore 11, 2) := by decide +kernel
theorem dX11_fog_136 : decode cX11_fog 136 = .ok (.aload_n 0, 1) := by decide +kernel
theorem dX11_fog_137 : decode cX11_fog 137 = .ok (.getfield 49, 3) := by decide +kernel
theorem dX11_fog_140 : decode cX11_fog 140 = .ok (.invokevirtual 194, 3) := by decide +kernel
theorem dX11_fog_143 : decode cX11_fog 143 = .ok (.pop, 1) := by decide +kernel
theorem dX11_fog_144 : decode cX11_fog 144 = .ok (.iinc 13 1, 3) := by decide +kernel
theorem dX11_fog_147 : decode cX11_fog 147 = .ok (.goto (-59), 3) := by decide +kernel
theorem dX11_fog_150 : decode cX11_fog 150 = .ok (.iconst 0, 1) := by decide +kernel
theorem dX11_fog_151 : decode cX11_fog 151 = .ok (.istore 13, 2) := by decide +kernel
theorem dX11_fog_153 : decode cX11_fog 153 = .ok (.iload 13, 2) := by decide +kernel
theorem dX11_fog_155 : decode cX11_fog 155 = .ok (.iload_n 3, 1) := by decide +kernel
theorem dX11_fog_156 : decode cX11_fog 156 = .ok (.if_icmp .ge 17, 3) := by decide +kernel
theorem dX11_fog_159 : decode cX11_fog 159 = .ok (.lload 9, 2) := by decide +kernel
theorem dX11_fog_161 : decode cX11_fog 161 = .ok (.iload 4, 2) := by decide +kernel
theorem dX11_fog_163 : decode cX11_fog 163 = .ok (.i2l, 1) := by decide +kernel
theorem dX11_fog_164 : decode cX11_fog 164 = .ok (.lmul, 1) := by decide +kernel
theorem dX11_fog_165 : decode cX11_fog 165 = .ok (.lstore 9, 2) := by decide +kernel
theorem dX11_fog_167 : decode cX11_fog 167 = .ok (.iinc 13 1, 3) := by decide +kernel
theorem dX11_fog_170 : decode cX11_fog 170 = .ok (.goto (-17), 3) := by decide +kernel
theorem dX11_fog_173 : decode cX11_fog 173 = .ok (.lload 7, 2) := by decide +kernel
theorem dX11_fog_175 : decode cX11_fog 175 = .ok (.lload 9, 2) := by decide +kernel
theorem dX11_fog_177 : decode cX11_fog 177 = .ok (.iload 5, 2) := by decide +kernel
theorem dX11_fog_179 : decode cX11_fog 179 = .ok (.invokestatic 227, 3) := by decide +kernel
theorem dX11_fog_182 : decode cX11_fog 182 = .ok (.lreturn, 1) := by decide +kernel
theorem dX11_mean_0 : decode cX11_mean 0 = .ok (.iload_n 1, 1) := by decide +kernel
theorem dX11_mean_1 : decode cX11_mean 1 = .ok (.iconst 0, 1) := by decide +kernel
theorem dX11_mean_2 : decode cX11_mean 2 = .ok (.iconst 1, 1) := by decide +kernel
theorem dX11_mean_3 : decode cX11_mean 3 = .ok (.invokestatic 125, 3) := by decide +kernel
theorem dX11_mean_6 : decode cX11_mean 6 = .ok (.ifCond .ne 7, 3) := by decide +kernel
theorem dX11_mean_9 : decode cX11_mean 9 = .ok (.ldc2_w 225, 3) := by decide +kernel
theorem dX11_mean_12 : decode cX11_mean 12 = .ok (.lreturn, 1) := by decide +kernel
theorem dX11_mean_13 : decode cX11_mean 13 = .ok (.aload_n 0, 1) := by decide +kernel
theorem dX11_mean_14 : decode cX11_mean 14 = .ok (.getfield 45, 3) := by decide +kernel
theorem dX11_mean_17 : decode cX11_mean 17 = .ok (.invokevirtual 231, 3) := by decide +kernel
theorem dX11_mean_20 : decode cX11_mean 20 = .ok (.i2l, 1) := by decide +kernel
theorem dX11_mean_21 : decode cX11_mean 21 = .ok (.ldc2_w 234, 3) := by decide +kernel
theorem dX11_mean_24 : decode cX11_mean 24 = .ok (.iload_n 1, 1) := by decide +kernel
theorem dX11_mean_25 : decode cX11_mean 25 = .ok (.invokestatic 227, 3) := by decide +kernel
theorem dX11_mean_28 : decode cX11_mean 28 = .ok (.lreturn, 1) := by decide +kernel
theorem dX11_shares_0 : decode cX11_shares 0 = .ok (.iload_n 1, 1) := by decide +kernel
theorem dX11_shares_1 : decode cX11_shares 1 = .ok (.iconst 1, 1) := by decide +kernel
theorem dX11_shares_2 : decode cX11_shares 2 = .ok (.bipush 9, 2) := by decide +kernel
theorem dX11_shares_4 : decode cX11_shares 4 = .ok (.invokestatic 125, 3) := by decide +kernel
theorem dX11_shares_7 : decode cX11_shares 7 = .ok (.ifCond .eq 24, 3) := by decide +kernel
theorem dX11_shares_10 : decode cX11_shares 10 = .ok (.iload_n 2, 1) := by decide +kernel
theorem dX11_shares_11 : decode cX11_shares 11 = .ok (.iconst 0, 1) := by decide +kernel
theorem dX11_shares_12 : decode cX11_shares 12 = .ok (.bipush 99, 2) := by decide +kernel
theorem dX11_shares_14 : decode cX11_shares 14 = .ok (.invokestatic 125, 3) := by decide +kernel
theorem dX11_shares_17 : decode cX11_shares 17 = .ok (.ifCond .eq 14, 3) := by decide +kernel
theorem dX11_shares_20 : decode cX11_shares 20 = .ok (.iload_n 3, 1) := by decide +kernel
theorem dX11_shares_21 : decode cX11_shares 21 = .ok (.iconst 0, 1) := by decide +kernel
theorem dX11_shares_22 : decode cX11_shares 22 = .ok (.iload_n 1, 1) := by decide +kernel
theorem dX11_shares_23 : decode cX11_shares 23 = .ok (.iconst 1, 1) := by decide +kernel
theorem dX11_shares_24 : decode cX11_shares 24 = .ok (.isub, 1) := by decide +kernel
theorem dX11_shares_25 : decode cX11_shares 25 = .ok (.invokestatic 125, 3) := by decide +kernel
theorem dX11_shares_28 : decode cX11_shares 28 = .ok (.ifCond .ne 5, 3) := by decide +kernel
theorem dX11_shares_31 : decode cX11_shares 31 = .ok (.iconst (-1), 1) := by decide +kernel
theorem dX11_shares_32 : decode cX11_shares 32 = .ok (.ireturn, 1) := by decide +kernel
theorem dX11_shares_33 : decode cX11_shares 33 = .ok (.iload_n 2, 1) := by decide +kernel
theorem dX11_shares_34 : decode cX11_shares 34 = .ok (.iload_n 1, 1) := by decide +kernel
theorem dX11_shares_35 : decode cX11_shares 35 = .ok (.idiv, 1) := by decide +kernel
theorem dX11_shares_36 : decode cX11_shares 36 = .ok (.iload_n 3, 1) := by decide +kernel
theorem dX11_shares_37 : decode cX11_shares 37 = .ok (.iload_n 2, 1) := by decide +kernel
theorem dX11_shares_38 : decode cX11_shares 38 = .ok (.iload_n 1, 1) := by decide +kernel
theorem dX11_shares_39 : decode cX11_shares 39 = .ok (.irem, 1) := by decide +kernel
theorem dX11_shares_40 : decode cX11_shares 40 = .ok (.if_icmp .ge 7, 3) := by decide +kernel
theorem dX11_shares_43 : decode cX11_shares 43 = .ok (.iconst 1, 1) := by decide +kernel
theorem dX11_shares_44 : decode cX11_shares 44 = .ok (.goto 4, 3) := by decide +kernel
theorem dX11_shares_47 : decode cX11_shares 47 = .ok (.iconst 0, 1) := by decide +kernel
theorem dX11_shares_48 : decode cX11_shares 48 = .ok (.iadd, 1) := by decide +kernel
theorem dX11_shares_49 : decode cX11_shares 49 = .ok (.ireturn, 1) := by decide +kernel
theorem dX11_forged_0 : decode cX11_forged 0 = .ok (.aload_n 0, 1) := by decide +kernel
theorem dX11_forged_1 : decode cX11_forged 1 = .ok (.iload_n 1, 1) := by decide +kernel
theorem dX11_forged_2 : decode cX11_forged 2 = .ok (.invokevirtual 55, 3) := by decide +kernel
theorem dX11_forged_5 : decode cX11_forged 5 = .ok (.istore_n 2, 1) := by decide +kernel
theorem dX11_forged_6 : decode cX11_forged 6 = .ok (.iload_n 2, 1) := by decide +kernel
theorem dX11_forged_7 : decode cX11_forged 7 = .ok (.ifCond .ge 5, 3) := by decide +kernel
theorem dX11_forged_10 : decode cX11_forged 10 = .ok (.iload_n 2, 1) := by decide +kernel
theorem dX11_forged_11 : decode cX11_forged 11 = .ok (.ireturn, 1) := by decide +kernel
theorem dX11_forged_12 : decode cX11_forged 12 = .ok (.aload_n 0, 1) := by decide +kernel
theorem dX11_forged_13 : decode cX11_forged 13 = .ok (.getfield 11, 3) := by decide +kernel
theorem dX11_forged_16 : decode cX11_forged 16 = .ok (.iload_n 1, 1) := by decide +kernel
theorem dX11_forged_17 : decode cX11_forged 17 = .ok (.aaload, 1) := by decide +kernel
theorem dX11_forged_18 : decode cX11_forged 18 = .ok (.astore_n 3, 1) := by decide +kernel
theorem dX11_forged_19 : decode cX11_forged 19 = .ok (.iconst 0, 1) := by decide +kernel
theorem dX11_forged_20 : decode cX11_forged 20 = .ok (.istore 4, 2) := by decide +kernel
theorem dX11_forged_22 : decode cX11_forged 22 = .ok (.iload 4, 2) := by decide +kernel
theorem dX11_forged_24 : decode cX11_forged 24 = .ok (.aload_n 3, 1) := by decide +kernel
theorem dX11_forged_25 : decode cX11_forged 25 = .ok (.getfield 73, 3) := by decide +kernel
theorem dX11_forged_28 : decode cX11_forged 28 = .ok (.if_icmp .ge 39, 3) := by decide +kernel
theorem dX11_forged_31 : decode cX11_forged 31 = .ok (.iload 4, 2) := by decide +kernel
theorem dX11_forged_33 : decode cX11_forged 33 = .ok (.invokestatic 119, 3) := by decide +kernel
theorem dX11_forged_36 : decode cX11_forged 36 = .ok (.ifCond .eq 22, 3) := by decide +kernel
theorem dX11_forged_39 : decode cX11_forged 39 = .ok (.aload_n 3, 1) := by decide +kernel
theorem dX11_forged_40 : decode cX11_forged 40 = .ok (.getfield 236, 3) := by decide +kernel
theorem dX11_forged_43 : decode cX11_forged 43 = .ok (.iload 4, 2) := by decide +kernel
theorem dX11_forged_45 : decode cX11_forged 45 = .ok (.iaload, 1) := by decide +kernel
theorem dX11_forged_46 : decode cX11_forged 46 = .ok (.aload_n 0, 1) := by decide +kernel
theorem dX11_forged_47 : decode cX11_forged 47 = .ok (.getfield 45, 3) := by decide +kernel
theorem dX11_forged_50 : decode cX11_forged 50 = .ok (.iload 4, 2) := by decide +kernel
theorem dX11_forged_52 : decode cX11_forged 52 = .ok (.invokevirtual 160, 3) := by decide +kernel
theorem dX11_forged_55 : decode cX11_forged 55 = .ok (.if_icmp .eq 6, 3) := by decide +kernel
theorem dX11_forged_58 : decode cX11_forged 58 = .ok (.iload 4, 2) := by decide +kernel
theorem dX11_forged_60 : decode cX11_forged 60 = .ok (.ireturn, 1) := by decide +kernel
theorem dX11_forged_61 : decode cX11_forged 61 = .ok (.iinc 4 1, 3) := by decide +kernel
theorem dX11_forged_64 : decode cX11_forged 64 = .ok (.goto (-42), 3) := by decide +kernel
theorem dX11_forged_67 : decode cX11_forged 67 = .ok (.bipush (-4), 2) := by decide +kernel
theorem dX11_forged_69 : decode cX11_forged 69 = .ok (.ireturn, 1) := by decide +kernel
theorem dX11_judge_0 : decode cX11_judge 0 = .ok (.aload_n 0, 1) := by decide +kernel
theorem dX11_judge_1 : decode cX11_judge 1 = .ok (.iload_n 1, 1) := by decide +kernel
theorem dX11_judge_2 : decode cX11_judge 2 = .ok (.invokevirtual 55, 3) := by decide +kernel
theorem dX11_judge_5 : decode cX11_judge 5 = .ok (.istore_n 2, 1) := by decide +kernel
theorem dX11_judge_6 : decode cX11_judge 6 = .ok (.iload_n 2, 1) := by decide +kernel
theorem dX11_judge_7 : decode cX11_judge 7 = .ok (.ifCond .ge 5, 3) := by decide +kernel
theorem dX11_judge_10 : decode cX11_judge 10 = .ok (.iload_n 2, 1) := by decide +kernel
theorem dX11_judge_11 : decode cX11_judge 11 = .ok (.ireturn, 1) := by decide +kernel
theorem dX11_judge_12 : decode cX11_judge 12 = .ok (.aload_n 0, 1) := by decide +kernel
theorem dX11_judge_13 : decode cX11_judge 13 = .ok (.getfield 11, 3) := by decide +kernel
theorem dX11_judge_16 : decode cX11_judge 16 = .ok (.iload_n 1, 1) := by decide +kernel
theorem dX11_judge_17 : decode cX11_judge 17 = .ok (.aaload, 1) := by decide +kernel
theorem dX11_judge_18 : decode cX11_judge 18 = .ok (.astore_n 3, 1) := by decide +kernel
theorem dX11_judge_19 : decode cX11_judge 19 = .ok (.aload_n 0, 1) := by decide +kernel
theorem dX11_judge_20 : decode cX11_judge 20 = .ok (.getfield 49, 3) := by decide +kernel
theorem dX11_judge_23 : decode cX11_judge 23 = .ok (.aload_n 0, 1) := by decide +kernel
theorem dX11_judge_24 : decode cX11_judge 24 = .ok (.getfield 45, 3) := by decide +kernel
theorem dX11_judge_27 : decode cX11_judge 27 = .ok (.invokevirtual 69, 3) := by decide +kernel
theorem dX11_judge_30 : decode cX11_judge 30 = .ok (.iconst 0, 1) := by decide +kernel
theorem dX11_judge_31 : decode cX11_judge 31 = .ok (.istore 4, 2) := by decide +kernel
theorem dX11_judge_33 : decode cX11_judge 33 = .ok (.iload 4, 2) := by decide +kernel
theorem dX11_judge_35 : decode cX11_judge 35 = .ok (.aload_n 3, 1) := by decide +kernel
theorem dX11_judge_36 : decode cX11_judge 36 = .ok (.getfield 73, 3) := by decide +kernel
theorem dX11_judge_39 : decode cX11_judge 39 = .ok (.if_icmp .ge 46, 3) := by decide +kernel
theorem dX11_judge_42 : decode cX11_judge 42 = .ok (.aload_n 3, 1) := by decide +kernel
theorem dX11_judge_43 : decode cX11_judge 43 = .ok (.iload 4, 2) := by decide +kernel
theorem dX11_judge_45 : decode cX11_judge 45 = .ok (.invokevirtual 239, 3) := by decide +kernel
theorem dX11_judge_48 : decode cX11_judge 48 = .ok (.ifCond .ne 23, 3) := by decide +kernel
theorem dX11_judge_51 : decode cX11_judge 51 = .ok (.aload_n 3, 1) := by decide +kernel
theorem dX11_judge_52 : decode cX11_judge 52 = .ok (.getfield 236, 3) := by decide +kernel
theorem dX11_judge_55 : decode cX11_judge 55 = .ok (.iload 4, 2) := by decide +kernel
theorem dX11_judge_57 : decode cX11_judge 57 = .ok (.iaload, 1) := by decide +kernel
theorem dX11_judge_58 : decode cX11_judge 58 = .ok (.aload_n 0, 1) := by decide +kernel
theorem dX11_judge_59 : decode cX11_judge 59 = .ok (.getfield 49, 3) := by decide +kernel
theorem dX11_judge_62 : decode cX11_judge 62 = .ok (.invokevirtual 156, 3) := by decide +kernel
theorem dX11_judge_65 : decode cX11_judge 65 = .ok (.if_icmp .eq 6, 3) := by decide +kernel
theorem dX11_judge_68 : decode cX11_judge 68 = .ok (.iload 4, 2) := by decide +kernel
theorem dX11_judge_70 : decode cX11_judge 70 = .ok (.ireturn, 1) := by decide +kernel
theorem dX11_judge_71 : decode cX11_judge 71 = .ok (.aload_n 0, 1) := by decide +kernel
theorem dX11_judge_72 : decode cX11_judge 72 = .ok (.getfield 49, 3) := by decide +kernel
theorem dX11_judge_75 : decode cX11_judge 75 = .ok (.invokevirtual 194, 3) := by decide +kernel
theorem dX11_judge_78 : decode cX11_judge 78 = .ok (.pop, 1) := by decide +kernel
theorem dX11_judge_79 : decode cX11_judge 79 = .ok (.iinc 4 1, 3) := by decide +kernel
theorem dX11_judge_82 : decode cX11_judge 82 = .ok (.goto (-49), 3) := by decide +kernel
theorem dX11_judge_85 : decode cX11_judge 85 = .ok (.bipush (-4), 2) := by decide +kernel
theorem dX11_judge_87 : decode cX11_judge 87 = .ok (.ireturn, 1) := by decide +kernel
theorem dX11_countries_0 : decode cX11_countries 0 = .ok (.iload_n 1, 1) := by decide +kernel
theorem dX11_countries_1 : decode cX11_countries 1 = .ok (.iconst 1, 1) := by decide +kernel
theorem dX11_countries_2 : decode cX11_countries 2 = .ok (.bipush 20, 2) := by decide +kernel
theorem dX11_countries_4 : decode cX11_countries 4 = .ok (.invokestatic 125, 3) := by decide +kernel
theorem dX11_countries_7 : decode cX11_countries 7 = .ok (.ifCond .eq 12, 3) := by decide +kernel
theorem dX11_countries_10 : decode cX11_countries 10 = .ok (.iload_n 3, 1) := by decide +kernel
theorem dX11_countries_11 : decode cX11_countries 11 = .ok (.iconst 0, 1) := by decide +kernel
theorem dX11_countries_12 : decode cX11_countries 12 = .ok (.iconst 1, 1) := by decide +kernel
theorem dX11_countries_13 : decode cX11_countries 13 = .ok (.invokestatic 125, 3) := by decide +kernel
theorem dX11_countries_16 : decode cX11_countries 16 = .ok (.ifCond .ne 5, 3) := by decide +kernel
theorem dX11_countries_19 : decode cX11_countries 19 = .ok (.iconst (-1), 1) := by decide +kernel
theorem dX11_countries_20 : decode cX11_countries 20 = .ok (.ireturn, 1) := by decide +kernel
theorem dX11_countries_21 : decode cX11_countries 21 = .ok (.aload_n 0, 1) := by decide +kernel
theorem dX11_countries_22 : decode cX11_countries 22 = .ok (.iload_n 2, 1) := by decide +kernel
theorem dX11_countries_23 : decode cX11_countries 23 = .ok (.putfield 242, 3) := by decide +kernel
theorem dX11_countries_26 : decode cX11_countries 26 = .ok (.iconst 0, 1) := by decide +kernel
theorem dX11_countries_27 : decode cX11_countries 27 = .ok (.istore 4, 2) := by decide +kernel
theorem dX11_countries_29 : decode cX11_countries 29 = .ok (.iconst 0, 1) := by decide +kernel
theorem dX11_countries_30 : decode cX11_countries 30 = .ok (.istore 5, 2) := by decide +kernel
theorem dX11_countries_32 : decode cX11_countries 32 = .ok (.iload 5, 2) := by decide +kernel
theorem dX11_countries_34 : decode cX11_countries 34 = .ok (.iload_n 1, 1) := by decide +kernel
theorem dX11_countries_35 : decode cX11_countries 35 = .ok (.if_icmp .ge 48, 3) := by decide +kernel
theorem dX11_countries_38 : decode cX11_countries 38 = .ok (.aload_n 0, 1) := by decide +kernel
theorem dX11_countries_39 : decode cX11_countries 39 = .ok (.invokevirtual 245, 3) := by decide +kernel
theorem dX11_countries_42 : decode cX11_countries 42 = .ok (.aload_n 0, 1) := by decide +kernel
theorem dX11_countries_43 : decode cX11_countries 43 = .ok (.getfield 49, 3) := by decide +kernel
theorem dX11_countries_46 : decode cX11_countries 46 = .ok (.bipush 10, 2) := by decide +kernel
theorem dX11_countries_48 : decode cX11_countries 48 = .ok (.invokevirtual 248, 3) := by decide +kernel
theorem dX11_countries_51 : decode cX11_countries 51 = .ok (.iload 4, 2) := by decide +kernel
theorem dX11_countries_53 : decode cX11_countries 53 = .ok (.iload_n 3, 1) := by decide +kernel
theorem dX11_countries_54 : decode cX11_countries 54 = .ok (.ifCond .ne 13, 3) := by decide +kernel
theorem dX11_countries_57 : decode cX11_countries 57 = .ok (.aload_n 0, 1) := by decide +kernel
theorem dX11_countries_58 : decode cX11_countries 58 = .ok (.getfield 49, 3) := by decide +kernel
theorem dX11_countries_61 : decode cX11_countries 61 = .ok (.invokevirtual 156, 3) := by decide +kernel
theorem dX11_countries_64 : decode cX11_countries 64 = .ok (.goto 10, 3) := by decide +kernel
theorem dX11_countries_67 : decode cX11_countries 67 = .ok (.aload_n 0, 1) := by decide +kernel
theorem dX11_countries_68 : decode cX11_countries 68 = .ok (.getfield 49, 3) := by decide +kernel
theorem dX11_countries_71 : decode cX11_countries 71 = .ok (.invokevirtual 251, 3) := by decide +kernel
theorem dX11_countries_74 : decode cX11_countries 74 = .ok (.iadd, 1) := by decide +kernel
theorem dX11_countries_75 : decode cX11_countries 75 = .ok (.istore 4, 2) := by decide +kernel
theorem dX11_countries_77 : decode cX11_countries 77 = .ok (.iinc 5 1, 3) := by decide +kernel
theorem dX11_countries_80 : decode cX11_countries 80 = .ok (.goto (-48), 3) := by decide +kernel
theorem dX11_countries_83 : decode cX11_countries 83 = .ok (.iload 4, 2) := by decide +kernel
theorem dX11_countries_85 : decode cX11_countries 85 = .ok (.ireturn, 1) := by decide +kernel
theorem dX11_image_0 : decode cX11_image 0 = .ok (.aload_n 0, 1) := by decide +kernel
theorem dX11_image_1 : decode cX11_image 1 = .ok (.getfield 52, 3) := by decide +kernel
theorem dX11_image_4 : decode cX11_image 4 = .ok (.aload_n 0, 1) := by decide +kernel
theorem dX11_image_5 : decode cX11_image 5 = .ok (.getfield 45, 3) := by decide +kernel
theorem dX11_image_8 : decode cX11_image 8 = .ok (.invokevirtual 69, 3) := by decide +kernel
theorem dX11_image_11 : decode cX11_image 11 = .ok (.aload_n 0, 1) := by decide +kernel
theorem dX11_image_12 : decode cX11_image 12 = .ok (.iconst 1, 1) := by decide +kernel
theorem dX11_image_13 : decode cX11_image 13 = .ok (.putfield 254, 3) := by decide +kernel
theorem dX11_image_16 : decode cX11_image 16 = .ok (.aload_n 0, 1) := by decide +kernel
theorem dX11_image_17 : decode cX11_image 17 = .ok (.getfield 45, 3) := by decide +kernel
theorem dX11_image_20 : decode cX11_image 20 = .ok (.getfield 258, 3) := by decide +kernel
theorem dX11_image_23 : decode cX11_image 23 = .ok (.ireturn, 1) := by decide +kernel
theorem dX11_restore_0 : decode cX11_restore 0 = .ok (.aload_n 0, 1) := by decide +kernel
theorem dX11_restore_1 : decode cX11_restore 1 = .ok (.getfield 254, 3) := by decide +kernel
theorem dX11_restore_4 : decode cX11_restore 4 = .ok (.ifCond .ne 6, 3) := by decide +kernel
theorem dX11_restore_7 : decode cX11_restore 7 = .ok (.bipush (-3), 2) := by decide +kernel
theorem dX11_restore_9 : decode cX11_restore 9 = .ok (.ireturn, 1) := by decide +kernel
theorem dX11_restore_10 : decode cX11_restore 10 = .ok (.aload_n 0, 1) := by decide +kernel
theorem dX11_restore_11 : decode cX11_restore 11 = .ok (.getfield 45, 3) := by decide +kernel
theorem dX11_restore_14 : decode cX11_restore 14 = .ok (.aload_n 0, 1) := by decide +kernel
theorem dX11_restore_15 : decode cX11_restore 15 = .ok (.getfield 52, 3) := by decide +kernel
theorem dX11_restore_18 : decode cX11_restore 18 = .ok (.invokevirtual 69, 3) := by decide +kernel
theorem dX11_restore_21 : decode cX11_restore 21 = .ok (.aload_n 0, 1) := by decide +kernel
theorem dX11_restore_22 : decode cX11_restore 22 = .ok (.getfield 45, 3) := by decide +kernel
theorem dX11_restore_25 : decode cX11_restore 25 = .ok (.getfield 258, 3) := by decide +kernel
theorem dX11_restore_28 : decode cX11_restore 28 = .ok (.ireturn, 1) := by decide +kernel
theorem dX11_count_0 : decode cX11_count 0 = .ok (.iload_n 1, 1) := by decide +kernel
theorem dX11_count_1 : decode cX11_count 1 = .ok (.tableswitch 87 0 5 #[39, 47, 55, 63, 71, 79], 39) := by decide +kernel
theorem dX11_count_40 : decode cX11_count 40 = .ok (.aload_n 0, 1) := by decide +kernel
theorem dX11_count_41 : decode cX11_count 41 = .ok (.getfield 45, 3) := by decide +kernel
theorem dX11_count_44 : decode cX11_count 44 = .ok (.getfield 140, 3) := by decide +kernel
theorem dX11_count_47 : decode cX11_count 47 = .ok (.ireturn, 1) := by decide +kernel
theorem dX11_count_48 : decode cX11_count 48 = .ok (.aload_n 0, 1) := by decide +kernel
theorem dX11_count_49 : decode cX11_count 49 = .ok (.getfield 45, 3) := by decide +kernel
theorem dX11_count_52 : decode cX11_count 52 = .ok (.getfield 258, 3) := by decide +kernel
theorem dX11_count_55 : decode cX11_count 55 = .ok (.ireturn, 1) := by decide +kernel
theorem dX11_count_56 : decode cX11_count 56 = .ok (.aload_n 0, 1) := by decide +kernel
theorem dX11_count_57 : decode cX11_count 57 = .ok (.getfield 45, 3) := by decide +kernel
theorem dX11_count_60 : decode cX11_count 60 = .ok (.invokevirtual 261, 3) := by decide +kernel
theorem dX11_count_63 : decode cX11_count 63 = .ok (.ireturn, 1) := by decide +kernel
theorem dX11_count_64 : decode cX11_count 64 = .ok (.aload_n 0, 1) := by decide +kernel
theorem dX11_count_65 : decode cX11_count 65 = .ok (.getfield 45, 3) := by decide +kernel
theorem dX11_count_68 : decode cX11_count 68 = .ok (.invokevirtual 231, 3) := by decide +kernel
theorem dX11_count_71 : decode cX11_count 71 = .ok (.ireturn, 1) := by decide +kernel
theorem dX11_count_72 : decode cX11_count 72 = .ok (.aload_n 0, 1) := by decide +kernel
theorem dX11_count_73 : decode cX11_count 73 = .ok (.getfield 45, 3) := by decide +kernel
theorem dX11_count_76 : decode cX11_count 76 = .ok (.invokevirtual 264, 3) := by decide +kernel
theorem dX11_count_79 : decode cX11_count 79 = .ok (.ireturn, 1) := by decide +kernel
theorem dX11_count_80 : decode cX11_count 80 = .ok (.aload_n 0, 1) := by decide +kernel
theorem dX11_count_81 : decode cX11_count 81 = .ok (.getfield 45, 3) := by decide +kernel
theorem dX11_count_84 : decode cX11_count 84 = .ok (.invokevirtual 169, 3) := by decide +kernel
theorem dX11_count_87 : decode cX11_count 87 = .ok (.ireturn, 1) := by decide +kernel
theorem dX11_count_88 : decode cX11_count 88 = .ok (.iconst (-1), 1) := by decide +kernel
theorem dX11_count_89 : decode cX11_count 89 = .ok (.ireturn, 1) := by decide +kernel
theorem dX11_keep_0 : decode cX11_keep 0 = .ok (.iload_n 1, 1) := by decide +kernel
theorem dX11_keep_1 : decode cX11_keep 1 = .ok (.invokestatic 267, 3) := by decide +kernel
theorem dX11_keep_4 : decode cX11_keep 4 = .ok (.ifCond .eq 12, 3) := by decide +kernel
theorem dX11_keep_7 : decode cX11_keep 7 = .ok (.iload_n 2, 1) := by decide +kernel
theorem dX11_keep_8 : decode cX11_keep 8 = .ok (.iconst 0, 1) := by decide +kernel
theorem dX11_keep_9 : decode cX11_keep 9 = .ok (.iconst 1, 1) := by decide +kernel
theorem dX11_keep_10 : decode cX11_keep 10 = .ok (.invokestatic 125, 3) := by decide +kernel
theorem dX11_keep_13 : decode cX11_keep 13 = .ok (.ifCond .ne 5, 3) := by decide +kernel
theorem dX11_keep_16 : decode cX11_keep 16 = .ok (.iconst (-1), 1) := by decide +kernel
theorem dX11_keep_17 : decode cX11_keep 17 = .ok (.ireturn, 1) := by decide +kernel
theorem dX11_keep_18 : decode cX11_keep 18 = .ok (.iload_n 2, 1) := by decide +kernel
theorem dX11_keep_19 : decode cX11_keep 19 = .ok (.ifCond .ne 14, 3) := by decide +kernel
theorem dX11_keep_22 : decode cX11_keep 22 = .ok (.aload_n 0, 1) := by decide +kernel
theorem dX11_keep_23 : decode cX11_keep 23 = .ok (.getfield 11, 3) := by decide +kernel
theorem dX11_keep_26 : decode cX11_keep 26 = .ok (.iload_n 1, 1) := by decide +kernel
theorem dX11_keep_27 : decode cX11_keep 27 = .ok (.aaload, 1) := by decide +kernel
theorem dX11_keep_28 : decode cX11_keep 28 = .ok (.invokevirtual 270, 3) := by decide +kernel
theorem dX11_keep_31 : decode cX11_keep 31 = .ok (.iconst 0, 1) := by decide +kernel
theorem dX11_keep_32 : decode cX11_keep 32 = .ok (.ireturn, 1) := by decide +kernel
theorem dX11_keep_33 : decode cX11_keep 33 = .ok (.iload_n 3, 1) := by decide +kernel
theorem dX11_keep_34 : decode cX11_keep 34 = .ok (.iconst 0, 1) := by decide +kernel
theorem dX11_keep_35 : decode cX11_keep 35 = .ok (.bipush 7, 2) := by decide +kernel
theorem dX11_keep_37 : decode cX11_keep 37 = .ok (.invokestatic 125, 3) := by decide +kernel
theorem dX11_keep_40 : decode cX11_keep 40 = .ok (.ifCond .eq 14, 3) := by decide +kernel
theorem dX11_keep_43 : decode cX11_keep 43 = .ok (.iload 4, 2) := by decide +kernel
theorem dX11_keep_45 : decode cX11_keep 45 = .ok (.iconst 0, 1) := by decide +kernel
theorem dX11_keep_46 : decode cX11_keep 46 = .ok (.bipush 9, 2) := by decide +kernel
theorem dX11_keep_48 : decode cX11_keep 48 = .ok (.invokestatic 125, 3) := by decide +kernel
theorem dX11_keep_51 : decode cX11_keep 51 = .ok (.ifCond .ne 5, 3) := by decide +kernel
theorem dX11_keep_54 : decode cX11_keep 54 = .ok (.iconst (-1), 1) := by decide +kernel
theorem dX11_keep_55 : decode cX11_keep 55 = .ok (.ireturn, 1) := by decide +kernel
theorem dX11_keep_56 : decode cX11_keep 56 = .ok (.aload_n 0, 1) := by decide +kernel
theorem dX11_keep_57 : decode cX11_keep 57 = .ok (.getfield 11, 3) := by decide +kernel
theorem dX11_keep_60 : decode cX11_keep 60 = .ok (.iload_n 1, 1) := by decide +kernel
theorem dX11_keep_61 : decode cX11_keep 61 = .ok (.aaload, 1) := by decide +kernel
theorem dX11_keep_62 : decode cX11_keep 62 = .ok (.iload_n 3, 1) := by decide +kernel
theorem dX11_keep_63 : decode cX11_keep 63 = .ok (.iload 4, 2) := by decide +kernel
theorem dX11_keep_65 : decode cX11_keep 65 = .ok (.invokevirtual 273, 3) := by decide +kernel
theorem dX11_keep_68 : decode cX11_keep 68 = .ok (.iconst 0, 1) := by decide +kernel
theorem dX11_keep_69 : decode cX11_keep 69 = .ok (.ireturn, 1) := by decide +kernel
theorem dX11_row_0 : decode cX11_row 0 = .ok (.iload_n 1, 1) := by decide +kernel
theorem dX11_row_1 : decode cX11_row 1 = .ok (.invokestatic 267, 3) := by decide +kernel
theorem dX11_row_4 : decode cX11_row 4 = .ok (.ifCond .eq 18, 3) := by decide +kernel
theorem dX11_row_7 : decode cX11_row 7 = .ok (.iload_n 2, 1) := by decide +kernel
theorem dX11_row_8 : decode cX11_row 8 = .ok (.iconst 0, 1) := by decide +kernel
theorem dX11_row_9 : decode cX11_row 9 = .ok (.iconst 2, 1) := by decide +kernel
theorem dX11_row_10 : decode cX11_row 10 = .ok (.invokestatic 125, 3) := by decide +kernel
theorem dX11_row_13 : decode cX11_row 13 = .ok (.ifCond .eq 9, 3) := by decide +kernel
theorem dX11_row_16 : decode cX11_row 16 = .ok (.iload_n 3, 1) := by decide +kernel
theorem dX11_row_17 : decode cX11_row 17 = .ok (.bipush 100, 2) := by decide +kernel
theorem dX11_row_19 : decode cX11_row 19 = .ok (.if_icmp .le 5, 3) := by decide +kernel
theorem dX11_row_22 : decode cX11_row 22 = .ok (.iconst (-1), 1) := by decide +kernel
theorem dX11_row_23 : decode cX11_row 23 = .ok (.ireturn, 1) := by decide +kernel
theorem dX11_row_24 : decode cX11_row 24 = .ok (.iload_n 3, 1) := by decide +kernel
theorem dX11_row_25 : decode cX11_row 25 = .ok (.ifCond .ge 6, 3) := by decide +kernel
theorem dX11_row_28 : decode cX11_row 28 = .ok (.bipush (-14), 2) := by decide +kernel
theorem dX11_row_30 : decode cX11_row 30 = .ok (.ireturn, 1) := by decide +kernel
theorem dX11_row_31 : decode cX11_row 31 = .ok (.aload_n 0, 1) := by decide +kernel
theorem dX11_row_32 : decode cX11_row 32 = .ok (.getfield 11, 3) := by decide +kernel
theorem dX11_row_35 : decode cX11_row 35 = .ok (.iload_n 1, 1) := by decide +kernel
theorem dX11_row_36 : decode cX11_row 36 = .ok (.aaload, 1) := by decide +kernel
theorem dX11_row_37 : decode cX11_row 37 = .ok (.iload_n 2, 1) := by decide +kernel
theorem dX11_row_38 : decode cX11_row 38 = .ok (.iload_n 3, 1) := by decide +kernel
theorem dX11_row_39 : decode cX11_row 39 = .ok (.invokevirtual 277, 3) := by decide +kernel
theorem dX11_row_42 : decode cX11_row 42 = .ok (.iconst 0, 1) := by decide +kernel
theorem dX11_row_43 : decode cX11_row 43 = .ok (.ireturn, 1) := by decide +kernel
theorem dX11_put_0 : decode cX11_put 0 = .ok (.aload_n 0, 1) := by decide +kernel
theorem dX11_put_1 : decode cX11_put 1 = .ok (.iload_n 1, 1) := by decide +kernel
theorem dX11_put_2 : decode cX11_put 2 = .ok (.invokevirtual 55, 3) := by decide +kernel
theorem dX11_put_5 : decode cX11_put 5 = .ok (.istore 4, 2) := by decide +kernel
theorem dX11_put_7 : decode cX11_put 7 = .ok (.iload 4, 2) := by decide +kernel
theorem dX11_put_9 : decode cX11_put 9 = .ok (.ifCond .ge 6, 3) := by decide +kernel
theorem dX11_put_12 : decode cX11_put 12 = .ok (.iload 4, 2) := by decide +kernel
theorem dX11_put_14 : decode cX11_put 14 = .ok (.ireturn, 1) := by decide +kernel
theorem dX11_put_15 : decode cX11_put 15 = .ok (.aload_n 0, 1) := by decide +kernel
theorem dX11_put_16 : decode cX11_put 16 = .ok (.getfield 11, 3) := by decide +kernel
theorem dX11_put_19 : decode cX11_put 19 = .ok (.iload_n 1, 1) := by decide +kernel
theorem dX11_put_20 : decode cX11_put 20 = .ok (.aaload, 1) := by decide +kernel
theorem dX11_put_21 : decode cX11_put 21 = .ok (.iload_n 2, 1) := by decide +kernel
theorem dX11_put_22 : decode cX11_put 22 = .ok (.iconst 1, 1) := by decide +kernel
theorem dX11_put_23 : decode cX11_put 23 = .ok (.invokevirtual 280, 3) := by decide +kernel
theorem dX11_put_26 : decode cX11_put 26 = .ok (.ifCond .ne 6, 3) := by decide +kernel
theorem dX11_put_29 : decode cX11_put 29 = .ok (.bipush (-13), 2) := by decide +kernel
theorem dX11_put_31 : decode cX11_put 31 = .ok (.ireturn, 1) := by decide +kernel
theorem dX11_put_32 : decode cX11_put 32 = .ok (.aload_n 0, 1) := by decide +kernel
theorem dX11_put_33 : decode cX11_put 33 = .ok (.getfield 11, 3) := by decide +kernel
theorem dX11_put_36 : decode cX11_put 36 = .ok (.iload_n 1, 1) := by decide +kernel
theorem dX11_put_37 : decode cX11_put 37 = .ok (.aaload, 1) := by decide +kernel
theorem dX11_put_38 : decode cX11_put 38 = .ok (.iload_n 2, 1) := by decide +kernel
theorem dX11_put_39 : decode cX11_put 39 = .ok (.iload_n 3, 1) := by decide +kernel
theorem dX11_put_40 : decode cX11_put 40 = .ok (.invokevirtual 283, 3) := by decide +kernel
theorem dX11_put_43 : decode cX11_put 43 = .ok (.iconst 0, 1) := by decide +kernel
theorem dX11_put_44 : decode cX11_put 44 = .ok (.ireturn, 1) := by decide +kernel
theorem dX11_element_0 : decode cX11_element 0 = .ok (.iload_n 1, 1) := by decide +kernel
theorem dX11_element_1 : decode cX11_element 1 = .ok (.invokestatic 267, 3) := by decide +kernel
theorem dX11_element_4 : decode cX11_element 4 = .ok (.ifCond .ne 14, 3) := by decide +kernel
theorem dX11_element_7 : decode cX11_element 7 = .ok (.new 286, 3) := by decide +kernel
theorem dX11_element_10 : decode cX11_element 10 = .ok (.dup, 1) := by decide +kernel
theorem dX11_element_11 : decode cX11_element 11 = .ok (.ldc_w 288, 3) := by decide +kernel
theorem dX11_element_14 : decode cX11_element 14 = .ok (.invokespecial 290, 3) := by decide +kernel
theorem dX11_element_17 : decode cX11_element 17 = .ok (.athrow, 1) := by decide +kernel
theorem dX11_element_18 : decode cX11_element 18 = .ok (.aload_n 0, 1) := by decide +kernel
theorem dX11_element_19 : decode cX11_element 19 = .ok (.iload_n 1, 1) := by decide +kernel
theorem dX11_element_20 : decode cX11_element 20 = .ok (.invokevirtual 55, 3) := by decide +kernel
theorem dX11_element_23 : decode cX11_element 23 = .ok (.ifCond .ge 14, 3) := by decide +kernel
theorem dX11_element_26 : decode cX11_element 26 = .ok (.new 293, 3) := by decide +kernel
theorem dX11_element_29 : decode cX11_element 29 = .ok (.dup, 1) := by decide +kernel
theorem dX11_element_30 : decode cX11_element 30 = .ok (.ldc_w 295, 3) := by decide +kernel
theorem dX11_element_33 : decode cX11_element 33 = .ok (.invokespecial 297, 3) := by decide +kernel
theorem dX11_element_36 : decode cX11_element 36 = .ok (.athrow, 1) := by decide +kernel
theorem dX11_element_37 : decode cX11_element 37 = .ok (.aload_n 0, 1) := by decide +kernel
theorem dX11_element_38 : decode cX11_element 38 = .ok (.getfield 11, 3) := by decide +kernel
theorem dX11_element_41 : decode cX11_element 41 = .ok (.iload_n 1, 1) := by decide +kernel
theorem dX11_element_42 : decode cX11_element 42 = .ok (.aaload, 1) := by decide +kernel
theorem dX11_element_43 : decode cX11_element 43 = .ok (.iload_n 2, 1) := by decide +kernel
theorem dX11_element_44 : decode cX11_element 44 = .ok (.iconst 1, 1) := by decide +kernel
theorem dX11_element_45 : decode cX11_element 45 = .ok (.invokevirtual 280, 3) := by decide +kernel
theorem dX11_element_48 : decode cX11_element 48 = .ok (.ifCond .ne 14, 3) := by decide +kernel
theorem dX11_element_51 : decode cX11_element 51 = .ok (.new 293, 3) := by decide +kernel
theorem dX11_element_54 : decode cX11_element 54 = .ok (.dup, 1) := by decide +kernel
theorem dX11_element_55 : decode cX11_element 55 = .ok (.ldc_w 298, 3) := by decide +kernel
theorem dX11_element_58 : decode cX11_element 58 = .ok (.invokespecial 297, 3) := by decide +kernel
theorem dX11_element_61 : decode cX11_element 61 = .ok (.athrow, 1) := by decide +kernel
theorem dX11_element_62 : decode cX11_element 62 = .ok (.aload_n 0, 1) := by decide +kernel
theorem dX11_element_63 : decode cX11_element 63 = .ok (.getfield 11, 3) := by decide +kernel
theorem dX11_element_66 : decode cX11_element 66 = .ok (.iload_n 1, 1) := by decide +kernel
theorem dX11_element_67 : decode cX11_element 67 = .ok (.aaload, 1) := by decide +kernel
theorem dX11_element_68 : decode cX11_element 68 = .ok (.getfield 236, 3) := by decide +kernel
theorem dX11_element_71 : decode cX11_element 71 = .ok (.iload_n 2, 1) := by decide +kernel
theorem dX11_element_72 : decode cX11_element 72 = .ok (.iaload, 1) := by decide +kernel
theorem dX11_element_73 : decode cX11_element 73 = .ok (.i2l, 1) := by decide +kernel
theorem dX11_element_74 : decode cX11_element 74 = .ok (.lreturn, 1) := by decide +kernel
theorem dX11_copy_0 : decode cX11_copy 0 = .ok (.iload_n 1, 1) := by decide +kernel
theorem dX11_copy_1 : decode cX11_copy 1 = .ok (.invokestatic 267, 3) := by decide +kernel
theorem dX11_copy_4 : decode cX11_copy 4 = .ok (.ifCond .eq 10, 3) := by decide +kernel
theorem dX11_copy_7 : decode cX11_copy 7 = .ok (.iload_n 3, 1) := by decide +kernel
theorem dX11_copy_8 : decode cX11_copy 8 = .ok (.invokestatic 267, 3) := by decide +kernel
theorem dX11_copy_11 : decode cX11_copy 11 = .ok (.ifCond .ne 5, 3) := by decide +kernel
theorem dX11_copy_14 : decode cX11_copy 14 = .ok (.iconst (-1), 1) := by decide +kernel
theorem dX11_copy_15 : decode cX11_copy 15 = .ok (.ireturn, 1) := by decide +kernel
theorem dX11_copy_16 : decode cX11_copy 16 = .ok (.aload_n 0, 1) := by decide +kernel
theorem dX11_copy_17 : decode cX11_copy 17 = .ok (.getfield 11, 3) := by decide +kernel
theorem dX11_copy_20 : decode cX11_copy 20 = .ok (.iload_n 1, 1) := by decide +kernel
theorem dX11_copy_21 : decode cX11_copy 21 = .ok (.aaload, 1) := by decide +kernel
theorem dX11_copy_22 : decode cX11_copy 22 = .ok (.astore 6, 2) := by decide +kernel
theorem dX11_copy_24 : decode cX11_copy 24 = .ok (.aload_n 0, 1) := by decide +kernel
theorem dX11_copy_25 : decode cX11_copy 25 = .ok (.getfield 11, 3) := by decide +kernel
theorem dX11_copy_28 : decode cX11_copy 28 = .ok (.iload_n 3, 1) := by decide +kernel
theorem dX11_copy_29 : decode cX11_copy 29 = .ok (.aaload, 1) := by decide +kernel
theorem dX11_copy_30 : decode cX11_copy 30 = .ok (.astore 7, 2) := by decide +kernel
theorem dX11_copy_32 : decode cX11_copy 32 = .ok (.aload 6, 2) := by decide +kernel
theorem dX11_copy_34 : decode cX11_copy 34 = .ok (.getfield 300, 3) := by decide +kernel
theorem dX11_copy_37 : decode cX11_copy 37 = .ok (.ifCond .eq 11, 3) := by decide +kernel
theorem dX11_copy_40 : decode cX11_copy 40 = .ok (.aload 7, 2) := by decide +kernel
theorem dX11_copy_42 : decode cX11_copy 42 = .ok (.getfield 300, 3) := by decide +kernel
theorem dX11_copy_45 : decode cX11_copy 45 = .ok (.ifCond .ne 6, 3) := by decide +kernel
theorem dX11_copy_48 : decode cX11_copy 48 = .ok (.bipush (-11), 2) := by decide +kernel
theorem dX11_copy_50 : decode cX11_copy 50 = .ok (.ireturn, 1) := by decide +kernel
theorem dX11_copy_51 : decode cX11_copy 51 = .ok (.aload 6, 2) := by decide +kernel
theorem dX11_copy_53 : decode cX11_copy 53 = .ok (.getfield 300, 3) := by decide +kernel
theorem dX11_copy_56 : decode cX11_copy 56 = .ok (.iconst 2, 1) := by decide +kernel
theorem dX11_copy_57 : decode cX11_copy 57 = .ok (.if_icmp .ne 25, 3) := by decide +kernel
theorem dX11_copy_60 : decode cX11_copy 60 = .ok (.aload 7, 2) := by decide +kernel
theorem dX11_copy_62 : decode cX11_copy 62 = .ok (.getfield 300, 3) := by decide +kernel
theorem dX11_copy_65 : decode cX11_copy 65 = .ok (.iconst 2, 1) := by decide +kernel
theorem dX11_copy_66 : decode cX11_copy 66 = .ok (.if_icmp .ne 16, 3) := by decide +kernel
theorem dX11_copy_69 : decode cX11_copy 69 = .ok (.aload 6, 2) := by decide +kernel
theorem dX11_copy_71 : decode cX11_copy 71 = .ok (.getfield 59, 3) := by decide +kernel
theorem dX11_copy_74 : decode cX11_copy 74 = .ok (.aload 7, 2) := by decide +kernel
theorem dX11_copy_76 : decode cX11_copy 76 = .ok (.getfield 59, 3) := by decide +kernel
theorem dX11_copy_79 : decode cX11_copy 79 = .ok (.if_icmp .eq 6, 3) := by decide +kernel
theorem dX11_copy_82 : decode cX11_copy 82 = .ok (.bipush (-12), 2) := by decide +kernel
theorem dX11_copy_84 : decode cX11_copy 84 = .ok (.ireturn, 1) := by decide +kernel
theorem dX11_copy_85 : decode cX11_copy 85 = .ok (.aload 6, 2) := by decide +kernel
theorem dX11_copy_87 : decode cX11_copy 87 = .ok (.iload_n 2, 1) := by decide +kernel
theorem dX11_copy_88 : decode cX11_copy 88 = .ok (.iload 5, 2) := by decide +kernel
theorem dX11_copy_90 : decode cX11_copy 90 = .ok (.invokevirtual 280, 3) := by decide +kernel
theorem dX11_copy_93 : decode cX11_copy 93 = .ok (.ifCond .eq 15, 3) := by decide +kernel
theorem dX11_copy_96 : decode cX11_copy 96 = .ok (.aload 7, 2) := by decide +kernel
theorem dX11_copy_98 : decode cX11_copy 98 = .ok (.iload 4, 2) := by decide +kernel
theorem dX11_copy_100 : decode cX11_copy 100 = .ok (.iload 5, 2) := by decide +kernel
theorem dX11_copy_102 : decode cX11_copy 102 = .ok (.invokevirtual 280, 3) := by decide +kernel
theorem dX11_copy_105 : decode cX11_copy 105 = .ok (.ifCond .ne 6, 3) := by decide +kernel
theorem dX11_copy_108 : decode cX11_copy 108 = .ok (.bipush (-13), 2) := by decide +kernel
theorem dX11_copy_110 : decode cX11_copy 110 = .ok (.ireturn, 1) := by decide +kernel
theorem dX11_copy_111 : decode cX11_copy 111 = .ok (.aload 6, 2) := by decide +kernel
theorem dX11_copy_113 : decode cX11_copy 113 = .ok (.getfield 236, 3) := by decide +kernel
theorem dX11_copy_116 : decode cX11_copy 116 = .ok (.iload_n 2, 1) := by decide +kernel
theorem dX11_copy_117 : decode cX11_copy 117 = .ok (.aload 7, 2) := by decide +kernel
theorem dX11_copy_119 : decode cX11_copy 119 = .ok (.getfield 236, 3) := by decide +kernel
theorem dX11_copy_122 : decode cX11_copy 122 = .ok (.iload 4, 2) := by decide +kernel
theorem dX11_copy_124 : decode cX11_copy 124 = .ok (.iload 5, 2) := by decide +kernel
theorem dX11_copy_126 : decode cX11_copy 126 = .ok (.invokestatic 303, 3) := by decide +kernel
theorem dX11_copy_129 : decode cX11_copy 129 = .ok (.iload 5, 2) := by decide +kernel
theorem dX11_copy_131 : decode cX11_copy 131 = .ok (.ireturn, 1) := by decide +kernel
theorem dX11_cost_0 : decode cX11_cost 0 = .ok (.aload_n 0, 1) := by decide +kernel
theorem dX11_cost_1 : decode cX11_cost 1 = .ok (.iload_n 1, 1) := by decide +kernel
theorem dX11_cost_2 : decode cX11_cost 2 = .ok (.invokevirtual 129, 3) := by decide +kernel
theorem dX11_cost_5 : decode cX11_cost 5 = .ok (.istore_n 2, 1) := by decide +kernel
theorem dX11_cost_6 : decode cX11_cost 6 = .ok (.iload_n 2, 1) := by decide +kernel
theorem dX11_cost_7 : decode cX11_cost 7 = .ok (.ifCond .ge 5, 3) := by decide +kernel
theorem dX11_cost_10 : decode cX11_cost 10 = .ok (.iload_n 2, 1) := by decide +kernel
theorem dX11_cost_11 : decode cX11_cost 11 = .ok (.ireturn, 1) := by decide +kernel
theorem dX11_cost_12 : decode cX11_cost 12 = .ok (.aload_n 0, 1) := by decide +kernel
theorem dX11_cost_13 : decode cX11_cost 13 = .ok (.getfield 45, 3) := by decide +kernel
theorem dX11_cost_16 : decode cX11_cost 16 = .ok (.getfield 309, 3) := by decide +kernel
theorem dX11_cost_19 : decode cX11_cost 19 = .ok (.aload_n 0, 1) := by decide +kernel
theorem dX11_cost_20 : decode cX11_cost 20 = .ok (.getfield 11, 3) := by decide +kernel
theorem dX11_cost_23 : decode cX11_cost 23 = .ok (.iload_n 1, 1) := by decide +kernel
theorem dX11_cost_24 : decode cX11_cost 24 = .ok (.aaload, 1) := by decide +kernel
theorem dX11_cost_25 : decode cX11_cost 25 = .ok (.getfield 132, 3) := by decide +kernel
theorem dX11_cost_28 : decode cX11_cost 28 = .ok (.aaload, 1) := by decide +kernel
theorem dX11_cost_29 : decode cX11_cost 29 = .ok (.aload_n 0, 1) := by decide +kernel
theorem dX11_cost_30 : decode cX11_cost 30 = .ok (.getfield 11, 3) := by decide +kernel
theorem dX11_cost_33 : decode cX11_cost 33 = .ok (.iload_n 1, 1) := by decide +kernel
theorem dX11_cost_34 : decode cX11_cost 34 = .ok (.aaload, 1) := by decide +kernel
theorem dX11_cost_35 : decode cX11_cost 35 = .ok (.getfield 134, 3) := by decide +kernel
theorem dX11_cost_38 : decode cX11_cost 38 = .ok (.invokevirtual 313, 3) := by decide +kernel
theorem dX11_cost_41 : decode cX11_cost 41 = .ok (.ireturn, 1) := by decide +kernel
theorem dX11_toss_0 : decode cX11_toss 0 = .ok (.aload_n 0, 1) := by decide +kernel
theorem dX11_toss_1 : decode cX11_toss 1 = .ok (.iload_n 1, 1) := by decide +kernel
theorem dX11_toss_2 : decode cX11_toss 2 = .ok (.invokevirtual 129, 3) := by decide +kernel
theorem dX11_toss_5 : decode cX11_toss 5 = .ok (.istore_n 2, 1) := by decide +kernel
theorem dX11_toss_6 : decode cX11_toss 6 = .ok (.iload_n 2, 1) := by decide +kernel
theorem dX11_toss_7 : decode cX11_toss 7 = .ok (.ifCond .ge 5, 3) := by decide +kernel
theorem dX11_toss_10 : decode cX11_toss 10 = .ok (.iload_n 2, 1) := by decide +kernel
theorem dX11_toss_11 : decode cX11_toss 11 = .ok (.ireturn, 1) := by decide +kernel
theorem dX11_toss_12 : decode cX11_toss 12 = .ok (.aload_n 0, 1) := by decide +kernel
theorem dX11_toss_13 : decode cX11_toss 13 = .ok (.getfield 45, 3) := by decide +kernel
theorem dX11_toss_16 : decode cX11_toss 16 = .ok (.getfield 309, 3) := by decide +kernel
theorem dX11_toss_19 : decode cX11_toss 19 = .ok (.aload_n 0, 1) := by decide +kernel
theorem dX11_toss_20 : decode cX11_toss 20 = .ok (.getfield 11, 3) := by decide +kernel
theorem dX11_toss_23 : decode cX11_toss 23 = .ok (.iload_n 1, 1) := by decide +kernel
theorem dX11_toss_24 : decode cX11_toss 24 = .ok (.aaload, 1) := by decide +kernel
theorem dX11_toss_25 : decode cX11_toss 25 = .ok (.getfield 132, 3) := by decide +kernel
theorem dX11_toss_28 : decode cX11_toss 28 = .ok (.aaload, 1) := by decide +kernel
theorem dX11_toss_29 : decode cX11_toss 29 = .ok (.astore_n 3, 1) := by decide +kernel
theorem dX11_toss_30 : decode cX11_toss 30 = .ok (.aload_n 3, 1) := by decide +kernel
theorem dX11_toss_31 : decode cX11_toss 31 = .ok (.aload_n 0, 1) := by decide +kernel
theorem dX11_toss_32 : decode cX11_toss 32 = .ok (.getfield 11, 3) := by decide +kernel
theorem dX11_toss_35 : decode cX11_toss 35 = .ok (.iload_n 1, 1) := by decide +kernel
theorem dX11_toss_36 : decode cX11_toss 36 = .ok (.aaload, 1) := by decide +kernel
theorem dX11_toss_37 : decode cX11_toss 37 = .ok (.getfield 134, 3) := by decide +kernel
theorem dX11_toss_40 : decode cX11_toss 40 = .ok (.invokevirtual 316, 3) := by decide +kernel
theorem dX11_toss_43 : decode cX11_toss 43 = .ok (.goto 19, 3) := by decide +kernel
theorem dX11_toss_46 : decode cX11_toss 46 = .ok (.astore 4, 2) := by decide +kernel
theorem dX11_toss_48 : decode cX11_toss 48 = .ok (.aload_n 3, 1) := by decide +kernel
theorem dX11_toss_49 : decode cX11_toss 49 = .ok (.aload_n 0, 1) := by decide +kernel
theorem dX11_toss_50 : decode cX11_toss 50 = .ok (.getfield 11, 3) := by decide +kernel
theorem dX11_toss_53 : decode cX11_toss 53 = .ok (.iload_n 1, 1) := by decide +kernel
theorem dX11_toss_54 : decode cX11_toss 54 = .ok (.aaload, 1) := by decide +kernel
theorem dX11_toss_55 : decode cX11_toss 55 = .ok (.getfield 134, 3) := by decide +kernel
theorem dX11_toss_58 : decode cX11_toss 58 = .ok (.invokevirtual 319, 3) := by decide +kernel
theorem dX11_toss_61 : decode cX11_toss 61 = .ok (.ireturn, 1) := by decide +kernel
theorem dX11_toss_62 : decode cX11_toss 62 = .ok (.bipush (-15), 2) := by decide +kernel
theorem dX11_toss_64 : decode cX11_toss 64 = .ok (.ireturn, 1) := by decide +kernel
theorem dX11_isWithin_0 : decode cX11_isWithin 0 = .ok (.iload_n 0, 1) := by decide +kernel
theorem dX11_isWithin_1 : decode cX11_isWithin 1 = .ok (.iload_n 1, 1) := by decide +kernel
theorem dX11_isWithin_2 : decode cX11_isWithin 2 = .ok (.if_icmp .lt 12, 3) := by decide +kernel
theorem dX11_isWithin_5 : decode cX11_isWithin 5 = .ok (.iload_n 0, 1) := by decide +kernel
theorem dX11_isWithin_6 : decode cX11_isWithin 6 = .ok (.iload_n 2, 1) := by decide +kernel
theorem dX11_isWithin_7 : decode cX11_isWithin 7 = .ok (.if_icmp .gt 7, 3) := by decide +kernel
theorem dX11_isWithin_10 : decode cX11_isWithin 10 = .ok (.iconst 1, 1) := by decide +kernel
theorem dX11_isWithin_11 : decode cX11_isWithin 11 = .ok (.goto 4, 3) := by decide +kernel
theorem dX11_isWithin_14 : decode cX11_isWithin 14 = .ok (.iconst 0, 1) := by decide +kernel
theorem dX11_isWithin_15 : decode cX11_isWithin 15 = .ok (.ireturn, 1) := by decide +kernel
theorem dX11_isShelf_0 : decode cX11_isShelf 0 = .ok (.iload_n 0, 1) := by decide +kernel
theorem dX11_isShelf_1 : decode cX11_isShelf 1 = .ok (.iconst 0, 1) := by decide +kernel
theorem dX11_isShelf_2 : decode cX11_isShelf 2 = .ok (.bipush 7, 2) := by decide +kernel
theorem dX11_isShelf_4 : decode cX11_isShelf 4 = .ok (.invokestatic 125, 3) := by decide +kernel
theorem dX11_isShelf_7 : decode cX11_isShelf 7 = .ok (.ireturn, 1) := by decide +kernel
theorem dX11_isCell_0 : decode cX11_isCell 0 = .ok (.iload_n 0, 1) := by decide +kernel
theorem dX11_isCell_1 : decode cX11_isCell 1 = .ok (.iconst 0, 1) := by decide +kernel
theorem dX11_isCell_2 : decode cX11_isCell 2 = .ok (.bipush 14, 2) := by decide +kernel
theorem dX11_isCell_4 : decode cX11_isCell 4 = .ok (.invokestatic 125, 3) := by decide +kernel
theorem dX11_isCell_7 : decode cX11_isCell 7 = .ok (.ireturn, 1) := by decide +kernel
theorem dX11_isCellOrAll_0 : decode cX11_isCellOrAll 0 = .ok (.iload_n 0, 1) := by decide +kernel
theorem dX11_isCellOrAll_1 : decode cX11_isCellOrAll 1 = .ok (.iconst (-1), 1) := by decide +kernel
theorem dX11_isCellOrAll_2 : decode cX11_isCellOrAll 2 = .ok (.bipush 14, 2) := by decide +kernel
theorem dX11_isCellOrAll_4 : decode cX11_isCellOrAll 4 = .ok (.invokestatic 125, 3) := by decide +kernel
theorem dX11_isCellOrAll_7 : decode cX11_isCellOrAll 7 = .ok (.ireturn, 1) := by decide +kernel
theorem dX11_isIn_0 : decode cX11_isIn 0 = .ok (.iload_n 0, 1) := by decide +kernel
theorem dX11_isIn_1 : decode cX11_isIn 1 = .ok (.iload_n 1, 1) := by decide +kernel
theorem dX11_isIn_2 : decode cX11_isIn 2 = .ok (.ishr, 1) := by decide +kernel
theorem dX11_isIn_3 : decode cX11_isIn 3 = .ok (.iconst 1, 1) := by decide +kernel
theorem dX11_isIn_4 : decode cX11_isIn 4 = .ok (.iand, 1) := by decide +kernel
theorem dX11_isIn_5 : decode cX11_isIn 5 = .ok (.iconst 1, 1) := by decide +kernel
theorem dX11_isIn_6 : decode cX11_isIn 6 = .ok (.if_icmp .ne 7, 3) := by decide +kernel
theorem dX11_isIn_9 : decode cX11_isIn 9 = .ok (.iconst 1, 1) := by decide +kernel
theorem dX11_isIn_10 : decode cX11_isIn 10 = .ok (.goto 4, 3) := by decide +kernel
theorem dX11_isIn_13 : decode cX11_isIn 13 = .ok (.iconst 0, 1) := by decide +kernel
theorem dX11_isIn_14 : decode cX11_isIn 14 = .ok (.ireturn, 1) := by decide +kernel
theorem dX11_wayAsTold_0 : decode cX11_wayAsTold 0 = .ok (.iload_n 0, 1) := by decide +kernel
theorem dX11_wayAsTold_1 : decode cX11_wayAsTold 1 = .ok (.ifCond .ne 5, 3) := by decide +kernel
theorem dX11_wayAsTold_4 : decode cX11_wayAsTold 4 = .ok (.iconst 0, 1) := by decide +kernel
theorem dX11_wayAsTold_5 : decode cX11_wayAsTold 5 = .ok (.ireturn, 1) := by decide +kernel
theorem dX11_wayAsTold_6 : decode cX11_wayAsTold 6 = .ok (.iload_n 0, 1) := by decide +kernel
theorem dX11_wayAsTold_7 : decode cX11_wayAsTold 7 = .ok (.ifCond .ge 7, 3) := by decide +kernel
theorem dX11_wayAsTold_10 : decode cX11_wayAsTold 10 = .ok (.iconst 1, 1) := by decide +kernel
theorem dX11_wayAsTold_11 : decode cX11_wayAsTold 11 = .ok (.goto 4, 3) := by decide +kernel
theorem dX11_wayAsTold_14 : decode cX11_wayAsTold 14 = .ok (.iconst 2, 1) := by decide +kernel
theorem dX11_wayAsTold_15 : decode cX11_wayAsTold 15 = .ok (.ireturn, 1) := by decide +kernel
theorem dX11_rowRefusal_0 : decode cX11_rowRefusal 0 = .ok (.iload_n 1, 1) := by decide +kernel
theorem dX11_rowRefusal_1 : decode cX11_rowRefusal 1 = .ok (.invokestatic 267, 3) := by decide +kernel
theorem dX11_rowRefusal_4 : decode cX11_rowRefusal 4 = .ok (.ifCond .ne 5, 3) := by decide +kernel
theorem dX11_rowRefusal_7 : decode cX11_rowRefusal 7 = .ok (.iconst (-1), 1) := by decide +kernel
theorem dX11_rowRefusal_8 : decode cX11_rowRefusal 8 = .ok (.ireturn, 1) := by decide +kernel
theorem dX11_rowRefusal_9 : decode cX11_rowRefusal 9 = .ok (.aload_n 0, 1) := by decide +kernel
theorem dX11_rowRefusal_10 : decode cX11_rowRefusal 10 = .ok (.getfield 11, 3) := by decide +kernel
theorem dX11_rowRefusal_13 : decode cX11_rowRefusal 13 = .ok (.iload_n 1, 1) := by decide +kernel
theorem dX11_rowRefusal_14 : decode cX11_rowRefusal 14 = .ok (.aaload, 1) := by decide +kernel
theorem dX11_rowRefusal_15 : decode cX11_rowRefusal 15 = .ok (.getfield 300, 3) := by decide +kernel
theorem dX11_rowRefusal_18 : decode cX11_rowRefusal 18 = .ok (.ifCond .ne 6, 3) := by decide +kernel
theorem dX11_rowRefusal_21 : decode cX11_rowRefusal 21 = .ok (.bipush (-11), 2) := by decide +kernel
theorem dX11_rowRefusal_23 : decode cX11_rowRefusal 23 = .ok (.ireturn, 1) := by decide +kernel
theorem dX11_rowRefusal_24 : decode cX11_rowRefusal 24 = .ok (.aload_n 0, 1) := by decide +kernel
theorem dX11_rowRefusal_25 : decode cX11_rowRefusal 25 = .ok (.getfield 11, 3) := by decide +kernel
theorem dX11_rowRefusal_28 : decode cX11_rowRefusal 28 = .ok (.iload_n 1, 1) := by decide +kernel
theorem dX11_rowRefusal_29 : decode cX11_rowRefusal 29 = .ok (.aaload, 1) := by decide +kernel
theorem dX11_rowRefusal_30 : decode cX11_rowRefusal 30 = .ok (.getfield 300, 3) := by decide +kernel
theorem dX11_rowRefusal_33 : decode cX11_rowRefusal 33 = .ok (.iconst 2, 1) := by decide +kernel
theorem dX11_rowRefusal_34 : decode cX11_rowRefusal 34 = .ok (.if_icmp .ne 7, 3) := by decide +kernel
theorem dX11_rowRefusal_37 : decode cX11_rowRefusal 37 = .ok (.iconst 0, 1) := by decide +kernel
theorem dX11_rowRefusal_38 : decode cX11_rowRefusal 38 = .ok (.goto 5, 3) := by decide +kernel
theorem dX11_rowRefusal_41 : decode cX11_rowRefusal 41 = .ok (.bipush (-12), 2) := by decide +kernel
theorem dX11_rowRefusal_43 : decode cX11_rowRefusal 43 = .ok (.ireturn, 1) := by decide +kernel
theorem dX11_kindRefusal_0 : decode cX11_kindRefusal 0 = .ok (.iload_n 1, 1) := by decide +kernel
theorem dX11_kindRefusal_1 : decode cX11_kindRefusal 1 = .ok (.invokestatic 267, 3) := by decide +kernel
theorem dX11_kindRefusal_4 : decode cX11_kindRefusal 4 = .ok (.ifCond .ne 5, 3) := by decide +kernel
theorem dX11_kindRefusal_7 : decode cX11_kindRefusal 7 = .ok (.iconst (-1), 1) := by decide +kernel
theorem dX11_kindRefusal_8 : decode cX11_kindRefusal 8 = .ok (.ireturn, 1) := by decide +kernel
theorem dX11_kindRefusal_9 : decode cX11_kindRefusal 9 = .ok (.aload_n 0, 1) := by decide +kernel
theorem dX11_kindRefusal_10 : decode cX11_kindRefusal 10 = .ok (.getfield 11, 3) := by decide +kernel
theorem dX11_kindRefusal_13 : decode cX11_kindRefusal 13 = .ok (.iload_n 1, 1) := by decide +kernel
theorem dX11_kindRefusal_14 : decode cX11_kindRefusal 14 = .ok (.aaload, 1) := by decide +kernel
theorem dX11_kindRefusal_15 : decode cX11_kindRefusal 15 = .ok (.getfield 300, 3) := by decide +kernel
theorem dX11_kindRefusal_18 : decode cX11_kindRefusal 18 = .ok (.ifCond .ne 6, 3) := by decide +kernel
theorem dX11_kindRefusal_21 : decode cX11_kindRefusal 21 = .ok (.bipush (-11), 2) := by decide +kernel
theorem dX11_kindRefusal_23 : decode cX11_kindRefusal 23 = .ok (.ireturn, 1) := by decide +kernel
theorem dX11_kindRefusal_24 : decode cX11_kindRefusal 24 = .ok (.aload_n 0, 1) := by decide +kernel
theorem dX11_kindRefusal_25 : decode cX11_kindRefusal 25 = .ok (.getfield 11, 3) := by decide +kernel
theorem dX11_kindRefusal_28 : decode cX11_kindRefusal 28 = .ok (.iload_n 1, 1) := by decide +kernel
theorem dX11_kindRefusal_29 : decode cX11_kindRefusal 29 = .ok (.aaload, 1) := by decide +kernel
theorem dX11_kindRefusal_30 : decode cX11_kindRefusal 30 = .ok (.getfield 300, 3) := by decide +kernel
theorem dX11_kindRefusal_33 : decode cX11_kindRefusal 33 = .ok (.iconst 1, 1) := by decide +kernel
theorem dX11_kindRefusal_34 : decode cX11_kindRefusal 34 = .ok (.if_icmp .ne 7, 3) := by decide +kernel
theorem dX11_kindRefusal_37 : decode cX11_kindRefusal 37 = .ok (.iconst 0, 1) := by decide +kernel
theorem dX11_kindRefusal_38 : decode cX11_kindRefusal 38 = .ok (.goto 5, 3) := by decide +kernel
theorem dX11_kindRefusal_41 : decode cX11_kindRefusal 41 = .ok (.bipush (-12), 2) := by decide +kernel
theorem dX11_kindRefusal_43 : decode cX11_kindRefusal 43 = .ok (.ireturn, 1) := by decide +kernel
theorem dX11_thinkDaysOn_0 : decode cX11_thinkDaysOn 0 = .ok (.aload_n 0, 1) := by decide +kernel
theorem dX11_thinkDaysOn_1 : decode cX11_thinkDaysOn 1 = .ok (.getfield 49, 3) := by decide +kernel
theorem dX11_thinkDaysOn_4 : decode cX11_thinkDaysOn 4 = .ok (.aload_n 0, 1) := by decide +kernel
theorem dX11_thinkDaysOn_5 : decode cX11_thinkDaysOn 5 = .ok (.getfield 45, 3) := by decide +kernel
theorem dX11_thinkDaysOn_8 : decode cX11_thinkDaysOn 8 = .ok (.invokevirtual 69, 3) := by decide +kernel
theorem dX11_thinkDaysOn_11 : decode cX11_thinkDaysOn 11 = .ok (.aload_n 0, 1) := by decide +kernel
theorem dX11_thinkDaysOn_12 : decode cX11_thinkDaysOn 12 = .ok (.getfield 49, 3) := by decide +kernel
theorem dX11_thinkDaysOn_15 : decode cX11_thinkDaysOn 15 = .ok (.iload_n 1, 1) := by decide +kernel
theorem dX11_thinkDaysOn_16 : decode cX11_thinkDaysOn 16 = .ok (.invokevirtual 248, 3) := by decide +kernel
theorem dX11_thinkDaysOn_19 : decode cX11_thinkDaysOn 19 = .ok (.return_, 1) := by decide +kernel
theorem dX11_getsThere_0 : decode cX11_getsThere 0 = .ok (.aload_n 0, 1) := by decide +kernel
theorem dX11_getsThere_1 : decode cX11_getsThere 1 = .ok (.getfield 49, 3) := by decide +kernel
theorem dX11_getsThere_4 : decode cX11_getsThere 4 = .ok (.aload_n 0, 1) := by decide +kernel
theorem dX11_getsThere_5 : decode cX11_getsThere 5 = .ok (.getfield 45, 3) := by decide +kernel
theorem dX11_getsThere_8 : decode cX11_getsThere 8 = .ok (.invokevirtual 69, 3) := by decide +kernel
theorem dX11_getsThere_11 : decode cX11_getsThere 11 = .ok (.aload_n 0, 1) := by decide +kernel
theorem dX11_getsThere_12 : decode cX11_getsThere 12 = .ok (.getfield 49, 3) := by decide +kernel
theorem dX11_getsThere_15 : decode cX11_getsThere 15 = .ok (.iload_n 1, 1) := by decide +kernel
theorem dX11_getsThere_16 : decode cX11_getsThere 16 = .ok (.iload_n 2, 1) := by decide +kernel
theorem dX11_getsThere_17 : decode cX11_getsThere 17 = .ok (.iload_n 3, 1) := by decide +kernel
theorem dX11_getsThere_18 : decode cX11_getsThere 18 = .ok (.invokevirtual 322, 3) := by decide +kernel
theorem dX11_getsThere_21 : decode cX11_getsThere 21 = .ok (.ireturn, 1) := by decide +kernel
theorem dX11_waterOfBothInOneCell_0 : decode cX11_waterOfBothInOneCell 0 = .ok (.aload_n 0, 1) := by decide +kernel
theorem dX11_waterOfBothInOneCell_1 : decode cX11_waterOfBothInOneCell 1 = .ok (.getfield 49, 3) := by decide +kernel
theorem dX11_waterOfBothInOneCell_4 : decode cX11_waterOfBothInOneCell 4 = .ok (.aload_n 0, 1) := by decide +kernel
theorem dX11_waterOfBothInOneCell_5 : decode cX11_waterOfBothInOneCell 5 = .ok (.getfield 45, 3) := by decide +kernel
theorem dX11_waterOfBothInOneCell_8 : decode cX11_waterOfBothInOneCell 8 = .ok (.invokevirtual 69, 3) := by decide +kernel
theorem dX11_waterOfBothInOneCell_11 : decode cX11_waterOfBothInOneCell 11 = .ok (.aload_n 0, 1) := by decide +kernel
theorem dX11_waterOfBothInOneCell_12 : decode cX11_waterOfBothInOneCell 12 = .ok (.getfield 45, 3) := by decide +kernel
theorem dX11_waterOfBothInOneCell_15 : decode cX11_waterOfBothInOneCell 15 = .ok (.getfield 98, 3) := by decide +kernel
theorem dX11_waterOfBothInOneCell_18 : decode cX11_waterOfBothInOneCell 18 = .ok (.iload_n 1, 1) := by decide +kernel
theorem dX11_waterOfBothInOneCell_19 : decode cX11_waterOfBothInOneCell 19 = .ok (.iaload, 1) := by decide +kernel
theorem dX11_waterOfBothInOneCell_20 : decode cX11_waterOfBothInOneCell 20 = .ok (.aload_n 0, 1) := by decide +kernel
theorem dX11_waterOfBothInOneCell_21 : decode cX11_waterOfBothInOneCell 21 = .ok (.getfield 45, 3) := by decide +kernel
theorem dX11_waterOfBothInOneCell_24 : decode cX11_waterOfBothInOneCell 24 = .ok (.getfield 98, 3) := by decide +kernel
theorem dX11_waterOfBothInOneCell_27 : decode cX11_waterOfBothInOneCell 27 = .ok (.iload_n 2, 1) := by decide +kernel
theorem dX11_waterOfBothInOneCell_28 : decode cX11_waterOfBothInOneCell 28 = .ok (.iaload, 1) := by decide +kernel
theorem dX11_waterOfBothInOneCell_29 : decode cX11_waterOfBothInOneCell 29 = .ok (.invokestatic 325, 3) := by decide +kernel
theorem dX11_waterOfBothInOneCell_32 : decode cX11_waterOfBothInOneCell 32 = .ok (.istore_n 3, 1) := by decide +kernel
theorem dX11_waterOfBothInOneCell_33 : decode cX11_waterOfBothInOneCell 33 = .ok (.aload_n 0, 1) := by decide +kernel
theorem dX11_waterOfBothInOneCell_34 : decode cX11_waterOfBothInOneCell 34 = .ok (.getfield 49, 3) := by decide +kernel
theorem dX11_waterOfBothInOneCell_37 : decode cX11_waterOfBothInOneCell 37 = .ok (.getfield 98, 3) := by decide +kernel
theorem dX11_waterOfBothInOneCell_40 : decode cX11_waterOfBothInOneCell 40 = .ok (.iload_n 1, 1) := by decide +kernel
theorem dX11_waterOfBothInOneCell_41 : decode cX11_waterOfBothInOneCell 41 = .ok (.iload_n 3, 1) := by decide +kernel
theorem dX11_waterOfBothInOneCell_42 : decode cX11_waterOfBothInOneCell 42 = .ok (.iastore, 1) := by decide +kernel
theorem dX11_waterOfBothInOneCell_43 : decode cX11_waterOfBothInOneCell 43 = .ok (.aload_n 0, 1) := by decide +kernel
theorem dX11_waterOfBothInOneCell_44 : decode cX11_waterOfBothInOneCell 44 = .ok (.getfield 49, 3) := by decide +kernel
theorem dX11_waterOfBothInOneCell_47 : decode cX11_waterOfBothInOneCell 47 = .ok (.getfield 98, 3) := by decide +kernel
theorem dX11_waterOfBothInOneCell_50 : decode cX11_waterOfBothInOneCell 50 = .ok (.iload_n 2, 1) := by decide +kernel
theorem dX11_waterOfBothInOneCell_51 : decode cX11_waterOfBothInOneCell 51 = .ok (.iload_n 3, 1) := by decide +kernel
theorem dX11_waterOfBothInOneCell_52 : decode cX11_waterOfBothInOneCell 52 = .ok (.iastore, 1) := by decide +kernel
theorem dX11_waterOfBothInOneCell_53 : decode cX11_waterOfBothInOneCell 53 = .ok (.aload_n 0, 1) := by decide +kernel
theorem dX11_waterOfBothInOneCell_54 : decode cX11_waterOfBothInOneCell 54 = .ok (.getfield 49, 3) := by decide +kernel
theorem dX11_waterOfBothInOneCell_57 : decode cX11_waterOfBothInOneCell 57 = .ok (.invokevirtual 156, 3) := by decide +kernel
theorem dX11_waterOfBothInOneCell_60 : decode cX11_waterOfBothInOneCell 60 = .ok (.ireturn, 1) := by decide +kernel
theorem dX11_waterIfOnly_0 : decode cX11_waterIfOnly 0 = .ok (.aload_n 0, 1) := by decide +kernel
theorem dX11_waterIfOnly_1 : decode cX11_waterIfOnly 1 = .ok (.getfield 49, 3) := by decide +kernel
theorem dX11_waterIfOnly_4 : decode cX11_waterIfOnly 4 = .ok (.aload_n 0, 1) := by decide +kernel
theorem dX11_waterIfOnly_5 : decode cX11_waterIfOnly 5 = .ok (.getfield 45, 3) := by decide +kernel
theorem dX11_waterIfOnly_8 : decode cX11_waterIfOnly 8 = .ok (.invokevirtual 69, 3) := by decide +kernel
theorem dX11_waterIfOnly_11 : decode cX11_waterIfOnly 11 = .ok (.iconst 0, 1) := by decide +kernel
theorem dX11_waterIfOnly_12 : decode cX11_waterIfOnly 12 = .ok (.istore_n 2, 1) := by decide +kernel
theorem dX11_waterIfOnly_13 : decode cX11_waterIfOnly 13 = .ok (.iload_n 2, 1) := by decide +kernel
theorem dX11_waterIfOnly_14 : decode cX11_waterIfOnly 14 = .ok (.aload_n 0, 1) := by decide +kernel
theorem dX11_waterIfOnly_15 : decode cX11_waterIfOnly 15 = .ok (.getfield 45, 3) := by decide +kernel
theorem dX11_waterIfOnly_18 : decode cX11_waterIfOnly 18 = .ok (.getfield 140, 3) := by decide +kernel
theorem dX11_waterIfOnly_21 : decode cX11_waterIfOnly 21 = .ok (.if_icmp .ge 25, 3) := by decide +kernel
theorem dX11_waterIfOnly_24 : decode cX11_waterIfOnly 24 = .ok (.iload_n 1, 1) := by decide +kernel
theorem dX11_waterIfOnly_25 : decode cX11_waterIfOnly 25 = .ok (.iload_n 2, 1) := by decide +kernel
theorem dX11_waterIfOnly_26 : decode cX11_waterIfOnly 26 = .ok (.invokestatic 205, 3) := by decide +kernel
theorem dX11_waterIfOnly_29 : decode cX11_waterIfOnly 29 = .ok (.ifCond .ne 11, 3) := by decide +kernel
theorem dX11_waterIfOnly_32 : decode cX11_waterIfOnly 32 = .ok (.aload_n 0, 1) := by decide +kernel
theorem dX11_waterIfOnly_33 : decode cX11_waterIfOnly 33 = .ok (.getfield 49, 3) := by decide +kernel
theorem dX11_waterIfOnly_36 : decode cX11_waterIfOnly 36 = .ok (.iload_n 2, 1) := by decide +kernel
theorem dX11_waterIfOnly_37 : decode cX11_waterIfOnly 37 = .ok (.invokevirtual 330, 3) := by decide +kernel
theorem dX11_waterIfOnly_40 : decode cX11_waterIfOnly 40 = .ok (.iinc 2 1, 3) := by decide +kernel
theorem dX11_waterIfOnly_43 : decode cX11_waterIfOnly 43 = .ok (.goto (-30), 3) := by decide +kernel
theorem dX11_waterIfOnly_46 : decode cX11_waterIfOnly 46 = .ok (.aload_n 0, 1) := by decide +kernel
theorem dX11_waterIfOnly_47 : decode cX11_waterIfOnly 47 = .ok (.getfield 49, 3) := by decide +kernel
theorem dX11_waterIfOnly_50 : decode cX11_waterIfOnly 50 = .ok (.invokevirtual 156, 3) := by decide +kernel
theorem dX11_waterIfOnly_53 : decode cX11_waterIfOnly 53 = .ok (.ireturn, 1) := by decide +kernel
theorem dX11_isAsToldBy_0 : decode cX11_isAsToldBy 0 = .ok (.aload_n 0, 1) := by decide +kernel
theorem dX11_isAsToldBy_1 : decode cX11_isAsToldBy 1 = .ok (.getfield 49, 3) := by decide +kernel
theorem dX11_isAsToldBy_4 : decode cX11_isAsToldBy 4 = .ok (.aload_n 0, 1) := by decide +kernel
theorem dX11_isAsToldBy_5 : decode cX11_isAsToldBy 5 = .ok (.getfield 45, 3) := by decide +kernel
theorem dX11_isAsToldBy_8 : decode cX11_isAsToldBy 8 = .ok (.invokevirtual 69, 3) := by decide +kernel
theorem dX11_isAsToldBy_11 : decode cX11_isAsToldBy 11 = .ok (.aload_n 0, 1) := by decide +kernel
theorem dX11_isAsToldBy_12 : decode cX11_isAsToldBy 12 = .ok (.getfield 49, 3) := by decide +kernel
theorem dX11_isAsToldBy_15 : decode cX11_isAsToldBy 15 = .ok (.iload_n 2, 1) := by decide +kernel
theorem dX11_isAsToldBy_16 : decode cX11_isAsToldBy 16 = .ok (.iload_n 3, 1) := by decide +kernel
theorem dX11_isAsToldBy_17 : decode cX11_isAsToldBy 17 = .ok (.iload 4, 2) := by decide +kernel
theorem dX11_isAsToldBy_19 : decode cX11_isAsToldBy 19 = .ok (.iload 5, 2) := by decide +kernel
theorem dX11_isAsToldBy_21 : decode cX11_isAsToldBy 21 = .ok (.invokevirtual 333, 3) := by decide +kernel
theorem dX11_isAsToldBy_24 : decode cX11_isAsToldBy 24 = .ok (.pop, 1) := by decide +kernel
theorem dX11_isAsToldBy_25 : decode cX11_isAsToldBy 25 = .ok (.aload_n 0, 1) := by decide +kernel
theorem dX11_isAsToldBy_26 : decode cX11_isAsToldBy 26 = .ok (.getfield 11, 3) := by decide +kernel
theorem dX11_isAsToldBy_29 : decode cX11_isAsToldBy 29 = .ok (.iload_n 1, 1) := by decide +kernel
theorem dX11_isAsToldBy_30 : decode cX11_isAsToldBy 30 = .ok (.aaload, 1) := by decide +kernel
theorem dX11_isAsToldBy_31 : decode cX11_isAsToldBy 31 = .ok (.astore 6, 2) := by decide +kernel
theorem dX11_isAsToldBy_33 : decode cX11_isAsToldBy 33 = .ok (.iconst 1, 1) := by decide +kernel
theorem dX11_isAsToldBy_34 : decode cX11_isAsToldBy 34 = .ok (.istore 7, 2) := by decide +kernel
theorem dX11_isAsToldBy_36 : decode cX11_isAsToldBy 36 = .ok (.iconst 0, 1) := by decide +kernel
theorem dX11_isAsToldBy_37 : decode cX11_isAsToldBy 37 = .ok (.istore 8, 2) := by decide +kernel
theorem dX11_isAsToldBy_39 : decode cX11_isAsToldBy 39 = .ok (.iload 8, 2) := by decide +kernel
theorem dX11_isAsToldBy_41 : decode cX11_isAsToldBy 41 = .ok (.aload 6, 2) := by decide +kernel
theorem dX11_isAsToldBy_43 : decode cX11_isAsToldBy 43 = .ok (.getfield 73, 3) := by decide +kernel
theorem dX11_isAsToldBy_46 : decode cX11_isAsToldBy 46 = .ok (.if_icmp .ge 67, 3) := by decide +kernel
theorem dX11_isAsToldBy_49 : decode cX11_isAsToldBy 49 = .ok (.iload 8, 2) := by decide +kernel
theorem dX11_isAsToldBy_51 : decode cX11_isAsToldBy 51 = .ok (.ifCond .le 17, 3) := by decide +kernel
theorem dX11_isAsToldBy_54 : decode cX11_isAsToldBy 54 = .ok (.iload 7, 2) := by decide +kernel
theorem dX11_isAsToldBy_56 : decode cX11_isAsToldBy 56 = .ok (.ifCond .eq 12, 3) := by decide +kernel
theorem dX11_isAsToldBy_59 : decode cX11_isAsToldBy 59 = .ok (.aload_n 0, 1) := by decide +kernel
theorem dX11_isAsToldBy_60 : decode cX11_isAsToldBy 60 = .ok (.getfield 49, 3) := by decide +kernel
theorem dX11_isAsToldBy_63 : decode cX11_isAsToldBy 63 = .ok (.invokevirtual 194, 3) := by decide +kernel
theorem dX11_isAsToldBy_66 : decode cX11_isAsToldBy 66 = .ok (.istore 7, 2) := by decide +kernel
theorem dX11_isAsToldBy_68 : decode cX11_isAsToldBy 68 = .ok (.aload 6, 2) := by decide +kernel
theorem dX11_isAsToldBy_70 : decode cX11_isAsToldBy 70 = .ok (.iload 8, 2) := by decide +kernel
theorem dX11_isAsToldBy_72 : decode cX11_isAsToldBy 72 = .ok (.invokevirtual 239, 3) := by decide +kernel
theorem dX11_isAsToldBy_75 : decode cX11_isAsToldBy 75 = .ok (.ifCond .ne 32, 3) := by decide +kernel
theorem dX11_isAsToldBy_78 : decode cX11_isAsToldBy 78 = .ok (.aload 6, 2) := by decide +kernel
theorem dX11_isAsToldBy_80 : decode cX11_isAsToldBy 80 = .ok (.getfield 236, 3) := by decide +kernel
theorem dX11_isAsToldBy_83 : decode cX11_isAsToldBy 83 = .ok (.iload 8, 2) := by decide +kernel
theorem dX11_isAsToldBy_85 : decode cX11_isAsToldBy 85 = .ok (.iaload, 1) := by decide +kernel
theorem dX11_isAsToldBy_86 : decode cX11_isAsToldBy 86 = .ok (.aload_n 0, 1) := by decide +kernel
theorem dX11_isAsToldBy_87 : decode cX11_isAsToldBy 87 = .ok (.getfield 49, 3) := by decide +kernel
theorem dX11_isAsToldBy_90 : decode cX11_isAsToldBy 90 = .ok (.aload_n 0, 1) := by decide +kernel
theorem dX11_isAsToldBy_91 : decode cX11_isAsToldBy 91 = .ok (.getfield 49, 3) := by decide +kernel
theorem dX11_isAsToldBy_94 : decode cX11_isAsToldBy 94 = .ok (.getfield 98, 3) := by decide +kernel
theorem dX11_isAsToldBy_97 : decode cX11_isAsToldBy 97 = .ok (.iload_n 2, 1) := by decide +kernel
theorem dX11_isAsToldBy_98 : decode cX11_isAsToldBy 98 = .ok (.iaload, 1) := by decide +kernel
theorem dX11_isAsToldBy_99 : decode cX11_isAsToldBy 99 = .ok (.invokevirtual 160, 3) := by decide +kernel
theorem dX11_isAsToldBy_102 : decode cX11_isAsToldBy 102 = .ok (.if_icmp .eq 5, 3) := by decide +kernel
theorem dX11_isAsToldBy_105 : decode cX11_isAsToldBy 105 = .ok (.iconst 0, 1) := by decide +kernel
theorem dX11_isAsToldBy_106 : decode cX11_isAsToldBy 106 = .ok (.ireturn, 1) := by decide +kernel
theorem dX11_isAsToldBy_107 : decode cX11_isAsToldBy 107 = .ok (.iinc 8 1, 3) := by decide +kernel
theorem dX11_isAsToldBy_110 : decode cX11_isAsToldBy 110 = .ok (.goto (-71), 3) := by decide +kernel
theorem dX11_isAsToldBy_113 : decode cX11_isAsToldBy 113 = .ok (.iconst 1, 1) := by decide +kernel
theorem dX11_isAsToldBy_114 : decode cX11_isAsToldBy 114 = .ok (.ireturn, 1) := by decide +kernel
theorem dX11_levelUnder_0 : decode cX11_levelUnder 0 = .ok (.aload_n 0, 1) := by decide +kernel
theorem dX11_levelUnder_1 : decode cX11_levelUnder 1 = .ok (.getfield 49, 3) := by decide +kernel
theorem dX11_levelUnder_4 : decode cX11_levelUnder 4 = .ok (.aload_n 0, 1) := by decide +kernel
theorem dX11_levelUnder_5 : decode cX11_levelUnder 5 = .ok (.getfield 45, 3) := by decide +kernel
theorem dX11_levelUnder_8 : decode cX11_levelUnder 8 = .ok (.invokevirtual 69, 3) := by decide +kernel
theorem dX11_levelUnder_11 : decode cX11_levelUnder 11 = .ok (.aload_n 0, 1) := by decide +kernel
theorem dX11_levelUnder_12 : decode cX11_levelUnder 12 = .ok (.getfield 49, 3) := by decide +kernel
theorem dX11_levelUnder_15 : decode cX11_levelUnder 15 = .ok (.getfield 98, 3) := by decide +kernel
theorem dX11_levelUnder_18 : decode cX11_levelUnder 18 = .ok (.iload_n 1, 1) := by decide +kernel
theorem dX11_levelUnder_19 : decode cX11_levelUnder 19 = .ok (.iload_n 3, 1) := by decide +kernel
theorem dX11_levelUnder_20 : decode cX11_levelUnder 20 = .ok (.ifCond .ne 15, 3) := by decide +kernel
theorem dX11_levelUnder_23 : decode cX11_levelUnder 23 = .ok (.aload_n 0, 1) := by decide +kernel
theorem dX11_levelUnder_24 : decode cX11_levelUnder 24 = .ok (.getfield 45, 3) := by decide +kernel
theorem dX11_levelUnder_27 : decode cX11_levelUnder 27 = .ok (.getfield 98, 3) := by decide +kernel
theorem dX11_levelUnder_30 : decode cX11_levelUnder 30 = .ok (.iload_n 1, 1) := by decide +kernel
theorem dX11_levelUnder_31 : decode cX11_levelUnder 31 = .ok (.iaload, 1) := by decide +kernel
theorem dX11_levelUnder_32 : decode cX11_levelUnder 32 = .ok (.goto 12, 3) := by decide +kernel
theorem dX11_levelUnder_35 : decode cX11_levelUnder 35 = .ok (.aload_n 0, 1) := by decide +kernel
theorem dX11_levelUnder_36 : decode cX11_levelUnder 36 = .ok (.getfield 45, 3) := by decide +kernel
theorem dX11_levelUnder_39 : decode cX11_levelUnder 39 = .ok (.getfield 98, 3) := by decide +kernel
theorem dX11_levelUnder_42 : decode cX11_levelUnder 42 = .ok (.iload_n 2, 1) := by decide +kernel
theorem dX11_levelUnder_43 : decode cX11_levelUnder 43 = .ok (.iaload, 1) := by decide +kernel
theorem dX11_levelUnder_44 : decode cX11_levelUnder 44 = .ok (.iastore, 1) := by decide +kernel
theorem dX11_levelUnder_45 : decode cX11_levelUnder 45 = .ok (.aload_n 0, 1) := by decide +kernel
theorem dX11_levelUnder_46 : decode cX11_levelUnder 46 = .ok (.getfield 49, 3) := by decide +kernel
theorem dX11_levelUnder_49 : decode cX11_levelUnder 49 = .ok (.getfield 98, 3) := by decide +kernel
theorem dX11_levelUnder_52 : decode cX11_levelUnder 52 = .ok (.iload_n 2, 1) := by decide +kernel
theorem dX11_levelUnder_53 : decode cX11_levelUnder 53 = .ok (.iload 4, 2) := by decide +kernel
theorem dX11_levelUnder_55 : decode cX11_levelUnder 55 = .ok (.ifCond .ne 15, 3) := by decide +kernel
theorem dX11_levelUnder_58 : decode cX11_levelUnder 58 = .ok (.aload_n 0, 1) := by decide +kernel
theorem dX11_levelUnder_59 : decode cX11_levelUnder 59 = .ok (.getfield 45, 3) := by decide +kernel
theorem dX11_levelUnder_62 : decode cX11_levelUnder 62 = .ok (.getfield 98, 3) := by decide +kernel
theorem dX11_levelUnder_65 : decode cX11_levelUnder 65 = .ok (.iload_n 2, 1) := by decide +kernel
theorem dX11_levelUnder_66 : decode cX11_levelUnder 66 = .ok (.iaload, 1) := by decide +kernel
theorem dX11_levelUnder_67 : decode cX11_levelUnder 67 = .ok (.goto 12, 3) := by decide +kernel
theorem dX11_levelUnder_70 : decode cX11_levelUnder 70 = .ok (.aload_n 0, 1) := by decide +kernel
theorem dX11_levelUnder_71 : decode cX11_levelUnder 71 = .ok (.getfield 45, 3) := by decide +kernel
theorem dX11_levelUnder_74 : decode cX11_levelUnder 74 = .ok (.getfield 98, 3) := by decide +kernel
theorem dX11_levelUnder_77 : decode cX11_levelUnder 77 = .ok (.iload_n 1, 1) := by decide +kernel
theorem dX11_levelUnder_78 : decode cX11_levelUnder 78 = .ok (.iaload, 1) := by decide +kernel
theorem dX11_levelUnder_79 : decode cX11_levelUnder 79 = .ok (.iastore, 1) := by decide +kernel
theorem dX11_levelUnder_80 : decode cX11_levelUnder 80 = .ok (.aload_n 0, 1) := by decide +kernel
theorem dX11_levelUnder_81 : decode cX11_levelUnder 81 = .ok (.getfield 49, 3) := by decide +kernel
theorem dX11_levelUnder_84 : decode cX11_levelUnder 84 = .ok (.aload_n 0, 1) := by decide +kernel
theorem dX11_levelUnder_85 : decode cX11_levelUnder 85 = .ok (.getfield 49, 3) := by decide +kernel
theorem dX11_levelUnder_88 : decode cX11_levelUnder 88 = .ok (.getfield 98, 3) := by decide +kernel
theorem dX11_levelUnder_91 : decode cX11_levelUnder 91 = .ok (.iload_n 1, 1) := by decide +kernel
theorem dX11_levelUnder_92 : decode cX11_levelUnder 92 = .ok (.iaload, 1) := by decide +kernel
theorem dX11_levelUnder_93 : decode cX11_levelUnder 93 = .ok (.invokevirtual 160, 3) := by decide +kernel
theorem dX11_levelUnder_96 : decode cX11_levelUnder 96 = .ok (.ireturn, 1) := by decide +kernel
theorem dX11_inLeastTerms_0 : decode cX11_inLeastTerms 0 = .ok (.lconst 1, 1) := by decide +kernel
theorem dX11_inLeastTerms_1 : decode cX11_inLeastTerms 1 = .ok (.lload_n 0, 1) := by decide +kernel
theorem dX11_inLeastTerms_2 : decode cX11_inLeastTerms 2 = .ok (.lload_n 2, 1) := by decide +kernel
theorem dX11_inLeastTerms_3 : decode cX11_inLeastTerms 3 = .ok (.invokestatic 336, 3) := by decide +kernel
theorem dX11_inLeastTerms_6 : decode cX11_inLeastTerms 6 = .ok (.invokestatic 340, 3) := by decide +kernel
theorem dX11_inLeastTerms_9 : decode cX11_inLeastTerms 9 = .ok (.lstore 5, 2) := by decide +kernel
theorem dX11_inLeastTerms_11 : decode cX11_inLeastTerms 11 = .ok (.iload 4, 2) := by decide +kernel
theorem dX11_inLeastTerms_13 : decode cX11_inLeastTerms 13 = .ok (.ifCond .ne 7, 3) := by decide +kernel
theorem dX11_inLeastTerms_16 : decode cX11_inLeastTerms 16 = .ok (.lload_n 0, 1) := by decide +kernel
theorem dX11_inLeastTerms_17 : decode cX11_inLeastTerms 17 = .ok (.goto 4, 3) := by decide +kernel
theorem dX11_inLeastTerms_20 : decode cX11_inLeastTerms 20 = .ok (.lload_n 2, 1) := by decide +kernel
theorem dX11_inLeastTerms_21 : decode cX11_inLeastTerms 21 = .ok (.lload 5, 2) := by decide +kernel
theorem dX11_inLeastTerms_23 : decode cX11_inLeastTerms 23 = .ok (.ldiv, 1) := by decide +kernel
theorem dX11_inLeastTerms_24 : decode cX11_inLeastTerms 24 = .ok (.lreturn, 1) := by decide +kernel
theorem dX11_commonDivisor_0 : decode cX11_commonDivisor 0 = .ok (.lload_n 0, 1) := by decide +kernel
theorem dX11_commonDivisor_1 : decode cX11_commonDivisor 1 = .ok (.lstore 4, 2) := by decide +kernel
theorem dX11_commonDivisor_3 : decode cX11_commonDivisor 3 = .ok (.lload_n 2, 1) := by decide +kernel
theorem dX11_commonDivisor_4 : decode cX11_commonDivisor 4 = .ok (.lstore 6, 2) := by decide +kernel
theorem dX11_commonDivisor_6 : decode cX11_commonDivisor 6 = .ok (.iconst 0, 1) := by decide +kernel
theorem dX11_commonDivisor_7 : decode cX11_commonDivisor 7 = .ok (.istore 8, 2) := by decide +kernel
theorem dX11_commonDivisor_9 : decode cX11_commonDivisor 9 = .ok (.iload 8, 2) := by decide +kernel
theorem dX11_commonDivisor_11 : decode cX11_commonDivisor 11 = .ok (.sipush 200, 3) := by decide +kernel
theorem dX11_commonDivisor_14 : decode cX11_commonDivisor 14 = .ok (.if_icmp .ge 31, 3) := by decide +kernel
theorem dX11_commonDivisor_17 : decode cX11_commonDivisor 17 = .ok (.lload 6, 2) := by decide +kernel
theorem dX11_commonDivisor_19 : decode cX11_commonDivisor 19 = .ok (.lconst 0, 1) := by decide +kernel
theorem dX11_commonDivisor_20 : decode cX11_commonDivisor 20 = .ok (.lcmp, 1) := by decide +kernel
theorem dX11_commonDivisor_21 : decode cX11_commonDivisor 21 = .ok (.ifCond .eq 24, 3) := by decide +kernel
theorem dX11_commonDivisor_24 : decode cX11_commonDivisor 24 = .ok (.lload 4, 2) := by decide +kernel
theorem dX11_commonDivisor_26 : decode cX11_commonDivisor 26 = .ok (.lload 6, 2) := by decide +kernel
theorem dX11_commonDivisor_28 : decode cX11_commonDivisor 28 = .ok (.lrem, 1) := by decide +kernel
theorem dX11_commonDivisor_29 : decode cX11_commonDivisor 29 = .ok (.lstore 9, 2) := by decide +kernel
theorem dX11_commonDivisor_31 : decode cX11_commonDivisor 31 = .ok (.lload 6, 2) := by decide +kernel
theorem dX11_commonDivisor_33 : decode cX11_commonDivisor 33 = .ok (.lstore 4, 2) := by decide +kernel
theorem dX11_commonDivisor_35 : decode cX11_commonDivisor 35 = .ok (.lload 9, 2) := by decide +kernel
theorem dX11_commonDivisor_37 : decode cX11_commonDivisor 37 = .ok (.lstore 6, 2) := by decide +kernel
theorem dX11_commonDivisor_39 : decode cX11_commonDivisor 39 = .ok (.iinc 8 1, 3) := by decide +kernel
theorem dX11_commonDivisor_42 : decode cX11_commonDivisor 42 = .ok (.goto (-33), 3) := by decide +kernel
theorem dX11_commonDivisor_45 : decode cX11_commonDivisor 45 = .ok (.lload 4, 2) := by decide +kernel
theorem dX11_commonDivisor_47 : decode cX11_commonDivisor 47 = .ok (.lreturn, 1) := by decide +kernel
theorem dX11_drawCountry_0 : decode cX11_drawCountry 0 = .ok (.aload_n 0, 1) := by decide +kernel
theorem dX11_drawCountry_1 : decode cX11_drawCountry 1 = .ok (.getfield 49, 3) := by decide +kernel
theorem dX11_drawCountry_4 : decode cX11_drawCountry 4 = .ok (.aload_n 0, 1) := by decide +kernel
theorem dX11_drawCountry_5 : decode cX11_drawCountry 5 = .ok (.getfield 45, 3) := by decide +kernel
theorem dX11_drawCountry_8 : decode cX11_drawCountry 8 = .ok (.invokevirtual 69, 3) := by decide +kernel
theorem dX11_drawCountry_11 : decode cX11_drawCountry 11 = .ok (.iconst 0, 1) := by decide +kernel
theorem dX11_drawCountry_12 : decode cX11_drawCountry 12 = .ok (.istore_n 1, 1) := by decide +kernel
theorem dX11_drawCountry_13 : decode cX11_drawCountry 13 = .ok (.iload_n 1, 1) := by decide +kernel
theorem dX11_drawCountry_14 : decode cX11_drawCountry 14 = .ok (.aload_n 0, 1) := by decide +kernel
theorem dX11_drawCountry_15 : decode cX11_drawCountry 15 = .ok (.getfield 49, 3) := by decide +kernel
theorem dX11_drawCountry_18 : decode cX11_drawCountry 18 = .ok (.getfield 140, 3) := by decide +kernel
theorem dX11_drawCountry_21 : decode cX11_drawCountry 21 = .ok (.if_icmp .ge 40, 3) := by decide +kernel
theorem dX11_drawCountry_24 : decode cX11_drawCountry 24 = .ok (.aload_n 0, 1) := by decide +kernel
theorem dX11_drawCountry_25 : decode cX11_drawCountry 25 = .ok (.getfield 49, 3) := by decide +kernel
theorem dX11_drawCountry_28 : decode cX11_drawCountry 28 = .ok (.getfield 98, 3) := by decide +kernel
theorem dX11_drawCountry_31 : decode cX11_drawCountry 31 = .ok (.iload_n 1, 1) := by decide +kernel
theorem dX11_drawCountry_32 : decode cX11_drawCountry 32 = .ok (.aload_n 0, 1) := by decide +kernel
theorem dX11_drawCountry_33 : decode cX11_drawCountry 33 = .ok (.bipush 15, 2) := by decide +kernel
theorem dX11_drawCountry_35 : decode cX11_drawCountry 35 = .ok (.invokevirtual 343, 3) := by decide +kernel
theorem dX11_drawCountry_38 : decode cX11_drawCountry 38 = .ok (.iastore, 1) := by decide +kernel
theorem dX11_drawCountry_39 : decode cX11_drawCountry 39 = .ok (.aload_n 0, 1) := by decide +kernel
theorem dX11_drawCountry_40 : decode cX11_drawCountry 40 = .ok (.getfield 49, 3) := by decide +kernel
theorem dX11_drawCountry_43 : decode cX11_drawCountry 43 = .ok (.getfield 101, 3) := by decide +kernel
theorem dX11_drawCountry_46 : decode cX11_drawCountry 46 = .ok (.iload_n 1, 1) := by decide +kernel
theorem dX11_drawCountry_47 : decode cX11_drawCountry 47 = .ok (.aload_n 0, 1) := by decide +kernel
theorem dX11_drawCountry_48 : decode cX11_drawCountry 48 = .ok (.iconst 3, 1) := by decide +kernel
theorem dX11_drawCountry_49 : decode cX11_drawCountry 49 = .ok (.invokevirtual 343, 3) := by decide +kernel
theorem dX11_drawCountry_52 : decode cX11_drawCountry 52 = .ok (.iconst 1, 1) := by decide +kernel
theorem dX11_drawCountry_53 : decode cX11_drawCountry 53 = .ok (.isub, 1) := by decide +kernel
theorem dX11_drawCountry_54 : decode cX11_drawCountry 54 = .ok (.iastore, 1) := by decide +kernel
theorem dX11_drawCountry_55 : decode cX11_drawCountry 55 = .ok (.iinc 1 1, 3) := by decide +kernel
theorem dX11_drawCountry_58 : decode cX11_drawCountry 58 = .ok (.goto (-45), 3) := by decide +kernel
theorem dX11_drawCountry_61 : decode cX11_drawCountry 61 = .ok (.return_, 1) := by decide +kernel
theorem dX11_drawBelow_0 : decode cX11_drawBelow 0 = .ok (.aload_n 0, 1) := by decide +kernel
theorem dX11_drawBelow_1 : decode cX11_drawBelow 1 = .ok (.aload_n 0, 1) := by decide +kernel
theorem dX11_drawBelow_2 : decode cX11_drawBelow 2 = .ok (.getfield 242, 3) := by decide +kernel
theorem dX11_drawBelow_5 : decode cX11_drawBelow 5 = .ok (.ldc_w 346, 3) := by decide +kernel
theorem dX11_drawBelow_8 : decode cX11_drawBelow 8 = .ok (.imul, 1) := by decide +kernel
theorem dX11_drawBelow_9 : decode cX11_drawBelow 9 = .ok (.sipush 12345, 3) := by decide +kernel
theorem dX11_drawBelow_12 : decode cX11_drawBelow 12 = .ok (.iadd, 1) := by decide +kernel
theorem dX11_drawBelow_13 : decode cX11_drawBelow 13 = .ok (.putfield 242, 3) := by decide +kernel
theorem dX11_drawBelow_16 : decode cX11_drawBelow 16 = .ok (.iload_n 1, 1) := by decide +kernel
theorem dX11_drawBelow_17 : decode cX11_drawBelow 17 = .ok (.iconst 1, 1) := by decide +kernel
theorem dX11_drawBelow_18 : decode cX11_drawBelow 18 = .ok (.if_icmp .ge 7, 3) := by decide +kernel
theorem dX11_drawBelow_21 : decode cX11_drawBelow 21 = .ok (.iconst 0, 1) := by decide +kernel
theorem dX11_drawBelow_22 : decode cX11_drawBelow 22 = .ok (.goto 17, 3) := by decide +kernel
theorem dX11_drawBelow_25 : decode cX11_drawBelow 25 = .ok (.aload_n 0, 1) := by decide +kernel
theorem dX11_drawBelow_26 : decode cX11_drawBelow 26 = .ok (.getfield 242, 3) := by decide +kernel
theorem dX11_drawBelow_29 : decode cX11_drawBelow 29 = .ok (.ldc_w 347, 3) := by decide +kernel
theorem dX11_drawBelow_32 : decode cX11_drawBelow 32 = .ok (.iand, 1) := by decide +kernel
theorem dX11_drawBelow_33 : decode cX11_drawBelow 33 = .ok (.ldc_w 348, 3) := by decide +kernel
theorem dX11_drawBelow_36 : decode cX11_drawBelow 36 = .ok (.idiv, 1) := by decide +kernel
theorem dX11_drawBelow_37 : decode cX11_drawBelow 37 = .ok (.iload_n 1, 1) := by decide +kernel
theorem dX11_drawBelow_38 : decode cX11_drawBelow 38 = .ok (.irem, 1) := by decide +kernel
theorem dX11_drawBelow_39 : decode cX11_drawBelow 39 = .ok (.ireturn, 1) := by decide +kernel
theorem dX12_init_0 : decode cX12_init 0 = .ok (.aload_n 0, 1) := by decide +kernel
theorem dX12_init_1 : decode cX12_init 1 = .ok (.invokespecial 1, 3) := by decide +kernel
theorem dX12_init_4 : decode cX12_init 4 = .ok (.aload_n 0, 1) := by decide +kernel
theorem dX12_init_5 : decode cX12_init 5 = .ok (.bipush 15, 2) := by decide +kernel
theorem dX12_init_7 : decode cX12_init 7 = .ok (.newarray .int, 2) := by decide +kernel
theorem dX12_init_9 : decode cX12_init 9 = .ok (.putfield 7, 3) := by decide +kernel
theorem dX12_init_12 : decode cX12_init 12 = .ok (.aload_n 0, 1) := by decide +kernel
theorem dX12_init_13 : decode cX12_init 13 = .ok (.bipush 6, 2) := by decide +kernel
theorem dX12_init_15 : decode cX12_init 15 = .ok (.newarray .int, 2) := by decide +kernel
theorem dX12_init_17 : decode cX12_init 17 = .ok (.putfield 13, 3) := by decide +kernel
theorem dX12_init_20 : decode cX12_init 20 = .ok (.aload_n 0, 1) := by decide +kernel
theorem dX12_init_21 : decode cX12_init 21 = .ok (.bipush 6, 2) := by decide +kernel
theorem dX12_init_23 : decode cX12_init 23 = .ok (.newarray .int, 2) := by decide +kernel
theorem dX12_init_25 : decode cX12_init 25 = .ok (.putfield 16, 3) := by decide +kernel
theorem dX12_init_28 : decode cX12_init 28 = .ok (.aload_n 0, 1) := by decide +kernel
theorem dX12_init_29 : decode cX12_init 29 = .ok (.bipush 6, 2) := by decide +kernel
theorem dX12_init_31 : decode cX12_init 31 = .ok (.newarray .int, 2) := by decide +kernel
theorem dX12_init_33 : decode cX12_init 33 = .ok (.putfield 19, 3) := by decide +kernel
theorem dX12_init_36 : decode cX12_init 36 = .ok (.aload_n 0, 1) := by decide +kernel
theorem dX12_init_37 : decode cX12_init 37 = .ok (.bipush 6, 2) := by decide +kernel
theorem dX12_init_39 : decode cX12_init 39 = .ok (.newarray .int, 2) := by decide +kernel
theorem dX12_init_41 : decode cX12_init 41 = .ok (.putfield 22, 3) := by decide +kernel
theorem dX12_init_44 : decode cX12_init 44 = .ok (.aload_n 0, 1) := by decide +kernel
theorem dX12_init_45 : decode cX12_init 45 = .ok (.bipush 6, 2) := by decide +kernel
theorem dX12_init_47 : decode cX12_init 47 = .ok (.newarray .int, 2) := by decide +kernel
theorem dX12_init_49 : decode cX12_init 49 = .ok (.putfield 25, 3) := by decide +kernel
theorem dX12_init_52 : decode cX12_init 52 = .ok (.aload_n 0, 1) := by decide +kernel
theorem dX12_init_53 : decode cX12_init 53 = .ok (.bipush 8, 2) := by decide +kernel
theorem dX12_init_55 : decode cX12_init 55 = .ok (.newarray .int, 2) := by decide +kernel
theorem dX12_init_57 : decode cX12_init 57 = .ok (.putfield 28, 3) := by decide +kernel
theorem dX12_init_60 : decode cX12_init 60 = .ok (.aload_n 0, 1) := by decide +kernel
theorem dX12_init_61 : decode cX12_init 61 = .ok (.bipush 8, 2) := by decide +kernel
theorem dX12_init_63 : decode cX12_init 63 = .ok (.newarray .int, 2) := by decide +kernel
theorem dX12_init_65 : decode cX12_init 65 = .ok (.putfield 31, 3) := by decide +kernel
theorem dX12_init_68 : decode cX12_init 68 = .ok (.aload_n 0, 1) := by decide +kernel
theorem dX12_init_69 : decode cX12_init 69 = .ok (.bipush 8, 2) := by decide +kernel
theorem dX12_init_71 : decode cX12_init 71 = .ok (.newarray .int, 2) := by decide +kernel
theorem dX12_init_73 : decode cX12_init 73 = .ok (.putfield 34, 3) := by decide +kernel
theorem dX12_init_76 : decode cX12_init 76 = .ok (.aload_n 0, 1) := by decide +kernel
theorem dX12_init_77 : decode cX12_init 77 = .ok (.bipush 8, 2) := by decide +kernel
theorem dX12_init_79 : decode cX12_init 79 = .ok (.newarray .int, 2) := by decide +kernel
theorem dX12_init_81 : decode cX12_init 81 = .ok (.putfield 37, 3) := by decide +kernel
theorem dX12_init_84 : decode cX12_init 84 = .ok (.aload_n 0, 1) := by decide +kernel
theorem dX12_init_85 : decode cX12_init 85 = .ok (.bipush 8, 2) := by decide +kernel
theorem dX12_init_87 : decode cX12_init 87 = .ok (.newarray .int, 2) := by decide +kernel
theorem dX12_init_89 : decode cX12_init 89 = .ok (.putfield 40, 3) := by decide +kernel
theorem dX12_init_92 : decode cX12_init 92 = .ok (.aload_n 0, 1) := by decide +kernel
theorem dX12_init_93 : decode cX12_init 93 = .ok (.sipush 800, 3) := by decide +kernel
theorem dX12_init_96 : decode cX12_init 96 = .ok (.newarray .long, 2) := by decide +kernel
theorem dX12_init_98 : decode cX12_init 98 = .ok (.putfield 43, 3) := by decide +kernel
theorem dX12_init_101 : decode cX12_init 101 = .ok (.aload_n 0, 1) := by decide +kernel
theorem dX12_init_102 : decode cX12_init 102 = .ok (.bipush 15, 2) := by decide +kernel
theorem dX12_init_104 : decode cX12_init 104 = .ok (.newarray .int, 2) := by decide +kernel
theorem dX12_init_106 : decode cX12_init 106 = .ok (.putfield 47, 3) := by decide +kernel
theorem dX12_init_109 : decode cX12_init 109 = .ok (.aload_n 0, 1) := by decide +kernel
theorem dX12_init_110 : decode cX12_init 110 = .ok (.bipush 15, 2) := by decide +kernel
theorem dX12_init_112 : decode cX12_init 112 = .ok (.newarray .int, 2) := by decide +kernel
theorem dX12_init_114 : decode cX12_init 114 = .ok (.putfield 50, 3) := by decide +kernel
theorem dX12_init_117 : decode cX12_init 117 = .ok (.aload_n 0, 1) := by decide +kernel
theorem dX12_init_118 : decode cX12_init 118 = .ok (.bipush 51, 2) := by decide +kernel
theorem dX12_init_120 : decode cX12_init 120 = .ok (.newarray .int, 2) := by decide +kernel
theorem dX12_init_122 : decode cX12_init 122 = .ok (.putfield 53, 3) := by decide +kernel
theorem dX12_init_125 : decode cX12_init 125 = .ok (.aload_n 0, 1) := by decide +kernel
theorem dX12_init_126 : decode cX12_init 126 = .ok (.bipush 51, 2) := by decide +kernel
theorem dX12_init_128 : decode cX12_init 128 = .ok (.newarray .int, 2) := by decide +kernel
theorem dX12_init_130 : decode cX12_init 130 = .ok (.putfield 56, 3) := by decide +kernel
theorem dX12_init_133 : decode cX12_init 133 = .ok (.aload_n 0, 1) := by decide +kernel
theorem dX12_init_134 : decode cX12_init 134 = .ok (.sipush 204, 3) := by decide +kernel
theorem dX12_init_137 : decode cX12_init 137 = .ok (.newarray .int, 2) := by decide +kernel
theorem dX12_init_139 : decode cX12_init 139 = .ok (.putfield 59, 3) := by decide +kernel
theorem dX12_init_142 : decode cX12_init 142 = .ok (.aload_n 0, 1) := by decide +kernel
theorem dX12_init_143 : decode cX12_init 143 = .ok (.bipush 47, 2) := by decide +kernel
theorem dX12_init_145 : decode cX12_init 145 = .ok (.newarray .int, 2) := by decide +kernel
theorem dX12_init_147 : decode cX12_init 147 = .ok (.putfield 62, 3) := by decide +kernel
theorem dX12_init_150 : decode cX12_init 150 = .ok (.aload_n 0, 1) := by decide +kernel
theorem dX12_init_151 : decode cX12_init 151 = .ok (.bipush 47, 2) := by decide +kernel
theorem dX12_init_153 : decode cX12_init 153 = .ok (.newarray .int, 2) := by decide +kernel
theorem dX12_init_155 : decode cX12_init 155 = .ok (.putfield 65, 3) := by decide +kernel
theorem dX12_init_158 : decode cX12_init 158 = .ok (.aload_n 0, 1) := by decide +kernel
theorem dX12_init_159 : decode cX12_init 159 = .ok (.bipush 8, 2) := by decide +kernel
theorem dX12_init_161 : decode cX12_init 161 = .ok (.newarray .int, 2) := by decide +kernel
theorem dX12_init_163 : decode cX12_init 163 = .ok (.putfield 68, 3) := by decide +kernel
theorem dX12_init_166 : decode cX12_init 166 = .ok (.aload_n 0, 1) := by decide +kernel
theorem dX12_init_167 : decode cX12_init 167 = .ok (.bipush 100, 2) := by decide +kernel
theorem dX12_init_169 : decode cX12_init 169 = .ok (.newarray .long, 2) := by decide +kernel
theorem dX12_init_171 : decode cX12_init 171 = .ok (.putfield 71, 3) := by decide +kernel
theorem dX12_init_174 : decode cX12_init 174 = .ok (.aload_n 0, 1) := by decide +kernel
theorem dX12_init_175 : decode cX12_init 175 = .ok (.iconst 0, 1) := by decide +kernel
theorem dX12_init_176 : decode cX12_init 176 = .ok (.putfield 74, 3) := by decide +kernel
theorem dX12_init_179 : decode cX12_init 179 = .ok (.iconst 0, 1) := by decide +kernel
theorem dX12_init_180 : decode cX12_init 180 = .ok (.istore_n 1, 1) := by decide +kernel
theorem dX12_init_181 : decode cX12_init 181 = .ok (.iload_n 1, 1) := by decide +kernel
theorem dX12_init_182 : decode cX12_init 182 = .ok (.bipush 15, 2) := by decide +kernel
theorem dX12_init_184 : decode cX12_init 184 = .ok (.if_icmp .ge 16, 3) := by decide +kernel
theorem dX12_init_187 : decode cX12_init 187 = .ok (.aload_n 0, 1) := by decide +kernel
theorem dX12_init_188 : decode cX12_init 188 = .ok (.getfield 7, 3) := by decide +kernel
theorem dX12_init_191 : decode cX12_init 191 = .ok (.iload_n 1, 1) := by decide +kernel
theorem dX12_init_192 : decode cX12_init 192 = .ok (.iconst 5, 1) := by decide +kernel
theorem dX12_init_193 : decode cX12_init 193 = .ok (.iastore, 1) := by decide +kernel
theorem dX12_init_194 : decode cX12_init 194 = .ok (.iinc 1 1, 3) := by decide +kernel
theorem dX12_init_197 : decode cX12_init 197 = .ok (.goto (-16), 3) := by decide +kernel
theorem dX12_init_200 : decode cX12_init 200 = .ok (.return_, 1) := by decide +kernel
theorem dX12_thrown_0 : decode cX12_thrown 0 = .ok (.aload_n 0, 1) := by decide +kernel
theorem dX12_thrown_1 : decode cX12_thrown 1 = .ok (.getfield 74, 3) := by decide +kernel
theorem dX12_thrown_4 : decode cX12_thrown 4 = .ok (.ireturn, 1) := by decide +kernel
theorem dX12_in_0 : decode cX12_in 0 = .ok (.lload_n 0, 1) := by decide +kernel
theorem dX12_in_1 : decode cX12_in 1 = .ok (.lload_n 2, 1) := by decide +kernel
theorem dX12_in_2 : decode cX12_in 2 = .ok (.lcmp, 1) := by decide +kernel
theorem dX12_in_3 : decode cX12_in 3 = .ok (.ifCond .lt 14, 3) := by decide +kernel
theorem dX12_in_6 : decode cX12_in 6 = .ok (.lload_n 0, 1) := by decide +kernel
theorem dX12_in_7 : decode cX12_in 7 = .ok (.lload 4, 2) := by decide +kernel
theorem dX12_in_9 : decode cX12_in 9 = .ok (.lcmp, 1) := by decide +kernel
theorem dX12_in_10 : decode cX12_in 10 = .ok (.ifCond .gt 7, 3) := by decide +kernel
theorem dX12_in_13 : decode cX12_in 13 = .ok (.iconst 1, 1) := by decide +kernel
theorem dX12_in_14 : decode cX12_in 14 = .ok (.goto 4, 3) := by decide +kernel
theorem dX12_in_17 : decode cX12_in 17 = .ok (.iconst 0, 1) := by decide +kernel
theorem dX12_in_18 : decode cX12_in 18 = .ok (.ireturn, 1) := by decide +kernel
theorem dX12_hasBit_0 : decode cX12_hasBit 0 = .ok (.iload_n 0, 1) := by decide +kernel
theorem dX12_hasBit_1 : decode cX12_hasBit 1 = .ok (.iload_n 1, 1) := by decide +kernel
theorem dX12_hasBit_2 : decode cX12_hasBit 2 = .ok (.ishr, 1) := by decide +kernel
theorem dX12_hasBit_3 : decode cX12_hasBit 3 = .ok (.iconst 1, 1) := by decide +kernel
theorem dX12_hasBit_4 : decode cX12_hasBit 4 = .ok (.iand, 1) := by decide +kernel
theorem dX12_hasBit_5 : decode cX12_hasBit 5 = .ok (.iconst 1, 1) := by decide +kernel
theorem dX12_hasBit_6 : decode cX12_hasBit 6 = .ok (.if_icmp .ne 7, 3) := by decide +kernel
theorem dX12_hasBit_9 : decode cX12_hasBit 9 = .ok (.iconst 1, 1) := by decide +kernel
theorem dX12_hasBit_10 : decode cX12_hasBit 10 = .ok (.goto 4, 3) := by decide +kernel
theorem dX12_hasBit_13 : decode cX12_hasBit 13 = .ok (.iconst 0, 1) := by decide +kernel
theorem dX12_hasBit_14 : decode cX12_hasBit 14 = .ok (.ireturn, 1) := by decide +kernel
theorem dX12_onesOf_0 : decode cX12_onesOf 0 = .ok (.iconst 0, 1) := by decide +kernel
theorem dX12_onesOf_1 : decode cX12_onesOf 1 = .ok (.istore_n 1, 1) := by decide +kernel
theorem dX12_onesOf_2 : decode cX12_onesOf 2 = .ok (.iload_n 0, 1) := by decide +kernel
theorem dX12_onesOf_3 : decode cX12_onesOf 3 = .ok (.istore_n 2, 1) := by decide +kernel
theorem dX12_onesOf_4 : decode cX12_onesOf 4 = .ok (.iload_n 2, 1) := by decide +kernel
theorem dX12_onesOf_5 : decode cX12_onesOf 5 = .ok (.ifCond .eq 15, 3) := by decide +kernel
theorem dX12_onesOf_8 : decode cX12_onesOf 8 = .ok (.iinc 1 1, 3) := by decide +kernel
theorem dX12_onesOf_11 : decode cX12_onesOf 11 = .ok (.iload_n 2, 1) := by decide +kernel
theorem dX12_onesOf_12 : decode cX12_onesOf 12 = .ok (.iload_n 2, 1) := by decide +kernel
theorem dX12_onesOf_13 : decode cX12_onesOf 13 = .ok (.iconst 1, 1) := by decide +kernel
theorem dX12_onesOf_14 : decode cX12_onesOf 14 = .ok (.isub, 1) := by decide +kernel
theorem dX12_onesOf_15 : decode cX12_onesOf 15 = .ok (.iand, 1) := by decide +kernel
theorem dX12_onesOf_16 : decode cX12_onesOf 16 = .ok (.istore_n 2, 1) := by decide +kernel
theorem dX12_onesOf_17 : decode cX12_onesOf 17 = .ok (.goto (-13), 3) := by decide +kernel
theorem dX12_onesOf_20 : decode cX12_onesOf 20 = .ok (.iload_n 1, 1) := by decide +kernel
theorem dX12_onesOf_21 : decode cX12_onesOf 21 = .ok (.ireturn, 1) := by decide +kernel
theorem dX12_isCell_0 : decode cX12_isCell 0 = .ok (.iload_n 0, 1) := by decide +kernel
theorem dX12_isCell_1 : decode cX12_isCell 1 = .ok (.i2l, 1) := by decide +kernel
theorem dX12_isCell_2 : decode cX12_isCell 2 = .ok (.lconst 0, 1) := by decide +kernel
theorem dX12_isCell_3 : decode cX12_isCell 3 = .ok (.ldc2_w 78, 3) := by decide +kernel
theorem dX12_isCell_6 : decode cX12_isCell 6 = .ok (.invokestatic 80, 3) := by decide +kernel
theorem dX12_isCell_9 : decode cX12_isCell 9 = .ok (.ireturn, 1) := by decide +kernel
theorem dX12_isOne_0 : decode cX12_isOne 0 = .ok (.iload_n 1, 1) := by decide +kernel
theorem dX12_isOne_1 : decode cX12_isOne 1 = .ok (.i2l, 1) := by decide +kernel
theorem dX12_isOne_2 : decode cX12_isOne 2 = .ok (.lconst 0, 1) := by decide +kernel
theorem dX12_isOne_3 : decode cX12_isOne 3 = .ok (.aload_n 0, 1) := by decide +kernel
theorem dX12_isOne_4 : decode cX12_isOne 4 = .ok (.getfield 84, 3) := by decide +kernel
theorem dX12_isOne_7 : decode cX12_isOne 7 = .ok (.iconst 1, 1) := by decide +kernel
theorem dX12_isOne_8 : decode cX12_isOne 8 = .ok (.isub, 1) := by decide +kernel
theorem dX12_isOne_9 : decode cX12_isOne 9 = .ok (.i2l, 1) := by decide +kernel
theorem dX12_isOne_10 : decode cX12_isOne 10 = .ok (.invokestatic 80, 3) := by decide +kernel
theorem dX12_isOne_13 : decode cX12_isOne 13 = .ok (.ireturn, 1) := by decide +kernel
theorem dX12_above_0 : decode cX12_above 0 = .ok (.iload_n 0, 1) := by decide +kernel
theorem dX12_above_1 : decode cX12_above 1 = .ok (.ifCond .ge 7, 3) := by decide +kernel
theorem dX12_above_4 : decode cX12_above 4 = .ok (.iconst 0, 1) := by decide +kernel
theorem dX12_above_5 : decode cX12_above 5 = .ok (.goto 4, 3) := by decide +kernel
theorem dX12_above_8 : decode cX12_above 8 = .ok (.iload_n 0, 1) := by decide +kernel
theorem dX12_above_9 : decode cX12_above 9 = .ok (.ireturn, 1) := by decide +kernel
theorem dX12_plainly_0 : decode cX12_plainly 0 = .ok (.iload_n 0, 1) := by decide +kernel
theorem dX12_plainly_1 : decode cX12_plainly 1 = .ok (.ifCond .ge 8, 3) := by decide +kernel
theorem dX12_plainly_4 : decode cX12_plainly 4 = .ok (.iload_n 0, 1) := by decide +kernel
theorem dX12_plainly_5 : decode cX12_plainly 5 = .ok (.ineg, 1) := by decide +kernel
theorem dX12_plainly_6 : decode cX12_plainly 6 = .ok (.goto 4, 3) := by decide +kernel
theorem dX12_plainly_9 : decode cX12_plainly 9 = .ok (.iload_n 0, 1) := by decide +kernel
theorem dX12_plainly_10 : decode cX12_plainly 10 = .ok (.ireturn, 1) := by decide +kernel
theorem dX12_pressesOf_0 : decode cX12_pressesOf 0 = .ok (.aload_n 0, 1) := by decide +kernel
theorem dX12_pressesOf_1 : decode cX12_pressesOf 1 = .ok (.getfield 19, 3) := by decide +kernel
theorem dX12_pressesOf_4 : decode cX12_pressesOf 4 = .ok (.iload_n 1, 1) := by decide +kernel
theorem dX12_pressesOf_5 : decode cX12_pressesOf 5 = .ok (.iaload, 1) := by decide +kernel
theorem dX12_pressesOf_6 : decode cX12_pressesOf 6 = .ok (.bipush 60, 2) := by decide +kernel
theorem dX12_pressesOf_8 : decode cX12_pressesOf 8 = .ok (.isub, 1) := by decide +kernel
theorem dX12_pressesOf_9 : decode cX12_pressesOf 9 = .ok (.invokestatic 87, 3) := by decide +kernel
theorem dX12_pressesOf_12 : decode cX12_pressesOf 12 = .ok (.bipush 10, 2) := by decide +kernel
theorem dX12_pressesOf_14 : decode cX12_pressesOf 14 = .ok (.idiv, 1) := by decide +kernel
theorem dX12_pressesOf_15 : decode cX12_pressesOf 15 = .ok (.istore_n 2, 1) := by decide +kernel
theorem dX12_pressesOf_16 : decode cX12_pressesOf 16 = .ok (.iload_n 2, 1) := by decide +kernel
theorem dX12_pressesOf_17 : decode cX12_pressesOf 17 = .ok (.aload_n 0, 1) := by decide +kernel
theorem dX12_pressesOf_18 : decode cX12_pressesOf 18 = .ok (.getfield 19, 3) := by decide +kernel
theorem dX12_pressesOf_21 : decode cX12_pressesOf 21 = .ok (.iload_n 1, 1) := by decide +kernel
theorem dX12_pressesOf_22 : decode cX12_pressesOf 22 = .ok (.iaload, 1) := by decide +kernel
theorem dX12_pressesOf_23 : decode cX12_pressesOf 23 = .ok (.bipush 60, 2) := by decide +kernel
theorem dX12_pressesOf_25 : decode cX12_pressesOf 25 = .ok (.if_icmp .lt 7, 3) := by decide +kernel
theorem dX12_pressesOf_28 : decode cX12_pressesOf 28 = .ok (.iconst 2, 1) := by decide +kernel
theorem dX12_pressesOf_29 : decode cX12_pressesOf 29 = .ok (.goto 4, 3) := by decide +kernel
theorem dX12_pressesOf_32 : decode cX12_pressesOf 32 = .ok (.iconst 0, 1) := by decide +kernel
theorem dX12_pressesOf_33 : decode cX12_pressesOf 33 = .ok (.iadd, 1) := by decide +kernel
theorem dX12_pressesOf_34 : decode cX12_pressesOf 34 = .ok (.istore_n 3, 1) := by decide +kernel
theorem dX12_pressesOf_35 : decode cX12_pressesOf 35 = .ok (.aload_n 0, 1) := by decide +kernel
theorem dX12_pressesOf_36 : decode cX12_pressesOf 36 = .ok (.getfield 13, 3) := by decide +kernel
theorem dX12_pressesOf_39 : decode cX12_pressesOf 39 = .ok (.iload_n 1, 1) := by decide +kernel
theorem dX12_pressesOf_40 : decode cX12_pressesOf 40 = .ok (.iaload, 1) := by decide +kernel
theorem dX12_pressesOf_41 : decode cX12_pressesOf 41 = .ok (.tableswitch 78 1 7 #[43, 78, 50, 52, 56, 72, 76], 43) := by decide +kernel
theorem dX12_pressesOf_84 : decode cX12_pressesOf 84 = .ok (.iload_n 2, 1) := by decide +kernel
theorem dX12_pressesOf_85 : decode cX12_pressesOf 85 = .ok (.iconst 1, 1) := by decide +kernel
theorem dX12_pressesOf_86 : decode cX12_pressesOf 86 = .ok (.isub, 1) := by decide +kernel
theorem dX12_pressesOf_87 : decode cX12_pressesOf 87 = .ok (.invokestatic 87, 3) := by decide +kernel
theorem dX12_pressesOf_90 : decode cX12_pressesOf 90 = .ok (.ireturn, 1) := by decide +kernel
theorem dX12_pressesOf_91 : decode cX12_pressesOf 91 = .ok (.iload_n 3, 1) := by decide +kernel
theorem dX12_pressesOf_92 : decode cX12_pressesOf 92 = .ok (.ireturn, 1) := by decide +kernel
theorem dX12_pressesOf_93 : decode cX12_pressesOf 93 = .ok (.iconst 2, 1) := by decide +kernel
theorem dX12_pressesOf_94 : decode cX12_pressesOf 94 = .ok (.iload_n 3, 1) := by decide +kernel
theorem dX12_pressesOf_95 : decode cX12_pressesOf 95 = .ok (.imul, 1) := by decide +kernel
theorem dX12_pressesOf_96 : decode cX12_pressesOf 96 = .ok (.ireturn, 1) := by decide +kernel
theorem dX12_pressesOf_97 : decode cX12_pressesOf 97 = .ok (.iload_n 2, 1) := by decide +kernel
theorem dX12_pressesOf_98 : decode cX12_pressesOf 98 = .ok (.iconst 1, 1) := by decide +kernel
theorem dX12_pressesOf_99 : decode cX12_pressesOf 99 = .ok (.isub, 1) := by decide +kernel
theorem dX12_pressesOf_100 : decode cX12_pressesOf 100 = .ok (.invokestatic 87, 3) := by decide +kernel
theorem dX12_pressesOf_103 : decode cX12_pressesOf 103 = .ok (.aload_n 0, 1) := by decide +kernel
theorem dX12_pressesOf_104 : decode cX12_pressesOf 104 = .ok (.getfield 16, 3) := by decide +kernel
theorem dX12_pressesOf_107 : decode cX12_pressesOf 107 = .ok (.iload_n 1, 1) := by decide +kernel
theorem dX12_pressesOf_108 : decode cX12_pressesOf 108 = .ok (.iaload, 1) := by decide +kernel
theorem dX12_pressesOf_109 : decode cX12_pressesOf 109 = .ok (.iconst 3, 1) := by decide +kernel
theorem dX12_pressesOf_110 : decode cX12_pressesOf 110 = .ok (.idiv, 1) := by decide +kernel
theorem dX12_pressesOf_111 : decode cX12_pressesOf 111 = .ok (.iadd, 1) := by decide +kernel
theorem dX12_pressesOf_112 : decode cX12_pressesOf 112 = .ok (.ireturn, 1) := by decide +kernel
theorem dX12_pressesOf_113 : decode cX12_pressesOf 113 = .ok (.iload_n 2, 1) := by decide +kernel
theorem dX12_pressesOf_114 : decode cX12_pressesOf 114 = .ok (.iconst 1, 1) := by decide +kernel
theorem dX12_pressesOf_115 : decode cX12_pressesOf 115 = .ok (.iadd, 1) := by decide +kernel
theorem dX12_pressesOf_116 : decode cX12_pressesOf 116 = .ok (.ireturn, 1) := by decide +kernel
theorem dX12_pressesOf_117 : decode cX12_pressesOf 117 = .ok (.iconst 0, 1) := by decide +kernel
theorem dX12_pressesOf_118 : decode cX12_pressesOf 118 = .ok (.ireturn, 1) := by decide +kernel
theorem dX12_pressesOf_119 : decode cX12_pressesOf 119 = .ok (.iload_n 2, 1) := by decide +kernel
theorem dX12_pressesOf_120 : decode cX12_pressesOf 120 = .ok (.ireturn, 1) := by decide +kernel
theorem dX12_spreadsOf_0 : decode cX12_spreadsOf 0 = .ok (.aload_n 0, 1) := by decide +kernel
theorem dX12_spreadsOf_1 : decode cX12_spreadsOf 1 = .ok (.getfield 13, 3) := by decide +kernel
theorem dX12_spreadsOf_4 : decode cX12_spreadsOf 4 = .ok (.iload_n 1, 1) := by decide +kernel
theorem dX12_spreadsOf_5 : decode cX12_spreadsOf 5 = .ok (.iaload, 1) := by decide +kernel
theorem dX12_spreadsOf_6 : decode cX12_spreadsOf 6 = .ok (.iconst 1, 1) := by decide +kernel
theorem dX12_spreadsOf_7 : decode cX12_spreadsOf 7 = .ok (.if_icmp .ne 7, 3) := by decide +kernel
theorem dX12_spreadsOf_10 : decode cX12_spreadsOf 10 = .ok (.iconst 1, 1) := by decide +kernel
theorem dX12_spreadsOf_11 : decode cX12_spreadsOf 11 = .ok (.goto 28, 3) := by decide +kernel
theorem dX12_spreadsOf_14 : decode cX12_spreadsOf 14 = .ok (.aload_n 0, 1) := by decide +kernel
theorem dX12_spreadsOf_15 : decode cX12_spreadsOf 15 = .ok (.getfield 13, 3) := by decide +kernel
theorem dX12_spreadsOf_18 : decode cX12_spreadsOf 18 = .ok (.iload_n 1, 1) := by decide +kernel
theorem dX12_spreadsOf_19 : decode cX12_spreadsOf 19 = .ok (.iaload, 1) := by decide +kernel
theorem dX12_spreadsOf_20 : decode cX12_spreadsOf 20 = .ok (.iconst 4, 1) := by decide +kernel
theorem dX12_spreadsOf_21 : decode cX12_spreadsOf 21 = .ok (.if_icmp .eq 13, 3) := by decide +kernel
theorem dX12_spreadsOf_24 : decode cX12_spreadsOf 24 = .ok (.aload_n 0, 1) := by decide +kernel
theorem dX12_spreadsOf_25 : decode cX12_spreadsOf 25 = .ok (.getfield 13, 3) := by decide +kernel
theorem dX12_spreadsOf_28 : decode cX12_spreadsOf 28 = .ok (.iload_n 1, 1) := by decide +kernel
theorem dX12_spreadsOf_29 : decode cX12_spreadsOf 29 = .ok (.iaload, 1) := by decide +kernel
theorem dX12_spreadsOf_30 : decode cX12_spreadsOf 30 = .ok (.iconst 5, 1) := by decide +kernel
theorem dX12_spreadsOf_31 : decode cX12_spreadsOf 31 = .ok (.if_icmp .ne 7, 3) := by decide +kernel
theorem dX12_spreadsOf_34 : decode cX12_spreadsOf 34 = .ok (.iconst 2, 1) := by decide +kernel
theorem dX12_spreadsOf_35 : decode cX12_spreadsOf 35 = .ok (.goto 4, 3) := by decide +kernel
theorem dX12_spreadsOf_38 : decode cX12_spreadsOf 38 = .ok (.iconst 0, 1) := by decide +kernel
theorem dX12_spreadsOf_39 : decode cX12_spreadsOf 39 = .ok (.ireturn, 1) := by decide +kernel
theorem dX12_strideOf_0 : decode cX12_strideOf 0 = .ok (.aload_n 0, 1) := by decide +kernel
theorem dX12_strideOf_1 : decode cX12_strideOf 1 = .ok (.getfield 13, 3) := by decide +kernel
theorem dX12_strideOf_4 : decode cX12_strideOf 4 = .ok (.iload_n 1, 1) := by decide +kernel
theorem dX12_strideOf_5 : decode cX12_strideOf 5 = .ok (.iaload, 1) := by decide +kernel
theorem dX12_strideOf_6 : decode cX12_strideOf 6 = .ok (.tableswitch 59 1 7 #[42, 59, 44, 44, 42, 46, 48], 42) := by decide +kernel
theorem dX12_strideOf_48 : decode cX12_strideOf 48 = .ok (.iconst 1, 1) := by decide +kernel
theorem dX12_strideOf_49 : decode cX12_strideOf 49 = .ok (.ireturn, 1) := by decide +kernel
theorem dX12_strideOf_50 : decode cX12_strideOf 50 = .ok (.iconst 0, 1) := by decide +kernel
theorem dX12_strideOf_51 : decode cX12_strideOf 51 = .ok (.ireturn, 1) := by decide +kernel
theorem dX12_strideOf_52 : decode cX12_strideOf 52 = .ok (.iconst 3, 1) := by decide +kernel
theorem dX12_strideOf_53 : decode cX12_strideOf 53 = .ok (.ireturn, 1) := by decide +kernel
theorem dX12_strideOf_54 : decode cX12_strideOf 54 = .ok (.iconst 3, 1) := by decide +kernel
theorem dX12_strideOf_55 : decode cX12_strideOf 55 = .ok (.aload_n 0, 1) := by decide +kernel
theorem dX12_strideOf_56 : decode cX12_strideOf 56 = .ok (.getfield 16, 3) := by decide +kernel
theorem dX12_strideOf_59 : decode cX12_strideOf 59 = .ok (.iload_n 1, 1) := by decide +kernel
theorem dX12_strideOf_60 : decode cX12_strideOf 60 = .ok (.iaload, 1) := by decide +kernel
theorem dX12_strideOf_61 : decode cX12_strideOf 61 = .ok (.iconst 3, 1) := by decide +kernel
theorem dX12_strideOf_62 : decode cX12_strideOf 62 = .ok (.idiv, 1) := by decide +kernel
theorem dX12_strideOf_63 : decode cX12_strideOf 63 = .ok (.iadd, 1) := by decide +kernel
theorem dX12_strideOf_64 : decode cX12_strideOf 64 = .ok (.ireturn, 1) := by decide +kernel
theorem dX12_strideOf_65 : decode cX12_strideOf 65 = .ok (.iconst 2, 1) := by decide +kernel
theorem dX12_strideOf_66 : decode cX12_strideOf 66 = .ok (.ireturn, 1) := by decide +kernel
theorem dX12_showsOf_0 : decode cX12_showsOf 0 = .ok (.aload_n 0, 1) := by decide +kernel
theorem dX12_showsOf_1 : decode cX12_showsOf 1 = .ok (.getfield 19, 3) := by decide +kernel
theorem dX12_showsOf_4 : decode cX12_showsOf 4 = .ok (.iload_n 1, 1) := by decide +kernel
theorem dX12_showsOf_5 : decode cX12_showsOf 5 = .ok (.iaload, 1) := by decide +kernel
theorem dX12_showsOf_6 : decode cX12_showsOf 6 = .ok (.aload_n 0, 1) := by decide +kernel
theorem dX12_showsOf_7 : decode cX12_showsOf 7 = .ok (.getfield 16, 3) := by decide +kernel
theorem dX12_showsOf_10 : decode cX12_showsOf 10 = .ok (.iload_n 1, 1) := by decide +kernel
theorem dX12_showsOf_11 : decode cX12_showsOf 11 = .ok (.iaload, 1) := by decide +kernel
theorem dX12_showsOf_12 : decode cX12_showsOf 12 = .ok (.isub, 1) := by decide +kernel
theorem dX12_showsOf_13 : decode cX12_showsOf 13 = .ok (.bipush 10, 2) := by decide +kernel
theorem dX12_showsOf_15 : decode cX12_showsOf 15 = .ok (.isub, 1) := by decide +kernel
theorem dX12_showsOf_16 : decode cX12_showsOf 16 = .ok (.invokestatic 87, 3) := by decide +kernel
theorem dX12_showsOf_19 : decode cX12_showsOf 19 = .ok (.istore_n 2, 1) := by decide +kernel
theorem dX12_showsOf_20 : decode cX12_showsOf 20 = .ok (.aload_n 0, 1) := by decide +kernel
theorem dX12_showsOf_21 : decode cX12_showsOf 21 = .ok (.getfield 13, 3) := by decide +kernel
theorem dX12_showsOf_24 : decode cX12_showsOf 24 = .ok (.iload_n 1, 1) := by decide +kernel
theorem dX12_showsOf_25 : decode cX12_showsOf 25 = .ok (.iaload, 1) := by decide +kernel
theorem dX12_showsOf_26 : decode cX12_showsOf 26 = .ok (.iconst 2, 1) := by decide +kernel
theorem dX12_showsOf_27 : decode cX12_showsOf 27 = .ok (.if_icmp .ne 7, 3) := by decide +kernel
theorem dX12_showsOf_30 : decode cX12_showsOf 30 = .ok (.iload_n 2, 1) := by decide +kernel
theorem dX12_showsOf_31 : decode cX12_showsOf 31 = .ok (.goto 26, 3) := by decide +kernel
theorem dX12_showsOf_34 : decode cX12_showsOf 34 = .ok (.aload_n 0, 1) := by decide +kernel
theorem dX12_showsOf_35 : decode cX12_showsOf 35 = .ok (.getfield 13, 3) := by decide +kernel
theorem dX12_showsOf_38 : decode cX12_showsOf 38 = .ok (.iload_n 1, 1) := by decide +kernel
theorem dX12_showsOf_39 : decode cX12_showsOf 39 = .ok (.iaload, 1) := by decide +kernel
theorem dX12_showsOf_40 : decode cX12_showsOf 40 = .ok (.bipush 6, 2) := by decide +kernel
theorem dX12_showsOf_42 : decode cX12_showsOf 42 = .ok (.if_icmp .ne 9, 3) := by decide +kernel
theorem dX12_showsOf_45 : decode cX12_showsOf 45 = .ok (.iload_n 2, 1) := by decide +kernel
theorem dX12_showsOf_46 : decode cX12_showsOf 46 = .ok (.iconst 2, 1) := by decide +kernel
theorem dX12_showsOf_47 : decode cX12_showsOf 47 = .ok (.idiv, 1) := by decide +kernel
theorem dX12_showsOf_48 : decode cX12_showsOf 48 = .ok (.goto 9, 3) := by decide +kernel
theorem dX12_showsOf_51 : decode cX12_showsOf 51 = .ok (.aload_n 0, 1) := by decide +kernel
theorem dX12_showsOf_52 : decode cX12_showsOf 52 = .ok (.getfield 19, 3) := by decide +kernel
theorem dX12_showsOf_55 : decode cX12_showsOf 55 = .ok (.iload_n 1, 1) := by decide +kernel
theorem dX12_showsOf_56 : decode cX12_showsOf 56 = .ok (.iaload, 1) := by decide +kernel
theorem dX12_showsOf_57 : decode cX12_showsOf 57 = .ok (.ireturn, 1) := by decide +kernel
theorem dX12_layGround_0 : decode cX12_layGround 0 = .ok (.iconst 0, 1) := by decide +kernel
theorem dX12_layGround_1 : decode cX12_layGround 1 = .ok (.istore_n 1, 1) := by decide +kernel
theorem dX12_layGround_2 : decode cX12_layGround 2 = .ok (.iload_n 1, 1) := by decide +kernel
theorem dX12_layGround_3 : decode cX12_layGround 3 = .ok (.bipush 15, 2) := by decide +kernel
theorem dX12_layGround_5 : decode cX12_layGround 5 = .ok (.if_icmp .ge 96, 3) := by decide +kernel
theorem dX12_layGround_8 : decode cX12_layGround 8 = .ok (.iconst 0, 1) := by decide +kernel
theorem dX12_layGround_9 : decode cX12_layGround 9 = .ok (.istore_n 2, 1) := by decide +kernel
theorem dX12_layGround_10 : decode cX12_layGround 10 = .ok (.iconst 0, 1) := by decide +kernel
theorem dX12_layGround_11 : decode cX12_layGround 11 = .ok (.istore_n 3, 1) := by decide +kernel
theorem dX12_layGround_12 : decode cX12_layGround 12 = .ok (.iload_n 3, 1) := by decide +kernel
theorem dX12_layGround_13 : decode cX12_layGround 13 = .ok (.aload_n 0, 1) := by decide +kernel
theorem dX12_layGround_14 : decode cX12_layGround 14 = .ok (.getfield 84, 3) := by decide +kernel
theorem dX12_layGround_17 : decode cX12_layGround 17 = .ok (.if_icmp .ge 61, 3) := by decide +kernel
theorem dX12_layGround_20 : decode cX12_layGround 20 = .ok (.aload_n 0, 1) := by decide +kernel
theorem dX12_layGround_21 : decode cX12_layGround 21 = .ok (.getfield 22, 3) := by decide +kernel
theorem dX12_layGround_24 : decode cX12_layGround 24 = .ok (.iload_n 3, 1) := by decide +kernel
theorem dX12_layGround_25 : decode cX12_layGround 25 = .ok (.iaload, 1) := by decide +kernel
theorem dX12_layGround_26 : decode cX12_layGround 26 = .ok (.iload_n 1, 1) := by decide +kernel
theorem dX12_layGround_27 : decode cX12_layGround 27 = .ok (.isub, 1) := by decide +kernel
theorem dX12_layGround_28 : decode cX12_layGround 28 = .ok (.invokestatic 91, 3) := by decide +kernel
theorem dX12_layGround_31 : decode cX12_layGround 31 = .ok (.istore 4, 2) := by decide +kernel
theorem dX12_layGround_33 : decode cX12_layGround 33 = .ok (.iload_n 2, 1) := by decide +kernel
theorem dX12_layGround_34 : decode cX12_layGround 34 = .ok (.aload_n 0, 1) := by decide +kernel
theorem dX12_layGround_35 : decode cX12_layGround 35 = .ok (.getfield 94, 3) := by decide +kernel
theorem dX12_layGround_38 : decode cX12_layGround 38 = .ok (.iload_n 3, 1) := by decide +kernel
theorem dX12_layGround_39 : decode cX12_layGround 39 = .ok (.invokestatic 97, 3) := by decide +kernel
theorem dX12_layGround_42 : decode cX12_layGround 42 = .ok (.ifCond .ne 13, 3) := by decide +kernel
theorem dX12_layGround_45 : decode cX12_layGround 45 = .ok (.iload 4, 2) := by decide +kernel
theorem dX12_layGround_47 : decode cX12_layGround 47 = .ok (.aload_n 0, 1) := by decide +kernel
theorem dX12_layGround_48 : decode cX12_layGround 48 = .ok (.iload_n 3, 1) := by decide +kernel
theorem dX12_layGround_49 : decode cX12_layGround 49 = .ok (.invokevirtual 101, 3) := by decide +kernel
theorem dX12_layGround_52 : decode cX12_layGround 52 = .ok (.if_icmp .le 7, 3) := by decide +kernel
theorem dX12_layGround_55 : decode cX12_layGround 55 = .ok (.iconst 0, 1) := by decide +kernel
theorem dX12_layGround_56 : decode cX12_layGround 56 = .ok (.goto 14, 3) := by decide +kernel
theorem dX12_layGround_59 : decode cX12_layGround 59 = .ok (.aload_n 0, 1) := by decide +kernel
theorem dX12_layGround_60 : decode cX12_layGround 60 = .ok (.iload_n 3, 1) := by decide +kernel
theorem dX12_layGround_61 : decode cX12_layGround 61 = .ok (.invokevirtual 104, 3) := by decide +kernel
theorem dX12_layGround_64 : decode cX12_layGround 64 = .ok (.iload 4, 2) := by decide +kernel
theorem dX12_layGround_66 : decode cX12_layGround 66 = .ok (.isub, 1) := by decide +kernel
theorem dX12_layGround_67 : decode cX12_layGround 67 = .ok (.invokestatic 87, 3) := by decide +kernel
theorem dX12_layGround_70 : decode cX12_layGround 70 = .ok (.iadd, 1) := by decide +kernel
theorem dX12_layGround_71 : decode cX12_layGround 71 = .ok (.istore_n 2, 1) := by decide +kernel
theorem dX12_layGround_72 : decode cX12_layGround 72 = .ok (.iinc 3 1, 3) := by decide +kernel
theorem dX12_layGround_75 : decode cX12_layGround 75 = .ok (.goto (-63), 3) := by decide +kernel
theorem dX12_layGround_78 : decode cX12_layGround 78 = .ok (.aload_n 0, 1) := by decide +kernel
theorem dX12_layGround_79 : decode cX12_layGround 79 = .ok (.getfield 47, 3) := by decide +kernel
theorem dX12_layGround_82 : decode cX12_layGround 82 = .ok (.iload_n 1, 1) := by decide +kernel
theorem dX12_layGround_83 : decode cX12_layGround 83 = .ok (.aload_n 0, 1) := by decide +kernel
theorem dX12_layGround_84 : decode cX12_layGround 84 = .ok (.getfield 7, 3) := by decide +kernel
theorem dX12_layGround_87 : decode cX12_layGround 87 = .ok (.iload_n 1, 1) := by decide +kernel
theorem dX12_layGround_88 : decode cX12_layGround 88 = .ok (.iaload, 1) := by decide +kernel
theorem dX12_layGround_89 : decode cX12_layGround 89 = .ok (.iload_n 2, 1) := by decide +kernel
theorem dX12_layGround_90 : decode cX12_layGround 90 = .ok (.isub, 1) := by decide +kernel
theorem dX12_layGround_91 : decode cX12_layGround 91 = .ok (.invokestatic 87, 3) := by decide +kernel
theorem dX12_layGround_94 : decode cX12_layGround 94 = .ok (.iastore, 1) := by decide +kernel
theorem dX12_layGround_95 : decode cX12_layGround 95 = .ok (.iinc 1 1, 3) := by decide +kernel
theorem dX12_layGround_98 : decode cX12_layGround 98 = .ok (.goto (-96), 3) := by decide +kernel
theorem dX12_layGround_101 : decode cX12_layGround 101 = .ok (.return_, 1) := by decide +kernel
theorem dX12_allWater_0 : decode cX12_allWater 0 = .ok (.aload_n 0, 1) := by decide +kernel
theorem dX12_allWater_1 : decode cX12_allWater 1 = .ok (.invokevirtual 107, 3) := by decide +kernel
theorem dX12_allWater_4 : decode cX12_allWater 4 = .ok (.iconst 0, 1) := by decide +kernel
theorem dX12_allWater_5 : decode cX12_allWater 5 = .ok (.istore_n 1, 1) := by decide +kernel
theorem dX12_allWater_6 : decode cX12_allWater 6 = .ok (.iconst 0, 1) := by decide +kernel
theorem dX12_allWater_7 : decode cX12_allWater 7 = .ok (.istore_n 2, 1) := by decide +kernel
theorem dX12_allWater_8 : decode cX12_allWater 8 = .ok (.iload_n 2, 1) := by decide +kernel
theorem dX12_allWater_9 : decode cX12_allWater 9 = .ok (.bipush 15, 2) := by decide +kernel
theorem dX12_allWater_11 : decode cX12_allWater 11 = .ok (.if_icmp .ge 146, 3) := by decide +kernel
theorem dX12_allWater_14 : decode cX12_allWater 14 = .ok (.iconst 0, 1) := by decide +kernel
theorem dX12_allWater_15 : decode cX12_allWater 15 = .ok (.istore_n 3, 1) := by decide +kernel
theorem dX12_allWater_16 : decode cX12_allWater 16 = .ok (.iconst 0, 1) := by decide +kernel
theorem dX12_allWater_17 : decode cX12_allWater 17 = .ok (.istore 4, 2) := by decide +kernel
theorem dX12_allWater_19 : decode cX12_allWater 19 = .ok (.iconst 0, 1) := by decide +kernel
theorem dX12_allWater_20 : decode cX12_allWater 20 = .ok (.istore 5, 2) := by decide +kernel
theorem dX12_allWater_22 : decode cX12_allWater 22 = .ok (.iload 5, 2) := by decide +kernel
theorem dX12_allWater_24 : decode cX12_allWater 24 = .ok (.bipush 15, 2) := by decide +kernel
theorem dX12_allWater_26 : decode cX12_allWater 26 = .ok (.if_icmp .ge 70, 3) := by decide +kernel
theorem dX12_allWater_29 : decode cX12_allWater 29 = .ok (.iload 5, 2) := by decide +kernel
theorem dX12_allWater_31 : decode cX12_allWater 31 = .ok (.iload_n 2, 1) := by decide +kernel
theorem dX12_allWater_32 : decode cX12_allWater 32 = .ok (.if_icmp .ge 24, 3) := by decide +kernel
theorem dX12_allWater_35 : decode cX12_allWater 35 = .ok (.aload_n 0, 1) := by decide +kernel
theorem dX12_allWater_36 : decode cX12_allWater 36 = .ok (.getfield 47, 3) := by decide +kernel
theorem dX12_allWater_39 : decode cX12_allWater 39 = .ok (.iload 5, 2) := by decide +kernel
theorem dX12_allWater_41 : decode cX12_allWater 41 = .ok (.iaload, 1) := by decide +kernel
theorem dX12_allWater_42 : decode cX12_allWater 42 = .ok (.iload_n 3, 1) := by decide +kernel
theorem dX12_allWater_43 : decode cX12_allWater 43 = .ok (.if_icmp .le 13, 3) := by decide +kernel
theorem dX12_allWater_46 : decode cX12_allWater 46 = .ok (.aload_n 0, 1) := by decide +kernel
theorem dX12_allWater_47 : decode cX12_allWater 47 = .ok (.getfield 47, 3) := by decide +kernel
theorem dX12_allWater_50 : decode cX12_allWater 50 = .ok (.iload 5, 2) := by decide +kernel
theorem dX12_allWater_52 : decode cX12_allWater 52 = .ok (.iaload, 1) := by decide +kernel
theorem dX12_allWater_53 : decode cX12_allWater 53 = .ok (.goto 4, 3) := by decide +kernel
theorem dX12_allWater_56 : decode cX12_allWater 56 = .ok (.iload_n 3, 1) := by decide +kernel
theorem dX12_allWater_57 : decode cX12_allWater 57 = .ok (.istore_n 3, 1) := by decide +kernel
theorem dX12_allWater_58 : decode cX12_allWater 58 = .ok (.iload 5, 2) := by decide +kernel
theorem dX12_allWater_60 : decode cX12_allWater 60 = .ok (.iload_n 2, 1) := by decide +kernel
theorem dX12_allWater_61 : decode cX12_allWater 61 = .ok (.if_icmp .le 25, 3) := by decide +kernel
theorem dX12_allWater_64 : decode cX12_allWater 64 = .ok (.aload_n 0, 1) := by decide +kernel
theorem dX12_allWater_65 : decode cX12_allWater 65 = .ok (.getfield 47, 3) := by decide +kernel
theorem dX12_allWater_68 : decode cX12_allWater 68 = .ok (.iload 5, 2) := by decide +kernel
theorem dX12_allWater_70 : decode cX12_allWater 70 = .ok (.iaload, 1) := by decide +kernel
theorem dX12_allWater_71 : decode cX12_allWater 71 = .ok (.iload 4, 2) := by decide +kernel
theorem dX12_allWater_73 : decode cX12_allWater 73 = .ok (.if_icmp .le 13, 3) := by decide +kernel
theorem dX12_allWater_76 : decode cX12_allWater 76 = .ok (.aload_n 0, 1) := by decide +kernel
theorem dX12_allWater_77 : decode cX12_allWater 77 = .ok (.getfield 47, 3) := by decide +kernel
theorem dX12_allWater_80 : decode cX12_allWater 80 = .ok (.iload 5, 2) := by decide +kernel
theorem dX12_allWater_82 : decode cX12_allWater 82 = .ok (.iaload, 1) := by decide +kernel
theorem dX12_allWater_83 : decode cX12_allWater 83 = .ok (.goto 5, 3) := by decide +kernel
theorem dX12_allWater_86 : decode cX12_allWater 86 = .ok (.iload 4, 2) := by decide +kernel
theorem dX12_allWater_88 : decode cX12_allWater 88 = .ok (.istore 4, 2) := by decide +kernel
theorem dX12_allWater_90 : decode cX12_allWater 90 = .ok (.iinc 5 1, 3) := by decide +kernel
theorem dX12_allWater_93 : decode cX12_allWater 93 = .ok (.goto (-71), 3) := by decide +kernel
theorem dX12_allWater_96 : decode cX12_allWater 96 = .ok (.iload_n 3, 1) := by decide +kernel
theorem dX12_allWater_97 : decode cX12_allWater 97 = .ok (.iload 4, 2) := by decide +kernel
theorem dX12_allWater_99 : decode cX12_allWater 99 = .ok (.if_icmp .ge 7, 3) := by decide +kernel
theorem dX12_allWater_102 : decode cX12_allWater 102 = .ok (.iload_n 3, 1) := by decide +kernel
theorem dX12_allWater_103 : decode cX12_allWater 103 = .ok (.goto 5, 3) := by decide +kernel
theorem dX12_allWater_106 : decode cX12_allWater 106 = .ok (.iload 4, 2) := by decide +kernel
theorem dX12_allWater_108 : decode cX12_allWater 108 = .ok (.istore 5, 2) := by decide +kernel
theorem dX12_allWater_110 : decode cX12_allWater 110 = .ok (.aload_n 0, 1) := by decide +kernel
theorem dX12_allWater_111 : decode cX12_allWater 111 = .ok (.getfield 50, 3) := by decide +kernel
theorem dX12_allWater_114 : decode cX12_allWater 114 = .ok (.iload_n 2, 1) := by decide +kernel
theorem dX12_allWater_115 : decode cX12_allWater 115 = .ok (.iload_n 2, 1) := by decide +kernel
theorem dX12_allWater_116 : decode cX12_allWater 116 = .ok (.ifCond .eq 9, 3) := by decide +kernel
theorem dX12_allWater_119 : decode cX12_allWater 119 = .ok (.iload_n 2, 1) := by decide +kernel
theorem dX12_allWater_120 : decode cX12_allWater 120 = .ok (.bipush 14, 2) := by decide +kernel
theorem dX12_allWater_122 : decode cX12_allWater 122 = .ok (.if_icmp .ne 7, 3) := by decide +kernel
theorem dX12_allWater_125 : decode cX12_allWater 125 = .ok (.iconst 0, 1) := by decide +kernel
theorem dX12_allWater_126 : decode cX12_allWater 126 = .ok (.goto 15, 3) := by decide +kernel
theorem dX12_allWater_129 : decode cX12_allWater 129 = .ok (.iload 5, 2) := by decide +kernel
theorem dX12_allWater_131 : decode cX12_allWater 131 = .ok (.aload_n 0, 1) := by decide +kernel
theorem dX12_allWater_132 : decode cX12_allWater 132 = .ok (.getfield 47, 3) := by decide +kernel
theorem dX12_allWater_135 : decode cX12_allWater 135 = .ok (.iload_n 2, 1) := by decide +kernel
theorem dX12_allWater_136 : decode cX12_allWater 136 = .ok (.iaload, 1) := by decide +kernel
theorem dX12_allWater_137 : decode cX12_allWater 137 = .ok (.isub, 1) := by decide +kernel
theorem dX12_allWater_138 : decode cX12_allWater 138 = .ok (.invokestatic 87, 3) := by decide +kernel
theorem dX12_allWater_141 : decode cX12_allWater 141 = .ok (.iastore, 1) := by decide +kernel
theorem dX12_allWater_142 : decode cX12_allWater 142 = .ok (.iload_n 1, 1) := by decide +kernel
theorem dX12_allWater_143 : decode cX12_allWater 143 = .ok (.aload_n 0, 1) := by decide +kernel
theorem dX12_allWater_144 : decode cX12_allWater 144 = .ok (.getfield 50, 3) := by decide +kernel
theorem dX12_allWater_147 : decode cX12_allWater 147 = .ok (.iload_n 2, 1) := by decide +kernel
theorem dX12_allWater_148 : decode cX12_allWater 148 = .ok (.iaload, 1) := by decide +kernel
theorem dX12_allWater_149 : decode cX12_allWater 149 = .ok (.iadd, 1) := by decide +kernel
theorem dX12_allWater_150 : decode cX12_allWater 150 = .ok (.istore_n 1, 1) := by decide +kernel
theorem dX12_allWater_151 : decode cX12_allWater 151 = .ok (.iinc 2 1, 3) := by decide +kernel
theorem dX12_allWater_154 : decode cX12_allWater 154 = .ok (.goto (-146), 3) := by decide +kernel
theorem dX12_allWater_157 : decode cX12_allWater 157 = .ok (.iload_n 1, 1) := by decide +kernel
theorem dX12_allWater_158 : decode cX12_allWater 158 = .ok (.ireturn, 1) := by decide +kernel
theorem dX12_groundAt_0 : decode cX12_groundAt 0 = .ok (.aload_n 0, 1) := by decide +kernel
theorem dX12_groundAt_1 : decode cX12_groundAt 1 = .ok (.invokevirtual 107, 3) := by decide +kernel
theorem dX12_groundAt_4 : decode cX12_groundAt 4 = .ok (.aload_n 0, 1) := by decide +kernel
theorem dX12_groundAt_5 : decode cX12_groundAt 5 = .ok (.getfield 47, 3) := by decide +kernel
theorem dX12_groundAt_8 : decode cX12_groundAt 8 = .ok (.iload_n 1, 1) := by decide +kernel
theorem dX12_groundAt_9 : decode cX12_groundAt 9 = .ok (.iaload, 1) := by decide +kernel
theorem dX12_groundAt_10 : decode cX12_groundAt 10 = .ok (.ireturn, 1) := by decide +kernel
theorem dX12_riseAt_0 : decode cX12_riseAt 0 = .ok (.aload_n 0, 1) := by decide +kernel
theorem dX12_riseAt_1 : decode cX12_riseAt 1 = .ok (.getfield 47, 3) := by decide +kernel
theorem dX12_riseAt_4 : decode cX12_riseAt 4 = .ok (.iload_n 1, 1) := by decide +kernel
theorem dX12_riseAt_5 : decode cX12_riseAt 5 = .ok (.iconst 1, 1) := by decide +kernel
theorem dX12_riseAt_6 : decode cX12_riseAt 6 = .ok (.iadd, 1) := by decide +kernel
theorem dX12_riseAt_7 : decode cX12_riseAt 7 = .ok (.iaload, 1) := by decide +kernel
theorem dX12_riseAt_8 : decode cX12_riseAt 8 = .ok (.aload_n 0, 1) := by decide +kernel
theorem dX12_riseAt_9 : decode cX12_riseAt 9 = .ok (.getfield 47, 3) := by decide +kernel
theorem dX12_riseAt_12 : decode cX12_riseAt 12 = .ok (.iload_n 1, 1) := by decide +kernel
theorem dX12_riseAt_13 : decode cX12_riseAt 13 = .ok (.iaload, 1) := by decide +kernel
theorem dX12_riseAt_14 : decode cX12_riseAt 14 = .ok (.isub, 1) := by decide +kernel
theorem dX12_riseAt_15 : decode cX12_riseAt 15 = .ok (.ireturn, 1) := by decide +kernel
theorem dX12_greatestRise_0 : decode cX12_greatestRise 0 = .ok (.aload_n 0, 1) := by decide +kernel
theorem dX12_greatestRise_1 : decode cX12_greatestRise 1 = .ok (.invokevirtual 107, 3) := by decide +kernel
theorem dX12_greatestRise_4 : decode cX12_greatestRise 4 = .ok (.iconst 0, 1) := by decide +kernel
theorem dX12_greatestRise_5 : decode cX12_greatestRise 5 = .ok (.istore_n 1, 1) := by decide +kernel
theorem dX12_greatestRise_6 : decode cX12_greatestRise 6 = .ok (.iconst 0, 1) := by decide +kernel
theorem dX12_greatestRise_7 : decode cX12_greatestRise 7 = .ok (.istore_n 2, 1) := by decide +kernel
theorem dX12_greatestRise_8 : decode cX12_greatestRise 8 = .ok (.iload_n 2, 1) := by decide +kernel
theorem dX12_greatestRise_9 : decode cX12_greatestRise 9 = .ok (.bipush 14, 2) := by decide +kernel
theorem dX12_greatestRise_11 : decode cX12_greatestRise 11 = .ok (.if_icmp .ge 34, 3) := by decide +kernel
theorem dX12_greatestRise_14 : decode cX12_greatestRise 14 = .ok (.aload_n 0, 1) := by decide +kernel
theorem dX12_greatestRise_15 : decode cX12_greatestRise 15 = .ok (.iload_n 2, 1) := by decide +kernel
theorem dX12_greatestRise_16 : decode cX12_greatestRise 16 = .ok (.invokevirtual 110, 3) := by decide +kernel
theorem dX12_greatestRise_19 : decode cX12_greatestRise 19 = .ok (.invokestatic 91, 3) := by decide +kernel
theorem dX12_greatestRise_22 : decode cX12_greatestRise 22 = .ok (.iload_n 1, 1) := by decide +kernel
theorem dX12_greatestRise_23 : decode cX12_greatestRise 23 = .ok (.if_icmp .le 14, 3) := by decide +kernel
theorem dX12_greatestRise_26 : decode cX12_greatestRise 26 = .ok (.aload_n 0, 1) := by decide +kernel
theorem dX12_greatestRise_27 : decode cX12_greatestRise 27 = .ok (.iload_n 2, 1) := by decide +kernel
theorem dX12_greatestRise_28 : decode cX12_greatestRise 28 = .ok (.invokevirtual 110, 3) := by decide +kernel
theorem dX12_greatestRise_31 : decode cX12_greatestRise 31 = .ok (.invokestatic 91, 3) := by decide +kernel
theorem dX12_greatestRise_34 : decode cX12_greatestRise 34 = .ok (.goto 4, 3) := by decide +kernel
theorem dX12_greatestRise_37 : decode cX12_greatestRise 37 = .ok (.iload_n 1, 1) := by decide +kernel
theorem dX12_greatestRise_38 : decode cX12_greatestRise 38 = .ok (.istore_n 1, 1) := by decide +kernel
theorem dX12_greatestRise_39 : decode cX12_greatestRise 39 = .ok (.iinc 2 1, 3) := by decide +kernel
theorem dX12_greatestRise_42 : decode cX12_greatestRise 42 = .ok (.goto (-34), 3) := by decide +kernel
theorem dX12_greatestRise_45 : decode cX12_greatestRise 45 = .ok (.iload_n 1, 1) := by decide +kernel
theorem dX12_greatestRise_46 : decode cX12_greatestRise 46 = .ok (.ireturn, 1) := by decide +kernel
theorem dX12_couldGo_0 : decode cX12_couldGo 0 = .ok (.aload_n 0, 1) := by decide +kernel
theorem dX12_couldGo_1 : decode cX12_couldGo 1 = .ok (.getfield 22, 3) := by decide +kernel
theorem dX12_couldGo_4 : decode cX12_couldGo 4 = .ok (.iload_n 1, 1) := by decide +kernel
theorem dX12_couldGo_5 : decode cX12_couldGo 5 = .ok (.iaload, 1) := by decide +kernel
theorem dX12_couldGo_6 : decode cX12_couldGo 6 = .ok (.iload_n 2, 1) := by decide +kernel
theorem dX12_couldGo_7 : decode cX12_couldGo 7 = .ok (.iadd, 1) := by decide +kernel
theorem dX12_couldGo_8 : decode cX12_couldGo 8 = .ok (.istore_n 3, 1) := by decide +kernel
theorem dX12_couldGo_9 : decode cX12_couldGo 9 = .ok (.aload_n 0, 1) := by decide +kernel
theorem dX12_couldGo_10 : decode cX12_couldGo 10 = .ok (.invokevirtual 107, 3) := by decide +kernel
theorem dX12_couldGo_13 : decode cX12_couldGo 13 = .ok (.iload_n 3, 1) := by decide +kernel
theorem dX12_couldGo_14 : decode cX12_couldGo 14 = .ok (.invokestatic 113, 3) := by decide +kernel
theorem dX12_couldGo_17 : decode cX12_couldGo 17 = .ok (.ifCond .eq 33, 3) := by decide +kernel
theorem dX12_couldGo_20 : decode cX12_couldGo 20 = .ok (.aload_n 0, 1) := by decide +kernel
theorem dX12_couldGo_21 : decode cX12_couldGo 21 = .ok (.getfield 47, 3) := by decide +kernel
theorem dX12_couldGo_24 : decode cX12_couldGo 24 = .ok (.iload_n 3, 1) := by decide +kernel
theorem dX12_couldGo_25 : decode cX12_couldGo 25 = .ok (.iaload, 1) := by decide +kernel
theorem dX12_couldGo_26 : decode cX12_couldGo 26 = .ok (.aload_n 0, 1) := by decide +kernel
theorem dX12_couldGo_27 : decode cX12_couldGo 27 = .ok (.getfield 47, 3) := by decide +kernel
theorem dX12_couldGo_30 : decode cX12_couldGo 30 = .ok (.aload_n 0, 1) := by decide +kernel
theorem dX12_couldGo_31 : decode cX12_couldGo 31 = .ok (.getfield 22, 3) := by decide +kernel
theorem dX12_couldGo_34 : decode cX12_couldGo 34 = .ok (.iload_n 1, 1) := by decide +kernel
theorem dX12_couldGo_35 : decode cX12_couldGo 35 = .ok (.iaload, 1) := by decide +kernel
theorem dX12_couldGo_36 : decode cX12_couldGo 36 = .ok (.iaload, 1) := by decide +kernel
theorem dX12_couldGo_37 : decode cX12_couldGo 37 = .ok (.aload_n 0, 1) := by decide +kernel
theorem dX12_couldGo_38 : decode cX12_couldGo 38 = .ok (.iload_n 1, 1) := by decide +kernel
theorem dX12_couldGo_39 : decode cX12_couldGo 39 = .ok (.invokevirtual 117, 3) := by decide +kernel
theorem dX12_couldGo_42 : decode cX12_couldGo 42 = .ok (.iadd, 1) := by decide +kernel
theorem dX12_couldGo_43 : decode cX12_couldGo 43 = .ok (.if_icmp .gt 7, 3) := by decide +kernel
theorem dX12_couldGo_46 : decode cX12_couldGo 46 = .ok (.iconst 1, 1) := by decide +kernel
theorem dX12_couldGo_47 : decode cX12_couldGo 47 = .ok (.goto 4, 3) := by decide +kernel
theorem dX12_couldGo_50 : decode cX12_couldGo 50 = .ok (.iconst 0, 1) := by decide +kernel
theorem dX12_couldGo_51 : decode cX12_couldGo 51 = .ok (.ireturn, 1) := by decide +kernel
theorem dX12_goesNext_0 : decode cX12_goesNext 0 = .ok (.aload_n 0, 1) := by decide +kernel
theorem dX12_goesNext_1 : decode cX12_goesNext 1 = .ok (.getfield 25, 3) := by decide +kernel
theorem dX12_goesNext_4 : decode cX12_goesNext 4 = .ok (.iload_n 1, 1) := by decide +kernel
theorem dX12_goesNext_5 : decode cX12_goesNext 5 = .ok (.iaload, 1) := by decide +kernel
theorem dX12_goesNext_6 : decode cX12_goesNext 6 = .ok (.ifCond .eq 21, 3) := by decide +kernel
theorem dX12_goesNext_9 : decode cX12_goesNext 9 = .ok (.aload_n 0, 1) := by decide +kernel
theorem dX12_goesNext_10 : decode cX12_goesNext 10 = .ok (.iload_n 1, 1) := by decide +kernel
theorem dX12_goesNext_11 : decode cX12_goesNext 11 = .ok (.aload_n 0, 1) := by decide +kernel
theorem dX12_goesNext_12 : decode cX12_goesNext 12 = .ok (.getfield 25, 3) := by decide +kernel
theorem dX12_goesNext_15 : decode cX12_goesNext 15 = .ok (.iload_n 1, 1) := by decide +kernel
theorem dX12_goesNext_16 : decode cX12_goesNext 16 = .ok (.iaload, 1) := by decide +kernel
theorem dX12_goesNext_17 : decode cX12_goesNext 17 = .ok (.invokevirtual 120, 3) := by decide +kernel
theorem dX12_goesNext_20 : decode cX12_goesNext 20 = .ok (.ifCond .eq 7, 3) := by decide +kernel
theorem dX12_goesNext_23 : decode cX12_goesNext 23 = .ok (.iconst 1, 1) := by decide +kernel
theorem dX12_goesNext_24 : decode cX12_goesNext 24 = .ok (.goto 4, 3) := by decide +kernel
theorem dX12_goesNext_27 : decode cX12_goesNext 27 = .ok (.iconst 0, 1) := by decide +kernel
theorem dX12_goesNext_28 : decode cX12_goesNext 28 = .ok (.ireturn, 1) := by decide +kernel
theorem dX12_dayBy_0 : decode cX12_dayBy 0 = .ok (.aload_n 0, 1) := by decide +kernel
theorem dX12_dayBy_1 : decode cX12_dayBy 1 = .ok (.dup, 1) := by decide +kernel
theorem dX12_dayBy_2 : decode cX12_dayBy 2 = .ok (.getfield 123, 3) := by decide +kernel
theorem dX12_dayBy_5 : decode cX12_dayBy 5 = .ok (.iconst 1, 1) := by decide +kernel
theorem dX12_dayBy_6 : decode cX12_dayBy 6 = .ok (.iadd, 1) := by decide +kernel
theorem dX12_dayBy_7 : decode cX12_dayBy 7 = .ok (.putfield 123, 3) := by decide +kernel
theorem dX12_dayBy_10 : decode cX12_dayBy 10 = .ok (.iconst 0, 1) := by decide +kernel
theorem dX12_dayBy_11 : decode cX12_dayBy 11 = .ok (.istore_n 2, 1) := by decide +kernel
theorem dX12_dayBy_12 : decode cX12_dayBy 12 = .ok (.iload_n 2, 1) := by decide +kernel
theorem dX12_dayBy_13 : decode cX12_dayBy 13 = .ok (.aload_n 0, 1) := by decide +kernel
theorem dX12_dayBy_14 : decode cX12_dayBy 14 = .ok (.getfield 84, 3) := by decide +kernel
theorem dX12_dayBy_17 : decode cX12_dayBy 17 = .ok (.if_icmp .ge 65, 3) := by decide +kernel
theorem dX12_dayBy_20 : decode cX12_dayBy 20 = .ok (.iload_n 1, 1) := by decide +kernel
theorem dX12_dayBy_21 : decode cX12_dayBy 21 = .ok (.ifCond .ne 61, 3) := by decide +kernel
theorem dX12_dayBy_24 : decode cX12_dayBy 24 = .ok (.aload_n 0, 1) := by decide +kernel
theorem dX12_dayBy_25 : decode cX12_dayBy 25 = .ok (.iload_n 2, 1) := by decide +kernel
theorem dX12_dayBy_26 : decode cX12_dayBy 26 = .ok (.invokevirtual 126, 3) := by decide +kernel
theorem dX12_dayBy_29 : decode cX12_dayBy 29 = .ok (.ifCond .eq 21, 3) := by decide +kernel
theorem dX12_dayBy_32 : decode cX12_dayBy 32 = .ok (.aload_n 0, 1) := by decide +kernel
theorem dX12_dayBy_33 : decode cX12_dayBy 33 = .ok (.getfield 22, 3) := by decide +kernel
theorem dX12_dayBy_36 : decode cX12_dayBy 36 = .ok (.iload_n 2, 1) := by decide +kernel
theorem dX12_dayBy_37 : decode cX12_dayBy 37 = .ok (.dup2, 1) := by decide +kernel
theorem dX12_dayBy_38 : decode cX12_dayBy 38 = .ok (.iaload, 1) := by decide +kernel
theorem dX12_dayBy_39 : decode cX12_dayBy 39 = .ok (.aload_n 0, 1) := by decide +kernel
theorem dX12_dayBy_40 : decode cX12_dayBy 40 = .ok (.getfield 25, 3) := by decide +kernel
theorem dX12_dayBy_43 : decode cX12_dayBy 43 = .ok (.iload_n 2, 1) := by decide +kernel
theorem dX12_dayBy_44 : decode cX12_dayBy 44 = .ok (.iaload, 1) := by decide +kernel
theorem dX12_dayBy_45 : decode cX12_dayBy 45 = .ok (.iadd, 1) := by decide +kernel
theorem dX12_dayBy_46 : decode cX12_dayBy 46 = .ok (.iastore, 1) := by decide +kernel
theorem dX12_dayBy_47 : decode cX12_dayBy 47 = .ok (.goto 29, 3) := by decide +kernel
theorem dX12_dayBy_50 : decode cX12_dayBy 50 = .ok (.aload_n 0, 1) := by decide +kernel
theorem dX12_dayBy_51 : decode cX12_dayBy 51 = .ok (.getfield 22, 3) := by decide +kernel
theorem dX12_dayBy_54 : decode cX12_dayBy 54 = .ok (.iload_n 2, 1) := by decide +kernel
theorem dX12_dayBy_55 : decode cX12_dayBy 55 = .ok (.iaload, 1) := by decide +kernel
theorem dX12_dayBy_56 : decode cX12_dayBy 56 = .ok (.aload_n 0, 1) := by decide +kernel
theorem dX12_dayBy_57 : decode cX12_dayBy 57 = .ok (.getfield 25, 3) := by decide +kernel
theorem dX12_dayBy_60 : decode cX12_dayBy 60 = .ok (.iload_n 2, 1) := by decide +kernel
theorem dX12_dayBy_61 : decode cX12_dayBy 61 = .ok (.iaload, 1) := by decide +kernel
theorem dX12_dayBy_62 : decode cX12_dayBy 62 = .ok (.iadd, 1) := by decide +kernel
theorem dX12_dayBy_63 : decode cX12_dayBy 63 = .ok (.invokestatic 113, 3) := by decide +kernel
theorem dX12_dayBy_66 : decode cX12_dayBy 66 = .ok (.ifCond .ne 10, 3) := by decide +kernel
theorem dX12_dayBy_69 : decode cX12_dayBy 69 = .ok (.aload_n 0, 1) := by decide +kernel
theorem dX12_dayBy_70 : decode cX12_dayBy 70 = .ok (.getfield 25, 3) := by decide +kernel
theorem dX12_dayBy_73 : decode cX12_dayBy 73 = .ok (.iload_n 2, 1) := by decide +kernel
theorem dX12_dayBy_74 : decode cX12_dayBy 74 = .ok (.iconst 0, 1) := by decide +kernel
theorem dX12_dayBy_75 : decode cX12_dayBy 75 = .ok (.iastore, 1) := by decide +kernel
theorem dX12_dayBy_76 : decode cX12_dayBy 76 = .ok (.iinc 2 1, 3) := by decide +kernel
theorem dX12_dayBy_79 : decode cX12_dayBy 79 = .ok (.goto (-67), 3) := by decide +kernel
theorem dX12_dayBy_82 : decode cX12_dayBy 82 = .ok (.return_, 1) := by decide +kernel
theorem dX12_goDays_0 : decode cX12_goDays 0 = .ok (.iconst 0, 1) := by decide +kernel
theorem dX12_goDays_1 : decode cX12_goDays 1 = .ok (.istore_n 2, 1) := by decide +kernel
theorem dX12_goDays_2 : decode cX12_goDays 2 = .ok (.iload_n 2, 1) := by decide +kernel
theorem dX12_goDays_3 : decode cX12_goDays 3 = .ok (.iload_n 1, 1) := by decide +kernel
theorem dX12_goDays_4 : decode cX12_goDays 4 = .ok (.if_icmp .ge 14, 3) := by decide +kernel
theorem dX12_goDays_7 : decode cX12_goDays 7 = .ok (.aload_n 0, 1) := by decide +kernel
theorem dX12_goDays_8 : decode cX12_goDays 8 = .ok (.iconst 0, 1) := by decide +kernel
theorem dX12_goDays_9 : decode cX12_goDays 9 = .ok (.invokevirtual 129, 3) := by decide +kernel
theorem dX12_goDays_12 : decode cX12_goDays 12 = .ok (.iinc 2 1, 3) := by decide +kernel
theorem dX12_goDays_15 : decode cX12_goDays 15 = .ok (.goto (-13), 3) := by decide +kernel
theorem dX12_goDays_18 : decode cX12_goDays 18 = .ok (.return_, 1) := by decide +kernel
theorem dX12_here_0 : decode cX12_here 0 = .ok (.aload_n 0, 1) := by decide +kernel
theorem dX12_here_1 : decode cX12_here 1 = .ok (.getfield 133, 3) := by decide +kernel
theorem dX12_here_4 : decode cX12_here 4 = .ok (.aload_n 0, 1) := by decide +kernel
theorem dX12_here_5 : decode cX12_here 5 = .ok (.getfield 40, 3) := by decide +kernel
theorem dX12_here_8 : decode cX12_here 8 = .ok (.aload_n 0, 1) := by decide +kernel
theorem dX12_here_9 : decode cX12_here 9 = .ok (.getfield 136, 3) := by decide +kernel
theorem dX12_here_12 : decode cX12_here 12 = .ok (.iaload, 1) := by decide +kernel
theorem dX12_here_13 : decode cX12_here 13 = .ok (.if_icmp .ge 24, 3) := by decide +kernel
theorem dX12_here_16 : decode cX12_here 16 = .ok (.aload_n 0, 1) := by decide +kernel
theorem dX12_here_17 : decode cX12_here 17 = .ok (.getfield 43, 3) := by decide +kernel
theorem dX12_here_20 : decode cX12_here 20 = .ok (.bipush 100, 2) := by decide +kernel
theorem dX12_here_22 : decode cX12_here 22 = .ok (.aload_n 0, 1) := by decide +kernel
theorem dX12_here_23 : decode cX12_here 23 = .ok (.getfield 136, 3) := by decide +kernel
theorem dX12_here_26 : decode cX12_here 26 = .ok (.imul, 1) := by decide +kernel
theorem dX12_here_27 : decode cX12_here 27 = .ok (.aload_n 0, 1) := by decide +kernel
theorem dX12_here_28 : decode cX12_here 28 = .ok (.getfield 133, 3) := by decide +kernel
theorem dX12_here_31 : decode cX12_here 31 = .ok (.iadd, 1) := by decide +kernel
theorem dX12_here_32 : decode cX12_here 32 = .ok (.laload, 1) := by decide +kernel
theorem dX12_here_33 : decode cX12_here 33 = .ok (.l2i, 1) := by decide +kernel
theorem dX12_here_34 : decode cX12_here 34 = .ok (.goto 6, 3) := by decide +kernel
theorem dX12_here_37 : decode cX12_here 37 = .ok (.sipush (-999), 3) := by decide +kernel
theorem dX12_here_40 : decode cX12_here 40 = .ok (.ireturn, 1) := by decide +kernel
theorem dX12_readDigits_0 : decode cX12_readDigits 0 = .ok (.iconst 0, 1) := by decide +kernel
theorem dX12_readDigits_1 : decode cX12_readDigits 1 = .ok (.istore_n 2, 1) := by decide +kernel
theorem dX12_readDigits_2 : decode cX12_readDigits 2 = .ok (.iconst 0, 1) := by decide +kernel
theorem dX12_readDigits_3 : decode cX12_readDigits 3 = .ok (.istore_n 3, 1) := by decide +kernel
theorem dX12_readDigits_4 : decode cX12_readDigits 4 = .ok (.iload_n 3, 1) := by decide +kernel
theorem dX12_readDigits_5 : decode cX12_readDigits 5 = .ok (.iload_n 1, 1) := by decide +kernel
theorem dX12_readDigits_6 : decode cX12_readDigits 6 = .ok (.if_icmp .ge 87, 3) := by decide +kernel
theorem dX12_readDigits_9 : decode cX12_readDigits 9 = .ok (.aload_n 0, 1) := by decide +kernel
theorem dX12_readDigits_10 : decode cX12_readDigits 10 = .ok (.aload_n 0, 1) := by decide +kernel
theorem dX12_readDigits_11 : decode cX12_readDigits 11 = .ok (.getfield 139, 3) := by decide +kernel
theorem dX12_readDigits_14 : decode cX12_readDigits 14 = .ok (.ifCond .ne 20, 3) := by decide +kernel
theorem dX12_readDigits_17 : decode cX12_readDigits 17 = .ok (.aload_n 0, 1) := by decide +kernel
theorem dX12_readDigits_18 : decode cX12_readDigits 18 = .ok (.invokevirtual 143, 3) := by decide +kernel
theorem dX12_readDigits_21 : decode cX12_readDigits 21 = .ok (.i2l, 1) := by decide +kernel
theorem dX12_readDigits_22 : decode cX12_readDigits 22 = .ok (.ldc2_w 147, 3) := by decide +kernel
theorem dX12_readDigits_25 : decode cX12_readDigits 25 = .ok (.ldc2_w 149, 3) := by decide +kernel
theorem dX12_readDigits_28 : decode cX12_readDigits 28 = .ok (.invokestatic 80, 3) := by decide +kernel
theorem dX12_readDigits_31 : decode cX12_readDigits 31 = .ok (.ifCond .ne 7, 3) := by decide +kernel
theorem dX12_readDigits_34 : decode cX12_readDigits 34 = .ok (.iconst 1, 1) := by decide +kernel
theorem dX12_readDigits_35 : decode cX12_readDigits 35 = .ok (.goto 4, 3) := by decide +kernel
theorem dX12_readDigits_38 : decode cX12_readDigits 38 = .ok (.iconst 0, 1) := by decide +kernel
theorem dX12_readDigits_39 : decode cX12_readDigits 39 = .ok (.putfield 139, 3) := by decide +kernel
theorem dX12_readDigits_42 : decode cX12_readDigits 42 = .ok (.aload_n 0, 1) := by decide +kernel
theorem dX12_readDigits_43 : decode cX12_readDigits 43 = .ok (.getfield 139, 3) := by decide +kernel
theorem dX12_readDigits_46 : decode cX12_readDigits 46 = .ok (.ifCond .eq 7, 3) := by decide +kernel
theorem dX12_readDigits_49 : decode cX12_readDigits 49 = .ok (.iconst 0, 1) := by decide +kernel
theorem dX12_readDigits_50 : decode cX12_readDigits 50 = .ok (.goto 15, 3) := by decide +kernel
theorem dX12_readDigits_53 : decode cX12_readDigits 53 = .ok (.bipush 10, 2) := by decide +kernel
theorem dX12_readDigits_55 : decode cX12_readDigits 55 = .ok (.iload_n 2, 1) := by decide +kernel
theorem dX12_readDigits_56 : decode cX12_readDigits 56 = .ok (.imul, 1) := by decide +kernel
theorem dX12_readDigits_57 : decode cX12_readDigits 57 = .ok (.aload_n 0, 1) := by decide +kernel
theorem dX12_readDigits_58 : decode cX12_readDigits 58 = .ok (.invokevirtual 143, 3) := by decide +kernel
theorem dX12_readDigits_61 : decode cX12_readDigits 61 = .ok (.iadd, 1) := by decide +kernel
theorem dX12_readDigits_62 : decode cX12_readDigits 62 = .ok (.bipush 48, 2) := by decide +kernel
theorem dX12_readDigits_64 : decode cX12_readDigits 64 = .ok (.isub, 1) := by decide +kernel
theorem dX12_readDigits_65 : decode cX12_readDigits 65 = .ok (.istore_n 2, 1) := by decide +kernel
theorem dX12_readDigits_66 : decode cX12_readDigits 66 = .ok (.aload_n 0, 1) := by decide +kernel
theorem dX12_readDigits_67 : decode cX12_readDigits 67 = .ok (.dup, 1) := by decide +kernel
theorem dX12_readDigits_68 : decode cX12_readDigits 68 = .ok (.getfield 133, 3) := by decide +kernel
theorem dX12_readDigits_71 : decode cX12_readDigits 71 = .ok (.aload_n 0, 1) := by decide +kernel
theorem dX12_readDigits_72 : decode cX12_readDigits 72 = .ok (.getfield 139, 3) := by decide +kernel
theorem dX12_readDigits_75 : decode cX12_readDigits 75 = .ok (.ifCond .eq 7, 3) := by decide +kernel
theorem dX12_readDigits_78 : decode cX12_readDigits 78 = .ok (.iconst 0, 1) := by decide +kernel
theorem dX12_readDigits_79 : decode cX12_readDigits 79 = .ok (.goto 4, 3) := by decide +kernel
theorem dX12_readDigits_82 : decode cX12_readDigits 82 = .ok (.iconst 1, 1) := by decide +kernel
theorem dX12_readDigits_83 : decode cX12_readDigits 83 = .ok (.iadd, 1) := by decide +kernel
theorem dX12_readDigits_84 : decode cX12_readDigits 84 = .ok (.putfield 133, 3) := by decide +kernel
theorem dX12_readDigits_87 : decode cX12_readDigits 87 = .ok (.iinc 3 1, 3) := by decide +kernel
theorem dX12_readDigits_90 : decode cX12_readDigits 90 = .ok (.goto (-86), 3) := by decide +kernel
theorem dX12_readDigits_93 : decode cX12_readDigits 93 = .ok (.iload_n 2, 1) := by decide +kernel
theorem dX12_readDigits_94 : decode cX12_readDigits 94 = .ok (.ireturn, 1) := by decide +kernel
theorem dX12_isLetter_0 : decode cX12_isLetter 0 = .ok (.iload_n 0, 1) := by decide +kernel
theorem dX12_isLetter_1 : decode cX12_isLetter 1 = .ok (.bipush 103, 2) := by decide +kernel
theorem dX12_isLetter_3 : decode cX12_isLetter 3 = .ok (.if_icmp .eq 27, 3) := by decide +kernel
theorem dX12_isLetter_6 : decode cX12_isLetter 6 = .ok (.iload_n 0, 1) := by decide +kernel
theorem dX12_isLetter_7 : decode cX12_isLetter 7 = .ok (.bipush 119, 2) := by decide +kernel
theorem dX12_isLetter_9 : decode cX12_isLetter 9 = .ok (.if_icmp .eq 21, 3) := by decide +kernel
theorem dX12_isLetter_12 : decode cX12_isLetter 12 = .ok (.iload_n 0, 1) := by decide +kernel
theorem dX12_isLetter_13 : decode cX12_isLetter 13 = .ok (.bipush 109, 2) := by decide +kernel
theorem dX12_isLetter_15 : decode cX12_isLetter 15 = .ok (.if_icmp .eq 15, 3) := by decide +kernel
theorem dX12_isLetter_18 : decode cX12_isLetter 18 = .ok (.iload_n 0, 1) := by decide +kernel
theorem dX12_isLetter_19 : decode cX12_isLetter 19 = .ok (.bipush 121, 2) := by decide +kernel
theorem dX12_isLetter_21 : decode cX12_isLetter 21 = .ok (.if_icmp .eq 9, 3) := by decide +kernel
theorem dX12_isLetter_24 : decode cX12_isLetter 24 = .ok (.iload_n 0, 1) := by decide +kernel
theorem dX12_isLetter_25 : decode cX12_isLetter 25 = .ok (.bipush 100, 2) := by decide +kernel
theorem dX12_isLetter_27 : decode cX12_isLetter 27 = .ok (.if_icmp .ne 7, 3) := by decide +kernel
theorem dX12_isLetter_30 : decode cX12_isLetter 30 = .ok (.iconst 1, 1) := by decide +kernel
theorem dX12_isLetter_31 : decode cX12_isLetter 31 = .ok (.goto 4, 3) := by decide +kernel
theorem dX12_isLetter_34 : decode cX12_isLetter 34 = .ok (.iconst 0, 1) := by decide +kernel
theorem dX12_isLetter_35 : decode cX12_isLetter 35 = .ok (.ireturn, 1) := by decide +kernel
theorem dX12_readNumbers_0 : decode cX12_readNumbers 0 = .ok (.aload_n 0, 1) := by decide +kernel
theorem dX12_readNumbers_1 : decode cX12_readNumbers 1 = .ok (.getfield 59, 3) := by decide +kernel
theorem dX12_readNumbers_4 : decode cX12_readNumbers 4 = .ok (.iload_n 2, 1) := by decide +kernel
theorem dX12_readNumbers_5 : decode cX12_readNumbers 5 = .ok (.aload_n 0, 1) := by decide +kernel
theorem dX12_readNumbers_6 : decode cX12_readNumbers 6 = .ok (.iload_n 1, 1) := by decide +kernel
theorem dX12_readNumbers_7 : decode cX12_readNumbers 7 = .ok (.bipush 103, 2) := by decide +kernel
theorem dX12_readNumbers_9 : decode cX12_readNumbers 9 = .ok (.if_icmp .eq 9, 3) := by decide +kernel
theorem dX12_readNumbers_12 : decode cX12_readNumbers 12 = .ok (.iload_n 1, 1) := by decide +kernel
theorem dX12_readNumbers_13 : decode cX12_readNumbers 13 = .ok (.bipush 100, 2) := by decide +kernel
theorem dX12_readNumbers_15 : decode cX12_readNumbers 15 = .ok (.if_icmp .ne 7, 3) := by decide +kernel
theorem dX12_readNumbers_18 : decode cX12_readNumbers 18 = .ok (.iconst 2, 1) := by decide +kernel
theorem dX12_readNumbers_19 : decode cX12_readNumbers 19 = .ok (.goto 4, 3) := by decide +kernel
theorem dX12_readNumbers_22 : decode cX12_readNumbers 22 = .ok (.iconst 1, 1) := by decide +kernel
theorem dX12_readNumbers_23 : decode cX12_readNumbers 23 = .ok (.invokevirtual 151, 3) := by decide +kernel
theorem dX12_readNumbers_26 : decode cX12_readNumbers 26 = .ok (.iastore, 1) := by decide +kernel
theorem dX12_readNumbers_27 : decode cX12_readNumbers 27 = .ok (.iload_n 1, 1) := by decide +kernel
theorem dX12_readNumbers_28 : decode cX12_readNumbers 28 = .ok (.bipush 119, 2) := by decide +kernel
theorem dX12_readNumbers_30 : decode cX12_readNumbers 30 = .ok (.if_icmp .ne 45, 3) := by decide +kernel
theorem dX12_readNumbers_33 : decode cX12_readNumbers 33 = .ok (.aload_n 0, 1) := by decide +kernel
theorem dX12_readNumbers_34 : decode cX12_readNumbers 34 = .ok (.getfield 59, 3) := by decide +kernel
theorem dX12_readNumbers_37 : decode cX12_readNumbers 37 = .ok (.iload_n 2, 1) := by decide +kernel
theorem dX12_readNumbers_38 : decode cX12_readNumbers 38 = .ok (.iconst 1, 1) := by decide +kernel
theorem dX12_readNumbers_39 : decode cX12_readNumbers 39 = .ok (.iadd, 1) := by decide +kernel
theorem dX12_readNumbers_40 : decode cX12_readNumbers 40 = .ok (.aload_n 0, 1) := by decide +kernel
theorem dX12_readNumbers_41 : decode cX12_readNumbers 41 = .ok (.iconst 1, 1) := by decide +kernel
theorem dX12_readNumbers_42 : decode cX12_readNumbers 42 = .ok (.invokevirtual 151, 3) := by decide +kernel
theorem dX12_readNumbers_45 : decode cX12_readNumbers 45 = .ok (.iastore, 1) := by decide +kernel
theorem dX12_readNumbers_46 : decode cX12_readNumbers 46 = .ok (.aload_n 0, 1) := by decide +kernel
theorem dX12_readNumbers_47 : decode cX12_readNumbers 47 = .ok (.getfield 59, 3) := by decide +kernel
theorem dX12_readNumbers_50 : decode cX12_readNumbers 50 = .ok (.iload_n 2, 1) := by decide +kernel
theorem dX12_readNumbers_51 : decode cX12_readNumbers 51 = .ok (.iconst 2, 1) := by decide +kernel
theorem dX12_readNumbers_52 : decode cX12_readNumbers 52 = .ok (.iadd, 1) := by decide +kernel
theorem dX12_readNumbers_53 : decode cX12_readNumbers 53 = .ok (.aload_n 0, 1) := by decide +kernel
theorem dX12_readNumbers_54 : decode cX12_readNumbers 54 = .ok (.iconst 3, 1) := by decide +kernel
theorem dX12_readNumbers_55 : decode cX12_readNumbers 55 = .ok (.invokevirtual 151, 3) := by decide +kernel
theorem dX12_readNumbers_58 : decode cX12_readNumbers 58 = .ok (.iastore, 1) := by decide +kernel
theorem dX12_readNumbers_59 : decode cX12_readNumbers 59 = .ok (.aload_n 0, 1) := by decide +kernel
theorem dX12_readNumbers_60 : decode cX12_readNumbers 60 = .ok (.getfield 59, 3) := by decide +kernel
theorem dX12_readNumbers_63 : decode cX12_readNumbers 63 = .ok (.iload_n 2, 1) := by decide +kernel
theorem dX12_readNumbers_64 : decode cX12_readNumbers 64 = .ok (.iconst 3, 1) := by decide +kernel
theorem dX12_readNumbers_65 : decode cX12_readNumbers 65 = .ok (.iadd, 1) := by decide +kernel
theorem dX12_readNumbers_66 : decode cX12_readNumbers 66 = .ok (.aload_n 0, 1) := by decide +kernel
theorem dX12_readNumbers_67 : decode cX12_readNumbers 67 = .ok (.iconst 2, 1) := by decide +kernel
theorem dX12_readNumbers_68 : decode cX12_readNumbers 68 = .ok (.invokevirtual 151, 3) := by decide +kernel
theorem dX12_readNumbers_71 : decode cX12_readNumbers 71 = .ok (.iastore, 1) := by decide +kernel
theorem dX12_readNumbers_72 : decode cX12_readNumbers 72 = .ok (.goto 50, 3) := by decide +kernel
theorem dX12_readNumbers_75 : decode cX12_readNumbers 75 = .ok (.iload_n 1, 1) := by decide +kernel
theorem dX12_readNumbers_76 : decode cX12_readNumbers 76 = .ok (.bipush 103, 2) := by decide +kernel
theorem dX12_readNumbers_78 : decode cX12_readNumbers 78 = .ok (.if_icmp .eq 9, 3) := by decide +kernel
theorem dX12_readNumbers_81 : decode cX12_readNumbers 81 = .ok (.iload_n 1, 1) := by decide +kernel
theorem dX12_readNumbers_82 : decode cX12_readNumbers 82 = .ok (.bipush 109, 2) := by decide +kernel
theorem dX12_readNumbers_84 : decode cX12_readNumbers 84 = .ok (.if_icmp .ne 19, 3) := by decide +kernel
theorem dX12_readNumbers_87 : decode cX12_readNumbers 87 = .ok (.aload_n 0, 1) := by decide +kernel
theorem dX12_readNumbers_88 : decode cX12_readNumbers 88 = .ok (.getfield 59, 3) := by decide +kernel
theorem dX12_readNumbers_91 : decode cX12_readNumbers 91 = .ok (.iload_n 2, 1) := by decide +kernel
theorem dX12_readNumbers_92 : decode cX12_readNumbers 92 = .ok (.iconst 1, 1) := by decide +kernel
theorem dX12_readNumbers_93 : decode cX12_readNumbers 93 = .ok (.iadd, 1) := by decide +kernel
theorem dX12_readNumbers_94 : decode cX12_readNumbers 94 = .ok (.aload_n 0, 1) := by decide +kernel
theorem dX12_readNumbers_95 : decode cX12_readNumbers 95 = .ok (.iconst 2, 1) := by decide +kernel
theorem dX12_readNumbers_96 : decode cX12_readNumbers 96 = .ok (.invokevirtual 151, 3) := by decide +kernel
theorem dX12_readNumbers_99 : decode cX12_readNumbers 99 = .ok (.iastore, 1) := by decide +kernel
theorem dX12_readNumbers_100 : decode cX12_readNumbers 100 = .ok (.goto 22, 3) := by decide +kernel
theorem dX12_readNumbers_103 : decode cX12_readNumbers 103 = .ok (.iload_n 1, 1) := by decide +kernel
theorem dX12_readNumbers_104 : decode cX12_readNumbers 104 = .ok (.bipush 121, 2) := by decide +kernel
theorem dX12_readNumbers_106 : decode cX12_readNumbers 106 = .ok (.if_icmp .ne 16, 3) := by decide +kernel
theorem dX12_readNumbers_109 : decode cX12_readNumbers 109 = .ok (.aload_n 0, 1) := by decide +kernel
theorem dX12_readNumbers_110 : decode cX12_readNumbers 110 = .ok (.getfield 59, 3) := by decide +kernel
theorem dX12_readNumbers_113 : decode cX12_readNumbers 113 = .ok (.iload_n 2, 1) := by decide +kernel
theorem dX12_readNumbers_114 : decode cX12_readNumbers 114 = .ok (.iconst 1, 1) := by decide +kernel
theorem dX12_readNumbers_115 : decode cX12_readNumbers 115 = .ok (.iadd, 1) := by decide +kernel
theorem dX12_readNumbers_116 : decode cX12_readNumbers 116 = .ok (.aload_n 0, 1) := by decide +kernel
theorem dX12_readNumbers_117 : decode cX12_readNumbers 117 = .ok (.iconst 1, 1) := by decide +kernel
theorem dX12_readNumbers_118 : decode cX12_readNumbers 118 = .ok (.invokevirtual 151, 3) := by decide +kernel
theorem dX12_readNumbers_121 : decode cX12_readNumbers 121 = .ok (.iastore, 1) := by decide +kernel
theorem dX12_readNumbers_122 : decode cX12_readNumbers 122 = .ok (.return_, 1) := by decide +kernel
theorem dX12_readStatement_0 : decode cX12_readStatement 0 = .ok (.aload_n 0, 1) := by decide +kernel
theorem dX12_readStatement_1 : decode cX12_readStatement 1 = .ok (.getfield 154, 3) := by decide +kernel
theorem dX12_readStatement_4 : decode cX12_readStatement 4 = .ok (.istore_n 1, 1) := by decide +kernel
theorem dX12_readStatement_5 : decode cX12_readStatement 5 = .ok (.aload_n 0, 1) := by decide +kernel
theorem dX12_readStatement_6 : decode cX12_readStatement 6 = .ok (.invokevirtual 143, 3) := by decide +kernel
theorem dX12_readStatement_9 : decode cX12_readStatement 9 = .ok (.istore_n 2, 1) := by decide +kernel
theorem dX12_readStatement_10 : decode cX12_readStatement 10 = .ok (.aload_n 0, 1) := by decide +kernel
theorem dX12_readStatement_11 : decode cX12_readStatement 11 = .ok (.getfield 53, 3) := by decide +kernel
theorem dX12_readStatement_14 : decode cX12_readStatement 14 = .ok (.iload_n 1, 1) := by decide +kernel
theorem dX12_readStatement_15 : decode cX12_readStatement 15 = .ok (.aload_n 0, 1) := by decide +kernel
theorem dX12_readStatement_16 : decode cX12_readStatement 16 = .ok (.getfield 133, 3) := by decide +kernel
theorem dX12_readStatement_19 : decode cX12_readStatement 19 = .ok (.iastore, 1) := by decide +kernel
theorem dX12_readStatement_20 : decode cX12_readStatement 20 = .ok (.aload_n 0, 1) := by decide +kernel
theorem dX12_readStatement_21 : decode cX12_readStatement 21 = .ok (.getfield 56, 3) := by decide +kernel
theorem dX12_readStatement_24 : decode cX12_readStatement 24 = .ok (.iload_n 1, 1) := by decide +kernel
theorem dX12_readStatement_25 : decode cX12_readStatement 25 = .ok (.iload_n 2, 1) := by decide +kernel
theorem dX12_readStatement_26 : decode cX12_readStatement 26 = .ok (.iastore, 1) := by decide +kernel
theorem dX12_readStatement_27 : decode cX12_readStatement 27 = .ok (.aload_n 0, 1) := by decide +kernel
theorem dX12_readStatement_28 : decode cX12_readStatement 28 = .ok (.aload_n 0, 1) := by decide +kernel
theorem dX12_readStatement_29 : decode cX12_readStatement 29 = .ok (.getfield 139, 3) := by decide +kernel
theorem dX12_readStatement_32 : decode cX12_readStatement 32 = .ok (.ifCond .ne 10, 3) := by decide +kernel
theorem dX12_readStatement_35 : decode cX12_readStatement 35 = .ok (.iload_n 2, 1) := by decide +kernel
theorem dX12_readStatement_36 : decode cX12_readStatement 36 = .ok (.invokestatic 157, 3) := by decide +kernel
theorem dX12_readStatement_39 : decode cX12_readStatement 39 = .ok (.ifCond .ne 7, 3) := by decide +kernel
theorem dX12_readStatement_42 : decode cX12_readStatement 42 = .ok (.iconst 1, 1) := by decide +kernel
theorem dX12_readStatement_43 : decode cX12_readStatement 43 = .ok (.goto 4, 3) := by decide +kernel
theorem dX12_readStatement_46 : decode cX12_readStatement 46 = .ok (.iconst 0, 1) := by decide +kernel
theorem dX12_readStatement_47 : decode cX12_readStatement 47 = .ok (.putfield 139, 3) := by decide +kernel
theorem dX12_readStatement_50 : decode cX12_readStatement 50 = .ok (.aload_n 0, 1) := by decide +kernel
theorem dX12_readStatement_51 : decode cX12_readStatement 51 = .ok (.dup, 1) := by decide +kernel
theorem dX12_readStatement_52 : decode cX12_readStatement 52 = .ok (.getfield 133, 3) := by decide +kernel
theorem dX12_readStatement_55 : decode cX12_readStatement 55 = .ok (.aload_n 0, 1) := by decide +kernel
theorem dX12_readStatement_56 : decode cX12_readStatement 56 = .ok (.getfield 139, 3) := by decide +kernel
theorem dX12_readStatement_59 : decode cX12_readStatement 59 = .ok (.ifCond .eq 7, 3) := by decide +kernel
theorem dX12_readStatement_62 : decode cX12_readStatement 62 = .ok (.iconst 0, 1) := by decide +kernel
theorem dX12_readStatement_63 : decode cX12_readStatement 63 = .ok (.goto 4, 3) := by decide +kernel
theorem dX12_readStatement_66 : decode cX12_readStatement 66 = .ok (.iconst 1, 1) := by decide +kernel
theorem dX12_readStatement_67 : decode cX12_readStatement 67 = .ok (.iadd, 1) := by decide +kernel
theorem dX12_readStatement_68 : decode cX12_readStatement 68 = .ok (.putfield 133, 3) := by decide +kernel
theorem dX12_readStatement_71 : decode cX12_readStatement 71 = .ok (.aload_n 0, 1) := by decide +kernel
theorem dX12_readStatement_72 : decode cX12_readStatement 72 = .ok (.getfield 139, 3) := by decide +kernel
theorem dX12_readStatement_75 : decode cX12_readStatement 75 = .ok (.ifCond .ne 11, 3) := by decide +kernel
theorem dX12_readStatement_78 : decode cX12_readStatement 78 = .ok (.aload_n 0, 1) := by decide +kernel
theorem dX12_readStatement_79 : decode cX12_readStatement 79 = .ok (.iload_n 2, 1) := by decide +kernel
theorem dX12_readStatement_80 : decode cX12_readStatement 80 = .ok (.iconst 4, 1) := by decide +kernel
theorem dX12_readStatement_81 : decode cX12_readStatement 81 = .ok (.iload_n 1, 1) := by decide +kernel
theorem dX12_readStatement_82 : decode cX12_readStatement 82 = .ok (.imul, 1) := by decide +kernel
theorem dX12_readStatement_83 : decode cX12_readStatement 83 = .ok (.invokevirtual 160, 3) := by decide +kernel
theorem dX12_readStatement_86 : decode cX12_readStatement 86 = .ok (.aload_n 0, 1) := by decide +kernel
theorem dX12_readStatement_87 : decode cX12_readStatement 87 = .ok (.aload_n 0, 1) := by decide +kernel
theorem dX12_readStatement_88 : decode cX12_readStatement 88 = .ok (.getfield 139, 3) := by decide +kernel
theorem dX12_readStatement_91 : decode cX12_readStatement 91 = .ok (.ifCond .ne 12, 3) := by decide +kernel
theorem dX12_readStatement_94 : decode cX12_readStatement 94 = .ok (.aload_n 0, 1) := by decide +kernel
theorem dX12_readStatement_95 : decode cX12_readStatement 95 = .ok (.invokevirtual 143, 3) := by decide +kernel
theorem dX12_readStatement_98 : decode cX12_readStatement 98 = .ok (.bipush 59, 2) := by decide +kernel
theorem dX12_readStatement_100 : decode cX12_readStatement 100 = .ok (.if_icmp .eq 7, 3) := by decide +kernel
theorem dX12_readStatement_103 : decode cX12_readStatement 103 = .ok (.iconst 1, 1) := by decide +kernel
theorem dX12_readStatement_104 : decode cX12_readStatement 104 = .ok (.goto 4, 3) := by decide +kernel
theorem dX12_readStatement_107 : decode cX12_readStatement 107 = .ok (.iconst 0, 1) := by decide +kernel
theorem dX12_readStatement_108 : decode cX12_readStatement 108 = .ok (.putfield 139, 3) := by decide +kernel
theorem dX12_readStatement_111 : decode cX12_readStatement 111 = .ok (.aload_n 0, 1) := by decide +kernel
theorem dX12_readStatement_112 : decode cX12_readStatement 112 = .ok (.dup, 1) := by decide +kernel
theorem dX12_readStatement_113 : decode cX12_readStatement 113 = .ok (.getfield 133, 3) := by decide +kernel
theorem dX12_readStatement_116 : decode cX12_readStatement 116 = .ok (.aload_n 0, 1) := by decide +kernel
theorem dX12_readStatement_117 : decode cX12_readStatement 117 = .ok (.getfield 139, 3) := by decide +kernel
theorem dX12_readStatement_120 : decode cX12_readStatement 120 = .ok (.ifCond .eq 7, 3) := by decide +kernel
theorem dX12_readStatement_123 : decode cX12_readStatement 123 = .ok (.iconst 0, 1) := by decide +kernel
theorem dX12_readStatement_124 : decode cX12_readStatement 124 = .ok (.goto 4, 3) := by decide +kernel
theorem dX12_readStatement_127 : decode cX12_readStatement 127 = .ok (.iconst 1, 1) := by decide +kernel
theorem dX12_readStatement_128 : decode cX12_readStatement 128 = .ok (.iadd, 1) := by decide +kernel
theorem dX12_readStatement_129 : decode cX12_readStatement 129 = .ok (.putfield 133, 3) := by decide +kernel
theorem dX12_readStatement_132 : decode cX12_readStatement 132 = .ok (.aload_n 0, 1) := by decide +kernel
theorem dX12_readStatement_133 : decode cX12_readStatement 133 = .ok (.dup, 1) := by decide +kernel
theorem dX12_readStatement_134 : decode cX12_readStatement 134 = .ok (.getfield 154, 3) := by decide +kernel
theorem dX12_readStatement_137 : decode cX12_readStatement 137 = .ok (.iconst 1, 1) := by decide +kernel
theorem dX12_readStatement_138 : decode cX12_readStatement 138 = .ok (.iadd, 1) := by decide +kernel
theorem dX12_readStatement_139 : decode cX12_readStatement 139 = .ok (.putfield 154, 3) := by decide +kernel
theorem dX12_readStatement_142 : decode cX12_readStatement 142 = .ok (.return_, 1) := by decide +kernel
theorem dX12_oneComes_0 : decode cX12_oneComes 0 = .ok (.iload_n 1, 1) := by decide +kernel
theorem dX12_oneComes_1 : decode cX12_oneComes 1 = .ok (.bipush 8, 2) := by decide +kernel
theorem dX12_oneComes_3 : decode cX12_oneComes 3 = .ok (.if_icmp .ge 36, 3) := by decide +kernel
theorem dX12_oneComes_6 : decode cX12_oneComes 6 = .ok (.iload_n 3, 1) := by decide +kernel
theorem dX12_oneComes_7 : decode cX12_oneComes 7 = .ok (.i2l, 1) := by decide +kernel
theorem dX12_oneComes_8 : decode cX12_oneComes 8 = .ok (.lconst 0, 1) := by decide +kernel
theorem dX12_oneComes_9 : decode cX12_oneComes 9 = .ok (.ldc2_w 164, 3) := by decide +kernel
theorem dX12_oneComes_12 : decode cX12_oneComes 12 = .ok (.invokestatic 80, 3) := by decide +kernel
theorem dX12_oneComes_15 : decode cX12_oneComes 15 = .ok (.ifCond .eq 24, 3) := by decide +kernel
theorem dX12_oneComes_18 : decode cX12_oneComes 18 = .ok (.iload 4, 2) := by decide +kernel
theorem dX12_oneComes_20 : decode cX12_oneComes 20 = .ok (.invokestatic 113, 3) := by decide +kernel
theorem dX12_oneComes_23 : decode cX12_oneComes 23 = .ok (.ifCond .eq 16, 3) := by decide +kernel
theorem dX12_oneComes_26 : decode cX12_oneComes 26 = .ok (.aload_n 0, 1) := by decide +kernel
theorem dX12_oneComes_27 : decode cX12_oneComes 27 = .ok (.getfield 84, 3) := by decide +kernel
theorem dX12_oneComes_30 : decode cX12_oneComes 30 = .ok (.bipush 6, 2) := by decide +kernel
theorem dX12_oneComes_32 : decode cX12_oneComes 32 = .ok (.if_icmp .ge 7, 3) := by decide +kernel
theorem dX12_oneComes_35 : decode cX12_oneComes 35 = .ok (.iconst 1, 1) := by decide +kernel
theorem dX12_oneComes_36 : decode cX12_oneComes 36 = .ok (.goto 4, 3) := by decide +kernel
theorem dX12_oneComes_39 : decode cX12_oneComes 39 = .ok (.iconst 0, 1) := by decide +kernel
theorem dX12_oneComes_40 : decode cX12_oneComes 40 = .ok (.istore 5, 2) := by decide +kernel
theorem dX12_oneComes_42 : decode cX12_oneComes 42 = .ok (.iload 5, 2) := by decide +kernel
theorem dX12_oneComes_44 : decode cX12_oneComes 44 = .ok (.ifCond .eq 64, 3) := by decide +kernel
theorem dX12_oneComes_47 : decode cX12_oneComes 47 = .ok (.aload_n 0, 1) := by decide +kernel
theorem dX12_oneComes_48 : decode cX12_oneComes 48 = .ok (.getfield 13, 3) := by decide +kernel
theorem dX12_oneComes_51 : decode cX12_oneComes 51 = .ok (.aload_n 0, 1) := by decide +kernel
theorem dX12_oneComes_52 : decode cX12_oneComes 52 = .ok (.getfield 84, 3) := by decide +kernel
theorem dX12_oneComes_55 : decode cX12_oneComes 55 = .ok (.iload_n 1, 1) := by decide +kernel
theorem dX12_oneComes_56 : decode cX12_oneComes 56 = .ok (.iastore, 1) := by decide +kernel
theorem dX12_oneComes_57 : decode cX12_oneComes 57 = .ok (.aload_n 0, 1) := by decide +kernel
theorem dX12_oneComes_58 : decode cX12_oneComes 58 = .ok (.getfield 16, 3) := by decide +kernel
theorem dX12_oneComes_61 : decode cX12_oneComes 61 = .ok (.aload_n 0, 1) := by decide +kernel
theorem dX12_oneComes_62 : decode cX12_oneComes 62 = .ok (.getfield 84, 3) := by decide +kernel
theorem dX12_oneComes_65 : decode cX12_oneComes 65 = .ok (.iload_n 2, 1) := by decide +kernel
theorem dX12_oneComes_66 : decode cX12_oneComes 66 = .ok (.iastore, 1) := by decide +kernel
theorem dX12_oneComes_67 : decode cX12_oneComes 67 = .ok (.aload_n 0, 1) := by decide +kernel
theorem dX12_oneComes_68 : decode cX12_oneComes 68 = .ok (.getfield 19, 3) := by decide +kernel
theorem dX12_oneComes_71 : decode cX12_oneComes 71 = .ok (.aload_n 0, 1) := by decide +kernel
theorem dX12_oneComes_72 : decode cX12_oneComes 72 = .ok (.getfield 84, 3) := by decide +kernel
theorem dX12_oneComes_75 : decode cX12_oneComes 75 = .ok (.iload_n 3, 1) := by decide +kernel
theorem dX12_oneComes_76 : decode cX12_oneComes 76 = .ok (.iastore, 1) := by decide +kernel
theorem dX12_oneComes_77 : decode cX12_oneComes 77 = .ok (.aload_n 0, 1) := by decide +kernel
theorem dX12_oneComes_78 : decode cX12_oneComes 78 = .ok (.getfield 22, 3) := by decide +kernel
theorem dX12_oneComes_81 : decode cX12_oneComes 81 = .ok (.aload_n 0, 1) := by decide +kernel
theorem dX12_oneComes_82 : decode cX12_oneComes 82 = .ok (.getfield 84, 3) := by decide +kernel
theorem dX12_oneComes_85 : decode cX12_oneComes 85 = .ok (.iload 4, 2) := by decide +kernel
theorem dX12_oneComes_87 : decode cX12_oneComes 87 = .ok (.iastore, 1) := by decide +kernel
theorem dX12_oneComes_88 : decode cX12_oneComes 88 = .ok (.aload_n 0, 1) := by decide +kernel
theorem dX12_oneComes_89 : decode cX12_oneComes 89 = .ok (.getfield 25, 3) := by decide +kernel
theorem dX12_oneComes_92 : decode cX12_oneComes 92 = .ok (.aload_n 0, 1) := by decide +kernel
theorem dX12_oneComes_93 : decode cX12_oneComes 93 = .ok (.getfield 84, 3) := by decide +kernel
theorem dX12_oneComes_96 : decode cX12_oneComes 96 = .ok (.iconst 0, 1) := by decide +kernel
theorem dX12_oneComes_97 : decode cX12_oneComes 97 = .ok (.iastore, 1) := by decide +kernel
theorem dX12_oneComes_98 : decode cX12_oneComes 98 = .ok (.aload_n 0, 1) := by decide +kernel
theorem dX12_oneComes_99 : decode cX12_oneComes 99 = .ok (.dup, 1) := by decide +kernel
theorem dX12_oneComes_100 : decode cX12_oneComes 100 = .ok (.getfield 84, 3) := by decide +kernel
theorem dX12_oneComes_103 : decode cX12_oneComes 103 = .ok (.iconst 1, 1) := by decide +kernel
theorem dX12_oneComes_104 : decode cX12_oneComes 104 = .ok (.iadd, 1) := by decide +kernel
theorem dX12_oneComes_105 : decode cX12_oneComes 105 = .ok (.putfield 84, 3) := by decide +kernel
theorem dX12_oneComes_108 : decode cX12_oneComes 108 = .ok (.iload 5, 2) := by decide +kernel
theorem dX12_oneComes_110 : decode cX12_oneComes 110 = .ok (.ireturn, 1) := by decide +kernel
theorem dX12_daysCome_0 : decode cX12_daysCome 0 = .ok (.iload_n 1, 1) := by decide +kernel
theorem dX12_daysCome_1 : decode cX12_daysCome 1 = .ok (.i2l, 1) := by decide +kernel
theorem dX12_daysCome_2 : decode cX12_daysCome 2 = .ok (.lconst 1, 1) := by decide +kernel
theorem dX12_daysCome_3 : decode cX12_daysCome 3 = .ok (.ldc2_w 166, 3) := by decide +kernel
theorem dX12_daysCome_6 : decode cX12_daysCome 6 = .ok (.invokestatic 80, 3) := by decide +kernel
theorem dX12_daysCome_9 : decode cX12_daysCome 9 = .ok (.ifCond .eq 19, 3) := by decide +kernel
theorem dX12_daysCome_12 : decode cX12_daysCome 12 = .ok (.aload_n 0, 1) := by decide +kernel
theorem dX12_daysCome_13 : decode cX12_daysCome 13 = .ok (.getfield 123, 3) := by decide +kernel
theorem dX12_daysCome_16 : decode cX12_daysCome 16 = .ok (.iload_n 1, 1) := by decide +kernel
theorem dX12_daysCome_17 : decode cX12_daysCome 17 = .ok (.iadd, 1) := by decide +kernel
theorem dX12_daysCome_18 : decode cX12_daysCome 18 = .ok (.sipush 999, 3) := by decide +kernel
theorem dX12_daysCome_21 : decode cX12_daysCome 21 = .ok (.if_icmp .gt 7, 3) := by decide +kernel
theorem dX12_daysCome_24 : decode cX12_daysCome 24 = .ok (.iconst 1, 1) := by decide +kernel
theorem dX12_daysCome_25 : decode cX12_daysCome 25 = .ok (.goto 4, 3) := by decide +kernel
theorem dX12_daysCome_28 : decode cX12_daysCome 28 = .ok (.iconst 0, 1) := by decide +kernel
theorem dX12_daysCome_29 : decode cX12_daysCome 29 = .ok (.istore_n 2, 1) := by decide +kernel
theorem dX12_daysCome_30 : decode cX12_daysCome 30 = .ok (.iload_n 2, 1) := by decide +kernel
theorem dX12_daysCome_31 : decode cX12_daysCome 31 = .ok (.ifCond .eq 8, 3) := by decide +kernel
theorem dX12_daysCome_34 : decode cX12_daysCome 34 = .ok (.aload_n 0, 1) := by decide +kernel
theorem dX12_daysCome_35 : decode cX12_daysCome 35 = .ok (.iload_n 1, 1) := by decide +kernel
theorem dX12_daysCome_36 : decode cX12_daysCome 36 = .ok (.invokevirtual 168, 3) := by decide +kernel
theorem dX12_daysCome_39 : decode cX12_daysCome 39 = .ok (.iload_n 2, 1) := by decide +kernel
theorem dX12_daysCome_40 : decode cX12_daysCome 40 = .ok (.ireturn, 1) := by decide +kernel
theorem dX12_wayOf_0 : decode cX12_wayOf 0 = .ok (.iload_n 0, 1) := by decide +kernel
theorem dX12_wayOf_1 : decode cX12_wayOf 1 = .ok (.ifCond .ne 7, 3) := by decide +kernel
theorem dX12_wayOf_4 : decode cX12_wayOf 4 = .ok (.iconst 0, 1) := by decide +kernel
theorem dX12_wayOf_5 : decode cX12_wayOf 5 = .ok (.goto 13, 3) := by decide +kernel
theorem dX12_wayOf_8 : decode cX12_wayOf 8 = .ok (.iload_n 0, 1) := by decide +kernel
theorem dX12_wayOf_9 : decode cX12_wayOf 9 = .ok (.iconst 1, 1) := by decide +kernel
theorem dX12_wayOf_10 : decode cX12_wayOf 10 = .ok (.if_icmp .ne 7, 3) := by decide +kernel
theorem dX12_wayOf_13 : decode cX12_wayOf 13 = .ok (.iconst (-1), 1) := by decide +kernel
theorem dX12_wayOf_14 : decode cX12_wayOf 14 = .ok (.goto 4, 3) := by decide +kernel
theorem dX12_wayOf_17 : decode cX12_wayOf 17 = .ok (.iconst 1, 1) := by decide +kernel
theorem dX12_wayOf_18 : decode cX12_wayOf 18 = .ok (.ireturn, 1) := by decide +kernel
theorem dX12_comesTold_0 : decode cX12_comesTold 0 = .ok (.aload_n 0, 1) := by decide +kernel
theorem dX12_comesTold_1 : decode cX12_comesTold 1 = .ok (.getfield 59, 3) := by decide +kernel
theorem dX12_comesTold_4 : decode cX12_comesTold 4 = .ok (.iconst 4, 1) := by decide +kernel
theorem dX12_comesTold_5 : decode cX12_comesTold 5 = .ok (.iload_n 1, 1) := by decide +kernel
theorem dX12_comesTold_6 : decode cX12_comesTold 6 = .ok (.imul, 1) := by decide +kernel
theorem dX12_comesTold_7 : decode cX12_comesTold 7 = .ok (.iaload, 1) := by decide +kernel
theorem dX12_comesTold_8 : decode cX12_comesTold 8 = .ok (.istore_n 2, 1) := by decide +kernel
theorem dX12_comesTold_9 : decode cX12_comesTold 9 = .ok (.aload_n 0, 1) := by decide +kernel
theorem dX12_comesTold_10 : decode cX12_comesTold 10 = .ok (.getfield 59, 3) := by decide +kernel
theorem dX12_comesTold_13 : decode cX12_comesTold 13 = .ok (.iconst 4, 1) := by decide +kernel
theorem dX12_comesTold_14 : decode cX12_comesTold 14 = .ok (.iload_n 1, 1) := by decide +kernel
theorem dX12_comesTold_15 : decode cX12_comesTold 15 = .ok (.imul, 1) := by decide +kernel
theorem dX12_comesTold_16 : decode cX12_comesTold 16 = .ok (.iconst 1, 1) := by decide +kernel
theorem dX12_comesTold_17 : decode cX12_comesTold 17 = .ok (.iadd, 1) := by decide +kernel
theorem dX12_comesTold_18 : decode cX12_comesTold 18 = .ok (.iaload, 1) := by decide +kernel
theorem dX12_comesTold_19 : decode cX12_comesTold 19 = .ok (.istore_n 3, 1) := by decide +kernel
theorem dX12_comesTold_20 : decode cX12_comesTold 20 = .ok (.iconst 1, 1) := by decide +kernel
theorem dX12_comesTold_21 : decode cX12_comesTold 21 = .ok (.istore 4, 2) := by decide +kernel
theorem dX12_comesTold_23 : decode cX12_comesTold 23 = .ok (.aload_n 0, 1) := by decide +kernel
theorem dX12_comesTold_24 : decode cX12_comesTold 24 = .ok (.getfield 56, 3) := by decide +kernel
theorem dX12_comesTold_27 : decode cX12_comesTold 27 = .ok (.iload_n 1, 1) := by decide +kernel
theorem dX12_comesTold_28 : decode cX12_comesTold 28 = .ok (.iaload, 1) := by decide +kernel
theorem dX12_comesTold_29 : decode cX12_comesTold 29 = .ok (.lookupswitch 180 #[(103, 43), (109, 105), (119, 78), (121, 142)], 43) := by decide +kernel
theorem dX12_comesTold_72 : decode cX12_comesTold 72 = .ok (.iload_n 2, 1) := by decide +kernel
theorem dX12_comesTold_73 : decode cX12_comesTold 73 = .ok (.invokestatic 113, 3) := by decide +kernel
theorem dX12_comesTold_76 : decode cX12_comesTold 76 = .ok (.ifCond .eq 13, 3) := by decide +kernel
theorem dX12_comesTold_79 : decode cX12_comesTold 79 = .ok (.iload_n 3, 1) := by decide +kernel
theorem dX12_comesTold_80 : decode cX12_comesTold 80 = .ok (.bipush 20, 2) := by decide +kernel
theorem dX12_comesTold_82 : decode cX12_comesTold 82 = .ok (.if_icmp .gt 7, 3) := by decide +kernel
theorem dX12_comesTold_85 : decode cX12_comesTold 85 = .ok (.iconst 1, 1) := by decide +kernel
theorem dX12_comesTold_86 : decode cX12_comesTold 86 = .ok (.goto 4, 3) := by decide +kernel
theorem dX12_comesTold_89 : decode cX12_comesTold 89 = .ok (.iconst 0, 1) := by decide +kernel
theorem dX12_comesTold_90 : decode cX12_comesTold 90 = .ok (.istore 4, 2) := by decide +kernel
theorem dX12_comesTold_92 : decode cX12_comesTold 92 = .ok (.iload 4, 2) := by decide +kernel
theorem dX12_comesTold_94 : decode cX12_comesTold 94 = .ok (.ifCond .eq 10, 3) := by decide +kernel
theorem dX12_comesTold_97 : decode cX12_comesTold 97 = .ok (.aload_n 0, 1) := by decide +kernel
theorem dX12_comesTold_98 : decode cX12_comesTold 98 = .ok (.getfield 7, 3) := by decide +kernel
theorem dX12_comesTold_101 : decode cX12_comesTold 101 = .ok (.iload_n 2, 1) := by decide +kernel
theorem dX12_comesTold_102 : decode cX12_comesTold 102 = .ok (.iload_n 3, 1) := by decide +kernel
theorem dX12_comesTold_103 : decode cX12_comesTold 103 = .ok (.iastore, 1) := by decide +kernel
theorem dX12_comesTold_104 : decode cX12_comesTold 104 = .ok (.iload 4, 2) := by decide +kernel
theorem dX12_comesTold_106 : decode cX12_comesTold 106 = .ok (.ireturn, 1) := by decide +kernel
theorem dX12_comesTold_107 : decode cX12_comesTold 107 = .ok (.aload_n 0, 1) := by decide +kernel
theorem dX12_comesTold_108 : decode cX12_comesTold 108 = .ok (.iload_n 2, 1) := by decide +kernel
theorem dX12_comesTold_109 : decode cX12_comesTold 109 = .ok (.iload_n 3, 1) := by decide +kernel
theorem dX12_comesTold_110 : decode cX12_comesTold 110 = .ok (.aload_n 0, 1) := by decide +kernel
theorem dX12_comesTold_111 : decode cX12_comesTold 111 = .ok (.getfield 59, 3) := by decide +kernel
theorem dX12_comesTold_114 : decode cX12_comesTold 114 = .ok (.iconst 4, 1) := by decide +kernel
theorem dX12_comesTold_115 : decode cX12_comesTold 115 = .ok (.iload_n 1, 1) := by decide +kernel
theorem dX12_comesTold_116 : decode cX12_comesTold 116 = .ok (.imul, 1) := by decide +kernel
theorem dX12_comesTold_117 : decode cX12_comesTold 117 = .ok (.iconst 2, 1) := by decide +kernel
theorem dX12_comesTold_118 : decode cX12_comesTold 118 = .ok (.iadd, 1) := by decide +kernel
theorem dX12_comesTold_119 : decode cX12_comesTold 119 = .ok (.iaload, 1) := by decide +kernel
theorem dX12_comesTold_120 : decode cX12_comesTold 120 = .ok (.aload_n 0, 1) := by decide +kernel
theorem dX12_comesTold_121 : decode cX12_comesTold 121 = .ok (.getfield 59, 3) := by decide +kernel
theorem dX12_comesTold_124 : decode cX12_comesTold 124 = .ok (.iconst 4, 1) := by decide +kernel
theorem dX12_comesTold_125 : decode cX12_comesTold 125 = .ok (.iload_n 1, 1) := by decide +kernel
theorem dX12_comesTold_126 : decode cX12_comesTold 126 = .ok (.imul, 1) := by decide +kernel
theorem dX12_comesTold_127 : decode cX12_comesTold 127 = .ok (.iconst 3, 1) := by decide +kernel
theorem dX12_comesTold_128 : decode cX12_comesTold 128 = .ok (.iadd, 1) := by decide +kernel
theorem dX12_comesTold_129 : decode cX12_comesTold 129 = .ok (.iaload, 1) := by decide +kernel
theorem dX12_comesTold_130 : decode cX12_comesTold 130 = .ok (.invokevirtual 172, 3) := by decide +kernel
theorem dX12_comesTold_133 : decode cX12_comesTold 133 = .ok (.ireturn, 1) := by decide +kernel
theorem dX12_comesTold_134 : decode cX12_comesTold 134 = .ok (.aload_n 0, 1) := by decide +kernel
theorem dX12_comesTold_135 : decode cX12_comesTold 135 = .ok (.iload_n 2, 1) := by decide +kernel
theorem dX12_comesTold_136 : decode cX12_comesTold 136 = .ok (.invokevirtual 176, 3) := by decide +kernel
theorem dX12_comesTold_139 : decode cX12_comesTold 139 = .ok (.ifCond .eq 14, 3) := by decide +kernel
theorem dX12_comesTold_142 : decode cX12_comesTold 142 = .ok (.iload_n 3, 1) := by decide +kernel
theorem dX12_comesTold_143 : decode cX12_comesTold 143 = .ok (.invokestatic 113, 3) := by decide +kernel
theorem dX12_comesTold_146 : decode cX12_comesTold 146 = .ok (.ifCond .eq 7, 3) := by decide +kernel
theorem dX12_comesTold_149 : decode cX12_comesTold 149 = .ok (.iconst 1, 1) := by decide +kernel
theorem dX12_comesTold_150 : decode cX12_comesTold 150 = .ok (.goto 4, 3) := by decide +kernel
theorem dX12_comesTold_153 : decode cX12_comesTold 153 = .ok (.iconst 0, 1) := by decide +kernel
theorem dX12_comesTold_154 : decode cX12_comesTold 154 = .ok (.istore 4, 2) := by decide +kernel
theorem dX12_comesTold_156 : decode cX12_comesTold 156 = .ok (.iload 4, 2) := by decide +kernel
theorem dX12_comesTold_158 : decode cX12_comesTold 158 = .ok (.ifCond .eq 10, 3) := by decide +kernel
theorem dX12_comesTold_161 : decode cX12_comesTold 161 = .ok (.aload_n 0, 1) := by decide +kernel
theorem dX12_comesTold_162 : decode cX12_comesTold 162 = .ok (.getfield 22, 3) := by decide +kernel
theorem dX12_comesTold_165 : decode cX12_comesTold 165 = .ok (.iload_n 2, 1) := by decide +kernel
theorem dX12_comesTold_166 : decode cX12_comesTold 166 = .ok (.iload_n 3, 1) := by decide +kernel
theorem dX12_comesTold_167 : decode cX12_comesTold 167 = .ok (.iastore, 1) := by decide +kernel
theorem dX12_comesTold_168 : decode cX12_comesTold 168 = .ok (.iload 4, 2) := by decide +kernel
theorem dX12_comesTold_170 : decode cX12_comesTold 170 = .ok (.ireturn, 1) := by decide +kernel
theorem dX12_comesTold_171 : decode cX12_comesTold 171 = .ok (.aload_n 0, 1) := by decide +kernel
theorem dX12_comesTold_172 : decode cX12_comesTold 172 = .ok (.iload_n 2, 1) := by decide +kernel
theorem dX12_comesTold_173 : decode cX12_comesTold 173 = .ok (.invokevirtual 176, 3) := by decide +kernel
theorem dX12_comesTold_176 : decode cX12_comesTold 176 = .ok (.ifCond .eq 12, 3) := by decide +kernel
theorem dX12_comesTold_179 : decode cX12_comesTold 179 = .ok (.iload_n 3, 1) := by decide +kernel
theorem dX12_comesTold_180 : decode cX12_comesTold 180 = .ok (.iconst 2, 1) := by decide +kernel
theorem dX12_comesTold_181 : decode cX12_comesTold 181 = .ok (.if_icmp .gt 7, 3) := by decide +kernel
theorem dX12_comesTold_184 : decode cX12_comesTold 184 = .ok (.iconst 1, 1) := by decide +kernel
theorem dX12_comesTold_185 : decode cX12_comesTold 185 = .ok (.goto 4, 3) := by decide +kernel
theorem dX12_comesTold_188 : decode cX12_comesTold 188 = .ok (.iconst 0, 1) := by decide +kernel
theorem dX12_comesTold_189 : decode cX12_comesTold 189 = .ok (.istore 4, 2) := by decide +kernel
theorem dX12_comesTold_191 : decode cX12_comesTold 191 = .ok (.iload 4, 2) := by decide +kernel
theorem dX12_comesTold_193 : decode cX12_comesTold 193 = .ok (.ifCond .eq 13, 3) := by decide +kernel
theorem dX12_comesTold_196 : decode cX12_comesTold 196 = .ok (.aload_n 0, 1) := by decide +kernel
theorem dX12_comesTold_197 : decode cX12_comesTold 197 = .ok (.getfield 25, 3) := by decide +kernel
theorem dX12_comesTold_200 : decode cX12_comesTold 200 = .ok (.iload_n 2, 1) := by decide +kernel
theorem dX12_comesTold_201 : decode cX12_comesTold 201 = .ok (.iload_n 3, 1) := by decide +kernel
theorem dX12_comesTold_202 : decode cX12_comesTold 202 = .ok (.invokestatic 179, 3) := by decide +kernel
theorem dX12_comesTold_205 : decode cX12_comesTold 205 = .ok (.iastore, 1) := by decide +kernel
theorem dX12_comesTold_206 : decode cX12_comesTold 206 = .ok (.iload 4, 2) := by decide +kernel
theorem dX12_comesTold_208 : decode cX12_comesTold 208 = .ok (.ireturn, 1) := by decide +kernel
theorem dX12_comesTold_209 : decode cX12_comesTold 209 = .ok (.aload_n 0, 1) := by decide +kernel
theorem dX12_comesTold_210 : decode cX12_comesTold 210 = .ok (.iload_n 2, 1) := by decide +kernel
theorem dX12_comesTold_211 : decode cX12_comesTold 211 = .ok (.invokevirtual 182, 3) := by decide +kernel
theorem dX12_comesTold_214 : decode cX12_comesTold 214 = .ok (.ireturn, 1) := by decide +kernel
theorem dX12_country_0 : decode cX12_country 0 = .ok (.aload_n 0, 1) := by decide +kernel
theorem dX12_country_1 : decode cX12_country 1 = .ok (.iconst 0, 1) := by decide +kernel
theorem dX12_country_2 : decode cX12_country 2 = .ok (.putfield 74, 3) := by decide +kernel
theorem dX12_country_5 : decode cX12_country 5 = .ok (.aload_n 0, 1) := by decide +kernel
theorem dX12_country_6 : decode cX12_country 6 = .ok (.iload_n 1, 1) := by decide +kernel
theorem dX12_country_7 : decode cX12_country 7 = .ok (.invokevirtual 185, 3) := by decide +kernel
theorem dX12_country_10 : decode cX12_country 10 = .ok (.istore_n 2, 1) := by decide +kernel
theorem dX12_country_11 : decode cX12_country 11 = .ok (.iload_n 2, 1) := by decide +kernel
theorem dX12_country_12 : decode cX12_country 12 = .ok (.ifCond .ne 17, 3) := by decide +kernel
theorem dX12_country_15 : decode cX12_country 15 = .ok (.aload_n 0, 1) := by decide +kernel
theorem dX12_country_16 : decode cX12_country 16 = .ok (.getfield 37, 3) := by decide +kernel
theorem dX12_country_19 : decode cX12_country 19 = .ok (.iload_n 1, 1) := by decide +kernel
theorem dX12_country_20 : decode cX12_country 20 = .ok (.iaload, 1) := by decide +kernel
theorem dX12_country_21 : decode cX12_country 21 = .ok (.ifCond .eq 8, 3) := by decide +kernel
theorem dX12_country_24 : decode cX12_country 24 = .ok (.bipush (-12), 2) := by decide +kernel
theorem dX12_country_26 : decode cX12_country 26 = .ok (.goto 4, 3) := by decide +kernel
theorem dX12_country_29 : decode cX12_country 29 = .ok (.iload_n 2, 1) := by decide +kernel
theorem dX12_country_30 : decode cX12_country 30 = .ok (.istore_n 2, 1) := by decide +kernel
theorem dX12_country_31 : decode cX12_country 31 = .ok (.iload_n 2, 1) := by decide +kernel
theorem dX12_country_32 : decode cX12_country 32 = .ok (.ifCond .ge 5, 3) := by decide +kernel
theorem dX12_country_35 : decode cX12_country 35 = .ok (.iload_n 2, 1) := by decide +kernel
theorem dX12_country_36 : decode cX12_country 36 = .ok (.ireturn, 1) := by decide +kernel
theorem dX12_country_37 : decode cX12_country 37 = .ok (.aload_n 0, 1) := by decide +kernel
theorem dX12_country_38 : decode cX12_country 38 = .ok (.iload_n 1, 1) := by decide +kernel
theorem dX12_country_39 : decode cX12_country 39 = .ok (.putfield 136, 3) := by decide +kernel
theorem dX12_country_42 : decode cX12_country 42 = .ok (.aload_n 0, 1) := by decide +kernel
theorem dX12_country_43 : decode cX12_country 43 = .ok (.iconst 0, 1) := by decide +kernel
theorem dX12_country_44 : decode cX12_country 44 = .ok (.putfield 133, 3) := by decide +kernel
theorem dX12_country_47 : decode cX12_country 47 = .ok (.aload_n 0, 1) := by decide +kernel
theorem dX12_country_48 : decode cX12_country 48 = .ok (.iconst 0, 1) := by decide +kernel
theorem dX12_country_49 : decode cX12_country 49 = .ok (.putfield 139, 3) := by decide +kernel
theorem dX12_country_52 : decode cX12_country 52 = .ok (.aload_n 0, 1) := by decide +kernel
theorem dX12_country_53 : decode cX12_country 53 = .ok (.iconst 0, 1) := by decide +kernel
theorem dX12_country_54 : decode cX12_country 54 = .ok (.putfield 154, 3) := by decide +kernel
theorem dX12_country_57 : decode cX12_country 57 = .ok (.aload_n 0, 1) := by decide +kernel
theorem dX12_country_58 : decode cX12_country 58 = .ok (.getfield 139, 3) := by decide +kernel
theorem dX12_country_61 : decode cX12_country 61 = .ok (.ifCond .ne 30, 3) := by decide +kernel
theorem dX12_country_64 : decode cX12_country 64 = .ok (.aload_n 0, 1) := by decide +kernel
theorem dX12_country_65 : decode cX12_country 65 = .ok (.getfield 154, 3) := by decide +kernel
theorem dX12_country_68 : decode cX12_country 68 = .ok (.ifCond .eq 16, 3) := by decide +kernel
theorem dX12_country_71 : decode cX12_country 71 = .ok (.aload_n 0, 1) := by decide +kernel
theorem dX12_country_72 : decode cX12_country 72 = .ok (.getfield 133, 3) := by decide +kernel
theorem dX12_country_75 : decode cX12_country 75 = .ok (.aload_n 0, 1) := by decide +kernel
theorem dX12_country_76 : decode cX12_country 76 = .ok (.getfield 40, 3) := by decide +kernel
theorem dX12_country_79 : decode cX12_country 79 = .ok (.iload_n 1, 1) := by decide +kernel
theorem dX12_country_80 : decode cX12_country 80 = .ok (.iaload, 1) := by decide +kernel
theorem dX12_country_81 : decode cX12_country 81 = .ok (.if_icmp .ge 10, 3) := by decide +kernel
theorem dX12_country_84 : decode cX12_country 84 = .ok (.aload_n 0, 1) := by decide +kernel
theorem dX12_country_85 : decode cX12_country 85 = .ok (.invokevirtual 188, 3) := by decide +kernel
theorem dX12_country_88 : decode cX12_country 88 = .ok (.goto (-31), 3) := by decide +kernel
theorem dX12_country_91 : decode cX12_country 91 = .ok (.aload_n 0, 1) := by decide +kernel
theorem dX12_country_92 : decode cX12_country 92 = .ok (.getfield 139, 3) := by decide +kernel
theorem dX12_country_95 : decode cX12_country 95 = .ok (.ifCond .eq 12, 3) := by decide +kernel
theorem dX12_country_98 : decode cX12_country 98 = .ok (.sipush (-1000), 3) := by decide +kernel
theorem dX12_country_101 : decode cX12_country 101 = .ok (.aload_n 0, 1) := by decide +kernel
theorem dX12_country_102 : decode cX12_country 102 = .ok (.getfield 133, 3) := by decide +kernel
theorem dX12_country_105 : decode cX12_country 105 = .ok (.isub, 1) := by decide +kernel
theorem dX12_country_106 : decode cX12_country 106 = .ok (.ireturn, 1) := by decide +kernel
theorem dX12_country_107 : decode cX12_country 107 = .ok (.aload_n 0, 1) := by decide +kernel
theorem dX12_country_108 : decode cX12_country 108 = .ok (.invokevirtual 191, 3) := by decide +kernel
theorem dX12_country_111 : decode cX12_country 111 = .ok (.iconst 0, 1) := by decide +kernel
theorem dX12_country_112 : decode cX12_country 112 = .ok (.istore_n 3, 1) := by decide +kernel
theorem dX12_country_113 : decode cX12_country 113 = .ok (.iload_n 3, 1) := by decide +kernel
theorem dX12_country_114 : decode cX12_country 114 = .ok (.aload_n 0, 1) := by decide +kernel
theorem dX12_country_115 : decode cX12_country 115 = .ok (.getfield 154, 3) := by decide +kernel
theorem dX12_country_118 : decode cX12_country 118 = .ok (.if_icmp .ge 32, 3) := by decide +kernel
theorem dX12_country_121 : decode cX12_country 121 = .ok (.aload_n 0, 1) := by decide +kernel
theorem dX12_country_122 : decode cX12_country 122 = .ok (.iload_n 3, 1) := by decide +kernel
theorem dX12_country_123 : decode cX12_country 123 = .ok (.invokevirtual 194, 3) := by decide +kernel
theorem dX12_country_126 : decode cX12_country 126 = .ok (.ifCond .ne 18, 3) := by decide +kernel
theorem dX12_country_129 : decode cX12_country 129 = .ok (.aload_n 0, 1) := by decide +kernel
theorem dX12_country_130 : decode cX12_country 130 = .ok (.invokevirtual 197, 3) := by decide +kernel
theorem dX12_country_133 : decode cX12_country 133 = .ok (.sipush (-2000), 3) := by decide +kernel
theorem dX12_country_136 : decode cX12_country 136 = .ok (.aload_n 0, 1) := by decide +kernel
theorem dX12_country_137 : decode cX12_country 137 = .ok (.getfield 53, 3) := by decide +kernel
theorem dX12_country_140 : decode cX12_country 140 = .ok (.iload_n 3, 1) := by decide +kernel
theorem dX12_country_141 : decode cX12_country 141 = .ok (.iaload, 1) := by decide +kernel
theorem dX12_country_142 : decode cX12_country 142 = .ok (.isub, 1) := by decide +kernel
theorem dX12_country_143 : decode cX12_country 143 = .ok (.ireturn, 1) := by decide +kernel
theorem dX12_country_144 : decode cX12_country 144 = .ok (.iinc 3 1, 3) := by decide +kernel
theorem dX12_country_147 : decode cX12_country 147 = .ok (.goto (-34), 3) := by decide +kernel
theorem dX12_country_150 : decode cX12_country 150 = .ok (.aload_n 0, 1) := by decide +kernel
theorem dX12_country_151 : decode cX12_country 151 = .ok (.getfield 154, 3) := by decide +kernel
theorem dX12_country_154 : decode cX12_country 154 = .ok (.ireturn, 1) := by decide +kernel
theorem dX12_carry_0 : decode cX12_carry 0 = .ok (.aload_n 0, 1) := by decide +kernel
theorem dX12_carry_1 : decode cX12_carry 1 = .ok (.getfield 200, 3) := by decide +kernel
theorem dX12_carry_4 : decode cX12_carry 4 = .ok (.ifCond .eq 13, 3) := by decide +kernel
theorem dX12_carry_7 : decode cX12_carry 7 = .ok (.aload_n 0, 1) := by decide +kernel
theorem dX12_carry_8 : decode cX12_carry 8 = .ok (.getfield 203, 3) := by decide +kernel
theorem dX12_carry_11 : decode cX12_carry 11 = .ok (.aload_n 0, 1) := by decide +kernel
theorem dX12_carry_12 : decode cX12_carry 12 = .ok (.getfield 206, 3) := by decide +kernel
theorem dX12_carry_15 : decode cX12_carry 15 = .ok (.iload_n 1, 1) := by decide +kernel
theorem dX12_carry_16 : decode cX12_carry 16 = .ok (.iastore, 1) := by decide +kernel
theorem dX12_carry_17 : decode cX12_carry 17 = .ok (.aload_n 0, 1) := by decide +kernel
theorem dX12_carry_18 : decode cX12_carry 18 = .ok (.dup, 1) := by decide +kernel
theorem dX12_carry_19 : decode cX12_carry 19 = .ok (.getfield 206, 3) := by decide +kernel
theorem dX12_carry_22 : decode cX12_carry 22 = .ok (.iconst 1, 1) := by decide +kernel
theorem dX12_carry_23 : decode cX12_carry 23 = .ok (.iadd, 1) := by decide +kernel
theorem dX12_carry_24 : decode cX12_carry 24 = .ok (.putfield 206, 3) := by decide +kernel
theorem dX12_carry_27 : decode cX12_carry 27 = .ok (.aload_n 0, 1) := by decide +kernel
theorem dX12_carry_28 : decode cX12_carry 28 = .ok (.getfield 203, 3) := by decide +kernel
theorem dX12_carry_31 : decode cX12_carry 31 = .ok (.aload_n 0, 1) := by decide +kernel
theorem dX12_carry_32 : decode cX12_carry 32 = .ok (.getfield 206, 3) := by decide +kernel
theorem dX12_carry_35 : decode cX12_carry 35 = .ok (.iconst 1, 1) := by decide +kernel
theorem dX12_carry_36 : decode cX12_carry 36 = .ok (.isub, 1) := by decide +kernel
theorem dX12_carry_37 : decode cX12_carry 37 = .ok (.iaload, 1) := by decide +kernel
theorem dX12_carry_38 : decode cX12_carry 38 = .ok (.ireturn, 1) := by decide +kernel
theorem dX12_carryAll_0 : decode cX12_carryAll 0 = .ok (.aload_n 0, 1) := by decide +kernel
theorem dX12_carryAll_1 : decode cX12_carryAll 1 = .ok (.aload_n 1, 1) := by decide +kernel
theorem dX12_carryAll_2 : decode cX12_carryAll 2 = .ok (.putfield 203, 3) := by decide +kernel
theorem dX12_carryAll_5 : decode cX12_carryAll 5 = .ok (.aload_n 0, 1) := by decide +kernel
theorem dX12_carryAll_6 : decode cX12_carryAll 6 = .ok (.iload_n 2, 1) := by decide +kernel
theorem dX12_carryAll_7 : decode cX12_carryAll 7 = .ok (.putfield 200, 3) := by decide +kernel
theorem dX12_carryAll_10 : decode cX12_carryAll 10 = .ok (.aload_n 0, 1) := by decide +kernel
theorem dX12_carryAll_11 : decode cX12_carryAll 11 = .ok (.iconst 0, 1) := by decide +kernel
theorem dX12_carryAll_12 : decode cX12_carryAll 12 = .ok (.putfield 206, 3) := by decide +kernel
theorem dX12_carryAll_15 : decode cX12_carryAll 15 = .ok (.aload_n 0, 1) := by decide +kernel
theorem dX12_carryAll_16 : decode cX12_carryAll 16 = .ok (.aload_n 0, 1) := by decide +kernel
theorem dX12_carryAll_17 : decode cX12_carryAll 17 = .ok (.aload_n 0, 1) := by decide +kernel
theorem dX12_carryAll_18 : decode cX12_carryAll 18 = .ok (.getfield 84, 3) := by decide +kernel
theorem dX12_carryAll_21 : decode cX12_carryAll 21 = .ok (.invokevirtual 209, 3) := by decide +kernel
theorem dX12_carryAll_24 : decode cX12_carryAll 24 = .ok (.putfield 84, 3) := by decide +kernel
theorem dX12_carryAll_27 : decode cX12_carryAll 27 = .ok (.aload_n 0, 1) := by decide +kernel
theorem dX12_carryAll_28 : decode cX12_carryAll 28 = .ok (.aload_n 0, 1) := by decide +kernel
theorem dX12_carryAll_29 : decode cX12_carryAll 29 = .ok (.aload_n 0, 1) := by decide +kernel
theorem dX12_carryAll_30 : decode cX12_carryAll 30 = .ok (.getfield 123, 3) := by decide +kernel
theorem dX12_carryAll_33 : decode cX12_carryAll 33 = .ok (.invokevirtual 209, 3) := by decide +kernel
theorem dX12_carryAll_36 : decode cX12_carryAll 36 = .ok (.putfield 123, 3) := by decide +kernel
theorem dX12_carryAll_39 : decode cX12_carryAll 39 = .ok (.iconst 0, 1) := by decide +kernel
theorem dX12_carryAll_40 : decode cX12_carryAll 40 = .ok (.istore_n 3, 1) := by decide +kernel
theorem dX12_carryAll_41 : decode cX12_carryAll 41 = .ok (.iload_n 3, 1) := by decide +kernel
theorem dX12_carryAll_42 : decode cX12_carryAll 42 = .ok (.bipush 15, 2) := by decide +kernel
theorem dX12_carryAll_44 : decode cX12_carryAll 44 = .ok (.if_icmp .ge 25, 3) := by decide +kernel
theorem dX12_carryAll_47 : decode cX12_carryAll 47 = .ok (.aload_n 0, 1) := by decide +kernel
theorem dX12_carryAll_48 : decode cX12_carryAll 48 = .ok (.getfield 7, 3) := by decide +kernel
theorem dX12_carryAll_51 : decode cX12_carryAll 51 = .ok (.iload_n 3, 1) := by decide +kernel
theorem dX12_carryAll_52 : decode cX12_carryAll 52 = .ok (.aload_n 0, 1) := by decide +kernel
theorem dX12_carryAll_53 : decode cX12_carryAll 53 = .ok (.aload_n 0, 1) := by decide +kernel
theorem dX12_carryAll_54 : decode cX12_carryAll 54 = .ok (.getfield 7, 3) := by decide +kernel
theorem dX12_carryAll_57 : decode cX12_carryAll 57 = .ok (.iload_n 3, 1) := by decide +kernel
theorem dX12_carryAll_58 : decode cX12_carryAll 58 = .ok (.iaload, 1) := by decide +kernel
theorem dX12_carryAll_59 : decode cX12_carryAll 59 = .ok (.invokevirtual 209, 3) := by decide +kernel
theorem dX12_carryAll_62 : decode cX12_carryAll 62 = .ok (.iastore, 1) := by decide +kernel
theorem dX12_carryAll_63 : decode cX12_carryAll 63 = .ok (.iinc 3 1, 3) := by decide +kernel
theorem dX12_carryAll_66 : decode cX12_carryAll 66 = .ok (.goto (-25), 3) := by decide +kernel
theorem dX12_carryAll_69 : decode cX12_carryAll 69 = .ok (.iconst 0, 1) := by decide +kernel
theorem dX12_carryAll_70 : decode cX12_carryAll 70 = .ok (.istore_n 3, 1) := by decide +kernel
theorem dX12_carryAll_71 : decode cX12_carryAll 71 = .ok (.iload_n 3, 1) := by decide +kernel
theorem dX12_carryAll_72 : decode cX12_carryAll 72 = .ok (.bipush 6, 2) := by decide +kernel
theorem dX12_carryAll_74 : decode cX12_carryAll 74 = .ok (.if_icmp .ge 89, 3) := by decide +kernel
theorem dX12_carryAll_77 : decode cX12_carryAll 77 = .ok (.aload_n 0, 1) := by decide +kernel
theorem dX12_carryAll_78 : decode cX12_carryAll 78 = .ok (.getfield 13, 3) := by decide +kernel
theorem dX12_carryAll_81 : decode cX12_carryAll 81 = .ok (.iload_n 3, 1) := by decide +kernel
theorem dX12_carryAll_82 : decode cX12_carryAll 82 = .ok (.aload_n 0, 1) := by decide +kernel
theorem dX12_carryAll_83 : decode cX12_carryAll 83 = .ok (.aload_n 0, 1) := by decide +kernel
theorem dX12_carryAll_84 : decode cX12_carryAll 84 = .ok (.getfield 13, 3) := by decide +kernel
theorem dX12_carryAll_87 : decode cX12_carryAll 87 = .ok (.iload_n 3, 1) := by decide +kernel
theorem dX12_carryAll_88 : decode cX12_carryAll 88 = .ok (.iaload, 1) := by decide +kernel
theorem dX12_carryAll_89 : decode cX12_carryAll 89 = .ok (.invokevirtual 209, 3) := by decide +kernel
theorem dX12_carryAll_92 : decode cX12_carryAll 92 = .ok (.iastore, 1) := by decide +kernel
theorem dX12_carryAll_93 : decode cX12_carryAll 93 = .ok (.aload_n 0, 1) := by decide +kernel
theorem dX12_carryAll_94 : decode cX12_carryAll 94 = .ok (.getfield 16, 3) := by decide +kernel
theorem dX12_carryAll_97 : decode cX12_carryAll 97 = .ok (.iload_n 3, 1) := by decide +kernel
theorem dX12_carryAll_98 : decode cX12_carryAll 98 = .ok (.aload_n 0, 1) := by decide +kernel
theorem dX12_carryAll_99 : decode cX12_carryAll 99 = .ok (.aload_n 0, 1) := by decide +kernel
theorem dX12_carryAll_100 : decode cX12_carryAll 100 = .ok (.getfield 16, 3) := by decide +kernel
theorem dX12_carryAll_103 : decode cX12_carryAll 103 = .ok (.iload_n 3, 1) := by decide +kernel
theorem dX12_carryAll_104 : decode cX12_carryAll 104 = .ok (.iaload, 1) := by decide +kernel
theorem dX12_carryAll_105 : decode cX12_carryAll 105 = .ok (.invokevirtual 209, 3) := by decide +kernel
theorem dX12_carryAll_108 : decode cX12_carryAll 108 = .ok (.iastore, 1) := by decide +kernel
theorem dX12_carryAll_109 : decode cX12_carryAll 109 = .ok (.aload_n 0, 1) := by decide +kernel
theorem dX12_carryAll_110 : decode cX12_carryAll 110 = .ok (.getfield 19, 3) := by decide +kernel
theorem dX12_carryAll_113 : decode cX12_carryAll 113 = .ok (.iload_n 3, 1) := by decide +kernel
theorem dX12_carryAll_114 : decode cX12_carryAll 114 = .ok (.aload_n 0, 1) := by decide +kernel
theorem dX12_carryAll_115 : decode cX12_carryAll 115 = .ok (.aload_n 0, 1) := by decide +kernel
theorem dX12_carryAll_116 : decode cX12_carryAll 116 = .ok (.getfield 19, 3) := by decide +kernel
theorem dX12_carryAll_119 : decode cX12_carryAll 119 = .ok (.iload_n 3, 1) := by decide +kernel
theorem dX12_carryAll_120 : decode cX12_carryAll 120 = .ok (.iaload, 1) := by decide +kernel
theorem dX12_carryAll_121 : decode cX12_carryAll 121 = .ok (.invokevirtual 209, 3) := by decide +kernel
theorem dX12_carryAll_124 : decode cX12_carryAll 124 = .ok (.iastore, 1) := by decide +kernel
theorem dX12_carryAll_125 : decode cX12_carryAll 125 = .ok (.aload_n 0, 1) := by decide +kernel
theorem dX12_carryAll_126 : decode cX12_carryAll 126 = .ok (.getfield 22, 3) := by decide +kernel
theorem dX12_carryAll_129 : decode cX12_carryAll 129 = .ok (.iload_n 3, 1) := by decide +kernel
theorem dX12_carryAll_130 : decode cX12_carryAll 130 = .ok (.aload_n 0, 1) := by decide +kernel
theorem dX12_carryAll_131 : decode cX12_carryAll 131 = .ok (.aload_n 0, 1) := by decide +kernel
theorem dX12_carryAll_132 : decode cX12_carryAll 132 = .ok (.getfield 22, 3) := by decide +kernel
theorem dX12_carryAll_135 : decode cX12_carryAll 135 = .ok (.iload_n 3, 1) := by decide +kernel
theorem dX12_carryAll_136 : decode cX12_carryAll 136 = .ok (.iaload, 1) := by decide +kernel
theorem dX12_carryAll_137 : decode cX12_carryAll 137 = .ok (.invokevirtual 209, 3) := by decide +kernel
theorem dX12_carryAll_140 : decode cX12_carryAll 140 = .ok (.iastore, 1) := by decide +kernel
theorem dX12_carryAll_141 : decode cX12_carryAll 141 = .ok (.aload_n 0, 1) := by decide +kernel
theorem dX12_carryAll_142 : decode cX12_carryAll 142 = .ok (.getfield 25, 3) := by decide +kernel
theorem dX12_carryAll_145 : decode cX12_carryAll 145 = .ok (.iload_n 3, 1) := by decide +kernel
theorem dX12_carryAll_146 : decode cX12_carryAll 146 = .ok (.aload_n 0, 1) := by decide +kernel
theorem dX12_carryAll_147 : decode cX12_carryAll 147 = .ok (.aload_n 0, 1) := by decide +kernel
theorem dX12_carryAll_148 : decode cX12_carryAll 148 = .ok (.getfield 25, 3) := by decide +kernel
theorem dX12_carryAll_151 : decode cX12_carryAll 151 = .ok (.iload_n 3, 1) := by decide +kernel
theorem dX12_carryAll_152 : decode cX12_carryAll 152 = .ok (.iaload, 1) := by decide +kernel
theorem dX12_carryAll_153 : decode cX12_carryAll 153 = .ok (.invokevirtual 209, 3) := by decide +kernel
theorem dX12_carryAll_156 : decode cX12_carryAll 156 = .ok (.iastore, 1) := by decide +kernel
theorem dX12_carryAll_157 : decode cX12_carryAll 157 = .ok (.iinc 3 1, 3) := by decide +kernel
theorem dX12_carryAll_160 : decode cX12_carryAll 160 = .ok (.goto (-89), 3) := by decide +kernel
theorem dX12_carryAll_163 : decode cX12_carryAll 163 = .ok (.return_, 1) := by decide +kernel
theorem dX12_open_0 : decode cX12_open 0 = .ok (.aload_n 0, 1) := by decide +kernel
theorem dX12_open_1 : decode cX12_open 1 = .ok (.aload_n 0, 1) := by decide +kernel
theorem dX12_open_2 : decode cX12_open 2 = .ok (.getfield 62, 3) := by decide +kernel
theorem dX12_open_5 : decode cX12_open 5 = .ok (.iconst 1, 1) := by decide +kernel
theorem dX12_open_6 : decode cX12_open 6 = .ok (.invokevirtual 212, 3) := by decide +kernel
theorem dX12_open_9 : decode cX12_open 9 = .ok (.return_, 1) := by decide +kernel
theorem dX12_close_0 : decode cX12_close 0 = .ok (.aload_n 0, 1) := by decide +kernel
theorem dX12_close_1 : decode cX12_close 1 = .ok (.aload_n 0, 1) := by decide +kernel
theorem dX12_close_2 : decode cX12_close 2 = .ok (.getfield 62, 3) := by decide +kernel
theorem dX12_close_5 : decode cX12_close 5 = .ok (.iconst 0, 1) := by decide +kernel
theorem dX12_close_6 : decode cX12_close 6 = .ok (.invokevirtual 212, 3) := by decide +kernel
theorem dX12_close_9 : decode cX12_close 9 = .ok (.return_, 1) := by decide +kernel
theorem dX12_image_0 : decode cX12_image 0 = .ok (.aload_n 0, 1) := by decide +kernel
theorem dX12_image_1 : decode cX12_image 1 = .ok (.iconst 0, 1) := by decide +kernel
theorem dX12_image_2 : decode cX12_image 2 = .ok (.putfield 74, 3) := by decide +kernel
theorem dX12_image_5 : decode cX12_image 5 = .ok (.aload_n 0, 1) := by decide +kernel
theorem dX12_image_6 : decode cX12_image 6 = .ok (.iconst 1, 1) := by decide +kernel
theorem dX12_image_7 : decode cX12_image 7 = .ok (.putfield 216, 3) := by decide +kernel
theorem dX12_image_10 : decode cX12_image 10 = .ok (.aload_n 0, 1) := by decide +kernel
theorem dX12_image_11 : decode cX12_image 11 = .ok (.aload_n 0, 1) := by decide +kernel
theorem dX12_image_12 : decode cX12_image 12 = .ok (.getfield 65, 3) := by decide +kernel
theorem dX12_image_15 : decode cX12_image 15 = .ok (.iconst 1, 1) := by decide +kernel
theorem dX12_image_16 : decode cX12_image 16 = .ok (.invokevirtual 212, 3) := by decide +kernel
theorem dX12_image_19 : decode cX12_image 19 = .ok (.aload_n 0, 1) := by decide +kernel
theorem dX12_image_20 : decode cX12_image 20 = .ok (.getfield 123, 3) := by decide +kernel
theorem dX12_image_23 : decode cX12_image 23 = .ok (.ireturn, 1) := by decide +kernel
theorem dX12_restore_0 : decode cX12_restore 0 = .ok (.aload_n 0, 1) := by decide +kernel
theorem dX12_restore_1 : decode cX12_restore 1 = .ok (.iconst 0, 1) := by decide +kernel
theorem dX12_restore_2 : decode cX12_restore 2 = .ok (.putfield 74, 3) := by decide +kernel
theorem dX12_restore_5 : decode cX12_restore 5 = .ok (.aload_n 0, 1) := by decide +kernel
theorem dX12_restore_6 : decode cX12_restore 6 = .ok (.getfield 216, 3) := by decide +kernel
theorem dX12_restore_9 : decode cX12_restore 9 = .ok (.ifCond .ne 6, 3) := by decide +kernel
theorem dX12_restore_12 : decode cX12_restore 12 = .ok (.bipush (-3), 2) := by decide +kernel
theorem dX12_restore_14 : decode cX12_restore 14 = .ok (.ireturn, 1) := by decide +kernel
theorem dX12_restore_15 : decode cX12_restore 15 = .ok (.aload_n 0, 1) := by decide +kernel
theorem dX12_restore_16 : decode cX12_restore 16 = .ok (.aload_n 0, 1) := by decide +kernel
theorem dX12_restore_17 : decode cX12_restore 17 = .ok (.getfield 65, 3) := by decide +kernel
theorem dX12_restore_20 : decode cX12_restore 20 = .ok (.iconst 0, 1) := by decide +kernel
theorem dX12_restore_21 : decode cX12_restore 21 = .ok (.invokevirtual 212, 3) := by decide +kernel
theorem dX12_restore_24 : decode cX12_restore 24 = .ok (.aload_n 0, 1) := by decide +kernel
theorem dX12_restore_25 : decode cX12_restore 25 = .ok (.getfield 123, 3) := by decide +kernel
theorem dX12_restore_28 : decode cX12_restore 28 = .ok (.ireturn, 1) := by decide +kernel
theorem dX12_walker_0 : decode cX12_walker 0 = .ok (.aload_n 0, 1) := by decide +kernel
theorem dX12_walker_1 : decode cX12_walker 1 = .ok (.iconst 0, 1) := by decide +kernel
theorem dX12_walker_2 : decode cX12_walker 2 = .ok (.putfield 74, 3) := by decide +kernel
theorem dX12_walker_5 : decode cX12_walker 5 = .ok (.aload_n 0, 1) := by decide +kernel
theorem dX12_walker_6 : decode cX12_walker 6 = .ok (.iload_n 1, 1) := by decide +kernel
theorem dX12_walker_7 : decode cX12_walker 7 = .ok (.invokevirtual 176, 3) := by decide +kernel
theorem dX12_walker_10 : decode cX12_walker 10 = .ok (.ifCond .ne 5, 3) := by decide +kernel
theorem dX12_walker_13 : decode cX12_walker 13 = .ok (.iconst (-1), 1) := by decide +kernel
theorem dX12_walker_14 : decode cX12_walker 14 = .ok (.ireturn, 1) := by decide +kernel
theorem dX12_walker_15 : decode cX12_walker 15 = .ok (.iload_n 2, 1) := by decide +kernel
theorem dX12_walker_16 : decode cX12_walker 16 = .ok (.tableswitch 132 0 8 #[52, 59, 66, 73, 80, 108, 114, 120, 126], 52) := by decide +kernel
theorem dX12_walker_68 : decode cX12_walker 68 = .ok (.aload_n 0, 1) := by decide +kernel
theorem dX12_walker_69 : decode cX12_walker 69 = .ok (.getfield 13, 3) := by decide +kernel
theorem dX12_walker_72 : decode cX12_walker 72 = .ok (.iload_n 1, 1) := by decide +kernel
theorem dX12_walker_73 : decode cX12_walker 73 = .ok (.iaload, 1) := by decide +kernel
theorem dX12_walker_74 : decode cX12_walker 74 = .ok (.ireturn, 1) := by decide +kernel
theorem dX12_walker_75 : decode cX12_walker 75 = .ok (.aload_n 0, 1) := by decide +kernel
theorem dX12_walker_76 : decode cX12_walker 76 = .ok (.getfield 16, 3) := by decide +kernel
theorem dX12_walker_79 : decode cX12_walker 79 = .ok (.iload_n 1, 1) := by decide +kernel
theorem dX12_walker_80 : decode cX12_walker 80 = .ok (.iaload, 1) := by decide +kernel
theorem dX12_walker_81 : decode cX12_walker 81 = .ok (.ireturn, 1) := by decide +kernel
theorem dX12_walker_82 : decode cX12_walker 82 = .ok (.aload_n 0, 1) := by decide +kernel
theorem dX12_walker_83 : decode cX12_walker 83 = .ok (.getfield 19, 3) := by decide +kernel
theorem dX12_walker_86 : decode cX12_walker 86 = .ok (.iload_n 1, 1) := by decide +kernel
theorem dX12_walker_87 : decode cX12_walker 87 = .ok (.iaload, 1) := by decide +kernel
theorem dX12_walker_88 : decode cX12_walker 88 = .ok (.ireturn, 1) := by decide +kernel
theorem dX12_walker_89 : decode cX12_walker 89 = .ok (.aload_n 0, 1) := by decide +kernel
theorem dX12_walker_90 : decode cX12_walker 90 = .ok (.getfield 22, 3) := by decide +kernel
theorem dX12_walker_93 : decode cX12_walker 93 = .ok (.iload_n 1, 1) := by decide +kernel
theorem dX12_walker_94 : decode cX12_walker 94 = .ok (.iaload, 1) := by decide +kernel
theorem dX12_walker_95 : decode cX12_walker 95 = .ok (.ireturn, 1) := by decide +kernel
theorem dX12_walker_96 : decode cX12_walker 96 = .ok (.aload_n 0, 1) := by decide +kernel
theorem dX12_walker_97 : decode cX12_walker 97 = .ok (.getfield 25, 3) := by decide +kernel
theorem dX12_walker_100 : decode cX12_walker 100 = .ok (.iload_n 1, 1) := by decide +kernel
theorem dX12_walker_101 : decode cX12_walker 101 = .ok (.iaload, 1) := by decide +kernel
theorem dX12_walker_102 : decode cX12_walker 102 = .ok (.ifCond .ne 7, 3) := by decide +kernel
theorem dX12_walker_105 : decode cX12_walker 105 = .ok (.iconst 0, 1) := by decide +kernel
theorem dX12_walker_106 : decode cX12_walker 106 = .ok (.goto 17, 3) := by decide +kernel
theorem dX12_walker_109 : decode cX12_walker 109 = .ok (.aload_n 0, 1) := by decide +kernel
theorem dX12_walker_110 : decode cX12_walker 110 = .ok (.getfield 25, 3) := by decide +kernel
theorem dX12_walker_113 : decode cX12_walker 113 = .ok (.iload_n 1, 1) := by decide +kernel
theorem dX12_walker_114 : decode cX12_walker 114 = .ok (.iaload, 1) := by decide +kernel
theorem dX12_walker_115 : decode cX12_walker 115 = .ok (.ifCond .ge 7, 3) := by decide +kernel
theorem dX12_walker_118 : decode cX12_walker 118 = .ok (.iconst 1, 1) := by decide +kernel
theorem dX12_walker_119 : decode cX12_walker 119 = .ok (.goto 4, 3) := by decide +kernel
theorem dX12_walker_122 : decode cX12_walker 122 = .ok (.iconst 2, 1) := by decide +kernel
theorem dX12_walker_123 : decode cX12_walker 123 = .ok (.ireturn, 1) := by decide +kernel
theorem dX12_walker_124 : decode cX12_walker 124 = .ok (.aload_n 0, 1) := by decide +kernel
theorem dX12_walker_125 : decode cX12_walker 125 = .ok (.iload_n 1, 1) := by decide +kernel
theorem dX12_walker_126 : decode cX12_walker 126 = .ok (.invokevirtual 104, 3) := by decide +kernel
theorem dX12_walker_129 : decode cX12_walker 129 = .ok (.ireturn, 1) := by decide +kernel
theorem dX12_walker_130 : decode cX12_walker 130 = .ok (.aload_n 0, 1) := by decide +kernel
theorem dX12_walker_131 : decode cX12_walker 131 = .ok (.iload_n 1, 1) := by decide +kernel
theorem dX12_walker_132 : decode cX12_walker 132 = .ok (.invokevirtual 117, 3) := by decide +kernel
theorem dX12_walker_135 : decode cX12_walker 135 = .ok (.ireturn, 1) := by decide +kernel
theorem dX12_walker_136 : decode cX12_walker 136 = .ok (.aload_n 0, 1) := by decide +kernel
theorem dX12_walker_137 : decode cX12_walker 137 = .ok (.iload_n 1, 1) := by decide +kernel
theorem dX12_walker_138 : decode cX12_walker 138 = .ok (.invokevirtual 219, 3) := by decide +kernel
theorem dX12_walker_141 : decode cX12_walker 141 = .ok (.ireturn, 1) := by decide +kernel
theorem dX12_walker_142 : decode cX12_walker 142 = .ok (.aload_n 0, 1) := by decide +kernel
theorem dX12_walker_143 : decode cX12_walker 143 = .ok (.iload_n 1, 1) := by decide +kernel
theorem dX12_walker_144 : decode cX12_walker 144 = .ok (.invokevirtual 101, 3) := by decide +kernel
theorem dX12_walker_147 : decode cX12_walker 147 = .ok (.ireturn, 1) := by decide +kernel
theorem dX12_walker_148 : decode cX12_walker 148 = .ok (.iconst (-1), 1) := by decide +kernel
theorem dX12_walker_149 : decode cX12_walker 149 = .ok (.ireturn, 1) := by decide +kernel
theorem dX12_height_0 : decode cX12_height 0 = .ok (.aload_n 0, 1) := by decide +kernel
theorem dX12_height_1 : decode cX12_height 1 = .ok (.iconst 0, 1) := by decide +kernel
theorem dX12_height_2 : decode cX12_height 2 = .ok (.putfield 74, 3) := by decide +kernel
theorem dX12_height_5 : decode cX12_height 5 = .ok (.iload_n 1, 1) := by decide +kernel
theorem dX12_height_6 : decode cX12_height 6 = .ok (.invokestatic 113, 3) := by decide +kernel
theorem dX12_height_9 : decode cX12_height 9 = .ok (.ifCond .eq 12, 3) := by decide +kernel
theorem dX12_height_12 : decode cX12_height 12 = .ok (.aload_n 0, 1) := by decide +kernel
theorem dX12_height_13 : decode cX12_height 13 = .ok (.getfield 7, 3) := by decide +kernel
theorem dX12_height_16 : decode cX12_height 16 = .ok (.iload_n 1, 1) := by decide +kernel
theorem dX12_height_17 : decode cX12_height 17 = .ok (.iaload, 1) := by decide +kernel
theorem dX12_height_18 : decode cX12_height 18 = .ok (.goto 4, 3) := by decide +kernel
theorem dX12_height_21 : decode cX12_height 21 = .ok (.iconst (-1), 1) := by decide +kernel
theorem dX12_height_22 : decode cX12_height 22 = .ok (.ireturn, 1) := by decide +kernel
theorem dX12_wrongKept_0 : decode cX12_wrongKept 0 = .ok (.iload_n 1, 1) := by decide +kernel
theorem dX12_wrongKept_1 : decode cX12_wrongKept 1 = .ok (.i2l, 1) := by decide +kernel
theorem dX12_wrongKept_2 : decode cX12_wrongKept 2 = .ok (.lconst 0, 1) := by decide +kernel
theorem dX12_wrongKept_3 : decode cX12_wrongKept 3 = .ok (.ldc2_w 222, 3) := by decide +kernel
theorem dX12_wrongKept_6 : decode cX12_wrongKept 6 = .ok (.invokestatic 80, 3) := by decide +kernel
theorem dX12_wrongKept_9 : decode cX12_wrongKept 9 = .ok (.ifCond .ne 7, 3) := by decide +kernel
theorem dX12_wrongKept_12 : decode cX12_wrongKept 12 = .ok (.iconst (-1), 1) := by decide +kernel
theorem dX12_wrongKept_13 : decode cX12_wrongKept 13 = .ok (.goto 33, 3) := by decide +kernel
theorem dX12_wrongKept_16 : decode cX12_wrongKept 16 = .ok (.aload_n 0, 1) := by decide +kernel
theorem dX12_wrongKept_17 : decode cX12_wrongKept 17 = .ok (.getfield 28, 3) := by decide +kernel
theorem dX12_wrongKept_20 : decode cX12_wrongKept 20 = .ok (.iload_n 1, 1) := by decide +kernel
theorem dX12_wrongKept_21 : decode cX12_wrongKept 21 = .ok (.iaload, 1) := by decide +kernel
theorem dX12_wrongKept_22 : decode cX12_wrongKept 22 = .ok (.ifCond .ne 8, 3) := by decide +kernel
theorem dX12_wrongKept_25 : decode cX12_wrongKept 25 = .ok (.bipush (-11), 2) := by decide +kernel
theorem dX12_wrongKept_27 : decode cX12_wrongKept 27 = .ok (.goto 19, 3) := by decide +kernel
theorem dX12_wrongKept_30 : decode cX12_wrongKept 30 = .ok (.aload_n 0, 1) := by decide +kernel
theorem dX12_wrongKept_31 : decode cX12_wrongKept 31 = .ok (.getfield 28, 3) := by decide +kernel
theorem dX12_wrongKept_34 : decode cX12_wrongKept 34 = .ok (.iload_n 1, 1) := by decide +kernel
theorem dX12_wrongKept_35 : decode cX12_wrongKept 35 = .ok (.iaload, 1) := by decide +kernel
theorem dX12_wrongKept_36 : decode cX12_wrongKept 36 = .ok (.iconst 1, 1) := by decide +kernel
theorem dX12_wrongKept_37 : decode cX12_wrongKept 37 = .ok (.if_icmp .eq 8, 3) := by decide +kernel
theorem dX12_wrongKept_40 : decode cX12_wrongKept 40 = .ok (.bipush (-12), 2) := by decide +kernel
theorem dX12_wrongKept_42 : decode cX12_wrongKept 42 = .ok (.goto 4, 3) := by decide +kernel
theorem dX12_wrongKept_45 : decode cX12_wrongKept 45 = .ok (.iconst 0, 1) := by decide +kernel
theorem dX12_wrongKept_46 : decode cX12_wrongKept 46 = .ok (.ireturn, 1) := by decide +kernel
theorem dX12_comes_0 : decode cX12_comes 0 = .ok (.aload_n 0, 1) := by decide +kernel
theorem dX12_comes_1 : decode cX12_comes 1 = .ok (.iconst 0, 1) := by decide +kernel
theorem dX12_comes_2 : decode cX12_comes 2 = .ok (.putfield 74, 3) := by decide +kernel
theorem dX12_comes_5 : decode cX12_comes 5 = .ok (.iload_n 2, 1) := by decide +kernel
theorem dX12_comes_6 : decode cX12_comes 6 = .ok (.i2l, 1) := by decide +kernel
theorem dX12_comes_7 : decode cX12_comes 7 = .ok (.lconst 0, 1) := by decide +kernel
theorem dX12_comes_8 : decode cX12_comes 8 = .ok (.ldc2_w 164, 3) := by decide +kernel
theorem dX12_comes_11 : decode cX12_comes 11 = .ok (.invokestatic 80, 3) := by decide +kernel
theorem dX12_comes_14 : decode cX12_comes 14 = .ok (.ifCond .eq 18, 3) := by decide +kernel
theorem dX12_comes_17 : decode cX12_comes 17 = .ok (.iload_n 3, 1) := by decide +kernel
theorem dX12_comes_18 : decode cX12_comes 18 = .ok (.invokestatic 113, 3) := by decide +kernel
theorem dX12_comes_21 : decode cX12_comes 21 = .ok (.ifCond .eq 11, 3) := by decide +kernel
theorem dX12_comes_24 : decode cX12_comes 24 = .ok (.aload_n 0, 1) := by decide +kernel
theorem dX12_comes_25 : decode cX12_comes 25 = .ok (.iload_n 1, 1) := by decide +kernel
theorem dX12_comes_26 : decode cX12_comes 26 = .ok (.invokevirtual 224, 3) := by decide +kernel
theorem dX12_comes_29 : decode cX12_comes 29 = .ok (.goto 4, 3) := by decide +kernel
theorem dX12_comes_32 : decode cX12_comes 32 = .ok (.iconst (-1), 1) := by decide +kernel
theorem dX12_comes_33 : decode cX12_comes 33 = .ok (.istore 4, 2) := by decide +kernel
theorem dX12_comes_35 : decode cX12_comes 35 = .ok (.iload 4, 2) := by decide +kernel
theorem dX12_comes_37 : decode cX12_comes 37 = .ok (.ifCond .ge 6, 3) := by decide +kernel
theorem dX12_comes_40 : decode cX12_comes 40 = .ok (.iload 4, 2) := by decide +kernel
theorem dX12_comes_42 : decode cX12_comes 42 = .ok (.ireturn, 1) := by decide +kernel
theorem dX12_comes_43 : decode cX12_comes 43 = .ok (.aload_n 0, 1) := by decide +kernel
theorem dX12_comes_44 : decode cX12_comes 44 = .ok (.aload_n 0, 1) := by decide +kernel
theorem dX12_comes_45 : decode cX12_comes 45 = .ok (.getfield 31, 3) := by decide +kernel
theorem dX12_comes_48 : decode cX12_comes 48 = .ok (.iload_n 1, 1) := by decide +kernel
theorem dX12_comes_49 : decode cX12_comes 49 = .ok (.iaload, 1) := by decide +kernel
theorem dX12_comes_50 : decode cX12_comes 50 = .ok (.aload_n 0, 1) := by decide +kernel
theorem dX12_comes_51 : decode cX12_comes 51 = .ok (.getfield 34, 3) := by decide +kernel
theorem dX12_comes_54 : decode cX12_comes 54 = .ok (.iload_n 1, 1) := by decide +kernel
theorem dX12_comes_55 : decode cX12_comes 55 = .ok (.iaload, 1) := by decide +kernel
theorem dX12_comes_56 : decode cX12_comes 56 = .ok (.iload_n 2, 1) := by decide +kernel
theorem dX12_comes_57 : decode cX12_comes 57 = .ok (.iload_n 3, 1) := by decide +kernel
theorem dX12_comes_58 : decode cX12_comes 58 = .ok (.invokevirtual 172, 3) := by decide +kernel
theorem dX12_comes_61 : decode cX12_comes 61 = .ok (.ifCond .eq 12, 3) := by decide +kernel
theorem dX12_comes_64 : decode cX12_comes 64 = .ok (.aload_n 0, 1) := by decide +kernel
theorem dX12_comes_65 : decode cX12_comes 65 = .ok (.getfield 84, 3) := by decide +kernel
theorem dX12_comes_68 : decode cX12_comes 68 = .ok (.iconst 1, 1) := by decide +kernel
theorem dX12_comes_69 : decode cX12_comes 69 = .ok (.isub, 1) := by decide +kernel
theorem dX12_comes_70 : decode cX12_comes 70 = .ok (.goto 5, 3) := by decide +kernel
theorem dX12_comes_73 : decode cX12_comes 73 = .ok (.bipush (-2), 2) := by decide +kernel
theorem dX12_comes_75 : decode cX12_comes 75 = .ok (.ireturn, 1) := by decide +kernel
theorem dX12_raises_0 : decode cX12_raises 0 = .ok (.aload_n 0, 1) := by decide +kernel
theorem dX12_raises_1 : decode cX12_raises 1 = .ok (.iconst 0, 1) := by decide +kernel
theorem dX12_raises_2 : decode cX12_raises 2 = .ok (.putfield 74, 3) := by decide +kernel
theorem dX12_raises_5 : decode cX12_raises 5 = .ok (.iload_n 1, 1) := by decide +kernel
theorem dX12_raises_6 : decode cX12_raises 6 = .ok (.invokestatic 113, 3) := by decide +kernel
theorem dX12_raises_9 : decode cX12_raises 9 = .ok (.ifCond .eq 15, 3) := by decide +kernel
theorem dX12_raises_12 : decode cX12_raises 12 = .ok (.iload_n 2, 1) := by decide +kernel
theorem dX12_raises_13 : decode cX12_raises 13 = .ok (.i2l, 1) := by decide +kernel
theorem dX12_raises_14 : decode cX12_raises 14 = .ok (.lconst 0, 1) := by decide +kernel
theorem dX12_raises_15 : decode cX12_raises 15 = .ok (.ldc2_w 227, 3) := by decide +kernel
theorem dX12_raises_18 : decode cX12_raises 18 = .ok (.invokestatic 80, 3) := by decide +kernel
theorem dX12_raises_21 : decode cX12_raises 21 = .ok (.ifCond .ne 5, 3) := by decide +kernel
theorem dX12_raises_24 : decode cX12_raises 24 = .ok (.iconst (-1), 1) := by decide +kernel
theorem dX12_raises_25 : decode cX12_raises 25 = .ok (.ireturn, 1) := by decide +kernel
theorem dX12_raises_26 : decode cX12_raises 26 = .ok (.aload_n 0, 1) := by decide +kernel
theorem dX12_raises_27 : decode cX12_raises 27 = .ok (.getfield 7, 3) := by decide +kernel
theorem dX12_raises_30 : decode cX12_raises 30 = .ok (.iload_n 1, 1) := by decide +kernel
theorem dX12_raises_31 : decode cX12_raises 31 = .ok (.iaload, 1) := by decide +kernel
theorem dX12_raises_32 : decode cX12_raises 32 = .ok (.istore_n 3, 1) := by decide +kernel
theorem dX12_raises_33 : decode cX12_raises 33 = .ok (.aload_n 0, 1) := by decide +kernel
theorem dX12_raises_34 : decode cX12_raises 34 = .ok (.getfield 7, 3) := by decide +kernel
theorem dX12_raises_37 : decode cX12_raises 37 = .ok (.iload_n 1, 1) := by decide +kernel
