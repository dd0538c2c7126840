theorem dX12_raises_38 : decode cX12_raises 38 = .ok (.iload_n 2, 1) := by decide +kernel
theorem dX12_raises_39 : decode cX12_raises 39 = .ok (.iastore, 1) := by decide +kernel
theorem dX12_raises_40 : decode cX12_raises 40 = .ok (.iload_n 3, 1) := by decide +kernel
theorem dX12_raises_41 : decode cX12_raises 41 = .ok (.ireturn, 1) := by decide +kernel
theorem dX12_moves_0 : decode cX12_moves 0 = .ok (.aload_n 0, 1) := by decide +kernel
theorem dX12_moves_1 : decode cX12_moves 1 = .ok (.iconst 0, 1) := by decide +kernel
theorem dX12_moves_2 : decode cX12_moves 2 = .ok (.putfield 74, 3) := by decide +kernel
theorem dX12_moves_5 : decode cX12_moves 5 = .ok (.aload_n 0, 1) := by decide +kernel
theorem dX12_moves_6 : decode cX12_moves 6 = .ok (.iload_n 1, 1) := by decide +kernel
theorem dX12_moves_7 : decode cX12_moves 7 = .ok (.invokevirtual 176, 3) := by decide +kernel
theorem dX12_moves_10 : decode cX12_moves 10 = .ok (.ifCond .eq 10, 3) := by decide +kernel
theorem dX12_moves_13 : decode cX12_moves 13 = .ok (.iload_n 2, 1) := by decide +kernel
theorem dX12_moves_14 : decode cX12_moves 14 = .ok (.invokestatic 113, 3) := by decide +kernel
theorem dX12_moves_17 : decode cX12_moves 17 = .ok (.ifCond .ne 5, 3) := by decide +kernel
theorem dX12_moves_20 : decode cX12_moves 20 = .ok (.iconst (-1), 1) := by decide +kernel
theorem dX12_moves_21 : decode cX12_moves 21 = .ok (.ireturn, 1) := by decide +kernel
theorem dX12_moves_22 : decode cX12_moves 22 = .ok (.aload_n 0, 1) := by decide +kernel
theorem dX12_moves_23 : decode cX12_moves 23 = .ok (.getfield 22, 3) := by decide +kernel
theorem dX12_moves_26 : decode cX12_moves 26 = .ok (.iload_n 1, 1) := by decide +kernel
theorem dX12_moves_27 : decode cX12_moves 27 = .ok (.iaload, 1) := by decide +kernel
theorem dX12_moves_28 : decode cX12_moves 28 = .ok (.istore_n 3, 1) := by decide +kernel
theorem dX12_moves_29 : decode cX12_moves 29 = .ok (.aload_n 0, 1) := by decide +kernel
theorem dX12_moves_30 : decode cX12_moves 30 = .ok (.getfield 22, 3) := by decide +kernel
theorem dX12_moves_33 : decode cX12_moves 33 = .ok (.iload_n 1, 1) := by decide +kernel
theorem dX12_moves_34 : decode cX12_moves 34 = .ok (.iload_n 2, 1) := by decide +kernel
theorem dX12_moves_35 : decode cX12_moves 35 = .ok (.iastore, 1) := by decide +kernel
theorem dX12_moves_36 : decode cX12_moves 36 = .ok (.iload_n 3, 1) := by decide +kernel
theorem dX12_moves_37 : decode cX12_moves 37 = .ok (.ireturn, 1) := by decide +kernel
theorem dX12_turns_0 : decode cX12_turns 0 = .ok (.aload_n 0, 1) := by decide +kernel
theorem dX12_turns_1 : decode cX12_turns 1 = .ok (.iconst 0, 1) := by decide +kernel
theorem dX12_turns_2 : decode cX12_turns 2 = .ok (.putfield 74, 3) := by decide +kernel
theorem dX12_turns_5 : decode cX12_turns 5 = .ok (.aload_n 0, 1) := by decide +kernel
theorem dX12_turns_6 : decode cX12_turns 6 = .ok (.iload_n 1, 1) := by decide +kernel
theorem dX12_turns_7 : decode cX12_turns 7 = .ok (.invokevirtual 176, 3) := by decide +kernel
theorem dX12_turns_10 : decode cX12_turns 10 = .ok (.ifCond .eq 15, 3) := by decide +kernel
theorem dX12_turns_13 : decode cX12_turns 13 = .ok (.iload_n 2, 1) := by decide +kernel
theorem dX12_turns_14 : decode cX12_turns 14 = .ok (.i2l, 1) := by decide +kernel
theorem dX12_turns_15 : decode cX12_turns 15 = .ok (.lconst 0, 1) := by decide +kernel
theorem dX12_turns_16 : decode cX12_turns 16 = .ok (.ldc2_w 229, 3) := by decide +kernel
theorem dX12_turns_19 : decode cX12_turns 19 = .ok (.invokestatic 80, 3) := by decide +kernel
theorem dX12_turns_22 : decode cX12_turns 22 = .ok (.ifCond .ne 5, 3) := by decide +kernel
theorem dX12_turns_25 : decode cX12_turns 25 = .ok (.iconst (-1), 1) := by decide +kernel
theorem dX12_turns_26 : decode cX12_turns 26 = .ok (.ireturn, 1) := by decide +kernel
theorem dX12_turns_27 : decode cX12_turns 27 = .ok (.aload_n 0, 1) := by decide +kernel
theorem dX12_turns_28 : decode cX12_turns 28 = .ok (.getfield 25, 3) := by decide +kernel
theorem dX12_turns_31 : decode cX12_turns 31 = .ok (.iload_n 1, 1) := by decide +kernel
theorem dX12_turns_32 : decode cX12_turns 32 = .ok (.iaload, 1) := by decide +kernel
theorem dX12_turns_33 : decode cX12_turns 33 = .ok (.ifCond .ne 7, 3) := by decide +kernel
theorem dX12_turns_36 : decode cX12_turns 36 = .ok (.iconst 0, 1) := by decide +kernel
theorem dX12_turns_37 : decode cX12_turns 37 = .ok (.goto 17, 3) := by decide +kernel
theorem dX12_turns_40 : decode cX12_turns 40 = .ok (.aload_n 0, 1) := by decide +kernel
theorem dX12_turns_41 : decode cX12_turns 41 = .ok (.getfield 25, 3) := by decide +kernel
theorem dX12_turns_44 : decode cX12_turns 44 = .ok (.iload_n 1, 1) := by decide +kernel
theorem dX12_turns_45 : decode cX12_turns 45 = .ok (.iaload, 1) := by decide +kernel
theorem dX12_turns_46 : decode cX12_turns 46 = .ok (.ifCond .ge 7, 3) := by decide +kernel
theorem dX12_turns_49 : decode cX12_turns 49 = .ok (.iconst 1, 1) := by decide +kernel
theorem dX12_turns_50 : decode cX12_turns 50 = .ok (.goto 4, 3) := by decide +kernel
theorem dX12_turns_53 : decode cX12_turns 53 = .ok (.iconst 2, 1) := by decide +kernel
theorem dX12_turns_54 : decode cX12_turns 54 = .ok (.istore_n 3, 1) := by decide +kernel
theorem dX12_turns_55 : decode cX12_turns 55 = .ok (.aload_n 0, 1) := by decide +kernel
theorem dX12_turns_56 : decode cX12_turns 56 = .ok (.getfield 25, 3) := by decide +kernel
theorem dX12_turns_59 : decode cX12_turns 59 = .ok (.iload_n 1, 1) := by decide +kernel
theorem dX12_turns_60 : decode cX12_turns 60 = .ok (.iload_n 2, 1) := by decide +kernel
theorem dX12_turns_61 : decode cX12_turns 61 = .ok (.invokestatic 179, 3) := by decide +kernel
theorem dX12_turns_64 : decode cX12_turns 64 = .ok (.iastore, 1) := by decide +kernel
theorem dX12_turns_65 : decode cX12_turns 65 = .ok (.iload_n 3, 1) := by decide +kernel
theorem dX12_turns_66 : decode cX12_turns 66 = .ok (.ireturn, 1) := by decide +kernel
theorem dX12_days_0 : decode cX12_days 0 = .ok (.aload_n 0, 1) := by decide +kernel
theorem dX12_days_1 : decode cX12_days 1 = .ok (.iconst 0, 1) := by decide +kernel
theorem dX12_days_2 : decode cX12_days 2 = .ok (.putfield 74, 3) := by decide +kernel
theorem dX12_days_5 : decode cX12_days 5 = .ok (.iload_n 1, 1) := by decide +kernel
theorem dX12_days_6 : decode cX12_days 6 = .ok (.i2l, 1) := by decide +kernel
theorem dX12_days_7 : decode cX12_days 7 = .ok (.lconst 1, 1) := by decide +kernel
theorem dX12_days_8 : decode cX12_days 8 = .ok (.ldc2_w 166, 3) := by decide +kernel
theorem dX12_days_11 : decode cX12_days 11 = .ok (.invokestatic 80, 3) := by decide +kernel
theorem dX12_days_14 : decode cX12_days 14 = .ok (.ifCond .ne 5, 3) := by decide +kernel
theorem dX12_days_17 : decode cX12_days 17 = .ok (.iconst (-1), 1) := by decide +kernel
theorem dX12_days_18 : decode cX12_days 18 = .ok (.ireturn, 1) := by decide +kernel
theorem dX12_days_19 : decode cX12_days 19 = .ok (.aload_n 0, 1) := by decide +kernel
theorem dX12_days_20 : decode cX12_days 20 = .ok (.iload_n 1, 1) := by decide +kernel
theorem dX12_days_21 : decode cX12_days 21 = .ok (.invokevirtual 182, 3) := by decide +kernel
theorem dX12_days_24 : decode cX12_days 24 = .ok (.ifCond .eq 10, 3) := by decide +kernel
theorem dX12_days_27 : decode cX12_days 27 = .ok (.aload_n 0, 1) := by decide +kernel
theorem dX12_days_28 : decode cX12_days 28 = .ok (.invokevirtual 231, 3) := by decide +kernel
theorem dX12_days_31 : decode cX12_days 31 = .ok (.goto 5, 3) := by decide +kernel
theorem dX12_days_34 : decode cX12_days 34 = .ok (.bipush (-3), 2) := by decide +kernel
theorem dX12_days_36 : decode cX12_days 36 = .ok (.ireturn, 1) := by decide +kernel
theorem dX12_ground_0 : decode cX12_ground 0 = .ok (.aload_n 0, 1) := by decide +kernel
theorem dX12_ground_1 : decode cX12_ground 1 = .ok (.iconst 0, 1) := by decide +kernel
theorem dX12_ground_2 : decode cX12_ground 2 = .ok (.putfield 74, 3) := by decide +kernel
theorem dX12_ground_5 : decode cX12_ground 5 = .ok (.iload_n 1, 1) := by decide +kernel
theorem dX12_ground_6 : decode cX12_ground 6 = .ok (.invokestatic 113, 3) := by decide +kernel
theorem dX12_ground_9 : decode cX12_ground 9 = .ok (.ifCond .eq 11, 3) := by decide +kernel
theorem dX12_ground_12 : decode cX12_ground 12 = .ok (.aload_n 0, 1) := by decide +kernel
theorem dX12_ground_13 : decode cX12_ground 13 = .ok (.iload_n 1, 1) := by decide +kernel
theorem dX12_ground_14 : decode cX12_ground 14 = .ok (.invokevirtual 234, 3) := by decide +kernel
theorem dX12_ground_17 : decode cX12_ground 17 = .ok (.goto 4, 3) := by decide +kernel
theorem dX12_ground_20 : decode cX12_ground 20 = .ok (.iconst (-1), 1) := by decide +kernel
theorem dX12_ground_21 : decode cX12_ground 21 = .ok (.ireturn, 1) := by decide +kernel
theorem dX12_water_0 : decode cX12_water 0 = .ok (.aload_n 0, 1) := by decide +kernel
theorem dX12_water_1 : decode cX12_water 1 = .ok (.iconst 0, 1) := by decide +kernel
theorem dX12_water_2 : decode cX12_water 2 = .ok (.putfield 74, 3) := by decide +kernel
theorem dX12_water_5 : decode cX12_water 5 = .ok (.iload_n 1, 1) := by decide +kernel
theorem dX12_water_6 : decode cX12_water 6 = .ok (.i2l, 1) := by decide +kernel
theorem dX12_water_7 : decode cX12_water 7 = .ok (.ldc2_w 237, 3) := by decide +kernel
theorem dX12_water_10 : decode cX12_water 10 = .ok (.ldc2_w 78, 3) := by decide +kernel
theorem dX12_water_13 : decode cX12_water 13 = .ok (.invokestatic 80, 3) := by decide +kernel
theorem dX12_water_16 : decode cX12_water 16 = .ok (.ifCond .ne 5, 3) := by decide +kernel
theorem dX12_water_19 : decode cX12_water 19 = .ok (.iconst (-1), 1) := by decide +kernel
theorem dX12_water_20 : decode cX12_water 20 = .ok (.ireturn, 1) := by decide +kernel
theorem dX12_water_21 : decode cX12_water 21 = .ok (.aload_n 0, 1) := by decide +kernel
theorem dX12_water_22 : decode cX12_water 22 = .ok (.invokevirtual 231, 3) := by decide +kernel
theorem dX12_water_25 : decode cX12_water 25 = .ok (.istore_n 2, 1) := by decide +kernel
theorem dX12_water_26 : decode cX12_water 26 = .ok (.iload_n 1, 1) := by decide +kernel
theorem dX12_water_27 : decode cX12_water 27 = .ok (.ifCond .ge 7, 3) := by decide +kernel
theorem dX12_water_30 : decode cX12_water 30 = .ok (.iload_n 2, 1) := by decide +kernel
theorem dX12_water_31 : decode cX12_water 31 = .ok (.goto 9, 3) := by decide +kernel
theorem dX12_water_34 : decode cX12_water 34 = .ok (.aload_n 0, 1) := by decide +kernel
theorem dX12_water_35 : decode cX12_water 35 = .ok (.getfield 50, 3) := by decide +kernel
theorem dX12_water_38 : decode cX12_water 38 = .ok (.iload_n 1, 1) := by decide +kernel
theorem dX12_water_39 : decode cX12_water 39 = .ok (.iaload, 1) := by decide +kernel
theorem dX12_water_40 : decode cX12_water 40 = .ok (.ireturn, 1) := by decide +kernel
theorem dX12_lakes_0 : decode cX12_lakes 0 = .ok (.aload_n 0, 1) := by decide +kernel
theorem dX12_lakes_1 : decode cX12_lakes 1 = .ok (.iconst 0, 1) := by decide +kernel
theorem dX12_lakes_2 : decode cX12_lakes 2 = .ok (.putfield 74, 3) := by decide +kernel
theorem dX12_lakes_5 : decode cX12_lakes 5 = .ok (.aload_n 0, 1) := by decide +kernel
theorem dX12_lakes_6 : decode cX12_lakes 6 = .ok (.invokevirtual 231, 3) := by decide +kernel
theorem dX12_lakes_9 : decode cX12_lakes 9 = .ok (.pop, 1) := by decide +kernel
theorem dX12_lakes_10 : decode cX12_lakes 10 = .ok (.iconst 0, 1) := by decide +kernel
theorem dX12_lakes_11 : decode cX12_lakes 11 = .ok (.istore_n 1, 1) := by decide +kernel
theorem dX12_lakes_12 : decode cX12_lakes 12 = .ok (.iconst 1, 1) := by decide +kernel
theorem dX12_lakes_13 : decode cX12_lakes 13 = .ok (.istore_n 2, 1) := by decide +kernel
theorem dX12_lakes_14 : decode cX12_lakes 14 = .ok (.iload_n 2, 1) := by decide +kernel
theorem dX12_lakes_15 : decode cX12_lakes 15 = .ok (.bipush 14, 2) := by decide +kernel
theorem dX12_lakes_17 : decode cX12_lakes 17 = .ok (.if_icmp .ge 37, 3) := by decide +kernel
theorem dX12_lakes_20 : decode cX12_lakes 20 = .ok (.iload_n 1, 1) := by decide +kernel
theorem dX12_lakes_21 : decode cX12_lakes 21 = .ok (.aload_n 0, 1) := by decide +kernel
theorem dX12_lakes_22 : decode cX12_lakes 22 = .ok (.getfield 50, 3) := by decide +kernel
theorem dX12_lakes_25 : decode cX12_lakes 25 = .ok (.iload_n 2, 1) := by decide +kernel
theorem dX12_lakes_26 : decode cX12_lakes 26 = .ok (.iaload, 1) := by decide +kernel
theorem dX12_lakes_27 : decode cX12_lakes 27 = .ok (.ifCond .le 18, 3) := by decide +kernel
theorem dX12_lakes_30 : decode cX12_lakes 30 = .ok (.aload_n 0, 1) := by decide +kernel
theorem dX12_lakes_31 : decode cX12_lakes 31 = .ok (.getfield 50, 3) := by decide +kernel
theorem dX12_lakes_34 : decode cX12_lakes 34 = .ok (.iload_n 2, 1) := by decide +kernel
theorem dX12_lakes_35 : decode cX12_lakes 35 = .ok (.iconst 1, 1) := by decide +kernel
theorem dX12_lakes_36 : decode cX12_lakes 36 = .ok (.isub, 1) := by decide +kernel
theorem dX12_lakes_37 : decode cX12_lakes 37 = .ok (.iaload, 1) := by decide +kernel
theorem dX12_lakes_38 : decode cX12_lakes 38 = .ok (.ifCond .ne 7, 3) := by decide +kernel
theorem dX12_lakes_41 : decode cX12_lakes 41 = .ok (.iconst 1, 1) := by decide +kernel
theorem dX12_lakes_42 : decode cX12_lakes 42 = .ok (.goto 4, 3) := by decide +kernel
theorem dX12_lakes_45 : decode cX12_lakes 45 = .ok (.iconst 0, 1) := by decide +kernel
theorem dX12_lakes_46 : decode cX12_lakes 46 = .ok (.iadd, 1) := by decide +kernel
theorem dX12_lakes_47 : decode cX12_lakes 47 = .ok (.istore_n 1, 1) := by decide +kernel
theorem dX12_lakes_48 : decode cX12_lakes 48 = .ok (.iinc 2 1, 3) := by decide +kernel
theorem dX12_lakes_51 : decode cX12_lakes 51 = .ok (.goto (-37), 3) := by decide +kernel
theorem dX12_lakes_54 : decode cX12_lakes 54 = .ok (.iload_n 1, 1) := by decide +kernel
theorem dX12_lakes_55 : decode cX12_lakes 55 = .ok (.ireturn, 1) := by decide +kernel
theorem dX12_rise_0 : decode cX12_rise 0 = .ok (.aload_n 0, 1) := by decide +kernel
theorem dX12_rise_1 : decode cX12_rise 1 = .ok (.iconst 0, 1) := by decide +kernel
theorem dX12_rise_2 : decode cX12_rise 2 = .ok (.putfield 74, 3) := by decide +kernel
theorem dX12_rise_5 : decode cX12_rise 5 = .ok (.iload_n 1, 1) := by decide +kernel
theorem dX12_rise_6 : decode cX12_rise 6 = .ok (.i2l, 1) := by decide +kernel
theorem dX12_rise_7 : decode cX12_rise 7 = .ok (.lconst 0, 1) := by decide +kernel
theorem dX12_rise_8 : decode cX12_rise 8 = .ok (.ldc2_w 239, 3) := by decide +kernel
theorem dX12_rise_11 : decode cX12_rise 11 = .ok (.invokestatic 80, 3) := by decide +kernel
theorem dX12_rise_14 : decode cX12_rise 14 = .ok (.ifCond .ne 6, 3) := by decide +kernel
theorem dX12_rise_17 : decode cX12_rise 17 = .ok (.ldc 241, 2) := by decide +kernel
theorem dX12_rise_19 : decode cX12_rise 19 = .ok (.ireturn, 1) := by decide +kernel
theorem dX12_rise_20 : decode cX12_rise 20 = .ok (.aload_n 0, 1) := by decide +kernel
theorem dX12_rise_21 : decode cX12_rise 21 = .ok (.invokevirtual 107, 3) := by decide +kernel
theorem dX12_rise_24 : decode cX12_rise 24 = .ok (.aload_n 0, 1) := by decide +kernel
theorem dX12_rise_25 : decode cX12_rise 25 = .ok (.iload_n 1, 1) := by decide +kernel
theorem dX12_rise_26 : decode cX12_rise 26 = .ok (.invokevirtual 110, 3) := by decide +kernel
theorem dX12_rise_29 : decode cX12_rise 29 = .ok (.ireturn, 1) := by decide +kernel
theorem dX12_steepest_0 : decode cX12_steepest 0 = .ok (.aload_n 0, 1) := by decide +kernel
theorem dX12_steepest_1 : decode cX12_steepest 1 = .ok (.iconst 0, 1) := by decide +kernel
theorem dX12_steepest_2 : decode cX12_steepest 2 = .ok (.putfield 74, 3) := by decide +kernel
theorem dX12_steepest_5 : decode cX12_steepest 5 = .ok (.iload_n 1, 1) := by decide +kernel
theorem dX12_steepest_6 : decode cX12_steepest 6 = .ok (.i2l, 1) := by decide +kernel
theorem dX12_steepest_7 : decode cX12_steepest 7 = .ok (.lconst 0, 1) := by decide +kernel
theorem dX12_steepest_8 : decode cX12_steepest 8 = .ok (.ldc2_w 242, 3) := by decide +kernel
theorem dX12_steepest_11 : decode cX12_steepest 11 = .ok (.invokestatic 80, 3) := by decide +kernel
theorem dX12_steepest_14 : decode cX12_steepest 14 = .ok (.ifCond .ne 5, 3) := by decide +kernel
theorem dX12_steepest_17 : decode cX12_steepest 17 = .ok (.iconst (-1), 1) := by decide +kernel
theorem dX12_steepest_18 : decode cX12_steepest 18 = .ok (.ireturn, 1) := by decide +kernel
theorem dX12_steepest_19 : decode cX12_steepest 19 = .ok (.aload_n 0, 1) := by decide +kernel
theorem dX12_steepest_20 : decode cX12_steepest 20 = .ok (.invokevirtual 107, 3) := by decide +kernel
theorem dX12_steepest_23 : decode cX12_steepest 23 = .ok (.iconst 0, 1) := by decide +kernel
theorem dX12_steepest_24 : decode cX12_steepest 24 = .ok (.istore_n 2, 1) := by decide +kernel
theorem dX12_steepest_25 : decode cX12_steepest 25 = .ok (.iconst 0, 1) := by decide +kernel
theorem dX12_steepest_26 : decode cX12_steepest 26 = .ok (.istore_n 3, 1) := by decide +kernel
theorem dX12_steepest_27 : decode cX12_steepest 27 = .ok (.iconst 1, 1) := by decide +kernel
theorem dX12_steepest_28 : decode cX12_steepest 28 = .ok (.istore 4, 2) := by decide +kernel
theorem dX12_steepest_30 : decode cX12_steepest 30 = .ok (.iload 4, 2) := by decide +kernel
theorem dX12_steepest_32 : decode cX12_steepest 32 = .ok (.bipush 14, 2) := by decide +kernel
theorem dX12_steepest_34 : decode cX12_steepest 34 = .ok (.if_icmp .ge 63, 3) := by decide +kernel
theorem dX12_steepest_37 : decode cX12_steepest 37 = .ok (.aload_n 0, 1) := by decide +kernel
theorem dX12_steepest_38 : decode cX12_steepest 38 = .ok (.iload 4, 2) := by decide +kernel
theorem dX12_steepest_40 : decode cX12_steepest 40 = .ok (.invokevirtual 110, 3) := by decide +kernel
theorem dX12_steepest_43 : decode cX12_steepest 43 = .ok (.invokestatic 91, 3) := by decide +kernel
theorem dX12_steepest_46 : decode cX12_steepest 46 = .ok (.aload_n 0, 1) := by decide +kernel
theorem dX12_steepest_47 : decode cX12_steepest 47 = .ok (.iload_n 2, 1) := by decide +kernel
theorem dX12_steepest_48 : decode cX12_steepest 48 = .ok (.invokevirtual 110, 3) := by decide +kernel
theorem dX12_steepest_51 : decode cX12_steepest 51 = .ok (.invokestatic 91, 3) := by decide +kernel
theorem dX12_steepest_54 : decode cX12_steepest 54 = .ok (.if_icmp .le 8, 3) := by decide +kernel
theorem dX12_steepest_57 : decode cX12_steepest 57 = .ok (.iload 4, 2) := by decide +kernel
theorem dX12_steepest_59 : decode cX12_steepest 59 = .ok (.goto 4, 3) := by decide +kernel
theorem dX12_steepest_62 : decode cX12_steepest 62 = .ok (.iload_n 2, 1) := by decide +kernel
theorem dX12_steepest_63 : decode cX12_steepest 63 = .ok (.istore_n 2, 1) := by decide +kernel
theorem dX12_steepest_64 : decode cX12_steepest 64 = .ok (.aload_n 0, 1) := by decide +kernel
theorem dX12_steepest_65 : decode cX12_steepest 65 = .ok (.iload 4, 2) := by decide +kernel
theorem dX12_steepest_67 : decode cX12_steepest 67 = .ok (.invokevirtual 110, 3) := by decide +kernel
theorem dX12_steepest_70 : decode cX12_steepest 70 = .ok (.invokestatic 91, 3) := by decide +kernel
theorem dX12_steepest_73 : decode cX12_steepest 73 = .ok (.aload_n 0, 1) := by decide +kernel
theorem dX12_steepest_74 : decode cX12_steepest 74 = .ok (.iload_n 3, 1) := by decide +kernel
theorem dX12_steepest_75 : decode cX12_steepest 75 = .ok (.invokevirtual 110, 3) := by decide +kernel
theorem dX12_steepest_78 : decode cX12_steepest 78 = .ok (.invokestatic 91, 3) := by decide +kernel
theorem dX12_steepest_81 : decode cX12_steepest 81 = .ok (.if_icmp .ge 8, 3) := by decide +kernel
theorem dX12_steepest_84 : decode cX12_steepest 84 = .ok (.iload 4, 2) := by decide +kernel
theorem dX12_steepest_86 : decode cX12_steepest 86 = .ok (.goto 4, 3) := by decide +kernel
theorem dX12_steepest_89 : decode cX12_steepest 89 = .ok (.iload_n 3, 1) := by decide +kernel
theorem dX12_steepest_90 : decode cX12_steepest 90 = .ok (.istore_n 3, 1) := by decide +kernel
theorem dX12_steepest_91 : decode cX12_steepest 91 = .ok (.iinc 4 1, 3) := by decide +kernel
theorem dX12_steepest_94 : decode cX12_steepest 94 = .ok (.goto (-64), 3) := by decide +kernel
theorem dX12_steepest_97 : decode cX12_steepest 97 = .ok (.iload_n 1, 1) := by decide +kernel
theorem dX12_steepest_98 : decode cX12_steepest 98 = .ok (.ifCond .ne 7, 3) := by decide +kernel
theorem dX12_steepest_101 : decode cX12_steepest 101 = .ok (.iload_n 2, 1) := by decide +kernel
theorem dX12_steepest_102 : decode cX12_steepest 102 = .ok (.goto 36, 3) := by decide +kernel
theorem dX12_steepest_105 : decode cX12_steepest 105 = .ok (.iload_n 1, 1) := by decide +kernel
theorem dX12_steepest_106 : decode cX12_steepest 106 = .ok (.iconst 1, 1) := by decide +kernel
theorem dX12_steepest_107 : decode cX12_steepest 107 = .ok (.if_icmp .ne 14, 3) := by decide +kernel
theorem dX12_steepest_110 : decode cX12_steepest 110 = .ok (.aload_n 0, 1) := by decide +kernel
theorem dX12_steepest_111 : decode cX12_steepest 111 = .ok (.iload_n 2, 1) := by decide +kernel
theorem dX12_steepest_112 : decode cX12_steepest 112 = .ok (.invokevirtual 110, 3) := by decide +kernel
theorem dX12_steepest_115 : decode cX12_steepest 115 = .ok (.invokestatic 91, 3) := by decide +kernel
theorem dX12_steepest_118 : decode cX12_steepest 118 = .ok (.goto 20, 3) := by decide +kernel
theorem dX12_steepest_121 : decode cX12_steepest 121 = .ok (.iload_n 1, 1) := by decide +kernel
theorem dX12_steepest_122 : decode cX12_steepest 122 = .ok (.iconst 2, 1) := by decide +kernel
theorem dX12_steepest_123 : decode cX12_steepest 123 = .ok (.if_icmp .ne 7, 3) := by decide +kernel
theorem dX12_steepest_126 : decode cX12_steepest 126 = .ok (.iload_n 3, 1) := by decide +kernel
theorem dX12_steepest_127 : decode cX12_steepest 127 = .ok (.goto 11, 3) := by decide +kernel
theorem dX12_steepest_130 : decode cX12_steepest 130 = .ok (.aload_n 0, 1) := by decide +kernel
theorem dX12_steepest_131 : decode cX12_steepest 131 = .ok (.iload_n 3, 1) := by decide +kernel
theorem dX12_steepest_132 : decode cX12_steepest 132 = .ok (.invokevirtual 110, 3) := by decide +kernel
theorem dX12_steepest_135 : decode cX12_steepest 135 = .ok (.invokestatic 91, 3) := by decide +kernel
theorem dX12_steepest_138 : decode cX12_steepest 138 = .ok (.ireturn, 1) := by decide +kernel
theorem dX12_behind_0 : decode cX12_behind 0 = .ok (.aload_n 0, 1) := by decide +kernel
theorem dX12_behind_1 : decode cX12_behind 1 = .ok (.iconst 0, 1) := by decide +kernel
theorem dX12_behind_2 : decode cX12_behind 2 = .ok (.putfield 74, 3) := by decide +kernel
theorem dX12_behind_5 : decode cX12_behind 5 = .ok (.aload_n 0, 1) := by decide +kernel
theorem dX12_behind_6 : decode cX12_behind 6 = .ok (.iload_n 1, 1) := by decide +kernel
theorem dX12_behind_7 : decode cX12_behind 7 = .ok (.invokevirtual 176, 3) := by decide +kernel
theorem dX12_behind_10 : decode cX12_behind 10 = .ok (.ifCond .eq 15, 3) := by decide +kernel
theorem dX12_behind_13 : decode cX12_behind 13 = .ok (.iload_n 2, 1) := by decide +kernel
theorem dX12_behind_14 : decode cX12_behind 14 = .ok (.i2l, 1) := by decide +kernel
theorem dX12_behind_15 : decode cX12_behind 15 = .ok (.lconst 0, 1) := by decide +kernel
theorem dX12_behind_16 : decode cX12_behind 16 = .ok (.ldc2_w 166, 3) := by decide +kernel
theorem dX12_behind_19 : decode cX12_behind 19 = .ok (.invokestatic 80, 3) := by decide +kernel
theorem dX12_behind_22 : decode cX12_behind 22 = .ok (.ifCond .ne 5, 3) := by decide +kernel
theorem dX12_behind_25 : decode cX12_behind 25 = .ok (.iconst (-1), 1) := by decide +kernel
theorem dX12_behind_26 : decode cX12_behind 26 = .ok (.ireturn, 1) := by decide +kernel
theorem dX12_behind_27 : decode cX12_behind 27 = .ok (.aload_n 0, 1) := by decide +kernel
theorem dX12_behind_28 : decode cX12_behind 28 = .ok (.invokevirtual 191, 3) := by decide +kernel
theorem dX12_behind_31 : decode cX12_behind 31 = .ok (.aload_n 0, 1) := by decide +kernel
theorem dX12_behind_32 : decode cX12_behind 32 = .ok (.iload_n 2, 1) := by decide +kernel
theorem dX12_behind_33 : decode cX12_behind 33 = .ok (.invokevirtual 168, 3) := by decide +kernel
theorem dX12_behind_36 : decode cX12_behind 36 = .ok (.aload_n 0, 1) := by decide +kernel
theorem dX12_behind_37 : decode cX12_behind 37 = .ok (.getfield 22, 3) := by decide +kernel
theorem dX12_behind_40 : decode cX12_behind 40 = .ok (.iload_n 1, 1) := by decide +kernel
theorem dX12_behind_41 : decode cX12_behind 41 = .ok (.iaload, 1) := by decide +kernel
theorem dX12_behind_42 : decode cX12_behind 42 = .ok (.istore_n 3, 1) := by decide +kernel
theorem dX12_behind_43 : decode cX12_behind 43 = .ok (.aload_n 0, 1) := by decide +kernel
theorem dX12_behind_44 : decode cX12_behind 44 = .ok (.invokevirtual 197, 3) := by decide +kernel
theorem dX12_behind_47 : decode cX12_behind 47 = .ok (.iload_n 3, 1) := by decide +kernel
theorem dX12_behind_48 : decode cX12_behind 48 = .ok (.ireturn, 1) := by decide +kernel
theorem dX12_groundThen_0 : decode cX12_groundThen 0 = .ok (.aload_n 0, 1) := by decide +kernel
theorem dX12_groundThen_1 : decode cX12_groundThen 1 = .ok (.iconst 0, 1) := by decide +kernel
theorem dX12_groundThen_2 : decode cX12_groundThen 2 = .ok (.putfield 74, 3) := by decide +kernel
theorem dX12_groundThen_5 : decode cX12_groundThen 5 = .ok (.iload_n 1, 1) := by decide +kernel
theorem dX12_groundThen_6 : decode cX12_groundThen 6 = .ok (.i2l, 1) := by decide +kernel
theorem dX12_groundThen_7 : decode cX12_groundThen 7 = .ok (.ldc2_w 237, 3) := by decide +kernel
theorem dX12_groundThen_10 : decode cX12_groundThen 10 = .ok (.ldc2_w 78, 3) := by decide +kernel
theorem dX12_groundThen_13 : decode cX12_groundThen 13 = .ok (.invokestatic 80, 3) := by decide +kernel
theorem dX12_groundThen_16 : decode cX12_groundThen 16 = .ok (.ifCond .eq 15, 3) := by decide +kernel
theorem dX12_groundThen_19 : decode cX12_groundThen 19 = .ok (.iload_n 2, 1) := by decide +kernel
theorem dX12_groundThen_20 : decode cX12_groundThen 20 = .ok (.i2l, 1) := by decide +kernel
theorem dX12_groundThen_21 : decode cX12_groundThen 21 = .ok (.lconst 0, 1) := by decide +kernel
theorem dX12_groundThen_22 : decode cX12_groundThen 22 = .ok (.ldc2_w 166, 3) := by decide +kernel
theorem dX12_groundThen_25 : decode cX12_groundThen 25 = .ok (.invokestatic 80, 3) := by decide +kernel
theorem dX12_groundThen_28 : decode cX12_groundThen 28 = .ok (.ifCond .ne 5, 3) := by decide +kernel
theorem dX12_groundThen_31 : decode cX12_groundThen 31 = .ok (.iconst (-1), 1) := by decide +kernel
theorem dX12_groundThen_32 : decode cX12_groundThen 32 = .ok (.ireturn, 1) := by decide +kernel
theorem dX12_groundThen_33 : decode cX12_groundThen 33 = .ok (.aload_n 0, 1) := by decide +kernel
theorem dX12_groundThen_34 : decode cX12_groundThen 34 = .ok (.invokevirtual 191, 3) := by decide +kernel
theorem dX12_groundThen_37 : decode cX12_groundThen 37 = .ok (.aload_n 0, 1) := by decide +kernel
theorem dX12_groundThen_38 : decode cX12_groundThen 38 = .ok (.iload_n 2, 1) := by decide +kernel
theorem dX12_groundThen_39 : decode cX12_groundThen 39 = .ok (.invokevirtual 168, 3) := by decide +kernel
theorem dX12_groundThen_42 : decode cX12_groundThen 42 = .ok (.iload_n 1, 1) := by decide +kernel
theorem dX12_groundThen_43 : decode cX12_groundThen 43 = .ok (.ifCond .ge 10, 3) := by decide +kernel
theorem dX12_groundThen_46 : decode cX12_groundThen 46 = .ok (.aload_n 0, 1) := by decide +kernel
theorem dX12_groundThen_47 : decode cX12_groundThen 47 = .ok (.invokevirtual 231, 3) := by decide +kernel
theorem dX12_groundThen_50 : decode cX12_groundThen 50 = .ok (.goto 8, 3) := by decide +kernel
theorem dX12_groundThen_53 : decode cX12_groundThen 53 = .ok (.aload_n 0, 1) := by decide +kernel
theorem dX12_groundThen_54 : decode cX12_groundThen 54 = .ok (.iload_n 1, 1) := by decide +kernel
theorem dX12_groundThen_55 : decode cX12_groundThen 55 = .ok (.invokevirtual 234, 3) := by decide +kernel
theorem dX12_groundThen_58 : decode cX12_groundThen 58 = .ok (.istore_n 3, 1) := by decide +kernel
theorem dX12_groundThen_59 : decode cX12_groundThen 59 = .ok (.aload_n 0, 1) := by decide +kernel
theorem dX12_groundThen_60 : decode cX12_groundThen 60 = .ok (.invokevirtual 197, 3) := by decide +kernel
theorem dX12_groundThen_63 : decode cX12_groundThen 63 = .ok (.iload_n 3, 1) := by decide +kernel
theorem dX12_groundThen_64 : decode cX12_groundThen 64 = .ok (.ireturn, 1) := by decide +kernel
theorem dX12_arrives_0 : decode cX12_arrives 0 = .ok (.aload_n 0, 1) := by decide +kernel
theorem dX12_arrives_1 : decode cX12_arrives 1 = .ok (.iconst 0, 1) := by decide +kernel
theorem dX12_arrives_2 : decode cX12_arrives 2 = .ok (.putfield 74, 3) := by decide +kernel
theorem dX12_arrives_5 : decode cX12_arrives 5 = .ok (.aload_n 0, 1) := by decide +kernel
theorem dX12_arrives_6 : decode cX12_arrives 6 = .ok (.iload_n 1, 1) := by decide +kernel
theorem dX12_arrives_7 : decode cX12_arrives 7 = .ok (.invokevirtual 176, 3) := by decide +kernel
theorem dX12_arrives_10 : decode cX12_arrives 10 = .ok (.ifCond .eq 10, 3) := by decide +kernel
theorem dX12_arrives_13 : decode cX12_arrives 13 = .ok (.iload_n 2, 1) := by decide +kernel
theorem dX12_arrives_14 : decode cX12_arrives 14 = .ok (.invokestatic 113, 3) := by decide +kernel
theorem dX12_arrives_17 : decode cX12_arrives 17 = .ok (.ifCond .ne 5, 3) := by decide +kernel
theorem dX12_arrives_20 : decode cX12_arrives 20 = .ok (.iconst (-1), 1) := by decide +kernel
theorem dX12_arrives_21 : decode cX12_arrives 21 = .ok (.ireturn, 1) := by decide +kernel
theorem dX12_arrives_22 : decode cX12_arrives 22 = .ok (.bipush (-4), 2) := by decide +kernel
theorem dX12_arrives_24 : decode cX12_arrives 24 = .ok (.istore_n 3, 1) := by decide +kernel
theorem dX12_arrives_25 : decode cX12_arrives 25 = .ok (.aload_n 0, 1) := by decide +kernel
theorem dX12_arrives_26 : decode cX12_arrives 26 = .ok (.invokevirtual 191, 3) := by decide +kernel
theorem dX12_arrives_29 : decode cX12_arrives 29 = .ok (.iconst 0, 1) := by decide +kernel
theorem dX12_arrives_30 : decode cX12_arrives 30 = .ok (.istore 4, 2) := by decide +kernel
theorem dX12_arrives_32 : decode cX12_arrives 32 = .ok (.iload 4, 2) := by decide +kernel
theorem dX12_arrives_34 : decode cX12_arrives 34 = .ok (.bipush 60, 2) := by decide +kernel
theorem dX12_arrives_36 : decode cX12_arrives 36 = .ok (.if_icmp .gt 36, 3) := by decide +kernel
theorem dX12_arrives_39 : decode cX12_arrives 39 = .ok (.iload_n 3, 1) := by decide +kernel
theorem dX12_arrives_40 : decode cX12_arrives 40 = .ok (.ifCond .ge 32, 3) := by decide +kernel
theorem dX12_arrives_43 : decode cX12_arrives 43 = .ok (.aload_n 0, 1) := by decide +kernel
theorem dX12_arrives_44 : decode cX12_arrives 44 = .ok (.getfield 22, 3) := by decide +kernel
theorem dX12_arrives_47 : decode cX12_arrives 47 = .ok (.iload_n 1, 1) := by decide +kernel
theorem dX12_arrives_48 : decode cX12_arrives 48 = .ok (.iaload, 1) := by decide +kernel
theorem dX12_arrives_49 : decode cX12_arrives 49 = .ok (.iload_n 2, 1) := by decide +kernel
theorem dX12_arrives_50 : decode cX12_arrives 50 = .ok (.if_icmp .ne 8, 3) := by decide +kernel
theorem dX12_arrives_53 : decode cX12_arrives 53 = .ok (.iload 4, 2) := by decide +kernel
theorem dX12_arrives_55 : decode cX12_arrives 55 = .ok (.goto 5, 3) := by decide +kernel
theorem dX12_arrives_58 : decode cX12_arrives 58 = .ok (.bipush (-4), 2) := by decide +kernel
theorem dX12_arrives_60 : decode cX12_arrives 60 = .ok (.istore_n 3, 1) := by decide +kernel
theorem dX12_arrives_61 : decode cX12_arrives 61 = .ok (.aload_n 0, 1) := by decide +kernel
theorem dX12_arrives_62 : decode cX12_arrives 62 = .ok (.iconst 0, 1) := by decide +kernel
theorem dX12_arrives_63 : decode cX12_arrives 63 = .ok (.invokevirtual 129, 3) := by decide +kernel
theorem dX12_arrives_66 : decode cX12_arrives 66 = .ok (.iinc 4 1, 3) := by decide +kernel
theorem dX12_arrives_69 : decode cX12_arrives 69 = .ok (.goto (-37), 3) := by decide +kernel
theorem dX12_arrives_72 : decode cX12_arrives 72 = .ok (.aload_n 0, 1) := by decide +kernel
theorem dX12_arrives_73 : decode cX12_arrives 73 = .ok (.invokevirtual 197, 3) := by decide +kernel
theorem dX12_arrives_76 : decode cX12_arrives 76 = .ok (.iload_n 3, 1) := by decide +kernel
theorem dX12_arrives_77 : decode cX12_arrives 77 = .ok (.ireturn, 1) := by decide +kernel
theorem dX12_stuck_0 : decode cX12_stuck 0 = .ok (.aload_n 0, 1) := by decide +kernel
theorem dX12_stuck_1 : decode cX12_stuck 1 = .ok (.iconst 0, 1) := by decide +kernel
theorem dX12_stuck_2 : decode cX12_stuck 2 = .ok (.putfield 74, 3) := by decide +kernel
theorem dX12_stuck_5 : decode cX12_stuck 5 = .ok (.aload_n 0, 1) := by decide +kernel
theorem dX12_stuck_6 : decode cX12_stuck 6 = .ok (.iload_n 1, 1) := by decide +kernel
theorem dX12_stuck_7 : decode cX12_stuck 7 = .ok (.invokevirtual 176, 3) := by decide +kernel
theorem dX12_stuck_10 : decode cX12_stuck 10 = .ok (.ifCond .ne 5, 3) := by decide +kernel
theorem dX12_stuck_13 : decode cX12_stuck 13 = .ok (.iconst (-1), 1) := by decide +kernel
theorem dX12_stuck_14 : decode cX12_stuck 14 = .ok (.ireturn, 1) := by decide +kernel
theorem dX12_stuck_15 : decode cX12_stuck 15 = .ok (.bipush (-4), 2) := by decide +kernel
theorem dX12_stuck_17 : decode cX12_stuck 17 = .ok (.istore_n 2, 1) := by decide +kernel
theorem dX12_stuck_18 : decode cX12_stuck 18 = .ok (.aload_n 0, 1) := by decide +kernel
theorem dX12_stuck_19 : decode cX12_stuck 19 = .ok (.invokevirtual 191, 3) := by decide +kernel
theorem dX12_stuck_22 : decode cX12_stuck 22 = .ok (.iconst 0, 1) := by decide +kernel
theorem dX12_stuck_23 : decode cX12_stuck 23 = .ok (.istore_n 3, 1) := by decide +kernel
theorem dX12_stuck_24 : decode cX12_stuck 24 = .ok (.iload_n 3, 1) := by decide +kernel
theorem dX12_stuck_25 : decode cX12_stuck 25 = .ok (.bipush 60, 2) := by decide +kernel
theorem dX12_stuck_27 : decode cX12_stuck 27 = .ok (.if_icmp .gt 44, 3) := by decide +kernel
theorem dX12_stuck_30 : decode cX12_stuck 30 = .ok (.iload_n 2, 1) := by decide +kernel
theorem dX12_stuck_31 : decode cX12_stuck 31 = .ok (.ifCond .ge 40, 3) := by decide +kernel
theorem dX12_stuck_34 : decode cX12_stuck 34 = .ok (.aload_n 0, 1) := by decide +kernel
theorem dX12_stuck_35 : decode cX12_stuck 35 = .ok (.getfield 22, 3) := by decide +kernel
theorem dX12_stuck_38 : decode cX12_stuck 38 = .ok (.iload_n 1, 1) := by decide +kernel
theorem dX12_stuck_39 : decode cX12_stuck 39 = .ok (.iaload, 1) := by decide +kernel
theorem dX12_stuck_40 : decode cX12_stuck 40 = .ok (.istore 4, 2) := by decide +kernel
theorem dX12_stuck_42 : decode cX12_stuck 42 = .ok (.aload_n 0, 1) := by decide +kernel
theorem dX12_stuck_43 : decode cX12_stuck 43 = .ok (.iconst 0, 1) := by decide +kernel
theorem dX12_stuck_44 : decode cX12_stuck 44 = .ok (.invokevirtual 129, 3) := by decide +kernel
theorem dX12_stuck_47 : decode cX12_stuck 47 = .ok (.aload_n 0, 1) := by decide +kernel
theorem dX12_stuck_48 : decode cX12_stuck 48 = .ok (.getfield 22, 3) := by decide +kernel
theorem dX12_stuck_51 : decode cX12_stuck 51 = .ok (.iload_n 1, 1) := by decide +kernel
theorem dX12_stuck_52 : decode cX12_stuck 52 = .ok (.iaload, 1) := by decide +kernel
theorem dX12_stuck_53 : decode cX12_stuck 53 = .ok (.iload 4, 2) := by decide +kernel
theorem dX12_stuck_55 : decode cX12_stuck 55 = .ok (.if_icmp .ne 7, 3) := by decide +kernel
theorem dX12_stuck_58 : decode cX12_stuck 58 = .ok (.iload_n 3, 1) := by decide +kernel
theorem dX12_stuck_59 : decode cX12_stuck 59 = .ok (.goto 5, 3) := by decide +kernel
theorem dX12_stuck_62 : decode cX12_stuck 62 = .ok (.bipush (-4), 2) := by decide +kernel
theorem dX12_stuck_64 : decode cX12_stuck 64 = .ok (.istore_n 2, 1) := by decide +kernel
theorem dX12_stuck_65 : decode cX12_stuck 65 = .ok (.iinc 3 1, 3) := by decide +kernel
theorem dX12_stuck_68 : decode cX12_stuck 68 = .ok (.goto (-44), 3) := by decide +kernel
theorem dX12_stuck_71 : decode cX12_stuck 71 = .ok (.aload_n 0, 1) := by decide +kernel
theorem dX12_stuck_72 : decode cX12_stuck 72 = .ok (.invokevirtual 197, 3) := by decide +kernel
theorem dX12_stuck_75 : decode cX12_stuck 75 = .ok (.iload_n 2, 1) := by decide +kernel
theorem dX12_stuck_76 : decode cX12_stuck 76 = .ok (.ireturn, 1) := by decide +kernel
theorem dX12_reached_0 : decode cX12_reached 0 = .ok (.aload_n 0, 1) := by decide +kernel
theorem dX12_reached_1 : decode cX12_reached 1 = .ok (.invokevirtual 191, 3) := by decide +kernel
theorem dX12_reached_4 : decode cX12_reached 4 = .ok (.iconst 0, 1) := by decide +kernel
theorem dX12_reached_5 : decode cX12_reached 5 = .ok (.istore 5, 2) := by decide +kernel
theorem dX12_reached_7 : decode cX12_reached 7 = .ok (.iload 5, 2) := by decide +kernel
theorem dX12_reached_9 : decode cX12_reached 9 = .ok (.aload_n 0, 1) := by decide +kernel
theorem dX12_reached_10 : decode cX12_reached 10 = .ok (.getfield 84, 3) := by decide +kernel
theorem dX12_reached_13 : decode cX12_reached 13 = .ok (.if_icmp .ge 41, 3) := by decide +kernel
theorem dX12_reached_16 : decode cX12_reached 16 = .ok (.aload_n 0, 1) := by decide +kernel
theorem dX12_reached_17 : decode cX12_reached 17 = .ok (.getfield 22, 3) := by decide +kernel
theorem dX12_reached_20 : decode cX12_reached 20 = .ok (.iload 5, 2) := by decide +kernel
theorem dX12_reached_22 : decode cX12_reached 22 = .ok (.iload_n 2, 1) := by decide +kernel
theorem dX12_reached_23 : decode cX12_reached 23 = .ok (.iload 5, 2) := by decide +kernel
theorem dX12_reached_25 : decode cX12_reached 25 = .ok (.invokestatic 97, 3) := by decide +kernel
theorem dX12_reached_28 : decode cX12_reached 28 = .ok (.ifCond .eq 12, 3) := by decide +kernel
theorem dX12_reached_31 : decode cX12_reached 31 = .ok (.aload_n 0, 1) := by decide +kernel
theorem dX12_reached_32 : decode cX12_reached 32 = .ok (.getfield 22, 3) := by decide +kernel
theorem dX12_reached_35 : decode cX12_reached 35 = .ok (.iload_n 1, 1) := by decide +kernel
theorem dX12_reached_36 : decode cX12_reached 36 = .ok (.iaload, 1) := by decide +kernel
theorem dX12_reached_37 : decode cX12_reached 37 = .ok (.goto 10, 3) := by decide +kernel
theorem dX12_reached_40 : decode cX12_reached 40 = .ok (.aload_n 0, 1) := by decide +kernel
theorem dX12_reached_41 : decode cX12_reached 41 = .ok (.getfield 22, 3) := by decide +kernel
theorem dX12_reached_44 : decode cX12_reached 44 = .ok (.iload 5, 2) := by decide +kernel
theorem dX12_reached_46 : decode cX12_reached 46 = .ok (.iaload, 1) := by decide +kernel
theorem dX12_reached_47 : decode cX12_reached 47 = .ok (.iastore, 1) := by decide +kernel
theorem dX12_reached_48 : decode cX12_reached 48 = .ok (.iinc 5 1, 3) := by decide +kernel
theorem dX12_reached_51 : decode cX12_reached 51 = .ok (.goto (-44), 3) := by decide +kernel
theorem dX12_reached_54 : decode cX12_reached 54 = .ok (.aload_n 0, 1) := by decide +kernel
theorem dX12_reached_55 : decode cX12_reached 55 = .ok (.getfield 22, 3) := by decide +kernel
theorem dX12_reached_58 : decode cX12_reached 58 = .ok (.iload_n 1, 1) := by decide +kernel
theorem dX12_reached_59 : decode cX12_reached 59 = .ok (.iaload, 1) := by decide +kernel
theorem dX12_reached_60 : decode cX12_reached 60 = .ok (.iload 4, 2) := by decide +kernel
theorem dX12_reached_62 : decode cX12_reached 62 = .ok (.if_icmp .eq 77, 3) := by decide +kernel
theorem dX12_reached_65 : decode cX12_reached 65 = .ok (.aload_n 0, 1) := by decide +kernel
theorem dX12_reached_66 : decode cX12_reached 66 = .ok (.iload_n 1, 1) := by decide +kernel
theorem dX12_reached_67 : decode cX12_reached 67 = .ok (.iload_n 3, 1) := by decide +kernel
theorem dX12_reached_68 : decode cX12_reached 68 = .ok (.invokevirtual 120, 3) := by decide +kernel
theorem dX12_reached_71 : decode cX12_reached 71 = .ok (.ifCond .eq 68, 3) := by decide +kernel
theorem dX12_reached_74 : decode cX12_reached 74 = .ok (.aload_n 0, 1) := by decide +kernel
theorem dX12_reached_75 : decode cX12_reached 75 = .ok (.getfield 22, 3) := by decide +kernel
theorem dX12_reached_78 : decode cX12_reached 78 = .ok (.iload_n 1, 1) := by decide +kernel
theorem dX12_reached_79 : decode cX12_reached 79 = .ok (.iaload, 1) := by decide +kernel
theorem dX12_reached_80 : decode cX12_reached 80 = .ok (.iload_n 3, 1) := by decide +kernel
theorem dX12_reached_81 : decode cX12_reached 81 = .ok (.iadd, 1) := by decide +kernel
theorem dX12_reached_82 : decode cX12_reached 82 = .ok (.istore 5, 2) := by decide +kernel
theorem dX12_reached_84 : decode cX12_reached 84 = .ok (.iconst 0, 1) := by decide +kernel
theorem dX12_reached_85 : decode cX12_reached 85 = .ok (.istore 6, 2) := by decide +kernel
theorem dX12_reached_87 : decode cX12_reached 87 = .ok (.iload 6, 2) := by decide +kernel
theorem dX12_reached_89 : decode cX12_reached 89 = .ok (.aload_n 0, 1) := by decide +kernel
theorem dX12_reached_90 : decode cX12_reached 90 = .ok (.getfield 84, 3) := by decide +kernel
theorem dX12_reached_93 : decode cX12_reached 93 = .ok (.if_icmp .ge 43, 3) := by decide +kernel
theorem dX12_reached_96 : decode cX12_reached 96 = .ok (.aload_n 0, 1) := by decide +kernel
theorem dX12_reached_97 : decode cX12_reached 97 = .ok (.getfield 22, 3) := by decide +kernel
theorem dX12_reached_100 : decode cX12_reached 100 = .ok (.iload 6, 2) := by decide +kernel
theorem dX12_reached_102 : decode cX12_reached 102 = .ok (.iload 6, 2) := by decide +kernel
theorem dX12_reached_104 : decode cX12_reached 104 = .ok (.iload_n 1, 1) := by decide +kernel
theorem dX12_reached_105 : decode cX12_reached 105 = .ok (.if_icmp .eq 12, 3) := by decide +kernel
theorem dX12_reached_108 : decode cX12_reached 108 = .ok (.iload_n 2, 1) := by decide +kernel
theorem dX12_reached_109 : decode cX12_reached 109 = .ok (.iload 6, 2) := by decide +kernel
theorem dX12_reached_111 : decode cX12_reached 111 = .ok (.invokestatic 97, 3) := by decide +kernel
theorem dX12_reached_114 : decode cX12_reached 114 = .ok (.ifCond .eq 8, 3) := by decide +kernel
theorem dX12_reached_117 : decode cX12_reached 117 = .ok (.iload 5, 2) := by decide +kernel
theorem dX12_reached_119 : decode cX12_reached 119 = .ok (.goto 10, 3) := by decide +kernel
theorem dX12_reached_122 : decode cX12_reached 122 = .ok (.aload_n 0, 1) := by decide +kernel
theorem dX12_reached_123 : decode cX12_reached 123 = .ok (.getfield 22, 3) := by decide +kernel
theorem dX12_reached_126 : decode cX12_reached 126 = .ok (.iload 6, 2) := by decide +kernel
theorem dX12_reached_128 : decode cX12_reached 128 = .ok (.iaload, 1) := by decide +kernel
theorem dX12_reached_129 : decode cX12_reached 129 = .ok (.iastore, 1) := by decide +kernel
theorem dX12_reached_130 : decode cX12_reached 130 = .ok (.iinc 6 1, 3) := by decide +kernel
theorem dX12_reached_133 : decode cX12_reached 133 = .ok (.goto (-46), 3) := by decide +kernel
theorem dX12_reached_136 : decode cX12_reached 136 = .ok (.goto (-82), 3) := by decide +kernel
theorem dX12_reached_139 : decode cX12_reached 139 = .ok (.aload_n 0, 1) := by decide +kernel
theorem dX12_reached_140 : decode cX12_reached 140 = .ok (.getfield 22, 3) := by decide +kernel
theorem dX12_reached_143 : decode cX12_reached 143 = .ok (.iload_n 1, 1) := by decide +kernel
theorem dX12_reached_144 : decode cX12_reached 144 = .ok (.iaload, 1) := by decide +kernel
theorem dX12_reached_145 : decode cX12_reached 145 = .ok (.istore 5, 2) := by decide +kernel
theorem dX12_reached_147 : decode cX12_reached 147 = .ok (.aload_n 0, 1) := by decide +kernel
theorem dX12_reached_148 : decode cX12_reached 148 = .ok (.invokevirtual 197, 3) := by decide +kernel
theorem dX12_reached_151 : decode cX12_reached 151 = .ok (.iload 5, 2) := by decide +kernel
theorem dX12_reached_153 : decode cX12_reached 153 = .ok (.ireturn, 1) := by decide +kernel
theorem dX12_getsTo_0 : decode cX12_getsTo 0 = .ok (.aload_n 0, 1) := by decide +kernel
theorem dX12_getsTo_1 : decode cX12_getsTo 1 = .ok (.iload_n 1, 1) := by decide +kernel
theorem dX12_getsTo_2 : decode cX12_getsTo 2 = .ok (.iload_n 2, 1) := by decide +kernel
theorem dX12_getsTo_3 : decode cX12_getsTo 3 = .ok (.iload_n 3, 1) := by decide +kernel
theorem dX12_getsTo_4 : decode cX12_getsTo 4 = .ok (.aload_n 0, 1) := by decide +kernel
theorem dX12_getsTo_5 : decode cX12_getsTo 5 = .ok (.getfield 22, 3) := by decide +kernel
theorem dX12_getsTo_8 : decode cX12_getsTo 8 = .ok (.iload_n 1, 1) := by decide +kernel
theorem dX12_getsTo_9 : decode cX12_getsTo 9 = .ok (.iaload, 1) := by decide +kernel
theorem dX12_getsTo_10 : decode cX12_getsTo 10 = .ok (.if_icmp .le 7, 3) := by decide +kernel
theorem dX12_getsTo_13 : decode cX12_getsTo 13 = .ok (.iconst 1, 1) := by decide +kernel
theorem dX12_getsTo_14 : decode cX12_getsTo 14 = .ok (.goto 4, 3) := by decide +kernel
theorem dX12_getsTo_17 : decode cX12_getsTo 17 = .ok (.iconst (-1), 1) := by decide +kernel
theorem dX12_getsTo_18 : decode cX12_getsTo 18 = .ok (.iload_n 3, 1) := by decide +kernel
theorem dX12_getsTo_19 : decode cX12_getsTo 19 = .ok (.invokevirtual 244, 3) := by decide +kernel
theorem dX12_getsTo_22 : decode cX12_getsTo 22 = .ok (.iload_n 3, 1) := by decide +kernel
theorem dX12_getsTo_23 : decode cX12_getsTo 23 = .ok (.if_icmp .ne 7, 3) := by decide +kernel
theorem dX12_getsTo_26 : decode cX12_getsTo 26 = .ok (.iconst 1, 1) := by decide +kernel
theorem dX12_getsTo_27 : decode cX12_getsTo 27 = .ok (.goto 4, 3) := by decide +kernel
theorem dX12_getsTo_30 : decode cX12_getsTo 30 = .ok (.iconst 0, 1) := by decide +kernel
theorem dX12_getsTo_31 : decode cX12_getsTo 31 = .ok (.ireturn, 1) := by decide +kernel
theorem dX12_goes_0 : decode cX12_goes 0 = .ok (.aload_n 0, 1) := by decide +kernel
theorem dX12_goes_1 : decode cX12_goes 1 = .ok (.iconst 0, 1) := by decide +kernel
theorem dX12_goes_2 : decode cX12_goes 2 = .ok (.putfield 74, 3) := by decide +kernel
theorem dX12_goes_5 : decode cX12_goes 5 = .ok (.aload_n 0, 1) := by decide +kernel
theorem dX12_goes_6 : decode cX12_goes 6 = .ok (.iload_n 1, 1) := by decide +kernel
theorem dX12_goes_7 : decode cX12_goes 7 = .ok (.invokevirtual 176, 3) := by decide +kernel
theorem dX12_goes_10 : decode cX12_goes 10 = .ok (.ifCond .eq 10, 3) := by decide +kernel
theorem dX12_goes_13 : decode cX12_goes 13 = .ok (.iload_n 2, 1) := by decide +kernel
theorem dX12_goes_14 : decode cX12_goes 14 = .ok (.invokestatic 113, 3) := by decide +kernel
theorem dX12_goes_17 : decode cX12_goes 17 = .ok (.ifCond .ne 5, 3) := by decide +kernel
theorem dX12_goes_20 : decode cX12_goes 20 = .ok (.iconst (-1), 1) := by decide +kernel
theorem dX12_goes_21 : decode cX12_goes 21 = .ok (.ireturn, 1) := by decide +kernel
theorem dX12_goes_22 : decode cX12_goes 22 = .ok (.aload_n 0, 1) := by decide +kernel
theorem dX12_goes_23 : decode cX12_goes 23 = .ok (.iload_n 1, 1) := by decide +kernel
theorem dX12_goes_24 : decode cX12_goes 24 = .ok (.iconst 0, 1) := by decide +kernel
theorem dX12_goes_25 : decode cX12_goes 25 = .ok (.iload_n 2, 1) := by decide +kernel
theorem dX12_goes_26 : decode cX12_goes 26 = .ok (.invokevirtual 248, 3) := by decide +kernel
theorem dX12_goes_29 : decode cX12_goes 29 = .ok (.ifCond .eq 7, 3) := by decide +kernel
theorem dX12_goes_32 : decode cX12_goes 32 = .ok (.iconst 1, 1) := by decide +kernel
theorem dX12_goes_33 : decode cX12_goes 33 = .ok (.goto 4, 3) := by decide +kernel
theorem dX12_goes_36 : decode cX12_goes 36 = .ok (.iconst 0, 1) := by decide +kernel
theorem dX12_goes_37 : decode cX12_goes 37 = .ok (.ireturn, 1) := by decide +kernel
theorem dX12_far_0 : decode cX12_far 0 = .ok (.aload_n 0, 1) := by decide +kernel
theorem dX12_far_1 : decode cX12_far 1 = .ok (.iconst 0, 1) := by decide +kernel
theorem dX12_far_2 : decode cX12_far 2 = .ok (.putfield 74, 3) := by decide +kernel
theorem dX12_far_5 : decode cX12_far 5 = .ok (.aload_n 0, 1) := by decide +kernel
theorem dX12_far_6 : decode cX12_far 6 = .ok (.iload_n 1, 1) := by decide +kernel
theorem dX12_far_7 : decode cX12_far 7 = .ok (.invokevirtual 176, 3) := by decide +kernel
theorem dX12_far_10 : decode cX12_far 10 = .ok (.ifCond .eq 13, 3) := by decide +kernel
theorem dX12_far_13 : decode cX12_far 13 = .ok (.iload_n 2, 1) := by decide +kernel
theorem dX12_far_14 : decode cX12_far 14 = .ok (.i2l, 1) := by decide +kernel
theorem dX12_far_15 : decode cX12_far 15 = .ok (.lconst 0, 1) := by decide +kernel
theorem dX12_far_16 : decode cX12_far 16 = .ok (.lconst 1, 1) := by decide +kernel
theorem dX12_far_17 : decode cX12_far 17 = .ok (.invokestatic 80, 3) := by decide +kernel
theorem dX12_far_20 : decode cX12_far 20 = .ok (.ifCond .ne 5, 3) := by decide +kernel
theorem dX12_far_23 : decode cX12_far 23 = .ok (.iconst (-1), 1) := by decide +kernel
theorem dX12_far_24 : decode cX12_far 24 = .ok (.ireturn, 1) := by decide +kernel
theorem dX12_far_25 : decode cX12_far 25 = .ok (.iload_n 2, 1) := by decide +kernel
theorem dX12_far_26 : decode cX12_far 26 = .ok (.ifCond .ne 15, 3) := by decide +kernel
theorem dX12_far_29 : decode cX12_far 29 = .ok (.aload_n 0, 1) := by decide +kernel
theorem dX12_far_30 : decode cX12_far 30 = .ok (.iload_n 1, 1) := by decide +kernel
theorem dX12_far_31 : decode cX12_far 31 = .ok (.iconst 0, 1) := by decide +kernel
theorem dX12_far_32 : decode cX12_far 32 = .ok (.iconst 1, 1) := by decide +kernel
theorem dX12_far_33 : decode cX12_far 33 = .ok (.bipush 14, 2) := by decide +kernel
theorem dX12_far_35 : decode cX12_far 35 = .ok (.invokevirtual 244, 3) := by decide +kernel
theorem dX12_far_38 : decode cX12_far 38 = .ok (.goto 11, 3) := by decide +kernel
theorem dX12_far_41 : decode cX12_far 41 = .ok (.aload_n 0, 1) := by decide +kernel
theorem dX12_far_42 : decode cX12_far 42 = .ok (.iload_n 1, 1) := by decide +kernel
theorem dX12_far_43 : decode cX12_far 43 = .ok (.iconst 0, 1) := by decide +kernel
theorem dX12_far_44 : decode cX12_far 44 = .ok (.iconst (-1), 1) := by decide +kernel
theorem dX12_far_45 : decode cX12_far 45 = .ok (.iconst 0, 1) := by decide +kernel
theorem dX12_far_46 : decode cX12_far 46 = .ok (.invokevirtual 244, 3) := by decide +kernel
theorem dX12_far_49 : decode cX12_far 49 = .ok (.ireturn, 1) := by decide +kernel
theorem dX12_company_0 : decode cX12_company 0 = .ok (.aload_n 0, 1) := by decide +kernel
theorem dX12_company_1 : decode cX12_company 1 = .ok (.iconst 0, 1) := by decide +kernel
theorem dX12_company_2 : decode cX12_company 2 = .ok (.putfield 74, 3) := by decide +kernel
theorem dX12_company_5 : decode cX12_company 5 = .ok (.aload_n 0, 1) := by decide +kernel
theorem dX12_company_6 : decode cX12_company 6 = .ok (.iload_n 1, 1) := by decide +kernel
theorem dX12_company_7 : decode cX12_company 7 = .ok (.invokevirtual 176, 3) := by decide +kernel
theorem dX12_company_10 : decode cX12_company 10 = .ok (.ifCond .eq 10, 3) := by decide +kernel
theorem dX12_company_13 : decode cX12_company 13 = .ok (.iload_n 2, 1) := by decide +kernel
theorem dX12_company_14 : decode cX12_company 14 = .ok (.invokestatic 113, 3) := by decide +kernel
theorem dX12_company_17 : decode cX12_company 17 = .ok (.ifCond .ne 5, 3) := by decide +kernel
theorem dX12_company_20 : decode cX12_company 20 = .ok (.iconst (-1), 1) := by decide +kernel
theorem dX12_company_21 : decode cX12_company 21 = .ok (.ireturn, 1) := by decide +kernel
theorem dX12_company_22 : decode cX12_company 22 = .ok (.bipush (-4), 2) := by decide +kernel
theorem dX12_company_24 : decode cX12_company 24 = .ok (.istore_n 3, 1) := by decide +kernel
theorem dX12_company_25 : decode cX12_company 25 = .ok (.iconst 0, 1) := by decide +kernel
theorem dX12_company_26 : decode cX12_company 26 = .ok (.istore 4, 2) := by decide +kernel
theorem dX12_company_28 : decode cX12_company 28 = .ok (.iload 4, 2) := by decide +kernel
theorem dX12_company_30 : decode cX12_company 30 = .ok (.iconst 1, 1) := by decide +kernel
theorem dX12_company_31 : decode cX12_company 31 = .ok (.aload_n 0, 1) := by decide +kernel
theorem dX12_company_32 : decode cX12_company 32 = .ok (.getfield 84, 3) := by decide +kernel
theorem dX12_company_35 : decode cX12_company 35 = .ok (.ishl, 1) := by decide +kernel
theorem dX12_company_36 : decode cX12_company 36 = .ok (.if_icmp .ge 64, 3) := by decide +kernel
theorem dX12_company_39 : decode cX12_company 39 = .ok (.iload_n 3, 1) := by decide +kernel
theorem dX12_company_40 : decode cX12_company 40 = .ok (.ifCond .lt 15, 3) := by decide +kernel
theorem dX12_company_43 : decode cX12_company 43 = .ok (.iload 4, 2) := by decide +kernel
theorem dX12_company_45 : decode cX12_company 45 = .ok (.invokestatic 252, 3) := by decide +kernel
theorem dX12_company_48 : decode cX12_company 48 = .ok (.iload_n 3, 1) := by decide +kernel
theorem dX12_company_49 : decode cX12_company 49 = .ok (.invokestatic 252, 3) := by decide +kernel
theorem dX12_company_52 : decode cX12_company 52 = .ok (.if_icmp .ge 7, 3) := by decide +kernel
theorem dX12_company_55 : decode cX12_company 55 = .ok (.iconst 1, 1) := by decide +kernel
theorem dX12_company_56 : decode cX12_company 56 = .ok (.goto 4, 3) := by decide +kernel
theorem dX12_company_59 : decode cX12_company 59 = .ok (.iconst 0, 1) := by decide +kernel
theorem dX12_company_60 : decode cX12_company 60 = .ok (.istore 5, 2) := by decide +kernel
theorem dX12_company_62 : decode cX12_company 62 = .ok (.iload 5, 2) := by decide +kernel
theorem dX12_company_64 : decode cX12_company 64 = .ok (.ifCond .eq 28, 3) := by decide +kernel
theorem dX12_company_67 : decode cX12_company 67 = .ok (.iload 4, 2) := by decide +kernel
theorem dX12_company_69 : decode cX12_company 69 = .ok (.iload_n 1, 1) := by decide +kernel
theorem dX12_company_70 : decode cX12_company 70 = .ok (.invokestatic 97, 3) := by decide +kernel
theorem dX12_company_73 : decode cX12_company 73 = .ok (.ifCond .ne 19, 3) := by decide +kernel
theorem dX12_company_76 : decode cX12_company 76 = .ok (.aload_n 0, 1) := by decide +kernel
theorem dX12_company_77 : decode cX12_company 77 = .ok (.iload_n 1, 1) := by decide +kernel
theorem dX12_company_78 : decode cX12_company 78 = .ok (.iload 4, 2) := by decide +kernel
theorem dX12_company_80 : decode cX12_company 80 = .ok (.iload_n 2, 1) := by decide +kernel
theorem dX12_company_81 : decode cX12_company 81 = .ok (.invokevirtual 248, 3) := by decide +kernel
theorem dX12_company_84 : decode cX12_company 84 = .ok (.ifCond .eq 8, 3) := by decide +kernel
theorem dX12_company_87 : decode cX12_company 87 = .ok (.iload 4, 2) := by decide +kernel
theorem dX12_company_89 : decode cX12_company 89 = .ok (.goto 4, 3) := by decide +kernel
theorem dX12_company_92 : decode cX12_company 92 = .ok (.iload_n 3, 1) := by decide +kernel
theorem dX12_company_93 : decode cX12_company 93 = .ok (.istore_n 3, 1) := by decide +kernel
theorem dX12_company_94 : decode cX12_company 94 = .ok (.iinc 4 1, 3) := by decide +kernel
theorem dX12_company_97 : decode cX12_company 97 = .ok (.goto (-69), 3) := by decide +kernel
theorem dX12_company_100 : decode cX12_company 100 = .ok (.iload_n 3, 1) := by decide +kernel
theorem dX12_company_101 : decode cX12_company 101 = .ok (.ireturn, 1) := by decide +kernel
theorem dX12_payOf_0 : decode cX12_payOf 0 = .ok (.iconst 0, 1) := by decide +kernel
theorem dX12_payOf_1 : decode cX12_payOf 1 = .ok (.istore_n 2, 1) := by decide +kernel
theorem dX12_payOf_2 : decode cX12_payOf 2 = .ok (.iconst 0, 1) := by decide +kernel
theorem dX12_payOf_3 : decode cX12_payOf 3 = .ok (.istore_n 3, 1) := by decide +kernel
theorem dX12_payOf_4 : decode cX12_payOf 4 = .ok (.iload_n 3, 1) := by decide +kernel
theorem dX12_payOf_5 : decode cX12_payOf 5 = .ok (.aload_n 0, 1) := by decide +kernel
theorem dX12_payOf_6 : decode cX12_payOf 6 = .ok (.getfield 84, 3) := by decide +kernel
theorem dX12_payOf_9 : decode cX12_payOf 9 = .ok (.if_icmp .ge 34, 3) := by decide +kernel
theorem dX12_payOf_12 : decode cX12_payOf 12 = .ok (.iload_n 2, 1) := by decide +kernel
theorem dX12_payOf_13 : decode cX12_payOf 13 = .ok (.iload_n 1, 1) := by decide +kernel
theorem dX12_payOf_14 : decode cX12_payOf 14 = .ok (.iload_n 3, 1) := by decide +kernel
theorem dX12_payOf_15 : decode cX12_payOf 15 = .ok (.invokestatic 97, 3) := by decide +kernel
theorem dX12_payOf_18 : decode cX12_payOf 18 = .ok (.ifCond .eq 16, 3) := by decide +kernel
theorem dX12_payOf_21 : decode cX12_payOf 21 = .ok (.aload_n 0, 1) := by decide +kernel
theorem dX12_payOf_22 : decode cX12_payOf 22 = .ok (.iload_n 3, 1) := by decide +kernel
theorem dX12_payOf_23 : decode cX12_payOf 23 = .ok (.invokevirtual 219, 3) := by decide +kernel
theorem dX12_payOf_26 : decode cX12_payOf 26 = .ok (.bipush 10, 2) := by decide +kernel
theorem dX12_payOf_28 : decode cX12_payOf 28 = .ok (.idiv, 1) := by decide +kernel
theorem dX12_payOf_29 : decode cX12_payOf 29 = .ok (.iconst 1, 1) := by decide +kernel
theorem dX12_payOf_30 : decode cX12_payOf 30 = .ok (.iadd, 1) := by decide +kernel
theorem dX12_payOf_31 : decode cX12_payOf 31 = .ok (.goto 4, 3) := by decide +kernel
theorem dX12_payOf_34 : decode cX12_payOf 34 = .ok (.iconst 0, 1) := by decide +kernel
theorem dX12_payOf_35 : decode cX12_payOf 35 = .ok (.iadd, 1) := by decide +kernel
theorem dX12_payOf_36 : decode cX12_payOf 36 = .ok (.istore_n 2, 1) := by decide +kernel
theorem dX12_payOf_37 : decode cX12_payOf 37 = .ok (.iinc 3 1, 3) := by decide +kernel
theorem dX12_payOf_40 : decode cX12_payOf 40 = .ok (.goto (-36), 3) := by decide +kernel
theorem dX12_payOf_43 : decode cX12_payOf 43 = .ok (.iload_n 2, 1) := by decide +kernel
theorem dX12_payOf_44 : decode cX12_payOf 44 = .ok (.ireturn, 1) := by decide +kernel
theorem dX12_hire_0 : decode cX12_hire 0 = .ok (.aload_n 0, 1) := by decide +kernel
theorem dX12_hire_1 : decode cX12_hire 1 = .ok (.iconst 0, 1) := by decide +kernel
theorem dX12_hire_2 : decode cX12_hire 2 = .ok (.putfield 74, 3) := by decide +kernel
theorem dX12_hire_5 : decode cX12_hire 5 = .ok (.aload_n 0, 1) := by decide +kernel
theorem dX12_hire_6 : decode cX12_hire 6 = .ok (.iload_n 1, 1) := by decide +kernel
theorem dX12_hire_7 : decode cX12_hire 7 = .ok (.invokevirtual 176, 3) := by decide +kernel
theorem dX12_hire_10 : decode cX12_hire 10 = .ok (.ifCond .eq 20, 3) := by decide +kernel
theorem dX12_hire_13 : decode cX12_hire 13 = .ok (.iload_n 2, 1) := by decide +kernel
theorem dX12_hire_14 : decode cX12_hire 14 = .ok (.invokestatic 113, 3) := by decide +kernel
theorem dX12_hire_17 : decode cX12_hire 17 = .ok (.ifCond .eq 13, 3) := by decide +kernel
theorem dX12_hire_20 : decode cX12_hire 20 = .ok (.iload_n 3, 1) := by decide +kernel
theorem dX12_hire_21 : decode cX12_hire 21 = .ok (.i2l, 1) := by decide +kernel
theorem dX12_hire_22 : decode cX12_hire 22 = .ok (.lconst 0, 1) := by decide +kernel
theorem dX12_hire_23 : decode cX12_hire 23 = .ok (.lconst 1, 1) := by decide +kernel
theorem dX12_hire_24 : decode cX12_hire 24 = .ok (.invokestatic 80, 3) := by decide +kernel
theorem dX12_hire_27 : decode cX12_hire 27 = .ok (.ifCond .ne 5, 3) := by decide +kernel
theorem dX12_hire_30 : decode cX12_hire 30 = .ok (.iconst (-1), 1) := by decide +kernel
theorem dX12_hire_31 : decode cX12_hire 31 = .ok (.ireturn, 1) := by decide +kernel
theorem dX12_hire_32 : decode cX12_hire 32 = .ok (.bipush (-4), 2) := by decide +kernel
theorem dX12_hire_34 : decode cX12_hire 34 = .ok (.istore 4, 2) := by decide +kernel
theorem dX12_hire_36 : decode cX12_hire 36 = .ok (.iconst 0, 1) := by decide +kernel
theorem dX12_hire_37 : decode cX12_hire 37 = .ok (.istore 5, 2) := by decide +kernel
theorem dX12_hire_39 : decode cX12_hire 39 = .ok (.iload 5, 2) := by decide +kernel
theorem dX12_hire_41 : decode cX12_hire 41 = .ok (.iconst 1, 1) := by decide +kernel
theorem dX12_hire_42 : decode cX12_hire 42 = .ok (.aload_n 0, 1) := by decide +kernel
theorem dX12_hire_43 : decode cX12_hire 43 = .ok (.getfield 84, 3) := by decide +kernel
theorem dX12_hire_46 : decode cX12_hire 46 = .ok (.ishl, 1) := by decide +kernel
theorem dX12_hire_47 : decode cX12_hire 47 = .ok (.if_icmp .ge 70, 3) := by decide +kernel
theorem dX12_hire_50 : decode cX12_hire 50 = .ok (.iload 4, 2) := by decide +kernel
theorem dX12_hire_52 : decode cX12_hire 52 = .ok (.ifCond .lt 18, 3) := by decide +kernel
theorem dX12_hire_55 : decode cX12_hire 55 = .ok (.aload_n 0, 1) := by decide +kernel
theorem dX12_hire_56 : decode cX12_hire 56 = .ok (.iload 5, 2) := by decide +kernel
theorem dX12_hire_58 : decode cX12_hire 58 = .ok (.invokevirtual 255, 3) := by decide +kernel
theorem dX12_hire_61 : decode cX12_hire 61 = .ok (.aload_n 0, 1) := by decide +kernel
theorem dX12_hire_62 : decode cX12_hire 62 = .ok (.iload 4, 2) := by decide +kernel
theorem dX12_hire_64 : decode cX12_hire 64 = .ok (.invokevirtual 255, 3) := by decide +kernel
theorem dX12_hire_67 : decode cX12_hire 67 = .ok (.if_icmp .ge 7, 3) := by decide +kernel
theorem dX12_hire_70 : decode cX12_hire 70 = .ok (.iconst 1, 1) := by decide +kernel
theorem dX12_hire_71 : decode cX12_hire 71 = .ok (.goto 4, 3) := by decide +kernel
theorem dX12_hire_74 : decode cX12_hire 74 = .ok (.iconst 0, 1) := by decide +kernel
theorem dX12_hire_75 : decode cX12_hire 75 = .ok (.istore 6, 2) := by decide +kernel
theorem dX12_hire_77 : decode cX12_hire 77 = .ok (.iload 6, 2) := by decide +kernel
theorem dX12_hire_79 : decode cX12_hire 79 = .ok (.ifCond .eq 28, 3) := by decide +kernel
theorem dX12_hire_82 : decode cX12_hire 82 = .ok (.iload 5, 2) := by decide +kernel
theorem dX12_hire_84 : decode cX12_hire 84 = .ok (.iload_n 1, 1) := by decide +kernel
theorem dX12_hire_85 : decode cX12_hire 85 = .ok (.invokestatic 97, 3) := by decide +kernel
theorem dX12_hire_88 : decode cX12_hire 88 = .ok (.ifCond .ne 19, 3) := by decide +kernel
theorem dX12_hire_91 : decode cX12_hire 91 = .ok (.aload_n 0, 1) := by decide +kernel
theorem dX12_hire_92 : decode cX12_hire 92 = .ok (.iload_n 1, 1) := by decide +kernel
theorem dX12_hire_93 : decode cX12_hire 93 = .ok (.iload 5, 2) := by decide +kernel
theorem dX12_hire_95 : decode cX12_hire 95 = .ok (.iload_n 2, 1) := by decide +kernel
theorem dX12_hire_96 : decode cX12_hire 96 = .ok (.invokevirtual 248, 3) := by decide +kernel
theorem dX12_hire_99 : decode cX12_hire 99 = .ok (.ifCond .eq 8, 3) := by decide +kernel
theorem dX12_hire_102 : decode cX12_hire 102 = .ok (.iload 5, 2) := by decide +kernel
theorem dX12_hire_104 : decode cX12_hire 104 = .ok (.goto 5, 3) := by decide +kernel
theorem dX12_hire_107 : decode cX12_hire 107 = .ok (.iload 4, 2) := by decide +kernel
theorem dX12_hire_109 : decode cX12_hire 109 = .ok (.istore 4, 2) := by decide +kernel
theorem dX12_hire_111 : decode cX12_hire 111 = .ok (.iinc 5 1, 3) := by decide +kernel
theorem dX12_hire_114 : decode cX12_hire 114 = .ok (.goto (-75), 3) := by decide +kernel
theorem dX12_hire_117 : decode cX12_hire 117 = .ok (.iload_n 3, 1) := by decide +kernel
theorem dX12_hire_118 : decode cX12_hire 118 = .ok (.ifCond .eq 8, 3) := by decide +kernel
theorem dX12_hire_121 : decode cX12_hire 121 = .ok (.iload 4, 2) := by decide +kernel
theorem dX12_hire_123 : decode cX12_hire 123 = .ok (.ifCond .ge 8, 3) := by decide +kernel
theorem dX12_hire_126 : decode cX12_hire 126 = .ok (.iload 4, 2) := by decide +kernel
theorem dX12_hire_128 : decode cX12_hire 128 = .ok (.goto 9, 3) := by decide +kernel
theorem dX12_hire_131 : decode cX12_hire 131 = .ok (.aload_n 0, 1) := by decide +kernel
theorem dX12_hire_132 : decode cX12_hire 132 = .ok (.iload 4, 2) := by decide +kernel
theorem dX12_hire_134 : decode cX12_hire 134 = .ok (.invokevirtual 255, 3) := by decide +kernel
theorem dX12_hire_137 : decode cX12_hire 137 = .ok (.ireturn, 1) := by decide +kernel
theorem dX12_sit_0 : decode cX12_sit 0 = .ok (.aload_n 0, 1) := by decide +kernel
theorem dX12_sit_1 : decode cX12_sit 1 = .ok (.iconst 0, 1) := by decide +kernel
theorem dX12_sit_2 : decode cX12_sit 2 = .ok (.putfield 74, 3) := by decide +kernel
theorem dX12_sit_5 : decode cX12_sit 5 = .ok (.aload_n 0, 1) := by decide +kernel
theorem dX12_sit_6 : decode cX12_sit 6 = .ok (.iload_n 1, 1) := by decide +kernel
theorem dX12_sit_7 : decode cX12_sit 7 = .ok (.invokevirtual 176, 3) := by decide +kernel
theorem dX12_sit_10 : decode cX12_sit 10 = .ok (.ifCond .eq 13, 3) := by decide +kernel
theorem dX12_sit_13 : decode cX12_sit 13 = .ok (.iload_n 2, 1) := by decide +kernel
theorem dX12_sit_14 : decode cX12_sit 14 = .ok (.i2l, 1) := by decide +kernel
theorem dX12_sit_15 : decode cX12_sit 15 = .ok (.lconst 0, 1) := by decide +kernel
theorem dX12_sit_16 : decode cX12_sit 16 = .ok (.lconst 1, 1) := by decide +kernel
theorem dX12_sit_17 : decode cX12_sit 17 = .ok (.invokestatic 80, 3) := by decide +kernel
theorem dX12_sit_20 : decode cX12_sit 20 = .ok (.ifCond .ne 5, 3) := by decide +kernel
theorem dX12_sit_23 : decode cX12_sit 23 = .ok (.iconst (-1), 1) := by decide +kernel
theorem dX12_sit_24 : decode cX12_sit 24 = .ok (.ireturn, 1) := by decide +kernel
theorem dX12_sit_25 : decode cX12_sit 25 = .ok (.iconst 0, 1) := by decide +kernel
theorem dX12_sit_26 : decode cX12_sit 26 = .ok (.istore_n 3, 1) := by decide +kernel
theorem dX12_sit_27 : decode cX12_sit 27 = .ok (.iconst (-1), 1) := by decide +kernel
theorem dX12_sit_28 : decode cX12_sit 28 = .ok (.istore 4, 2) := by decide +kernel
theorem dX12_sit_30 : decode cX12_sit 30 = .ok (.aload_n 0, 1) := by decide +kernel
theorem dX12_sit_31 : decode cX12_sit 31 = .ok (.getfield 22, 3) := by decide +kernel
theorem dX12_sit_34 : decode cX12_sit 34 = .ok (.iload_n 1, 1) := by decide +kernel
theorem dX12_sit_35 : decode cX12_sit 35 = .ok (.iaload, 1) := by decide +kernel
theorem dX12_sit_36 : decode cX12_sit 36 = .ok (.istore 5, 2) := by decide +kernel
theorem dX12_sit_38 : decode cX12_sit 38 = .ok (.iconst 0, 1) := by decide +kernel
theorem dX12_sit_39 : decode cX12_sit 39 = .ok (.istore 6, 2) := by decide +kernel
theorem dX12_sit_41 : decode cX12_sit 41 = .ok (.iload 6, 2) := by decide +kernel
theorem dX12_sit_43 : decode cX12_sit 43 = .ok (.bipush 15, 2) := by decide +kernel
theorem dX12_sit_45 : decode cX12_sit 45 = .ok (.if_icmp .ge 63, 3) := by decide +kernel
theorem dX12_sit_48 : decode cX12_sit 48 = .ok (.aload_n 0, 1) := by decide +kernel
theorem dX12_sit_49 : decode cX12_sit 49 = .ok (.getfield 22, 3) := by decide +kernel
theorem dX12_sit_52 : decode cX12_sit 52 = .ok (.iload_n 1, 1) := by decide +kernel
theorem dX12_sit_53 : decode cX12_sit 53 = .ok (.iload 6, 2) := by decide +kernel
theorem dX12_sit_55 : decode cX12_sit 55 = .ok (.iastore, 1) := by decide +kernel
theorem dX12_sit_56 : decode cX12_sit 56 = .ok (.aload_n 0, 1) := by decide +kernel
theorem dX12_sit_57 : decode cX12_sit 57 = .ok (.invokevirtual 231, 3) := by decide +kernel
theorem dX12_sit_60 : decode cX12_sit 60 = .ok (.istore 7, 2) := by decide +kernel
theorem dX12_sit_62 : decode cX12_sit 62 = .ok (.iload 4, 2) := by decide +kernel
theorem dX12_sit_64 : decode cX12_sit 64 = .ok (.ifCond .lt 10, 3) := by decide +kernel
theorem dX12_sit_67 : decode cX12_sit 67 = .ok (.iload 7, 2) := by decide +kernel
theorem dX12_sit_69 : decode cX12_sit 69 = .ok (.iload 4, 2) := by decide +kernel
theorem dX12_sit_71 : decode cX12_sit 71 = .ok (.if_icmp .ge 8, 3) := by decide +kernel
theorem dX12_sit_74 : decode cX12_sit 74 = .ok (.iload 6, 2) := by decide +kernel
theorem dX12_sit_76 : decode cX12_sit 76 = .ok (.goto 4, 3) := by decide +kernel
theorem dX12_sit_79 : decode cX12_sit 79 = .ok (.iload_n 3, 1) := by decide +kernel
theorem dX12_sit_80 : decode cX12_sit 80 = .ok (.istore_n 3, 1) := by decide +kernel
theorem dX12_sit_81 : decode cX12_sit 81 = .ok (.iload 4, 2) := by decide +kernel
theorem dX12_sit_83 : decode cX12_sit 83 = .ok (.ifCond .lt 10, 3) := by decide +kernel
theorem dX12_sit_86 : decode cX12_sit 86 = .ok (.iload 7, 2) := by decide +kernel
theorem dX12_sit_88 : decode cX12_sit 88 = .ok (.iload 4, 2) := by decide +kernel
theorem dX12_sit_90 : decode cX12_sit 90 = .ok (.if_icmp .ge 8, 3) := by decide +kernel
theorem dX12_sit_93 : decode cX12_sit 93 = .ok (.iload 7, 2) := by decide +kernel
theorem dX12_sit_95 : decode cX12_sit 95 = .ok (.goto 5, 3) := by decide +kernel
theorem dX12_sit_98 : decode cX12_sit 98 = .ok (.iload 4, 2) := by decide +kernel
theorem dX12_sit_100 : decode cX12_sit 100 = .ok (.istore 4, 2) := by decide +kernel
theorem dX12_sit_102 : decode cX12_sit 102 = .ok (.iinc 6 1, 3) := by decide +kernel
theorem dX12_sit_105 : decode cX12_sit 105 = .ok (.goto (-64), 3) := by decide +kernel
theorem dX12_sit_108 : decode cX12_sit 108 = .ok (.aload_n 0, 1) := by decide +kernel
theorem dX12_sit_109 : decode cX12_sit 109 = .ok (.getfield 22, 3) := by decide +kernel
theorem dX12_sit_112 : decode cX12_sit 112 = .ok (.iload_n 1, 1) := by decide +kernel
theorem dX12_sit_113 : decode cX12_sit 113 = .ok (.iload 5, 2) := by decide +kernel
theorem dX12_sit_115 : decode cX12_sit 115 = .ok (.iastore, 1) := by decide +kernel
theorem dX12_sit_116 : decode cX12_sit 116 = .ok (.iload_n 2, 1) := by decide +kernel
theorem dX12_sit_117 : decode cX12_sit 117 = .ok (.ifCond .ne 7, 3) := by decide +kernel
theorem dX12_sit_120 : decode cX12_sit 120 = .ok (.iload_n 3, 1) := by decide +kernel
theorem dX12_sit_121 : decode cX12_sit 121 = .ok (.goto 5, 3) := by decide +kernel
theorem dX12_sit_124 : decode cX12_sit 124 = .ok (.iload 4, 2) := by decide +kernel
theorem dX12_sit_126 : decode cX12_sit 126 = .ok (.ireturn, 1) := by decide +kernel
theorem dX12_apart_0 : decode cX12_apart 0 = .ok (.aload_n 0, 1) := by decide +kernel
theorem dX12_apart_1 : decode cX12_apart 1 = .ok (.iconst 0, 1) := by decide +kernel
theorem dX12_apart_2 : decode cX12_apart 2 = .ok (.putfield 74, 3) := by decide +kernel
theorem dX12_apart_5 : decode cX12_apart 5 = .ok (.iload_n 1, 1) := by decide +kernel
theorem dX12_apart_6 : decode cX12_apart 6 = .ok (.i2l, 1) := by decide +kernel
theorem dX12_apart_7 : decode cX12_apart 7 = .ok (.lconst 0, 1) := by decide +kernel
theorem dX12_apart_8 : decode cX12_apart 8 = .ok (.lconst 1, 1) := by decide +kernel
theorem dX12_apart_9 : decode cX12_apart 9 = .ok (.invokestatic 80, 3) := by decide +kernel
theorem dX12_apart_12 : decode cX12_apart 12 = .ok (.ifCond .ne 5, 3) := by decide +kernel
theorem dX12_apart_15 : decode cX12_apart 15 = .ok (.iconst (-1), 1) := by decide +kernel
theorem dX12_apart_16 : decode cX12_apart 16 = .ok (.ireturn, 1) := by decide +kernel
theorem dX12_apart_17 : decode cX12_apart 17 = .ok (.aload_n 0, 1) := by decide +kernel
theorem dX12_apart_18 : decode cX12_apart 18 = .ok (.invokevirtual 231, 3) := by decide +kernel
theorem dX12_apart_21 : decode cX12_apart 21 = .ok (.istore_n 2, 1) := by decide +kernel
theorem dX12_apart_22 : decode cX12_apart 22 = .ok (.iconst 0, 1) := by decide +kernel
theorem dX12_apart_23 : decode cX12_apart 23 = .ok (.istore_n 3, 1) := by decide +kernel
theorem dX12_apart_24 : decode cX12_apart 24 = .ok (.bipush (-4), 2) := by decide +kernel
theorem dX12_apart_26 : decode cX12_apart 26 = .ok (.istore 4, 2) := by decide +kernel
theorem dX12_apart_28 : decode cX12_apart 28 = .ok (.iconst 0, 1) := by decide +kernel
theorem dX12_apart_29 : decode cX12_apart 29 = .ok (.istore 5, 2) := by decide +kernel
theorem dX12_apart_31 : decode cX12_apart 31 = .ok (.iload 5, 2) := by decide +kernel
theorem dX12_apart_33 : decode cX12_apart 33 = .ok (.aload_n 0, 1) := by decide +kernel
theorem dX12_apart_34 : decode cX12_apart 34 = .ok (.getfield 84, 3) := by decide +kernel
theorem dX12_apart_37 : decode cX12_apart 37 = .ok (.if_icmp .ge 145, 3) := by decide +kernel
theorem dX12_apart_40 : decode cX12_apart 40 = .ok (.iload 5, 2) := by decide +kernel
theorem dX12_apart_42 : decode cX12_apart 42 = .ok (.iconst 1, 1) := by decide +kernel
theorem dX12_apart_43 : decode cX12_apart 43 = .ok (.iadd, 1) := by decide +kernel
theorem dX12_apart_44 : decode cX12_apart 44 = .ok (.istore 6, 2) := by decide +kernel
theorem dX12_apart_46 : decode cX12_apart 46 = .ok (.iload 6, 2) := by decide +kernel
theorem dX12_apart_48 : decode cX12_apart 48 = .ok (.aload_n 0, 1) := by decide +kernel
theorem dX12_apart_49 : decode cX12_apart 49 = .ok (.getfield 84, 3) := by decide +kernel
theorem dX12_apart_52 : decode cX12_apart 52 = .ok (.if_icmp .ge 124, 3) := by decide +kernel
theorem dX12_apart_55 : decode cX12_apart 55 = .ok (.aload_n 0, 1) := by decide +kernel
theorem dX12_apart_56 : decode cX12_apart 56 = .ok (.invokevirtual 191, 3) := by decide +kernel
theorem dX12_apart_59 : decode cX12_apart 59 = .ok (.aload_n 0, 1) := by decide +kernel
theorem dX12_apart_60 : decode cX12_apart 60 = .ok (.getfield 22, 3) := by decide +kernel
theorem dX12_apart_63 : decode cX12_apart 63 = .ok (.iload 5, 2) := by decide +kernel
theorem dX12_apart_65 : decode cX12_apart 65 = .ok (.iaload, 1) := by decide +kernel
theorem dX12_apart_66 : decode cX12_apart 66 = .ok (.aload_n 0, 1) := by decide +kernel
theorem dX12_apart_67 : decode cX12_apart 67 = .ok (.getfield 22, 3) := by decide +kernel
theorem dX12_apart_70 : decode cX12_apart 70 = .ok (.iload 6, 2) := by decide +kernel
theorem dX12_apart_72 : decode cX12_apart 72 = .ok (.iaload, 1) := by decide +kernel
theorem dX12_apart_73 : decode cX12_apart 73 = .ok (.if_icmp .ge 13, 3) := by decide +kernel
theorem dX12_apart_76 : decode cX12_apart 76 = .ok (.aload_n 0, 1) := by decide +kernel
theorem dX12_apart_77 : decode cX12_apart 77 = .ok (.getfield 22, 3) := by decide +kernel
theorem dX12_apart_80 : decode cX12_apart 80 = .ok (.iload 5, 2) := by decide +kernel
theorem dX12_apart_82 : decode cX12_apart 82 = .ok (.iaload, 1) := by decide +kernel
theorem dX12_apart_83 : decode cX12_apart 83 = .ok (.goto 10, 3) := by decide +kernel
theorem dX12_apart_86 : decode cX12_apart 86 = .ok (.aload_n 0, 1) := by decide +kernel
theorem dX12_apart_87 : decode cX12_apart 87 = .ok (.getfield 22, 3) := by decide +kernel
theorem dX12_apart_90 : decode cX12_apart 90 = .ok (.iload 6, 2) := by decide +kernel
theorem dX12_apart_92 : decode cX12_apart 92 = .ok (.iaload, 1) := by decide +kernel
theorem dX12_apart_93 : decode cX12_apart 93 = .ok (.istore 7, 2) := by decide +kernel
theorem dX12_apart_95 : decode cX12_apart 95 = .ok (.aload_n 0, 1) := by decide +kernel
theorem dX12_apart_96 : decode cX12_apart 96 = .ok (.getfield 22, 3) := by decide +kernel
theorem dX12_apart_99 : decode cX12_apart 99 = .ok (.iload 5, 2) := by decide +kernel
theorem dX12_apart_101 : decode cX12_apart 101 = .ok (.iload 7, 2) := by decide +kernel
theorem dX12_apart_103 : decode cX12_apart 103 = .ok (.iastore, 1) := by decide +kernel
theorem dX12_apart_104 : decode cX12_apart 104 = .ok (.aload_n 0, 1) := by decide +kernel
theorem dX12_apart_105 : decode cX12_apart 105 = .ok (.getfield 22, 3) := by decide +kernel
theorem dX12_apart_108 : decode cX12_apart 108 = .ok (.iload 6, 2) := by decide +kernel
theorem dX12_apart_110 : decode cX12_apart 110 = .ok (.iload 7, 2) := by decide +kernel
theorem dX12_apart_112 : decode cX12_apart 112 = .ok (.iastore, 1) := by decide +kernel
theorem dX12_apart_113 : decode cX12_apart 113 = .ok (.aload_n 0, 1) := by decide +kernel
theorem dX12_apart_114 : decode cX12_apart 114 = .ok (.invokevirtual 231, 3) := by decide +kernel
theorem dX12_apart_117 : decode cX12_apart 117 = .ok (.iload_n 2, 1) := by decide +kernel
theorem dX12_apart_118 : decode cX12_apart 118 = .ok (.if_icmp .le 7, 3) := by decide +kernel
theorem dX12_apart_121 : decode cX12_apart 121 = .ok (.iconst 1, 1) := by decide +kernel
theorem dX12_apart_122 : decode cX12_apart 122 = .ok (.goto 4, 3) := by decide +kernel
theorem dX12_apart_125 : decode cX12_apart 125 = .ok (.iconst 0, 1) := by decide +kernel
theorem dX12_apart_126 : decode cX12_apart 126 = .ok (.istore 8, 2) := by decide +kernel
theorem dX12_apart_128 : decode cX12_apart 128 = .ok (.aload_n 0, 1) := by decide +kernel
theorem dX12_apart_129 : decode cX12_apart 129 = .ok (.invokevirtual 197, 3) := by decide +kernel
theorem dX12_apart_132 : decode cX12_apart 132 = .ok (.iload_n 3, 1) := by decide +kernel
theorem dX12_apart_133 : decode cX12_apart 133 = .ok (.iload 8, 2) := by decide +kernel
theorem dX12_apart_135 : decode cX12_apart 135 = .ok (.ifCond .eq 7, 3) := by decide +kernel
theorem dX12_apart_138 : decode cX12_apart 138 = .ok (.iconst 1, 1) := by decide +kernel
theorem dX12_apart_139 : decode cX12_apart 139 = .ok (.goto 4, 3) := by decide +kernel
theorem dX12_apart_142 : decode cX12_apart 142 = .ok (.iconst 0, 1) := by decide +kernel
theorem dX12_apart_143 : decode cX12_apart 143 = .ok (.iadd, 1) := by decide +kernel
theorem dX12_apart_144 : decode cX12_apart 144 = .ok (.istore_n 3, 1) := by decide +kernel
theorem dX12_apart_145 : decode cX12_apart 145 = .ok (.iload 8, 2) := by decide +kernel
theorem dX12_apart_147 : decode cX12_apart 147 = .ok (.ifCond .eq 19, 3) := by decide +kernel
theorem dX12_apart_150 : decode cX12_apart 150 = .ok (.iload 4, 2) := by decide +kernel
theorem dX12_apart_152 : decode cX12_apart 152 = .ok (.ifCond .ge 14, 3) := by decide +kernel
theorem dX12_apart_155 : decode cX12_apart 155 = .ok (.bipush 10, 2) := by decide +kernel
theorem dX12_apart_157 : decode cX12_apart 157 = .ok (.iload 5, 2) := by decide +kernel
theorem dX12_apart_159 : decode cX12_apart 159 = .ok (.imul, 1) := by decide +kernel
theorem dX12_apart_160 : decode cX12_apart 160 = .ok (.iload 6, 2) := by decide +kernel
theorem dX12_apart_162 : decode cX12_apart 162 = .ok (.iadd, 1) := by decide +kernel
theorem dX12_apart_163 : decode cX12_apart 163 = .ok (.goto 5, 3) := by decide +kernel
theorem dX12_apart_166 : decode cX12_apart 166 = .ok (.iload 4, 2) := by decide +kernel
theorem dX12_apart_168 : decode cX12_apart 168 = .ok (.istore 4, 2) := by decide +kernel
theorem dX12_apart_170 : decode cX12_apart 170 = .ok (.iinc 6 1, 3) := by decide +kernel
theorem dX12_apart_173 : decode cX12_apart 173 = .ok (.goto (-127), 3) := by decide +kernel
theorem dX12_apart_176 : decode cX12_apart 176 = .ok (.iinc 5 1, 3) := by decide +kernel
theorem dX12_apart_179 : decode cX12_apart 179 = .ok (.goto (-148), 3) := by decide +kernel
theorem dX12_apart_182 : decode cX12_apart 182 = .ok (.iload_n 1, 1) := by decide +kernel
theorem dX12_apart_183 : decode cX12_apart 183 = .ok (.ifCond .ne 7, 3) := by decide +kernel
theorem dX12_apart_186 : decode cX12_apart 186 = .ok (.iload_n 3, 1) := by decide +kernel
theorem dX12_apart_187 : decode cX12_apart 187 = .ok (.goto 5, 3) := by decide +kernel
theorem dX12_apart_190 : decode cX12_apart 190 = .ok (.iload 4, 2) := by decide +kernel
theorem dX12_apart_192 : decode cX12_apart 192 = .ok (.ireturn, 1) := by decide +kernel
theorem dX12_keeps_0 : decode cX12_keeps 0 = .ok (.aload_n 0, 1) := by decide +kernel
theorem dX12_keeps_1 : decode cX12_keeps 1 = .ok (.iconst 0, 1) := by decide +kernel
theorem dX12_keeps_2 : decode cX12_keeps 2 = .ok (.putfield 74, 3) := by decide +kernel
theorem dX12_keeps_5 : decode cX12_keeps 5 = .ok (.iconst 1, 1) := by decide +kernel
theorem dX12_keeps_6 : decode cX12_keeps 6 = .ok (.aload_n 0, 1) := by decide +kernel
theorem dX12_keeps_7 : decode cX12_keeps 7 = .ok (.getfield 84, 3) := by decide +kernel
theorem dX12_keeps_10 : decode cX12_keeps 10 = .ok (.ishl, 1) := by decide +kernel
theorem dX12_keeps_11 : decode cX12_keeps 11 = .ok (.iconst 1, 1) := by decide +kernel
theorem dX12_keeps_12 : decode cX12_keeps 12 = .ok (.isub, 1) := by decide +kernel
theorem dX12_keeps_13 : decode cX12_keeps 13 = .ok (.istore_n 1, 1) := by decide +kernel
theorem dX12_keeps_14 : decode cX12_keeps 14 = .ok (.bipush (-4), 2) := by decide +kernel
theorem dX12_keeps_16 : decode cX12_keeps 16 = .ok (.istore_n 2, 1) := by decide +kernel
theorem dX12_keeps_17 : decode cX12_keeps 17 = .ok (.iconst 0, 1) := by decide +kernel
theorem dX12_keeps_18 : decode cX12_keeps 18 = .ok (.istore_n 3, 1) := by decide +kernel
theorem dX12_keeps_19 : decode cX12_keeps 19 = .ok (.iload_n 3, 1) := by decide +kernel
theorem dX12_keeps_20 : decode cX12_keeps 20 = .ok (.iload_n 1, 1) := by decide +kernel
theorem dX12_keeps_21 : decode cX12_keeps 21 = .ok (.if_icmp .gt 58, 3) := by decide +kernel
theorem dX12_keeps_24 : decode cX12_keeps 24 = .ok (.iload_n 2, 1) := by decide +kernel
theorem dX12_keeps_25 : decode cX12_keeps 25 = .ok (.ifCond .lt 14, 3) := by decide +kernel
theorem dX12_keeps_28 : decode cX12_keeps 28 = .ok (.iload_n 3, 1) := by decide +kernel
theorem dX12_keeps_29 : decode cX12_keeps 29 = .ok (.invokestatic 252, 3) := by decide +kernel
theorem dX12_keeps_32 : decode cX12_keeps 32 = .ok (.iload_n 2, 1) := by decide +kernel
theorem dX12_keeps_33 : decode cX12_keeps 33 = .ok (.invokestatic 252, 3) := by decide +kernel
theorem dX12_keeps_36 : decode cX12_keeps 36 = .ok (.if_icmp .le 7, 3) := by decide +kernel
theorem dX12_keeps_39 : decode cX12_keeps 39 = .ok (.iconst 1, 1) := by decide +kernel
theorem dX12_keeps_40 : decode cX12_keeps 40 = .ok (.goto 4, 3) := by decide +kernel
theorem dX12_keeps_43 : decode cX12_keeps 43 = .ok (.iconst 0, 1) := by decide +kernel
theorem dX12_keeps_44 : decode cX12_keeps 44 = .ok (.istore 4, 2) := by decide +kernel
theorem dX12_keeps_46 : decode cX12_keeps 46 = .ok (.aload_n 0, 1) := by decide +kernel
theorem dX12_keeps_47 : decode cX12_keeps 47 = .ok (.iload_n 1, 1) := by decide +kernel
theorem dX12_keeps_48 : decode cX12_keeps 48 = .ok (.iload_n 3, 1) := by decide +kernel
theorem dX12_keeps_49 : decode cX12_keeps 49 = .ok (.iconst (-1), 1) := by decide +kernel
theorem dX12_keeps_50 : decode cX12_keeps 50 = .ok (.ixor, 1) := by decide +kernel
theorem dX12_keeps_51 : decode cX12_keeps 51 = .ok (.iand, 1) := by decide +kernel
theorem dX12_keeps_52 : decode cX12_keeps 52 = .ok (.putfield 94, 3) := by decide +kernel
theorem dX12_keeps_55 : decode cX12_keeps 55 = .ok (.iload 4, 2) := by decide +kernel
theorem dX12_keeps_57 : decode cX12_keeps 57 = .ok (.ifCond .eq 14, 3) := by decide +kernel
theorem dX12_keeps_60 : decode cX12_keeps 60 = .ok (.aload_n 0, 1) := by decide +kernel
theorem dX12_keeps_61 : decode cX12_keeps 61 = .ok (.invokevirtual 231, 3) := by decide +kernel
theorem dX12_keeps_64 : decode cX12_keeps 64 = .ok (.ifCond .ne 7, 3) := by decide +kernel
theorem dX12_keeps_67 : decode cX12_keeps 67 = .ok (.iload_n 3, 1) := by decide +kernel
theorem dX12_keeps_68 : decode cX12_keeps 68 = .ok (.goto 4, 3) := by decide +kernel
theorem dX12_keeps_71 : decode cX12_keeps 71 = .ok (.iload_n 2, 1) := by decide +kernel
theorem dX12_keeps_72 : decode cX12_keeps 72 = .ok (.istore_n 2, 1) := by decide +kernel
theorem dX12_keeps_73 : decode cX12_keeps 73 = .ok (.iinc 3 1, 3) := by decide +kernel
theorem dX12_keeps_76 : decode cX12_keeps 76 = .ok (.goto (-57), 3) := by decide +kernel
theorem dX12_keeps_79 : decode cX12_keeps 79 = .ok (.aload_n 0, 1) := by decide +kernel
theorem dX12_keeps_80 : decode cX12_keeps 80 = .ok (.iconst 0, 1) := by decide +kernel
theorem dX12_keeps_81 : decode cX12_keeps 81 = .ok (.putfield 94, 3) := by decide +kernel
theorem dX12_keeps_84 : decode cX12_keeps 84 = .ok (.iload_n 2, 1) := by decide +kernel
theorem dX12_keeps_85 : decode cX12_keeps 85 = .ok (.ireturn, 1) := by decide +kernel
theorem dX12_even_0 : decode cX12_even 0 = .ok (.aload_n 0, 1) := by decide +kernel
theorem dX12_even_1 : decode cX12_even 1 = .ok (.iconst 0, 1) := by decide +kernel
theorem dX12_even_2 : decode cX12_even 2 = .ok (.putfield 74, 3) := by decide +kernel
theorem dX12_even_5 : decode cX12_even 5 = .ok (.bipush (-4), 2) := by decide +kernel
theorem dX12_even_7 : decode cX12_even 7 = .ok (.istore_n 1, 1) := by decide +kernel
theorem dX12_even_8 : decode cX12_even 8 = .ok (.aload_n 0, 1) := by decide +kernel
theorem dX12_even_9 : decode cX12_even 9 = .ok (.invokevirtual 258, 3) := by decide +kernel
theorem dX12_even_12 : decode cX12_even 12 = .ok (.istore_n 2, 1) := by decide +kernel
theorem dX12_even_13 : decode cX12_even 13 = .ok (.iconst 0, 1) := by decide +kernel
theorem dX12_even_14 : decode cX12_even 14 = .ok (.istore_n 3, 1) := by decide +kernel
theorem dX12_even_15 : decode cX12_even 15 = .ok (.iload_n 3, 1) := by decide +kernel
theorem dX12_even_16 : decode cX12_even 16 = .ok (.aload_n 0, 1) := by decide +kernel
theorem dX12_even_17 : decode cX12_even 17 = .ok (.getfield 84, 3) := by decide +kernel
theorem dX12_even_20 : decode cX12_even 20 = .ok (.if_icmp .ge 86, 3) := by decide +kernel
theorem dX12_even_23 : decode cX12_even 23 = .ok (.aload_n 0, 1) := by decide +kernel
theorem dX12_even_24 : decode cX12_even 24 = .ok (.getfield 22, 3) := by decide +kernel
theorem dX12_even_27 : decode cX12_even 27 = .ok (.iload_n 3, 1) := by decide +kernel
theorem dX12_even_28 : decode cX12_even 28 = .ok (.iaload, 1) := by decide +kernel
theorem dX12_even_29 : decode cX12_even 29 = .ok (.istore 4, 2) := by decide +kernel
theorem dX12_even_31 : decode cX12_even 31 = .ok (.iconst 0, 1) := by decide +kernel
theorem dX12_even_32 : decode cX12_even 32 = .ok (.istore 5, 2) := by decide +kernel
theorem dX12_even_34 : decode cX12_even 34 = .ok (.iload 5, 2) := by decide +kernel
theorem dX12_even_36 : decode cX12_even 36 = .ok (.bipush 15, 2) := by decide +kernel
theorem dX12_even_38 : decode cX12_even 38 = .ok (.if_icmp .ge 54, 3) := by decide +kernel
theorem dX12_even_41 : decode cX12_even 41 = .ok (.aload_n 0, 1) := by decide +kernel
theorem dX12_even_42 : decode cX12_even 42 = .ok (.getfield 22, 3) := by decide +kernel
theorem dX12_even_45 : decode cX12_even 45 = .ok (.iload_n 3, 1) := by decide +kernel
theorem dX12_even_46 : decode cX12_even 46 = .ok (.iload 5, 2) := by decide +kernel
theorem dX12_even_48 : decode cX12_even 48 = .ok (.iastore, 1) := by decide +kernel
theorem dX12_even_49 : decode cX12_even 49 = .ok (.aload_n 0, 1) := by decide +kernel
theorem dX12_even_50 : decode cX12_even 50 = .ok (.invokevirtual 258, 3) := by decide +kernel
theorem dX12_even_53 : decode cX12_even 53 = .ok (.istore 6, 2) := by decide +kernel
theorem dX12_even_55 : decode cX12_even 55 = .ok (.iload 6, 2) := by decide +kernel
theorem dX12_even_57 : decode cX12_even 57 = .ok (.iload_n 2, 1) := by decide +kernel
theorem dX12_even_58 : decode cX12_even 58 = .ok (.if_icmp .ge 13, 3) := by decide +kernel
theorem dX12_even_61 : decode cX12_even 61 = .ok (.bipush 100, 2) := by decide +kernel
theorem dX12_even_63 : decode cX12_even 63 = .ok (.iload_n 3, 1) := by decide +kernel
theorem dX12_even_64 : decode cX12_even 64 = .ok (.imul, 1) := by decide +kernel
theorem dX12_even_65 : decode cX12_even 65 = .ok (.iload 5, 2) := by decide +kernel
theorem dX12_even_67 : decode cX12_even 67 = .ok (.iadd, 1) := by decide +kernel
theorem dX12_even_68 : decode cX12_even 68 = .ok (.goto 4, 3) := by decide +kernel
theorem dX12_even_71 : decode cX12_even 71 = .ok (.iload_n 1, 1) := by decide +kernel
theorem dX12_even_72 : decode cX12_even 72 = .ok (.istore_n 1, 1) := by decide +kernel
theorem dX12_even_73 : decode cX12_even 73 = .ok (.iload 6, 2) := by decide +kernel
theorem dX12_even_75 : decode cX12_even 75 = .ok (.iload_n 2, 1) := by decide +kernel
theorem dX12_even_76 : decode cX12_even 76 = .ok (.if_icmp .ge 8, 3) := by decide +kernel
theorem dX12_even_79 : decode cX12_even 79 = .ok (.iload 6, 2) := by decide +kernel
theorem dX12_even_81 : decode cX12_even 81 = .ok (.goto 4, 3) := by decide +kernel
theorem dX12_even_84 : decode cX12_even 84 = .ok (.iload_n 2, 1) := by decide +kernel
theorem dX12_even_85 : decode cX12_even 85 = .ok (.istore_n 2, 1) := by decide +kernel
theorem dX12_even_86 : decode cX12_even 86 = .ok (.iinc 5 1, 3) := by decide +kernel
theorem dX12_even_89 : decode cX12_even 89 = .ok (.goto (-55), 3) := by decide +kernel
theorem dX12_even_92 : decode cX12_even 92 = .ok (.aload_n 0, 1) := by decide +kernel
theorem dX12_even_93 : decode cX12_even 93 = .ok (.getfield 22, 3) := by decide +kernel
theorem dX12_even_96 : decode cX12_even 96 = .ok (.iload_n 3, 1) := by decide +kernel
theorem dX12_even_97 : decode cX12_even 97 = .ok (.iload 4, 2) := by decide +kernel
theorem dX12_even_99 : decode cX12_even 99 = .ok (.iastore, 1) := by decide +kernel
theorem dX12_even_100 : decode cX12_even 100 = .ok (.iinc 3 1, 3) := by decide +kernel
theorem dX12_even_103 : decode cX12_even 103 = .ok (.goto (-88), 3) := by decide +kernel
theorem dX12_even_106 : decode cX12_even 106 = .ok (.iload_n 1, 1) := by decide +kernel
theorem dX12_even_107 : decode cX12_even 107 = .ok (.ireturn, 1) := by decide +kernel
theorem dX12_order_0 : decode cX12_order 0 = .ok (.aload_n 0, 1) := by decide +kernel
theorem dX12_order_1 : decode cX12_order 1 = .ok (.iconst 0, 1) := by decide +kernel
theorem dX12_order_2 : decode cX12_order 2 = .ok (.putfield 74, 3) := by decide +kernel
theorem dX12_order_5 : decode cX12_order 5 = .ok (.iload_n 1, 1) := by decide +kernel
theorem dX12_order_6 : decode cX12_order 6 = .ok (.i2l, 1) := by decide +kernel
theorem dX12_order_7 : decode cX12_order 7 = .ok (.lconst 0, 1) := by decide +kernel
theorem dX12_order_8 : decode cX12_order 8 = .ok (.lconst 1, 1) := by decide +kernel
theorem dX12_order_9 : decode cX12_order 9 = .ok (.invokestatic 80, 3) := by decide +kernel
theorem dX12_order_12 : decode cX12_order 12 = .ok (.ifCond .ne 5, 3) := by decide +kernel
theorem dX12_order_15 : decode cX12_order 15 = .ok (.iconst (-1), 1) := by decide +kernel
theorem dX12_order_16 : decode cX12_order 16 = .ok (.ireturn, 1) := by decide +kernel
theorem dX12_order_17 : decode cX12_order 17 = .ok (.bipush (-4), 2) := by decide +kernel
theorem dX12_order_19 : decode cX12_order 19 = .ok (.istore_n 2, 1) := by decide +kernel
theorem dX12_order_20 : decode cX12_order 20 = .ok (.bipush (-4), 2) := by decide +kernel
theorem dX12_order_22 : decode cX12_order 22 = .ok (.istore_n 3, 1) := by decide +kernel
theorem dX12_order_23 : decode cX12_order 23 = .ok (.iconst 0, 1) := by decide +kernel
theorem dX12_order_24 : decode cX12_order 24 = .ok (.istore 4, 2) := by decide +kernel
theorem dX12_order_26 : decode cX12_order 26 = .ok (.iload 4, 2) := by decide +kernel
theorem dX12_order_28 : decode cX12_order 28 = .ok (.aload_n 0, 1) := by decide +kernel
theorem dX12_order_29 : decode cX12_order 29 = .ok (.getfield 84, 3) := by decide +kernel
theorem dX12_order_32 : decode cX12_order 32 = .ok (.if_icmp .ge 73, 3) := by decide +kernel
theorem dX12_order_35 : decode cX12_order 35 = .ok (.aload_n 0, 1) := by decide +kernel
theorem dX12_order_36 : decode cX12_order 36 = .ok (.getfield 22, 3) := by decide +kernel
theorem dX12_order_39 : decode cX12_order 39 = .ok (.iload 4, 2) := by decide +kernel
theorem dX12_order_41 : decode cX12_order 41 = .ok (.iaload, 1) := by decide +kernel
theorem dX12_order_42 : decode cX12_order 42 = .ok (.istore 5, 2) := by decide +kernel
theorem dX12_order_44 : decode cX12_order 44 = .ok (.aload_n 0, 1) := by decide +kernel
theorem dX12_order_45 : decode cX12_order 45 = .ok (.getfield 22, 3) := by decide +kernel
theorem dX12_order_48 : decode cX12_order 48 = .ok (.iload 4, 2) := by decide +kernel
theorem dX12_order_50 : decode cX12_order 50 = .ok (.iconst 0, 1) := by decide +kernel
theorem dX12_order_51 : decode cX12_order 51 = .ok (.iastore, 1) := by decide +kernel
theorem dX12_order_52 : decode cX12_order 52 = .ok (.aload_n 0, 1) := by decide +kernel
theorem dX12_order_53 : decode cX12_order 53 = .ok (.iload 4, 2) := by decide +kernel
theorem dX12_order_55 : decode cX12_order 55 = .ok (.iconst 0, 1) := by decide +kernel
theorem dX12_order_56 : decode cX12_order 56 = .ok (.iconst 1, 1) := by decide +kernel
theorem dX12_order_57 : decode cX12_order 57 = .ok (.bipush 14, 2) := by decide +kernel
theorem dX12_order_59 : decode cX12_order 59 = .ok (.invokevirtual 244, 3) := by decide +kernel
theorem dX12_order_62 : decode cX12_order 62 = .ok (.istore 6, 2) := by decide +kernel
theorem dX12_order_64 : decode cX12_order 64 = .ok (.aload_n 0, 1) := by decide +kernel
theorem dX12_order_65 : decode cX12_order 65 = .ok (.getfield 22, 3) := by decide +kernel
theorem dX12_order_68 : decode cX12_order 68 = .ok (.iload 4, 2) := by decide +kernel
theorem dX12_order_70 : decode cX12_order 70 = .ok (.iload 5, 2) := by decide +kernel
theorem dX12_order_72 : decode cX12_order 72 = .ok (.iastore, 1) := by decide +kernel
theorem dX12_order_73 : decode cX12_order 73 = .ok (.iload 6, 2) := by decide +kernel
theorem dX12_order_75 : decode cX12_order 75 = .ok (.iload_n 3, 1) := by decide +kernel
theorem dX12_order_76 : decode cX12_order 76 = .ok (.if_icmp .le 8, 3) := by decide +kernel
theorem dX12_order_79 : decode cX12_order 79 = .ok (.iload 4, 2) := by decide +kernel
theorem dX12_order_81 : decode cX12_order 81 = .ok (.goto 4, 3) := by decide +kernel
theorem dX12_order_84 : decode cX12_order 84 = .ok (.iload_n 2, 1) := by decide +kernel
theorem dX12_order_85 : decode cX12_order 85 = .ok (.istore_n 2, 1) := by decide +kernel
theorem dX12_order_86 : decode cX12_order 86 = .ok (.iload 6, 2) := by decide +kernel
theorem dX12_order_88 : decode cX12_order 88 = .ok (.iload_n 3, 1) := by decide +kernel
theorem dX12_order_89 : decode cX12_order 89 = .ok (.if_icmp .le 8, 3) := by decide +kernel
theorem dX12_order_92 : decode cX12_order 92 = .ok (.iload 6, 2) := by decide +kernel
theorem dX12_order_94 : decode cX12_order 94 = .ok (.goto 4, 3) := by decide +kernel
theorem dX12_order_97 : decode cX12_order 97 = .ok (.iload_n 3, 1) := by decide +kernel
theorem dX12_order_98 : decode cX12_order 98 = .ok (.istore_n 3, 1) := by decide +kernel
theorem dX12_order_99 : decode cX12_order 99 = .ok (.iinc 4 1, 3) := by decide +kernel
theorem dX12_order_102 : decode cX12_order 102 = .ok (.goto (-76), 3) := by decide +kernel
theorem dX12_order_105 : decode cX12_order 105 = .ok (.iload_n 1, 1) := by decide +kernel
theorem dX12_order_106 : decode cX12_order 106 = .ok (.ifCond .ne 7, 3) := by decide +kernel
theorem dX12_order_109 : decode cX12_order 109 = .ok (.iload_n 2, 1) := by decide +kernel
theorem dX12_order_110 : decode cX12_order 110 = .ok (.goto 4, 3) := by decide +kernel
theorem dX12_order_113 : decode cX12_order 113 = .ok (.iload_n 3, 1) := by decide +kernel
theorem dX12_order_114 : decode cX12_order 114 = .ok (.ireturn, 1) := by decide +kernel
theorem dX12_skipped_0 : decode cX12_skipped 0 = .ok (.aload_n 0, 1) := by decide +kernel
theorem dX12_skipped_1 : decode cX12_skipped 1 = .ok (.getfield 37, 3) := by decide +kernel
theorem dX12_skipped_4 : decode cX12_skipped 4 = .ok (.iload_n 1, 1) := by decide +kernel
theorem dX12_skipped_5 : decode cX12_skipped 5 = .ok (.iaload, 1) := by decide +kernel
theorem dX12_skipped_6 : decode cX12_skipped 6 = .ok (.ifCond .ne 9, 3) := by decide +kernel
theorem dX12_skipped_9 : decode cX12_skipped 9 = .ok (.ldc2_w 261, 3) := by decide +kernel
theorem dX12_skipped_12 : decode cX12_skipped 12 = .ok (.goto 22, 3) := by decide +kernel
theorem dX12_skipped_15 : decode cX12_skipped 15 = .ok (.aload_n 0, 1) := by decide +kernel
theorem dX12_skipped_16 : decode cX12_skipped 16 = .ok (.getfield 37, 3) := by decide +kernel
theorem dX12_skipped_19 : decode cX12_skipped 19 = .ok (.iload_n 1, 1) := by decide +kernel
theorem dX12_skipped_20 : decode cX12_skipped 20 = .ok (.iaload, 1) := by decide +kernel
theorem dX12_skipped_21 : decode cX12_skipped 21 = .ok (.iconst 1, 1) := by decide +kernel
theorem dX12_skipped_22 : decode cX12_skipped 22 = .ok (.if_icmp .ne 9, 3) := by decide +kernel
theorem dX12_skipped_25 : decode cX12_skipped 25 = .ok (.ldc2_w 263, 3) := by decide +kernel
theorem dX12_skipped_28 : decode cX12_skipped 28 = .ok (.goto 6, 3) := by decide +kernel
theorem dX12_skipped_31 : decode cX12_skipped 31 = .ok (.ldc2_w 265, 3) := by decide +kernel
theorem dX12_skipped_34 : decode cX12_skipped 34 = .ok (.lreturn, 1) := by decide +kernel
theorem dX12_isRow_0 : decode cX12_isRow 0 = .ok (.iconst 1, 1) := by decide +kernel
theorem dX12_isRow_1 : decode cX12_isRow 1 = .ok (.istore_n 3, 1) := by decide +kernel
theorem dX12_isRow_2 : decode cX12_isRow 2 = .ok (.iconst 0, 1) := by decide +kernel
theorem dX12_isRow_3 : decode cX12_isRow 3 = .ok (.istore 4, 2) := by decide +kernel
theorem dX12_isRow_5 : decode cX12_isRow 5 = .ok (.iload 4, 2) := by decide +kernel
theorem dX12_isRow_7 : decode cX12_isRow 7 = .ok (.aload_n 0, 1) := by decide +kernel
theorem dX12_isRow_8 : decode cX12_isRow 8 = .ok (.getfield 40, 3) := by decide +kernel
theorem dX12_isRow_11 : decode cX12_isRow 11 = .ok (.iload_n 1, 1) := by decide +kernel
theorem dX12_isRow_12 : decode cX12_isRow 12 = .ok (.iaload, 1) := by decide +kernel
theorem dX12_isRow_13 : decode cX12_isRow 13 = .ok (.if_icmp .ge 66, 3) := by decide +kernel
theorem dX12_isRow_16 : decode cX12_isRow 16 = .ok (.iload_n 3, 1) := by decide +kernel
theorem dX12_isRow_17 : decode cX12_isRow 17 = .ok (.ifCond .eq 62, 3) := by decide +kernel
theorem dX12_isRow_20 : decode cX12_isRow 20 = .ok (.aload_n 0, 1) := by decide +kernel
theorem dX12_isRow_21 : decode cX12_isRow 21 = .ok (.getfield 43, 3) := by decide +kernel
theorem dX12_isRow_24 : decode cX12_isRow 24 = .ok (.bipush 100, 2) := by decide +kernel
theorem dX12_isRow_26 : decode cX12_isRow 26 = .ok (.iload_n 1, 1) := by decide +kernel
theorem dX12_isRow_27 : decode cX12_isRow 27 = .ok (.imul, 1) := by decide +kernel
theorem dX12_isRow_28 : decode cX12_isRow 28 = .ok (.iload 4, 2) := by decide +kernel
theorem dX12_isRow_30 : decode cX12_isRow 30 = .ok (.iadd, 1) := by decide +kernel
theorem dX12_isRow_31 : decode cX12_isRow 31 = .ok (.laload, 1) := by decide +kernel
theorem dX12_isRow_32 : decode cX12_isRow 32 = .ok (.lstore 5, 2) := by decide +kernel
theorem dX12_isRow_34 : decode cX12_isRow 34 = .ok (.lload 5, 2) := by decide +kernel
theorem dX12_isRow_36 : decode cX12_isRow 36 = .ok (.aload_n 0, 1) := by decide +kernel
theorem dX12_isRow_37 : decode cX12_isRow 37 = .ok (.iload_n 1, 1) := by decide +kernel
theorem dX12_isRow_38 : decode cX12_isRow 38 = .ok (.invokevirtual 267, 3) := by decide +kernel
theorem dX12_isRow_41 : decode cX12_isRow 41 = .ok (.lcmp, 1) := by decide +kernel
theorem dX12_isRow_42 : decode cX12_isRow 42 = .ok (.ifCond .eq 20, 3) := by decide +kernel
theorem dX12_isRow_45 : decode cX12_isRow 45 = .ok (.lload 5, 2) := by decide +kernel
theorem dX12_isRow_47 : decode cX12_isRow 47 = .ok (.aload_n 0, 1) := by decide +kernel
theorem dX12_isRow_48 : decode cX12_isRow 48 = .ok (.aload_n 0, 1) := by decide +kernel
theorem dX12_isRow_49 : decode cX12_isRow 49 = .ok (.getfield 22, 3) := by decide +kernel
theorem dX12_isRow_52 : decode cX12_isRow 52 = .ok (.iload_n 2, 1) := by decide +kernel
theorem dX12_isRow_53 : decode cX12_isRow 53 = .ok (.iaload, 1) := by decide +kernel
theorem dX12_isRow_54 : decode cX12_isRow 54 = .ok (.invokevirtual 234, 3) := by decide +kernel
theorem dX12_isRow_57 : decode cX12_isRow 57 = .ok (.i2l, 1) := by decide +kernel
theorem dX12_isRow_58 : decode cX12_isRow 58 = .ok (.lcmp, 1) := by decide +kernel
theorem dX12_isRow_59 : decode cX12_isRow 59 = .ok (.ifCond .ne 7, 3) := by decide +kernel
theorem dX12_isRow_62 : decode cX12_isRow 62 = .ok (.iconst 1, 1) := by decide +kernel
theorem dX12_isRow_63 : decode cX12_isRow 63 = .ok (.goto 4, 3) := by decide +kernel
theorem dX12_isRow_66 : decode cX12_isRow 66 = .ok (.iconst 0, 1) := by decide +kernel
theorem dX12_isRow_67 : decode cX12_isRow 67 = .ok (.istore_n 3, 1) := by decide +kernel
theorem dX12_isRow_68 : decode cX12_isRow 68 = .ok (.aload_n 0, 1) := by decide +kernel
theorem dX12_isRow_69 : decode cX12_isRow 69 = .ok (.iconst 0, 1) := by decide +kernel
theorem dX12_isRow_70 : decode cX12_isRow 70 = .ok (.invokevirtual 129, 3) := by decide +kernel
theorem dX12_isRow_73 : decode cX12_isRow 73 = .ok (.iinc 4 1, 3) := by decide +kernel
theorem dX12_isRow_76 : decode cX12_isRow 76 = .ok (.goto (-71), 3) := by decide +kernel
theorem dX12_isRow_79 : decode cX12_isRow 79 = .ok (.aload_n 0, 1) := by decide +kernel
theorem dX12_isRow_80 : decode cX12_isRow 80 = .ok (.invokevirtual 197, 3) := by decide +kernel
theorem dX12_isRow_83 : decode cX12_isRow 83 = .ok (.iload_n 3, 1) := by decide +kernel
theorem dX12_isRow_84 : decode cX12_isRow 84 = .ok (.ireturn, 1) := by decide +kernel
theorem dX12_ages_0 : decode cX12_ages 0 = .ok (.aload_n 0, 1) := by decide +kernel
theorem dX12_ages_1 : decode cX12_ages 1 = .ok (.iconst 0, 1) := by decide +kernel
theorem dX12_ages_2 : decode cX12_ages 2 = .ok (.putfield 74, 3) := by decide +kernel
theorem dX12_ages_5 : decode cX12_ages 5 = .ok (.aload_n 0, 1) := by decide +kernel
theorem dX12_ages_6 : decode cX12_ages 6 = .ok (.iload_n 2, 1) := by decide +kernel
theorem dX12_ages_7 : decode cX12_ages 7 = .ok (.invokevirtual 176, 3) := by decide +kernel
theorem dX12_ages_10 : decode cX12_ages 10 = .ok (.ifCond .eq 23, 3) := by decide +kernel
theorem dX12_ages_13 : decode cX12_ages 13 = .ok (.iload_n 3, 1) := by decide +kernel
theorem dX12_ages_14 : decode cX12_ages 14 = .ok (.i2l, 1) := by decide +kernel
theorem dX12_ages_15 : decode cX12_ages 15 = .ok (.lconst 0, 1) := by decide +kernel
theorem dX12_ages_16 : decode cX12_ages 16 = .ok (.ldc2_w 229, 3) := by decide +kernel
theorem dX12_ages_19 : decode cX12_ages 19 = .ok (.invokestatic 80, 3) := by decide +kernel
theorem dX12_ages_22 : decode cX12_ages 22 = .ok (.ifCond .eq 11, 3) := by decide +kernel
theorem dX12_ages_25 : decode cX12_ages 25 = .ok (.aload_n 0, 1) := by decide +kernel
theorem dX12_ages_26 : decode cX12_ages 26 = .ok (.iload_n 1, 1) := by decide +kernel
theorem dX12_ages_27 : decode cX12_ages 27 = .ok (.invokevirtual 185, 3) := by decide +kernel
theorem dX12_ages_30 : decode cX12_ages 30 = .ok (.goto 4, 3) := by decide +kernel
theorem dX12_ages_33 : decode cX12_ages 33 = .ok (.iconst (-1), 1) := by decide +kernel
theorem dX12_ages_34 : decode cX12_ages 34 = .ok (.istore 4, 2) := by decide +kernel
theorem dX12_ages_36 : decode cX12_ages 36 = .ok (.iload 4, 2) := by decide +kernel
theorem dX12_ages_38 : decode cX12_ages 38 = .ok (.ifCond .ge 6, 3) := by decide +kernel
theorem dX12_ages_41 : decode cX12_ages 41 = .ok (.iload 4, 2) := by decide +kernel
theorem dX12_ages_43 : decode cX12_ages 43 = .ok (.ireturn, 1) := by decide +kernel
theorem dX12_ages_44 : decode cX12_ages 44 = .ok (.iconst 0, 1) := by decide +kernel
theorem dX12_ages_45 : decode cX12_ages 45 = .ok (.istore 5, 2) := by decide +kernel
theorem dX12_ages_47 : decode cX12_ages 47 = .ok (.bipush (-4), 2) := by decide +kernel
theorem dX12_ages_49 : decode cX12_ages 49 = .ok (.istore 6, 2) := by decide +kernel
theorem dX12_ages_51 : decode cX12_ages 51 = .ok (.bipush (-4), 2) := by decide +kernel
theorem dX12_ages_53 : decode cX12_ages 53 = .ok (.istore 7, 2) := by decide +kernel
theorem dX12_ages_55 : decode cX12_ages 55 = .ok (.aload_n 0, 1) := by decide +kernel
theorem dX12_ages_56 : decode cX12_ages 56 = .ok (.invokevirtual 191, 3) := by decide +kernel
theorem dX12_ages_59 : decode cX12_ages 59 = .ok (.iconst 0, 1) := by decide +kernel
theorem dX12_ages_60 : decode cX12_ages 60 = .ok (.istore 8, 2) := by decide +kernel
theorem dX12_ages_62 : decode cX12_ages 62 = .ok (.iload 8, 2) := by decide +kernel
theorem dX12_ages_64 : decode cX12_ages 64 = .ok (.bipush 120, 2) := by decide +kernel
theorem dX12_ages_66 : decode cX12_ages 66 = .ok (.if_icmp .gt 73, 3) := by decide +kernel
theorem dX12_ages_69 : decode cX12_ages 69 = .ok (.aload_n 0, 1) := by decide +kernel
theorem dX12_ages_70 : decode cX12_ages 70 = .ok (.getfield 19, 3) := by decide +kernel
theorem dX12_ages_73 : decode cX12_ages 73 = .ok (.iload_n 2, 1) := by decide +kernel
theorem dX12_ages_74 : decode cX12_ages 74 = .ok (.iload 8, 2) := by decide +kernel
theorem dX12_ages_76 : decode cX12_ages 76 = .ok (.iastore, 1) := by decide +kernel
theorem dX12_ages_77 : decode cX12_ages 77 = .ok (.aload_n 0, 1) := by decide +kernel
theorem dX12_ages_78 : decode cX12_ages 78 = .ok (.iload_n 1, 1) := by decide +kernel
theorem dX12_ages_79 : decode cX12_ages 79 = .ok (.iload_n 2, 1) := by decide +kernel
theorem dX12_ages_80 : decode cX12_ages 80 = .ok (.invokevirtual 271, 3) := by decide +kernel
theorem dX12_ages_83 : decode cX12_ages 83 = .ok (.istore 9, 2) := by decide +kernel
theorem dX12_ages_85 : decode cX12_ages 85 = .ok (.iload 5, 2) := by decide +kernel
theorem dX12_ages_87 : decode cX12_ages 87 = .ok (.iload 9, 2) := by decide +kernel
theorem dX12_ages_89 : decode cX12_ages 89 = .ok (.ifCond .eq 7, 3) := by decide +kernel
theorem dX12_ages_92 : decode cX12_ages 92 = .ok (.iconst 1, 1) := by decide +kernel
theorem dX12_ages_93 : decode cX12_ages 93 = .ok (.goto 4, 3) := by decide +kernel
theorem dX12_ages_96 : decode cX12_ages 96 = .ok (.iconst 0, 1) := by decide +kernel
theorem dX12_ages_97 : decode cX12_ages 97 = .ok (.iadd, 1) := by decide +kernel
theorem dX12_ages_98 : decode cX12_ages 98 = .ok (.istore 5, 2) := by decide +kernel
theorem dX12_ages_100 : decode cX12_ages 100 = .ok (.iload 9, 2) := by decide +kernel
theorem dX12_ages_102 : decode cX12_ages 102 = .ok (.ifCond .eq 13, 3) := by decide +kernel
theorem dX12_ages_105 : decode cX12_ages 105 = .ok (.iload 6, 2) := by decide +kernel
theorem dX12_ages_107 : decode cX12_ages 107 = .ok (.ifCond .ge 8, 3) := by decide +kernel
theorem dX12_ages_110 : decode cX12_ages 110 = .ok (.iload 8, 2) := by decide +kernel
theorem dX12_ages_112 : decode cX12_ages 112 = .ok (.goto 5, 3) := by decide +kernel
theorem dX12_ages_115 : decode cX12_ages 115 = .ok (.iload 6, 2) := by decide +kernel
theorem dX12_ages_117 : decode cX12_ages 117 = .ok (.istore 6, 2) := by decide +kernel
theorem dX12_ages_119 : decode cX12_ages 119 = .ok (.iload 9, 2) := by decide +kernel
theorem dX12_ages_121 : decode cX12_ages 121 = .ok (.ifCond .eq 8, 3) := by decide +kernel
theorem dX12_ages_124 : decode cX12_ages 124 = .ok (.iload 8, 2) := by decide +kernel
theorem dX12_ages_126 : decode cX12_ages 126 = .ok (.goto 5, 3) := by decide +kernel
theorem dX12_ages_129 : decode cX12_ages 129 = .ok (.iload 7, 2) := by decide +kernel
theorem dX12_ages_131 : decode cX12_ages 131 = .ok (.istore 7, 2) := by decide +kernel
theorem dX12_ages_133 : decode cX12_ages 133 = .ok (.iinc 8 1, 3) := by decide +kernel
theorem dX12_ages_136 : decode cX12_ages 136 = .ok (.goto (-74), 3) := by decide +kernel
theorem dX12_ages_139 : decode cX12_ages 139 = .ok (.iload_n 3, 1) := by decide +kernel
theorem dX12_ages_140 : decode cX12_ages 140 = .ok (.ifCond .ne 8, 3) := by decide +kernel
theorem dX12_ages_143 : decode cX12_ages 143 = .ok (.iload 5, 2) := by decide +kernel
theorem dX12_ages_145 : decode cX12_ages 145 = .ok (.goto 15, 3) := by decide +kernel
theorem dX12_ages_148 : decode cX12_ages 148 = .ok (.iload_n 3, 1) := by decide +kernel
theorem dX12_ages_149 : decode cX12_ages 149 = .ok (.iconst 1, 1) := by decide +kernel
theorem dX12_ages_150 : decode cX12_ages 150 = .ok (.if_icmp .ne 8, 3) := by decide +kernel
theorem dX12_ages_153 : decode cX12_ages 153 = .ok (.iload 6, 2) := by decide +kernel
theorem dX12_ages_155 : decode cX12_ages 155 = .ok (.goto 5, 3) := by decide +kernel
theorem dX12_ages_158 : decode cX12_ages 158 = .ok (.iload 7, 2) := by decide +kernel
theorem dX12_ages_160 : decode cX12_ages 160 = .ok (.ireturn, 1) := by decide +kernel
theorem dX12_whatIs_0 : decode cX12_whatIs 0 = .ok (.aload_n 0, 1) := by decide +kernel
theorem dX12_whatIs_1 : decode cX12_whatIs 1 = .ok (.iconst 0, 1) := by decide +kernel
theorem dX12_whatIs_2 : decode cX12_whatIs 2 = .ok (.putfield 74, 3) := by decide +kernel
theorem dX12_whatIs_5 : decode cX12_whatIs 5 = .ok (.aload_n 0, 1) := by decide +kernel
theorem dX12_whatIs_6 : decode cX12_whatIs 6 = .ok (.iload_n 2, 1) := by decide +kernel
theorem dX12_whatIs_7 : decode cX12_whatIs 7 = .ok (.invokevirtual 176, 3) := by decide +kernel
theorem dX12_whatIs_10 : decode cX12_whatIs 10 = .ok (.ifCond .eq 21, 3) := by decide +kernel
theorem dX12_whatIs_13 : decode cX12_whatIs 13 = .ok (.iload_n 3, 1) := by decide +kernel
theorem dX12_whatIs_14 : decode cX12_whatIs 14 = .ok (.i2l, 1) := by decide +kernel
theorem dX12_whatIs_15 : decode cX12_whatIs 15 = .ok (.lconst 0, 1) := by decide +kernel
theorem dX12_whatIs_16 : decode cX12_whatIs 16 = .ok (.lconst 1, 1) := by decide +kernel
theorem dX12_whatIs_17 : decode cX12_whatIs 17 = .ok (.invokestatic 80, 3) := by decide +kernel
theorem dX12_whatIs_20 : decode cX12_whatIs 20 = .ok (.ifCond .eq 11, 3) := by decide +kernel
theorem dX12_whatIs_23 : decode cX12_whatIs 23 = .ok (.aload_n 0, 1) := by decide +kernel
theorem dX12_whatIs_24 : decode cX12_whatIs 24 = .ok (.iload_n 1, 1) := by decide +kernel
theorem dX12_whatIs_25 : decode cX12_whatIs 25 = .ok (.invokevirtual 185, 3) := by decide +kernel
theorem dX12_whatIs_28 : decode cX12_whatIs 28 = .ok (.goto 4, 3) := by decide +kernel
theorem dX12_whatIs_31 : decode cX12_whatIs 31 = .ok (.iconst (-1), 1) := by decide +kernel
theorem dX12_whatIs_32 : decode cX12_whatIs 32 = .ok (.istore 4, 2) := by decide +kernel
theorem dX12_whatIs_34 : decode cX12_whatIs 34 = .ok (.iload 4, 2) := by decide +kernel
theorem dX12_whatIs_36 : decode cX12_whatIs 36 = .ok (.ifCond .ge 6, 3) := by decide +kernel
theorem dX12_whatIs_39 : decode cX12_whatIs 39 = .ok (.iload 4, 2) := by decide +kernel
theorem dX12_whatIs_41 : decode cX12_whatIs 41 = .ok (.ireturn, 1) := by decide +kernel
theorem dX12_whatIs_42 : decode cX12_whatIs 42 = .ok (.iconst 0, 1) := by decide +kernel
theorem dX12_whatIs_43 : decode cX12_whatIs 43 = .ok (.istore 5, 2) := by decide +kernel
theorem dX12_whatIs_45 : decode cX12_whatIs 45 = .ok (.aload_n 0, 1) := by decide +kernel
theorem dX12_whatIs_46 : decode cX12_whatIs 46 = .ok (.invokevirtual 191, 3) := by decide +kernel
theorem dX12_whatIs_49 : decode cX12_whatIs 49 = .ok (.iconst 0, 1) := by decide +kernel
theorem dX12_whatIs_50 : decode cX12_whatIs 50 = .ok (.istore 6, 2) := by decide +kernel
theorem dX12_whatIs_52 : decode cX12_whatIs 52 = .ok (.iload 6, 2) := by decide +kernel
theorem dX12_whatIs_54 : decode cX12_whatIs 54 = .ok (.iload_n 3, 1) := by decide +kernel
theorem dX12_whatIs_55 : decode cX12_whatIs 55 = .ok (.ifCond .ne 8, 3) := by decide +kernel
theorem dX12_whatIs_58 : decode cX12_whatIs 58 = .ok (.bipush 8, 2) := by decide +kernel
theorem dX12_whatIs_60 : decode cX12_whatIs 60 = .ok (.goto 5, 3) := by decide +kernel
theorem dX12_whatIs_63 : decode cX12_whatIs 63 = .ok (.bipush 10, 2) := by decide +kernel
theorem dX12_whatIs_65 : decode cX12_whatIs 65 = .ok (.if_icmp .ge 74, 3) := by decide +kernel
theorem dX12_whatIs_68 : decode cX12_whatIs 68 = .ok (.aload_n 0, 1) := by decide +kernel
theorem dX12_whatIs_69 : decode cX12_whatIs 69 = .ok (.getfield 13, 3) := by decide +kernel
theorem dX12_whatIs_72 : decode cX12_whatIs 72 = .ok (.iload_n 2, 1) := by decide +kernel
theorem dX12_whatIs_73 : decode cX12_whatIs 73 = .ok (.iload_n 3, 1) := by decide +kernel
theorem dX12_whatIs_74 : decode cX12_whatIs 74 = .ok (.ifCond .ne 8, 3) := by decide +kernel
theorem dX12_whatIs_77 : decode cX12_whatIs 77 = .ok (.iload 6, 2) := by decide +kernel
theorem dX12_whatIs_79 : decode cX12_whatIs 79 = .ok (.goto 9, 3) := by decide +kernel
theorem dX12_whatIs_82 : decode cX12_whatIs 82 = .ok (.aload_n 0, 1) := by decide +kernel
theorem dX12_whatIs_83 : decode cX12_whatIs 83 = .ok (.getfield 13, 3) := by decide +kernel
theorem dX12_whatIs_86 : decode cX12_whatIs 86 = .ok (.iload_n 2, 1) := by decide +kernel
theorem dX12_whatIs_87 : decode cX12_whatIs 87 = .ok (.iaload, 1) := by decide +kernel
theorem dX12_whatIs_88 : decode cX12_whatIs 88 = .ok (.iastore, 1) := by decide +kernel
theorem dX12_whatIs_89 : decode cX12_whatIs 89 = .ok (.aload_n 0, 1) := by decide +kernel
theorem dX12_whatIs_90 : decode cX12_whatIs 90 = .ok (.getfield 16, 3) := by decide +kernel
theorem dX12_whatIs_93 : decode cX12_whatIs 93 = .ok (.iload_n 2, 1) := by decide +kernel
theorem dX12_whatIs_94 : decode cX12_whatIs 94 = .ok (.iload_n 3, 1) := by decide +kernel
theorem dX12_whatIs_95 : decode cX12_whatIs 95 = .ok (.iconst 1, 1) := by decide +kernel
theorem dX12_whatIs_96 : decode cX12_whatIs 96 = .ok (.if_icmp .ne 8, 3) := by decide +kernel
theorem dX12_whatIs_99 : decode cX12_whatIs 99 = .ok (.iload 6, 2) := by decide +kernel
theorem dX12_whatIs_101 : decode cX12_whatIs 101 = .ok (.goto 9, 3) := by decide +kernel
theorem dX12_whatIs_104 : decode cX12_whatIs 104 = .ok (.aload_n 0, 1) := by decide +kernel
theorem dX12_whatIs_105 : decode cX12_whatIs 105 = .ok (.getfield 16, 3) := by decide +kernel
theorem dX12_whatIs_108 : decode cX12_whatIs 108 = .ok (.iload_n 2, 1) := by decide +kernel
theorem dX12_whatIs_109 : decode cX12_whatIs 109 = .ok (.iaload, 1) := by decide +kernel
theorem dX12_whatIs_110 : decode cX12_whatIs 110 = .ok (.iastore, 1) := by decide +kernel
theorem dX12_whatIs_111 : decode cX12_whatIs 111 = .ok (.iload 5, 2) := by decide +kernel
theorem dX12_whatIs_113 : decode cX12_whatIs 113 = .ok (.aload_n 0, 1) := by decide +kernel
theorem dX12_whatIs_114 : decode cX12_whatIs 114 = .ok (.iload_n 1, 1) := by decide +kernel
theorem dX12_whatIs_115 : decode cX12_whatIs 115 = .ok (.iload_n 2, 1) := by decide +kernel
theorem dX12_whatIs_116 : decode cX12_whatIs 116 = .ok (.invokevirtual 271, 3) := by decide +kernel
theorem dX12_whatIs_119 : decode cX12_whatIs 119 = .ok (.ifCond .eq 10, 3) := by decide +kernel
theorem dX12_whatIs_122 : decode cX12_whatIs 122 = .ok (.iconst 1, 1) := by decide +kernel
theorem dX12_whatIs_123 : decode cX12_whatIs 123 = .ok (.iload 6, 2) := by decide +kernel
theorem dX12_whatIs_125 : decode cX12_whatIs 125 = .ok (.ishl, 1) := by decide +kernel
theorem dX12_whatIs_126 : decode cX12_whatIs 126 = .ok (.goto 4, 3) := by decide +kernel
theorem dX12_whatIs_129 : decode cX12_whatIs 129 = .ok (.iconst 0, 1) := by decide +kernel
theorem dX12_whatIs_130 : decode cX12_whatIs 130 = .ok (.ior, 1) := by decide +kernel
theorem dX12_whatIs_131 : decode cX12_whatIs 131 = .ok (.istore 5, 2) := by decide +kernel
theorem dX12_whatIs_133 : decode cX12_whatIs 133 = .ok (.iinc 6 1, 3) := by decide +kernel
theorem dX12_whatIs_136 : decode cX12_whatIs 136 = .ok (.goto (-84), 3) := by decide +kernel
theorem dX12_whatIs_139 : decode cX12_whatIs 139 = .ok (.iload 5, 2) := by decide +kernel
theorem dX12_whatIs_141 : decode cX12_whatIs 141 = .ok (.ireturn, 1) := by decide +kernel
theorem dX12_two_0 : decode cX12_two 0 = .ok (.aload_n 0, 1) := by decide +kernel
theorem dX12_two_1 : decode cX12_two 1 = .ok (.iconst 0, 1) := by decide +kernel
theorem dX12_two_2 : decode cX12_two 2 = .ok (.putfield 74, 3) := by decide +kernel
theorem dX12_two_5 : decode cX12_two 5 = .ok (.aload_n 0, 1) := by decide +kernel
theorem dX12_two_6 : decode cX12_two 6 = .ok (.iload_n 1, 1) := by decide +kernel
theorem dX12_two_7 : decode cX12_two 7 = .ok (.invokevirtual 176, 3) := by decide +kernel
theorem dX12_two_10 : decode cX12_two 10 = .ok (.ifCond .eq 16, 3) := by decide +kernel
theorem dX12_two_13 : decode cX12_two 13 = .ok (.aload_n 0, 1) := by decide +kernel
theorem dX12_two_14 : decode cX12_two 14 = .ok (.iload_n 2, 1) := by decide +kernel
theorem dX12_two_15 : decode cX12_two 15 = .ok (.invokevirtual 176, 3) := by decide +kernel
theorem dX12_two_18 : decode cX12_two 18 = .ok (.ifCond .eq 8, 3) := by decide +kernel
theorem dX12_two_21 : decode cX12_two 21 = .ok (.iload_n 1, 1) := by decide +kernel
theorem dX12_two_22 : decode cX12_two 22 = .ok (.iload_n 2, 1) := by decide +kernel
theorem dX12_two_23 : decode cX12_two 23 = .ok (.if_icmp .ne 5, 3) := by decide +kernel
theorem dX12_two_26 : decode cX12_two 26 = .ok (.iconst (-1), 1) := by decide +kernel
theorem dX12_two_27 : decode cX12_two 27 = .ok (.ireturn, 1) := by decide +kernel
theorem dX12_two_28 : decode cX12_two 28 = .ok (.aload_n 0, 1) := by decide +kernel
theorem dX12_two_29 : decode cX12_two 29 = .ok (.getfield 22, 3) := by decide +kernel
theorem dX12_two_32 : decode cX12_two 32 = .ok (.iload_n 1, 1) := by decide +kernel
theorem dX12_two_33 : decode cX12_two 33 = .ok (.iaload, 1) := by decide +kernel
theorem dX12_two_34 : decode cX12_two 34 = .ok (.istore_n 3, 1) := by decide +kernel
theorem dX12_two_35 : decode cX12_two 35 = .ok (.aload_n 0, 1) := by decide +kernel
theorem dX12_two_36 : decode cX12_two 36 = .ok (.getfield 22, 3) := by decide +kernel
theorem dX12_two_39 : decode cX12_two 39 = .ok (.iload_n 2, 1) := by decide +kernel
theorem dX12_two_40 : decode cX12_two 40 = .ok (.iaload, 1) := by decide +kernel
theorem dX12_two_41 : decode cX12_two 41 = .ok (.istore 4, 2) := by decide +kernel
theorem dX12_two_43 : decode cX12_two 43 = .ok (.iconst 0, 1) := by decide +kernel
theorem dX12_two_44 : decode cX12_two 44 = .ok (.istore 5, 2) := by decide +kernel
theorem dX12_two_46 : decode cX12_two 46 = .ok (.iload 5, 2) := by decide +kernel
theorem dX12_two_48 : decode cX12_two 48 = .ok (.iconst 4, 1) := by decide +kernel
theorem dX12_two_49 : decode cX12_two 49 = .ok (.if_icmp .ge 89, 3) := by decide +kernel
theorem dX12_two_52 : decode cX12_two 52 = .ok (.aload_n 0, 1) := by decide +kernel
theorem dX12_two_53 : decode cX12_two 53 = .ok (.getfield 22, 3) := by decide +kernel
theorem dX12_two_56 : decode cX12_two 56 = .ok (.iload_n 1, 1) := by decide +kernel
theorem dX12_two_57 : decode cX12_two 57 = .ok (.iload 5, 2) := by decide +kernel
theorem dX12_two_59 : decode cX12_two 59 = .ok (.iconst 2, 1) := by decide +kernel
theorem dX12_two_60 : decode cX12_two 60 = .ok (.idiv, 1) := by decide +kernel
theorem dX12_two_61 : decode cX12_two 61 = .ok (.iconst 1, 1) := by decide +kernel
theorem dX12_two_62 : decode cX12_two 62 = .ok (.if_icmp .ne 8, 3) := by decide +kernel
theorem dX12_two_65 : decode cX12_two 65 = .ok (.iload 4, 2) := by decide +kernel
theorem dX12_two_67 : decode cX12_two 67 = .ok (.goto 4, 3) := by decide +kernel
theorem dX12_two_70 : decode cX12_two 70 = .ok (.iload_n 3, 1) := by decide +kernel
theorem dX12_two_71 : decode cX12_two 71 = .ok (.iastore, 1) := by decide +kernel
theorem dX12_two_72 : decode cX12_two 72 = .ok (.aload_n 0, 1) := by decide +kernel
theorem dX12_two_73 : decode cX12_two 73 = .ok (.getfield 22, 3) := by decide +kernel
theorem dX12_two_76 : decode cX12_two 76 = .ok (.iload_n 2, 1) := by decide +kernel
theorem dX12_two_77 : decode cX12_two 77 = .ok (.iload 5, 2) := by decide +kernel
theorem dX12_two_79 : decode cX12_two 79 = .ok (.iconst 2, 1) := by decide +kernel
theorem dX12_two_80 : decode cX12_two 80 = .ok (.irem, 1) := by decide +kernel
theorem dX12_two_81 : decode cX12_two 81 = .ok (.iconst 1, 1) := by decide +kernel
theorem dX12_two_82 : decode cX12_two 82 = .ok (.if_icmp .ne 7, 3) := by decide +kernel
theorem dX12_two_85 : decode cX12_two 85 = .ok (.iload_n 3, 1) := by decide +kernel
theorem dX12_two_86 : decode cX12_two 86 = .ok (.goto 5, 3) := by decide +kernel
theorem dX12_two_89 : decode cX12_two 89 = .ok (.iload 4, 2) := by decide +kernel
theorem dX12_two_91 : decode cX12_two 91 = .ok (.iastore, 1) := by decide +kernel
theorem dX12_two_92 : decode cX12_two 92 = .ok (.aload_n 0, 1) := by decide +kernel
theorem dX12_two_93 : decode cX12_two 93 = .ok (.getfield 68, 3) := by decide +kernel
theorem dX12_two_96 : decode cX12_two 96 = .ok (.iconst 2, 1) := by decide +kernel
theorem dX12_two_97 : decode cX12_two 97 = .ok (.iload 5, 2) := by decide +kernel
theorem dX12_two_99 : decode cX12_two 99 = .ok (.imul, 1) := by decide +kernel
theorem dX12_two_100 : decode cX12_two 100 = .ok (.aload_n 0, 1) := by decide +kernel
theorem dX12_two_101 : decode cX12_two 101 = .ok (.aload_n 0, 1) := by decide +kernel
theorem dX12_two_102 : decode cX12_two 102 = .ok (.getfield 22, 3) := by decide +kernel
theorem dX12_two_105 : decode cX12_two 105 = .ok (.iload_n 1, 1) := by decide +kernel
theorem dX12_two_106 : decode cX12_two 106 = .ok (.iaload, 1) := by decide +kernel
theorem dX12_two_107 : decode cX12_two 107 = .ok (.invokevirtual 234, 3) := by decide +kernel
theorem dX12_two_110 : decode cX12_two 110 = .ok (.iastore, 1) := by decide +kernel
theorem dX12_two_111 : decode cX12_two 111 = .ok (.aload_n 0, 1) := by decide +kernel
theorem dX12_two_112 : decode cX12_two 112 = .ok (.getfield 68, 3) := by decide +kernel
theorem dX12_two_115 : decode cX12_two 115 = .ok (.iconst 2, 1) := by decide +kernel
theorem dX12_two_116 : decode cX12_two 116 = .ok (.iload 5, 2) := by decide +kernel
theorem dX12_two_118 : decode cX12_two 118 = .ok (.imul, 1) := by decide +kernel
theorem dX12_two_119 : decode cX12_two 119 = .ok (.iconst 1, 1) := by decide +kernel
theorem dX12_two_120 : decode cX12_two 120 = .ok (.iadd, 1) := by decide +kernel
theorem dX12_two_121 : decode cX12_two 121 = .ok (.aload_n 0, 1) := by decide +kernel
theorem dX12_two_122 : decode cX12_two 122 = .ok (.aload_n 0, 1) := by decide +kernel
theorem dX12_two_123 : decode cX12_two 123 = .ok (.getfield 22, 3) := by decide +kernel
theorem dX12_two_126 : decode cX12_two 126 = .ok (.iload_n 2, 1) := by decide +kernel
theorem dX12_two_127 : decode cX12_two 127 = .ok (.iaload, 1) := by decide +kernel
theorem dX12_two_128 : decode cX12_two 128 = .ok (.invokevirtual 234, 3) := by decide +kernel
theorem dX12_two_131 : decode cX12_two 131 = .ok (.iastore, 1) := by decide +kernel
theorem dX12_two_132 : decode cX12_two 132 = .ok (.iinc 5 1, 3) := by decide +kernel
theorem dX12_two_135 : decode cX12_two 135 = .ok (.goto (-89), 3) := by decide +kernel
theorem dX12_two_138 : decode cX12_two 138 = .ok (.aload_n 0, 1) := by decide +kernel
theorem dX12_two_139 : decode cX12_two 139 = .ok (.getfield 22, 3) := by decide +kernel
theorem dX12_two_142 : decode cX12_two 142 = .ok (.iload_n 1, 1) := by decide +kernel
theorem dX12_two_143 : decode cX12_two 143 = .ok (.iload_n 3, 1) := by decide +kernel
theorem dX12_two_144 : decode cX12_two 144 = .ok (.iastore, 1) := by decide +kernel
theorem dX12_two_145 : decode cX12_two 145 = .ok (.aload_n 0, 1) := by decide +kernel
theorem dX12_two_146 : decode cX12_two 146 = .ok (.getfield 22, 3) := by decide +kernel
theorem dX12_two_149 : decode cX12_two 149 = .ok (.iload_n 2, 1) := by decide +kernel
theorem dX12_two_150 : decode cX12_two 150 = .ok (.iload 4, 2) := by decide +kernel
theorem dX12_two_152 : decode cX12_two 152 = .ok (.iastore, 1) := by decide +kernel
theorem dX12_two_153 : decode cX12_two 153 = .ok (.iconst 0, 1) := by decide +kernel
theorem dX12_two_154 : decode cX12_two 154 = .ok (.istore 5, 2) := by decide +kernel
theorem dX12_two_156 : decode cX12_two 156 = .ok (.iload 5, 2) := by decide +kernel
theorem dX12_two_158 : decode cX12_two 158 = .ok (.iconst 4, 1) := by decide +kernel
theorem dX12_two_159 : decode cX12_two 159 = .ok (.if_icmp .ge 98, 3) := by decide +kernel
theorem dX12_two_162 : decode cX12_two 162 = .ok (.iconst 2, 1) := by decide +kernel
theorem dX12_two_163 : decode cX12_two 163 = .ok (.iconst 1, 1) := by decide +kernel
theorem dX12_two_164 : decode cX12_two 164 = .ok (.iload 5, 2) := by decide +kernel
theorem dX12_two_166 : decode cX12_two 166 = .ok (.iconst 2, 1) := by decide +kernel
theorem dX12_two_167 : decode cX12_two 167 = .ok (.idiv, 1) := by decide +kernel
theorem dX12_two_168 : decode cX12_two 168 = .ok (.isub, 1) := by decide +kernel
theorem dX12_two_169 : decode cX12_two 169 = .ok (.imul, 1) := by decide +kernel
theorem dX12_two_170 : decode cX12_two 170 = .ok (.iload 5, 2) := by decide +kernel
theorem dX12_two_172 : decode cX12_two 172 = .ok (.iconst 2, 1) := by decide +kernel
theorem dX12_two_173 : decode cX12_two 173 = .ok (.irem, 1) := by decide +kernel
theorem dX12_two_174 : decode cX12_two 174 = .ok (.iadd, 1) := by decide +kernel
theorem dX12_two_175 : decode cX12_two 175 = .ok (.istore 6, 2) := by decide +kernel
theorem dX12_two_177 : decode cX12_two 177 = .ok (.iconst 2, 1) := by decide +kernel
theorem dX12_two_178 : decode cX12_two 178 = .ok (.iload 5, 2) := by decide +kernel
theorem dX12_two_180 : decode cX12_two 180 = .ok (.iconst 2, 1) := by decide +kernel
theorem dX12_two_181 : decode cX12_two 181 = .ok (.idiv, 1) := by decide +kernel
theorem dX12_two_182 : decode cX12_two 182 = .ok (.imul, 1) := by decide +kernel
theorem dX12_two_183 : decode cX12_two 183 = .ok (.iconst 1, 1) := by decide +kernel
theorem dX12_two_184 : decode cX12_two 184 = .ok (.iadd, 1) := by decide +kernel
theorem dX12_two_185 : decode cX12_two 185 = .ok (.iload 5, 2) := by decide +kernel
theorem dX12_two_187 : decode cX12_two 187 = .ok (.iconst 2, 1) := by decide +kernel
theorem dX12_two_188 : decode cX12_two 188 = .ok (.irem, 1) := by decide +kernel
theorem dX12_two_189 : decode cX12_two 189 = .ok (.isub, 1) := by decide +kernel
theorem dX12_two_190 : decode cX12_two 190 = .ok (.istore 7, 2) := by decide +kernel
theorem dX12_two_192 : decode cX12_two 192 = .ok (.aload_n 0, 1) := by decide +kernel
theorem dX12_two_193 : decode cX12_two 193 = .ok (.getfield 68, 3) := by decide +kernel
theorem dX12_two_196 : decode cX12_two 196 = .ok (.iconst 2, 1) := by decide +kernel
theorem dX12_two_197 : decode cX12_two 197 = .ok (.iload 5, 2) := by decide +kernel
theorem dX12_two_199 : decode cX12_two 199 = .ok (.imul, 1) := by decide +kernel
theorem dX12_two_200 : decode cX12_two 200 = .ok (.iaload, 1) := by decide +kernel
theorem dX12_two_201 : decode cX12_two 201 = .ok (.aload_n 0, 1) := by decide +kernel
theorem dX12_two_202 : decode cX12_two 202 = .ok (.getfield 68, 3) := by decide +kernel
theorem dX12_two_205 : decode cX12_two 205 = .ok (.iconst 2, 1) := by decide +kernel
theorem dX12_two_206 : decode cX12_two 206 = .ok (.iload 6, 2) := by decide +kernel
theorem dX12_two_208 : decode cX12_two 208 = .ok (.imul, 1) := by decide +kernel
theorem dX12_two_209 : decode cX12_two 209 = .ok (.iaload, 1) := by decide +kernel
theorem dX12_two_210 : decode cX12_two 210 = .ok (.if_icmp .gt 41, 3) := by decide +kernel
theorem dX12_two_213 : decode cX12_two 213 = .ok (.aload_n 0, 1) := by decide +kernel
theorem dX12_two_214 : decode cX12_two 214 = .ok (.getfield 68, 3) := by decide +kernel
theorem dX12_two_217 : decode cX12_two 217 = .ok (.iconst 2, 1) := by decide +kernel
theorem dX12_two_218 : decode cX12_two 218 = .ok (.iload 5, 2) := by decide +kernel
theorem dX12_two_220 : decode cX12_two 220 = .ok (.imul, 1) := by decide +kernel
theorem dX12_two_221 : decode cX12_two 221 = .ok (.iconst 1, 1) := by decide +kernel
theorem dX12_two_222 : decode cX12_two 222 = .ok (.iadd, 1) := by decide +kernel
theorem dX12_two_223 : decode cX12_two 223 = .ok (.iaload, 1) := by decide +kernel
theorem dX12_two_224 : decode cX12_two 224 = .ok (.aload_n 0, 1) := by decide +kernel
theorem dX12_two_225 : decode cX12_two 225 = .ok (.getfield 68, 3) := by decide +kernel
theorem dX12_two_228 : decode cX12_two 228 = .ok (.iconst 2, 1) := by decide +kernel
theorem dX12_two_229 : decode cX12_two 229 = .ok (.iload 7, 2) := by decide +kernel
theorem dX12_two_231 : decode cX12_two 231 = .ok (.imul, 1) := by decide +kernel
theorem dX12_two_232 : decode cX12_two 232 = .ok (.iconst 1, 1) := by decide +kernel
theorem dX12_two_233 : decode cX12_two 233 = .ok (.iadd, 1) := by decide +kernel
theorem dX12_two_234 : decode cX12_two 234 = .ok (.iaload, 1) := by decide +kernel
theorem dX12_two_235 : decode cX12_two 235 = .ok (.if_icmp .gt 16, 3) := by decide +kernel
theorem dX12_two_238 : decode cX12_two 238 = .ok (.bipush 10, 2) := by decide +kernel
theorem dX12_two_240 : decode cX12_two 240 = .ok (.iload 5, 2) := by decide +kernel
theorem dX12_two_242 : decode cX12_two 242 = .ok (.iconst 2, 1) := by decide +kernel
theorem dX12_two_243 : decode cX12_two 243 = .ok (.idiv, 1) := by decide +kernel
theorem dX12_two_244 : decode cX12_two 244 = .ok (.imul, 1) := by decide +kernel
theorem dX12_two_245 : decode cX12_two 245 = .ok (.iload 5, 2) := by decide +kernel
theorem dX12_two_247 : decode cX12_two 247 = .ok (.iconst 2, 1) := by decide +kernel
theorem dX12_two_248 : decode cX12_two 248 = .ok (.irem, 1) := by decide +kernel
theorem dX12_two_249 : decode cX12_two 249 = .ok (.iadd, 1) := by decide +kernel
theorem dX12_two_250 : decode cX12_two 250 = .ok (.ireturn, 1) := by decide +kernel
theorem dX12_two_251 : decode cX12_two 251 = .ok (.iinc 5 1, 3) := by decide +kernel
theorem dX12_two_254 : decode cX12_two 254 = .ok (.goto (-98), 3) := by decide +kernel
theorem dX12_two_257 : decode cX12_two 257 = .ok (.bipush (-4), 2) := by decide +kernel
theorem dX12_two_259 : decode cX12_two 259 = .ok (.ireturn, 1) := by decide +kernel
theorem dX12_divisor_0 : decode cX12_divisor 0 = .ok (.lload_n 0, 1) := by decide +kernel
theorem dX12_divisor_1 : decode cX12_divisor 1 = .ok (.lstore 4, 2) := by decide +kernel
theorem dX12_divisor_3 : decode cX12_divisor 3 = .ok (.lload_n 2, 1) := by decide +kernel
theorem dX12_divisor_4 : decode cX12_divisor 4 = .ok (.lstore 6, 2) := by decide +kernel
theorem dX12_divisor_6 : decode cX12_divisor 6 = .ok (.lload 6, 2) := by decide +kernel
theorem dX12_divisor_8 : decode cX12_divisor 8 = .ok (.lconst 0, 1) := by decide +kernel
theorem dX12_divisor_9 : decode cX12_divisor 9 = .ok (.lcmp, 1) := by decide +kernel
theorem dX12_divisor_10 : decode cX12_divisor 10 = .ok (.ifCond .eq 21, 3) := by decide +kernel
theorem dX12_divisor_13 : decode cX12_divisor 13 = .ok (.lload 4, 2) := by decide +kernel
theorem dX12_divisor_15 : decode cX12_divisor 15 = .ok (.lload 6, 2) := by decide +kernel
theorem dX12_divisor_17 : decode cX12_divisor 17 = .ok (.lrem, 1) := by decide +kernel
theorem dX12_divisor_18 : decode cX12_divisor 18 = .ok (.lstore 8, 2) := by decide +kernel
theorem dX12_divisor_20 : decode cX12_divisor 20 = .ok (.lload 6, 2) := by decide +kernel
theorem dX12_divisor_22 : decode cX12_divisor 22 = .ok (.lstore 4, 2) := by decide +kernel
theorem dX12_divisor_24 : decode cX12_divisor 24 = .ok (.lload 8, 2) := by decide +kernel
theorem dX12_divisor_26 : decode cX12_divisor 26 = .ok (.lstore 6, 2) := by decide +kernel
theorem dX12_divisor_28 : decode cX12_divisor 28 = .ok (.goto (-22), 3) := by decide +kernel
theorem dX12_divisor_31 : decode cX12_divisor 31 = .ok (.lload 4, 2) := by decide +kernel
theorem dX12_divisor_33 : decode cX12_divisor 33 = .ok (.lreturn, 1) := by decide +kernel
theorem dX12_partOf_0 : decode cX12_partOf 0 = .ok (.lload_n 0, 1) := by decide +kernel
theorem dX12_partOf_1 : decode cX12_partOf 1 = .ok (.lconst 0, 1) := by decide +kernel
theorem dX12_partOf_2 : decode cX12_partOf 2 = .ok (.lcmp, 1) := by decide +kernel
theorem dX12_partOf_3 : decode cX12_partOf 3 = .ok (.ifCond .ne 7, 3) := by decide +kernel
theorem dX12_partOf_6 : decode cX12_partOf 6 = .ok (.iload 4, 2) := by decide +kernel
theorem dX12_partOf_8 : decode cX12_partOf 8 = .ok (.i2l, 1) := by decide +kernel
theorem dX12_partOf_9 : decode cX12_partOf 9 = .ok (.lreturn, 1) := by decide +kernel
theorem dX12_partOf_10 : decode cX12_partOf 10 = .ok (.lload_n 0, 1) := by decide +kernel
theorem dX12_partOf_11 : decode cX12_partOf 11 = .ok (.lload_n 2, 1) := by decide +kernel
theorem dX12_partOf_12 : decode cX12_partOf 12 = .ok (.invokestatic 274, 3) := by decide +kernel
theorem dX12_partOf_15 : decode cX12_partOf 15 = .ok (.lstore 5, 2) := by decide +kernel
theorem dX12_partOf_17 : decode cX12_partOf 17 = .ok (.iload 4, 2) := by decide +kernel
theorem dX12_partOf_19 : decode cX12_partOf 19 = .ok (.ifCond .ne 10, 3) := by decide +kernel
theorem dX12_partOf_22 : decode cX12_partOf 22 = .ok (.lload_n 0, 1) := by decide +kernel
theorem dX12_partOf_23 : decode cX12_partOf 23 = .ok (.lload 5, 2) := by decide +kernel
theorem dX12_partOf_25 : decode cX12_partOf 25 = .ok (.ldiv, 1) := by decide +kernel
theorem dX12_partOf_26 : decode cX12_partOf 26 = .ok (.goto 7, 3) := by decide +kernel
theorem dX12_partOf_29 : decode cX12_partOf 29 = .ok (.lload_n 2, 1) := by decide +kernel
theorem dX12_partOf_30 : decode cX12_partOf 30 = .ok (.lload 5, 2) := by decide +kernel
theorem dX12_partOf_32 : decode cX12_partOf 32 = .ok (.ldiv, 1) := by decide +kernel
theorem dX12_partOf_33 : decode cX12_partOf 33 = .ok (.lreturn, 1) := by decide +kernel
theorem dX12_fog_0 : decode cX12_fog 0 = .ok (.aload_n 0, 1) := by decide +kernel
theorem dX12_fog_1 : decode cX12_fog 1 = .ok (.iconst 0, 1) := by decide +kernel
theorem dX12_fog_2 : decode cX12_fog 2 = .ok (.putfield 74, 3) := by decide +kernel
theorem dX12_fog_5 : decode cX12_fog 5 = .ok (.aload_n 0, 1) := by decide +kernel
theorem dX12_fog_6 : decode cX12_fog 6 = .ok (.iload_n 1, 1) := by decide +kernel
theorem dX12_fog_7 : decode cX12_fog 7 = .ok (.invokevirtual 176, 3) := by decide +kernel
theorem dX12_fog_10 : decode cX12_fog 10 = .ok (.ifCond .eq 48, 3) := by decide +kernel
theorem dX12_fog_13 : decode cX12_fog 13 = .ok (.iload_n 2, 1) := by decide +kernel
theorem dX12_fog_14 : decode cX12_fog 14 = .ok (.invokestatic 113, 3) := by decide +kernel
theorem dX12_fog_17 : decode cX12_fog 17 = .ok (.ifCond .eq 41, 3) := by decide +kernel
theorem dX12_fog_20 : decode cX12_fog 20 = .ok (.iload_n 3, 1) := by decide +kernel
theorem dX12_fog_21 : decode cX12_fog 21 = .ok (.i2l, 1) := by decide +kernel
theorem dX12_fog_22 : decode cX12_fog 22 = .ok (.lconst 0, 1) := by decide +kernel
theorem dX12_fog_23 : decode cX12_fog 23 = .ok (.ldc2_w 222, 3) := by decide +kernel
theorem dX12_fog_26 : decode cX12_fog 26 = .ok (.invokestatic 80, 3) := by decide +kernel
theorem dX12_fog_29 : decode cX12_fog 29 = .ok (.ifCond .eq 29, 3) := by decide +kernel
theorem dX12_fog_32 : decode cX12_fog 32 = .ok (.iload 4, 2) := by decide +kernel
theorem dX12_fog_34 : decode cX12_fog 34 = .ok (.i2l, 1) := by decide +kernel
theorem dX12_fog_35 : decode cX12_fog 35 = .ok (.ldc2_w 229, 3) := by decide +kernel
theorem dX12_fog_38 : decode cX12_fog 38 = .ok (.ldc2_w 227, 3) := by decide +kernel
theorem dX12_fog_41 : decode cX12_fog 41 = .ok (.invokestatic 80, 3) := by decide +kernel
theorem dX12_fog_44 : decode cX12_fog 44 = .ok (.ifCond .eq 14, 3) := by decide +kernel
theorem dX12_fog_47 : decode cX12_fog 47 = .ok (.iload 5, 2) := by decide +kernel
theorem dX12_fog_49 : decode cX12_fog 49 = .ok (.i2l, 1) := by decide +kernel
theorem dX12_fog_50 : decode cX12_fog 50 = .ok (.lconst 0, 1) := by decide +kernel
theorem dX12_fog_51 : decode cX12_fog 51 = .ok (.lconst 1, 1) := by decide +kernel
theorem dX12_fog_52 : decode cX12_fog 52 = .ok (.invokestatic 80, 3) := by decide +kernel
theorem dX12_fog_55 : decode cX12_fog 55 = .ok (.ifCond .ne 7, 3) := by decide +kernel
theorem dX12_fog_58 : decode cX12_fog 58 = .ok (.ldc2_w 278, 3) := by decide +kernel
theorem dX12_fog_61 : decode cX12_fog 61 = .ok (.lreturn, 1) := by decide +kernel
theorem dX12_fog_62 : decode cX12_fog 62 = .ok (.lconst 0, 1) := by decide +kernel
theorem dX12_fog_63 : decode cX12_fog 63 = .ok (.lstore 6, 2) := by decide +kernel
theorem dX12_fog_65 : decode cX12_fog 65 = .ok (.lconst 1, 1) := by decide +kernel
theorem dX12_fog_66 : decode cX12_fog 66 = .ok (.lstore 8, 2) := by decide +kernel
theorem dX12_fog_68 : decode cX12_fog 68 = .ok (.iconst 0, 1) := by decide +kernel
theorem dX12_fog_69 : decode cX12_fog 69 = .ok (.istore 10, 2) := by decide +kernel
theorem dX12_fog_71 : decode cX12_fog 71 = .ok (.iload 10, 2) := by decide +kernel
theorem dX12_fog_73 : decode cX12_fog 73 = .ok (.iload_n 3, 1) := by decide +kernel
theorem dX12_fog_74 : decode cX12_fog 74 = .ok (.if_icmp .ge 17, 3) := by decide +kernel
theorem dX12_fog_77 : decode cX12_fog 77 = .ok (.lload 8, 2) := by decide +kernel
theorem dX12_fog_79 : decode cX12_fog 79 = .ok (.iload 4, 2) := by decide +kernel
theorem dX12_fog_81 : decode cX12_fog 81 = .ok (.i2l, 1) := by decide +kernel
theorem dX12_fog_82 : decode cX12_fog 82 = .ok (.lmul, 1) := by decide +kernel
theorem dX12_fog_83 : decode cX12_fog 83 = .ok (.lstore 8, 2) := by decide +kernel
theorem dX12_fog_85 : decode cX12_fog 85 = .ok (.iinc 10 1, 3) := by decide +kernel
theorem dX12_fog_88 : decode cX12_fog 88 = .ok (.goto (-17), 3) := by decide +kernel
theorem dX12_fog_91 : decode cX12_fog 91 = .ok (.aload_n 0, 1) := by decide +kernel
theorem dX12_fog_92 : decode cX12_fog 92 = .ok (.invokevirtual 191, 3) := by decide +kernel
theorem dX12_fog_95 : decode cX12_fog 95 = .ok (.iconst 0, 1) := by decide +kernel
theorem dX12_fog_96 : decode cX12_fog 96 = .ok (.istore 10, 2) := by decide +kernel
theorem dX12_fog_98 : decode cX12_fog 98 = .ok (.iload 10, 2) := by decide +kernel
theorem dX12_fog_100 : decode cX12_fog 100 = .ok (.iconst 1, 1) := by decide +kernel
theorem dX12_fog_101 : decode cX12_fog 101 = .ok (.iload_n 3, 1) := by decide +kernel
theorem dX12_fog_102 : decode cX12_fog 102 = .ok (.ishl, 1) := by decide +kernel
theorem dX12_fog_103 : decode cX12_fog 103 = .ok (.if_icmp .ge 87, 3) := by decide +kernel
theorem dX12_fog_106 : decode cX12_fog 106 = .ok (.lconst 1, 1) := by decide +kernel
theorem dX12_fog_107 : decode cX12_fog 107 = .ok (.lstore 11, 2) := by decide +kernel
theorem dX12_fog_109 : decode cX12_fog 109 = .ok (.iconst 0, 1) := by decide +kernel
theorem dX12_fog_110 : decode cX12_fog 110 = .ok (.istore 13, 2) := by decide +kernel
theorem dX12_fog_112 : decode cX12_fog 112 = .ok (.iload 13, 2) := by decide +kernel
theorem dX12_fog_114 : decode cX12_fog 114 = .ok (.iload_n 3, 1) := by decide +kernel
theorem dX12_fog_115 : decode cX12_fog 115 = .ok (.if_icmp .ge 44, 3) := by decide +kernel
theorem dX12_fog_118 : decode cX12_fog 118 = .ok (.lload 11, 2) := by decide +kernel
theorem dX12_fog_120 : decode cX12_fog 120 = .ok (.iload 10, 2) := by decide +kernel
theorem dX12_fog_122 : decode cX12_fog 122 = .ok (.iload 13, 2) := by decide +kernel
theorem dX12_fog_124 : decode cX12_fog 124 = .ok (.invokestatic 97, 3) := by decide +kernel
theorem dX12_fog_127 : decode cX12_fog 127 = .ok (.ifCond .eq 7, 3) := by decide +kernel
theorem dX12_fog_130 : decode cX12_fog 130 = .ok (.lconst 1, 1) := by decide +kernel
theorem dX12_fog_131 : decode cX12_fog 131 = .ok (.goto 8, 3) := by decide +kernel
theorem dX12_fog_134 : decode cX12_fog 134 = .ok (.iload 4, 2) := by decide +kernel
theorem dX12_fog_136 : decode cX12_fog 136 = .ok (.iconst 1, 1) := by decide +kernel
theorem dX12_fog_137 : decode cX12_fog 137 = .ok (.isub, 1) := by decide +kernel
theorem dX12_fog_138 : decode cX12_fog 138 = .ok (.i2l, 1) := by decide +kernel
theorem dX12_fog_139 : decode cX12_fog 139 = .ok (.lmul, 1) := by decide +kernel
theorem dX12_fog_140 : decode cX12_fog 140 = .ok (.lstore 11, 2) := by decide +kernel
theorem dX12_fog_142 : decode cX12_fog 142 = .ok (.aload_n 0, 1) := by decide +kernel
theorem dX12_fog_143 : decode cX12_fog 143 = .ok (.iload 10, 2) := by decide +kernel
theorem dX12_fog_145 : decode cX12_fog 145 = .ok (.iload 13, 2) := by decide +kernel
theorem dX12_fog_147 : decode cX12_fog 147 = .ok (.invokestatic 97, 3) := by decide +kernel
theorem dX12_fog_150 : decode cX12_fog 150 = .ok (.invokevirtual 129, 3) := by decide +kernel
theorem dX12_fog_153 : decode cX12_fog 153 = .ok (.iinc 13 1, 3) := by decide +kernel
theorem dX12_fog_156 : decode cX12_fog 156 = .ok (.goto (-44), 3) := by decide +kernel
theorem dX12_fog_159 : decode cX12_fog 159 = .ok (.lload 6, 2) := by decide +kernel
theorem dX12_fog_161 : decode cX12_fog 161 = .ok (.aload_n 0, 1) := by decide +kernel
theorem dX12_fog_162 : decode cX12_fog 162 = .ok (.getfield 22, 3) := by decide +kernel
theorem dX12_fog_165 : decode cX12_fog 165 = .ok (.iload_n 1, 1) := by decide +kernel
theorem dX12_fog_166 : decode cX12_fog 166 = .ok (.iaload, 1) := by decide +kernel
theorem dX12_fog_167 : decode cX12_fog 167 = .ok (.iload_n 2, 1) := by decide +kernel
theorem dX12_fog_168 : decode cX12_fog 168 = .ok (.if_icmp .ne 8, 3) := by decide +kernel
theorem dX12_fog_171 : decode cX12_fog 171 = .ok (.lload 11, 2) := by decide +kernel
theorem dX12_fog_173 : decode cX12_fog 173 = .ok (.goto 4, 3) := by decide +kernel
theorem dX12_fog_176 : decode cX12_fog 176 = .ok (.lconst 0, 1) := by decide +kernel
theorem dX12_fog_177 : decode cX12_fog 177 = .ok (.ladd, 1) := by decide +kernel
theorem dX12_fog_178 : decode cX12_fog 178 = .ok (.lstore 6, 2) := by decide +kernel
theorem dX12_fog_180 : decode cX12_fog 180 = .ok (.aload_n 0, 1) := by decide +kernel
theorem dX12_fog_181 : decode cX12_fog 181 = .ok (.invokevirtual 197, 3) := by decide +kernel
theorem dX12_fog_184 : decode cX12_fog 184 = .ok (.iinc 10 1, 3) := by decide +kernel
theorem dX12_fog_187 : decode cX12_fog 187 = .ok (.goto (-89), 3) := by decide +kernel
theorem dX12_fog_190 : decode cX12_fog 190 = .ok (.lload 6, 2) := by decide +kernel
theorem dX12_fog_192 : decode cX12_fog 192 = .ok (.lload 8, 2) := by decide +kernel
theorem dX12_fog_194 : decode cX12_fog 194 = .ok (.iload 5, 2) := by decide +kernel
theorem dX12_fog_196 : decode cX12_fog 196 = .ok (.invokestatic 280, 3) := by decide +kernel
theorem dX12_fog_199 : decode cX12_fog 199 = .ok (.lreturn, 1) := by decide +kernel
theorem dX12_allGround_0 : decode cX12_allGround 0 = .ok (.aload_n 0, 1) := by decide +kernel
theorem dX12_allGround_1 : decode cX12_allGround 1 = .ok (.invokevirtual 107, 3) := by decide +kernel
theorem dX12_allGround_4 : decode cX12_allGround 4 = .ok (.iconst 0, 1) := by decide +kernel
theorem dX12_allGround_5 : decode cX12_allGround 5 = .ok (.istore_n 1, 1) := by decide +kernel
theorem dX12_allGround_6 : decode cX12_allGround 6 = .ok (.iconst 0, 1) := by decide +kernel
theorem dX12_allGround_7 : decode cX12_allGround 7 = .ok (.istore_n 2, 1) := by decide +kernel
theorem dX12_allGround_8 : decode cX12_allGround 8 = .ok (.iload_n 2, 1) := by decide +kernel
theorem dX12_allGround_9 : decode cX12_allGround 9 = .ok (.bipush 15, 2) := by decide +kernel
theorem dX12_allGround_11 : decode cX12_allGround 11 = .ok (.if_icmp .ge 18, 3) := by decide +kernel
theorem dX12_allGround_14 : decode cX12_allGround 14 = .ok (.iload_n 1, 1) := by decide +kernel
theorem dX12_allGround_15 : decode cX12_allGround 15 = .ok (.aload_n 0, 1) := by decide +kernel
theorem dX12_allGround_16 : decode cX12_allGround 16 = .ok (.getfield 47, 3) := by decide +kernel
theorem dX12_allGround_19 : decode cX12_allGround 19 = .ok (.iload_n 2, 1) := by decide +kernel
theorem dX12_allGround_20 : decode cX12_allGround 20 = .ok (.iaload, 1) := by decide +kernel
theorem dX12_allGround_21 : decode cX12_allGround 21 = .ok (.iadd, 1) := by decide +kernel
theorem dX12_allGround_22 : decode cX12_allGround 22 = .ok (.istore_n 1, 1) := by decide +kernel
theorem dX12_allGround_23 : decode cX12_allGround 23 = .ok (.iinc 2 1, 3) := by decide +kernel
theorem dX12_allGround_26 : decode cX12_allGround 26 = .ok (.goto (-18), 3) := by decide +kernel
theorem dX12_allGround_29 : decode cX12_allGround 29 = .ok (.iload_n 1, 1) := by decide +kernel
theorem dX12_allGround_30 : decode cX12_allGround 30 = .ok (.ireturn, 1) := by decide +kernel
theorem dX12_mean_0 : decode cX12_mean 0 = .ok (.aload_n 0, 1) := by decide +kernel
theorem dX12_mean_1 : decode cX12_mean 1 = .ok (.iconst 0, 1) := by decide +kernel
theorem dX12_mean_2 : decode cX12_mean 2 = .ok (.putfield 74, 3) := by decide +kernel
theorem dX12_mean_5 : decode cX12_mean 5 = .ok (.iload_n 1, 1) := by decide +kernel
theorem dX12_mean_6 : decode cX12_mean 6 = .ok (.i2l, 1) := by decide +kernel
theorem dX12_mean_7 : decode cX12_mean 7 = .ok (.lconst 0, 1) := by decide +kernel
theorem dX12_mean_8 : decode cX12_mean 8 = .ok (.lconst 1, 1) := by decide +kernel
theorem dX12_mean_9 : decode cX12_mean 9 = .ok (.invokestatic 80, 3) := by decide +kernel
theorem dX12_mean_12 : decode cX12_mean 12 = .ok (.ifCond .eq 18, 3) := by decide +kernel
theorem dX12_mean_15 : decode cX12_mean 15 = .ok (.aload_n 0, 1) := by decide +kernel
theorem dX12_mean_16 : decode cX12_mean 16 = .ok (.invokevirtual 284, 3) := by decide +kernel
theorem dX12_mean_19 : decode cX12_mean 19 = .ok (.i2l, 1) := by decide +kernel
theorem dX12_mean_20 : decode cX12_mean 20 = .ok (.ldc2_w 287, 3) := by decide +kernel
theorem dX12_mean_23 : decode cX12_mean 23 = .ok (.iload_n 1, 1) := by decide +kernel
theorem dX12_mean_24 : decode cX12_mean 24 = .ok (.invokestatic 280, 3) := by decide +kernel
theorem dX12_mean_27 : decode cX12_mean 27 = .ok (.goto 6, 3) := by decide +kernel
theorem dX12_mean_30 : decode cX12_mean 30 = .ok (.ldc2_w 278, 3) := by decide +kernel
theorem dX12_mean_33 : decode cX12_mean 33 = .ok (.lreturn, 1) := by decide +kernel
theorem dX12_shares_0 : decode cX12_shares 0 = .ok (.aload_n 0, 1) := by decide +kernel
theorem dX12_shares_1 : decode cX12_shares 1 = .ok (.iconst 0, 1) := by decide +kernel
theorem dX12_shares_2 : decode cX12_shares 2 = .ok (.putfield 74, 3) := by decide +kernel
theorem dX12_shares_5 : decode cX12_shares 5 = .ok (.iload_n 1, 1) := by decide +kernel
theorem dX12_shares_6 : decode cX12_shares 6 = .ok (.i2l, 1) := by decide +kernel
theorem dX12_shares_7 : decode cX12_shares 7 = .ok (.lconst 1, 1) := by decide +kernel
theorem dX12_shares_8 : decode cX12_shares 8 = .ok (.ldc2_w 289, 3) := by decide +kernel
theorem dX12_shares_11 : decode cX12_shares 11 = .ok (.invokestatic 80, 3) := by decide +kernel
theorem dX12_shares_14 : decode cX12_shares 14 = .ok (.ifCond .eq 28, 3) := by decide +kernel
theorem dX12_shares_17 : decode cX12_shares 17 = .ok (.iload_n 2, 1) := by decide +kernel
theorem dX12_shares_18 : decode cX12_shares 18 = .ok (.i2l, 1) := by decide +kernel
theorem dX12_shares_19 : decode cX12_shares 19 = .ok (.lconst 0, 1) := by decide +kernel
theorem dX12_shares_20 : decode cX12_shares 20 = .ok (.ldc2_w 291, 3) := by decide +kernel
theorem dX12_shares_23 : decode cX12_shares 23 = .ok (.invokestatic 80, 3) := by decide +kernel
theorem dX12_shares_26 : decode cX12_shares 26 = .ok (.ifCond .eq 16, 3) := by decide +kernel
theorem dX12_shares_29 : decode cX12_shares 29 = .ok (.iload_n 3, 1) := by decide +kernel
theorem dX12_shares_30 : decode cX12_shares 30 = .ok (.i2l, 1) := by decide +kernel
theorem dX12_shares_31 : decode cX12_shares 31 = .ok (.lconst 0, 1) := by decide +kernel
theorem dX12_shares_32 : decode cX12_shares 32 = .ok (.iload_n 1, 1) := by decide +kernel
theorem dX12_shares_33 : decode cX12_shares 33 = .ok (.iconst 1, 1) := by decide +kernel
theorem dX12_shares_34 : decode cX12_shares 34 = .ok (.isub, 1) := by decide +kernel
theorem dX12_shares_35 : decode cX12_shares 35 = .ok (.i2l, 1) := by decide +kernel
theorem dX12_shares_36 : decode cX12_shares 36 = .ok (.invokestatic 80, 3) := by decide +kernel
theorem dX12_shares_39 : decode cX12_shares 39 = .ok (.ifCond .ne 5, 3) := by decide +kernel
theorem dX12_shares_42 : decode cX12_shares 42 = .ok (.iconst (-1), 1) := by decide +kernel
theorem dX12_shares_43 : decode cX12_shares 43 = .ok (.ireturn, 1) := by decide +kernel
theorem dX12_shares_44 : decode cX12_shares 44 = .ok (.iload_n 2, 1) := by decide +kernel
theorem dX12_shares_45 : decode cX12_shares 45 = .ok (.iload_n 1, 1) := by decide +kernel
theorem dX12_shares_46 : decode cX12_shares 46 = .ok (.idiv, 1) := by decide +kernel
theorem dX12_shares_47 : decode cX12_shares 47 = .ok (.iload_n 3, 1) := by decide +kernel
theorem dX12_shares_48 : decode cX12_shares 48 = .ok (.iload_n 2, 1) := by decide +kernel
theorem dX12_shares_49 : decode cX12_shares 49 = .ok (.iload_n 1, 1) := by decide +kernel
theorem dX12_shares_50 : decode cX12_shares 50 = .ok (.irem, 1) := by decide +kernel
theorem dX12_shares_51 : decode cX12_shares 51 = .ok (.if_icmp .ge 7, 3) := by decide +kernel
theorem dX12_shares_54 : decode cX12_shares 54 = .ok (.iconst 1, 1) := by decide +kernel
theorem dX12_shares_55 : decode cX12_shares 55 = .ok (.goto 4, 3) := by decide +kernel
theorem dX12_shares_58 : decode cX12_shares 58 = .ok (.iconst 0, 1) := by decide +kernel
theorem dX12_shares_59 : decode cX12_shares 59 = .ok (.iadd, 1) := by decide +kernel
theorem dX12_shares_60 : decode cX12_shares 60 = .ok (.ireturn, 1) := by decide +kernel
theorem dX12_forged_0 : decode cX12_forged 0 = .ok (.aload_n 0, 1) := by decide +kernel
theorem dX12_forged_1 : decode cX12_forged 1 = .ok (.iconst 0, 1) := by decide +kernel
theorem dX12_forged_2 : decode cX12_forged 2 = .ok (.putfield 74, 3) := by decide +kernel
theorem dX12_forged_5 : decode cX12_forged 5 = .ok (.aload_n 0, 1) := by decide +kernel
theorem dX12_forged_6 : decode cX12_forged 6 = .ok (.iload_n 1, 1) := by decide +kernel
theorem dX12_forged_7 : decode cX12_forged 7 = .ok (.invokevirtual 185, 3) := by decide +kernel
theorem dX12_forged_10 : decode cX12_forged 10 = .ok (.istore_n 2, 1) := by decide +kernel
theorem dX12_forged_11 : decode cX12_forged 11 = .ok (.iload_n 2, 1) := by decide +kernel
theorem dX12_forged_12 : decode cX12_forged 12 = .ok (.ifCond .ge 5, 3) := by decide +kernel
theorem dX12_forged_15 : decode cX12_forged 15 = .ok (.iload_n 2, 1) := by decide +kernel
theorem dX12_forged_16 : decode cX12_forged 16 = .ok (.ireturn, 1) := by decide +kernel
theorem dX12_forged_17 : decode cX12_forged 17 = .ok (.aload_n 0, 1) := by decide +kernel
theorem dX12_forged_18 : decode cX12_forged 18 = .ok (.invokevirtual 107, 3) := by decide +kernel
theorem dX12_forged_21 : decode cX12_forged 21 = .ok (.iconst 0, 1) := by decide +kernel
theorem dX12_forged_22 : decode cX12_forged 22 = .ok (.istore_n 3, 1) := by decide +kernel
theorem dX12_forged_23 : decode cX12_forged 23 = .ok (.iload_n 3, 1) := by decide +kernel
theorem dX12_forged_24 : decode cX12_forged 24 = .ok (.aload_n 0, 1) := by decide +kernel
theorem dX12_forged_25 : decode cX12_forged 25 = .ok (.getfield 40, 3) := by decide +kernel
theorem dX12_forged_28 : decode cX12_forged 28 = .ok (.iload_n 1, 1) := by decide +kernel
theorem dX12_forged_29 : decode cX12_forged 29 = .ok (.iaload, 1) := by decide +kernel
theorem dX12_forged_30 : decode cX12_forged 30 = .ok (.if_icmp .ge 39, 3) := by decide +kernel
theorem dX12_forged_33 : decode cX12_forged 33 = .ok (.iload_n 3, 1) := by decide +kernel
theorem dX12_forged_34 : decode cX12_forged 34 = .ok (.bipush 14, 2) := by decide +kernel
theorem dX12_forged_36 : decode cX12_forged 36 = .ok (.if_icmp .gt 25, 3) := by decide +kernel
theorem dX12_forged_39 : decode cX12_forged 39 = .ok (.aload_n 0, 1) := by decide +kernel
theorem dX12_forged_40 : decode cX12_forged 40 = .ok (.getfield 43, 3) := by decide +kernel
theorem dX12_forged_43 : decode cX12_forged 43 = .ok (.bipush 100, 2) := by decide +kernel
theorem dX12_forged_45 : decode cX12_forged 45 = .ok (.iload_n 1, 1) := by decide +kernel
theorem dX12_forged_46 : decode cX12_forged 46 = .ok (.imul, 1) := by decide +kernel
theorem dX12_forged_47 : decode cX12_forged 47 = .ok (.iload_n 3, 1) := by decide +kernel
theorem dX12_forged_48 : decode cX12_forged 48 = .ok (.iadd, 1) := by decide +kernel
theorem dX12_forged_49 : decode cX12_forged 49 = .ok (.laload, 1) := by decide +kernel
theorem dX12_forged_50 : decode cX12_forged 50 = .ok (.aload_n 0, 1) := by decide +kernel
theorem dX12_forged_51 : decode cX12_forged 51 = .ok (.getfield 47, 3) := by decide +kernel
theorem dX12_forged_54 : decode cX12_forged 54 = .ok (.iload_n 3, 1) := by decide +kernel
theorem dX12_forged_55 : decode cX12_forged 55 = .ok (.iaload, 1) := by decide +kernel
theorem dX12_forged_56 : decode cX12_forged 56 = .ok (.i2l, 1) := by decide +kernel
theorem dX12_forged_57 : decode cX12_forged 57 = .ok (.lcmp, 1) := by decide +kernel
theorem dX12_forged_58 : decode cX12_forged 58 = .ok (.ifCond .eq 5, 3) := by decide +kernel
theorem dX12_forged_61 : decode cX12_forged 61 = .ok (.iload_n 3, 1) := by decide +kernel
theorem dX12_forged_62 : decode cX12_forged 62 = .ok (.ireturn, 1) := by decide +kernel
theorem dX12_forged_63 : decode cX12_forged 63 = .ok (.iinc 3 1, 3) := by decide +kernel
theorem dX12_forged_66 : decode cX12_forged 66 = .ok (.goto (-43), 3) := by decide +kernel
theorem dX12_forged_69 : decode cX12_forged 69 = .ok (.bipush (-4), 2) := by decide +kernel
theorem dX12_forged_71 : decode cX12_forged 71 = .ok (.ireturn, 1) := by decide +kernel
theorem dX12_judge_0 : decode cX12_judge 0 = .ok (.aload_n 0, 1) := by decide +kernel
theorem dX12_judge_1 : decode cX12_judge 1 = .ok (.iconst 0, 1) := by decide +kernel
theorem dX12_judge_2 : decode cX12_judge 2 = .ok (.putfield 74, 3) := by decide +kernel
theorem dX12_judge_5 : decode cX12_judge 5 = .ok (.aload_n 0, 1) := by decide +kernel
theorem dX12_judge_6 : decode cX12_judge 6 = .ok (.iload_n 1, 1) := by decide +kernel
theorem dX12_judge_7 : decode cX12_judge 7 = .ok (.invokevirtual 185, 3) := by decide +kernel
theorem dX12_judge_10 : decode cX12_judge 10 = .ok (.istore_n 2, 1) := by decide +kernel
theorem dX12_judge_11 : decode cX12_judge 11 = .ok (.iload_n 2, 1) := by decide +kernel
theorem dX12_judge_12 : decode cX12_judge 12 = .ok (.ifCond .ge 5, 3) := by decide +kernel
theorem dX12_judge_15 : decode cX12_judge 15 = .ok (.iload_n 2, 1) := by decide +kernel
theorem dX12_judge_16 : decode cX12_judge 16 = .ok (.ireturn, 1) := by decide +kernel
theorem dX12_judge_17 : decode cX12_judge 17 = .ok (.bipush (-4), 2) := by decide +kernel
theorem dX12_judge_19 : decode cX12_judge 19 = .ok (.istore_n 3, 1) := by decide +kernel
theorem dX12_judge_20 : decode cX12_judge 20 = .ok (.aload_n 0, 1) := by decide +kernel
theorem dX12_judge_21 : decode cX12_judge 21 = .ok (.invokevirtual 191, 3) := by decide +kernel
theorem dX12_judge_24 : decode cX12_judge 24 = .ok (.iconst 0, 1) := by decide +kernel
theorem dX12_judge_25 : decode cX12_judge 25 = .ok (.istore 4, 2) := by decide +kernel
theorem dX12_judge_27 : decode cX12_judge 27 = .ok (.iload 4, 2) := by decide +kernel
theorem dX12_judge_29 : decode cX12_judge 29 = .ok (.aload_n 0, 1) := by decide +kernel
theorem dX12_judge_30 : decode cX12_judge 30 = .ok (.getfield 40, 3) := by decide +kernel
theorem dX12_judge_33 : decode cX12_judge 33 = .ok (.iload_n 1, 1) := by decide +kernel
theorem dX12_judge_34 : decode cX12_judge 34 = .ok (.iaload, 1) := by decide +kernel
theorem dX12_judge_35 : decode cX12_judge 35 = .ok (.if_icmp .ge 62, 3) := by decide +kernel
theorem dX12_judge_38 : decode cX12_judge 38 = .ok (.iload_n 3, 1) := by decide +kernel
theorem dX12_judge_39 : decode cX12_judge 39 = .ok (.ifCond .ge 58, 3) := by decide +kernel
theorem dX12_judge_42 : decode cX12_judge 42 = .ok (.aload_n 0, 1) := by decide +kernel
theorem dX12_judge_43 : decode cX12_judge 43 = .ok (.getfield 43, 3) := by decide +kernel
theorem dX12_judge_46 : decode cX12_judge 46 = .ok (.bipush 100, 2) := by decide +kernel
theorem dX12_judge_48 : decode cX12_judge 48 = .ok (.iload_n 1, 1) := by decide +kernel
theorem dX12_judge_49 : decode cX12_judge 49 = .ok (.imul, 1) := by decide +kernel
theorem dX12_judge_50 : decode cX12_judge 50 = .ok (.iload 4, 2) := by decide +kernel
theorem dX12_judge_52 : decode cX12_judge 52 = .ok (.iadd, 1) := by decide +kernel
theorem dX12_judge_53 : decode cX12_judge 53 = .ok (.laload, 1) := by decide +kernel
theorem dX12_judge_54 : decode cX12_judge 54 = .ok (.lstore 5, 2) := by decide +kernel
theorem dX12_judge_56 : decode cX12_judge 56 = .ok (.lload 5, 2) := by decide +kernel
theorem dX12_judge_58 : decode cX12_judge 58 = .ok (.aload_n 0, 1) := by decide +kernel
theorem dX12_judge_59 : decode cX12_judge 59 = .ok (.iload_n 1, 1) := by decide +kernel
theorem dX12_judge_60 : decode cX12_judge 60 = .ok (.invokevirtual 267, 3) := by decide +kernel
theorem dX12_judge_63 : decode cX12_judge 63 = .ok (.lcmp, 1) := by decide +kernel
theorem dX12_judge_64 : decode cX12_judge 64 = .ok (.ifCond .eq 14, 3) := by decide +kernel
theorem dX12_judge_67 : decode cX12_judge 67 = .ok (.lload 5, 2) := by decide +kernel
theorem dX12_judge_69 : decode cX12_judge 69 = .ok (.aload_n 0, 1) := by decide +kernel
theorem dX12_judge_70 : decode cX12_judge 70 = .ok (.invokevirtual 231, 3) := by decide +kernel
theorem dX12_judge_73 : decode cX12_judge 73 = .ok (.i2l, 1) := by decide +kernel
theorem dX12_judge_74 : decode cX12_judge 74 = .ok (.lcmp, 1) := by decide +kernel
theorem dX12_judge_75 : decode cX12_judge 75 = .ok (.ifCond .ne 8, 3) := by decide +kernel
theorem dX12_judge_78 : decode cX12_judge 78 = .ok (.bipush (-4), 2) := by decide +kernel
theorem dX12_judge_80 : decode cX12_judge 80 = .ok (.goto 5, 3) := by decide +kernel
theorem dX12_judge_83 : decode cX12_judge 83 = .ok (.iload 4, 2) := by decide +kernel
theorem dX12_judge_85 : decode cX12_judge 85 = .ok (.istore_n 3, 1) := by decide +kernel
theorem dX12_judge_86 : decode cX12_judge 86 = .ok (.aload_n 0, 1) := by decide +kernel
theorem dX12_judge_87 : decode cX12_judge 87 = .ok (.iconst 0, 1) := by decide +kernel
theorem dX12_judge_88 : decode cX12_judge 88 = .ok (.invokevirtual 129, 3) := by decide +kernel
theorem dX12_judge_91 : decode cX12_judge 91 = .ok (.iinc 4 1, 3) := by decide +kernel
theorem dX12_judge_94 : decode cX12_judge 94 = .ok (.goto (-67), 3) := by decide +kernel
theorem dX12_judge_97 : decode cX12_judge 97 = .ok (.aload_n 0, 1) := by decide +kernel
theorem dX12_judge_98 : decode cX12_judge 98 = .ok (.invokevirtual 197, 3) := by decide +kernel
theorem dX12_judge_101 : decode cX12_judge 101 = .ok (.iload_n 3, 1) := by decide +kernel
theorem dX12_judge_102 : decode cX12_judge 102 = .ok (.ireturn, 1) := by decide +kernel
theorem dX12_drawBelow_0 : decode cX12_drawBelow 0 = .ok (.aload_n 0, 1) := by decide +kernel
theorem dX12_drawBelow_1 : decode cX12_drawBelow 1 = .ok (.aload_n 0, 1) := by decide +kernel
theorem dX12_drawBelow_2 : decode cX12_drawBelow 2 = .ok (.getfield 293, 3) := by decide +kernel
theorem dX12_drawBelow_5 : decode cX12_drawBelow 5 = .ok (.ldc_w 296, 3) := by decide +kernel
theorem dX12_drawBelow_8 : decode cX12_drawBelow 8 = .ok (.imul, 1) := by decide +kernel
theorem dX12_drawBelow_9 : decode cX12_drawBelow 9 = .ok (.sipush 12345, 3) := by decide +kernel
theorem dX12_drawBelow_12 : decode cX12_drawBelow 12 = .ok (.iadd, 1) := by decide +kernel
theorem dX12_drawBelow_13 : decode cX12_drawBelow 13 = .ok (.putfield 293, 3) := by decide +kernel
theorem dX12_drawBelow_16 : decode cX12_drawBelow 16 = .ok (.aload_n 0, 1) := by decide +kernel
theorem dX12_drawBelow_17 : decode cX12_drawBelow 17 = .ok (.getfield 293, 3) := by decide +kernel
theorem dX12_drawBelow_20 : decode cX12_drawBelow 20 = .ok (.ldc_w 297, 3) := by decide +kernel
theorem dX12_drawBelow_23 : decode cX12_drawBelow 23 = .ok (.iand, 1) := by decide +kernel
theorem dX12_drawBelow_24 : decode cX12_drawBelow 24 = .ok (.ldc_w 298, 3) := by decide +kernel
theorem dX12_drawBelow_27 : decode cX12_drawBelow 27 = .ok (.idiv, 1) := by decide +kernel
theorem dX12_drawBelow_28 : decode cX12_drawBelow 28 = .ok (.iload_n 1, 1) := by decide +kernel
theorem dX12_drawBelow_29 : decode cX12_drawBelow 29 = .ok (.irem, 1) := by decide +kernel
theorem dX12_drawBelow_30 : decode cX12_drawBelow 30 = .ok (.ireturn, 1) := by decide +kernel
theorem dX12_countries_0 : decode cX12_countries 0 = .ok (.aload_n 0, 1) := by decide +kernel
theorem dX12_countries_1 : decode cX12_countries 1 = .ok (.iconst 0, 1) := by decide +kernel
theorem dX12_countries_2 : decode cX12_countries 2 = .ok (.putfield 74, 3) := by decide +kernel
theorem dX12_countries_5 : decode cX12_countries 5 = .ok (.iload_n 1, 1) := by decide +kernel
theorem dX12_countries_6 : decode cX12_countries 6 = .ok (.i2l, 1) := by decide +kernel
theorem dX12_countries_7 : decode cX12_countries 7 = .ok (.lconst 1, 1) := by decide +kernel
theorem dX12_countries_8 : decode cX12_countries 8 = .ok (.ldc2_w 227, 3) := by decide +kernel
theorem dX12_countries_11 : decode cX12_countries 11 = .ok (.invokestatic 80, 3) := by decide +kernel
theorem dX12_countries_14 : decode cX12_countries 14 = .ok (.ifCond .eq 13, 3) := by decide +kernel
theorem dX12_countries_17 : decode cX12_countries 17 = .ok (.iload_n 3, 1) := by decide +kernel
theorem dX12_countries_18 : decode cX12_countries 18 = .ok (.i2l, 1) := by decide +kernel
theorem dX12_countries_19 : decode cX12_countries 19 = .ok (.lconst 0, 1) := by decide +kernel
theorem dX12_countries_20 : decode cX12_countries 20 = .ok (.lconst 1, 1) := by decide +kernel
theorem dX12_countries_21 : decode cX12_countries 21 = .ok (.invokestatic 80, 3) := by decide +kernel
theorem dX12_countries_24 : decode cX12_countries 24 = .ok (.ifCond .ne 5, 3) := by decide +kernel
theorem dX12_countries_27 : decode cX12_countries 27 = .ok (.iconst (-1), 1) := by decide +kernel
theorem dX12_countries_28 : decode cX12_countries 28 = .ok (.ireturn, 1) := by decide +kernel
theorem dX12_countries_29 : decode cX12_countries 29 = .ok (.aload_n 0, 1) := by decide +kernel
theorem dX12_countries_30 : decode cX12_countries 30 = .ok (.iload_n 2, 1) := by decide +kernel
theorem dX12_countries_31 : decode cX12_countries 31 = .ok (.putfield 293, 3) := by decide +kernel
theorem dX12_countries_34 : decode cX12_countries 34 = .ok (.iconst 0, 1) := by decide +kernel
theorem dX12_countries_35 : decode cX12_countries 35 = .ok (.istore 4, 2) := by decide +kernel
theorem dX12_countries_37 : decode cX12_countries 37 = .ok (.aload_n 0, 1) := by decide +kernel
theorem dX12_countries_38 : decode cX12_countries 38 = .ok (.invokevirtual 191, 3) := by decide +kernel
theorem dX12_countries_41 : decode cX12_countries 41 = .ok (.iconst 0, 1) := by decide +kernel
theorem dX12_countries_42 : decode cX12_countries 42 = .ok (.istore 5, 2) := by decide +kernel
theorem dX12_countries_44 : decode cX12_countries 44 = .ok (.iload 5, 2) := by decide +kernel
theorem dX12_countries_46 : decode cX12_countries 46 = .ok (.iload_n 1, 1) := by decide +kernel
theorem dX12_countries_47 : decode cX12_countries 47 = .ok (.if_icmp .ge 136, 3) := by decide +kernel
theorem dX12_countries_50 : decode cX12_countries 50 = .ok (.iconst 0, 1) := by decide +kernel
theorem dX12_countries_51 : decode cX12_countries 51 = .ok (.istore 6, 2) := by decide +kernel
theorem dX12_countries_53 : decode cX12_countries 53 = .ok (.iload 6, 2) := by decide +kernel
theorem dX12_countries_55 : decode cX12_countries 55 = .ok (.aload_n 0, 1) := by decide +kernel
theorem dX12_countries_56 : decode cX12_countries 56 = .ok (.getfield 84, 3) := by decide +kernel
theorem dX12_countries_59 : decode cX12_countries 59 = .ok (.if_icmp .ge 36, 3) := by decide +kernel
theorem dX12_countries_62 : decode cX12_countries 62 = .ok (.aload_n 0, 1) := by decide +kernel
theorem dX12_countries_63 : decode cX12_countries 63 = .ok (.getfield 22, 3) := by decide +kernel
theorem dX12_countries_66 : decode cX12_countries 66 = .ok (.iload 6, 2) := by decide +kernel
theorem dX12_countries_68 : decode cX12_countries 68 = .ok (.aload_n 0, 1) := by decide +kernel
theorem dX12_countries_69 : decode cX12_countries 69 = .ok (.bipush 15, 2) := by decide +kernel
theorem dX12_countries_71 : decode cX12_countries 71 = .ok (.invokevirtual 299, 3) := by decide +kernel
theorem dX12_countries_74 : decode cX12_countries 74 = .ok (.iastore, 1) := by decide +kernel
theorem dX12_countries_75 : decode cX12_countries 75 = .ok (.aload_n 0, 1) := by decide +kernel
theorem dX12_countries_76 : decode cX12_countries 76 = .ok (.getfield 25, 3) := by decide +kernel
theorem dX12_countries_79 : decode cX12_countries 79 = .ok (.iload 6, 2) := by decide +kernel
theorem dX12_countries_81 : decode cX12_countries 81 = .ok (.aload_n 0, 1) := by decide +kernel
theorem dX12_countries_82 : decode cX12_countries 82 = .ok (.iconst 3, 1) := by decide +kernel
theorem dX12_countries_83 : decode cX12_countries 83 = .ok (.invokevirtual 299, 3) := by decide +kernel
theorem dX12_countries_86 : decode cX12_countries 86 = .ok (.iconst 1, 1) := by decide +kernel
theorem dX12_countries_87 : decode cX12_countries 87 = .ok (.isub, 1) := by decide +kernel
theorem dX12_countries_88 : decode cX12_countries 88 = .ok (.iastore, 1) := by decide +kernel
theorem dX12_countries_89 : decode cX12_countries 89 = .ok (.iinc 6 1, 3) := by decide +kernel
theorem dX12_countries_92 : decode cX12_countries 92 = .ok (.goto (-39), 3) := by decide +kernel
theorem dX12_countries_95 : decode cX12_countries 95 = .ok (.aload_n 0, 1) := by decide +kernel
theorem dX12_countries_96 : decode cX12_countries 96 = .ok (.bipush 10, 2) := by decide +kernel
theorem dX12_countries_98 : decode cX12_countries 98 = .ok (.invokevirtual 168, 3) := by decide +kernel
theorem dX12_countries_101 : decode cX12_countries 101 = .ok (.iconst 0, 1) := by decide +kernel
theorem dX12_countries_102 : decode cX12_countries 102 = .ok (.istore 6, 2) := by decide +kernel
theorem dX12_countries_104 : decode cX12_countries 104 = .ok (.iload 6, 2) := by decide +kernel
theorem dX12_countries_106 : decode cX12_countries 106 = .ok (.aload_n 0, 1) := by decide +kernel
theorem dX12_countries_107 : decode cX12_countries 107 = .ok (.getfield 84, 3) := by decide +kernel
theorem dX12_countries_110 : decode cX12_countries 110 = .ok (.if_icmp .ge 46, 3) := by decide +kernel
theorem dX12_countries_113 : decode cX12_countries 113 = .ok (.iload_n 3, 1) := by decide +kernel
theorem dX12_countries_114 : decode cX12_countries 114 = .ok (.iconst 1, 1) := by decide +kernel
theorem dX12_countries_115 : decode cX12_countries 115 = .ok (.if_icmp .ne 41, 3) := by decide +kernel
theorem dX12_countries_118 : decode cX12_countries 118 = .ok (.iload 4, 2) := by decide +kernel
theorem dX12_countries_120 : decode cX12_countries 120 = .ok (.aload_n 0, 1) := by decide +kernel
theorem dX12_countries_121 : decode cX12_countries 121 = .ok (.getfield 22, 3) := by decide +kernel
theorem dX12_countries_124 : decode cX12_countries 124 = .ok (.iload 6, 2) := by decide +kernel
theorem dX12_countries_126 : decode cX12_countries 126 = .ok (.iaload, 1) := by decide +kernel
theorem dX12_countries_127 : decode cX12_countries 127 = .ok (.ifCond .eq 15, 3) := by decide +kernel
theorem dX12_countries_130 : decode cX12_countries 130 = .ok (.aload_n 0, 1) := by decide +kernel
theorem dX12_countries_131 : decode cX12_countries 131 = .ok (.getfield 22, 3) := by decide +kernel
theorem dX12_countries_134 : decode cX12_countries 134 = .ok (.iload 6, 2) := by decide +kernel
theorem dX12_countries_136 : decode cX12_countries 136 = .ok (.iaload, 1) := by decide +kernel
theorem dX12_countries_137 : decode cX12_countries 137 = .ok (.bipush 14, 2) := by decide +kernel
theorem dX12_countries_139 : decode cX12_countries 139 = .ok (.if_icmp .ne 7, 3) := by decide +kernel
theorem dX12_countries_142 : decode cX12_countries 142 = .ok (.iconst 1, 1) := by decide +kernel
theorem dX12_countries_143 : decode cX12_countries 143 = .ok (.goto 4, 3) := by decide +kernel
theorem dX12_countries_146 : decode cX12_countries 146 = .ok (.iconst 0, 1) := by decide +kernel
theorem dX12_countries_147 : decode cX12_countries 147 = .ok (.iadd, 1) := by decide +kernel
theorem dX12_countries_148 : decode cX12_countries 148 = .ok (.istore 4, 2) := by decide +kernel
theorem dX12_countries_150 : decode cX12_countries 150 = .ok (.iinc 6 1, 3) := by decide +kernel
theorem dX12_countries_153 : decode cX12_countries 153 = .ok (.goto (-49), 3) := by decide +kernel
theorem dX12_countries_156 : decode cX12_countries 156 = .ok (.iload 4, 2) := by decide +kernel
theorem dX12_countries_158 : decode cX12_countries 158 = .ok (.iload_n 3, 1) := by decide +kernel
theorem dX12_countries_159 : decode cX12_countries 159 = .ok (.ifCond .ne 10, 3) := by decide +kernel
theorem dX12_countries_162 : decode cX12_countries 162 = .ok (.aload_n 0, 1) := by decide +kernel
theorem dX12_countries_163 : decode cX12_countries 163 = .ok (.invokevirtual 231, 3) := by decide +kernel
theorem dX12_countries_166 : decode cX12_countries 166 = .ok (.goto 4, 3) := by decide +kernel
theorem dX12_countries_169 : decode cX12_countries 169 = .ok (.iconst 0, 1) := by decide +kernel
theorem dX12_countries_170 : decode cX12_countries 170 = .ok (.iadd, 1) := by decide +kernel
theorem dX12_countries_171 : decode cX12_countries 171 = .ok (.istore 4, 2) := by decide +kernel
theorem dX12_countries_173 : decode cX12_countries 173 = .ok (.aload_n 0, 1) := by decide +kernel
theorem dX12_countries_174 : decode cX12_countries 174 = .ok (.invokevirtual 197, 3) := by decide +kernel
theorem dX12_countries_177 : decode cX12_countries 177 = .ok (.iinc 5 1, 3) := by decide +kernel
theorem dX12_countries_180 : decode cX12_countries 180 = .ok (.goto (-136), 3) := by decide +kernel
theorem dX12_countries_183 : decode cX12_countries 183 = .ok (.iload 4, 2) := by decide +kernel
theorem dX12_countries_185 : decode cX12_countries 185 = .ok (.ireturn, 1) := by decide +kernel
theorem dX12_count_0 : decode cX12_count 0 = .ok (.aload_n 0, 1) := by decide +kernel
theorem dX12_count_1 : decode cX12_count 1 = .ok (.iconst 0, 1) := by decide +kernel
theorem dX12_count_2 : decode cX12_count 2 = .ok (.putfield 74, 3) := by decide +kernel
theorem dX12_count_5 : decode cX12_count 5 = .ok (.iconst 0, 1) := by decide +kernel
theorem dX12_count_6 : decode cX12_count 6 = .ok (.istore_n 2, 1) := by decide +kernel
theorem dX12_count_7 : decode cX12_count 7 = .ok (.iload_n 1, 1) := by decide +kernel
theorem dX12_count_8 : decode cX12_count 8 = .ok (.tableswitch 157 0 5 #[40, 45, 50, 75, 80, 117], 40) := by decide +kernel
theorem dX12_count_48 : decode cX12_count 48 = .ok (.aload_n 0, 1) := by decide +kernel
theorem dX12_count_49 : decode cX12_count 49 = .ok (.getfield 84, 3) := by decide +kernel
theorem dX12_count_52 : decode cX12_count 52 = .ok (.ireturn, 1) := by decide +kernel
theorem dX12_count_53 : decode cX12_count 53 = .ok (.aload_n 0, 1) := by decide +kernel
theorem dX12_count_54 : decode cX12_count 54 = .ok (.getfield 123, 3) := by decide +kernel
theorem dX12_count_57 : decode cX12_count 57 = .ok (.ireturn, 1) := by decide +kernel
theorem dX12_count_58 : decode cX12_count 58 = .ok (.iconst 0, 1) := by decide +kernel
theorem dX12_count_59 : decode cX12_count 59 = .ok (.istore_n 3, 1) := by decide +kernel
theorem dX12_count_60 : decode cX12_count 60 = .ok (.iload_n 3, 1) := by decide +kernel
theorem dX12_count_61 : decode cX12_count 61 = .ok (.bipush 15, 2) := by decide +kernel
theorem dX12_count_63 : decode cX12_count 63 = .ok (.if_icmp .ge 18, 3) := by decide +kernel
theorem dX12_count_66 : decode cX12_count 66 = .ok (.iload_n 2, 1) := by decide +kernel
theorem dX12_count_67 : decode cX12_count 67 = .ok (.aload_n 0, 1) := by decide +kernel
theorem dX12_count_68 : decode cX12_count 68 = .ok (.getfield 7, 3) := by decide +kernel
theorem dX12_count_71 : decode cX12_count 71 = .ok (.iload_n 3, 1) := by decide +kernel
theorem dX12_count_72 : decode cX12_count 72 = .ok (.iaload, 1) := by decide +kernel
theorem dX12_count_73 : decode cX12_count 73 = .ok (.iadd, 1) := by decide +kernel
theorem dX12_count_74 : decode cX12_count 74 = .ok (.istore_n 2, 1) := by decide +kernel
theorem dX12_count_75 : decode cX12_count 75 = .ok (.iinc 3 1, 3) := by decide +kernel
theorem dX12_count_78 : decode cX12_count 78 = .ok (.goto (-18), 3) := by decide +kernel
theorem dX12_count_81 : decode cX12_count 81 = .ok (.iload_n 2, 1) := by decide +kernel
theorem dX12_count_82 : decode cX12_count 82 = .ok (.ireturn, 1) := by decide +kernel
theorem dX12_count_83 : decode cX12_count 83 = .ok (.aload_n 0, 1) := by decide +kernel
theorem dX12_count_84 : decode cX12_count 84 = .ok (.invokevirtual 284, 3) := by decide +kernel
theorem dX12_count_87 : decode cX12_count 87 = .ok (.ireturn, 1) := by decide +kernel
theorem dX12_count_88 : decode cX12_count 88 = .ok (.iconst 0, 1) := by decide +kernel
theorem dX12_count_89 : decode cX12_count 89 = .ok (.istore_n 3, 1) := by decide +kernel
theorem dX12_count_90 : decode cX12_count 90 = .ok (.iload_n 3, 1) := by decide +kernel
theorem dX12_count_91 : decode cX12_count 91 = .ok (.aload_n 0, 1) := by decide +kernel
theorem dX12_count_92 : decode cX12_count 92 = .ok (.getfield 84, 3) := by decide +kernel
theorem dX12_count_95 : decode cX12_count 95 = .ok (.if_icmp .ge 28, 3) := by decide +kernel
theorem dX12_count_98 : decode cX12_count 98 = .ok (.iload_n 2, 1) := by decide +kernel
theorem dX12_count_99 : decode cX12_count 99 = .ok (.aload_n 0, 1) := by decide +kernel
theorem dX12_count_100 : decode cX12_count 100 = .ok (.getfield 25, 3) := by decide +kernel
theorem dX12_count_103 : decode cX12_count 103 = .ok (.iload_n 3, 1) := by decide +kernel
theorem dX12_count_104 : decode cX12_count 104 = .ok (.iaload, 1) := by decide +kernel
theorem dX12_count_105 : decode cX12_count 105 = .ok (.ifCond .eq 9, 3) := by decide +kernel
theorem dX12_count_108 : decode cX12_count 108 = .ok (.iconst 1, 1) := by decide +kernel
theorem dX12_count_109 : decode cX12_count 109 = .ok (.iload_n 3, 1) := by decide +kernel
theorem dX12_count_110 : decode cX12_count 110 = .ok (.ishl, 1) := by decide +kernel
theorem dX12_count_111 : decode cX12_count 111 = .ok (.goto 4, 3) := by decide +kernel
theorem dX12_count_114 : decode cX12_count 114 = .ok (.iconst 0, 1) := by decide +kernel
theorem dX12_count_115 : decode cX12_count 115 = .ok (.ior, 1) := by decide +kernel
theorem dX12_count_116 : decode cX12_count 116 = .ok (.istore_n 2, 1) := by decide +kernel
theorem dX12_count_117 : decode cX12_count 117 = .ok (.iinc 3 1, 3) := by decide +kernel
theorem dX12_count_120 : decode cX12_count 120 = .ok (.goto (-30), 3) := by decide +kernel
theorem dX12_count_123 : decode cX12_count 123 = .ok (.iload_n 2, 1) := by decide +kernel
theorem dX12_count_124 : decode cX12_count 124 = .ok (.ireturn, 1) := by decide +kernel
theorem dX12_count_125 : decode cX12_count 125 = .ok (.aload_n 0, 1) := by decide +kernel
theorem dX12_count_126 : decode cX12_count 126 = .ok (.invokevirtual 231, 3) := by decide +kernel
theorem dX12_count_129 : decode cX12_count 129 = .ok (.pop, 1) := by decide +kernel
theorem dX12_count_130 : decode cX12_count 130 = .ok (.iconst 0, 1) := by decide +kernel
theorem dX12_count_131 : decode cX12_count 131 = .ok (.istore_n 3, 1) := by decide +kernel
theorem dX12_count_132 : decode cX12_count 132 = .ok (.iload_n 3, 1) := by decide +kernel
theorem dX12_count_133 : decode cX12_count 133 = .ok (.bipush 15, 2) := by decide +kernel
theorem dX12_count_135 : decode cX12_count 135 = .ok (.if_icmp .ge 28, 3) := by decide +kernel
theorem dX12_count_138 : decode cX12_count 138 = .ok (.iload_n 2, 1) := by decide +kernel
theorem dX12_count_139 : decode cX12_count 139 = .ok (.aload_n 0, 1) := by decide +kernel
theorem dX12_count_140 : decode cX12_count 140 = .ok (.getfield 50, 3) := by decide +kernel
theorem dX12_count_143 : decode cX12_count 143 = .ok (.iload_n 3, 1) := by decide +kernel
theorem dX12_count_144 : decode cX12_count 144 = .ok (.iaload, 1) := by decide +kernel
theorem dX12_count_145 : decode cX12_count 145 = .ok (.ifCond .le 9, 3) := by decide +kernel
theorem dX12_count_148 : decode cX12_count 148 = .ok (.iconst 1, 1) := by decide +kernel
theorem dX12_count_149 : decode cX12_count 149 = .ok (.iload_n 3, 1) := by decide +kernel
theorem dX12_count_150 : decode cX12_count 150 = .ok (.ishl, 1) := by decide +kernel
theorem dX12_count_151 : decode cX12_count 151 = .ok (.goto 4, 3) := by decide +kernel
theorem dX12_count_154 : decode cX12_count 154 = .ok (.iconst 0, 1) := by decide +kernel
theorem dX12_count_155 : decode cX12_count 155 = .ok (.ior, 1) := by decide +kernel
theorem dX12_count_156 : decode cX12_count 156 = .ok (.istore_n 2, 1) := by decide +kernel
theorem dX12_count_157 : decode cX12_count 157 = .ok (.iinc 3 1, 3) := by decide +kernel
theorem dX12_count_160 : decode cX12_count 160 = .ok (.goto (-28), 3) := by decide +kernel
theorem dX12_count_163 : decode cX12_count 163 = .ok (.iload_n 2, 1) := by decide +kernel
theorem dX12_count_164 : decode cX12_count 164 = .ok (.ireturn, 1) := by decide +kernel
theorem dX12_count_165 : decode cX12_count 165 = .ok (.iconst (-1), 1) := by decide +kernel
theorem dX12_count_166 : decode cX12_count 166 = .ok (.ireturn, 1) := by decide +kernel
theorem dX12_keep_0 : decode cX12_keep 0 = .ok (.aload_n 0, 1) := by decide +kernel
theorem dX12_keep_1 : decode cX12_keep 1 = .ok (.iconst 0, 1) := by decide +kernel
theorem dX12_keep_2 : decode cX12_keep 2 = .ok (.putfield 74, 3) := by decide +kernel
theorem dX12_keep_5 : decode cX12_keep 5 = .ok (.iload_n 1, 1) := by decide +kernel
theorem dX12_keep_6 : decode cX12_keep 6 = .ok (.i2l, 1) := by decide +kernel
theorem dX12_keep_7 : decode cX12_keep 7 = .ok (.lconst 0, 1) := by decide +kernel
theorem dX12_keep_8 : decode cX12_keep 8 = .ok (.ldc2_w 222, 3) := by decide +kernel
theorem dX12_keep_11 : decode cX12_keep 11 = .ok (.invokestatic 80, 3) := by decide +kernel
theorem dX12_keep_14 : decode cX12_keep 14 = .ok (.ifCond .eq 43, 3) := by decide +kernel
theorem dX12_keep_17 : decode cX12_keep 17 = .ok (.iload_n 2, 1) := by decide +kernel
theorem dX12_keep_18 : decode cX12_keep 18 = .ok (.i2l, 1) := by decide +kernel
theorem dX12_keep_19 : decode cX12_keep 19 = .ok (.lconst 0, 1) := by decide +kernel
theorem dX12_keep_20 : decode cX12_keep 20 = .ok (.lconst 1, 1) := by decide +kernel
theorem dX12_keep_21 : decode cX12_keep 21 = .ok (.invokestatic 80, 3) := by decide +kernel
theorem dX12_keep_24 : decode cX12_keep 24 = .ok (.ifCond .eq 33, 3) := by decide +kernel
theorem dX12_keep_27 : decode cX12_keep 27 = .ok (.iload_n 2, 1) := by decide +kernel
theorem dX12_keep_28 : decode cX12_keep 28 = .ok (.iconst 1, 1) := by decide +kernel
theorem dX12_keep_29 : decode cX12_keep 29 = .ok (.if_icmp .ne 30, 3) := by decide +kernel
theorem dX12_keep_32 : decode cX12_keep 32 = .ok (.iload_n 3, 1) := by decide +kernel
theorem dX12_keep_33 : decode cX12_keep 33 = .ok (.i2l, 1) := by decide +kernel
theorem dX12_keep_34 : decode cX12_keep 34 = .ok (.lconst 0, 1) := by decide +kernel
theorem dX12_keep_35 : decode cX12_keep 35 = .ok (.ldc2_w 222, 3) := by decide +kernel
theorem dX12_keep_38 : decode cX12_keep 38 = .ok (.invokestatic 80, 3) := by decide +kernel
theorem dX12_keep_41 : decode cX12_keep 41 = .ok (.ifCond .eq 16, 3) := by decide +kernel
theorem dX12_keep_44 : decode cX12_keep 44 = .ok (.iload 4, 2) := by decide +kernel
theorem dX12_keep_46 : decode cX12_keep 46 = .ok (.i2l, 1) := by decide +kernel
theorem dX12_keep_47 : decode cX12_keep 47 = .ok (.lconst 0, 1) := by decide +kernel
theorem dX12_keep_48 : decode cX12_keep 48 = .ok (.ldc2_w 289, 3) := by decide +kernel
theorem dX12_keep_51 : decode cX12_keep 51 = .ok (.invokestatic 80, 3) := by decide +kernel
theorem dX12_keep_54 : decode cX12_keep 54 = .ok (.ifCond .ne 5, 3) := by decide +kernel
theorem dX12_keep_57 : decode cX12_keep 57 = .ok (.iconst (-1), 1) := by decide +kernel
theorem dX12_keep_58 : decode cX12_keep 58 = .ok (.ireturn, 1) := by decide +kernel
theorem dX12_keep_59 : decode cX12_keep 59 = .ok (.aload_n 0, 1) := by decide +kernel
theorem dX12_keep_60 : decode cX12_keep 60 = .ok (.getfield 28, 3) := by decide +kernel
theorem dX12_keep_63 : decode cX12_keep 63 = .ok (.iload_n 1, 1) := by decide +kernel
theorem dX12_keep_64 : decode cX12_keep 64 = .ok (.iload_n 2, 1) := by decide +kernel
theorem dX12_keep_65 : decode cX12_keep 65 = .ok (.iastore, 1) := by decide +kernel
theorem dX12_keep_66 : decode cX12_keep 66 = .ok (.aload_n 0, 1) := by decide +kernel
theorem dX12_keep_67 : decode cX12_keep 67 = .ok (.getfield 31, 3) := by decide +kernel
theorem dX12_keep_70 : decode cX12_keep 70 = .ok (.iload_n 1, 1) := by decide +kernel
theorem dX12_keep_71 : decode cX12_keep 71 = .ok (.iload_n 2, 1) := by decide +kernel
theorem dX12_keep_72 : decode cX12_keep 72 = .ok (.iconst 1, 1) := by decide +kernel
theorem dX12_keep_73 : decode cX12_keep 73 = .ok (.if_icmp .ne 7, 3) := by decide +kernel
theorem dX12_keep_76 : decode cX12_keep 76 = .ok (.iload_n 3, 1) := by decide +kernel
theorem dX12_keep_77 : decode cX12_keep 77 = .ok (.goto 4, 3) := by decide +kernel
theorem dX12_keep_80 : decode cX12_keep 80 = .ok (.iconst 0, 1) := by decide +kernel
theorem dX12_keep_81 : decode cX12_keep 81 = .ok (.iastore, 1) := by decide +kernel
theorem dX12_keep_82 : decode cX12_keep 82 = .ok (.aload_n 0, 1) := by decide +kernel
theorem dX12_keep_83 : decode cX12_keep 83 = .ok (.getfield 34, 3) := by decide +kernel
theorem dX12_keep_86 : decode cX12_keep 86 = .ok (.iload_n 1, 1) := by decide +kernel
theorem dX12_keep_87 : decode cX12_keep 87 = .ok (.iload_n 2, 1) := by decide +kernel
theorem dX12_keep_88 : decode cX12_keep 88 = .ok (.iconst 1, 1) := by decide +kernel
theorem dX12_keep_89 : decode cX12_keep 89 = .ok (.if_icmp .ne 8, 3) := by decide +kernel
theorem dX12_keep_92 : decode cX12_keep 92 = .ok (.iload 4, 2) := by decide +kernel
theorem dX12_keep_94 : decode cX12_keep 94 = .ok (.goto 4, 3) := by decide +kernel
theorem dX12_keep_97 : decode cX12_keep 97 = .ok (.iconst 0, 1) := by decide +kernel
theorem dX12_keep_98 : decode cX12_keep 98 = .ok (.iastore, 1) := by decide +kernel
theorem dX12_keep_99 : decode cX12_keep 99 = .ok (.iconst 0, 1) := by decide +kernel
theorem dX12_keep_100 : decode cX12_keep 100 = .ok (.ireturn, 1) := by decide +kernel
theorem dX12_wrongRow_0 : decode cX12_wrongRow 0 = .ok (.iload_n 1, 1) := by decide +kernel
theorem dX12_wrongRow_1 : decode cX12_wrongRow 1 = .ok (.i2l, 1) := by decide +kernel
theorem dX12_wrongRow_2 : decode cX12_wrongRow 2 = .ok (.lconst 0, 1) := by decide +kernel
theorem dX12_wrongRow_3 : decode cX12_wrongRow 3 = .ok (.ldc2_w 222, 3) := by decide +kernel
theorem dX12_wrongRow_6 : decode cX12_wrongRow 6 = .ok (.invokestatic 80, 3) := by decide +kernel
theorem dX12_wrongRow_9 : decode cX12_wrongRow 9 = .ok (.ifCond .ne 7, 3) := by decide +kernel
theorem dX12_wrongRow_12 : decode cX12_wrongRow 12 = .ok (.iconst (-1), 1) := by decide +kernel
theorem dX12_wrongRow_13 : decode cX12_wrongRow 13 = .ok (.goto 33, 3) := by decide +kernel
theorem dX12_wrongRow_16 : decode cX12_wrongRow 16 = .ok (.aload_n 0, 1) := by decide +kernel
theorem dX12_wrongRow_17 : decode cX12_wrongRow 17 = .ok (.getfield 28, 3) := by decide +kernel
theorem dX12_wrongRow_20 : decode cX12_wrongRow 20 = .ok (.iload_n 1, 1) := by decide +kernel
theorem dX12_wrongRow_21 : decode cX12_wrongRow 21 = .ok (.iaload, 1) := by decide +kernel
theorem dX12_wrongRow_22 : decode cX12_wrongRow 22 = .ok (.ifCond .ne 8, 3) := by decide +kernel
theorem dX12_wrongRow_25 : decode cX12_wrongRow 25 = .ok (.bipush (-11), 2) := by decide +kernel
theorem dX12_wrongRow_27 : decode cX12_wrongRow 27 = .ok (.goto 19, 3) := by decide +kernel
theorem dX12_wrongRow_30 : decode cX12_wrongRow 30 = .ok (.aload_n 0, 1) := by decide +kernel
theorem dX12_wrongRow_31 : decode cX12_wrongRow 31 = .ok (.getfield 28, 3) := by decide +kernel
theorem dX12_wrongRow_34 : decode cX12_wrongRow 34 = .ok (.iload_n 1, 1) := by decide +kernel
theorem dX12_wrongRow_35 : decode cX12_wrongRow 35 = .ok (.iaload, 1) := by decide +kernel
theorem dX12_wrongRow_36 : decode cX12_wrongRow 36 = .ok (.iconst 2, 1) := by decide +kernel
theorem dX12_wrongRow_37 : decode cX12_wrongRow 37 = .ok (.if_icmp .eq 8, 3) := by decide +kernel
theorem dX12_wrongRow_40 : decode cX12_wrongRow 40 = .ok (.bipush (-12), 2) := by decide +kernel
theorem dX12_wrongRow_42 : decode cX12_wrongRow 42 = .ok (.goto 4, 3) := by decide +kernel
theorem dX12_wrongRow_45 : decode cX12_wrongRow 45 = .ok (.iconst 0, 1) := by decide +kernel
theorem dX12_wrongRow_46 : decode cX12_wrongRow 46 = .ok (.ireturn, 1) := by decide +kernel
theorem dX12_narrowed_0 : decode cX12_narrowed 0 = .ok (.iload_n 1, 1) := by decide +kernel
theorem dX12_narrowed_1 : decode cX12_narrowed 1 = .ok (.ifCond .ne 9, 3) := by decide +kernel
theorem dX12_narrowed_4 : decode cX12_narrowed 4 = .ok (.iload_n 0, 1) := by decide +kernel
theorem dX12_narrowed_5 : decode cX12_narrowed 5 = .ok (.i2b, 1) := by decide +kernel
theorem dX12_narrowed_6 : decode cX12_narrowed 6 = .ok (.i2l, 1) := by decide +kernel
theorem dX12_narrowed_7 : decode cX12_narrowed 7 = .ok (.goto 16, 3) := by decide +kernel
theorem dX12_narrowed_10 : decode cX12_narrowed 10 = .ok (.iload_n 1, 1) := by decide +kernel
theorem dX12_narrowed_11 : decode cX12_narrowed 11 = .ok (.iconst 1, 1) := by decide +kernel
theorem dX12_narrowed_12 : decode cX12_narrowed 12 = .ok (.if_icmp .ne 9, 3) := by decide +kernel
theorem dX12_narrowed_15 : decode cX12_narrowed 15 = .ok (.iload_n 0, 1) := by decide +kernel
theorem dX12_narrowed_16 : decode cX12_narrowed 16 = .ok (.i2s, 1) := by decide +kernel
theorem dX12_narrowed_17 : decode cX12_narrowed 17 = .ok (.i2l, 1) := by decide +kernel
theorem dX12_narrowed_18 : decode cX12_narrowed 18 = .ok (.goto 5, 3) := by decide +kernel
theorem dX12_narrowed_21 : decode cX12_narrowed 21 = .ok (.iload_n 0, 1) := by decide +kernel
theorem dX12_narrowed_22 : decode cX12_narrowed 22 = .ok (.i2l, 1) := by decide +kernel
theorem dX12_narrowed_23 : decode cX12_narrowed 23 = .ok (.lreturn, 1) := by decide +kernel
theorem dX12_row_0 : decode cX12_row 0 = .ok (.aload_n 0, 1) := by decide +kernel
theorem dX12_row_1 : decode cX12_row 1 = .ok (.iconst 0, 1) := by decide +kernel
theorem dX12_row_2 : decode cX12_row 2 = .ok (.putfield 74, 3) := by decide +kernel
theorem dX12_row_5 : decode cX12_row 5 = .ok (.iload_n 1, 1) := by decide +kernel
theorem dX12_row_6 : decode cX12_row 6 = .ok (.i2l, 1) := by decide +kernel
theorem dX12_row_7 : decode cX12_row 7 = .ok (.lconst 0, 1) := by decide +kernel
theorem dX12_row_8 : decode cX12_row 8 = .ok (.ldc2_w 222, 3) := by decide +kernel
theorem dX12_row_11 : decode cX12_row 11 = .ok (.invokestatic 80, 3) := by decide +kernel
theorem dX12_row_14 : decode cX12_row 14 = .ok (.ifCond .eq 21, 3) := by decide +kernel
theorem dX12_row_17 : decode cX12_row 17 = .ok (.iload_n 2, 1) := by decide +kernel
theorem dX12_row_18 : decode cX12_row 18 = .ok (.i2l, 1) := by decide +kernel
theorem dX12_row_19 : decode cX12_row 19 = .ok (.lconst 0, 1) := by decide +kernel
theorem dX12_row_20 : decode cX12_row 20 = .ok (.ldc2_w 229, 3) := by decide +kernel
theorem dX12_row_23 : decode cX12_row 23 = .ok (.invokestatic 80, 3) := by decide +kernel
theorem dX12_row_26 : decode cX12_row 26 = .ok (.ifCond .eq 9, 3) := by decide +kernel
theorem dX12_row_29 : decode cX12_row 29 = .ok (.iload_n 3, 1) := by decide +kernel
theorem dX12_row_30 : decode cX12_row 30 = .ok (.bipush 100, 2) := by decide +kernel
theorem dX12_row_32 : decode cX12_row 32 = .ok (.if_icmp .le 5, 3) := by decide +kernel
theorem dX12_row_35 : decode cX12_row 35 = .ok (.iconst (-1), 1) := by decide +kernel
theorem dX12_row_36 : decode cX12_row 36 = .ok (.ireturn, 1) := by decide +kernel
theorem dX12_row_37 : decode cX12_row 37 = .ok (.iload_n 3, 1) := by decide +kernel
theorem dX12_row_38 : decode cX12_row 38 = .ok (.ifCond .ge 6, 3) := by decide +kernel
theorem dX12_row_41 : decode cX12_row 41 = .ok (.bipush (-14), 2) := by decide +kernel
theorem dX12_row_43 : decode cX12_row 43 = .ok (.ireturn, 1) := by decide +kernel
theorem dX12_row_44 : decode cX12_row 44 = .ok (.aload_n 0, 1) := by decide +kernel
theorem dX12_row_45 : decode cX12_row 45 = .ok (.getfield 28, 3) := by decide +kernel
theorem dX12_row_48 : decode cX12_row 48 = .ok (.iload_n 1, 1) := by decide +kernel
theorem dX12_row_49 : decode cX12_row 49 = .ok (.iconst 2, 1) := by decide +kernel
theorem dX12_row_50 : decode cX12_row 50 = .ok (.iastore, 1) := by decide +kernel
theorem dX12_row_51 : decode cX12_row 51 = .ok (.aload_n 0, 1) := by decide +kernel
theorem dX12_row_52 : decode cX12_row 52 = .ok (.getfield 37, 3) := by decide +kernel
theorem dX12_row_55 : decode cX12_row 55 = .ok (.iload_n 1, 1) := by decide +kernel
theorem dX12_row_56 : decode cX12_row 56 = .ok (.iload_n 2, 1) := by decide +kernel
theorem dX12_row_57 : decode cX12_row 57 = .ok (.iastore, 1) := by decide +kernel
theorem dX12_row_58 : decode cX12_row 58 = .ok (.aload_n 0, 1) := by decide +kernel
theorem dX12_row_59 : decode cX12_row 59 = .ok (.getfield 40, 3) := by decide +kernel
theorem dX12_row_62 : decode cX12_row 62 = .ok (.iload_n 1, 1) := by decide +kernel
theorem dX12_row_63 : decode cX12_row 63 = .ok (.iload_n 3, 1) := by decide +kernel
theorem dX12_row_64 : decode cX12_row 64 = .ok (.iastore, 1) := by decide +kernel
theorem dX12_row_65 : decode cX12_row 65 = .ok (.iconst 0, 1) := by decide +kernel
theorem dX12_row_66 : decode cX12_row 66 = .ok (.istore 4, 2) := by decide +kernel
theorem dX12_row_68 : decode cX12_row 68 = .ok (.iload 4, 2) := by decide +kernel
theorem dX12_row_70 : decode cX12_row 70 = .ok (.bipush 100, 2) := by decide +kernel
theorem dX12_row_72 : decode cX12_row 72 = .ok (.if_icmp .ge 22, 3) := by decide +kernel
theorem dX12_row_75 : decode cX12_row 75 = .ok (.aload_n 0, 1) := by decide +kernel
theorem dX12_row_76 : decode cX12_row 76 = .ok (.getfield 43, 3) := by decide +kernel
theorem dX12_row_79 : decode cX12_row 79 = .ok (.bipush 100, 2) := by decide +kernel
theorem dX12_row_81 : decode cX12_row 81 = .ok (.iload_n 1, 1) := by decide +kernel
theorem dX12_row_82 : decode cX12_row 82 = .ok (.imul, 1) := by decide +kernel
theorem dX12_row_83 : decode cX12_row 83 = .ok (.iload 4, 2) := by decide +kernel
theorem dX12_row_85 : decode cX12_row 85 = .ok (.iadd, 1) := by decide +kernel
theorem dX12_row_86 : decode cX12_row 86 = .ok (.lconst 0, 1) := by decide +kernel
theorem dX12_row_87 : decode cX12_row 87 = .ok (.lastore, 1) := by decide +kernel
theorem dX12_row_88 : decode cX12_row 88 = .ok (.iinc 4 1, 3) := by decide +kernel
theorem dX12_row_91 : decode cX12_row 91 = .ok (.goto (-23), 3) := by decide +kernel
theorem dX12_row_94 : decode cX12_row 94 = .ok (.iconst 0, 1) := by decide +kernel
theorem dX12_row_95 : decode cX12_row 95 = .ok (.ireturn, 1) := by decide +kernel
theorem dX12_put_0 : decode cX12_put 0 = .ok (.aload_n 0, 1) := by decide +kernel
theorem dX12_put_1 : decode cX12_put 1 = .ok (.iconst 0, 1) := by decide +kernel
theorem dX12_put_2 : decode cX12_put 2 = .ok (.putfield 74, 3) := by decide +kernel
theorem dX12_put_5 : decode cX12_put 5 = .ok (.aload_n 0, 1) := by decide +kernel
theorem dX12_put_6 : decode cX12_put 6 = .ok (.iload_n 1, 1) := by decide +kernel
theorem dX12_put_7 : decode cX12_put 7 = .ok (.invokevirtual 185, 3) := by decide +kernel
theorem dX12_put_10 : decode cX12_put 10 = .ok (.istore 4, 2) := by decide +kernel
theorem dX12_put_12 : decode cX12_put 12 = .ok (.iload 4, 2) := by decide +kernel
theorem dX12_put_14 : decode cX12_put 14 = .ok (.ifCond .ge 6, 3) := by decide +kernel
theorem dX12_put_17 : decode cX12_put 17 = .ok (.iload 4, 2) := by decide +kernel
theorem dX12_put_19 : decode cX12_put 19 = .ok (.ireturn, 1) := by decide +kernel
theorem dX12_put_20 : decode cX12_put 20 = .ok (.iload_n 2, 1) := by decide +kernel
theorem dX12_put_21 : decode cX12_put 21 = .ok (.i2l, 1) := by decide +kernel
theorem dX12_put_22 : decode cX12_put 22 = .ok (.lconst 0, 1) := by decide +kernel
theorem dX12_put_23 : decode cX12_put 23 = .ok (.aload_n 0, 1) := by decide +kernel
theorem dX12_put_24 : decode cX12_put 24 = .ok (.getfield 40, 3) := by decide +kernel
theorem dX12_put_27 : decode cX12_put 27 = .ok (.iload_n 1, 1) := by decide +kernel
theorem dX12_put_28 : decode cX12_put 28 = .ok (.iaload, 1) := by decide +kernel
theorem dX12_put_29 : decode cX12_put 29 = .ok (.iconst 1, 1) := by decide +kernel
theorem dX12_put_30 : decode cX12_put 30 = .ok (.isub, 1) := by decide +kernel
theorem dX12_put_31 : decode cX12_put 31 = .ok (.i2l, 1) := by decide +kernel
theorem dX12_put_32 : decode cX12_put 32 = .ok (.invokestatic 80, 3) := by decide +kernel
theorem dX12_put_35 : decode cX12_put 35 = .ok (.ifCond .ne 6, 3) := by decide +kernel
theorem dX12_put_38 : decode cX12_put 38 = .ok (.bipush (-13), 2) := by decide +kernel
theorem dX12_put_40 : decode cX12_put 40 = .ok (.ireturn, 1) := by decide +kernel
theorem dX12_put_41 : decode cX12_put 41 = .ok (.aload_n 0, 1) := by decide +kernel
theorem dX12_put_42 : decode cX12_put 42 = .ok (.getfield 43, 3) := by decide +kernel
theorem dX12_put_45 : decode cX12_put 45 = .ok (.bipush 100, 2) := by decide +kernel
theorem dX12_put_47 : decode cX12_put 47 = .ok (.iload_n 1, 1) := by decide +kernel
theorem dX12_put_48 : decode cX12_put 48 = .ok (.imul, 1) := by decide +kernel
theorem dX12_put_49 : decode cX12_put 49 = .ok (.iload_n 2, 1) := by decide +kernel
theorem dX12_put_50 : decode cX12_put 50 = .ok (.iadd, 1) := by decide +kernel
theorem dX12_put_51 : decode cX12_put 51 = .ok (.iload_n 3, 1) := by decide +kernel
theorem dX12_put_52 : decode cX12_put 52 = .ok (.aload_n 0, 1) := by decide +kernel
theorem dX12_put_53 : decode cX12_put 53 = .ok (.getfield 37, 3) := by decide +kernel
theorem dX12_put_56 : decode cX12_put 56 = .ok (.iload_n 1, 1) := by decide +kernel
theorem dX12_put_57 : decode cX12_put 57 = .ok (.iaload, 1) := by decide +kernel
theorem dX12_put_58 : decode cX12_put 58 = .ok (.invokestatic 302, 3) := by decide +kernel
theorem dX12_put_61 : decode cX12_put 61 = .ok (.lastore, 1) := by decide +kernel
theorem dX12_put_62 : decode cX12_put 62 = .ok (.iconst 0, 1) := by decide +kernel
theorem dX12_put_63 : decode cX12_put 63 = .ok (.ireturn, 1) := by decide +kernel
theorem dX12_element_0 : decode cX12_element 0 = .ok (.aload_n 0, 1) := by decide +kernel
theorem dX12_element_1 : decode cX12_element 1 = .ok (.iload_n 1, 1) := by decide +kernel
theorem dX12_element_2 : decode cX12_element 2 = .ok (.invokevirtual 185, 3) := by decide +kernel
theorem dX12_element_5 : decode cX12_element 5 = .ok (.istore_n 3, 1) := by decide +kernel
theorem dX12_element_6 : decode cX12_element 6 = .ok (.aload_n 0, 1) := by decide +kernel
theorem dX12_element_7 : decode cX12_element 7 = .ok (.iload_n 3, 1) := by decide +kernel
theorem dX12_element_8 : decode cX12_element 8 = .ok (.iconst (-1), 1) := by decide +kernel
theorem dX12_element_9 : decode cX12_element 9 = .ok (.if_icmp .ne 7, 3) := by decide +kernel
theorem dX12_element_12 : decode cX12_element 12 = .ok (.iconst 1, 1) := by decide +kernel
theorem dX12_element_13 : decode cX12_element 13 = .ok (.goto 30, 3) := by decide +kernel
theorem dX12_element_16 : decode cX12_element 16 = .ok (.iload_n 3, 1) := by decide +kernel
theorem dX12_element_17 : decode cX12_element 17 = .ok (.ifCond .lt 21, 3) := by decide +kernel
theorem dX12_element_20 : decode cX12_element 20 = .ok (.iload_n 2, 1) := by decide +kernel
theorem dX12_element_21 : decode cX12_element 21 = .ok (.i2l, 1) := by decide +kernel
theorem dX12_element_22 : decode cX12_element 22 = .ok (.lconst 0, 1) := by decide +kernel
theorem dX12_element_23 : decode cX12_element 23 = .ok (.aload_n 0, 1) := by decide +kernel
theorem dX12_element_24 : decode cX12_element 24 = .ok (.getfield 40, 3) := by decide +kernel
theorem dX12_element_27 : decode cX12_element 27 = .ok (.iload_n 1, 1) := by decide +kernel
theorem dX12_element_28 : decode cX12_element 28 = .ok (.iaload, 1) := by decide +kernel
theorem dX12_element_29 : decode cX12_element 29 = .ok (.iconst 1, 1) := by decide +kernel
theorem dX12_element_30 : decode cX12_element 30 = .ok (.isub, 1) := by decide +kernel
theorem dX12_element_31 : decode cX12_element 31 = .ok (.i2l, 1) := by decide +kernel
theorem dX12_element_32 : decode cX12_element 32 = .ok (.invokestatic 80, 3) := by decide +kernel
theorem dX12_element_35 : decode cX12_element 35 = .ok (.ifCond .ne 7, 3) := by decide +kernel
theorem dX12_element_38 : decode cX12_element 38 = .ok (.iconst 2, 1) := by decide +kernel
theorem dX12_element_39 : decode cX12_element 39 = .ok (.goto 4, 3) := by decide +kernel
theorem dX12_element_42 : decode cX12_element 42 = .ok (.iconst 0, 1) := by decide +kernel
theorem dX12_element_43 : decode cX12_element 43 = .ok (.putfield 74, 3) := by decide +kernel
theorem dX12_element_46 : decode cX12_element 46 = .ok (.aload_n 0, 1) := by decide +kernel
theorem dX12_element_47 : decode cX12_element 47 = .ok (.getfield 74, 3) := by decide +kernel
theorem dX12_element_50 : decode cX12_element 50 = .ok (.ifCond .le 7, 3) := by decide +kernel
theorem dX12_element_53 : decode cX12_element 53 = .ok (.lconst 0, 1) := by decide +kernel
theorem dX12_element_54 : decode cX12_element 54 = .ok (.goto 14, 3) := by decide +kernel
theorem dX12_element_57 : decode cX12_element 57 = .ok (.aload_n 0, 1) := by decide +kernel
theorem dX12_element_58 : decode cX12_element 58 = .ok (.getfield 43, 3) := by decide +kernel
theorem dX12_element_61 : decode cX12_element 61 = .ok (.bipush 100, 2) := by decide +kernel
theorem dX12_element_63 : decode cX12_element 63 = .ok (.iload_n 1, 1) := by decide +kernel
theorem dX12_element_64 : decode cX12_element 64 = .ok (.imul, 1) := by decide +kernel
theorem dX12_element_65 : decode cX12_element 65 = .ok (.iload_n 2, 1) := by decide +kernel
theorem dX12_element_66 : decode cX12_element 66 = .ok (.iadd, 1) := by decide +kernel
theorem dX12_element_67 : decode cX12_element 67 = .ok (.laload, 1) := by decide +kernel
theorem dX12_element_68 : decode cX12_element 68 = .ok (.lreturn, 1) := by decide +kernel
theorem dX12_copy_0 : decode cX12_copy 0 = .ok (.aload_n 0, 1) := by decide +kernel
theorem dX12_copy_1 : decode cX12_copy 1 = .ok (.iconst 0, 1) := by decide +kernel
theorem dX12_copy_2 : decode cX12_copy 2 = .ok (.putfield 74, 3) := by decide +kernel
theorem dX12_copy_5 : decode cX12_copy 5 = .ok (.iload_n 1, 1) := by decide +kernel
theorem dX12_copy_6 : decode cX12_copy 6 = .ok (.i2l, 1) := by decide +kernel
theorem dX12_copy_7 : decode cX12_copy 7 = .ok (.lconst 0, 1) := by decide +kernel
theorem dX12_copy_8 : decode cX12_copy 8 = .ok (.ldc2_w 222, 3) := by decide +kernel
theorem dX12_copy_11 : decode cX12_copy 11 = .ok (.invokestatic 80, 3) := by decide +kernel
theorem dX12_copy_14 : decode cX12_copy 14 = .ok (.ifCond .eq 15, 3) := by decide +kernel
theorem dX12_copy_17 : decode cX12_copy 17 = .ok (.iload_n 3, 1) := by decide +kernel
theorem dX12_copy_18 : decode cX12_copy 18 = .ok (.i2l, 1) := by decide +kernel
theorem dX12_copy_19 : decode cX12_copy 19 = .ok (.lconst 0, 1) := by decide +kernel
theorem dX12_copy_20 : decode cX12_copy 20 = .ok (.ldc2_w 222, 3) := by decide +kernel
theorem dX12_copy_23 : decode cX12_copy 23 = .ok (.invokestatic 80, 3) := by decide +kernel
theorem dX12_copy_26 : decode cX12_copy 26 = .ok (.ifCond .ne 5, 3) := by decide +kernel
theorem dX12_copy_29 : decode cX12_copy 29 = .ok (.iconst (-1), 1) := by decide +kernel
theorem dX12_copy_30 : decode cX12_copy 30 = .ok (.ireturn, 1) := by decide +kernel
theorem dX12_copy_31 : decode cX12_copy 31 = .ok (.aload_n 0, 1) := by decide +kernel
theorem dX12_copy_32 : decode cX12_copy 32 = .ok (.getfield 28, 3) := by decide +kernel
theorem dX12_copy_35 : decode cX12_copy 35 = .ok (.iload_n 1, 1) := by decide +kernel
theorem dX12_copy_36 : decode cX12_copy 36 = .ok (.iaload, 1) := by decide +kernel
theorem dX12_copy_37 : decode cX12_copy 37 = .ok (.ifCond .eq 12, 3) := by decide +kernel
theorem dX12_copy_40 : decode cX12_copy 40 = .ok (.aload_n 0, 1) := by decide +kernel
theorem dX12_copy_41 : decode cX12_copy 41 = .ok (.getfield 28, 3) := by decide +kernel
theorem dX12_copy_44 : decode cX12_copy 44 = .ok (.iload_n 3, 1) := by decide +kernel
theorem dX12_copy_45 : decode cX12_copy 45 = .ok (.iaload, 1) := by decide +kernel
theorem dX12_copy_46 : decode cX12_copy 46 = .ok (.ifCond .ne 6, 3) := by decide +kernel
theorem dX12_copy_49 : decode cX12_copy 49 = .ok (.bipush (-11), 2) := by decide +kernel
theorem dX12_copy_51 : decode cX12_copy 51 = .ok (.ireturn, 1) := by decide +kernel
theorem dX12_copy_52 : decode cX12_copy 52 = .ok (.aload_n 0, 1) := by decide +kernel
theorem dX12_copy_53 : decode cX12_copy 53 = .ok (.getfield 28, 3) := by decide +kernel
theorem dX12_copy_56 : decode cX12_copy 56 = .ok (.iload_n 1, 1) := by decide +kernel
theorem dX12_copy_57 : decode cX12_copy 57 = .ok (.iaload, 1) := by decide +kernel
theorem dX12_copy_58 : decode cX12_copy 58 = .ok (.iconst 2, 1) := by decide +kernel
theorem dX12_copy_59 : decode cX12_copy 59 = .ok (.if_icmp .ne 28, 3) := by decide +kernel
theorem dX12_copy_62 : decode cX12_copy 62 = .ok (.aload_n 0, 1) := by decide +kernel
theorem dX12_copy_63 : decode cX12_copy 63 = .ok (.getfield 28, 3) := by decide +kernel
theorem dX12_copy_66 : decode cX12_copy 66 = .ok (.iload_n 3, 1) := by decide +kernel
theorem dX12_copy_67 : decode cX12_copy 67 = .ok (.iaload, 1) := by decide +kernel
theorem dX12_copy_68 : decode cX12_copy 68 = .ok (.iconst 2, 1) := by decide +kernel
theorem dX12_copy_69 : decode cX12_copy 69 = .ok (.if_icmp .ne 18, 3) := by decide +kernel
theorem dX12_copy_72 : decode cX12_copy 72 = .ok (.aload_n 0, 1) := by decide +kernel
theorem dX12_copy_73 : decode cX12_copy 73 = .ok (.getfield 37, 3) := by decide +kernel
theorem dX12_copy_76 : decode cX12_copy 76 = .ok (.iload_n 1, 1) := by decide +kernel
theorem dX12_copy_77 : decode cX12_copy 77 = .ok (.iaload, 1) := by decide +kernel
theorem dX12_copy_78 : decode cX12_copy 78 = .ok (.aload_n 0, 1) := by decide +kernel
theorem dX12_copy_79 : decode cX12_copy 79 = .ok (.getfield 37, 3) := by decide +kernel
theorem dX12_copy_82 : decode cX12_copy 82 = .ok (.iload_n 3, 1) := by decide +kernel
theorem dX12_copy_83 : decode cX12_copy 83 = .ok (.iaload, 1) := by decide +kernel
theorem dX12_copy_84 : decode cX12_copy 84 = .ok (.if_icmp .eq 6, 3) := by decide +kernel
theorem dX12_copy_87 : decode cX12_copy 87 = .ok (.bipush (-12), 2) := by decide +kernel
theorem dX12_copy_89 : decode cX12_copy 89 = .ok (.ireturn, 1) := by decide +kernel
theorem dX12_copy_90 : decode cX12_copy 90 = .ok (.iload 5, 2) := by decide +kernel
theorem dX12_copy_92 : decode cX12_copy 92 = .ok (.ifCond .lt 39, 3) := by decide +kernel
theorem dX12_copy_95 : decode cX12_copy 95 = .ok (.iload_n 2, 1) := by decide +kernel
theorem dX12_copy_96 : decode cX12_copy 96 = .ok (.ifCond .lt 35, 3) := by decide +kernel
theorem dX12_copy_99 : decode cX12_copy 99 = .ok (.iload 4, 2) := by decide +kernel
theorem dX12_copy_101 : decode cX12_copy 101 = .ok (.ifCond .lt 30, 3) := by decide +kernel
theorem dX12_copy_104 : decode cX12_copy 104 = .ok (.iload_n 2, 1) := by decide +kernel
theorem dX12_copy_105 : decode cX12_copy 105 = .ok (.aload_n 0, 1) := by decide +kernel
theorem dX12_copy_106 : decode cX12_copy 106 = .ok (.getfield 40, 3) := by decide +kernel
theorem dX12_copy_109 : decode cX12_copy 109 = .ok (.iload_n 1, 1) := by decide +kernel
theorem dX12_copy_110 : decode cX12_copy 110 = .ok (.iaload, 1) := by decide +kernel
theorem dX12_copy_111 : decode cX12_copy 111 = .ok (.iload 5, 2) := by decide +kernel
theorem dX12_copy_113 : decode cX12_copy 113 = .ok (.isub, 1) := by decide +kernel
theorem dX12_copy_114 : decode cX12_copy 114 = .ok (.if_icmp .gt 17, 3) := by decide +kernel
theorem dX12_copy_117 : decode cX12_copy 117 = .ok (.iload 4, 2) := by decide +kernel
theorem dX12_copy_119 : decode cX12_copy 119 = .ok (.aload_n 0, 1) := by decide +kernel
theorem dX12_copy_120 : decode cX12_copy 120 = .ok (.getfield 40, 3) := by decide +kernel
theorem dX12_copy_123 : decode cX12_copy 123 = .ok (.iload_n 3, 1) := by decide +kernel
theorem dX12_copy_124 : decode cX12_copy 124 = .ok (.iaload, 1) := by decide +kernel
theorem dX12_copy_125 : decode cX12_copy 125 = .ok (.iload 5, 2) := by decide +kernel
theorem dX12_copy_127 : decode cX12_copy 127 = .ok (.isub, 1) := by decide +kernel
theorem dX12_copy_128 : decode cX12_copy 128 = .ok (.if_icmp .le 6, 3) := by decide +kernel
theorem dX12_copy_131 : decode cX12_copy 131 = .ok (.bipush (-13), 2) := by decide +kernel
theorem dX12_copy_133 : decode cX12_copy 133 = .ok (.ireturn, 1) := by decide +kernel
theorem dX12_copy_134 : decode cX12_copy 134 = .ok (.iconst 0, 1) := by decide +kernel
theorem dX12_copy_135 : decode cX12_copy 135 = .ok (.istore 6, 2) := by decide +kernel
theorem dX12_copy_137 : decode cX12_copy 137 = .ok (.iload 6, 2) := by decide +kernel
theorem dX12_copy_139 : decode cX12_copy 139 = .ok (.iload 5, 2) := by decide +kernel
theorem dX12_copy_141 : decode cX12_copy 141 = .ok (.if_icmp .ge 30, 3) := by decide +kernel
theorem dX12_copy_144 : decode cX12_copy 144 = .ok (.aload_n 0, 1) := by decide +kernel
theorem dX12_copy_145 : decode cX12_copy 145 = .ok (.getfield 71, 3) := by decide +kernel
theorem dX12_copy_148 : decode cX12_copy 148 = .ok (.iload 6, 2) := by decide +kernel
theorem dX12_copy_150 : decode cX12_copy 150 = .ok (.aload_n 0, 1) := by decide +kernel
theorem dX12_copy_151 : decode cX12_copy 151 = .ok (.getfield 43, 3) := by decide +kernel
theorem dX12_copy_154 : decode cX12_copy 154 = .ok (.bipush 100, 2) := by decide +kernel
theorem dX12_copy_156 : decode cX12_copy 156 = .ok (.iload_n 1, 1) := by decide +kernel
theorem dX12_copy_157 : decode cX12_copy 157 = .ok (.imul, 1) := by decide +kernel
theorem dX12_copy_158 : decode cX12_copy 158 = .ok (.iload_n 2, 1) := by decide +kernel
theorem dX12_copy_159 : decode cX12_copy 159 = .ok (.iadd, 1) := by decide +kernel
theorem dX12_copy_160 : decode cX12_copy 160 = .ok (.iload 6, 2) := by decide +kernel
theorem dX12_copy_162 : decode cX12_copy 162 = .ok (.iadd, 1) := by decide +kernel
theorem dX12_copy_163 : decode cX12_copy 163 = .ok (.laload, 1) := by decide +kernel
theorem dX12_copy_164 : decode cX12_copy 164 = .ok (.lastore, 1) := by decide +kernel
theorem dX12_copy_165 : decode cX12_copy 165 = .ok (.iinc 6 1, 3) := by decide +kernel
theorem dX12_copy_168 : decode cX12_copy 168 = .ok (.goto (-31), 3) := by decide +kernel
theorem dX12_copy_171 : decode cX12_copy 171 = .ok (.iconst 0, 1) := by decide +kernel
theorem dX12_copy_172 : decode cX12_copy 172 = .ok (.istore 6, 2) := by decide +kernel
theorem dX12_copy_174 : decode cX12_copy 174 = .ok (.iload 6, 2) := by decide +kernel
theorem dX12_copy_176 : decode cX12_copy 176 = .ok (.iload 5, 2) := by decide +kernel
theorem dX12_copy_178 : decode cX12_copy 178 = .ok (.if_icmp .ge 31, 3) := by decide +kernel
theorem dX12_copy_181 : decode cX12_copy 181 = .ok (.aload_n 0, 1) := by decide +kernel
theorem dX12_copy_182 : decode cX12_copy 182 = .ok (.getfield 43, 3) := by decide +kernel
theorem dX12_copy_185 : decode cX12_copy 185 = .ok (.bipush 100, 2) := by decide +kernel
theorem dX12_copy_187 : decode cX12_copy 187 = .ok (.iload_n 3, 1) := by decide +kernel
theorem dX12_copy_188 : decode cX12_copy 188 = .ok (.imul, 1) := by decide +kernel
theorem dX12_copy_189 : decode cX12_copy 189 = .ok (.iload 4, 2) := by decide +kernel
theorem dX12_copy_191 : decode cX12_copy 191 = .ok (.iadd, 1) := by decide +kernel
theorem dX12_copy_192 : decode cX12_copy 192 = .ok (.iload 6, 2) := by decide +kernel
theorem dX12_copy_194 : decode cX12_copy 194 = .ok (.iadd, 1) := by decide +kernel
theorem dX12_copy_195 : decode cX12_copy 195 = .ok (.aload_n 0, 1) := by decide +kernel
theorem dX12_copy_196 : decode cX12_copy 196 = .ok (.getfield 71, 3) := by decide +kernel
theorem dX12_copy_199 : decode cX12_copy 199 = .ok (.iload 6, 2) := by decide +kernel
theorem dX12_copy_201 : decode cX12_copy 201 = .ok (.laload, 1) := by decide +kernel
theorem dX12_copy_202 : decode cX12_copy 202 = .ok (.lastore, 1) := by decide +kernel
theorem dX12_copy_203 : decode cX12_copy 203 = .ok (.iinc 6 1, 3) := by decide +kernel
theorem dX12_copy_206 : decode cX12_copy 206 = .ok (.goto (-32), 3) := by decide +kernel
theorem dX12_copy_209 : decode cX12_copy 209 = .ok (.iload 5, 2) := by decide +kernel
theorem dX12_copy_211 : decode cX12_copy 211 = .ok (.ireturn, 1) := by decide +kernel
theorem dX12_costOf_0 : decode cX12_costOf 0 = .ok (.iload_n 0, 1) := by decide +kernel
theorem dX12_costOf_1 : decode cX12_costOf 1 = .ok (.tableswitch 60 1 7 #[43, 47, 49, 51, 54, 47, 43], 43) := by decide +kernel
theorem dX12_costOf_44 : decode cX12_costOf 44 = .ok (.iconst 3, 1) := by decide +kernel
theorem dX12_costOf_45 : decode cX12_costOf 45 = .ok (.iload_n 1, 1) := by decide +kernel
theorem dX12_costOf_46 : decode cX12_costOf 46 = .ok (.iadd, 1) := by decide +kernel
theorem dX12_costOf_47 : decode cX12_costOf 47 = .ok (.ireturn, 1) := by decide +kernel
theorem dX12_costOf_48 : decode cX12_costOf 48 = .ok (.iconst 2, 1) := by decide +kernel
theorem dX12_costOf_49 : decode cX12_costOf 49 = .ok (.ireturn, 1) := by decide +kernel
theorem dX12_costOf_50 : decode cX12_costOf 50 = .ok (.iconst 0, 1) := by decide +kernel
theorem dX12_costOf_51 : decode cX12_costOf 51 = .ok (.ireturn, 1) := by decide +kernel
theorem dX12_costOf_52 : decode cX12_costOf 52 = .ok (.bipush 9, 2) := by decide +kernel
theorem dX12_costOf_54 : decode cX12_costOf 54 = .ok (.ireturn, 1) := by decide +kernel
theorem dX12_costOf_55 : decode cX12_costOf 55 = .ok (.iconst 2, 1) := by decide +kernel
theorem dX12_costOf_56 : decode cX12_costOf 56 = .ok (.iconst 3, 1) := by decide +kernel
theorem dX12_costOf_57 : decode cX12_costOf 57 = .ok (.iload_n 1, 1) := by decide +kernel
theorem dX12_costOf_58 : decode cX12_costOf 58 = .ok (.iadd, 1) := by decide +kernel
theorem dX12_costOf_59 : decode cX12_costOf 59 = .ok (.imul, 1) := by decide +kernel
theorem dX12_costOf_60 : decode cX12_costOf 60 = .ok (.ireturn, 1) := by decide +kernel
theorem dX12_costOf_61 : decode cX12_costOf 61 = .ok (.iconst 3, 1) := by decide +kernel
theorem dX12_costOf_62 : decode cX12_costOf 62 = .ok (.ireturn, 1) := by decide +kernel
theorem dX12_cost_0 : decode cX12_cost 0 = .ok (.aload_n 0, 1) := by decide +kernel
theorem dX12_cost_1 : decode cX12_cost 1 = .ok (.iconst 0, 1) := by decide +kernel
theorem dX12_cost_2 : decode cX12_cost 2 = .ok (.putfield 74, 3) := by decide +kernel
theorem dX12_cost_5 : decode cX12_cost 5 = .ok (.aload_n 0, 1) := by decide +kernel
theorem dX12_cost_6 : decode cX12_cost 6 = .ok (.iload_n 1, 1) := by decide +kernel
theorem dX12_cost_7 : decode cX12_cost 7 = .ok (.invokevirtual 224, 3) := by decide +kernel
theorem dX12_cost_10 : decode cX12_cost 10 = .ok (.ifCond .ge 11, 3) := by decide +kernel
theorem dX12_cost_13 : decode cX12_cost 13 = .ok (.aload_n 0, 1) := by decide +kernel
theorem dX12_cost_14 : decode cX12_cost 14 = .ok (.iload_n 1, 1) := by decide +kernel
theorem dX12_cost_15 : decode cX12_cost 15 = .ok (.invokevirtual 224, 3) := by decide +kernel
theorem dX12_cost_18 : decode cX12_cost 18 = .ok (.goto 18, 3) := by decide +kernel
theorem dX12_cost_21 : decode cX12_cost 21 = .ok (.aload_n 0, 1) := by decide +kernel
theorem dX12_cost_22 : decode cX12_cost 22 = .ok (.getfield 31, 3) := by decide +kernel
theorem dX12_cost_25 : decode cX12_cost 25 = .ok (.iload_n 1, 1) := by decide +kernel
theorem dX12_cost_26 : decode cX12_cost 26 = .ok (.iaload, 1) := by decide +kernel
theorem dX12_cost_27 : decode cX12_cost 27 = .ok (.aload_n 0, 1) := by decide +kernel
theorem dX12_cost_28 : decode cX12_cost 28 = .ok (.getfield 34, 3) := by decide +kernel
theorem dX12_cost_31 : decode cX12_cost 31 = .ok (.iload_n 1, 1) := by decide +kernel
theorem dX12_cost_32 : decode cX12_cost 32 = .ok (.iaload, 1) := by decide +kernel
theorem dX12_cost_33 : decode cX12_cost 33 = .ok (.invokestatic 306, 3) := by decide +kernel
theorem dX12_cost_36 : decode cX12_cost 36 = .ok (.ireturn, 1) := by decide +kernel
theorem dX12_toss_0 : decode cX12_toss 0 = .ok (.aload_n 0, 1) := by decide +kernel
theorem dX12_toss_1 : decode cX12_toss 1 = .ok (.iconst 0, 1) := by decide +kernel
theorem dX12_toss_2 : decode cX12_toss 2 = .ok (.putfield 74, 3) := by decide +kernel
theorem dX12_toss_5 : decode cX12_toss 5 = .ok (.aload_n 0, 1) := by decide +kernel
theorem dX12_toss_6 : decode cX12_toss 6 = .ok (.iload_n 1, 1) := by decide +kernel
theorem dX12_toss_7 : decode cX12_toss 7 = .ok (.invokevirtual 224, 3) := by decide +kernel
theorem dX12_toss_10 : decode cX12_toss 10 = .ok (.ifCond .ge 9, 3) := by decide +kernel
theorem dX12_toss_13 : decode cX12_toss 13 = .ok (.aload_n 0, 1) := by decide +kernel
theorem dX12_toss_14 : decode cX12_toss 14 = .ok (.iload_n 1, 1) := by decide +kernel
theorem dX12_toss_15 : decode cX12_toss 15 = .ok (.invokevirtual 224, 3) := by decide +kernel
theorem dX12_toss_18 : decode cX12_toss 18 = .ok (.ireturn, 1) := by decide +kernel
theorem dX12_toss_19 : decode cX12_toss 19 = .ok (.aload_n 0, 1) := by decide +kernel
theorem dX12_toss_20 : decode cX12_toss 20 = .ok (.getfield 31, 3) := by decide +kernel
theorem dX12_toss_23 : decode cX12_toss 23 = .ok (.iload_n 1, 1) := by decide +kernel
theorem dX12_toss_24 : decode cX12_toss 24 = .ok (.iaload, 1) := by decide +kernel
theorem dX12_toss_25 : decode cX12_toss 25 = .ok (.istore_n 2, 1) := by decide +kernel
theorem dX12_toss_26 : decode cX12_toss 26 = .ok (.aload_n 0, 1) := by decide +kernel
theorem dX12_toss_27 : decode cX12_toss 27 = .ok (.getfield 34, 3) := by decide +kernel
theorem dX12_toss_30 : decode cX12_toss 30 = .ok (.iload_n 1, 1) := by decide +kernel
theorem dX12_toss_31 : decode cX12_toss 31 = .ok (.iaload, 1) := by decide +kernel
theorem dX12_toss_32 : decode cX12_toss 32 = .ok (.istore_n 3, 1) := by decide +kernel
theorem dX12_toss_33 : decode cX12_toss 33 = .ok (.iload_n 2, 1) := by decide +kernel
theorem dX12_toss_34 : decode cX12_toss 34 = .ok (.iconst 3, 1) := by decide +kernel
theorem dX12_toss_35 : decode cX12_toss 35 = .ok (.if_icmp .eq 12, 3) := by decide +kernel
theorem dX12_toss_38 : decode cX12_toss 38 = .ok (.iload_n 2, 1) := by decide +kernel
theorem dX12_toss_39 : decode cX12_toss 39 = .ok (.iconst 4, 1) := by decide +kernel
theorem dX12_toss_40 : decode cX12_toss 40 = .ok (.if_icmp .eq 7, 3) := by decide +kernel
theorem dX12_toss_43 : decode cX12_toss 43 = .ok (.iload_n 3, 1) := by decide +kernel
theorem dX12_toss_44 : decode cX12_toss 44 = .ok (.ifCond .ne 6, 3) := by decide +kernel
theorem dX12_toss_47 : decode cX12_toss 47 = .ok (.bipush (-15), 2) := by decide +kernel
theorem dX12_toss_49 : decode cX12_toss 49 = .ok (.ireturn, 1) := by decide +kernel
theorem dX12_toss_50 : decode cX12_toss 50 = .ok (.iload_n 2, 1) := by decide +kernel
theorem dX12_toss_51 : decode cX12_toss 51 = .ok (.iconst 1, 1) := by decide +kernel
theorem dX12_toss_52 : decode cX12_toss 52 = .ok (.if_icmp .ne 10, 3) := by decide +kernel
theorem dX12_toss_55 : decode cX12_toss 55 = .ok (.bipush 100, 2) := by decide +kernel
theorem dX12_toss_57 : decode cX12_toss 57 = .ok (.iload_n 3, 1) := by decide +kernel
theorem dX12_toss_58 : decode cX12_toss 58 = .ok (.iadd, 1) := by decide +kernel
theorem dX12_toss_59 : decode cX12_toss 59 = .ok (.goto 21, 3) := by decide +kernel
theorem dX12_toss_62 : decode cX12_toss 62 = .ok (.iload_n 2, 1) := by decide +kernel
theorem dX12_toss_63 : decode cX12_toss 63 = .ok (.iconst 5, 1) := by decide +kernel
theorem dX12_toss_64 : decode cX12_toss 64 = .ok (.if_icmp .ne 15, 3) := by decide +kernel
theorem dX12_toss_67 : decode cX12_toss 67 = .ok (.sipush 200, 3) := by decide +kernel
theorem dX12_toss_70 : decode cX12_toss 70 = .ok (.iload_n 2, 1) := by decide +kernel
theorem dX12_toss_71 : decode cX12_toss 71 = .ok (.iload_n 3, 1) := by decide +kernel
theorem dX12_toss_72 : decode cX12_toss 72 = .ok (.invokestatic 306, 3) := by decide +kernel
theorem dX12_toss_75 : decode cX12_toss 75 = .ok (.iadd, 1) := by decide +kernel
theorem dX12_toss_76 : decode cX12_toss 76 = .ok (.goto 4, 3) := by decide +kernel
theorem dX12_toss_79 : decode cX12_toss 79 = .ok (.iload_n 3, 1) := by decide +kernel
theorem dX12_toss_80 : decode cX12_toss 80 = .ok (.ireturn, 1) := by decide +kernel
theorem dJ6_bitCount_0f7a4_0 : decode cJ6_bitCount_0f7a4 0 = .ok (.iload_n 0, 1) := by decide +kernel
theorem dJ6_bitCount_0f7a4_1 : decode cJ6_bitCount_0f7a4 1 = .ok (.iload_n 0, 1) := by decide +kernel
theorem dJ6_bitCount_0f7a4_2 : decode cJ6_bitCount_0f7a4 2 = .ok (.iconst 1, 1) := by decide +kernel
theorem dJ6_bitCount_0f7a4_3 : decode cJ6_bitCount_0f7a4 3 = .ok (.iushr, 1) := by decide +kernel
theorem dJ6_bitCount_0f7a4_4 : decode cJ6_bitCount_0f7a4 4 = .ok (.ldc_w 265, 3) := by decide +kernel
theorem dJ6_bitCount_0f7a4_7 : decode cJ6_bitCount_0f7a4 7 = .ok (.iand, 1) := by decide +kernel
theorem dJ6_bitCount_0f7a4_8 : decode cJ6_bitCount_0f7a4 8 = .ok (.isub, 1) := by decide +kernel
theorem dJ6_bitCount_0f7a4_9 : decode cJ6_bitCount_0f7a4 9 = .ok (.istore_n 0, 1) := by decide +kernel
theorem dJ6_bitCount_0f7a4_10 : decode cJ6_bitCount_0f7a4 10 = .ok (.iload_n 0, 1) := by decide +kernel
theorem dJ6_bitCount_0f7a4_11 : decode cJ6_bitCount_0f7a4 11 = .ok (.ldc_w 266, 3) := by decide +kernel
theorem dJ6_bitCount_0f7a4_14 : decode cJ6_bitCount_0f7a4 14 = .ok (.iand, 1) := by decide +kernel
theorem dJ6_bitCount_0f7a4_15 : decode cJ6_bitCount_0f7a4 15 = .ok (.iload_n 0, 1) := by decide +kernel
theorem dJ6_bitCount_0f7a4_16 : decode cJ6_bitCount_0f7a4 16 = .ok (.iconst 2, 1) := by decide +kernel
theorem dJ6_bitCount_0f7a4_17 : decode cJ6_bitCount_0f7a4 17 = .ok (.iushr, 1) := by decide +kernel
theorem dJ6_bitCount_0f7a4_18 : decode cJ6_bitCount_0f7a4 18 = .ok (.ldc_w 266, 3) := by decide +kernel
theorem dJ6_bitCount_0f7a4_21 : decode cJ6_bitCount_0f7a4 21 = .ok (.iand, 1) := by decide +kernel
theorem dJ6_bitCount_0f7a4_22 : decode cJ6_bitCount_0f7a4 22 = .ok (.iadd, 1) := by decide +kernel
theorem dJ6_bitCount_0f7a4_23 : decode cJ6_bitCount_0f7a4 23 = .ok (.istore_n 0, 1) := by decide +kernel
theorem dJ6_bitCount_0f7a4_24 : decode cJ6_bitCount_0f7a4 24 = .ok (.iload_n 0, 1) := by decide +kernel
theorem dJ6_bitCount_0f7a4_25 : decode cJ6_bitCount_0f7a4 25 = .ok (.iload_n 0, 1) := by decide +kernel
theorem dJ6_bitCount_0f7a4_26 : decode cJ6_bitCount_0f7a4 26 = .ok (.iconst 4, 1) := by decide +kernel
theorem dJ6_bitCount_0f7a4_27 : decode cJ6_bitCount_0f7a4 27 = .ok (.iushr, 1) := by decide +kernel
theorem dJ6_bitCount_0f7a4_28 : decode cJ6_bitCount_0f7a4 28 = .ok (.iadd, 1) := by decide +kernel
theorem dJ6_bitCount_0f7a4_29 : decode cJ6_bitCount_0f7a4 29 = .ok (.ldc_w 267, 3) := by decide +kernel
theorem dJ6_bitCount_0f7a4_32 : decode cJ6_bitCount_0f7a4 32 = .ok (.iand, 1) := by decide +kernel
theorem dJ6_bitCount_0f7a4_33 : decode cJ6_bitCount_0f7a4 33 = .ok (.istore_n 0, 1) := by decide +kernel
theorem dJ6_bitCount_0f7a4_34 : decode cJ6_bitCount_0f7a4 34 = .ok (.iload_n 0, 1) := by decide +kernel
theorem dJ6_bitCount_0f7a4_35 : decode cJ6_bitCount_0f7a4 35 = .ok (.iload_n 0, 1) := by decide +kernel
theorem dJ6_bitCount_0f7a4_36 : decode cJ6_bitCount_0f7a4 36 = .ok (.bipush 8, 2) := by decide +kernel
theorem dJ6_bitCount_0f7a4_38 : decode cJ6_bitCount_0f7a4 38 = .ok (.iushr, 1) := by decide +kernel
theorem dJ6_bitCount_0f7a4_39 : decode cJ6_bitCount_0f7a4 39 = .ok (.iadd, 1) := by decide +kernel
theorem dJ6_bitCount_0f7a4_40 : decode cJ6_bitCount_0f7a4 40 = .ok (.istore_n 0, 1) := by decide +kernel
theorem dJ6_bitCount_0f7a4_41 : decode cJ6_bitCount_0f7a4 41 = .ok (.iload_n 0, 1) := by decide +kernel
theorem dJ6_bitCount_0f7a4_42 : decode cJ6_bitCount_0f7a4 42 = .ok (.iload_n 0, 1) := by decide +kernel
theorem dJ6_bitCount_0f7a4_43 : decode cJ6_bitCount_0f7a4 43 = .ok (.bipush 16, 2) := by decide +kernel
theorem dJ6_bitCount_0f7a4_45 : decode cJ6_bitCount_0f7a4 45 = .ok (.iushr, 1) := by decide +kernel
theorem dJ6_bitCount_0f7a4_46 : decode cJ6_bitCount_0f7a4 46 = .ok (.iadd, 1) := by decide +kernel
theorem dJ6_bitCount_0f7a4_47 : decode cJ6_bitCount_0f7a4 47 = .ok (.istore_n 0, 1) := by decide +kernel
theorem dJ6_bitCount_0f7a4_48 : decode cJ6_bitCount_0f7a4 48 = .ok (.iload_n 0, 1) := by decide +kernel
theorem dJ6_bitCount_0f7a4_49 : decode cJ6_bitCount_0f7a4 49 = .ok (.bipush 63, 2) := by decide +kernel
theorem dJ6_bitCount_0f7a4_51 : decode cJ6_bitCount_0f7a4 51 = .ok (.iand, 1) := by decide +kernel
theorem dJ6_bitCount_0f7a4_52 : decode cJ6_bitCount_0f7a4 52 = .ok (.ireturn, 1) := by decide +kernel
theorem dJ9_abs_0f7a4_0 : decode cJ9_abs_0f7a4 0 = .ok (.iload_n 0, 1) := by decide +kernel
theorem dJ9_abs_0f7a4_1 : decode cJ9_abs_0f7a4 1 = .ok (.ifCond .ge 8, 3) := by decide +kernel
theorem dJ9_abs_0f7a4_4 : decode cJ9_abs_0f7a4 4 = .ok (.iload_n 0, 1) := by decide +kernel
theorem dJ9_abs_0f7a4_5 : decode cJ9_abs_0f7a4 5 = .ok (.ineg, 1) := by decide +kernel
theorem dJ9_abs_0f7a4_6 : decode cJ9_abs_0f7a4 6 = .ok (.goto 4, 3) := by decide +kernel
theorem dJ9_abs_0f7a4_9 : decode cJ9_abs_0f7a4 9 = .ok (.iload_n 0, 1) := by decide +kernel
theorem dJ9_abs_0f7a4_10 : decode cJ9_abs_0f7a4 10 = .ok (.ireturn, 1) := by decide +kernel
theorem dJ9_max_7cf53_0 : decode cJ9_max_7cf53 0 = .ok (.iload_n 0, 1) := by decide +kernel
theorem dJ9_max_7cf53_1 : decode cJ9_max_7cf53 1 = .ok (.iload_n 1, 1) := by decide +kernel
theorem dJ9_max_7cf53_2 : decode cJ9_max_7cf53 2 = .ok (.if_icmp .lt 7, 3) := by decide +kernel
theorem dJ9_max_7cf53_5 : decode cJ9_max_7cf53 5 = .ok (.iload_n 0, 1) := by decide +kernel
theorem dJ9_max_7cf53_6 : decode cJ9_max_7cf53 6 = .ok (.goto 4, 3) := by decide +kernel
theorem dJ9_max_7cf53_9 : decode cJ9_max_7cf53 9 = .ok (.iload_n 1, 1) := by decide +kernel
theorem dJ9_max_7cf53_10 : decode cJ9_max_7cf53 10 = .ok (.ireturn, 1) := by decide +kernel
theorem dJ9_max_f86c9_0 : decode cJ9_max_f86c9 0 = .ok (.lload_n 0, 1) := by decide +kernel
theorem dJ9_max_f86c9_1 : decode cJ9_max_f86c9 1 = .ok (.lload_n 2, 1) := by decide +kernel
theorem dJ9_max_f86c9_2 : decode cJ9_max_f86c9 2 = .ok (.lcmp, 1) := by decide +kernel
theorem dJ9_max_f86c9_3 : decode cJ9_max_f86c9 3 = .ok (.ifCond .lt 7, 3) := by decide +kernel
theorem dJ9_max_f86c9_6 : decode cJ9_max_f86c9 6 = .ok (.lload_n 0, 1) := by decide +kernel
theorem dJ9_max_f86c9_7 : decode cJ9_max_f86c9 7 = .ok (.goto 4, 3) := by decide +kernel
theorem dJ9_max_f86c9_10 : decode cJ9_max_f86c9 10 = .ok (.lload_n 2, 1) := by decide +kernel
theorem dJ9_max_f86c9_11 : decode cJ9_max_f86c9 11 = .ok (.lreturn, 1) := by decide +kernel
theorem dJ9_min_7cf53_0 : decode cJ9_min_7cf53 0 = .ok (.iload_n 0, 1) := by decide +kernel
theorem dJ9_min_7cf53_1 : decode cJ9_min_7cf53 1 = .ok (.iload_n 1, 1) := by decide +kernel
theorem dJ9_min_7cf53_2 : decode cJ9_min_7cf53 2 = .ok (.if_icmp .gt 7, 3) := by decide +kernel
theorem dJ9_min_7cf53_5 : decode cJ9_min_7cf53 5 = .ok (.iload_n 0, 1) := by decide +kernel
theorem dJ9_min_7cf53_6 : decode cJ9_min_7cf53 6 = .ok (.goto 4, 3) := by decide +kernel
theorem dJ9_min_7cf53_9 : decode cJ9_min_7cf53 9 = .ok (.iload_n 1, 1) := by decide +kernel
theorem dJ9_min_7cf53_10 : decode cJ9_min_7cf53 10 = .ok (.ireturn, 1) := by decide +kernel
theorem dJ7_fill_53178_0 : decode cJ7_fill_53178 0 = .ok (.iconst 0, 1) := by decide +kernel
theorem dJ7_fill_53178_1 : decode cJ7_fill_53178 1 = .ok (.istore_n 2, 1) := by decide +kernel
theorem dJ7_fill_53178_2 : decode cJ7_fill_53178 2 = .ok (.aload_n 0, 1) := by decide +kernel
theorem dJ7_fill_53178_3 : decode cJ7_fill_53178 3 = .ok (.arraylength, 1) := by decide +kernel
theorem dJ7_fill_53178_4 : decode cJ7_fill_53178 4 = .ok (.istore_n 3, 1) := by decide +kernel
theorem dJ7_fill_53178_5 : decode cJ7_fill_53178 5 = .ok (.iload_n 2, 1) := by decide +kernel
theorem dJ7_fill_53178_6 : decode cJ7_fill_53178 6 = .ok (.iload_n 3, 1) := by decide +kernel
theorem dJ7_fill_53178_7 : decode cJ7_fill_53178 7 = .ok (.if_icmp .ge 13, 3) := by decide +kernel
theorem dJ7_fill_53178_10 : decode cJ7_fill_53178 10 = .ok (.aload_n 0, 1) := by decide +kernel
theorem dJ7_fill_53178_11 : decode cJ7_fill_53178 11 = .ok (.iload_n 2, 1) := by decide +kernel
theorem dJ7_fill_53178_12 : decode cJ7_fill_53178 12 = .ok (.iload_n 1, 1) := by decide +kernel
theorem dJ7_fill_53178_13 : decode cJ7_fill_53178 13 = .ok (.iastore, 1) := by decide +kernel
theorem dJ7_fill_53178_14 : decode cJ7_fill_53178 14 = .ok (.iinc 2 1, 3) := by decide +kernel
theorem dJ7_fill_53178_17 : decode cJ7_fill_53178 17 = .ok (.goto (-12), 3) := by decide +kernel
theorem dJ7_fill_53178_20 : decode cJ7_fill_53178 20 = .ok (.return_, 1) := by decide +kernel
