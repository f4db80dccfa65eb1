theorem d_A_change_0 : decode b_A_change 0 = .ok (.aload_n 0, 1) := by decide +kernel
theorem d_A_change_1 : decode b_A_change 1 = .ok (.iload_n 1, 1) := by decide +kernel
theorem d_A_change_2 : decode b_A_change 2 = .ok (.invokevirtual 26, 3) := by decide +kernel
theorem d_A_change_5 : decode b_A_change 5 = .ok (.istore_n 3, 1) := by decide +kernel
theorem d_A_change_6 : decode b_A_change 6 = .ok (.iload_n 3, 1) := by decide +kernel
theorem d_A_change_7 : decode b_A_change 7 = .ok (.bipush 8, 2) := by decide +kernel
theorem d_A_change_9 : decode b_A_change 9 = .ok (.if_icmp .lt 5, 3) := by decide +kernel
theorem d_A_change_12 : decode b_A_change 12 = .ok (.iconst 0, 1) := by decide +kernel
theorem d_A_change_13 : decode b_A_change 13 = .ok (.ireturn, 1) := by decide +kernel
theorem d_A_change_14 : decode b_A_change 14 = .ok (.iload_n 3, 1) := by decide +kernel
theorem d_A_change_15 : decode b_A_change 15 = .ok (.aload_n 0, 1) := by decide +kernel
theorem d_A_change_16 : decode b_A_change 16 = .ok (.getfield 18, 3) := by decide +kernel
theorem d_A_change_19 : decode b_A_change 19 = .ok (.if_icmp .ne 13, 3) := by decide +kernel
theorem d_A_change_22 : decode b_A_change 22 = .ok (.aload_n 0, 1) := by decide +kernel
theorem d_A_change_23 : decode b_A_change 23 = .ok (.dup, 1) := by decide +kernel
theorem d_A_change_24 : decode b_A_change 24 = .ok (.getfield 18, 3) := by decide +kernel
theorem d_A_change_27 : decode b_A_change 27 = .ok (.iconst 1, 1) := by decide +kernel
theorem d_A_change_28 : decode b_A_change 28 = .ok (.iadd, 1) := by decide +kernel
theorem d_A_change_29 : decode b_A_change 29 = .ok (.putfield 18, 3) := by decide +kernel
theorem d_A_change_32 : decode b_A_change 32 = .ok (.aload_n 0, 1) := by decide +kernel
theorem d_A_change_33 : decode b_A_change 33 = .ok (.getfield 9, 3) := by decide +kernel
theorem d_A_change_36 : decode b_A_change 36 = .ok (.iload_n 3, 1) := by decide +kernel
theorem d_A_change_37 : decode b_A_change 37 = .ok (.iload_n 1, 1) := by decide +kernel
theorem d_A_change_38 : decode b_A_change 38 = .ok (.iastore, 1) := by decide +kernel
theorem d_A_change_39 : decode b_A_change 39 = .ok (.aload_n 0, 1) := by decide +kernel
theorem d_A_change_40 : decode b_A_change 40 = .ok (.getfield 15, 3) := by decide +kernel
theorem d_A_change_43 : decode b_A_change 43 = .ok (.iload_n 3, 1) := by decide +kernel
theorem d_A_change_44 : decode b_A_change 44 = .ok (.iload_n 2, 1) := by decide +kernel
theorem d_A_change_45 : decode b_A_change 45 = .ok (.iastore, 1) := by decide +kernel
theorem d_A_change_46 : decode b_A_change 46 = .ok (.iconst 1, 1) := by decide +kernel
theorem d_A_change_47 : decode b_A_change 47 = .ok (.ireturn, 1) := by decide +kernel
theorem d_A_doubleNext_0 : decode b_A_doubleNext 0 = .ok (.aload_n 0, 1) := by decide +kernel
theorem d_A_doubleNext_1 : decode b_A_doubleNext 1 = .ok (.getfield 22, 3) := by decide +kernel
theorem d_A_doubleNext_4 : decode b_A_doubleNext 4 = .ok (.ifCond .ne 7, 3) := by decide +kernel
theorem d_A_doubleNext_7 : decode b_A_doubleNext 7 = .ok (.iconst 1, 1) := by decide +kernel
theorem d_A_doubleNext_8 : decode b_A_doubleNext 8 = .ok (.goto 4, 3) := by decide +kernel
theorem d_A_doubleNext_11 : decode b_A_doubleNext 11 = .ok (.iconst 0, 1) := by decide +kernel
theorem d_A_doubleNext_12 : decode b_A_doubleNext 12 = .ok (.istore_n 1, 1) := by decide +kernel
theorem d_A_doubleNext_13 : decode b_A_doubleNext 13 = .ok (.aload_n 0, 1) := by decide +kernel
theorem d_A_doubleNext_14 : decode b_A_doubleNext 14 = .ok (.iconst 1, 1) := by decide +kernel
theorem d_A_doubleNext_15 : decode b_A_doubleNext 15 = .ok (.putfield 22, 3) := by decide +kernel
theorem d_A_doubleNext_18 : decode b_A_doubleNext 18 = .ok (.iload_n 1, 1) := by decide +kernel
theorem d_A_doubleNext_19 : decode b_A_doubleNext 19 = .ok (.ireturn, 1) := by decide +kernel
theorem d_A_asItComes_0 : decode b_A_asItComes 0 = .ok (.aload_n 0, 1) := by decide +kernel
theorem d_A_asItComes_1 : decode b_A_asItComes 1 = .ok (.iload_n 1, 1) := by decide +kernel
theorem d_A_asItComes_2 : decode b_A_asItComes 2 = .ok (.invokevirtual 26, 3) := by decide +kernel
theorem d_A_asItComes_5 : decode b_A_asItComes 5 = .ok (.istore_n 3, 1) := by decide +kernel
theorem d_A_asItComes_6 : decode b_A_asItComes 6 = .ok (.iload_n 3, 1) := by decide +kernel
theorem d_A_asItComes_7 : decode b_A_asItComes 7 = .ok (.aload_n 0, 1) := by decide +kernel
theorem d_A_asItComes_8 : decode b_A_asItComes 8 = .ok (.getfield 18, 3) := by decide +kernel
theorem d_A_asItComes_11 : decode b_A_asItComes 11 = .ok (.if_icmp .lt 5, 3) := by decide +kernel
theorem d_A_asItComes_14 : decode b_A_asItComes 14 = .ok (.iload_n 2, 1) := by decide +kernel
theorem d_A_asItComes_15 : decode b_A_asItComes 15 = .ok (.ireturn, 1) := by decide +kernel
theorem d_A_asItComes_16 : decode b_A_asItComes 16 = .ok (.aload_n 0, 1) := by decide +kernel
theorem d_A_asItComes_17 : decode b_A_asItComes 17 = .ok (.getfield 15, 3) := by decide +kernel
theorem d_A_asItComes_20 : decode b_A_asItComes 20 = .ok (.iload_n 3, 1) := by decide +kernel
theorem d_A_asItComes_21 : decode b_A_asItComes 21 = .ok (.iaload, 1) := by decide +kernel
theorem d_A_asItComes_22 : decode b_A_asItComes 22 = .ok (.istore 4, 2) := by decide +kernel
theorem d_A_asItComes_24 : decode b_A_asItComes 24 = .ok (.aload_n 0, 1) := by decide +kernel
theorem d_A_asItComes_25 : decode b_A_asItComes 25 = .ok (.dup, 1) := by decide +kernel
theorem d_A_asItComes_26 : decode b_A_asItComes 26 = .ok (.getfield 18, 3) := by decide +kernel
theorem d_A_asItComes_29 : decode b_A_asItComes 29 = .ok (.iconst 1, 1) := by decide +kernel
theorem d_A_asItComes_30 : decode b_A_asItComes 30 = .ok (.isub, 1) := by decide +kernel
theorem d_A_asItComes_31 : decode b_A_asItComes 31 = .ok (.putfield 18, 3) := by decide +kernel
theorem d_A_asItComes_34 : decode b_A_asItComes 34 = .ok (.aload_n 0, 1) := by decide +kernel
theorem d_A_asItComes_35 : decode b_A_asItComes 35 = .ok (.getfield 9, 3) := by decide +kernel
theorem d_A_asItComes_38 : decode b_A_asItComes 38 = .ok (.iload_n 3, 1) := by decide +kernel
theorem d_A_asItComes_39 : decode b_A_asItComes 39 = .ok (.aload_n 0, 1) := by decide +kernel
theorem d_A_asItComes_40 : decode b_A_asItComes 40 = .ok (.getfield 9, 3) := by decide +kernel
theorem d_A_asItComes_43 : decode b_A_asItComes 43 = .ok (.aload_n 0, 1) := by decide +kernel
theorem d_A_asItComes_44 : decode b_A_asItComes 44 = .ok (.getfield 18, 3) := by decide +kernel
theorem d_A_asItComes_47 : decode b_A_asItComes 47 = .ok (.iaload, 1) := by decide +kernel
theorem d_A_asItComes_48 : decode b_A_asItComes 48 = .ok (.iastore, 1) := by decide +kernel
theorem d_A_asItComes_49 : decode b_A_asItComes 49 = .ok (.aload_n 0, 1) := by decide +kernel
theorem d_A_asItComes_50 : decode b_A_asItComes 50 = .ok (.getfield 15, 3) := by decide +kernel
theorem d_A_asItComes_53 : decode b_A_asItComes 53 = .ok (.iload_n 3, 1) := by decide +kernel
theorem d_A_asItComes_54 : decode b_A_asItComes 54 = .ok (.aload_n 0, 1) := by decide +kernel
theorem d_A_asItComes_55 : decode b_A_asItComes 55 = .ok (.getfield 15, 3) := by decide +kernel
theorem d_A_asItComes_58 : decode b_A_asItComes 58 = .ok (.aload_n 0, 1) := by decide +kernel
theorem d_A_asItComes_59 : decode b_A_asItComes 59 = .ok (.getfield 18, 3) := by decide +kernel
theorem d_A_asItComes_62 : decode b_A_asItComes 62 = .ok (.iaload, 1) := by decide +kernel
theorem d_A_asItComes_63 : decode b_A_asItComes 63 = .ok (.iastore, 1) := by decide +kernel
theorem d_A_asItComes_64 : decode b_A_asItComes 64 = .ok (.iload 4, 2) := by decide +kernel
theorem d_A_asItComes_66 : decode b_A_asItComes 66 = .ok (.ireturn, 1) := by decide +kernel
theorem d_A_comings_0 : decode b_A_comings 0 = .ok (.aload_n 0, 1) := by decide +kernel
theorem d_A_comings_1 : decode b_A_comings 1 = .ok (.getfield 22, 3) := by decide +kernel
theorem d_A_comings_4 : decode b_A_comings 4 = .ok (.ifCond .eq 7, 3) := by decide +kernel
theorem d_A_comings_7 : decode b_A_comings 7 = .ok (.iconst 2, 1) := by decide +kernel
theorem d_A_comings_8 : decode b_A_comings 8 = .ok (.goto 4, 3) := by decide +kernel
theorem d_A_comings_11 : decode b_A_comings 11 = .ok (.iconst 1, 1) := by decide +kernel
theorem d_A_comings_12 : decode b_A_comings 12 = .ok (.istore_n 1, 1) := by decide +kernel
theorem d_A_comings_13 : decode b_A_comings 13 = .ok (.aload_n 0, 1) := by decide +kernel
theorem d_A_comings_14 : decode b_A_comings 14 = .ok (.iconst 0, 1) := by decide +kernel
theorem d_A_comings_15 : decode b_A_comings 15 = .ok (.putfield 22, 3) := by decide +kernel
theorem d_A_comings_18 : decode b_A_comings 18 = .ok (.iload_n 1, 1) := by decide +kernel
theorem d_A_comings_19 : decode b_A_comings 19 = .ok (.ireturn, 1) := by decide +kernel
theorem d_A_placeOf_0 : decode b_A_placeOf 0 = .ok (.iconst 0, 1) := by decide +kernel
theorem d_A_placeOf_1 : decode b_A_placeOf 1 = .ok (.istore_n 2, 1) := by decide +kernel
theorem d_A_placeOf_2 : decode b_A_placeOf 2 = .ok (.iload_n 2, 1) := by decide +kernel
theorem d_A_placeOf_3 : decode b_A_placeOf 3 = .ok (.aload_n 0, 1) := by decide +kernel
theorem d_A_placeOf_4 : decode b_A_placeOf 4 = .ok (.getfield 18, 3) := by decide +kernel
theorem d_A_placeOf_7 : decode b_A_placeOf 7 = .ok (.if_icmp .ge 19, 3) := by decide +kernel
theorem d_A_placeOf_10 : decode b_A_placeOf 10 = .ok (.aload_n 0, 1) := by decide +kernel
theorem d_A_placeOf_11 : decode b_A_placeOf 11 = .ok (.getfield 9, 3) := by decide +kernel
theorem d_A_placeOf_14 : decode b_A_placeOf 14 = .ok (.iload_n 2, 1) := by decide +kernel
theorem d_A_placeOf_15 : decode b_A_placeOf 15 = .ok (.iaload, 1) := by decide +kernel
theorem d_A_placeOf_16 : decode b_A_placeOf 16 = .ok (.iload_n 1, 1) := by decide +kernel
theorem d_A_placeOf_17 : decode b_A_placeOf 17 = .ok (.if_icmp .eq 9, 3) := by decide +kernel
theorem d_A_placeOf_20 : decode b_A_placeOf 20 = .ok (.iinc 2 1, 3) := by decide +kernel
theorem d_A_placeOf_23 : decode b_A_placeOf 23 = .ok (.goto (-21), 3) := by decide +kernel
theorem d_A_placeOf_26 : decode b_A_placeOf 26 = .ok (.iload_n 2, 1) := by decide +kernel
theorem d_A_placeOf_27 : decode b_A_placeOf 27 = .ok (.ireturn, 1) := by decide +kernel
theorem d_D_bitBehind_0 : decode b_D_bitBehind 0 = .ok (.aload_n 0, 1) := by decide +kernel
theorem d_D_bitBehind_1 : decode b_D_bitBehind 1 = .ok (.iload_n 1, 1) := by decide +kernel
theorem d_D_bitBehind_2 : decode b_D_bitBehind 2 = .ok (.putfield 9, 3) := by decide +kernel
theorem d_D_bitBehind_5 : decode b_D_bitBehind 5 = .ok (.iload_n 1, 1) := by decide +kernel
theorem d_D_bitBehind_6 : decode b_D_bitBehind 6 = .ok (.ifCond .ne 10, 3) := by decide +kernel
theorem d_D_bitBehind_9 : decode b_D_bitBehind 9 = .ok (.aload_n 0, 1) := by decide +kernel
theorem d_D_bitBehind_10 : decode b_D_bitBehind 10 = .ok (.invokevirtual 33, 3) := by decide +kernel
theorem d_D_bitBehind_13 : decode b_D_bitBehind 13 = .ok (.goto 8, 3) := by decide +kernel
theorem d_D_bitBehind_16 : decode b_D_bitBehind 16 = .ok (.aload_n 0, 1) := by decide +kernel
theorem d_D_bitBehind_17 : decode b_D_bitBehind 17 = .ok (.iload_n 1, 1) := by decide +kernel
theorem d_D_bitBehind_18 : decode b_D_bitBehind 18 = .ok (.invokevirtual 36, 3) := by decide +kernel
theorem d_D_bitBehind_21 : decode b_D_bitBehind 21 = .ok (.aload_n 0, 1) := by decide +kernel
theorem d_D_bitBehind_22 : decode b_D_bitBehind 22 = .ok (.getfield 27, 3) := by decide +kernel
theorem d_D_bitBehind_25 : decode b_D_bitBehind 25 = .ok (.iconst 3, 1) := by decide +kernel
theorem d_D_bitBehind_26 : decode b_D_bitBehind 26 = .ok (.if_icmp .ge 15, 3) := by decide +kernel
theorem d_D_bitBehind_29 : decode b_D_bitBehind 29 = .ok (.aload_n 0, 1) := by decide +kernel
theorem d_D_bitBehind_30 : decode b_D_bitBehind 30 = .ok (.dup, 1) := by decide +kernel
theorem d_D_bitBehind_31 : decode b_D_bitBehind 31 = .ok (.getfield 27, 3) := by decide +kernel
theorem d_D_bitBehind_34 : decode b_D_bitBehind 34 = .ok (.iconst 1, 1) := by decide +kernel
theorem d_D_bitBehind_35 : decode b_D_bitBehind 35 = .ok (.iadd, 1) := by decide +kernel
theorem d_D_bitBehind_36 : decode b_D_bitBehind 36 = .ok (.putfield 27, 3) := by decide +kernel
theorem d_D_bitBehind_39 : decode b_D_bitBehind 39 = .ok (.iconst (-1), 1) := by decide +kernel
theorem d_D_bitBehind_40 : decode b_D_bitBehind 40 = .ok (.ireturn, 1) := by decide +kernel
theorem d_D_bitBehind_41 : decode b_D_bitBehind 41 = .ok (.aload_n 0, 1) := by decide +kernel
theorem d_D_bitBehind_42 : decode b_D_bitBehind 42 = .ok (.getfield 24, 3) := by decide +kernel
theorem d_D_bitBehind_45 : decode b_D_bitBehind 45 = .ok (.iconst 3, 1) := by decide +kernel
theorem d_D_bitBehind_46 : decode b_D_bitBehind 46 = .ok (.ishr, 1) := by decide +kernel
theorem d_D_bitBehind_47 : decode b_D_bitBehind 47 = .ok (.iconst 1, 1) := by decide +kernel
theorem d_D_bitBehind_48 : decode b_D_bitBehind 48 = .ok (.iand, 1) := by decide +kernel
theorem d_D_bitBehind_49 : decode b_D_bitBehind 49 = .ok (.ireturn, 1) := by decide +kernel
theorem d_D_takeZero_0 : decode b_D_takeZero 0 = .ok (.aload_n 0, 1) := by decide +kernel
theorem d_D_takeZero_1 : decode b_D_takeZero 1 = .ok (.aload_n 0, 1) := by decide +kernel
theorem d_D_takeZero_2 : decode b_D_takeZero 2 = .ok (.getfield 24, 3) := by decide +kernel
theorem d_D_takeZero_5 : decode b_D_takeZero 5 = .ok (.iconst 1, 1) := by decide +kernel
theorem d_D_takeZero_6 : decode b_D_takeZero 6 = .ok (.ishl, 1) := by decide +kernel
theorem d_D_takeZero_7 : decode b_D_takeZero 7 = .ok (.bipush 15, 2) := by decide +kernel
theorem d_D_takeZero_9 : decode b_D_takeZero 9 = .ok (.iand, 1) := by decide +kernel
theorem d_D_takeZero_10 : decode b_D_takeZero 10 = .ok (.putfield 24, 3) := by decide +kernel
theorem d_D_takeZero_13 : decode b_D_takeZero 13 = .ok (.aload_n 0, 1) := by decide +kernel
theorem d_D_takeZero_14 : decode b_D_takeZero 14 = .ok (.dup, 1) := by decide +kernel
theorem d_D_takeZero_15 : decode b_D_takeZero 15 = .ok (.getfield 21, 3) := by decide +kernel
theorem d_D_takeZero_18 : decode b_D_takeZero 18 = .ok (.iconst 1, 1) := by decide +kernel
theorem d_D_takeZero_19 : decode b_D_takeZero 19 = .ok (.iadd, 1) := by decide +kernel
theorem d_D_takeZero_20 : decode b_D_takeZero 20 = .ok (.putfield 21, 3) := by decide +kernel
theorem d_D_takeZero_23 : decode b_D_takeZero 23 = .ok (.aload_n 0, 1) := by decide +kernel
theorem d_D_takeZero_24 : decode b_D_takeZero 24 = .ok (.getfield 15, 3) := by decide +kernel
theorem d_D_takeZero_27 : decode b_D_takeZero 27 = .ok (.ifCond .eq 22, 3) := by decide +kernel
theorem d_D_takeZero_30 : decode b_D_takeZero 30 = .ok (.aload_n 0, 1) := by decide +kernel
theorem d_D_takeZero_31 : decode b_D_takeZero 31 = .ok (.getfield 21, 3) := by decide +kernel
theorem d_D_takeZero_34 : decode b_D_takeZero 34 = .ok (.iconst 3, 1) := by decide +kernel
theorem d_D_takeZero_35 : decode b_D_takeZero 35 = .ok (.iand, 1) := by decide +kernel
theorem d_D_takeZero_36 : decode b_D_takeZero 36 = .ok (.ifCond .ne 13, 3) := by decide +kernel
theorem d_D_takeZero_39 : decode b_D_takeZero 39 = .ok (.aload_n 0, 1) := by decide +kernel
theorem d_D_takeZero_40 : decode b_D_takeZero 40 = .ok (.dup, 1) := by decide +kernel
theorem d_D_takeZero_41 : decode b_D_takeZero 41 = .ok (.getfield 30, 3) := by decide +kernel
theorem d_D_takeZero_44 : decode b_D_takeZero 44 = .ok (.iconst 1, 1) := by decide +kernel
theorem d_D_takeZero_45 : decode b_D_takeZero 45 = .ok (.iadd, 1) := by decide +kernel
theorem d_D_takeZero_46 : decode b_D_takeZero 46 = .ok (.putfield 30, 3) := by decide +kernel
theorem d_D_takeZero_49 : decode b_D_takeZero 49 = .ok (.return_, 1) := by decide +kernel
theorem d_D_takePulse_0 : decode b_D_takePulse 0 = .ok (.iload_n 1, 1) := by decide +kernel
theorem d_D_takePulse_1 : decode b_D_takePulse 1 = .ok (.aload_n 0, 1) := by decide +kernel
theorem d_D_takePulse_2 : decode b_D_takePulse 2 = .ok (.getfield 15, 3) := by decide +kernel
theorem d_D_takePulse_5 : decode b_D_takePulse 5 = .ok (.if_icmp .ne 7, 3) := by decide +kernel
theorem d_D_takePulse_8 : decode b_D_takePulse 8 = .ok (.iconst 1, 1) := by decide +kernel
theorem d_D_takePulse_9 : decode b_D_takePulse 9 = .ok (.goto 4, 3) := by decide +kernel
theorem d_D_takePulse_12 : decode b_D_takePulse 12 = .ok (.iconst 0, 1) := by decide +kernel
theorem d_D_takePulse_13 : decode b_D_takePulse 13 = .ok (.istore_n 2, 1) := by decide +kernel
theorem d_D_takePulse_14 : decode b_D_takePulse 14 = .ok (.iload_n 2, 1) := by decide +kernel
theorem d_D_takePulse_15 : decode b_D_takePulse 15 = .ok (.ifCond .eq 19, 3) := by decide +kernel
theorem d_D_takePulse_18 : decode b_D_takePulse 18 = .ok (.aload_n 0, 1) := by decide +kernel
theorem d_D_takePulse_19 : decode b_D_takePulse 19 = .ok (.getfield 21, 3) := by decide +kernel
theorem d_D_takePulse_22 : decode b_D_takePulse 22 = .ok (.iconst 2, 1) := by decide +kernel
theorem d_D_takePulse_23 : decode b_D_takePulse 23 = .ok (.if_icmp .lt 11, 3) := by decide +kernel
theorem d_D_takePulse_26 : decode b_D_takePulse 26 = .ok (.aload_n 0, 1) := by decide +kernel
theorem d_D_takePulse_27 : decode b_D_takePulse 27 = .ok (.iload_n 1, 1) := by decide +kernel
theorem d_D_takePulse_28 : decode b_D_takePulse 28 = .ok (.invokevirtual 40, 3) := by decide +kernel
theorem d_D_takePulse_31 : decode b_D_takePulse 31 = .ok (.goto 32, 3) := by decide +kernel
theorem d_D_takePulse_34 : decode b_D_takePulse 34 = .ok (.aload_n 0, 1) := by decide +kernel
theorem d_D_takePulse_35 : decode b_D_takePulse 35 = .ok (.aload_n 0, 1) := by decide +kernel
theorem d_D_takePulse_36 : decode b_D_takePulse 36 = .ok (.getfield 24, 3) := by decide +kernel
theorem d_D_takePulse_39 : decode b_D_takePulse 39 = .ok (.iconst 1, 1) := by decide +kernel
theorem d_D_takePulse_40 : decode b_D_takePulse 40 = .ok (.ishl, 1) := by decide +kernel
theorem d_D_takePulse_41 : decode b_D_takePulse 41 = .ok (.iconst 1, 1) := by decide +kernel
theorem d_D_takePulse_42 : decode b_D_takePulse 42 = .ok (.ior, 1) := by decide +kernel
theorem d_D_takePulse_43 : decode b_D_takePulse 43 = .ok (.bipush 15, 2) := by decide +kernel
theorem d_D_takePulse_45 : decode b_D_takePulse 45 = .ok (.iand, 1) := by decide +kernel
theorem d_D_takePulse_46 : decode b_D_takePulse 46 = .ok (.putfield 24, 3) := by decide +kernel
theorem d_D_takePulse_49 : decode b_D_takePulse 49 = .ok (.iload_n 2, 1) := by decide +kernel
theorem d_D_takePulse_50 : decode b_D_takePulse 50 = .ok (.ifCond .eq 13, 3) := by decide +kernel
theorem d_D_takePulse_53 : decode b_D_takePulse 53 = .ok (.aload_n 0, 1) := by decide +kernel
theorem d_D_takePulse_54 : decode b_D_takePulse 54 = .ok (.dup, 1) := by decide +kernel
theorem d_D_takePulse_55 : decode b_D_takePulse 55 = .ok (.getfield 30, 3) := by decide +kernel
theorem d_D_takePulse_58 : decode b_D_takePulse 58 = .ok (.iconst 1, 1) := by decide +kernel
theorem d_D_takePulse_59 : decode b_D_takePulse 59 = .ok (.iadd, 1) := by decide +kernel
theorem d_D_takePulse_60 : decode b_D_takePulse 60 = .ok (.putfield 30, 3) := by decide +kernel
theorem d_D_takePulse_63 : decode b_D_takePulse 63 = .ok (.aload_n 0, 1) := by decide +kernel
theorem d_D_takePulse_64 : decode b_D_takePulse 64 = .ok (.iload_n 1, 1) := by decide +kernel
theorem d_D_takePulse_65 : decode b_D_takePulse 65 = .ok (.putfield 15, 3) := by decide +kernel
theorem d_D_takePulse_68 : decode b_D_takePulse 68 = .ok (.aload_n 0, 1) := by decide +kernel
theorem d_D_takePulse_69 : decode b_D_takePulse 69 = .ok (.iconst 0, 1) := by decide +kernel
theorem d_D_takePulse_70 : decode b_D_takePulse 70 = .ok (.putfield 21, 3) := by decide +kernel
theorem d_D_takePulse_73 : decode b_D_takePulse 73 = .ok (.return_, 1) := by decide +kernel
theorem d_D_takeV_0 : decode b_D_takeV 0 = .ok (.aload_n 0, 1) := by decide +kernel
theorem d_D_takeV_1 : decode b_D_takeV 1 = .ok (.iconst 0, 1) := by decide +kernel
theorem d_D_takeV_2 : decode b_D_takeV 2 = .ok (.putfield 24, 3) := by decide +kernel
theorem d_D_takeV_5 : decode b_D_takeV 5 = .ok (.iload_n 1, 1) := by decide +kernel
theorem d_D_takeV_6 : decode b_D_takeV 6 = .ok (.aload_n 0, 1) := by decide +kernel
theorem d_D_takeV_7 : decode b_D_takeV 7 = .ok (.getfield 18, 3) := by decide +kernel
theorem d_D_takeV_10 : decode b_D_takeV 10 = .ok (.if_icmp .ne 13, 3) := by decide +kernel
theorem d_D_takeV_13 : decode b_D_takeV 13 = .ok (.aload_n 0, 1) := by decide +kernel
theorem d_D_takeV_14 : decode b_D_takeV 14 = .ok (.dup, 1) := by decide +kernel
theorem d_D_takeV_15 : decode b_D_takeV 15 = .ok (.getfield 30, 3) := by decide +kernel
theorem d_D_takeV_18 : decode b_D_takeV 18 = .ok (.iconst 1, 1) := by decide +kernel
theorem d_D_takeV_19 : decode b_D_takeV 19 = .ok (.iadd, 1) := by decide +kernel
theorem d_D_takeV_20 : decode b_D_takeV 20 = .ok (.putfield 30, 3) := by decide +kernel
theorem d_D_takeV_23 : decode b_D_takeV 23 = .ok (.aload_n 0, 1) := by decide +kernel
theorem d_D_takeV_24 : decode b_D_takeV 24 = .ok (.iload_n 1, 1) := by decide +kernel
theorem d_D_takeV_25 : decode b_D_takeV 25 = .ok (.putfield 18, 3) := by decide +kernel
theorem d_D_takeV_28 : decode b_D_takeV 28 = .ok (.return_, 1) := by decide +kernel
theorem d_E_symbolBehind_0 : decode b_E_symbolBehind 0 = .ok (.iload_n 1, 1) := by decide +kernel
theorem d_E_symbolBehind_1 : decode b_E_symbolBehind 1 = .ok (.iconst 1, 1) := by decide +kernel
theorem d_E_symbolBehind_2 : decode b_E_symbolBehind 2 = .ok (.if_icmp .ne 10, 3) := by decide +kernel
theorem d_E_symbolBehind_5 : decode b_E_symbolBehind 5 = .ok (.aload_n 0, 1) := by decide +kernel
theorem d_E_symbolBehind_6 : decode b_E_symbolBehind 6 = .ok (.invokevirtual 31, 3) := by decide +kernel
theorem d_E_symbolBehind_9 : decode b_E_symbolBehind 9 = .ok (.goto 7, 3) := by decide +kernel
theorem d_E_symbolBehind_12 : decode b_E_symbolBehind 12 = .ok (.aload_n 0, 1) := by decide +kernel
theorem d_E_symbolBehind_13 : decode b_E_symbolBehind 13 = .ok (.invokevirtual 35, 3) := by decide +kernel
theorem d_E_symbolBehind_16 : decode b_E_symbolBehind 16 = .ok (.istore_n 2, 1) := by decide +kernel
theorem d_E_symbolBehind_17 : decode b_E_symbolBehind 17 = .ok (.aload_n 0, 1) := by decide +kernel
theorem d_E_symbolBehind_18 : decode b_E_symbolBehind 18 = .ok (.getfield 22, 3) := by decide +kernel
theorem d_E_symbolBehind_21 : decode b_E_symbolBehind 21 = .ok (.istore_n 3, 1) := by decide +kernel
theorem d_E_symbolBehind_22 : decode b_E_symbolBehind 22 = .ok (.aload_n 0, 1) := by decide +kernel
theorem d_E_symbolBehind_23 : decode b_E_symbolBehind 23 = .ok (.aload_n 0, 1) := by decide +kernel
theorem d_E_symbolBehind_24 : decode b_E_symbolBehind 24 = .ok (.getfield 25, 3) := by decide +kernel
theorem d_E_symbolBehind_27 : decode b_E_symbolBehind 27 = .ok (.putfield 22, 3) := by decide +kernel
theorem d_E_symbolBehind_30 : decode b_E_symbolBehind 30 = .ok (.aload_n 0, 1) := by decide +kernel
theorem d_E_symbolBehind_31 : decode b_E_symbolBehind 31 = .ok (.aload_n 0, 1) := by decide +kernel
theorem d_E_symbolBehind_32 : decode b_E_symbolBehind 32 = .ok (.getfield 28, 3) := by decide +kernel
theorem d_E_symbolBehind_35 : decode b_E_symbolBehind 35 = .ok (.putfield 25, 3) := by decide +kernel
theorem d_E_symbolBehind_38 : decode b_E_symbolBehind 38 = .ok (.aload_n 0, 1) := by decide +kernel
theorem d_E_symbolBehind_39 : decode b_E_symbolBehind 39 = .ok (.iload_n 2, 1) := by decide +kernel
theorem d_E_symbolBehind_40 : decode b_E_symbolBehind 40 = .ok (.putfield 28, 3) := by decide +kernel
theorem d_E_symbolBehind_43 : decode b_E_symbolBehind 43 = .ok (.iload_n 3, 1) := by decide +kernel
theorem d_E_symbolBehind_44 : decode b_E_symbolBehind 44 = .ok (.ireturn, 1) := by decide +kernel
theorem d_E_pulseOfOne_0 : decode b_E_pulseOfOne 0 = .ok (.aload_n 0, 1) := by decide +kernel
theorem d_E_pulseOfOne_1 : decode b_E_pulseOfOne 1 = .ok (.iconst 0, 1) := by decide +kernel
theorem d_E_pulseOfOne_2 : decode b_E_pulseOfOne 2 = .ok (.putfield 19, 3) := by decide +kernel
theorem d_E_pulseOfOne_5 : decode b_E_pulseOfOne 5 = .ok (.aload_n 0, 1) := by decide +kernel
theorem d_E_pulseOfOne_6 : decode b_E_pulseOfOne 6 = .ok (.aload_n 0, 1) := by decide +kernel
theorem d_E_pulseOfOne_7 : decode b_E_pulseOfOne 7 = .ok (.getfield 15, 3) := by decide +kernel
theorem d_E_pulseOfOne_10 : decode b_E_pulseOfOne 10 = .ok (.ifCond .ne 7, 3) := by decide +kernel
theorem d_E_pulseOfOne_13 : decode b_E_pulseOfOne 13 = .ok (.iconst 1, 1) := by decide +kernel
theorem d_E_pulseOfOne_14 : decode b_E_pulseOfOne 14 = .ok (.goto 4, 3) := by decide +kernel
theorem d_E_pulseOfOne_17 : decode b_E_pulseOfOne 17 = .ok (.iconst 0, 1) := by decide +kernel
theorem d_E_pulseOfOne_18 : decode b_E_pulseOfOne 18 = .ok (.putfield 15, 3) := by decide +kernel
theorem d_E_pulseOfOne_21 : decode b_E_pulseOfOne 21 = .ok (.aload_n 0, 1) := by decide +kernel
theorem d_E_pulseOfOne_22 : decode b_E_pulseOfOne 22 = .ok (.aload_n 0, 1) := by decide +kernel
theorem d_E_pulseOfOne_23 : decode b_E_pulseOfOne 23 = .ok (.getfield 9, 3) := by decide +kernel
theorem d_E_pulseOfOne_26 : decode b_E_pulseOfOne 26 = .ok (.ineg, 1) := by decide +kernel
theorem d_E_pulseOfOne_27 : decode b_E_pulseOfOne 27 = .ok (.putfield 9, 3) := by decide +kernel
theorem d_E_pulseOfOne_30 : decode b_E_pulseOfOne 30 = .ok (.aload_n 0, 1) := by decide +kernel
theorem d_E_pulseOfOne_31 : decode b_E_pulseOfOne 31 = .ok (.getfield 9, 3) := by decide +kernel
theorem d_E_pulseOfOne_34 : decode b_E_pulseOfOne 34 = .ok (.ireturn, 1) := by decide +kernel
theorem d_E_symbolOfZero_0 : decode b_E_symbolOfZero 0 = .ok (.aload_n 0, 1) := by decide +kernel
theorem d_E_symbolOfZero_1 : decode b_E_symbolOfZero 1 = .ok (.dup, 1) := by decide +kernel
theorem d_E_symbolOfZero_2 : decode b_E_symbolOfZero 2 = .ok (.getfield 19, 3) := by decide +kernel
theorem d_E_symbolOfZero_5 : decode b_E_symbolOfZero 5 = .ok (.iconst 1, 1) := by decide +kernel
theorem d_E_symbolOfZero_6 : decode b_E_symbolOfZero 6 = .ok (.iadd, 1) := by decide +kernel
theorem d_E_symbolOfZero_7 : decode b_E_symbolOfZero 7 = .ok (.putfield 19, 3) := by decide +kernel
theorem d_E_symbolOfZero_10 : decode b_E_symbolOfZero 10 = .ok (.aload_n 0, 1) := by decide +kernel
theorem d_E_symbolOfZero_11 : decode b_E_symbolOfZero 11 = .ok (.getfield 19, 3) := by decide +kernel
theorem d_E_symbolOfZero_14 : decode b_E_symbolOfZero 14 = .ok (.iconst 3, 1) := by decide +kernel
theorem d_E_symbolOfZero_15 : decode b_E_symbolOfZero 15 = .ok (.if_icmp .gt 5, 3) := by decide +kernel
theorem d_E_symbolOfZero_18 : decode b_E_symbolOfZero 18 = .ok (.iconst 0, 1) := by decide +kernel
theorem d_E_symbolOfZero_19 : decode b_E_symbolOfZero 19 = .ok (.ireturn, 1) := by decide +kernel
theorem d_E_symbolOfZero_20 : decode b_E_symbolOfZero 20 = .ok (.aload_n 0, 1) := by decide +kernel
theorem d_E_symbolOfZero_21 : decode b_E_symbolOfZero 21 = .ok (.getfield 15, 3) := by decide +kernel
theorem d_E_symbolOfZero_24 : decode b_E_symbolOfZero 24 = .ok (.ifCond .ne 20, 3) := by decide +kernel
theorem d_E_symbolOfZero_27 : decode b_E_symbolOfZero 27 = .ok (.aload_n 0, 1) := by decide +kernel
theorem d_E_symbolOfZero_28 : decode b_E_symbolOfZero 28 = .ok (.aload_n 0, 1) := by decide +kernel
theorem d_E_symbolOfZero_29 : decode b_E_symbolOfZero 29 = .ok (.getfield 9, 3) := by decide +kernel
theorem d_E_symbolOfZero_32 : decode b_E_symbolOfZero 32 = .ok (.ineg, 1) := by decide +kernel
theorem d_E_symbolOfZero_33 : decode b_E_symbolOfZero 33 = .ok (.putfield 9, 3) := by decide +kernel
theorem d_E_symbolOfZero_36 : decode b_E_symbolOfZero 36 = .ok (.aload_n 0, 1) := by decide +kernel
theorem d_E_symbolOfZero_37 : decode b_E_symbolOfZero 37 = .ok (.aload_n 0, 1) := by decide +kernel
theorem d_E_symbolOfZero_38 : decode b_E_symbolOfZero 38 = .ok (.getfield 9, 3) := by decide +kernel
theorem d_E_symbolOfZero_41 : decode b_E_symbolOfZero 41 = .ok (.putfield 22, 3) := by decide +kernel
theorem d_E_symbolOfZero_44 : decode b_E_symbolOfZero 44 = .ok (.aload_n 0, 1) := by decide +kernel
theorem d_E_symbolOfZero_45 : decode b_E_symbolOfZero 45 = .ok (.iconst 0, 1) := by decide +kernel
theorem d_E_symbolOfZero_46 : decode b_E_symbolOfZero 46 = .ok (.putfield 19, 3) := by decide +kernel
theorem d_E_symbolOfZero_49 : decode b_E_symbolOfZero 49 = .ok (.aload_n 0, 1) := by decide +kernel
theorem d_E_symbolOfZero_50 : decode b_E_symbolOfZero 50 = .ok (.iconst 0, 1) := by decide +kernel
theorem d_E_symbolOfZero_51 : decode b_E_symbolOfZero 51 = .ok (.putfield 15, 3) := by decide +kernel
theorem d_E_symbolOfZero_54 : decode b_E_symbolOfZero 54 = .ok (.aload_n 0, 1) := by decide +kernel
theorem d_E_symbolOfZero_55 : decode b_E_symbolOfZero 55 = .ok (.getfield 9, 3) := by decide +kernel
theorem d_E_symbolOfZero_58 : decode b_E_symbolOfZero 58 = .ok (.ireturn, 1) := by decide +kernel
theorem d_N_send_0 : decode b_N_send 0 = .ok (.aload_n 0, 1) := by decide +kernel
theorem d_N_send_1 : decode b_N_send 1 = .ok (.getfield 12, 3) := by decide +kernel
theorem d_N_send_4 : decode b_N_send 4 = .ok (.invokevirtual 46, 3) := by decide +kernel
theorem d_N_send_7 : decode b_N_send 7 = .ok (.ifCond .eq 14, 3) := by decide +kernel
theorem d_N_send_10 : decode b_N_send 10 = .ok (.aload_n 0, 1) := by decide +kernel
theorem d_N_send_11 : decode b_N_send 11 = .ok (.getfield 12, 3) := by decide +kernel
theorem d_N_send_14 : decode b_N_send 14 = .ok (.aload_n 0, 1) := by decide +kernel
theorem d_N_send_15 : decode b_N_send 15 = .ok (.getfield 42, 3) := by decide +kernel
theorem d_N_send_18 : decode b_N_send 18 = .ok (.invokevirtual 50, 3) := by decide +kernel
theorem d_N_send_21 : decode b_N_send 21 = .ok (.aload_n 0, 1) := by decide +kernel
theorem d_N_send_22 : decode b_N_send 22 = .ok (.getfield 21, 3) := by decide +kernel
theorem d_N_send_25 : decode b_N_send 25 = .ok (.aload_n 0, 1) := by decide +kernel
theorem d_N_send_26 : decode b_N_send 26 = .ok (.getfield 12, 3) := by decide +kernel
theorem d_N_send_29 : decode b_N_send 29 = .ok (.invokevirtual 54, 3) := by decide +kernel
theorem d_N_send_32 : decode b_N_send 32 = .ok (.invokevirtual 58, 3) := by decide +kernel
theorem d_N_send_35 : decode b_N_send 35 = .ok (.ireturn, 1) := by decide +kernel
theorem d_N_receive_0 : decode b_N_receive 0 = .ok (.aload_n 0, 1) := by decide +kernel
theorem d_N_receive_1 : decode b_N_receive 1 = .ok (.getfield 28, 3) := by decide +kernel
theorem d_N_receive_4 : decode b_N_receive 4 = .ok (.iload_n 1, 1) := by decide +kernel
theorem d_N_receive_5 : decode b_N_receive 5 = .ok (.iload_n 2, 1) := by decide +kernel
theorem d_N_receive_6 : decode b_N_receive 6 = .ok (.invokevirtual 62, 3) := by decide +kernel
theorem d_N_receive_9 : decode b_N_receive 9 = .ok (.istore_n 3, 1) := by decide +kernel
theorem d_N_receive_10 : decode b_N_receive 10 = .ok (.aload_n 0, 1) := by decide +kernel
theorem d_N_receive_11 : decode b_N_receive 11 = .ok (.getfield 28, 3) := by decide +kernel
theorem d_N_receive_14 : decode b_N_receive 14 = .ok (.invokevirtual 66, 3) := by decide +kernel
theorem d_N_receive_17 : decode b_N_receive 17 = .ok (.istore 4, 2) := by decide +kernel
theorem d_N_receive_19 : decode b_N_receive 19 = .ok (.iconst 0, 1) := by decide +kernel
theorem d_N_receive_20 : decode b_N_receive 20 = .ok (.istore 5, 2) := by decide +kernel
theorem d_N_receive_22 : decode b_N_receive 22 = .ok (.iload 5, 2) := by decide +kernel
theorem d_N_receive_24 : decode b_N_receive 24 = .ok (.iload 4, 2) := by decide +kernel
theorem d_N_receive_26 : decode b_N_receive 26 = .ok (.if_icmp .ge 34, 3) := by decide +kernel
theorem d_N_receive_29 : decode b_N_receive 29 = .ok (.aload_n 0, 1) := by decide +kernel
theorem d_N_receive_30 : decode b_N_receive 30 = .ok (.getfield 35, 3) := by decide +kernel
theorem d_N_receive_33 : decode b_N_receive 33 = .ok (.iload_n 3, 1) := by decide +kernel
theorem d_N_receive_34 : decode b_N_receive 34 = .ok (.invokevirtual 69, 3) := by decide +kernel
theorem d_N_receive_37 : decode b_N_receive 37 = .ok (.istore 6, 2) := by decide +kernel
theorem d_N_receive_39 : decode b_N_receive 39 = .ok (.iload 6, 2) := by decide +kernel
theorem d_N_receive_41 : decode b_N_receive 41 = .ok (.iconst (-1), 1) := by decide +kernel
theorem d_N_receive_42 : decode b_N_receive 42 = .ok (.if_icmp .eq 12, 3) := by decide +kernel
theorem d_N_receive_45 : decode b_N_receive 45 = .ok (.aload_n 0, 1) := by decide +kernel
theorem d_N_receive_46 : decode b_N_receive 46 = .ok (.getfield 42, 3) := by decide +kernel
theorem d_N_receive_49 : decode b_N_receive 49 = .ok (.iload 6, 2) := by decide +kernel
theorem d_N_receive_51 : decode b_N_receive 51 = .ok (.invokevirtual 72, 3) := by decide +kernel
theorem d_N_receive_54 : decode b_N_receive 54 = .ok (.iinc 5 1, 3) := by decide +kernel
theorem d_N_receive_57 : decode b_N_receive 57 = .ok (.goto (-35), 3) := by decide +kernel
theorem d_N_receive_60 : decode b_N_receive 60 = .ok (.return_, 1) := by decide +kernel
theorem d_R_isAligned_0 : decode b_R_isAligned 0 = .ok (.aload_n 0, 1) := by decide +kernel
theorem d_R_isAligned_1 : decode b_R_isAligned 1 = .ok (.getfield 24, 3) := by decide +kernel
theorem d_R_isAligned_4 : decode b_R_isAligned 4 = .ok (.getstatic 53, 3) := by decide +kernel
theorem d_R_isAligned_7 : decode b_R_isAligned 7 = .ok (.if_acmp .ne 7, 3) := by decide +kernel
theorem d_R_isAligned_10 : decode b_R_isAligned 10 = .ok (.iconst 1, 1) := by decide +kernel
theorem d_R_isAligned_11 : decode b_R_isAligned 11 = .ok (.goto 4, 3) := by decide +kernel
theorem d_R_isAligned_14 : decode b_R_isAligned 14 = .ok (.iconst 0, 1) := by decide +kernel
theorem d_R_isAligned_15 : decode b_R_isAligned 15 = .ok (.ireturn, 1) := by decide +kernel
theorem d_R_byteOf_0 : decode b_R_byteOf 0 = .ok (.aload_n 0, 1) := by decide +kernel
theorem d_R_byteOf_1 : decode b_R_byteOf 1 = .ok (.getfield 44, 3) := by decide +kernel
theorem d_R_byteOf_4 : decode b_R_byteOf 4 = .ok (.ifCond .ne 5, 3) := by decide +kernel
theorem d_R_byteOf_7 : decode b_R_byteOf 7 = .ok (.iconst (-1), 1) := by decide +kernel
theorem d_R_byteOf_8 : decode b_R_byteOf 8 = .ok (.ireturn, 1) := by decide +kernel
theorem d_R_byteOf_9 : decode b_R_byteOf 9 = .ok (.aload_n 0, 1) := by decide +kernel
theorem d_R_byteOf_10 : decode b_R_byteOf 10 = .ok (.getfield 41, 3) := by decide +kernel
theorem d_R_byteOf_13 : decode b_R_byteOf 13 = .ok (.bipush 32, 2) := by decide +kernel
theorem d_R_byteOf_15 : decode b_R_byteOf 15 = .ok (.bipush 8, 2) := by decide +kernel
theorem d_R_byteOf_17 : decode b_R_byteOf 17 = .ok (.iload_n 1, 1) := by decide +kernel
theorem d_R_byteOf_18 : decode b_R_byteOf 18 = .ok (.iconst 1, 1) := by decide +kernel
theorem d_R_byteOf_19 : decode b_R_byteOf 19 = .ok (.iadd, 1) := by decide +kernel
theorem d_R_byteOf_20 : decode b_R_byteOf 20 = .ok (.imul, 1) := by decide +kernel
theorem d_R_byteOf_21 : decode b_R_byteOf 21 = .ok (.isub, 1) := by decide +kernel
theorem d_R_byteOf_22 : decode b_R_byteOf 22 = .ok (.iushr, 1) := by decide +kernel
theorem d_R_byteOf_23 : decode b_R_byteOf 23 = .ok (.sipush 255, 3) := by decide +kernel
theorem d_R_byteOf_26 : decode b_R_byteOf 26 = .ok (.iand, 1) := by decide +kernel
theorem d_R_byteOf_27 : decode b_R_byteOf 27 = .ok (.ireturn, 1) := by decide +kernel
theorem d_R_takeBit_0 : decode b_R_takeBit 0 = .ok (.aload_n 0, 1) := by decide +kernel
theorem d_R_takeBit_1 : decode b_R_takeBit 1 = .ok (.aload_n 0, 1) := by decide +kernel
theorem d_R_takeBit_2 : decode b_R_takeBit 2 = .ok (.getfield 27, 3) := by decide +kernel
theorem d_R_takeBit_5 : decode b_R_takeBit 5 = .ok (.iconst 1, 1) := by decide +kernel
theorem d_R_takeBit_6 : decode b_R_takeBit 6 = .ok (.ishl, 1) := by decide +kernel
theorem d_R_takeBit_7 : decode b_R_takeBit 7 = .ok (.iload_n 1, 1) := by decide +kernel
theorem d_R_takeBit_8 : decode b_R_takeBit 8 = .ok (.ior, 1) := by decide +kernel
theorem d_R_takeBit_9 : decode b_R_takeBit 9 = .ok (.putfield 27, 3) := by decide +kernel
theorem d_R_takeBit_12 : decode b_R_takeBit 12 = .ok (.aload_n 0, 1) := by decide +kernel
theorem d_R_takeBit_13 : decode b_R_takeBit 13 = .ok (.dup, 1) := by decide +kernel
theorem d_R_takeBit_14 : decode b_R_takeBit 14 = .ok (.getfield 31, 3) := by decide +kernel
theorem d_R_takeBit_17 : decode b_R_takeBit 17 = .ok (.iconst 1, 1) := by decide +kernel
theorem d_R_takeBit_18 : decode b_R_takeBit 18 = .ok (.iadd, 1) := by decide +kernel
theorem d_R_takeBit_19 : decode b_R_takeBit 19 = .ok (.putfield 31, 3) := by decide +kernel
theorem d_R_takeBit_22 : decode b_R_takeBit 22 = .ok (.aload_n 0, 1) := by decide +kernel
theorem d_R_takeBit_23 : decode b_R_takeBit 23 = .ok (.getfield 24, 3) := by decide +kernel
theorem d_R_takeBit_26 : decode b_R_takeBit 26 = .ok (.getstatic 18, 3) := by decide +kernel
theorem d_R_takeBit_29 : decode b_R_takeBit 29 = .ok (.if_acmp .ne 10, 3) := by decide +kernel
theorem d_R_takeBit_32 : decode b_R_takeBit 32 = .ok (.aload_n 0, 1) := by decide +kernel
theorem d_R_takeBit_33 : decode b_R_takeBit 33 = .ok (.invokevirtual 56, 3) := by decide +kernel
theorem d_R_takeBit_36 : decode b_R_takeBit 36 = .ok (.goto 57, 3) := by decide +kernel
theorem d_R_takeBit_39 : decode b_R_takeBit 39 = .ok (.aload_n 0, 1) := by decide +kernel
theorem d_R_takeBit_40 : decode b_R_takeBit 40 = .ok (.getfield 24, 3) := by decide +kernel
theorem d_R_takeBit_43 : decode b_R_takeBit 43 = .ok (.getstatic 59, 3) := by decide +kernel
theorem d_R_takeBit_46 : decode b_R_takeBit 46 = .ok (.if_acmp .ne 11, 3) := by decide +kernel
theorem d_R_takeBit_49 : decode b_R_takeBit 49 = .ok (.aload_n 0, 1) := by decide +kernel
theorem d_R_takeBit_50 : decode b_R_takeBit 50 = .ok (.iload_n 1, 1) := by decide +kernel
theorem d_R_takeBit_51 : decode b_R_takeBit 51 = .ok (.invokevirtual 62, 3) := by decide +kernel
theorem d_R_takeBit_54 : decode b_R_takeBit 54 = .ok (.goto 39, 3) := by decide +kernel
theorem d_R_takeBit_57 : decode b_R_takeBit 57 = .ok (.aload_n 0, 1) := by decide +kernel
theorem d_R_takeBit_58 : decode b_R_takeBit 58 = .ok (.getfield 31, 3) := by decide +kernel
theorem d_R_takeBit_61 : decode b_R_takeBit 61 = .ok (.bipush 32, 2) := by decide +kernel
theorem d_R_takeBit_63 : decode b_R_takeBit 63 = .ok (.if_icmp .ne 10, 3) := by decide +kernel
theorem d_R_takeBit_66 : decode b_R_takeBit 66 = .ok (.aload_n 0, 1) := by decide +kernel
theorem d_R_takeBit_67 : decode b_R_takeBit 67 = .ok (.invokevirtual 66, 3) := by decide +kernel
theorem d_R_takeBit_70 : decode b_R_takeBit 70 = .ok (.goto 23, 3) := by decide +kernel
theorem d_R_takeBit_73 : decode b_R_takeBit 73 = .ok (.aload_n 0, 1) := by decide +kernel
theorem d_R_takeBit_74 : decode b_R_takeBit 74 = .ok (.getfield 31, 3) := by decide +kernel
theorem d_R_takeBit_77 : decode b_R_takeBit 77 = .ok (.bipush 8, 2) := by decide +kernel
theorem d_R_takeBit_79 : decode b_R_takeBit 79 = .ok (.if_icmp .ne 14, 3) := by decide +kernel
theorem d_R_takeBit_82 : decode b_R_takeBit 82 = .ok (.aload_n 0, 1) := by decide +kernel
theorem d_R_takeBit_83 : decode b_R_takeBit 83 = .ok (.getfield 34, 3) := by decide +kernel
theorem d_R_takeBit_86 : decode b_R_takeBit 86 = .ok (.ifCond .ne 7, 3) := by decide +kernel
theorem d_R_takeBit_89 : decode b_R_takeBit 89 = .ok (.aload_n 0, 1) := by decide +kernel
theorem d_R_takeBit_90 : decode b_R_takeBit 90 = .ok (.invokevirtual 69, 3) := by decide +kernel
theorem d_R_takeBit_93 : decode b_R_takeBit 93 = .ok (.return_, 1) := by decide +kernel
theorem d_R_search_0 : decode b_R_search 0 = .ok (.aload_n 0, 1) := by decide +kernel
theorem d_R_search_1 : decode b_R_search 1 = .ok (.getfield 31, 3) := by decide +kernel
theorem d_R_search_4 : decode b_R_search 4 = .ok (.bipush 7, 2) := by decide +kernel
theorem d_R_search_6 : decode b_R_search 6 = .ok (.if_icmp .lt 17, 3) := by decide +kernel
theorem d_R_search_9 : decode b_R_search 9 = .ok (.aload_n 0, 1) := by decide +kernel
theorem d_R_search_10 : decode b_R_search 10 = .ok (.invokevirtual 72, 3) := by decide +kernel
theorem d_R_search_13 : decode b_R_search 13 = .ok (.ifCond .eq 10, 3) := by decide +kernel
theorem d_R_search_16 : decode b_R_search 16 = .ok (.aload_n 0, 1) := by decide +kernel
theorem d_R_search_17 : decode b_R_search 17 = .ok (.getstatic 59, 3) := by decide +kernel
theorem d_R_search_20 : decode b_R_search 20 = .ok (.invokevirtual 76, 3) := by decide +kernel
theorem d_R_search_23 : decode b_R_search 23 = .ok (.return_, 1) := by decide +kernel
theorem d_R_tryWord_0 : decode b_R_tryWord 0 = .ok (.aload_n 0, 1) := by decide +kernel
theorem d_R_tryWord_1 : decode b_R_tryWord 1 = .ok (.getfield 31, 3) := by decide +kernel
theorem d_R_tryWord_4 : decode b_R_tryWord 4 = .ok (.bipush 26, 2) := by decide +kernel
theorem d_R_tryWord_6 : decode b_R_tryWord 6 = .ok (.if_icmp .ne 17, 3) := by decide +kernel
theorem d_R_tryWord_9 : decode b_R_tryWord 9 = .ok (.iload_n 1, 1) := by decide +kernel
theorem d_R_tryWord_10 : decode b_R_tryWord 10 = .ok (.ifCond .ne 13, 3) := by decide +kernel
theorem d_R_tryWord_13 : decode b_R_tryWord 13 = .ok (.aload_n 0, 1) := by decide +kernel
theorem d_R_tryWord_14 : decode b_R_tryWord 14 = .ok (.getstatic 18, 3) := by decide +kernel
theorem d_R_tryWord_17 : decode b_R_tryWord 17 = .ok (.invokevirtual 76, 3) := by decide +kernel
theorem d_R_tryWord_20 : decode b_R_tryWord 20 = .ok (.goto 33, 3) := by decide +kernel
theorem d_R_tryWord_23 : decode b_R_tryWord 23 = .ok (.aload_n 0, 1) := by decide +kernel
theorem d_R_tryWord_24 : decode b_R_tryWord 24 = .ok (.getfield 31, 3) := by decide +kernel
theorem d_R_tryWord_27 : decode b_R_tryWord 27 = .ok (.bipush 64, 2) := by decide +kernel
theorem d_R_tryWord_29 : decode b_R_tryWord 29 = .ok (.if_icmp .ne 24, 3) := by decide +kernel
theorem d_R_tryWord_32 : decode b_R_tryWord 32 = .ok (.aload_n 0, 1) := by decide +kernel
theorem d_R_tryWord_33 : decode b_R_tryWord 33 = .ok (.invokevirtual 72, 3) := by decide +kernel
theorem d_R_tryWord_36 : decode b_R_tryWord 36 = .ok (.ifCond .eq 10, 3) := by decide +kernel
theorem d_R_tryWord_39 : decode b_R_tryWord 39 = .ok (.aload_n 0, 1) := by decide +kernel
theorem d_R_tryWord_40 : decode b_R_tryWord 40 = .ok (.invokevirtual 80, 3) := by decide +kernel
theorem d_R_tryWord_43 : decode b_R_tryWord 43 = .ok (.goto 10, 3) := by decide +kernel
theorem d_R_tryWord_46 : decode b_R_tryWord 46 = .ok (.aload_n 0, 1) := by decide +kernel
theorem d_R_tryWord_47 : decode b_R_tryWord 47 = .ok (.getstatic 18, 3) := by decide +kernel
theorem d_R_tryWord_50 : decode b_R_tryWord 50 = .ok (.invokevirtual 76, 3) := by decide +kernel
theorem d_R_tryWord_53 : decode b_R_tryWord 53 = .ok (.return_, 1) := by decide +kernel
theorem d_R_align_0 : decode b_R_align 0 = .ok (.aload_n 0, 1) := by decide +kernel
theorem d_R_align_1 : decode b_R_align 1 = .ok (.getstatic 53, 3) := by decide +kernel
theorem d_R_align_4 : decode b_R_align 4 = .ok (.invokevirtual 76, 3) := by decide +kernel
theorem d_R_align_7 : decode b_R_align 7 = .ok (.aload_n 0, 1) := by decide +kernel
theorem d_R_align_8 : decode b_R_align 8 = .ok (.bipush 8, 2) := by decide +kernel
theorem d_R_align_10 : decode b_R_align 10 = .ok (.putfield 31, 3) := by decide +kernel
theorem d_R_align_13 : decode b_R_align 13 = .ok (.aload_n 0, 1) := by decide +kernel
theorem d_R_align_14 : decode b_R_align 14 = .ok (.iconst 0, 1) := by decide +kernel
theorem d_R_align_15 : decode b_R_align 15 = .ok (.putfield 34, 3) := by decide +kernel
theorem d_R_align_18 : decode b_R_align 18 = .ok (.aload_n 0, 1) := by decide +kernel
theorem d_R_align_19 : decode b_R_align 19 = .ok (.iconst 0, 1) := by decide +kernel
theorem d_R_align_20 : decode b_R_align 20 = .ok (.putfield 38, 3) := by decide +kernel
theorem d_R_align_23 : decode b_R_align 23 = .ok (.return_, 1) := by decide +kernel
theorem d_R_lookAtWord_0 : decode b_R_lookAtWord 0 = .ok (.aload_n 0, 1) := by decide +kernel
theorem d_R_lookAtWord_1 : decode b_R_lookAtWord 1 = .ok (.aload_n 0, 1) := by decide +kernel
theorem d_R_lookAtWord_2 : decode b_R_lookAtWord 2 = .ok (.invokevirtual 72, 3) := by decide +kernel
theorem d_R_lookAtWord_5 : decode b_R_lookAtWord 5 = .ok (.ifCond .eq 7, 3) := by decide +kernel
theorem d_R_lookAtWord_8 : decode b_R_lookAtWord 8 = .ok (.iconst 0, 1) := by decide +kernel
theorem d_R_lookAtWord_9 : decode b_R_lookAtWord 9 = .ok (.goto 9, 3) := by decide +kernel
theorem d_R_lookAtWord_12 : decode b_R_lookAtWord 12 = .ok (.aload_n 0, 1) := by decide +kernel
theorem d_R_lookAtWord_13 : decode b_R_lookAtWord 13 = .ok (.getfield 38, 3) := by decide +kernel
theorem d_R_lookAtWord_16 : decode b_R_lookAtWord 16 = .ok (.iconst 1, 1) := by decide +kernel
theorem d_R_lookAtWord_17 : decode b_R_lookAtWord 17 = .ok (.iadd, 1) := by decide +kernel
theorem d_R_lookAtWord_18 : decode b_R_lookAtWord 18 = .ok (.putfield 38, 3) := by decide +kernel
theorem d_R_lookAtWord_21 : decode b_R_lookAtWord 21 = .ok (.aload_n 0, 1) := by decide +kernel
theorem d_R_lookAtWord_22 : decode b_R_lookAtWord 22 = .ok (.getfield 38, 3) := by decide +kernel
theorem d_R_lookAtWord_25 : decode b_R_lookAtWord 25 = .ok (.iconst 3, 1) := by decide +kernel
theorem d_R_lookAtWord_26 : decode b_R_lookAtWord 26 = .ok (.if_icmp .ne 27, 3) := by decide +kernel
theorem d_R_lookAtWord_29 : decode b_R_lookAtWord 29 = .ok (.aload_n 0, 1) := by decide +kernel
theorem d_R_lookAtWord_30 : decode b_R_lookAtWord 30 = .ok (.dup, 1) := by decide +kernel
theorem d_R_lookAtWord_31 : decode b_R_lookAtWord 31 = .ok (.getfield 47, 3) := by decide +kernel
theorem d_R_lookAtWord_34 : decode b_R_lookAtWord 34 = .ok (.iconst 1, 1) := by decide +kernel
theorem d_R_lookAtWord_35 : decode b_R_lookAtWord 35 = .ok (.iadd, 1) := by decide +kernel
theorem d_R_lookAtWord_36 : decode b_R_lookAtWord 36 = .ok (.putfield 47, 3) := by decide +kernel
theorem d_R_lookAtWord_39 : decode b_R_lookAtWord 39 = .ok (.aload_n 0, 1) := by decide +kernel
theorem d_R_lookAtWord_40 : decode b_R_lookAtWord 40 = .ok (.getstatic 18, 3) := by decide +kernel
theorem d_R_lookAtWord_43 : decode b_R_lookAtWord 43 = .ok (.invokevirtual 76, 3) := by decide +kernel
theorem d_R_lookAtWord_46 : decode b_R_lookAtWord 46 = .ok (.aload_n 0, 1) := by decide +kernel
theorem d_R_lookAtWord_47 : decode b_R_lookAtWord 47 = .ok (.getfield 12, 3) := by decide +kernel
theorem d_R_lookAtWord_50 : decode b_R_lookAtWord 50 = .ok (.invokevirtual 83, 3) := by decide +kernel
theorem d_R_lookAtWord_53 : decode b_R_lookAtWord 53 = .ok (.return_, 1) := by decide +kernel
theorem d_R_complete_0 : decode b_R_complete 0 = .ok (.aload_n 0, 1) := by decide +kernel
theorem d_R_complete_1 : decode b_R_complete 1 = .ok (.aload_n 0, 1) := by decide +kernel
theorem d_R_complete_2 : decode b_R_complete 2 = .ok (.getfield 27, 3) := by decide +kernel
theorem d_R_complete_5 : decode b_R_complete 5 = .ok (.putfield 41, 3) := by decide +kernel
theorem d_R_complete_8 : decode b_R_complete 8 = .ok (.aload_n 0, 1) := by decide +kernel
theorem d_R_complete_9 : decode b_R_complete 9 = .ok (.dup, 1) := by decide +kernel
theorem d_R_complete_10 : decode b_R_complete 10 = .ok (.getfield 44, 3) := by decide +kernel
theorem d_R_complete_13 : decode b_R_complete 13 = .ok (.iconst 1, 1) := by decide +kernel
theorem d_R_complete_14 : decode b_R_complete 14 = .ok (.iadd, 1) := by decide +kernel
theorem d_R_complete_15 : decode b_R_complete 15 = .ok (.putfield 44, 3) := by decide +kernel
theorem d_R_complete_18 : decode b_R_complete 18 = .ok (.aload_n 0, 1) := by decide +kernel
theorem d_R_complete_19 : decode b_R_complete 19 = .ok (.getfield 34, 3) := by decide +kernel
theorem d_R_complete_22 : decode b_R_complete 22 = .ok (.ifCond .eq 23, 3) := by decide +kernel
theorem d_R_complete_25 : decode b_R_complete 25 = .ok (.aload_n 0, 1) := by decide +kernel
theorem d_R_complete_26 : decode b_R_complete 26 = .ok (.aload_n 0, 1) := by decide +kernel
theorem d_R_complete_27 : decode b_R_complete 27 = .ok (.iconst 0, 1) := by decide +kernel
theorem d_R_complete_28 : decode b_R_complete 28 = .ok (.invokevirtual 86, 3) := by decide +kernel
theorem d_R_complete_31 : decode b_R_complete 31 = .ok (.bipush 32, 2) := by decide +kernel
theorem d_R_complete_33 : decode b_R_complete 33 = .ok (.iand, 1) := by decide +kernel
theorem d_R_complete_34 : decode b_R_complete 34 = .ok (.ifCond .eq 7, 3) := by decide +kernel
theorem d_R_complete_37 : decode b_R_complete 37 = .ok (.iconst 1, 1) := by decide +kernel
theorem d_R_complete_38 : decode b_R_complete 38 = .ok (.goto 4, 3) := by decide +kernel
theorem d_R_complete_41 : decode b_R_complete 41 = .ok (.iconst 0, 1) := by decide +kernel
theorem d_R_complete_42 : decode b_R_complete 42 = .ok (.putfield 50, 3) := by decide +kernel
theorem d_R_complete_45 : decode b_R_complete 45 = .ok (.aload_n 0, 1) := by decide +kernel
theorem d_R_complete_46 : decode b_R_complete 46 = .ok (.getfield 12, 3) := by decide +kernel
theorem d_R_complete_49 : decode b_R_complete 49 = .ok (.aload_n 0, 1) := by decide +kernel
theorem d_R_complete_50 : decode b_R_complete 50 = .ok (.getfield 41, 3) := by decide +kernel
theorem d_R_complete_53 : decode b_R_complete 53 = .ok (.aload_n 0, 1) := by decide +kernel
theorem d_R_complete_54 : decode b_R_complete 54 = .ok (.getfield 34, 3) := by decide +kernel
theorem d_R_complete_57 : decode b_R_complete 57 = .ok (.invokevirtual 90, 3) := by decide +kernel
theorem d_R_complete_60 : decode b_R_complete 60 = .ok (.aload_n 0, 1) := by decide +kernel
theorem d_R_complete_61 : decode b_R_complete 61 = .ok (.aload_n 0, 1) := by decide +kernel
theorem d_R_complete_62 : decode b_R_complete 62 = .ok (.getfield 34, 3) := by decide +kernel
theorem d_R_complete_65 : decode b_R_complete 65 = .ok (.ifCond .ne 7, 3) := by decide +kernel
theorem d_R_complete_68 : decode b_R_complete 68 = .ok (.iconst 1, 1) := by decide +kernel
theorem d_R_complete_69 : decode b_R_complete 69 = .ok (.goto 4, 3) := by decide +kernel
theorem d_R_complete_72 : decode b_R_complete 72 = .ok (.iconst 0, 1) := by decide +kernel
theorem d_R_complete_73 : decode b_R_complete 73 = .ok (.putfield 34, 3) := by decide +kernel
theorem d_R_complete_76 : decode b_R_complete 76 = .ok (.aload_n 0, 1) := by decide +kernel
theorem d_R_complete_77 : decode b_R_complete 77 = .ok (.iconst 0, 1) := by decide +kernel
theorem d_R_complete_78 : decode b_R_complete 78 = .ok (.putfield 31, 3) := by decide +kernel
theorem d_R_complete_81 : decode b_R_complete 81 = .ok (.return_, 1) := by decide +kernel
theorem d_R_wordStands_0 : decode b_R_wordStands 0 = .ok (.aload_n 0, 1) := by decide +kernel
theorem d_R_wordStands_1 : decode b_R_wordStands 1 = .ok (.getfield 27, 3) := by decide +kernel
theorem d_R_wordStands_4 : decode b_R_wordStands 4 = .ok (.bipush 127, 2) := by decide +kernel
theorem d_R_wordStands_6 : decode b_R_wordStands 6 = .ok (.iand, 1) := by decide +kernel
theorem d_R_wordStands_7 : decode b_R_wordStands 7 = .ok (.bipush 27, 2) := by decide +kernel
theorem d_R_wordStands_9 : decode b_R_wordStands 9 = .ok (.if_icmp .ne 7, 3) := by decide +kernel
theorem d_R_wordStands_12 : decode b_R_wordStands 12 = .ok (.iconst 1, 1) := by decide +kernel
theorem d_R_wordStands_13 : decode b_R_wordStands 13 = .ok (.goto 4, 3) := by decide +kernel
theorem d_R_wordStands_16 : decode b_R_wordStands 16 = .ok (.iconst 0, 1) := by decide +kernel
theorem d_R_wordStands_17 : decode b_R_wordStands 17 = .ok (.ireturn, 1) := by decide +kernel
theorem d_R_enter_0 : decode b_R_enter 0 = .ok (.aload_n 0, 1) := by decide +kernel
theorem d_R_enter_1 : decode b_R_enter 1 = .ok (.aload_n 1, 1) := by decide +kernel
theorem d_R_enter_2 : decode b_R_enter 2 = .ok (.putfield 24, 3) := by decide +kernel
theorem d_R_enter_5 : decode b_R_enter 5 = .ok (.aload_n 0, 1) := by decide +kernel
theorem d_R_enter_6 : decode b_R_enter 6 = .ok (.iconst 0, 1) := by decide +kernel
theorem d_R_enter_7 : decode b_R_enter 7 = .ok (.putfield 31, 3) := by decide +kernel
theorem d_R_enter_10 : decode b_R_enter 10 = .ok (.return_, 1) := by decide +kernel
theorem d_O_startAnew_0 : decode b_O_startAnew 0 = .ok (.aload_n 0, 1) := by decide +kernel
theorem d_O_startAnew_1 : decode b_O_startAnew 1 = .ok (.invokevirtual 52, 3) := by decide +kernel
theorem d_O_startAnew_4 : decode b_O_startAnew 4 = .ok (.aload_n 0, 1) := by decide +kernel
theorem d_O_startAnew_5 : decode b_O_startAnew 5 = .ok (.iconst 0, 1) := by decide +kernel
theorem d_O_startAnew_6 : decode b_O_startAnew 6 = .ok (.putfield 15, 3) := by decide +kernel
theorem d_O_startAnew_9 : decode b_O_startAnew 9 = .ok (.return_, 1) := by decide +kernel
theorem d_O_takeFrame_0 : decode b_O_takeFrame 0 = .ok (.iload_n 1, 1) := by decide +kernel
theorem d_O_takeFrame_1 : decode b_O_takeFrame 1 = .ok (.bipush 31, 2) := by decide +kernel
theorem d_O_takeFrame_3 : decode b_O_takeFrame 3 = .ok (.iushr, 1) := by decide +kernel
theorem d_O_takeFrame_4 : decode b_O_takeFrame 4 = .ok (.istore_n 3, 1) := by decide +kernel
theorem d_O_takeFrame_5 : decode b_O_takeFrame 5 = .ok (.iload_n 2, 1) := by decide +kernel
theorem d_O_takeFrame_6 : decode b_O_takeFrame 6 = .ok (.ifCond .eq 31, 3) := by decide +kernel
theorem d_O_takeFrame_9 : decode b_O_takeFrame 9 = .ok (.aload_n 0, 1) := by decide +kernel
theorem d_O_takeFrame_10 : decode b_O_takeFrame 10 = .ok (.dup, 1) := by decide +kernel
theorem d_O_takeFrame_11 : decode b_O_takeFrame 11 = .ok (.getfield 15, 3) := by decide +kernel
theorem d_O_takeFrame_14 : decode b_O_takeFrame 14 = .ok (.iconst 1, 1) := by decide +kernel
theorem d_O_takeFrame_15 : decode b_O_takeFrame 15 = .ok (.iadd, 1) := by decide +kernel
theorem d_O_takeFrame_16 : decode b_O_takeFrame 16 = .ok (.putfield 15, 3) := by decide +kernel
theorem d_O_takeFrame_19 : decode b_O_takeFrame 19 = .ok (.aload_n 0, 1) := by decide +kernel
theorem d_O_takeFrame_20 : decode b_O_takeFrame 20 = .ok (.aload_n 0, 1) := by decide +kernel
theorem d_O_takeFrame_21 : decode b_O_takeFrame 21 = .ok (.getfield 18, 3) := by decide +kernel
theorem d_O_takeFrame_24 : decode b_O_takeFrame 24 = .ok (.iconst 1, 1) := by decide +kernel
theorem d_O_takeFrame_25 : decode b_O_takeFrame 25 = .ok (.ishl, 1) := by decide +kernel
theorem d_O_takeFrame_26 : decode b_O_takeFrame 26 = .ok (.iload_n 3, 1) := by decide +kernel
theorem d_O_takeFrame_27 : decode b_O_takeFrame 27 = .ok (.ior, 1) := by decide +kernel
theorem d_O_takeFrame_28 : decode b_O_takeFrame 28 = .ok (.bipush 63, 2) := by decide +kernel
theorem d_O_takeFrame_30 : decode b_O_takeFrame 30 = .ok (.iand, 1) := by decide +kernel
theorem d_O_takeFrame_31 : decode b_O_takeFrame 31 = .ok (.putfield 18, 3) := by decide +kernel
theorem d_O_takeFrame_34 : decode b_O_takeFrame 34 = .ok (.goto 18, 3) := by decide +kernel
theorem d_O_takeFrame_37 : decode b_O_takeFrame 37 = .ok (.aload_n 0, 1) := by decide +kernel
theorem d_O_takeFrame_38 : decode b_O_takeFrame 38 = .ok (.aload_n 0, 1) := by decide +kernel
theorem d_O_takeFrame_39 : decode b_O_takeFrame 39 = .ok (.getfield 37, 3) := by decide +kernel
theorem d_O_takeFrame_42 : decode b_O_takeFrame 42 = .ok (.iconst 1, 1) := by decide +kernel
theorem d_O_takeFrame_43 : decode b_O_takeFrame 43 = .ok (.ishl, 1) := by decide +kernel
theorem d_O_takeFrame_44 : decode b_O_takeFrame 44 = .ok (.iload_n 3, 1) := by decide +kernel
theorem d_O_takeFrame_45 : decode b_O_takeFrame 45 = .ok (.ior, 1) := by decide +kernel
theorem d_O_takeFrame_46 : decode b_O_takeFrame 46 = .ok (.bipush 15, 2) := by decide +kernel
theorem d_O_takeFrame_48 : decode b_O_takeFrame 48 = .ok (.iand, 1) := by decide +kernel
theorem d_O_takeFrame_49 : decode b_O_takeFrame 49 = .ok (.putfield 37, 3) := by decide +kernel
theorem d_O_takeFrame_52 : decode b_O_takeFrame 52 = .ok (.aload_n 0, 1) := by decide +kernel
theorem d_O_takeFrame_53 : decode b_O_takeFrame 53 = .ok (.getfield 9, 3) := by decide +kernel
theorem d_O_takeFrame_56 : decode b_O_takeFrame 56 = .ok (.iconst (-1), 1) := by decide +kernel
theorem d_O_takeFrame_57 : decode b_O_takeFrame 57 = .ok (.if_icmp .ne 9, 3) := by decide +kernel
theorem d_O_takeFrame_60 : decode b_O_takeFrame 60 = .ok (.aload_n 0, 1) := by decide +kernel
theorem d_O_takeFrame_61 : decode b_O_takeFrame 61 = .ok (.iload_n 2, 1) := by decide +kernel
theorem d_O_takeFrame_62 : decode b_O_takeFrame 62 = .ok (.invokevirtual 55, 3) := by decide +kernel
theorem d_O_takeFrame_65 : decode b_O_takeFrame 65 = .ok (.return_, 1) := by decide +kernel
theorem d_O_takeFrame_66 : decode b_O_takeFrame 66 = .ok (.aload_n 0, 1) := by decide +kernel
theorem d_O_takeFrame_67 : decode b_O_takeFrame 67 = .ok (.aload_n 0, 1) := by decide +kernel
theorem d_O_takeFrame_68 : decode b_O_takeFrame 68 = .ok (.getfield 9, 3) := by decide +kernel
theorem d_O_takeFrame_71 : decode b_O_takeFrame 71 = .ok (.iconst 1, 1) := by decide +kernel
theorem d_O_takeFrame_72 : decode b_O_takeFrame 72 = .ok (.iadd, 1) := by decide +kernel
theorem d_O_takeFrame_73 : decode b_O_takeFrame 73 = .ok (.bipush 15, 2) := by decide +kernel
theorem d_O_takeFrame_75 : decode b_O_takeFrame 75 = .ok (.iand, 1) := by decide +kernel
theorem d_O_takeFrame_76 : decode b_O_takeFrame 76 = .ok (.putfield 9, 3) := by decide +kernel
theorem d_O_takeFrame_79 : decode b_O_takeFrame 79 = .ok (.aload_n 0, 1) := by decide +kernel
theorem d_O_takeFrame_80 : decode b_O_takeFrame 80 = .ok (.aload_n 0, 1) := by decide +kernel
theorem d_O_takeFrame_81 : decode b_O_takeFrame 81 = .ok (.getfield 31, 3) := by decide +kernel
theorem d_O_takeFrame_84 : decode b_O_takeFrame 84 = .ok (.iload_n 2, 1) := by decide +kernel
theorem d_O_takeFrame_85 : decode b_O_takeFrame 85 = .ok (.ifCond .eq 7, 3) := by decide +kernel
theorem d_O_takeFrame_88 : decode b_O_takeFrame 88 = .ok (.iload_n 1, 1) := by decide +kernel
theorem d_O_takeFrame_89 : decode b_O_takeFrame 89 = .ok (.goto 7, 3) := by decide +kernel
theorem d_O_takeFrame_92 : decode b_O_takeFrame 92 = .ok (.iload_n 1, 1) := by decide +kernel
theorem d_O_takeFrame_93 : decode b_O_takeFrame 93 = .ok (.ldc 59, 2) := by decide +kernel
theorem d_O_takeFrame_95 : decode b_O_takeFrame 95 = .ok (.iand, 1) := by decide +kernel
theorem d_O_takeFrame_96 : decode b_O_takeFrame 96 = .ok (.invokestatic 60, 3) := by decide +kernel
theorem d_O_takeFrame_99 : decode b_O_takeFrame 99 = .ok (.putfield 31, 3) := by decide +kernel
theorem d_O_takeFrame_102 : decode b_O_takeFrame 102 = .ok (.aload_n 0, 1) := by decide +kernel
theorem d_O_takeFrame_103 : decode b_O_takeFrame 103 = .ok (.getfield 9, 3) := by decide +kernel
theorem d_O_takeFrame_106 : decode b_O_takeFrame 106 = .ok (.bipush 11, 2) := by decide +kernel
theorem d_O_takeFrame_108 : decode b_O_takeFrame 108 = .ok (.if_icmp .ne 10, 3) := by decide +kernel
theorem d_O_takeFrame_111 : decode b_O_takeFrame 111 = .ok (.aload_n 0, 1) := by decide +kernel
theorem d_O_takeFrame_112 : decode b_O_takeFrame 112 = .ok (.invokevirtual 64, 3) := by decide +kernel
theorem d_O_takeFrame_115 : decode b_O_takeFrame 115 = .ok (.goto 35, 3) := by decide +kernel
theorem d_O_takeFrame_118 : decode b_O_takeFrame 118 = .ok (.iload_n 3, 1) := by decide +kernel
theorem d_O_takeFrame_119 : decode b_O_takeFrame 119 = .ok (.ifCond .ne 31, 3) := by decide +kernel
theorem d_O_takeFrame_122 : decode b_O_takeFrame 122 = .ok (.aload_n 0, 1) := by decide +kernel
theorem d_O_takeFrame_123 : decode b_O_takeFrame 123 = .ok (.getfield 9, 3) := by decide +kernel
theorem d_O_takeFrame_126 : decode b_O_takeFrame 126 = .ok (.bipush 13, 2) := by decide +kernel
theorem d_O_takeFrame_128 : decode b_O_takeFrame 128 = .ok (.if_icmp .eq 12, 3) := by decide +kernel
theorem d_O_takeFrame_131 : decode b_O_takeFrame 131 = .ok (.aload_n 0, 1) := by decide +kernel
theorem d_O_takeFrame_132 : decode b_O_takeFrame 132 = .ok (.getfield 9, 3) := by decide +kernel
theorem d_O_takeFrame_135 : decode b_O_takeFrame 135 = .ok (.bipush 15, 2) := by decide +kernel
theorem d_O_takeFrame_137 : decode b_O_takeFrame 137 = .ok (.if_icmp .ne 13, 3) := by decide +kernel
theorem d_O_takeFrame_140 : decode b_O_takeFrame 140 = .ok (.aload_n 0, 1) := by decide +kernel
theorem d_O_takeFrame_141 : decode b_O_takeFrame 141 = .ok (.dup, 1) := by decide +kernel
theorem d_O_takeFrame_142 : decode b_O_takeFrame 142 = .ok (.getfield 49, 3) := by decide +kernel
theorem d_O_takeFrame_145 : decode b_O_takeFrame 145 = .ok (.iconst 1, 1) := by decide +kernel
theorem d_O_takeFrame_146 : decode b_O_takeFrame 146 = .ok (.iadd, 1) := by decide +kernel
theorem d_O_takeFrame_147 : decode b_O_takeFrame 147 = .ok (.putfield 49, 3) := by decide +kernel
theorem d_O_takeFrame_150 : decode b_O_takeFrame 150 = .ok (.aload_n 0, 1) := by decide +kernel
theorem d_O_takeFrame_151 : decode b_O_takeFrame 151 = .ok (.getfield 9, 3) := by decide +kernel
theorem d_O_takeFrame_154 : decode b_O_takeFrame 154 = .ok (.invokestatic 67, 3) := by decide +kernel
theorem d_O_takeFrame_157 : decode b_O_takeFrame 157 = .ok (.ifCond .eq 7, 3) := by decide +kernel
theorem d_O_takeFrame_160 : decode b_O_takeFrame 160 = .ok (.aload_n 0, 1) := by decide +kernel
theorem d_O_takeFrame_161 : decode b_O_takeFrame 161 = .ok (.invokevirtual 71, 3) := by decide +kernel
theorem d_O_takeFrame_164 : decode b_O_takeFrame 164 = .ok (.return_, 1) := by decide +kernel
theorem d_O_findNumber_0 : decode b_O_findNumber 0 = .ok (.iload_n 1, 1) := by decide +kernel
theorem d_O_findNumber_1 : decode b_O_findNumber 1 = .ok (.ifCond .eq 32, 3) := by decide +kernel
theorem d_O_findNumber_4 : decode b_O_findNumber 4 = .ok (.aload_n 0, 1) := by decide +kernel
theorem d_O_findNumber_5 : decode b_O_findNumber 5 = .ok (.getfield 15, 3) := by decide +kernel
theorem d_O_findNumber_8 : decode b_O_findNumber 8 = .ok (.bipush 6, 2) := by decide +kernel
theorem d_O_findNumber_10 : decode b_O_findNumber 10 = .ok (.if_icmp .lt 23, 3) := by decide +kernel
theorem d_O_findNumber_13 : decode b_O_findNumber 13 = .ok (.aload_n 0, 1) := by decide +kernel
theorem d_O_findNumber_14 : decode b_O_findNumber 14 = .ok (.getfield 18, 3) := by decide +kernel
theorem d_O_findNumber_17 : decode b_O_findNumber 17 = .ok (.bipush 11, 2) := by decide +kernel
theorem d_O_findNumber_19 : decode b_O_findNumber 19 = .ok (.if_icmp .ne 14, 3) := by decide +kernel
theorem d_O_findNumber_22 : decode b_O_findNumber 22 = .ok (.aload_n 0, 1) := by decide +kernel
theorem d_O_findNumber_23 : decode b_O_findNumber 23 = .ok (.bipush 11, 2) := by decide +kernel
theorem d_O_findNumber_25 : decode b_O_findNumber 25 = .ok (.putfield 9, 3) := by decide +kernel
theorem d_O_findNumber_28 : decode b_O_findNumber 28 = .ok (.aload_n 0, 1) := by decide +kernel
theorem d_O_findNumber_29 : decode b_O_findNumber 29 = .ok (.iconst 0, 1) := by decide +kernel
theorem d_O_findNumber_30 : decode b_O_findNumber 30 = .ok (.putfield 21, 3) := by decide +kernel
theorem d_O_findNumber_33 : decode b_O_findNumber 33 = .ok (.return_, 1) := by decide +kernel
theorem d_O_judgeRoundWord_0 : decode b_O_judgeRoundWord 0 = .ok (.aload_n 0, 1) := by decide +kernel
theorem d_O_judgeRoundWord_1 : decode b_O_judgeRoundWord 1 = .ok (.aload_n 0, 1) := by decide +kernel
theorem d_O_judgeRoundWord_2 : decode b_O_judgeRoundWord 2 = .ok (.getfield 18, 3) := by decide +kernel
theorem d_O_judgeRoundWord_5 : decode b_O_judgeRoundWord 5 = .ok (.bipush 11, 2) := by decide +kernel
theorem d_O_judgeRoundWord_7 : decode b_O_judgeRoundWord 7 = .ok (.if_icmp .ne 7, 3) := by decide +kernel
theorem d_O_judgeRoundWord_10 : decode b_O_judgeRoundWord 10 = .ok (.iconst 0, 1) := by decide +kernel
theorem d_O_judgeRoundWord_11 : decode b_O_judgeRoundWord 11 = .ok (.goto 9, 3) := by decide +kernel
theorem d_O_judgeRoundWord_14 : decode b_O_judgeRoundWord 14 = .ok (.aload_n 0, 1) := by decide +kernel
theorem d_O_judgeRoundWord_15 : decode b_O_judgeRoundWord 15 = .ok (.getfield 21, 3) := by decide +kernel
theorem d_O_judgeRoundWord_18 : decode b_O_judgeRoundWord 18 = .ok (.iconst 1, 1) := by decide +kernel
theorem d_O_judgeRoundWord_19 : decode b_O_judgeRoundWord 19 = .ok (.iadd, 1) := by decide +kernel
theorem d_O_judgeRoundWord_20 : decode b_O_judgeRoundWord 20 = .ok (.putfield 21, 3) := by decide +kernel
theorem d_O_judgeRoundWord_23 : decode b_O_judgeRoundWord 23 = .ok (.aload_n 0, 1) := by decide +kernel
theorem d_O_judgeRoundWord_24 : decode b_O_judgeRoundWord 24 = .ok (.getfield 21, 3) := by decide +kernel
theorem d_O_judgeRoundWord_27 : decode b_O_judgeRoundWord 27 = .ok (.iconst 2, 1) := by decide +kernel
theorem d_O_judgeRoundWord_28 : decode b_O_judgeRoundWord 28 = .ok (.if_icmp .ne 7, 3) := by decide +kernel
theorem d_O_judgeRoundWord_31 : decode b_O_judgeRoundWord 31 = .ok (.aload_n 0, 1) := by decide +kernel
theorem d_O_judgeRoundWord_32 : decode b_O_judgeRoundWord 32 = .ok (.invokevirtual 52, 3) := by decide +kernel
theorem d_O_judgeRoundWord_35 : decode b_O_judgeRoundWord 35 = .ok (.return_, 1) := by decide +kernel
theorem d_O_endHalf_0 : decode b_O_endHalf 0 = .ok (.aload_n 0, 1) := by decide +kernel
theorem d_O_endHalf_1 : decode b_O_endHalf 1 = .ok (.getfield 28, 3) := by decide +kernel
theorem d_O_endHalf_4 : decode b_O_endHalf 4 = .ok (.ifCond .eq 7, 3) := by decide +kernel
theorem d_O_endHalf_7 : decode b_O_endHalf 7 = .ok (.aload_n 0, 1) := by decide +kernel
theorem d_O_endHalf_8 : decode b_O_endHalf 8 = .ok (.invokevirtual 74, 3) := by decide +kernel
theorem d_O_endHalf_11 : decode b_O_endHalf 11 = .ok (.aload_n 0, 1) := by decide +kernel
theorem d_O_endHalf_12 : decode b_O_endHalf 12 = .ok (.aload_n 0, 1) := by decide +kernel
theorem d_O_endHalf_13 : decode b_O_endHalf 13 = .ok (.getfield 24, 3) := by decide +kernel
theorem d_O_endHalf_16 : decode b_O_endHalf 16 = .ok (.putfield 28, 3) := by decide +kernel
theorem d_O_endHalf_19 : decode b_O_endHalf 19 = .ok (.aload_n 0, 1) := by decide +kernel
theorem d_O_endHalf_20 : decode b_O_endHalf 20 = .ok (.aload_n 0, 1) := by decide +kernel
theorem d_O_endHalf_21 : decode b_O_endHalf 21 = .ok (.getfield 31, 3) := by decide +kernel
theorem d_O_endHalf_24 : decode b_O_endHalf 24 = .ok (.putfield 34, 3) := by decide +kernel
theorem d_O_endHalf_27 : decode b_O_endHalf 27 = .ok (.aload_n 0, 1) := by decide +kernel
theorem d_O_endHalf_28 : decode b_O_endHalf 28 = .ok (.iconst 1, 1) := by decide +kernel
theorem d_O_endHalf_29 : decode b_O_endHalf 29 = .ok (.putfield 24, 3) := by decide +kernel
theorem d_O_endHalf_32 : decode b_O_endHalf 32 = .ok (.aload_n 0, 1) := by decide +kernel
theorem d_O_endHalf_33 : decode b_O_endHalf 33 = .ok (.iconst 0, 1) := by decide +kernel
theorem d_O_endHalf_34 : decode b_O_endHalf 34 = .ok (.putfield 31, 3) := by decide +kernel
theorem d_O_endHalf_37 : decode b_O_endHalf 37 = .ok (.return_, 1) := by decide +kernel
theorem d_O_judgeHalfBefore_0 : decode b_O_judgeHalfBefore 0 = .ok (.aload_n 0, 1) := by decide +kernel
theorem d_O_judgeHalfBefore_1 : decode b_O_judgeHalfBefore 1 = .ok (.getfield 37, 3) := by decide +kernel
theorem d_O_judgeHalfBefore_4 : decode b_O_judgeHalfBefore 4 = .ok (.aload_n 0, 1) := by decide +kernel
theorem d_O_judgeHalfBefore_5 : decode b_O_judgeHalfBefore 5 = .ok (.getfield 34, 3) := by decide +kernel
theorem d_O_judgeHalfBefore_8 : decode b_O_judgeHalfBefore 8 = .ok (.if_icmp .eq 7, 3) := by decide +kernel
theorem d_O_judgeHalfBefore_11 : decode b_O_judgeHalfBefore 11 = .ok (.iconst 1, 1) := by decide +kernel
theorem d_O_judgeHalfBefore_12 : decode b_O_judgeHalfBefore 12 = .ok (.goto 4, 3) := by decide +kernel
theorem d_O_judgeHalfBefore_15 : decode b_O_judgeHalfBefore 15 = .ok (.iconst 0, 1) := by decide +kernel
theorem d_O_judgeHalfBefore_16 : decode b_O_judgeHalfBefore 16 = .ok (.istore_n 1, 1) := by decide +kernel
theorem d_O_judgeHalfBefore_17 : decode b_O_judgeHalfBefore 17 = .ok (.iload_n 1, 1) := by decide +kernel
theorem d_O_judgeHalfBefore_18 : decode b_O_judgeHalfBefore 18 = .ok (.ifCond .eq 13, 3) := by decide +kernel
theorem d_O_judgeHalfBefore_21 : decode b_O_judgeHalfBefore 21 = .ok (.aload_n 0, 1) := by decide +kernel
theorem d_O_judgeHalfBefore_22 : decode b_O_judgeHalfBefore 22 = .ok (.dup, 1) := by decide +kernel
theorem d_O_judgeHalfBefore_23 : decode b_O_judgeHalfBefore 23 = .ok (.getfield 46, 3) := by decide +kernel
theorem d_O_judgeHalfBefore_26 : decode b_O_judgeHalfBefore 26 = .ok (.iconst 1, 1) := by decide +kernel
theorem d_O_judgeHalfBefore_27 : decode b_O_judgeHalfBefore 27 = .ok (.iadd, 1) := by decide +kernel
theorem d_O_judgeHalfBefore_28 : decode b_O_judgeHalfBefore 28 = .ok (.putfield 46, 3) := by decide +kernel
theorem d_O_judgeHalfBefore_31 : decode b_O_judgeHalfBefore 31 = .ok (.aload_n 0, 1) := by decide +kernel
theorem d_O_judgeHalfBefore_32 : decode b_O_judgeHalfBefore 32 = .ok (.getfield 9, 3) := by decide +kernel
theorem d_O_judgeHalfBefore_35 : decode b_O_judgeHalfBefore 35 = .ok (.bipush 15, 2) := by decide +kernel
theorem d_O_judgeHalfBefore_37 : decode b_O_judgeHalfBefore 37 = .ok (.if_icmp .ne 11, 3) := by decide +kernel
theorem d_O_judgeHalfBefore_40 : decode b_O_judgeHalfBefore 40 = .ok (.aload_n 0, 1) := by decide +kernel
theorem d_O_judgeHalfBefore_41 : decode b_O_judgeHalfBefore 41 = .ok (.iload_n 1, 1) := by decide +kernel
theorem d_O_judgeHalfBefore_42 : decode b_O_judgeHalfBefore 42 = .ok (.putfield 40, 3) := by decide +kernel
theorem d_O_judgeHalfBefore_45 : decode b_O_judgeHalfBefore 45 = .ok (.goto 8, 3) := by decide +kernel
theorem d_O_judgeHalfBefore_48 : decode b_O_judgeHalfBefore 48 = .ok (.aload_n 0, 1) := by decide +kernel
theorem d_O_judgeHalfBefore_49 : decode b_O_judgeHalfBefore 49 = .ok (.iload_n 1, 1) := by decide +kernel
theorem d_O_judgeHalfBefore_50 : decode b_O_judgeHalfBefore 50 = .ok (.putfield 43, 3) := by decide +kernel
theorem d_O_judgeHalfBefore_53 : decode b_O_judgeHalfBefore 53 = .ok (.return_, 1) := by decide +kernel
theorem d_O_forgetNumber_0 : decode b_O_forgetNumber 0 = .ok (.aload_n 0, 1) := by decide +kernel
theorem d_O_forgetNumber_1 : decode b_O_forgetNumber 1 = .ok (.iconst (-1), 1) := by decide +kernel
theorem d_O_forgetNumber_2 : decode b_O_forgetNumber 2 = .ok (.putfield 9, 3) := by decide +kernel
theorem d_O_forgetNumber_5 : decode b_O_forgetNumber 5 = .ok (.aload_n 0, 1) := by decide +kernel
theorem d_O_forgetNumber_6 : decode b_O_forgetNumber 6 = .ok (.iconst 0, 1) := by decide +kernel
theorem d_O_forgetNumber_7 : decode b_O_forgetNumber 7 = .ok (.putfield 24, 3) := by decide +kernel
theorem d_O_forgetNumber_10 : decode b_O_forgetNumber 10 = .ok (.aload_n 0, 1) := by decide +kernel
theorem d_O_forgetNumber_11 : decode b_O_forgetNumber 11 = .ok (.iconst 0, 1) := by decide +kernel
theorem d_O_forgetNumber_12 : decode b_O_forgetNumber 12 = .ok (.putfield 28, 3) := by decide +kernel
theorem d_O_forgetNumber_15 : decode b_O_forgetNumber 15 = .ok (.aload_n 0, 1) := by decide +kernel
theorem d_O_forgetNumber_16 : decode b_O_forgetNumber 16 = .ok (.iconst 0, 1) := by decide +kernel
theorem d_O_forgetNumber_17 : decode b_O_forgetNumber 17 = .ok (.putfield 40, 3) := by decide +kernel
theorem d_O_forgetNumber_20 : decode b_O_forgetNumber 20 = .ok (.aload_n 0, 1) := by decide +kernel
theorem d_O_forgetNumber_21 : decode b_O_forgetNumber 21 = .ok (.iconst 0, 1) := by decide +kernel
theorem d_O_forgetNumber_22 : decode b_O_forgetNumber 22 = .ok (.putfield 43, 3) := by decide +kernel
theorem d_O_forgetNumber_25 : decode b_O_forgetNumber 25 = .ok (.return_, 1) := by decide +kernel
theorem d_S_exchange_0 : decode b_S_exchange 0 = .ok (.aload_n 0, 1) := by decide +kernel
theorem d_S_exchange_1 : decode b_S_exchange 1 = .ok (.getfield 9, 3) := by decide +kernel
theorem d_S_exchange_4 : decode b_S_exchange 4 = .ok (.iload_n 1, 1) := by decide +kernel
theorem d_S_exchange_5 : decode b_S_exchange 5 = .ok (.iaload, 1) := by decide +kernel
theorem d_S_exchange_6 : decode b_S_exchange 6 = .ok (.istore_n 3, 1) := by decide +kernel
theorem d_S_exchange_7 : decode b_S_exchange 7 = .ok (.aload_n 0, 1) := by decide +kernel
theorem d_S_exchange_8 : decode b_S_exchange 8 = .ok (.getfield 9, 3) := by decide +kernel
theorem d_S_exchange_11 : decode b_S_exchange 11 = .ok (.iload_n 1, 1) := by decide +kernel
theorem d_S_exchange_12 : decode b_S_exchange 12 = .ok (.iload_n 2, 1) := by decide +kernel
theorem d_S_exchange_13 : decode b_S_exchange 13 = .ok (.iastore, 1) := by decide +kernel
theorem d_S_exchange_14 : decode b_S_exchange 14 = .ok (.iload_n 3, 1) := by decide +kernel
theorem d_S_exchange_15 : decode b_S_exchange 15 = .ok (.ireturn, 1) := by decide +kernel
theorem d_S_isBetweenFrames_0 : decode b_S_isBetweenFrames 0 = .ok (.aload_n 0, 1) := by decide +kernel
theorem d_S_isBetweenFrames_1 : decode b_S_isBetweenFrames 1 = .ok (.getfield 22, 3) := by decide +kernel
theorem d_S_isBetweenFrames_4 : decode b_S_isBetweenFrames 4 = .ok (.bipush 32, 2) := by decide +kernel
theorem d_S_isBetweenFrames_6 : decode b_S_isBetweenFrames 6 = .ok (.if_icmp .ne 7, 3) := by decide +kernel
theorem d_S_isBetweenFrames_9 : decode b_S_isBetweenFrames 9 = .ok (.iconst 1, 1) := by decide +kernel
theorem d_S_isBetweenFrames_10 : decode b_S_isBetweenFrames 10 = .ok (.goto 4, 3) := by decide +kernel
theorem d_S_isBetweenFrames_13 : decode b_S_isBetweenFrames 13 = .ok (.iconst 0, 1) := by decide +kernel
theorem d_S_isBetweenFrames_14 : decode b_S_isBetweenFrames 14 = .ok (.ireturn, 1) := by decide +kernel
theorem d_S_beginFrame_0 : decode b_S_beginFrame 0 = .ok (.aload_n 0, 1) := by decide +kernel
theorem d_S_beginFrame_1 : decode b_S_beginFrame 1 = .ok (.getfield 15, 3) := by decide +kernel
theorem d_S_beginFrame_4 : decode b_S_beginFrame 4 = .ok (.iconst 1, 1) := by decide +kernel
theorem d_S_beginFrame_5 : decode b_S_beginFrame 5 = .ok (.iand, 1) := by decide +kernel
theorem d_S_beginFrame_6 : decode b_S_beginFrame 6 = .ok (.iconst 1, 1) := by decide +kernel
theorem d_S_beginFrame_7 : decode b_S_beginFrame 7 = .ok (.if_icmp .ne 7, 3) := by decide +kernel
theorem d_S_beginFrame_10 : decode b_S_beginFrame 10 = .ok (.iconst 1, 1) := by decide +kernel
theorem d_S_beginFrame_11 : decode b_S_beginFrame 11 = .ok (.goto 4, 3) := by decide +kernel
theorem d_S_beginFrame_14 : decode b_S_beginFrame 14 = .ok (.iconst 0, 1) := by decide +kernel
theorem d_S_beginFrame_15 : decode b_S_beginFrame 15 = .ok (.istore_n 2, 1) := by decide +kernel
theorem d_S_beginFrame_16 : decode b_S_beginFrame 16 = .ok (.iload_n 2, 1) := by decide +kernel
theorem d_S_beginFrame_17 : decode b_S_beginFrame 17 = .ok (.ifCond .eq 11, 3) := by decide +kernel
theorem d_S_beginFrame_20 : decode b_S_beginFrame 20 = .ok (.aload_n 0, 1) := by decide +kernel
theorem d_S_beginFrame_21 : decode b_S_beginFrame 21 = .ok (.aload_n 1, 1) := by decide +kernel
theorem d_S_beginFrame_22 : decode b_S_beginFrame 22 = .ok (.invokevirtual 31, 3) := by decide +kernel
theorem d_S_beginFrame_25 : decode b_S_beginFrame 25 = .ok (.goto 7, 3) := by decide +kernel
theorem d_S_beginFrame_28 : decode b_S_beginFrame 28 = .ok (.aload_n 0, 1) := by decide +kernel
theorem d_S_beginFrame_29 : decode b_S_beginFrame 29 = .ok (.invokevirtual 35, 3) := by decide +kernel
theorem d_S_beginFrame_32 : decode b_S_beginFrame 32 = .ok (.istore_n 3, 1) := by decide +kernel
theorem d_S_beginFrame_33 : decode b_S_beginFrame 33 = .ok (.aload_n 0, 1) := by decide +kernel
theorem d_S_beginFrame_34 : decode b_S_beginFrame 34 = .ok (.iload_n 3, 1) := by decide +kernel
theorem d_S_beginFrame_35 : decode b_S_beginFrame 35 = .ok (.bipush 24, 2) := by decide +kernel
theorem d_S_beginFrame_37 : decode b_S_beginFrame 37 = .ok (.ishl, 1) := by decide +kernel
theorem d_S_beginFrame_38 : decode b_S_beginFrame 38 = .ok (.aload_n 0, 1) := by decide +kernel
theorem d_S_beginFrame_39 : decode b_S_beginFrame 39 = .ok (.getfield 9, 3) := by decide +kernel
theorem d_S_beginFrame_42 : decode b_S_beginFrame 42 = .ok (.iconst 1, 1) := by decide +kernel
theorem d_S_beginFrame_43 : decode b_S_beginFrame 43 = .ok (.iaload, 1) := by decide +kernel
theorem d_S_beginFrame_44 : decode b_S_beginFrame 44 = .ok (.bipush 16, 2) := by decide +kernel
theorem d_S_beginFrame_46 : decode b_S_beginFrame 46 = .ok (.ishl, 1) := by decide +kernel
theorem d_S_beginFrame_47 : decode b_S_beginFrame 47 = .ok (.ior, 1) := by decide +kernel
theorem d_S_beginFrame_48 : decode b_S_beginFrame 48 = .ok (.aload_n 0, 1) := by decide +kernel
theorem d_S_beginFrame_49 : decode b_S_beginFrame 49 = .ok (.getfield 9, 3) := by decide +kernel
theorem d_S_beginFrame_52 : decode b_S_beginFrame 52 = .ok (.iconst 2, 1) := by decide +kernel
theorem d_S_beginFrame_53 : decode b_S_beginFrame 53 = .ok (.iaload, 1) := by decide +kernel
theorem d_S_beginFrame_54 : decode b_S_beginFrame 54 = .ok (.bipush 8, 2) := by decide +kernel
theorem d_S_beginFrame_56 : decode b_S_beginFrame 56 = .ok (.ishl, 1) := by decide +kernel
theorem d_S_beginFrame_57 : decode b_S_beginFrame 57 = .ok (.ior, 1) := by decide +kernel
theorem d_S_beginFrame_58 : decode b_S_beginFrame 58 = .ok (.aload_n 0, 1) := by decide +kernel
theorem d_S_beginFrame_59 : decode b_S_beginFrame 59 = .ok (.getfield 9, 3) := by decide +kernel
theorem d_S_beginFrame_62 : decode b_S_beginFrame 62 = .ok (.iconst 3, 1) := by decide +kernel
theorem d_S_beginFrame_63 : decode b_S_beginFrame 63 = .ok (.iaload, 1) := by decide +kernel
theorem d_S_beginFrame_64 : decode b_S_beginFrame 64 = .ok (.ior, 1) := by decide +kernel
theorem d_S_beginFrame_65 : decode b_S_beginFrame 65 = .ok (.putfield 19, 3) := by decide +kernel
theorem d_S_beginFrame_68 : decode b_S_beginFrame 68 = .ok (.aload_n 0, 1) := by decide +kernel
theorem d_S_beginFrame_69 : decode b_S_beginFrame 69 = .ok (.aload_n 0, 1) := by decide +kernel
theorem d_S_beginFrame_70 : decode b_S_beginFrame 70 = .ok (.getfield 25, 3) := by decide +kernel
theorem d_S_beginFrame_73 : decode b_S_beginFrame 73 = .ok (.iload_n 2, 1) := by decide +kernel
theorem d_S_beginFrame_74 : decode b_S_beginFrame 74 = .ok (.ifCond .eq 10, 3) := by decide +kernel
theorem d_S_beginFrame_77 : decode b_S_beginFrame 77 = .ok (.aload_n 0, 1) := by decide +kernel
theorem d_S_beginFrame_78 : decode b_S_beginFrame 78 = .ok (.getfield 19, 3) := by decide +kernel
theorem d_S_beginFrame_81 : decode b_S_beginFrame 81 = .ok (.goto 10, 3) := by decide +kernel
theorem d_S_beginFrame_84 : decode b_S_beginFrame 84 = .ok (.aload_n 0, 1) := by decide +kernel
theorem d_S_beginFrame_85 : decode b_S_beginFrame 85 = .ok (.getfield 19, 3) := by decide +kernel
theorem d_S_beginFrame_88 : decode b_S_beginFrame 88 = .ok (.ldc 39, 2) := by decide +kernel
theorem d_S_beginFrame_90 : decode b_S_beginFrame 90 = .ok (.iand, 1) := by decide +kernel
theorem d_S_beginFrame_91 : decode b_S_beginFrame 91 = .ok (.invokestatic 40, 3) := by decide +kernel
theorem d_S_beginFrame_94 : decode b_S_beginFrame 94 = .ok (.putfield 25, 3) := by decide +kernel
theorem d_S_beginFrame_97 : decode b_S_beginFrame 97 = .ok (.aload_n 0, 1) := by decide +kernel
theorem d_S_beginFrame_98 : decode b_S_beginFrame 98 = .ok (.iconst 0, 1) := by decide +kernel
theorem d_S_beginFrame_99 : decode b_S_beginFrame 99 = .ok (.putfield 22, 3) := by decide +kernel
theorem d_S_beginFrame_102 : decode b_S_beginFrame 102 = .ok (.aload_n 0, 1) := by decide +kernel
theorem d_S_beginFrame_103 : decode b_S_beginFrame 103 = .ok (.getfield 15, 3) := by decide +kernel
theorem d_S_beginFrame_106 : decode b_S_beginFrame 106 = .ok (.invokestatic 44, 3) := by decide +kernel
theorem d_S_beginFrame_109 : decode b_S_beginFrame 109 = .ok (.ifCond .eq 16, 3) := by decide +kernel
theorem d_S_beginFrame_112 : decode b_S_beginFrame 112 = .ok (.aload_n 0, 1) := by decide +kernel
theorem d_S_beginFrame_113 : decode b_S_beginFrame 113 = .ok (.aload_n 0, 1) := by decide +kernel
theorem d_S_beginFrame_114 : decode b_S_beginFrame 114 = .ok (.getfield 25, 3) := by decide +kernel
theorem d_S_beginFrame_117 : decode b_S_beginFrame 117 = .ok (.putfield 28, 3) := by decide +kernel
theorem d_S_beginFrame_120 : decode b_S_beginFrame 120 = .ok (.aload_n 0, 1) := by decide +kernel
theorem d_S_beginFrame_121 : decode b_S_beginFrame 121 = .ok (.iconst 0, 1) := by decide +kernel
theorem d_S_beginFrame_122 : decode b_S_beginFrame 122 = .ok (.putfield 25, 3) := by decide +kernel
theorem d_S_beginFrame_125 : decode b_S_beginFrame 125 = .ok (.aload_n 0, 1) := by decide +kernel
theorem d_S_beginFrame_126 : decode b_S_beginFrame 126 = .ok (.aload_n 0, 1) := by decide +kernel
theorem d_S_beginFrame_127 : decode b_S_beginFrame 127 = .ok (.getfield 15, 3) := by decide +kernel
theorem d_S_beginFrame_130 : decode b_S_beginFrame 130 = .ok (.iconst 1, 1) := by decide +kernel
theorem d_S_beginFrame_131 : decode b_S_beginFrame 131 = .ok (.iadd, 1) := by decide +kernel
theorem d_S_beginFrame_132 : decode b_S_beginFrame 132 = .ok (.bipush 15, 2) := by decide +kernel
theorem d_S_beginFrame_134 : decode b_S_beginFrame 134 = .ok (.iand, 1) := by decide +kernel
theorem d_S_beginFrame_135 : decode b_S_beginFrame 135 = .ok (.putfield 15, 3) := by decide +kernel
theorem d_S_beginFrame_138 : decode b_S_beginFrame 138 = .ok (.return_, 1) := by decide +kernel
theorem d_S_nextBit_0 : decode b_S_nextBit 0 = .ok (.aload_n 0, 1) := by decide +kernel
theorem d_S_nextBit_1 : decode b_S_nextBit 1 = .ok (.dup, 1) := by decide +kernel
theorem d_S_nextBit_2 : decode b_S_nextBit 2 = .ok (.getfield 22, 3) := by decide +kernel
theorem d_S_nextBit_5 : decode b_S_nextBit 5 = .ok (.iconst 1, 1) := by decide +kernel
theorem d_S_nextBit_6 : decode b_S_nextBit 6 = .ok (.iadd, 1) := by decide +kernel
theorem d_S_nextBit_7 : decode b_S_nextBit 7 = .ok (.putfield 22, 3) := by decide +kernel
theorem d_S_nextBit_10 : decode b_S_nextBit 10 = .ok (.aload_n 0, 1) := by decide +kernel
theorem d_S_nextBit_11 : decode b_S_nextBit 11 = .ok (.getfield 19, 3) := by decide +kernel
theorem d_S_nextBit_14 : decode b_S_nextBit 14 = .ok (.bipush 32, 2) := by decide +kernel
theorem d_S_nextBit_16 : decode b_S_nextBit 16 = .ok (.aload_n 0, 1) := by decide +kernel
theorem d_S_nextBit_17 : decode b_S_nextBit 17 = .ok (.getfield 22, 3) := by decide +kernel
theorem d_S_nextBit_20 : decode b_S_nextBit 20 = .ok (.isub, 1) := by decide +kernel
theorem d_S_nextBit_21 : decode b_S_nextBit 21 = .ok (.iushr, 1) := by decide +kernel
theorem d_S_nextBit_22 : decode b_S_nextBit 22 = .ok (.iconst 1, 1) := by decide +kernel
theorem d_S_nextBit_23 : decode b_S_nextBit 23 = .ok (.iand, 1) := by decide +kernel
theorem d_S_nextBit_24 : decode b_S_nextBit 24 = .ok (.ireturn, 1) := by decide +kernel
theorem d_S_evenSlotZero_0 : decode b_S_evenSlotZero 0 = .ok (.aload_n 0, 1) := by decide +kernel
theorem d_S_evenSlotZero_1 : decode b_S_evenSlotZero 1 = .ok (.getfield 15, 3) := by decide +kernel
theorem d_S_evenSlotZero_4 : decode b_S_evenSlotZero 4 = .ok (.iconst 1, 1) := by decide +kernel
theorem d_S_evenSlotZero_5 : decode b_S_evenSlotZero 5 = .ok (.ishr, 1) := by decide +kernel
theorem d_S_evenSlotZero_6 : decode b_S_evenSlotZero 6 = .ok (.iconst 3, 1) := by decide +kernel
theorem d_S_evenSlotZero_7 : decode b_S_evenSlotZero 7 = .ok (.iand, 1) := by decide +kernel
theorem d_S_evenSlotZero_8 : decode b_S_evenSlotZero 8 = .ok (.istore_n 1, 1) := by decide +kernel
theorem d_S_evenSlotZero_9 : decode b_S_evenSlotZero 9 = .ok (.aload_n 0, 1) := by decide +kernel
theorem d_S_evenSlotZero_10 : decode b_S_evenSlotZero 10 = .ok (.getfield 28, 3) := by decide +kernel
theorem d_S_evenSlotZero_13 : decode b_S_evenSlotZero 13 = .ok (.iconst 3, 1) := by decide +kernel
theorem d_S_evenSlotZero_14 : decode b_S_evenSlotZero 14 = .ok (.iload_n 1, 1) := by decide +kernel
theorem d_S_evenSlotZero_15 : decode b_S_evenSlotZero 15 = .ok (.isub, 1) := by decide +kernel
theorem d_S_evenSlotZero_16 : decode b_S_evenSlotZero 16 = .ok (.ishr, 1) := by decide +kernel
theorem d_S_evenSlotZero_17 : decode b_S_evenSlotZero 17 = .ok (.iconst 1, 1) := by decide +kernel
theorem d_S_evenSlotZero_18 : decode b_S_evenSlotZero 18 = .ok (.iand, 1) := by decide +kernel
theorem d_S_evenSlotZero_19 : decode b_S_evenSlotZero 19 = .ok (.istore_n 2, 1) := by decide +kernel
theorem d_S_evenSlotZero_20 : decode b_S_evenSlotZero 20 = .ok (.iload_n 2, 1) := by decide +kernel
theorem d_S_evenSlotZero_21 : decode b_S_evenSlotZero 21 = .ok (.bipush 7, 2) := by decide +kernel
theorem d_S_evenSlotZero_23 : decode b_S_evenSlotZero 23 = .ok (.ishl, 1) := by decide +kernel
theorem d_S_evenSlotZero_24 : decode b_S_evenSlotZero 24 = .ok (.bipush 27, 2) := by decide +kernel
theorem d_S_evenSlotZero_26 : decode b_S_evenSlotZero 26 = .ok (.ior, 1) := by decide +kernel
theorem d_S_evenSlotZero_27 : decode b_S_evenSlotZero 27 = .ok (.ireturn, 1) := by decide +kernel
theorem d_S_oddSlotZero_0 : decode b_S_oddSlotZero 0 = .ok (.aload_n 1, 1) := by decide +kernel
theorem d_S_oddSlotZero_1 : decode b_S_oddSlotZero 1 = .ok (.invokevirtual 48, 3) := by decide +kernel
theorem d_S_oddSlotZero_4 : decode b_S_oddSlotZero 4 = .ok (.ifCond .eq 7, 3) := by decide +kernel
theorem d_S_oddSlotZero_7 : decode b_S_oddSlotZero 7 = .ok (.iconst 0, 1) := by decide +kernel
theorem d_S_oddSlotZero_8 : decode b_S_oddSlotZero 8 = .ok (.goto 5, 3) := by decide +kernel
theorem d_S_oddSlotZero_11 : decode b_S_oddSlotZero 11 = .ok (.bipush 32, 2) := by decide +kernel
theorem d_S_oddSlotZero_13 : decode b_S_oddSlotZero 13 = .ok (.istore_n 2, 1) := by decide +kernel
theorem d_S_oddSlotZero_14 : decode b_S_oddSlotZero 14 = .ok (.aload_n 0, 1) := by decide +kernel
theorem d_S_oddSlotZero_15 : decode b_S_oddSlotZero 15 = .ok (.aload_n 1, 1) := by decide +kernel
theorem d_S_oddSlotZero_16 : decode b_S_oddSlotZero 16 = .ok (.getfield 54, 3) := by decide +kernel
theorem d_S_oddSlotZero_19 : decode b_S_oddSlotZero 19 = .ok (.invokevirtual 58, 3) := by decide +kernel
theorem d_S_oddSlotZero_22 : decode b_S_oddSlotZero 22 = .ok (.bipush 7, 2) := by decide +kernel
theorem d_S_oddSlotZero_24 : decode b_S_oddSlotZero 24 = .ok (.ishl, 1) := by decide +kernel
theorem d_S_oddSlotZero_25 : decode b_S_oddSlotZero 25 = .ok (.bipush 95, 2) := by decide +kernel
theorem d_S_oddSlotZero_27 : decode b_S_oddSlotZero 27 = .ok (.ior, 1) := by decide +kernel
theorem d_S_oddSlotZero_28 : decode b_S_oddSlotZero 28 = .ok (.iload_n 2, 1) := by decide +kernel
theorem d_S_oddSlotZero_29 : decode b_S_oddSlotZero 29 = .ok (.ior, 1) := by decide +kernel
theorem d_S_oddSlotZero_30 : decode b_S_oddSlotZero 30 = .ok (.ireturn, 1) := by decide +kernel
theorem d_S_firstBitOfOdd_0 : decode b_S_firstBitOfOdd 0 = .ok (.aload_n 0, 1) := by decide +kernel
theorem d_S_firstBitOfOdd_1 : decode b_S_firstBitOfOdd 1 = .ok (.getfield 15, 3) := by decide +kernel
theorem d_S_firstBitOfOdd_4 : decode b_S_firstBitOfOdd 4 = .ok (.bipush 11, 2) := by decide +kernel
theorem d_S_firstBitOfOdd_6 : decode b_S_firstBitOfOdd 6 = .ok (.if_icmp .gt 17, 3) := by decide +kernel
theorem d_S_firstBitOfOdd_9 : decode b_S_firstBitOfOdd 9 = .ok (.bipush 11, 2) := by decide +kernel
theorem d_S_firstBitOfOdd_11 : decode b_S_firstBitOfOdd 11 = .ok (.iconst 5, 1) := by decide +kernel
theorem d_S_firstBitOfOdd_12 : decode b_S_firstBitOfOdd 12 = .ok (.aload_n 0, 1) := by decide +kernel
theorem d_S_firstBitOfOdd_13 : decode b_S_firstBitOfOdd 13 = .ok (.getfield 15, 3) := by decide +kernel
theorem d_S_firstBitOfOdd_16 : decode b_S_firstBitOfOdd 16 = .ok (.iconst 1, 1) := by decide +kernel
theorem d_S_firstBitOfOdd_17 : decode b_S_firstBitOfOdd 17 = .ok (.ishr, 1) := by decide +kernel
theorem d_S_firstBitOfOdd_18 : decode b_S_firstBitOfOdd 18 = .ok (.isub, 1) := by decide +kernel
theorem d_S_firstBitOfOdd_19 : decode b_S_firstBitOfOdd 19 = .ok (.ishr, 1) := by decide +kernel
theorem d_S_firstBitOfOdd_20 : decode b_S_firstBitOfOdd 20 = .ok (.iconst 1, 1) := by decide +kernel
theorem d_S_firstBitOfOdd_21 : decode b_S_firstBitOfOdd 21 = .ok (.iand, 1) := by decide +kernel
theorem d_S_firstBitOfOdd_22 : decode b_S_firstBitOfOdd 22 = .ok (.ireturn, 1) := by decide +kernel
theorem d_S_firstBitOfOdd_23 : decode b_S_firstBitOfOdd 23 = .ok (.aload_n 0, 1) := by decide +kernel
theorem d_S_firstBitOfOdd_24 : decode b_S_firstBitOfOdd 24 = .ok (.getfield 15, 3) := by decide +kernel
theorem d_S_firstBitOfOdd_27 : decode b_S_firstBitOfOdd 27 = .ok (.bipush 13, 2) := by decide +kernel
theorem d_S_firstBitOfOdd_29 : decode b_S_firstBitOfOdd 29 = .ok (.if_icmp .ne 10, 3) := by decide +kernel
theorem d_S_firstBitOfOdd_32 : decode b_S_firstBitOfOdd 32 = .ok (.aload_n 1, 1) := by decide +kernel
theorem d_S_firstBitOfOdd_33 : decode b_S_firstBitOfOdd 33 = .ok (.getfield 62, 3) := by decide +kernel
theorem d_S_firstBitOfOdd_36 : decode b_S_firstBitOfOdd 36 = .ok (.goto 7, 3) := by decide +kernel
theorem d_S_firstBitOfOdd_39 : decode b_S_firstBitOfOdd 39 = .ok (.aload_n 1, 1) := by decide +kernel
theorem d_S_firstBitOfOdd_40 : decode b_S_firstBitOfOdd 40 = .ok (.getfield 68, 3) := by decide +kernel
theorem d_S_firstBitOfOdd_43 : decode b_S_firstBitOfOdd 43 = .ok (.istore_n 2, 1) := by decide +kernel
theorem d_S_firstBitOfOdd_44 : decode b_S_firstBitOfOdd 44 = .ok (.iload_n 2, 1) := by decide +kernel
theorem d_S_firstBitOfOdd_45 : decode b_S_firstBitOfOdd 45 = .ok (.ifCond .eq 7, 3) := by decide +kernel
theorem d_S_firstBitOfOdd_48 : decode b_S_firstBitOfOdd 48 = .ok (.iconst 0, 1) := by decide +kernel
theorem d_S_firstBitOfOdd_49 : decode b_S_firstBitOfOdd 49 = .ok (.goto 4, 3) := by decide +kernel
theorem d_S_firstBitOfOdd_52 : decode b_S_firstBitOfOdd 52 = .ok (.iconst 1, 1) := by decide +kernel
theorem d_S_firstBitOfOdd_53 : decode b_S_firstBitOfOdd 53 = .ok (.ireturn, 1) := by decide +kernel
theorem d_F_checkOver_0 : decode b_F_checkOver 0 = .ok (.iload_n 0, 1) := by decide +kernel
theorem d_F_checkOver_1 : decode b_F_checkOver 1 = .ok (.istore_n 2, 1) := by decide +kernel
theorem d_F_checkOver_2 : decode b_F_checkOver 2 = .ok (.bipush 31, 2) := by decide +kernel
theorem d_F_checkOver_4 : decode b_F_checkOver 4 = .ok (.istore_n 3, 1) := by decide +kernel
theorem d_F_checkOver_5 : decode b_F_checkOver 5 = .ok (.iload_n 3, 1) := by decide +kernel
theorem d_F_checkOver_6 : decode b_F_checkOver 6 = .ok (.ifCond .lt 37, 3) := by decide +kernel
theorem d_F_checkOver_9 : decode b_F_checkOver 9 = .ok (.iload_n 1, 1) := by decide +kernel
theorem d_F_checkOver_10 : decode b_F_checkOver 10 = .ok (.iload_n 3, 1) := by decide +kernel
theorem d_F_checkOver_11 : decode b_F_checkOver 11 = .ok (.iushr, 1) := by decide +kernel
theorem d_F_checkOver_12 : decode b_F_checkOver 12 = .ok (.iconst 1, 1) := by decide +kernel
theorem d_F_checkOver_13 : decode b_F_checkOver 13 = .ok (.iand, 1) := by decide +kernel
theorem d_F_checkOver_14 : decode b_F_checkOver 14 = .ok (.iload_n 2, 1) := by decide +kernel
theorem d_F_checkOver_15 : decode b_F_checkOver 15 = .ok (.iconst 3, 1) := by decide +kernel
theorem d_F_checkOver_16 : decode b_F_checkOver 16 = .ok (.ishr, 1) := by decide +kernel
theorem d_F_checkOver_17 : decode b_F_checkOver 17 = .ok (.ixor, 1) := by decide +kernel
theorem d_F_checkOver_18 : decode b_F_checkOver 18 = .ok (.istore 4, 2) := by decide +kernel
theorem d_F_checkOver_20 : decode b_F_checkOver 20 = .ok (.iload_n 2, 1) := by decide +kernel
theorem d_F_checkOver_21 : decode b_F_checkOver 21 = .ok (.iconst 1, 1) := by decide +kernel
theorem d_F_checkOver_22 : decode b_F_checkOver 22 = .ok (.ishl, 1) := by decide +kernel
theorem d_F_checkOver_23 : decode b_F_checkOver 23 = .ok (.bipush 15, 2) := by decide +kernel
theorem d_F_checkOver_25 : decode b_F_checkOver 25 = .ok (.iand, 1) := by decide +kernel
theorem d_F_checkOver_26 : decode b_F_checkOver 26 = .ok (.istore_n 2, 1) := by decide +kernel
theorem d_F_checkOver_27 : decode b_F_checkOver 27 = .ok (.iload 4, 2) := by decide +kernel
theorem d_F_checkOver_29 : decode b_F_checkOver 29 = .ok (.iconst 1, 1) := by decide +kernel
theorem d_F_checkOver_30 : decode b_F_checkOver 30 = .ok (.if_icmp .ne 7, 3) := by decide +kernel
theorem d_F_checkOver_33 : decode b_F_checkOver 33 = .ok (.iload_n 2, 1) := by decide +kernel
theorem d_F_checkOver_34 : decode b_F_checkOver 34 = .ok (.iconst 3, 1) := by decide +kernel
theorem d_F_checkOver_35 : decode b_F_checkOver 35 = .ok (.ixor, 1) := by decide +kernel
theorem d_F_checkOver_36 : decode b_F_checkOver 36 = .ok (.istore_n 2, 1) := by decide +kernel
theorem d_F_checkOver_37 : decode b_F_checkOver 37 = .ok (.iinc 3 (-1), 3) := by decide +kernel
theorem d_F_checkOver_40 : decode b_F_checkOver 40 = .ok (.goto (-35), 3) := by decide +kernel
theorem d_F_checkOver_43 : decode b_F_checkOver 43 = .ok (.iload_n 2, 1) := by decide +kernel
theorem d_F_checkOver_44 : decode b_F_checkOver 44 = .ok (.ireturn, 1) := by decide +kernel
theorem d_F_endsHalf_0 : decode b_F_endsHalf 0 = .ok (.iload_n 0, 1) := by decide +kernel
theorem d_F_endsHalf_1 : decode b_F_endsHalf 1 = .ok (.bipush 7, 2) := by decide +kernel
theorem d_F_endsHalf_3 : decode b_F_endsHalf 3 = .ok (.if_icmp .eq 9, 3) := by decide +kernel
theorem d_F_endsHalf_6 : decode b_F_endsHalf 6 = .ok (.iload_n 0, 1) := by decide +kernel
theorem d_F_endsHalf_7 : decode b_F_endsHalf 7 = .ok (.bipush 15, 2) := by decide +kernel
theorem d_F_endsHalf_9 : decode b_F_endsHalf 9 = .ok (.if_icmp .ne 7, 3) := by decide +kernel
theorem d_F_endsHalf_12 : decode b_F_endsHalf 12 = .ok (.iconst 1, 1) := by decide +kernel
theorem d_F_endsHalf_13 : decode b_F_endsHalf 13 = .ok (.goto 4, 3) := by decide +kernel
theorem d_F_endsHalf_16 : decode b_F_endsHalf 16 = .ok (.iconst 0, 1) := by decide +kernel
theorem d_F_endsHalf_17 : decode b_F_endsHalf 17 = .ok (.ireturn, 1) := by decide +kernel
