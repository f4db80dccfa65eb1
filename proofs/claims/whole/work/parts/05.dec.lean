theorem d_D_bitBehind_0 : decode b_D_bitBehind 0 = .ok (.aload_n 0, 1) := by decide +kernel
theorem d_D_bitBehind_1 : decode b_D_bitBehind 1 = .ok (.iload_n 1, 1) := by decide +kernel
theorem d_D_bitBehind_2 : decode b_D_bitBehind 2 = .ok (.putfield 9, 3) := by decide +kernel
theorem d_D_bitBehind_5 : decode b_D_bitBehind 5 = .ok (.iload_n 1, 1) := by decide +kernel
theorem d_D_bitBehind_6 : decode b_D_bitBehind 6 = .ok (.ifCond .ne 10, 3) := by decide +kernel
theorem d_D_bitBehind_9 : decode b_D_bitBehind 9 = .ok (.aload_n 0, 1) := by decide +kernel
theorem d_D_bitBehind_10 : decode b_D_bitBehind 10 = .ok (.invokevirtual 33, 3) := by decide +kernel
theorem d_D_bitBehind_13 : decode b_D_bitBehind 13 = .ok (.goto 8, 3) := by decide +kernel
theorem d_D_bitBehind_16 : decode b_D_bitBehind 16 = .ok (.aload_n 0, 1) := by decide +kernel
theorem d_D_bitBehind_17 : decode b_D_bitBehind 17 = .ok (.iload_n 1, 1) := by decide +kernel
theorem d_D_bitBehind_18 : decode b_D_bitBehind 18 = .ok (.invokevirtual 36, 3) := by decide +kernel
theorem d_D_bitBehind_21 : decode b_D_bitBehind 21 = .ok (.aload_n 0, 1) := by decide +kernel
theorem d_D_bitBehind_22 : decode b_D_bitBehind 22 = .ok (.getfield 27, 3) := by decide +kernel
theorem d_D_bitBehind_25 : decode b_D_bitBehind 25 = .ok (.iconst 3, 1) := by decide +kernel
theorem d_D_bitBehind_26 : decode b_D_bitBehind 26 = .ok (.if_icmp .ge 15, 3) := by decide +kernel
theorem d_D_bitBehind_29 : decode b_D_bitBehind 29 = .ok (.aload_n 0, 1) := by decide +kernel
theorem d_D_bitBehind_30 : decode b_D_bitBehind 30 = .ok (.dup, 1) := by decide +kernel
theorem d_D_bitBehind_31 : decode b_D_bitBehind 31 = .ok (.getfield 27, 3) := by decide +kernel
theorem d_D_bitBehind_34 : decode b_D_bitBehind 34 = .ok (.iconst 1, 1) := by decide +kernel
theorem d_D_bitBehind_35 : decode b_D_bitBehind 35 = .ok (.iadd, 1) := by decide +kernel
theorem d_D_bitBehind_36 : decode b_D_bitBehind 36 = .ok (.putfield 27, 3) := by decide +kernel
theorem d_D_bitBehind_39 : decode b_D_bitBehind 39 = .ok (.iconst (-1), 1) := by decide +kernel
theorem d_D_bitBehind_40 : decode b_D_bitBehind 40 = .ok (.ireturn, 1) := by decide +kernel
theorem d_D_bitBehind_41 : decode b_D_bitBehind 41 = .ok (.aload_n 0, 1) := by decide +kernel
theorem d_D_bitBehind_42 : decode b_D_bitBehind 42 = .ok (.getfield 24, 3) := by decide +kernel
theorem d_D_bitBehind_45 : decode b_D_bitBehind 45 = .ok (.iconst 3, 1) := by decide +kernel
theorem d_D_bitBehind_46 : decode b_D_bitBehind 46 = .ok (.ishr, 1) := by decide +kernel
theorem d_D_bitBehind_47 : decode b_D_bitBehind 47 = .ok (.iconst 1, 1) := by decide +kernel
theorem d_D_bitBehind_48 : decode b_D_bitBehind 48 = .ok (.iand, 1) := by decide +kernel
theorem d_D_bitBehind_49 : decode b_D_bitBehind 49 = .ok (.ireturn, 1) := by decide +kernel
theorem d_D_takeZero_0 : decode b_D_takeZero 0 = .ok (.aload_n 0, 1) := by decide +kernel
theorem d_D_takeZero_1 : decode b_D_takeZero 1 = .ok (.aload_n 0, 1) := by decide +kernel
theorem d_D_takeZero_2 : decode b_D_takeZero 2 = .ok (.getfield 24, 3) := by decide +kernel
theorem d_D_takeZero_5 : decode b_D_takeZero 5 = .ok (.iconst 1, 1) := by decide +kernel
theorem d_D_takeZero_6 : decode b_D_takeZero 6 = .ok (.ishl, 1) := by decide +kernel
theorem d_D_takeZero_7 : decode b_D_takeZero 7 = .ok (.bipush 15, 2) := by decide +kernel
theorem d_D_takeZero_9 : decode b_D_takeZero 9 = .ok (.iand, 1) := by decide +kernel
theorem d_D_takeZero_10 : decode b_D_takeZero 10 = .ok (.putfield 24, 3) := by decide +kernel
theorem d_D_takeZero_13 : decode b_D_takeZero 13 = .ok (.aload_n 0, 1) := by decide +kernel
theorem d_D_takeZero_14 : decode b_D_takeZero 14 = .ok (.dup, 1) := by decide +kernel
theorem d_D_takeZero_15 : decode b_D_takeZero 15 = .ok (.getfield 21, 3) := by decide +kernel
theorem d_D_takeZero_18 : decode b_D_takeZero 18 = .ok (.iconst 1, 1) := by decide +kernel
theorem d_D_takeZero_19 : decode b_D_takeZero 19 = .ok (.iadd, 1) := by decide +kernel
theorem d_D_takeZero_20 : decode b_D_takeZero 20 = .ok (.putfield 21, 3) := by decide +kernel
theorem d_D_takeZero_23 : decode b_D_takeZero 23 = .ok (.aload_n 0, 1) := by decide +kernel
theorem d_D_takeZero_24 : decode b_D_takeZero 24 = .ok (.getfield 15, 3) := by decide +kernel
theorem d_D_takeZero_27 : decode b_D_takeZero 27 = .ok (.ifCond .eq 22, 3) := by decide +kernel
theorem d_D_takeZero_30 : decode b_D_takeZero 30 = .ok (.aload_n 0, 1) := by decide +kernel
theorem d_D_takeZero_31 : decode b_D_takeZero 31 = .ok (.getfield 21, 3) := by decide +kernel
theorem d_D_takeZero_34 : decode b_D_takeZero 34 = .ok (.iconst 3, 1) := by decide +kernel
theorem d_D_takeZero_35 : decode b_D_takeZero 35 = .ok (.iand, 1) := by decide +kernel
theorem d_D_takeZero_36 : decode b_D_takeZero 36 = .ok (.ifCond .ne 13, 3) := by decide +kernel
theorem d_D_takeZero_39 : decode b_D_takeZero 39 = .ok (.aload_n 0, 1) := by decide +kernel
theorem d_D_takeZero_40 : decode b_D_takeZero 40 = .ok (.dup, 1) := by decide +kernel
theorem d_D_takeZero_41 : decode b_D_takeZero 41 = .ok (.getfield 30, 3) := by decide +kernel
theorem d_D_takeZero_44 : decode b_D_takeZero 44 = .ok (.iconst 1, 1) := by decide +kernel
theorem d_D_takeZero_45 : decode b_D_takeZero 45 = .ok (.iadd, 1) := by decide +kernel
theorem d_D_takeZero_46 : decode b_D_takeZero 46 = .ok (.putfield 30, 3) := by decide +kernel
theorem d_D_takeZero_49 : decode b_D_takeZero 49 = .ok (.return_, 1) := by decide +kernel
theorem d_D_takePulse_0 : decode b_D_takePulse 0 = .ok (.iload_n 1, 1) := by decide +kernel
theorem d_D_takePulse_1 : decode b_D_takePulse 1 = .ok (.aload_n 0, 1) := by decide +kernel
theorem d_D_takePulse_2 : decode b_D_takePulse 2 = .ok (.getfield 15, 3) := by decide +kernel
theorem d_D_takePulse_5 : decode b_D_takePulse 5 = .ok (.if_icmp .ne 7, 3) := by decide +kernel
theorem d_D_takePulse_8 : decode b_D_takePulse 8 = .ok (.iconst 1, 1) := by decide +kernel
theorem d_D_takePulse_9 : decode b_D_takePulse 9 = .ok (.goto 4, 3) := by decide +kernel
theorem d_D_takePulse_12 : decode b_D_takePulse 12 = .ok (.iconst 0, 1) := by decide +kernel
theorem d_D_takePulse_13 : decode b_D_takePulse 13 = .ok (.istore_n 2, 1) := by decide +kernel
theorem d_D_takePulse_14 : decode b_D_takePulse 14 = .ok (.iload_n 2, 1) := by decide +kernel
theorem d_D_takePulse_15 : decode b_D_takePulse 15 = .ok (.ifCond .eq 19, 3) := by decide +kernel
theorem d_D_takePulse_18 : decode b_D_takePulse 18 = .ok (.aload_n 0, 1) := by decide +kernel
theorem d_D_takePulse_19 : decode b_D_takePulse 19 = .ok (.getfield 21, 3) := by decide +kernel
theorem d_D_takePulse_22 : decode b_D_takePulse 22 = .ok (.iconst 2, 1) := by decide +kernel
theorem d_D_takePulse_23 : decode b_D_takePulse 23 = .ok (.if_icmp .lt 11, 3) := by decide +kernel
theorem d_D_takePulse_26 : decode b_D_takePulse 26 = .ok (.aload_n 0, 1) := by decide +kernel
theorem d_D_takePulse_27 : decode b_D_takePulse 27 = .ok (.iload_n 1, 1) := by decide +kernel
theorem d_D_takePulse_28 : decode b_D_takePulse 28 = .ok (.invokevirtual 40, 3) := by decide +kernel
theorem d_D_takePulse_31 : decode b_D_takePulse 31 = .ok (.goto 32, 3) := by decide +kernel
theorem d_D_takePulse_34 : decode b_D_takePulse 34 = .ok (.aload_n 0, 1) := by decide +kernel
theorem d_D_takePulse_35 : decode b_D_takePulse 35 = .ok (.aload_n 0, 1) := by decide +kernel
theorem d_D_takePulse_36 : decode b_D_takePulse 36 = .ok (.getfield 24, 3) := by decide +kernel
theorem d_D_takePulse_39 : decode b_D_takePulse 39 = .ok (.iconst 1, 1) := by decide +kernel
theorem d_D_takePulse_40 : decode b_D_takePulse 40 = .ok (.ishl, 1) := by decide +kernel
theorem d_D_takePulse_41 : decode b_D_takePulse 41 = .ok (.iconst 1, 1) := by decide +kernel
theorem d_D_takePulse_42 : decode b_D_takePulse 42 = .ok (.ior, 1) := by decide +kernel
theorem d_D_takePulse_43 : decode b_D_takePulse 43 = .ok (.bipush 15, 2) := by decide +kernel
theorem d_D_takePulse_45 : decode b_D_takePulse 45 = .ok (.iand, 1) := by decide +kernel
theorem d_D_takePulse_46 : decode b_D_takePulse 46 = .ok (.putfield 24, 3) := by decide +kernel
theorem d_D_takePulse_49 : decode b_D_takePulse 49 = .ok (.iload_n 2, 1) := by decide +kernel
theorem d_D_takePulse_50 : decode b_D_takePulse 50 = .ok (.ifCond .eq 13, 3) := by decide +kernel
theorem d_D_takePulse_53 : decode b_D_takePulse 53 = .ok (.aload_n 0, 1) := by decide +kernel
theorem d_D_takePulse_54 : decode b_D_takePulse 54 = .ok (.dup, 1) := by decide +kernel
theorem d_D_takePulse_55 : decode b_D_takePulse 55 = .ok (.getfield 30, 3) := by decide +kernel
theorem d_D_takePulse_58 : decode b_D_takePulse 58 = .ok (.iconst 1, 1) := by decide +kernel
theorem d_D_takePulse_59 : decode b_D_takePulse 59 = .ok (.iadd, 1) := by decide +kernel
theorem d_D_takePulse_60 : decode b_D_takePulse 60 = .ok (.putfield 30, 3) := by decide +kernel
theorem d_D_takePulse_63 : decode b_D_takePulse 63 = .ok (.aload_n 0, 1) := by decide +kernel
theorem d_D_takePulse_64 : decode b_D_takePulse 64 = .ok (.iload_n 1, 1) := by decide +kernel
theorem d_D_takePulse_65 : decode b_D_takePulse 65 = .ok (.putfield 15, 3) := by decide +kernel
theorem d_D_takePulse_68 : decode b_D_takePulse 68 = .ok (.aload_n 0, 1) := by decide +kernel
theorem d_D_takePulse_69 : decode b_D_takePulse 69 = .ok (.iconst 0, 1) := by decide +kernel
theorem d_D_takePulse_70 : decode b_D_takePulse 70 = .ok (.putfield 21, 3) := by decide +kernel
theorem d_D_takePulse_73 : decode b_D_takePulse 73 = .ok (.return_, 1) := by decide +kernel
theorem d_D_takeV_0 : decode b_D_takeV 0 = .ok (.aload_n 0, 1) := by decide +kernel
theorem d_D_takeV_1 : decode b_D_takeV 1 = .ok (.iconst 0, 1) := by decide +kernel
theorem d_D_takeV_2 : decode b_D_takeV 2 = .ok (.putfield 24, 3) := by decide +kernel
theorem d_D_takeV_5 : decode b_D_takeV 5 = .ok (.iload_n 1, 1) := by decide +kernel
theorem d_D_takeV_6 : decode b_D_takeV 6 = .ok (.aload_n 0, 1) := by decide +kernel
theorem d_D_takeV_7 : decode b_D_takeV 7 = .ok (.getfield 18, 3) := by decide +kernel
theorem d_D_takeV_10 : decode b_D_takeV 10 = .ok (.if_icmp .ne 13, 3) := by decide +kernel
theorem d_D_takeV_13 : decode b_D_takeV 13 = .ok (.aload_n 0, 1) := by decide +kernel
theorem d_D_takeV_14 : decode b_D_takeV 14 = .ok (.dup, 1) := by decide +kernel
theorem d_D_takeV_15 : decode b_D_takeV 15 = .ok (.getfield 30, 3) := by decide +kernel
theorem d_D_takeV_18 : decode b_D_takeV 18 = .ok (.iconst 1, 1) := by decide +kernel
theorem d_D_takeV_19 : decode b_D_takeV 19 = .ok (.iadd, 1) := by decide +kernel
theorem d_D_takeV_20 : decode b_D_takeV 20 = .ok (.putfield 30, 3) := by decide +kernel
theorem d_D_takeV_23 : decode b_D_takeV 23 = .ok (.aload_n 0, 1) := by decide +kernel
theorem d_D_takeV_24 : decode b_D_takeV 24 = .ok (.iload_n 1, 1) := by decide +kernel
theorem d_D_takeV_25 : decode b_D_takeV 25 = .ok (.putfield 18, 3) := by decide +kernel
theorem d_D_takeV_28 : decode b_D_takeV 28 = .ok (.return_, 1) := by decide +kernel
