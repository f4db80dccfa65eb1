theorem mc_M_isEnd : Cond.code y_M_isEnd b_M_isEnd 1 (some .boolean) ∈ GW ∧ Cond.initialized (y_M_isEnd).cls ∈ GW ∧ ((y_M_isEnd).cls ≠ "java/lang/invoke/MethodHandle" ∧ (y_M_isEnd).cls ≠ "java/lang/invoke/VarHandle" ∧ (parseMethodDescriptor (y_M_isEnd).desc).map (fun d => d.parameters.length) = some 1) := ⟨GW_at 778 (by decide +kernel) (by decide +kernel), GW_at 51 (by decide +kernel) (by decide +kernel), by decide +kernel⟩
theorem lm_M_193 : gLS "FramedLineModel" 193 y_M_isEnd b_M_isEnd 1 (some .boolean) 1 := ⟨mc_M_isEnd, GW_at 776 (by decide +kernel) (by decide +kernel), GW_at 777 (by decide +kernel) (by decide +kernel)⟩
theorem mc_M_within : Cond.code y_M_within b_M_within 3 (some .boolean) ∈ GW ∧ Cond.initialized (y_M_within).cls ∈ GW ∧ ((y_M_within).cls ≠ "java/lang/invoke/MethodHandle" ∧ (y_M_within).cls ≠ "java/lang/invoke/VarHandle" ∧ (parseMethodDescriptor (y_M_within).desc).map (fun d => d.parameters.length) = some 3) := ⟨GW_at 781 (by decide +kernel) (by decide +kernel), GW_at 51 (by decide +kernel) (by decide +kernel), by decide +kernel⟩
theorem lm_M_196 : gLS "FramedLineModel" 196 y_M_within b_M_within 3 (some .boolean) 3 := ⟨mc_M_within, GW_at 779 (by decide +kernel) (by decide +kernel), GW_at 780 (by decide +kernel) (by decide +kernel)⟩
theorem d_M_load_0 : decode b_M_load 0 = .ok (.aload_n 0, 1) := by decide +kernel
theorem d_M_load_1 : decode b_M_load 1 = .ok (.iload_n 1, 1) := by decide +kernel
theorem d_M_load_2 : decode b_M_load 2 = .ok (.invokestatic 193, 3) := by decide +kernel
theorem d_M_load_5 : decode b_M_load 5 = .ok (.ifCond .eq 27, 3) := by decide +kernel
theorem d_M_load_8 : decode b_M_load 8 = .ok (.iload_n 2, 1) := by decide +kernel
theorem d_M_load_9 : decode b_M_load 9 = .ok (.iconst 1, 1) := by decide +kernel
theorem d_M_load_10 : decode b_M_load 10 = .ok (.iconst 3, 1) := by decide +kernel
theorem d_M_load_11 : decode b_M_load 11 = .ok (.invokestatic 196, 3) := by decide +kernel
theorem d_M_load_14 : decode b_M_load 14 = .ok (.ifCond .eq 18, 3) := by decide +kernel
theorem d_M_load_17 : decode b_M_load 17 = .ok (.iload_n 3, 1) := by decide +kernel
theorem d_M_load_18 : decode b_M_load 18 = .ok (.iconst 0, 1) := by decide +kernel
theorem d_M_load_19 : decode b_M_load 19 = .ok (.sipush 255, 3) := by decide +kernel
theorem d_M_load_22 : decode b_M_load 22 = .ok (.invokestatic 196, 3) := by decide +kernel
theorem d_M_load_25 : decode b_M_load 25 = .ok (.ifCond .eq 7, 3) := by decide +kernel
theorem d_M_load_28 : decode b_M_load 28 = .ok (.iconst 0, 1) := by decide +kernel
theorem d_M_load_29 : decode b_M_load 29 = .ok (.goto 4, 3) := by decide +kernel
theorem d_M_load_32 : decode b_M_load 32 = .ok (.iconst 1, 1) := by decide +kernel
theorem d_M_load_33 : decode b_M_load 33 = .ok (.putfield 137, 3) := by decide +kernel
theorem d_M_load_36 : decode b_M_load 36 = .ok (.aload_n 0, 1) := by decide +kernel
theorem d_M_load_37 : decode b_M_load 37 = .ok (.getfield 137, 3) := by decide +kernel
theorem d_M_load_40 : decode b_M_load 40 = .ok (.ifCond .le 5, 3) := by decide +kernel
theorem d_M_load_43 : decode b_M_load 43 = .ok (.iconst 0, 1) := by decide +kernel
theorem d_M_load_44 : decode b_M_load 44 = .ok (.ireturn, 1) := by decide +kernel
theorem d_M_load_45 : decode b_M_load 45 = .ok (.aload_n 0, 1) := by decide +kernel
theorem d_M_load_46 : decode b_M_load 46 = .ok (.getfield 7, 3) := by decide +kernel
theorem d_M_load_49 : decode b_M_load 49 = .ok (.iconst 4, 1) := by decide +kernel
theorem d_M_load_50 : decode b_M_load 50 = .ok (.iload_n 1, 1) := by decide +kernel
theorem d_M_load_51 : decode b_M_load 51 = .ok (.imul, 1) := by decide +kernel
theorem d_M_load_52 : decode b_M_load 52 = .ok (.iload_n 2, 1) := by decide +kernel
theorem d_M_load_53 : decode b_M_load 53 = .ok (.iadd, 1) := by decide +kernel
theorem d_M_load_54 : decode b_M_load 54 = .ok (.iaload, 1) := by decide +kernel
theorem d_M_load_55 : decode b_M_load 55 = .ok (.istore 4, 2) := by decide +kernel
theorem d_M_load_57 : decode b_M_load 57 = .ok (.aload_n 0, 1) := by decide +kernel
theorem d_M_load_58 : decode b_M_load 58 = .ok (.getfield 7, 3) := by decide +kernel
theorem d_M_load_61 : decode b_M_load 61 = .ok (.iconst 4, 1) := by decide +kernel
theorem d_M_load_62 : decode b_M_load 62 = .ok (.iload_n 1, 1) := by decide +kernel
theorem d_M_load_63 : decode b_M_load 63 = .ok (.imul, 1) := by decide +kernel
theorem d_M_load_64 : decode b_M_load 64 = .ok (.iload_n 2, 1) := by decide +kernel
theorem d_M_load_65 : decode b_M_load 65 = .ok (.iadd, 1) := by decide +kernel
theorem d_M_load_66 : decode b_M_load 66 = .ok (.iload_n 3, 1) := by decide +kernel
theorem d_M_load_67 : decode b_M_load 67 = .ok (.iastore, 1) := by decide +kernel
theorem d_M_load_68 : decode b_M_load 68 = .ok (.iload 4, 2) := by decide +kernel
theorem d_M_load_70 : decode b_M_load 70 = .ok (.ireturn, 1) := by decide +kernel
theorem d_M_slip_0 : decode b_M_slip 0 = .ok (.aload_n 0, 1) := by decide +kernel
theorem d_M_slip_1 : decode b_M_slip 1 = .ok (.iload_n 1, 1) := by decide +kernel
theorem d_M_slip_2 : decode b_M_slip 2 = .ok (.invokestatic 193, 3) := by decide +kernel
theorem d_M_slip_5 : decode b_M_slip 5 = .ok (.ifCond .eq 7, 3) := by decide +kernel
theorem d_M_slip_8 : decode b_M_slip 8 = .ok (.iconst 0, 1) := by decide +kernel
theorem d_M_slip_9 : decode b_M_slip 9 = .ok (.goto 4, 3) := by decide +kernel
theorem d_M_slip_12 : decode b_M_slip 12 = .ok (.iconst 1, 1) := by decide +kernel
theorem d_M_slip_13 : decode b_M_slip 13 = .ok (.putfield 137, 3) := by decide +kernel
theorem d_M_slip_16 : decode b_M_slip 16 = .ok (.aload_n 0, 1) := by decide +kernel
theorem d_M_slip_17 : decode b_M_slip 17 = .ok (.getfield 137, 3) := by decide +kernel
theorem d_M_slip_20 : decode b_M_slip 20 = .ok (.ifCond .le 5, 3) := by decide +kernel
theorem d_M_slip_23 : decode b_M_slip 23 = .ok (.iconst 0, 1) := by decide +kernel
theorem d_M_slip_24 : decode b_M_slip 24 = .ok (.ireturn, 1) := by decide +kernel
theorem d_M_slip_25 : decode b_M_slip 25 = .ok (.aload_n 0, 1) := by decide +kernel
theorem d_M_slip_26 : decode b_M_slip 26 = .ok (.getfield 50, 3) := by decide +kernel
theorem d_M_slip_29 : decode b_M_slip 29 = .ok (.iload_n 1, 1) := by decide +kernel
theorem d_M_slip_30 : decode b_M_slip 30 = .ok (.baload, 1) := by decide +kernel
theorem d_M_slip_31 : decode b_M_slip 31 = .ok (.ifCond .ne 7, 3) := by decide +kernel
theorem d_M_slip_34 : decode b_M_slip 34 = .ok (.iconst 1, 1) := by decide +kernel
theorem d_M_slip_35 : decode b_M_slip 35 = .ok (.goto 4, 3) := by decide +kernel
theorem d_M_slip_38 : decode b_M_slip 38 = .ok (.iconst 0, 1) := by decide +kernel
theorem d_M_slip_39 : decode b_M_slip 39 = .ok (.istore_n 2, 1) := by decide +kernel
theorem d_M_slip_40 : decode b_M_slip 40 = .ok (.aload_n 0, 1) := by decide +kernel
theorem d_M_slip_41 : decode b_M_slip 41 = .ok (.getfield 50, 3) := by decide +kernel
theorem d_M_slip_44 : decode b_M_slip 44 = .ok (.iload_n 1, 1) := by decide +kernel
theorem d_M_slip_45 : decode b_M_slip 45 = .ok (.iconst 1, 1) := by decide +kernel
theorem d_M_slip_46 : decode b_M_slip 46 = .ok (.bastore, 1) := by decide +kernel
theorem d_M_slip_47 : decode b_M_slip 47 = .ok (.iload_n 2, 1) := by decide +kernel
theorem d_M_slip_48 : decode b_M_slip 48 = .ok (.ireturn, 1) := by decide +kernel
theorem d_M_symbol_0 : decode b_M_symbol 0 = .ok (.aload_n 0, 1) := by decide +kernel
theorem d_M_symbol_1 : decode b_M_symbol 1 = .ok (.iload_n 1, 1) := by decide +kernel
theorem d_M_symbol_2 : decode b_M_symbol 2 = .ok (.invokestatic 193, 3) := by decide +kernel
theorem d_M_symbol_5 : decode b_M_symbol 5 = .ok (.ifCond .eq 7, 3) := by decide +kernel
theorem d_M_symbol_8 : decode b_M_symbol 8 = .ok (.iconst 0, 1) := by decide +kernel
theorem d_M_symbol_9 : decode b_M_symbol 9 = .ok (.goto 4, 3) := by decide +kernel
theorem d_M_symbol_12 : decode b_M_symbol 12 = .ok (.iconst 1, 1) := by decide +kernel
theorem d_M_symbol_13 : decode b_M_symbol 13 = .ok (.putfield 137, 3) := by decide +kernel
theorem d_M_symbol_16 : decode b_M_symbol 16 = .ok (.aload_n 0, 1) := by decide +kernel
theorem d_M_symbol_17 : decode b_M_symbol 17 = .ok (.getfield 137, 3) := by decide +kernel
theorem d_M_symbol_20 : decode b_M_symbol 20 = .ok (.ifCond .le 7, 3) := by decide +kernel
theorem d_M_symbol_23 : decode b_M_symbol 23 = .ok (.iconst 0, 1) := by decide +kernel
theorem d_M_symbol_24 : decode b_M_symbol 24 = .ok (.goto 9, 3) := by decide +kernel
theorem d_M_symbol_27 : decode b_M_symbol 27 = .ok (.aload_n 0, 1) := by decide +kernel
theorem d_M_symbol_28 : decode b_M_symbol 28 = .ok (.getfield 56, 3) := by decide +kernel
theorem d_M_symbol_31 : decode b_M_symbol 31 = .ok (.iload_n 1, 1) := by decide +kernel
theorem d_M_symbol_32 : decode b_M_symbol 32 = .ok (.iaload, 1) := by decide +kernel
theorem d_M_symbol_33 : decode b_M_symbol 33 = .ok (.ireturn, 1) := by decide +kernel
theorem d_M_aligned_0 : decode b_M_aligned 0 = .ok (.aload_n 0, 1) := by decide +kernel
theorem d_M_aligned_1 : decode b_M_aligned 1 = .ok (.iload_n 1, 1) := by decide +kernel
theorem d_M_aligned_2 : decode b_M_aligned 2 = .ok (.invokestatic 193, 3) := by decide +kernel
theorem d_M_aligned_5 : decode b_M_aligned 5 = .ok (.ifCond .eq 7, 3) := by decide +kernel
theorem d_M_aligned_8 : decode b_M_aligned 8 = .ok (.iconst 0, 1) := by decide +kernel
theorem d_M_aligned_9 : decode b_M_aligned 9 = .ok (.goto 4, 3) := by decide +kernel
theorem d_M_aligned_12 : decode b_M_aligned 12 = .ok (.iconst 1, 1) := by decide +kernel
theorem d_M_aligned_13 : decode b_M_aligned 13 = .ok (.putfield 137, 3) := by decide +kernel
theorem d_M_aligned_16 : decode b_M_aligned 16 = .ok (.aload_n 0, 1) := by decide +kernel
theorem d_M_aligned_17 : decode b_M_aligned 17 = .ok (.getfield 137, 3) := by decide +kernel
theorem d_M_aligned_20 : decode b_M_aligned 20 = .ok (.ifCond .ne 17, 3) := by decide +kernel
theorem d_M_aligned_23 : decode b_M_aligned 23 = .ok (.aload_n 0, 1) := by decide +kernel
theorem d_M_aligned_24 : decode b_M_aligned 24 = .ok (.getfield 74, 3) := by decide +kernel
theorem d_M_aligned_27 : decode b_M_aligned 27 = .ok (.iload_n 1, 1) := by decide +kernel
theorem d_M_aligned_28 : decode b_M_aligned 28 = .ok (.iaload, 1) := by decide +kernel
theorem d_M_aligned_29 : decode b_M_aligned 29 = .ok (.iconst 2, 1) := by decide +kernel
theorem d_M_aligned_30 : decode b_M_aligned 30 = .ok (.if_icmp .ne 7, 3) := by decide +kernel
theorem d_M_aligned_33 : decode b_M_aligned 33 = .ok (.iconst 1, 1) := by decide +kernel
theorem d_M_aligned_34 : decode b_M_aligned 34 = .ok (.goto 4, 3) := by decide +kernel
theorem d_M_aligned_37 : decode b_M_aligned 37 = .ok (.iconst 0, 1) := by decide +kernel
theorem d_M_aligned_38 : decode b_M_aligned 38 = .ok (.ireturn, 1) := by decide +kernel
theorem d_M_frame_0 : decode b_M_frame 0 = .ok (.aload_n 0, 1) := by decide +kernel
theorem d_M_frame_1 : decode b_M_frame 1 = .ok (.iload_n 1, 1) := by decide +kernel
theorem d_M_frame_2 : decode b_M_frame 2 = .ok (.invokestatic 193, 3) := by decide +kernel
theorem d_M_frame_5 : decode b_M_frame 5 = .ok (.ifCond .eq 7, 3) := by decide +kernel
theorem d_M_frame_8 : decode b_M_frame 8 = .ok (.iconst 0, 1) := by decide +kernel
theorem d_M_frame_9 : decode b_M_frame 9 = .ok (.goto 4, 3) := by decide +kernel
theorem d_M_frame_12 : decode b_M_frame 12 = .ok (.iconst 1, 1) := by decide +kernel
theorem d_M_frame_13 : decode b_M_frame 13 = .ok (.putfield 137, 3) := by decide +kernel
theorem d_M_frame_16 : decode b_M_frame 16 = .ok (.aload_n 0, 1) := by decide +kernel
theorem d_M_frame_17 : decode b_M_frame 17 = .ok (.getfield 137, 3) := by decide +kernel
theorem d_M_frame_20 : decode b_M_frame 20 = .ok (.ifCond .le 7, 3) := by decide +kernel
theorem d_M_frame_23 : decode b_M_frame 23 = .ok (.iconst 0, 1) := by decide +kernel
theorem d_M_frame_24 : decode b_M_frame 24 = .ok (.goto 22, 3) := by decide +kernel
theorem d_M_frame_27 : decode b_M_frame 27 = .ok (.aload_n 0, 1) := by decide +kernel
theorem d_M_frame_28 : decode b_M_frame 28 = .ok (.getfield 101, 3) := by decide +kernel
theorem d_M_frame_31 : decode b_M_frame 31 = .ok (.iload_n 1, 1) := by decide +kernel
theorem d_M_frame_32 : decode b_M_frame 32 = .ok (.baload, 1) := by decide +kernel
theorem d_M_frame_33 : decode b_M_frame 33 = .ok (.ifCond .eq 12, 3) := by decide +kernel
theorem d_M_frame_36 : decode b_M_frame 36 = .ok (.aload_n 0, 1) := by decide +kernel
theorem d_M_frame_37 : decode b_M_frame 37 = .ok (.getfield 104, 3) := by decide +kernel
theorem d_M_frame_40 : decode b_M_frame 40 = .ok (.iload_n 1, 1) := by decide +kernel
theorem d_M_frame_41 : decode b_M_frame 41 = .ok (.iaload, 1) := by decide +kernel
theorem d_M_frame_42 : decode b_M_frame 42 = .ok (.goto 4, 3) := by decide +kernel
theorem d_M_frame_45 : decode b_M_frame 45 = .ok (.iconst (-1), 1) := by decide +kernel
theorem d_M_frame_46 : decode b_M_frame 46 = .ok (.ireturn, 1) := by decide +kernel
theorem d_M_slot_0 : decode b_M_slot 0 = .ok (.aload_n 0, 1) := by decide +kernel
theorem d_M_slot_1 : decode b_M_slot 1 = .ok (.iload_n 1, 1) := by decide +kernel
theorem d_M_slot_2 : decode b_M_slot 2 = .ok (.invokestatic 193, 3) := by decide +kernel
theorem d_M_slot_5 : decode b_M_slot 5 = .ok (.ifCond .eq 16, 3) := by decide +kernel
theorem d_M_slot_8 : decode b_M_slot 8 = .ok (.iload_n 2, 1) := by decide +kernel
theorem d_M_slot_9 : decode b_M_slot 9 = .ok (.iconst 0, 1) := by decide +kernel
theorem d_M_slot_10 : decode b_M_slot 10 = .ok (.iconst 3, 1) := by decide +kernel
theorem d_M_slot_11 : decode b_M_slot 11 = .ok (.invokestatic 196, 3) := by decide +kernel
theorem d_M_slot_14 : decode b_M_slot 14 = .ok (.ifCond .eq 7, 3) := by decide +kernel
theorem d_M_slot_17 : decode b_M_slot 17 = .ok (.iconst 0, 1) := by decide +kernel
theorem d_M_slot_18 : decode b_M_slot 18 = .ok (.goto 4, 3) := by decide +kernel
theorem d_M_slot_21 : decode b_M_slot 21 = .ok (.iconst 1, 1) := by decide +kernel
theorem d_M_slot_22 : decode b_M_slot 22 = .ok (.putfield 137, 3) := by decide +kernel
theorem d_M_slot_25 : decode b_M_slot 25 = .ok (.aload_n 0, 1) := by decide +kernel
theorem d_M_slot_26 : decode b_M_slot 26 = .ok (.getfield 137, 3) := by decide +kernel
theorem d_M_slot_29 : decode b_M_slot 29 = .ok (.ifCond .le 7, 3) := by decide +kernel
theorem d_M_slot_32 : decode b_M_slot 32 = .ok (.iconst 0, 1) := by decide +kernel
theorem d_M_slot_33 : decode b_M_slot 33 = .ok (.goto 34, 3) := by decide +kernel
theorem d_M_slot_36 : decode b_M_slot 36 = .ok (.aload_n 0, 1) := by decide +kernel
theorem d_M_slot_37 : decode b_M_slot 37 = .ok (.getfield 92, 3) := by decide +kernel
theorem d_M_slot_40 : decode b_M_slot 40 = .ok (.iload_n 1, 1) := by decide +kernel
theorem d_M_slot_41 : decode b_M_slot 41 = .ok (.baload, 1) := by decide +kernel
theorem d_M_slot_42 : decode b_M_slot 42 = .ok (.ifCond .eq 24, 3) := by decide +kernel
theorem d_M_slot_45 : decode b_M_slot 45 = .ok (.aload_n 0, 1) := by decide +kernel
theorem d_M_slot_46 : decode b_M_slot 46 = .ok (.getfield 95, 3) := by decide +kernel
theorem d_M_slot_49 : decode b_M_slot 49 = .ok (.iload_n 1, 1) := by decide +kernel
theorem d_M_slot_50 : decode b_M_slot 50 = .ok (.iaload, 1) := by decide +kernel
theorem d_M_slot_51 : decode b_M_slot 51 = .ok (.bipush 24, 2) := by decide +kernel
theorem d_M_slot_53 : decode b_M_slot 53 = .ok (.bipush 8, 2) := by decide +kernel
theorem d_M_slot_55 : decode b_M_slot 55 = .ok (.iload_n 2, 1) := by decide +kernel
theorem d_M_slot_56 : decode b_M_slot 56 = .ok (.imul, 1) := by decide +kernel
theorem d_M_slot_57 : decode b_M_slot 57 = .ok (.isub, 1) := by decide +kernel
theorem d_M_slot_58 : decode b_M_slot 58 = .ok (.ishr, 1) := by decide +kernel
theorem d_M_slot_59 : decode b_M_slot 59 = .ok (.sipush 255, 3) := by decide +kernel
theorem d_M_slot_62 : decode b_M_slot 62 = .ok (.iand, 1) := by decide +kernel
theorem d_M_slot_63 : decode b_M_slot 63 = .ok (.goto 4, 3) := by decide +kernel
theorem d_M_slot_66 : decode b_M_slot 66 = .ok (.iconst (-1), 1) := by decide +kernel
theorem d_M_slot_67 : decode b_M_slot 67 = .ok (.ireturn, 1) := by decide +kernel
theorem d_M_alarm_0 : decode b_M_alarm 0 = .ok (.aload_n 0, 1) := by decide +kernel
theorem d_M_alarm_1 : decode b_M_alarm 1 = .ok (.iload_n 1, 1) := by decide +kernel
theorem d_M_alarm_2 : decode b_M_alarm 2 = .ok (.invokestatic 193, 3) := by decide +kernel
theorem d_M_alarm_5 : decode b_M_alarm 5 = .ok (.ifCond .eq 7, 3) := by decide +kernel
theorem d_M_alarm_8 : decode b_M_alarm 8 = .ok (.iconst 0, 1) := by decide +kernel
theorem d_M_alarm_9 : decode b_M_alarm 9 = .ok (.goto 4, 3) := by decide +kernel
theorem d_M_alarm_12 : decode b_M_alarm 12 = .ok (.iconst 1, 1) := by decide +kernel
theorem d_M_alarm_13 : decode b_M_alarm 13 = .ok (.putfield 137, 3) := by decide +kernel
theorem d_M_alarm_16 : decode b_M_alarm 16 = .ok (.aload_n 0, 1) := by decide +kernel
theorem d_M_alarm_17 : decode b_M_alarm 17 = .ok (.getfield 137, 3) := by decide +kernel
theorem d_M_alarm_20 : decode b_M_alarm 20 = .ok (.ifCond .ne 16, 3) := by decide +kernel
theorem d_M_alarm_23 : decode b_M_alarm 23 = .ok (.aload_n 0, 1) := by decide +kernel
theorem d_M_alarm_24 : decode b_M_alarm 24 = .ok (.getfield 98, 3) := by decide +kernel
theorem d_M_alarm_27 : decode b_M_alarm 27 = .ok (.iload_n 1, 1) := by decide +kernel
theorem d_M_alarm_28 : decode b_M_alarm 28 = .ok (.baload, 1) := by decide +kernel
theorem d_M_alarm_29 : decode b_M_alarm 29 = .ok (.ifCond .eq 7, 3) := by decide +kernel
theorem d_M_alarm_32 : decode b_M_alarm 32 = .ok (.iconst 1, 1) := by decide +kernel
theorem d_M_alarm_33 : decode b_M_alarm 33 = .ok (.goto 4, 3) := by decide +kernel
theorem d_M_alarm_36 : decode b_M_alarm 36 = .ok (.iconst 0, 1) := by decide +kernel
theorem d_M_alarm_37 : decode b_M_alarm 37 = .ok (.ireturn, 1) := by decide +kernel
theorem d_M_count_0 : decode b_M_count 0 = .ok (.aload_n 0, 1) := by decide +kernel
theorem d_M_count_1 : decode b_M_count 1 = .ok (.iload_n 1, 1) := by decide +kernel
theorem d_M_count_2 : decode b_M_count 2 = .ok (.invokestatic 193, 3) := by decide +kernel
theorem d_M_count_5 : decode b_M_count 5 = .ok (.ifCond .eq 16, 3) := by decide +kernel
theorem d_M_count_8 : decode b_M_count 8 = .ok (.iload_n 2, 1) := by decide +kernel
theorem d_M_count_9 : decode b_M_count 9 = .ok (.iconst 0, 1) := by decide +kernel
theorem d_M_count_10 : decode b_M_count 10 = .ok (.iconst 4, 1) := by decide +kernel
theorem d_M_count_11 : decode b_M_count 11 = .ok (.invokestatic 196, 3) := by decide +kernel
theorem d_M_count_14 : decode b_M_count 14 = .ok (.ifCond .eq 7, 3) := by decide +kernel
theorem d_M_count_17 : decode b_M_count 17 = .ok (.iconst 0, 1) := by decide +kernel
theorem d_M_count_18 : decode b_M_count 18 = .ok (.goto 4, 3) := by decide +kernel
theorem d_M_count_21 : decode b_M_count 21 = .ok (.iconst 1, 1) := by decide +kernel
theorem d_M_count_22 : decode b_M_count 22 = .ok (.putfield 137, 3) := by decide +kernel
theorem d_M_count_25 : decode b_M_count 25 = .ok (.aload_n 0, 1) := by decide +kernel
theorem d_M_count_26 : decode b_M_count 26 = .ok (.getfield 137, 3) := by decide +kernel
theorem d_M_count_29 : decode b_M_count 29 = .ok (.ifCond .le 7, 3) := by decide +kernel
theorem d_M_count_32 : decode b_M_count 32 = .ok (.iconst 0, 1) := by decide +kernel
theorem d_M_count_33 : decode b_M_count 33 = .ok (.goto 13, 3) := by decide +kernel
theorem d_M_count_36 : decode b_M_count 36 = .ok (.aload_n 0, 1) := by decide +kernel
theorem d_M_count_37 : decode b_M_count 37 = .ok (.getfield 134, 3) := by decide +kernel
theorem d_M_count_40 : decode b_M_count 40 = .ok (.iconst 5, 1) := by decide +kernel
theorem d_M_count_41 : decode b_M_count 41 = .ok (.iload_n 1, 1) := by decide +kernel
theorem d_M_count_42 : decode b_M_count 42 = .ok (.imul, 1) := by decide +kernel
theorem d_M_count_43 : decode b_M_count 43 = .ok (.iload_n 2, 1) := by decide +kernel
theorem d_M_count_44 : decode b_M_count 44 = .ok (.iadd, 1) := by decide +kernel
theorem d_M_count_45 : decode b_M_count 45 = .ok (.iaload, 1) := by decide +kernel
theorem d_M_count_46 : decode b_M_count 46 = .ok (.ireturn, 1) := by decide +kernel
