theorem lk_L_13 : Cond.classLink "FramedLineLaw" 13 "java/lang/IllegalArgumentException" ∈ GW := GW_at 300 (by decide +kernel) (by decide +kernel)
theorem lk_L_18 : Cond.classLink "FramedLineLaw" 18 "java/lang/IllegalStateException" ∈ GW := GW_at 386 (by decide +kernel) (by decide +kernel)
theorem d_L_load_0 : decode b_L_load 0 = .ok (.aload 4, 2) := by decide +kernel
theorem d_L_load_2 : decode b_L_load 2 = .ok (.iconst 0, 1) := by decide +kernel
theorem d_L_load_3 : decode b_L_load 3 = .ok (.aload_n 0, 1) := by decide +kernel
theorem d_L_load_4 : decode b_L_load 4 = .ok (.iload_n 1, 1) := by decide +kernel
theorem d_L_load_5 : decode b_L_load 5 = .ok (.iload_n 2, 1) := by decide +kernel
theorem d_L_load_6 : decode b_L_load 6 = .ok (.iload_n 3, 1) := by decide +kernel
theorem d_L_load_7 : decode b_L_load 7 = .ok (.invokevirtual 7, 3) := by decide +kernel
theorem d_L_load_10 : decode b_L_load 10 = .ok (.i2l, 1) := by decide +kernel
theorem d_L_load_11 : decode b_L_load 11 = .ok (.lastore, 1) := by decide +kernel
theorem d_L_load_12 : decode b_L_load 12 = .ok (.goto 7, 3) := by decide +kernel
theorem d_L_load_15 : decode b_L_load 15 = .ok (.astore 5, 2) := by decide +kernel
theorem d_L_load_17 : decode b_L_load 17 = .ok (.iconst 1, 1) := by decide +kernel
theorem d_L_load_18 : decode b_L_load 18 = .ok (.ireturn, 1) := by decide +kernel
theorem d_L_load_19 : decode b_L_load 19 = .ok (.iconst 0, 1) := by decide +kernel
theorem d_L_load_20 : decode b_L_load 20 = .ok (.ireturn, 1) := by decide +kernel
theorem lmh_load : gLH "FramedLineLaw" 51 y_L_load b_L_load 6 (some .int) [(0, 12, 15, 13)] 5 := ⟨⟨GW_at 299 (by decide +kernel) (by decide +kernel), GW_at 40 (by decide +kernel) (by decide +kernel), by decide +kernel⟩, GW_at 297 (by decide +kernel) (by decide +kernel), GW_at 298 (by decide +kernel) (by decide +kernel)⟩
theorem d_L_disturb_0 : decode b_L_disturb 0 = .ok (.aload 4, 2) := by decide +kernel
theorem d_L_disturb_2 : decode b_L_disturb 2 = .ok (.iconst 0, 1) := by decide +kernel
theorem d_L_disturb_3 : decode b_L_disturb 3 = .ok (.aload_n 0, 1) := by decide +kernel
theorem d_L_disturb_4 : decode b_L_disturb 4 = .ok (.iload_n 1, 1) := by decide +kernel
theorem d_L_disturb_5 : decode b_L_disturb 5 = .ok (.iload_n 2, 1) := by decide +kernel
theorem d_L_disturb_6 : decode b_L_disturb 6 = .ok (.iload_n 3, 1) := by decide +kernel
theorem d_L_disturb_7 : decode b_L_disturb 7 = .ok (.invokevirtual 15, 3) := by decide +kernel
theorem d_L_disturb_10 : decode b_L_disturb 10 = .ok (.i2l, 1) := by decide +kernel
theorem d_L_disturb_11 : decode b_L_disturb 11 = .ok (.lastore, 1) := by decide +kernel
theorem d_L_disturb_12 : decode b_L_disturb 12 = .ok (.goto 11, 3) := by decide +kernel
theorem d_L_disturb_15 : decode b_L_disturb 15 = .ok (.astore 5, 2) := by decide +kernel
theorem d_L_disturb_17 : decode b_L_disturb 17 = .ok (.iconst 1, 1) := by decide +kernel
theorem d_L_disturb_18 : decode b_L_disturb 18 = .ok (.ireturn, 1) := by decide +kernel
theorem d_L_disturb_19 : decode b_L_disturb 19 = .ok (.astore 5, 2) := by decide +kernel
theorem d_L_disturb_21 : decode b_L_disturb 21 = .ok (.iconst 2, 1) := by decide +kernel
theorem d_L_disturb_22 : decode b_L_disturb 22 = .ok (.ireturn, 1) := by decide +kernel
theorem d_L_disturb_23 : decode b_L_disturb 23 = .ok (.iconst 0, 1) := by decide +kernel
theorem d_L_disturb_24 : decode b_L_disturb 24 = .ok (.ireturn, 1) := by decide +kernel
theorem lmh_disturb : gLH "FramedLineLaw" 61 y_L_disturb b_L_disturb 6 (some .int) [(0, 12, 15, 13), (0, 12, 19, 18)] 5 := ⟨⟨GW_at 385 (by decide +kernel) (by decide +kernel), GW_at 40 (by decide +kernel) (by decide +kernel), by decide +kernel⟩, GW_at 383 (by decide +kernel) (by decide +kernel), GW_at 384 (by decide +kernel) (by decide +kernel)⟩
theorem d_L_slip_0 : decode b_L_slip 0 = .ok (.aload_n 2, 1) := by decide +kernel
theorem d_L_slip_1 : decode b_L_slip 1 = .ok (.iconst 0, 1) := by decide +kernel
theorem d_L_slip_2 : decode b_L_slip 2 = .ok (.aload_n 0, 1) := by decide +kernel
theorem d_L_slip_3 : decode b_L_slip 3 = .ok (.iload_n 1, 1) := by decide +kernel
theorem d_L_slip_4 : decode b_L_slip 4 = .ok (.invokevirtual 20, 3) := by decide +kernel
theorem d_L_slip_7 : decode b_L_slip 7 = .ok (.ifCond .eq 7, 3) := by decide +kernel
theorem d_L_slip_10 : decode b_L_slip 10 = .ok (.lconst 1, 1) := by decide +kernel
theorem d_L_slip_11 : decode b_L_slip 11 = .ok (.goto 4, 3) := by decide +kernel
theorem d_L_slip_14 : decode b_L_slip 14 = .ok (.lconst 0, 1) := by decide +kernel
theorem d_L_slip_15 : decode b_L_slip 15 = .ok (.lastore, 1) := by decide +kernel
theorem d_L_slip_16 : decode b_L_slip 16 = .ok (.goto 6, 3) := by decide +kernel
theorem d_L_slip_19 : decode b_L_slip 19 = .ok (.astore_n 3, 1) := by decide +kernel
theorem d_L_slip_20 : decode b_L_slip 20 = .ok (.iconst 1, 1) := by decide +kernel
theorem d_L_slip_21 : decode b_L_slip 21 = .ok (.ireturn, 1) := by decide +kernel
theorem d_L_slip_22 : decode b_L_slip 22 = .ok (.iconst 0, 1) := by decide +kernel
theorem d_L_slip_23 : decode b_L_slip 23 = .ok (.ireturn, 1) := by decide +kernel
theorem lmh_slip : gLH "FramedLineLaw" 64 y_L_slip b_L_slip 4 (some .int) [(0, 16, 19, 13)] 3 := ⟨⟨GW_at 417 (by decide +kernel) (by decide +kernel), GW_at 40 (by decide +kernel) (by decide +kernel), by decide +kernel⟩, GW_at 415 (by decide +kernel) (by decide +kernel), GW_at 416 (by decide +kernel) (by decide +kernel)⟩
theorem d_L_pass_0 : decode b_L_pass 0 = .ok (.aload_n 2, 1) := by decide +kernel
theorem d_L_pass_1 : decode b_L_pass 1 = .ok (.iconst 0, 1) := by decide +kernel
theorem d_L_pass_2 : decode b_L_pass 2 = .ok (.aload_n 0, 1) := by decide +kernel
theorem d_L_pass_3 : decode b_L_pass 3 = .ok (.iload_n 1, 1) := by decide +kernel
theorem d_L_pass_4 : decode b_L_pass 4 = .ok (.invokevirtual 24, 3) := by decide +kernel
theorem d_L_pass_7 : decode b_L_pass 7 = .ok (.i2l, 1) := by decide +kernel
theorem d_L_pass_8 : decode b_L_pass 8 = .ok (.lastore, 1) := by decide +kernel
theorem d_L_pass_9 : decode b_L_pass 9 = .ok (.goto 6, 3) := by decide +kernel
theorem d_L_pass_12 : decode b_L_pass 12 = .ok (.astore_n 3, 1) := by decide +kernel
theorem d_L_pass_13 : decode b_L_pass 13 = .ok (.iconst 1, 1) := by decide +kernel
theorem d_L_pass_14 : decode b_L_pass 14 = .ok (.ireturn, 1) := by decide +kernel
theorem d_L_pass_15 : decode b_L_pass 15 = .ok (.iconst 0, 1) := by decide +kernel
theorem d_L_pass_16 : decode b_L_pass 16 = .ok (.ireturn, 1) := by decide +kernel
theorem lmh_pass : gLH "FramedLineLaw" 68 y_L_pass b_L_pass 4 (some .int) [(0, 9, 12, 13)] 3 := ⟨⟨GW_at 428 (by decide +kernel) (by decide +kernel), GW_at 40 (by decide +kernel) (by decide +kernel), by decide +kernel⟩, GW_at 426 (by decide +kernel) (by decide +kernel), GW_at 427 (by decide +kernel) (by decide +kernel)⟩
theorem d_L_symbol_0 : decode b_L_symbol 0 = .ok (.aload_n 2, 1) := by decide +kernel
theorem d_L_symbol_1 : decode b_L_symbol 1 = .ok (.iconst 0, 1) := by decide +kernel
theorem d_L_symbol_2 : decode b_L_symbol 2 = .ok (.aload_n 0, 1) := by decide +kernel
theorem d_L_symbol_3 : decode b_L_symbol 3 = .ok (.iload_n 1, 1) := by decide +kernel
theorem d_L_symbol_4 : decode b_L_symbol 4 = .ok (.invokevirtual 28, 3) := by decide +kernel
theorem d_L_symbol_7 : decode b_L_symbol 7 = .ok (.i2l, 1) := by decide +kernel
theorem d_L_symbol_8 : decode b_L_symbol 8 = .ok (.lastore, 1) := by decide +kernel
theorem d_L_symbol_9 : decode b_L_symbol 9 = .ok (.goto 6, 3) := by decide +kernel
theorem d_L_symbol_12 : decode b_L_symbol 12 = .ok (.astore_n 3, 1) := by decide +kernel
theorem d_L_symbol_13 : decode b_L_symbol 13 = .ok (.iconst 1, 1) := by decide +kernel
theorem d_L_symbol_14 : decode b_L_symbol 14 = .ok (.ireturn, 1) := by decide +kernel
theorem d_L_symbol_15 : decode b_L_symbol 15 = .ok (.iconst 0, 1) := by decide +kernel
theorem d_L_symbol_16 : decode b_L_symbol 16 = .ok (.ireturn, 1) := by decide +kernel
theorem lmh_symbol : gLH "FramedLineLaw" 71 y_L_symbol b_L_symbol 4 (some .int) [(0, 9, 12, 13)] 3 := ⟨⟨GW_at 585 (by decide +kernel) (by decide +kernel), GW_at 40 (by decide +kernel) (by decide +kernel), by decide +kernel⟩, GW_at 583 (by decide +kernel) (by decide +kernel), GW_at 584 (by decide +kernel) (by decide +kernel)⟩
theorem d_L_aligned_0 : decode b_L_aligned 0 = .ok (.aload_n 2, 1) := by decide +kernel
theorem d_L_aligned_1 : decode b_L_aligned 1 = .ok (.iconst 0, 1) := by decide +kernel
theorem d_L_aligned_2 : decode b_L_aligned 2 = .ok (.aload_n 0, 1) := by decide +kernel
theorem d_L_aligned_3 : decode b_L_aligned 3 = .ok (.iload_n 1, 1) := by decide +kernel
theorem d_L_aligned_4 : decode b_L_aligned 4 = .ok (.invokevirtual 31, 3) := by decide +kernel
theorem d_L_aligned_7 : decode b_L_aligned 7 = .ok (.ifCond .eq 7, 3) := by decide +kernel
theorem d_L_aligned_10 : decode b_L_aligned 10 = .ok (.lconst 1, 1) := by decide +kernel
theorem d_L_aligned_11 : decode b_L_aligned 11 = .ok (.goto 4, 3) := by decide +kernel
theorem d_L_aligned_14 : decode b_L_aligned 14 = .ok (.lconst 0, 1) := by decide +kernel
theorem d_L_aligned_15 : decode b_L_aligned 15 = .ok (.lastore, 1) := by decide +kernel
theorem d_L_aligned_16 : decode b_L_aligned 16 = .ok (.goto 6, 3) := by decide +kernel
theorem d_L_aligned_19 : decode b_L_aligned 19 = .ok (.astore_n 3, 1) := by decide +kernel
theorem d_L_aligned_20 : decode b_L_aligned 20 = .ok (.iconst 1, 1) := by decide +kernel
theorem d_L_aligned_21 : decode b_L_aligned 21 = .ok (.ireturn, 1) := by decide +kernel
theorem d_L_aligned_22 : decode b_L_aligned 22 = .ok (.iconst 0, 1) := by decide +kernel
theorem d_L_aligned_23 : decode b_L_aligned 23 = .ok (.ireturn, 1) := by decide +kernel
theorem lmh_aligned : gLH "FramedLineLaw" 74 y_L_aligned b_L_aligned 4 (some .int) [(0, 16, 19, 13)] 3 := ⟨⟨GW_at 592 (by decide +kernel) (by decide +kernel), GW_at 40 (by decide +kernel) (by decide +kernel), by decide +kernel⟩, GW_at 590 (by decide +kernel) (by decide +kernel), GW_at 591 (by decide +kernel) (by decide +kernel)⟩
theorem d_L_frame_0 : decode b_L_frame 0 = .ok (.aload_n 2, 1) := by decide +kernel
theorem d_L_frame_1 : decode b_L_frame 1 = .ok (.iconst 0, 1) := by decide +kernel
theorem d_L_frame_2 : decode b_L_frame 2 = .ok (.aload_n 0, 1) := by decide +kernel
theorem d_L_frame_3 : decode b_L_frame 3 = .ok (.iload_n 1, 1) := by decide +kernel
theorem d_L_frame_4 : decode b_L_frame 4 = .ok (.invokevirtual 34, 3) := by decide +kernel
theorem d_L_frame_7 : decode b_L_frame 7 = .ok (.i2l, 1) := by decide +kernel
theorem d_L_frame_8 : decode b_L_frame 8 = .ok (.lastore, 1) := by decide +kernel
theorem d_L_frame_9 : decode b_L_frame 9 = .ok (.goto 6, 3) := by decide +kernel
theorem d_L_frame_12 : decode b_L_frame 12 = .ok (.astore_n 3, 1) := by decide +kernel
theorem d_L_frame_13 : decode b_L_frame 13 = .ok (.iconst 1, 1) := by decide +kernel
theorem d_L_frame_14 : decode b_L_frame 14 = .ok (.ireturn, 1) := by decide +kernel
theorem d_L_frame_15 : decode b_L_frame 15 = .ok (.iconst 0, 1) := by decide +kernel
theorem d_L_frame_16 : decode b_L_frame 16 = .ok (.ireturn, 1) := by decide +kernel
theorem lmh_frame : gLH "FramedLineLaw" 77 y_L_frame b_L_frame 4 (some .int) [(0, 9, 12, 13)] 3 := ⟨⟨GW_at 600 (by decide +kernel) (by decide +kernel), GW_at 40 (by decide +kernel) (by decide +kernel), by decide +kernel⟩, GW_at 598 (by decide +kernel) (by decide +kernel), GW_at 599 (by decide +kernel) (by decide +kernel)⟩
theorem d_L_slot_0 : decode b_L_slot 0 = .ok (.aload_n 3, 1) := by decide +kernel
theorem d_L_slot_1 : decode b_L_slot 1 = .ok (.iconst 0, 1) := by decide +kernel
theorem d_L_slot_2 : decode b_L_slot 2 = .ok (.aload_n 0, 1) := by decide +kernel
theorem d_L_slot_3 : decode b_L_slot 3 = .ok (.iload_n 1, 1) := by decide +kernel
theorem d_L_slot_4 : decode b_L_slot 4 = .ok (.iload_n 2, 1) := by decide +kernel
theorem d_L_slot_5 : decode b_L_slot 5 = .ok (.invokevirtual 37, 3) := by decide +kernel
theorem d_L_slot_8 : decode b_L_slot 8 = .ok (.i2l, 1) := by decide +kernel
theorem d_L_slot_9 : decode b_L_slot 9 = .ok (.lastore, 1) := by decide +kernel
theorem d_L_slot_10 : decode b_L_slot 10 = .ok (.goto 7, 3) := by decide +kernel
theorem d_L_slot_13 : decode b_L_slot 13 = .ok (.astore 4, 2) := by decide +kernel
theorem d_L_slot_15 : decode b_L_slot 15 = .ok (.iconst 1, 1) := by decide +kernel
theorem d_L_slot_16 : decode b_L_slot 16 = .ok (.ireturn, 1) := by decide +kernel
theorem d_L_slot_17 : decode b_L_slot 17 = .ok (.iconst 0, 1) := by decide +kernel
theorem d_L_slot_18 : decode b_L_slot 18 = .ok (.ireturn, 1) := by decide +kernel
theorem lmh_slot : gLH "FramedLineLaw" 80 y_L_slot b_L_slot 5 (some .int) [(0, 10, 13, 13)] 4 := ⟨⟨GW_at 607 (by decide +kernel) (by decide +kernel), GW_at 40 (by decide +kernel) (by decide +kernel), by decide +kernel⟩, GW_at 605 (by decide +kernel) (by decide +kernel), GW_at 606 (by decide +kernel) (by decide +kernel)⟩
theorem d_L_alarm_0 : decode b_L_alarm 0 = .ok (.aload_n 2, 1) := by decide +kernel
theorem d_L_alarm_1 : decode b_L_alarm 1 = .ok (.iconst 0, 1) := by decide +kernel
theorem d_L_alarm_2 : decode b_L_alarm 2 = .ok (.aload_n 0, 1) := by decide +kernel
theorem d_L_alarm_3 : decode b_L_alarm 3 = .ok (.iload_n 1, 1) := by decide +kernel
theorem d_L_alarm_4 : decode b_L_alarm 4 = .ok (.invokevirtual 41, 3) := by decide +kernel
theorem d_L_alarm_7 : decode b_L_alarm 7 = .ok (.ifCond .eq 7, 3) := by decide +kernel
theorem d_L_alarm_10 : decode b_L_alarm 10 = .ok (.lconst 1, 1) := by decide +kernel
theorem d_L_alarm_11 : decode b_L_alarm 11 = .ok (.goto 4, 3) := by decide +kernel
theorem d_L_alarm_14 : decode b_L_alarm 14 = .ok (.lconst 0, 1) := by decide +kernel
theorem d_L_alarm_15 : decode b_L_alarm 15 = .ok (.lastore, 1) := by decide +kernel
theorem d_L_alarm_16 : decode b_L_alarm 16 = .ok (.goto 6, 3) := by decide +kernel
theorem d_L_alarm_19 : decode b_L_alarm 19 = .ok (.astore_n 3, 1) := by decide +kernel
theorem d_L_alarm_20 : decode b_L_alarm 20 = .ok (.iconst 1, 1) := by decide +kernel
theorem d_L_alarm_21 : decode b_L_alarm 21 = .ok (.ireturn, 1) := by decide +kernel
theorem d_L_alarm_22 : decode b_L_alarm 22 = .ok (.iconst 0, 1) := by decide +kernel
theorem d_L_alarm_23 : decode b_L_alarm 23 = .ok (.ireturn, 1) := by decide +kernel
theorem lmh_alarm : gLH "FramedLineLaw" 84 y_L_alarm b_L_alarm 4 (some .int) [(0, 16, 19, 13)] 3 := ⟨⟨GW_at 615 (by decide +kernel) (by decide +kernel), GW_at 40 (by decide +kernel) (by decide +kernel), by decide +kernel⟩, GW_at 613 (by decide +kernel) (by decide +kernel), GW_at 614 (by decide +kernel) (by decide +kernel)⟩
theorem d_L_count_0 : decode b_L_count 0 = .ok (.aload_n 3, 1) := by decide +kernel
theorem d_L_count_1 : decode b_L_count 1 = .ok (.iconst 0, 1) := by decide +kernel
theorem d_L_count_2 : decode b_L_count 2 = .ok (.aload_n 0, 1) := by decide +kernel
theorem d_L_count_3 : decode b_L_count 3 = .ok (.iload_n 1, 1) := by decide +kernel
theorem d_L_count_4 : decode b_L_count 4 = .ok (.iload_n 2, 1) := by decide +kernel
theorem d_L_count_5 : decode b_L_count 5 = .ok (.invokevirtual 44, 3) := by decide +kernel
theorem d_L_count_8 : decode b_L_count 8 = .ok (.i2l, 1) := by decide +kernel
theorem d_L_count_9 : decode b_L_count 9 = .ok (.lastore, 1) := by decide +kernel
theorem d_L_count_10 : decode b_L_count 10 = .ok (.goto 7, 3) := by decide +kernel
theorem d_L_count_13 : decode b_L_count 13 = .ok (.astore 4, 2) := by decide +kernel
theorem d_L_count_15 : decode b_L_count 15 = .ok (.iconst 1, 1) := by decide +kernel
theorem d_L_count_16 : decode b_L_count 16 = .ok (.ireturn, 1) := by decide +kernel
theorem d_L_count_17 : decode b_L_count 17 = .ok (.iconst 0, 1) := by decide +kernel
theorem d_L_count_18 : decode b_L_count 18 = .ok (.ireturn, 1) := by decide +kernel
theorem lmh_count : gLH "FramedLineLaw" 87 y_L_count b_L_count 5 (some .int) [(0, 10, 13, 13)] 4 := ⟨⟨GW_at 622 (by decide +kernel) (by decide +kernel), GW_at 40 (by decide +kernel) (by decide +kernel), by decide +kernel⟩, GW_at 620 (by decide +kernel) (by decide +kernel), GW_at 621 (by decide +kernel) (by decide +kernel)⟩
theorem mc_F_disturb : Cond.code y_F_disturb b_F_disturb 5 (some .int) ∈ GW ∧ Cond.initialized (y_F_disturb).cls ∈ GW ∧ ((y_F_disturb).cls ≠ "java/lang/invoke/MethodHandle" ∧ (y_F_disturb).cls ≠ "java/lang/invoke/VarHandle" ∧ (parseMethodDescriptor (y_F_disturb).desc).map (fun d => d.parameters.length) = some 3) := ⟨GW_at 390 (by decide +kernel) (by decide +kernel), GW_at 41 (by decide +kernel) (by decide +kernel), by decide +kernel⟩
theorem mc_F_slip : Cond.code y_F_slip b_F_slip 2 (some .boolean) ∈ GW ∧ Cond.initialized (y_F_slip).cls ∈ GW ∧ ((y_F_slip).cls ≠ "java/lang/invoke/MethodHandle" ∧ (y_F_slip).cls ≠ "java/lang/invoke/VarHandle" ∧ (parseMethodDescriptor (y_F_slip).desc).map (fun d => d.parameters.length) = some 1) := ⟨GW_at 421 (by decide +kernel) (by decide +kernel), GW_at 41 (by decide +kernel) (by decide +kernel), by decide +kernel⟩
theorem mc_F_pass : Cond.code y_F_pass b_F_pass 5 (some .int) ∈ GW ∧ Cond.initialized (y_F_pass).cls ∈ GW ∧ ((y_F_pass).cls ≠ "java/lang/invoke/MethodHandle" ∧ (y_F_pass).cls ≠ "java/lang/invoke/VarHandle" ∧ (parseMethodDescriptor (y_F_pass).desc).map (fun d => d.parameters.length) = some 1) := ⟨GW_at 432 (by decide +kernel) (by decide +kernel), GW_at 41 (by decide +kernel) (by decide +kernel), by decide +kernel⟩
theorem mc_F_symbol : Cond.code y_F_symbol b_F_symbol 2 (some .int) ∈ GW ∧ Cond.initialized (y_F_symbol).cls ∈ GW ∧ ((y_F_symbol).cls ≠ "java/lang/invoke/MethodHandle" ∧ (y_F_symbol).cls ≠ "java/lang/invoke/VarHandle" ∧ (parseMethodDescriptor (y_F_symbol).desc).map (fun d => d.parameters.length) = some 1) := ⟨GW_at 589 (by decide +kernel) (by decide +kernel), GW_at 41 (by decide +kernel) (by decide +kernel), by decide +kernel⟩
theorem mc_F_aligned : Cond.code y_F_aligned b_F_aligned 2 (some .boolean) ∈ GW ∧ Cond.initialized (y_F_aligned).cls ∈ GW ∧ ((y_F_aligned).cls ≠ "java/lang/invoke/MethodHandle" ∧ (y_F_aligned).cls ≠ "java/lang/invoke/VarHandle" ∧ (parseMethodDescriptor (y_F_aligned).desc).map (fun d => d.parameters.length) = some 1) := ⟨GW_at 596 (by decide +kernel) (by decide +kernel), GW_at 41 (by decide +kernel) (by decide +kernel), by decide +kernel⟩
theorem mc_F_frame : Cond.code y_F_frame b_F_frame 2 (some .int) ∈ GW ∧ Cond.initialized (y_F_frame).cls ∈ GW ∧ ((y_F_frame).cls ≠ "java/lang/invoke/MethodHandle" ∧ (y_F_frame).cls ≠ "java/lang/invoke/VarHandle" ∧ (parseMethodDescriptor (y_F_frame).desc).map (fun d => d.parameters.length) = some 1) := ⟨GW_at 604 (by decide +kernel) (by decide +kernel), GW_at 41 (by decide +kernel) (by decide +kernel), by decide +kernel⟩
theorem mc_F_slot : Cond.code y_F_slot b_F_slot 4 (some .int) ∈ GW ∧ Cond.initialized (y_F_slot).cls ∈ GW ∧ ((y_F_slot).cls ≠ "java/lang/invoke/MethodHandle" ∧ (y_F_slot).cls ≠ "java/lang/invoke/VarHandle" ∧ (parseMethodDescriptor (y_F_slot).desc).map (fun d => d.parameters.length) = some 2) := ⟨GW_at 611 (by decide +kernel) (by decide +kernel), GW_at 41 (by decide +kernel) (by decide +kernel), by decide +kernel⟩
theorem mc_F_alarm : Cond.code y_F_alarm b_F_alarm 2 (some .boolean) ∈ GW ∧ Cond.initialized (y_F_alarm).cls ∈ GW ∧ ((y_F_alarm).cls ≠ "java/lang/invoke/MethodHandle" ∧ (y_F_alarm).cls ≠ "java/lang/invoke/VarHandle" ∧ (parseMethodDescriptor (y_F_alarm).desc).map (fun d => d.parameters.length) = some 1) := ⟨GW_at 619 (by decide +kernel) (by decide +kernel), GW_at 41 (by decide +kernel) (by decide +kernel), by decide +kernel⟩
theorem mc_F_count : Cond.code y_F_count b_F_count 4 (some .int) ∈ GW ∧ Cond.initialized (y_F_count).cls ∈ GW ∧ ((y_F_count).cls ≠ "java/lang/invoke/MethodHandle" ∧ (y_F_count).cls ≠ "java/lang/invoke/VarHandle" ∧ (parseMethodDescriptor (y_F_count).desc).map (fun d => d.parameters.length) = some 2) := ⟨GW_at 626 (by decide +kernel) (by decide +kernel), GW_at 41 (by decide +kernel) (by decide +kernel), by decide +kernel⟩
theorem mc_F_load : Cond.code y_F_load b_F_load 5 (some .int) ∈ GW ∧ Cond.initialized (y_F_load).cls ∈ GW ∧ ((y_F_load).cls ≠ "java/lang/invoke/MethodHandle" ∧ (y_F_load).cls ≠ "java/lang/invoke/VarHandle" ∧ (parseMethodDescriptor (y_F_load).desc).map (fun d => d.parameters.length) = some 3) := ⟨GW_at 304 (by decide +kernel) (by decide +kernel), GW_at 41 (by decide +kernel) (by decide +kernel), by decide +kernel⟩
theorem lm_L_15 : gLV "FramedLineLaw" "FramedLine" 15 y_F_disturb b_F_disturb 5 (some .int) 3 := ⟨mc_F_disturb, GW_at 387 (by decide +kernel) (by decide +kernel), GW_at 388 (by decide +kernel) (by decide +kernel), GW_at 389 (by decide +kernel) (by decide +kernel)⟩
theorem lm_L_20 : gLV "FramedLineLaw" "FramedLine" 20 y_F_slip b_F_slip 2 (some .boolean) 1 := ⟨mc_F_slip, GW_at 418 (by decide +kernel) (by decide +kernel), GW_at 419 (by decide +kernel) (by decide +kernel), GW_at 420 (by decide +kernel) (by decide +kernel)⟩
theorem lm_L_24 : gLV "FramedLineLaw" "FramedLine" 24 y_F_pass b_F_pass 5 (some .int) 1 := ⟨mc_F_pass, GW_at 429 (by decide +kernel) (by decide +kernel), GW_at 430 (by decide +kernel) (by decide +kernel), GW_at 431 (by decide +kernel) (by decide +kernel)⟩
theorem lm_L_28 : gLV "FramedLineLaw" "FramedLine" 28 y_F_symbol b_F_symbol 2 (some .int) 1 := ⟨mc_F_symbol, GW_at 586 (by decide +kernel) (by decide +kernel), GW_at 587 (by decide +kernel) (by decide +kernel), GW_at 588 (by decide +kernel) (by decide +kernel)⟩
theorem lm_L_31 : gLV "FramedLineLaw" "FramedLine" 31 y_F_aligned b_F_aligned 2 (some .boolean) 1 := ⟨mc_F_aligned, GW_at 593 (by decide +kernel) (by decide +kernel), GW_at 594 (by decide +kernel) (by decide +kernel), GW_at 595 (by decide +kernel) (by decide +kernel)⟩
theorem lm_L_34 : gLV "FramedLineLaw" "FramedLine" 34 y_F_frame b_F_frame 2 (some .int) 1 := ⟨mc_F_frame, GW_at 601 (by decide +kernel) (by decide +kernel), GW_at 602 (by decide +kernel) (by decide +kernel), GW_at 603 (by decide +kernel) (by decide +kernel)⟩
theorem lm_L_37 : gLV "FramedLineLaw" "FramedLine" 37 y_F_slot b_F_slot 4 (some .int) 2 := ⟨mc_F_slot, GW_at 608 (by decide +kernel) (by decide +kernel), GW_at 609 (by decide +kernel) (by decide +kernel), GW_at 610 (by decide +kernel) (by decide +kernel)⟩
theorem lm_L_41 : gLV "FramedLineLaw" "FramedLine" 41 y_F_alarm b_F_alarm 2 (some .boolean) 1 := ⟨mc_F_alarm, GW_at 616 (by decide +kernel) (by decide +kernel), GW_at 617 (by decide +kernel) (by decide +kernel), GW_at 618 (by decide +kernel) (by decide +kernel)⟩
theorem lm_L_44 : gLV "FramedLineLaw" "FramedLine" 44 y_F_count b_F_count 4 (some .int) 2 := ⟨mc_F_count, GW_at 623 (by decide +kernel) (by decide +kernel), GW_at 624 (by decide +kernel) (by decide +kernel), GW_at 625 (by decide +kernel) (by decide +kernel)⟩
theorem lm_L_7 : gLV "FramedLineLaw" "FramedLine" 7 y_F_load b_F_load 5 (some .int) 3 := ⟨mc_F_load, GW_at 301 (by decide +kernel) (by decide +kernel), GW_at 302 (by decide +kernel) (by decide +kernel), GW_at 303 (by decide +kernel) (by decide +kernel)⟩
