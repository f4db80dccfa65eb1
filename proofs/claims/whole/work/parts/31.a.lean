theorem lf_F_10 : Cond.fieldLink "FramedLine" 10 "FramedLine" "zero" "LFramedLine$End;" ∈ GW := GW_at 287 (by decide +kernel) (by decide +kernel)
theorem lf_F_104 : Cond.fieldLinkNest "FramedLine" 104 "FramedLine$Receiver" "alarmCame" "Z" "FramedLine" ∈ NW := NW_at 245 (by decide +kernel) (by decide +kernel)
theorem lf_F_108 : Cond.fieldLinkNest "FramedLine" 108 "FramedLine$Receiver" "completeFrames" "I" "FramedLine" ∈ NW := NW_at 241 (by decide +kernel) (by decide +kernel)
theorem lf_F_111 : Cond.fieldLinkNest "FramedLine" 111 "FramedLine$Decoder" "faults" "I" "FramedLine" ∈ NW := NW_at 156 (by decide +kernel) (by decide +kernel)
theorem lf_F_114 : Cond.fieldLinkNest "FramedLine" 114 "FramedLine$Receiver" "losses" "I" "FramedLine" ∈ NW := NW_at 243 (by decide +kernel) (by decide +kernel)
theorem lf_F_117 : Cond.fieldLinkNest "FramedLine" 117 "FramedLine$Rounds" "wrongHalves" "I" "FramedLine" ∈ NW := NW_at 199 (by decide +kernel) (by decide +kernel)
theorem lf_F_120 : Cond.fieldLinkNest "FramedLine" 120 "FramedLine$Rounds" "farFaults" "I" "FramedLine" ∈ NW := NW_at 201 (by decide +kernel) (by decide +kernel)
theorem lf_F_16 : Cond.fieldLink "FramedLine" 16 "FramedLine" "one" "LFramedLine$End;" ∈ GW := GW_at 288 (by decide +kernel) (by decide +kernel)
theorem lf_F_31 : Cond.fieldLinkNest "FramedLine" 31 "FramedLine$End" "sender" "LFramedLine$Sender;" "FramedLine" ∈ NW := NW_at 268 (by decide +kernel) (by decide +kernel)
theorem lf_F_41 : Cond.fieldLinkNest "FramedLine" 41 "FramedLine$End" "arrivals" "LFramedLine$Arrivals;" "FramedLine" ∈ NW := NW_at 271 (by decide +kernel) (by decide +kernel)
theorem lf_F_73 : Cond.fieldLinkNest "FramedLine" 73 "FramedLine$End" "decoder" "LFramedLine$Decoder;" "FramedLine" ∈ NW := NW_at 273 (by decide +kernel) (by decide +kernel)
theorem lf_F_77 : Cond.fieldLinkNest "FramedLine" 77 "FramedLine$Decoder" "latestSymbol" "I" "FramedLine" ∈ NW := NW_at 149 (by decide +kernel) (by decide +kernel)
theorem lf_F_82 : Cond.fieldLinkNest "FramedLine" 82 "FramedLine$End" "receiver" "LFramedLine$Receiver;" "FramedLine" ∈ NW := NW_at 275 (by decide +kernel) (by decide +kernel)
theorem lf_F_91 : Cond.fieldLinkNest "FramedLine" 91 "FramedLine$Receiver" "rounds" "LFramedLine$Rounds;" "FramedLine" ∈ NW := NW_at 233 (by decide +kernel) (by decide +kernel)
theorem lf_F_95 : Cond.fieldLinkNest "FramedLine" 95 "FramedLine$Rounds" "number" "I" "FramedLine" ∈ NW := NW_at 185 (by decide +kernel) (by decide +kernel)
theorem li_IllegalArgumentException : Cond.initialized "java/lang/IllegalArgumentException" ∈ GW := GW_at 55 (by decide +kernel) (by decide +kernel)
theorem lk_F_123 : Cond.classLink "FramedLine" 123 "java/lang/IllegalArgumentException" ∈ GW := GW_at 312 (by decide +kernel) (by decide +kernel)
theorem lm_F_100 : gLV "FramedLine" "FramedLine$Receiver" 100 y_R_byteOf b_R_byteOf 2 (some .int) 1 := ⟨mc_R_byteOf, GW_at 612 (by decide +kernel) (by decide +kernel), GW_at 545 (by decide +kernel) (by decide +kernel), GW_at 546 (by decide +kernel) (by decide +kernel)⟩
theorem mc_F_endOf : Cond.code y_F_endOf b_F_endOf 2 (some (.object "FramedLine$End")) ∈ GW ∧ Cond.initialized (y_F_endOf).cls ∈ GW ∧ ((y_F_endOf).cls ≠ "java/lang/invoke/MethodHandle" ∧ (y_F_endOf).cls ≠ "java/lang/invoke/VarHandle" ∧ (parseMethodDescriptor (y_F_endOf).desc).map (fun d => d.parameters.length) = some 1) := ⟨GW_at 308 (by decide +kernel) (by decide +kernel), GW_at 41 (by decide +kernel) (by decide +kernel), by decide +kernel⟩
theorem lm_F_23 : gLV "FramedLine" "FramedLine" 23 y_F_endOf b_F_endOf 2 (some (.object "FramedLine$End")) 1 := ⟨mc_F_endOf, GW_at 305 (by decide +kernel) (by decide +kernel), GW_at 307 (by decide +kernel) (by decide +kernel), GW_at 0 (by decide +kernel) (by decide +kernel)⟩
theorem mc_F_require : Cond.code y_F_require b_F_require 1 none ∈ GW ∧ Cond.initialized (y_F_require).cls ∈ GW ∧ ((y_F_require).cls ≠ "java/lang/invoke/MethodHandle" ∧ (y_F_require).cls ≠ "java/lang/invoke/VarHandle" ∧ (parseMethodDescriptor (y_F_require).desc).map (fun d => d.parameters.length) = some 1) := ⟨GW_at 311 (by decide +kernel) (by decide +kernel), GW_at 41 (by decide +kernel) (by decide +kernel), by decide +kernel⟩
theorem lm_F_27 : gLS "FramedLine" 27 y_F_require b_F_require 1 none 1 := ⟨mc_F_require, GW_at 309 (by decide +kernel) (by decide +kernel), GW_at 310 (by decide +kernel) (by decide +kernel)⟩
theorem mc_S_exchange : Cond.code y_S_exchange b_S_exchange 4 (some .int) ∈ GW ∧ Cond.initialized (y_S_exchange).cls ∈ GW ∧ ((y_S_exchange).cls ≠ "java/lang/invoke/MethodHandle" ∧ (y_S_exchange).cls ≠ "java/lang/invoke/VarHandle" ∧ (parseMethodDescriptor (y_S_exchange).desc).map (fun d => d.parameters.length) = some 2) := ⟨GW_at 382 (by decide +kernel) (by decide +kernel), GW_at 43 (by decide +kernel) (by decide +kernel), by decide +kernel⟩
theorem lm_F_35 : gLV "FramedLine" "FramedLine$Sender" 35 y_S_exchange b_S_exchange 4 (some .int) 2 := ⟨mc_S_exchange, GW_at 379 (by decide +kernel) (by decide +kernel), GW_at 380 (by decide +kernel) (by decide +kernel), GW_at 381 (by decide +kernel) (by decide +kernel)⟩
theorem mc_A_doubleNext : Cond.code y_A_doubleNext b_A_doubleNext 2 (some .boolean) ∈ GW ∧ Cond.initialized (y_A_doubleNext).cls ∈ GW ∧ ((y_A_doubleNext).cls ≠ "java/lang/invoke/MethodHandle" ∧ (y_A_doubleNext).cls ≠ "java/lang/invoke/VarHandle" ∧ (parseMethodDescriptor (y_A_doubleNext).desc).map (fun d => d.parameters.length) = some 0) := ⟨GW_at 425 (by decide +kernel) (by decide +kernel), GW_at 45 (by decide +kernel) (by decide +kernel), by decide +kernel⟩
theorem lm_F_61 : gLV "FramedLine" "FramedLine$Arrivals" 61 y_A_doubleNext b_A_doubleNext 2 (some .boolean) 0 := ⟨mc_A_doubleNext, GW_at 422 (by decide +kernel) (by decide +kernel), GW_at 423 (by decide +kernel) (by decide +kernel), GW_at 424 (by decide +kernel) (by decide +kernel)⟩
theorem lm_F_86 : gLV "FramedLine" "FramedLine$Receiver" 86 y_R_isAligned b_R_isAligned 1 (some .boolean) 0 := ⟨mc_R_isAligned, GW_at 597 (by decide +kernel) (by decide +kernel), GW_at 450 (by decide +kernel) (by decide +kernel), GW_at 451 (by decide +kernel) (by decide +kernel)⟩
theorem d_F_load_0 : decode b_F_load 0 = .ok (.aload_n 0, 1) := by decide +kernel
theorem d_F_load_1 : decode b_F_load 1 = .ok (.iload_n 1, 1) := by decide +kernel
theorem d_F_load_2 : decode b_F_load 2 = .ok (.invokevirtual 23, 3) := by decide +kernel
theorem d_F_load_5 : decode b_F_load 5 = .ok (.astore 4, 2) := by decide +kernel
theorem d_F_load_7 : decode b_F_load 7 = .ok (.iload_n 2, 1) := by decide +kernel
theorem d_F_load_8 : decode b_F_load 8 = .ok (.iconst 1, 1) := by decide +kernel
theorem d_F_load_9 : decode b_F_load 9 = .ok (.if_icmp .lt 23, 3) := by decide +kernel
theorem d_F_load_12 : decode b_F_load 12 = .ok (.iload_n 2, 1) := by decide +kernel
theorem d_F_load_13 : decode b_F_load 13 = .ok (.iconst 4, 1) := by decide +kernel
theorem d_F_load_14 : decode b_F_load 14 = .ok (.if_icmp .ge 18, 3) := by decide +kernel
theorem d_F_load_17 : decode b_F_load 17 = .ok (.iload_n 3, 1) := by decide +kernel
theorem d_F_load_18 : decode b_F_load 18 = .ok (.ifCond .lt 14, 3) := by decide +kernel
theorem d_F_load_21 : decode b_F_load 21 = .ok (.iload_n 3, 1) := by decide +kernel
theorem d_F_load_22 : decode b_F_load 22 = .ok (.sipush 255, 3) := by decide +kernel
theorem d_F_load_25 : decode b_F_load 25 = .ok (.if_icmp .gt 7, 3) := by decide +kernel
theorem d_F_load_28 : decode b_F_load 28 = .ok (.iconst 1, 1) := by decide +kernel
theorem d_F_load_29 : decode b_F_load 29 = .ok (.goto 4, 3) := by decide +kernel
theorem d_F_load_32 : decode b_F_load 32 = .ok (.iconst 0, 1) := by decide +kernel
theorem d_F_load_33 : decode b_F_load 33 = .ok (.invokestatic 27, 3) := by decide +kernel
theorem d_F_load_36 : decode b_F_load 36 = .ok (.aload 4, 2) := by decide +kernel
theorem d_F_load_38 : decode b_F_load 38 = .ok (.getfield 31, 3) := by decide +kernel
theorem d_F_load_41 : decode b_F_load 41 = .ok (.iload_n 2, 1) := by decide +kernel
theorem d_F_load_42 : decode b_F_load 42 = .ok (.iload_n 3, 1) := by decide +kernel
theorem d_F_load_43 : decode b_F_load 43 = .ok (.invokevirtual 35, 3) := by decide +kernel
theorem d_F_load_46 : decode b_F_load 46 = .ok (.ireturn, 1) := by decide +kernel
theorem d_F_slip_0 : decode b_F_slip 0 = .ok (.aload_n 0, 1) := by decide +kernel
theorem d_F_slip_1 : decode b_F_slip 1 = .ok (.iload_n 1, 1) := by decide +kernel
theorem d_F_slip_2 : decode b_F_slip 2 = .ok (.invokevirtual 23, 3) := by decide +kernel
theorem d_F_slip_5 : decode b_F_slip 5 = .ok (.getfield 41, 3) := by decide +kernel
theorem d_F_slip_8 : decode b_F_slip 8 = .ok (.invokevirtual 61, 3) := by decide +kernel
theorem d_F_slip_11 : decode b_F_slip 11 = .ok (.ireturn, 1) := by decide +kernel
theorem d_F_symbol_0 : decode b_F_symbol 0 = .ok (.aload_n 0, 1) := by decide +kernel
theorem d_F_symbol_1 : decode b_F_symbol 1 = .ok (.iload_n 1, 1) := by decide +kernel
theorem d_F_symbol_2 : decode b_F_symbol 2 = .ok (.invokevirtual 23, 3) := by decide +kernel
theorem d_F_symbol_5 : decode b_F_symbol 5 = .ok (.getfield 73, 3) := by decide +kernel
theorem d_F_symbol_8 : decode b_F_symbol 8 = .ok (.getfield 77, 3) := by decide +kernel
theorem d_F_symbol_11 : decode b_F_symbol 11 = .ok (.ireturn, 1) := by decide +kernel
theorem d_F_aligned_0 : decode b_F_aligned 0 = .ok (.aload_n 0, 1) := by decide +kernel
theorem d_F_aligned_1 : decode b_F_aligned 1 = .ok (.iload_n 1, 1) := by decide +kernel
theorem d_F_aligned_2 : decode b_F_aligned 2 = .ok (.invokevirtual 23, 3) := by decide +kernel
theorem d_F_aligned_5 : decode b_F_aligned 5 = .ok (.getfield 82, 3) := by decide +kernel
theorem d_F_aligned_8 : decode b_F_aligned 8 = .ok (.invokevirtual 86, 3) := by decide +kernel
theorem d_F_aligned_11 : decode b_F_aligned 11 = .ok (.ireturn, 1) := by decide +kernel
theorem d_F_frame_0 : decode b_F_frame 0 = .ok (.aload_n 0, 1) := by decide +kernel
theorem d_F_frame_1 : decode b_F_frame 1 = .ok (.iload_n 1, 1) := by decide +kernel
theorem d_F_frame_2 : decode b_F_frame 2 = .ok (.invokevirtual 23, 3) := by decide +kernel
theorem d_F_frame_5 : decode b_F_frame 5 = .ok (.getfield 82, 3) := by decide +kernel
theorem d_F_frame_8 : decode b_F_frame 8 = .ok (.getfield 91, 3) := by decide +kernel
theorem d_F_frame_11 : decode b_F_frame 11 = .ok (.getfield 95, 3) := by decide +kernel
theorem d_F_frame_14 : decode b_F_frame 14 = .ok (.ireturn, 1) := by decide +kernel
theorem d_F_slot_0 : decode b_F_slot 0 = .ok (.aload_n 0, 1) := by decide +kernel
theorem d_F_slot_1 : decode b_F_slot 1 = .ok (.iload_n 1, 1) := by decide +kernel
theorem d_F_slot_2 : decode b_F_slot 2 = .ok (.invokevirtual 23, 3) := by decide +kernel
theorem d_F_slot_5 : decode b_F_slot 5 = .ok (.astore_n 3, 1) := by decide +kernel
theorem d_F_slot_6 : decode b_F_slot 6 = .ok (.iload_n 2, 1) := by decide +kernel
theorem d_F_slot_7 : decode b_F_slot 7 = .ok (.ifCond .lt 12, 3) := by decide +kernel
theorem d_F_slot_10 : decode b_F_slot 10 = .ok (.iload_n 2, 1) := by decide +kernel
theorem d_F_slot_11 : decode b_F_slot 11 = .ok (.iconst 4, 1) := by decide +kernel
theorem d_F_slot_12 : decode b_F_slot 12 = .ok (.if_icmp .ge 7, 3) := by decide +kernel
theorem d_F_slot_15 : decode b_F_slot 15 = .ok (.iconst 1, 1) := by decide +kernel
theorem d_F_slot_16 : decode b_F_slot 16 = .ok (.goto 4, 3) := by decide +kernel
theorem d_F_slot_19 : decode b_F_slot 19 = .ok (.iconst 0, 1) := by decide +kernel
theorem d_F_slot_20 : decode b_F_slot 20 = .ok (.invokestatic 27, 3) := by decide +kernel
theorem d_F_slot_23 : decode b_F_slot 23 = .ok (.aload_n 3, 1) := by decide +kernel
theorem d_F_slot_24 : decode b_F_slot 24 = .ok (.getfield 82, 3) := by decide +kernel
theorem d_F_slot_27 : decode b_F_slot 27 = .ok (.iload_n 2, 1) := by decide +kernel
theorem d_F_slot_28 : decode b_F_slot 28 = .ok (.invokevirtual 100, 3) := by decide +kernel
theorem d_F_slot_31 : decode b_F_slot 31 = .ok (.ireturn, 1) := by decide +kernel
theorem d_F_alarm_0 : decode b_F_alarm 0 = .ok (.aload_n 0, 1) := by decide +kernel
theorem d_F_alarm_1 : decode b_F_alarm 1 = .ok (.iload_n 1, 1) := by decide +kernel
theorem d_F_alarm_2 : decode b_F_alarm 2 = .ok (.invokevirtual 23, 3) := by decide +kernel
theorem d_F_alarm_5 : decode b_F_alarm 5 = .ok (.getfield 82, 3) := by decide +kernel
theorem d_F_alarm_8 : decode b_F_alarm 8 = .ok (.getfield 104, 3) := by decide +kernel
theorem d_F_alarm_11 : decode b_F_alarm 11 = .ok (.ireturn, 1) := by decide +kernel
theorem d_F_count_0 : decode b_F_count 0 = .ok (.aload_n 0, 1) := by decide +kernel
theorem d_F_count_1 : decode b_F_count 1 = .ok (.iload_n 1, 1) := by decide +kernel
theorem d_F_count_2 : decode b_F_count 2 = .ok (.invokevirtual 23, 3) := by decide +kernel
theorem d_F_count_5 : decode b_F_count 5 = .ok (.astore_n 3, 1) := by decide +kernel
theorem d_F_count_6 : decode b_F_count 6 = .ok (.iload_n 2, 1) := by decide +kernel
theorem d_F_count_7 : decode b_F_count 7 = .ok (.tableswitch 79 0 4 #[33, 41, 49, 57, 68], 33) := by decide +kernel
theorem d_F_count_40 : decode b_F_count 40 = .ok (.aload_n 3, 1) := by decide +kernel
theorem d_F_count_41 : decode b_F_count 41 = .ok (.getfield 82, 3) := by decide +kernel
theorem d_F_count_44 : decode b_F_count 44 = .ok (.getfield 108, 3) := by decide +kernel
theorem d_F_count_47 : decode b_F_count 47 = .ok (.ireturn, 1) := by decide +kernel
theorem d_F_count_48 : decode b_F_count 48 = .ok (.aload_n 3, 1) := by decide +kernel
theorem d_F_count_49 : decode b_F_count 49 = .ok (.getfield 73, 3) := by decide +kernel
theorem d_F_count_52 : decode b_F_count 52 = .ok (.getfield 111, 3) := by decide +kernel
theorem d_F_count_55 : decode b_F_count 55 = .ok (.ireturn, 1) := by decide +kernel
theorem d_F_count_56 : decode b_F_count 56 = .ok (.aload_n 3, 1) := by decide +kernel
theorem d_F_count_57 : decode b_F_count 57 = .ok (.getfield 82, 3) := by decide +kernel
theorem d_F_count_60 : decode b_F_count 60 = .ok (.getfield 114, 3) := by decide +kernel
theorem d_F_count_63 : decode b_F_count 63 = .ok (.ireturn, 1) := by decide +kernel
theorem d_F_count_64 : decode b_F_count 64 = .ok (.aload_n 3, 1) := by decide +kernel
theorem d_F_count_65 : decode b_F_count 65 = .ok (.getfield 82, 3) := by decide +kernel
theorem d_F_count_68 : decode b_F_count 68 = .ok (.getfield 91, 3) := by decide +kernel
theorem d_F_count_71 : decode b_F_count 71 = .ok (.getfield 117, 3) := by decide +kernel
theorem d_F_count_74 : decode b_F_count 74 = .ok (.ireturn, 1) := by decide +kernel
theorem d_F_count_75 : decode b_F_count 75 = .ok (.aload_n 3, 1) := by decide +kernel
theorem d_F_count_76 : decode b_F_count 76 = .ok (.getfield 82, 3) := by decide +kernel
theorem d_F_count_79 : decode b_F_count 79 = .ok (.getfield 91, 3) := by decide +kernel
theorem d_F_count_82 : decode b_F_count 82 = .ok (.getfield 120, 3) := by decide +kernel
theorem d_F_count_85 : decode b_F_count 85 = .ok (.ireturn, 1) := by decide +kernel
theorem d_F_count_86 : decode b_F_count 86 = .ok (.new 123, 3) := by decide +kernel
theorem d_F_count_89 : decode b_F_count 89 = .ok (.dup, 1) := by decide +kernel
theorem d_F_count_90 : decode b_F_count 90 = .ok (.ldc 125, 2) := by decide +kernel
theorem d_F_count_92 : decode b_F_count 92 = .ok (.invokespecial 127, 3) := by decide +kernel
theorem d_F_count_95 : decode b_F_count 95 = .ok (.athrow, 1) := by decide +kernel
theorem d_F_endOf_0 : decode b_F_endOf 0 = .ok (.iload_n 1, 1) := by decide +kernel
theorem d_F_endOf_1 : decode b_F_endOf 1 = .ok (.ifCond .eq 8, 3) := by decide +kernel
theorem d_F_endOf_4 : decode b_F_endOf 4 = .ok (.iload_n 1, 1) := by decide +kernel
theorem d_F_endOf_5 : decode b_F_endOf 5 = .ok (.iconst 1, 1) := by decide +kernel
theorem d_F_endOf_6 : decode b_F_endOf 6 = .ok (.if_icmp .ne 7, 3) := by decide +kernel
theorem d_F_endOf_9 : decode b_F_endOf 9 = .ok (.iconst 1, 1) := by decide +kernel
theorem d_F_endOf_10 : decode b_F_endOf 10 = .ok (.goto 4, 3) := by decide +kernel
theorem d_F_endOf_13 : decode b_F_endOf 13 = .ok (.iconst 0, 1) := by decide +kernel
theorem d_F_endOf_14 : decode b_F_endOf 14 = .ok (.invokestatic 27, 3) := by decide +kernel
theorem d_F_endOf_17 : decode b_F_endOf 17 = .ok (.iload_n 1, 1) := by decide +kernel
theorem d_F_endOf_18 : decode b_F_endOf 18 = .ok (.ifCond .ne 10, 3) := by decide +kernel
theorem d_F_endOf_21 : decode b_F_endOf 21 = .ok (.aload_n 0, 1) := by decide +kernel
theorem d_F_endOf_22 : decode b_F_endOf 22 = .ok (.getfield 10, 3) := by decide +kernel
theorem d_F_endOf_25 : decode b_F_endOf 25 = .ok (.goto 7, 3) := by decide +kernel
theorem d_F_endOf_28 : decode b_F_endOf 28 = .ok (.aload_n 0, 1) := by decide +kernel
theorem d_F_endOf_29 : decode b_F_endOf 29 = .ok (.getfield 16, 3) := by decide +kernel
theorem d_F_endOf_32 : decode b_F_endOf 32 = .ok (.areturn, 1) := by decide +kernel
theorem d_F_require_0 : decode b_F_require 0 = .ok (.iload_n 0, 1) := by decide +kernel
theorem d_F_require_1 : decode b_F_require 1 = .ok (.ifCond .ne 13, 3) := by decide +kernel
theorem d_F_require_4 : decode b_F_require 4 = .ok (.new 123, 3) := by decide +kernel
theorem d_F_require_7 : decode b_F_require 7 = .ok (.dup, 1) := by decide +kernel
theorem d_F_require_8 : decode b_F_require 8 = .ok (.ldc 128, 2) := by decide +kernel
theorem d_F_require_10 : decode b_F_require 10 = .ok (.invokespecial 127, 3) := by decide +kernel
theorem d_F_require_13 : decode b_F_require 13 = .ok (.athrow, 1) := by decide +kernel
theorem d_F_require_14 : decode b_F_require 14 = .ok (.return_, 1) := by decide +kernel
