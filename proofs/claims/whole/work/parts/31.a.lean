theorem lf_F_10 : Cond.fieldLink "FramedLine" 10 "FramedLine" "zero" "LFramedLine$End;" ∈ GW := GW_at 287 (by decide +kernel) (by decide +kernel)
theorem lf_F_104 : Cond.fieldLinkNest "FramedLine" 104 "FramedLine$Receiver" "alarmCame" "Z" "FramedLine" ∈ NW := NW_at 245 (by decide +kernel) (by decide +kernel)
theorem lf_F_108 : Cond.fieldLinkNest "FramedLine" 108 "FramedLine$Receiver" "completeFrames" "I" "FramedLine" ∈ NW := NW_at 241 (by decide +kernel) (by decide +kernel)
theorem lf_F_111 : Cond.fieldLinkNest "FramedLine" 111 "FramedLine$Decoder" "faults" "I" "FramedLine" ∈ NW := NW_at 156 (by decide +kernel) (by decide +kernel)
theorem lf_F_114 : Cond.fieldLinkNest "FramedLine" 114 "FramedLine$Receiver" "losses" "I" "FramedLine" ∈ NW := NW_at 243 (by decide +kernel) (by decide +kernel)
theorem lf_F_117 : Cond.fieldLinkNest "FramedLine" 117 "FramedLine$Rounds" "wrongHalves" "I" "FramedLine" ∈ NW := NW_at 199 (by decide +kernel) (by decide +kernel)
theorem lf_F_120 : Cond.fieldLinkNest "FramedLine" 120 "FramedLine$Rounds" "farFaults" "I" "FramedLine" ∈ NW := NW_at 201 (by decide +kernel) (by decide +kernel)
theorem lf_F_16 : Cond.fieldLink "FramedLine" 16 "FramedLine" "one" "LFramedLine$End;" ∈ GW := GW_at 288 (by decide +kernel) (by decide +kernel)
theorem lf_F_19 : Cond.fieldLink "FramedLine" 19 "FramedLine" "passed" "I" ∈ GW := GW_at 289 (by decide +kernel) (by decide +kernel)
theorem lf_F_31 : Cond.fieldLinkNest "FramedLine" 31 "FramedLine$End" "sender" "LFramedLine$Sender;" "FramedLine" ∈ NW := NW_at 268 (by decide +kernel) (by decide +kernel)
theorem lf_F_41 : Cond.fieldLinkNest "FramedLine" 41 "FramedLine$End" "arrivals" "LFramedLine$Arrivals;" "FramedLine" ∈ NW := NW_at 271 (by decide +kernel) (by decide +kernel)
theorem lf_F_58 : Cond.fieldLinkNest "FramedLine" 58 "FramedLine$Arrivals" "waiting" "I" "FramedLine" ∈ NW := NW_at 131 (by decide +kernel) (by decide +kernel)
theorem lf_F_73 : Cond.fieldLinkNest "FramedLine" 73 "FramedLine$End" "decoder" "LFramedLine$Decoder;" "FramedLine" ∈ NW := NW_at 273 (by decide +kernel) (by decide +kernel)
theorem lf_F_77 : Cond.fieldLinkNest "FramedLine" 77 "FramedLine$Decoder" "latestSymbol" "I" "FramedLine" ∈ NW := NW_at 149 (by decide +kernel) (by decide +kernel)
theorem lf_F_82 : Cond.fieldLinkNest "FramedLine" 82 "FramedLine$End" "receiver" "LFramedLine$Receiver;" "FramedLine" ∈ NW := NW_at 275 (by decide +kernel) (by decide +kernel)
theorem lf_F_91 : Cond.fieldLinkNest "FramedLine" 91 "FramedLine$Receiver" "rounds" "LFramedLine$Rounds;" "FramedLine" ∈ NW := NW_at 233 (by decide +kernel) (by decide +kernel)
theorem lf_F_95 : Cond.fieldLinkNest "FramedLine" 95 "FramedLine$Rounds" "number" "I" "FramedLine" ∈ NW := NW_at 185 (by decide +kernel) (by decide +kernel)
theorem li_IllegalArgumentException : Cond.initialized "java/lang/IllegalArgumentException" ∈ GW := GW_at 55 (by decide +kernel) (by decide +kernel)
theorem li_IllegalStateException : Cond.initialized "java/lang/IllegalStateException" ∈ GW := GW_at 56 (by decide +kernel) (by decide +kernel)
theorem lk_F_123 : Cond.classLink "FramedLine" 123 "java/lang/IllegalArgumentException" ∈ GW := GW_at 312 (by decide +kernel) (by decide +kernel)
theorem lk_F_51 : Cond.classLink "FramedLine" 51 "java/lang/IllegalStateException" ∈ GW := GW_at 399 (by decide +kernel) (by decide +kernel)
theorem lm_F_100 : gLV "FramedLine" "FramedLine$Receiver" 100 y_R_byteOf b_R_byteOf 2 (some .int) 1 := ⟨mc_R_byteOf, GW_at 612 (by decide +kernel) (by decide +kernel), GW_at 545 (by decide +kernel) (by decide +kernel), GW_at 546 (by decide +kernel) (by decide +kernel)⟩
theorem mc_F_endOf : Cond.code y_F_endOf b_F_endOf 2 (some (.object "FramedLine$End")) ∈ GW ∧ Cond.initialized (y_F_endOf).cls ∈ GW ∧ ((y_F_endOf).cls ≠ "java/lang/invoke/MethodHandle" ∧ (y_F_endOf).cls ≠ "java/lang/invoke/VarHandle" ∧ (parseMethodDescriptor (y_F_endOf).desc).map (fun d => d.parameters.length) = some 1) := ⟨GW_at 308 (by decide +kernel) (by decide +kernel), GW_at 41 (by decide +kernel) (by decide +kernel), by decide +kernel⟩
theorem lm_F_23 : gLV "FramedLine" "FramedLine" 23 y_F_endOf b_F_endOf 2 (some (.object "FramedLine$End")) 1 := ⟨mc_F_endOf, GW_at 305 (by decide +kernel) (by decide +kernel), GW_at 307 (by decide +kernel) (by decide +kernel), GW_at 0 (by decide +kernel) (by decide +kernel)⟩
theorem mc_F_require : Cond.code y_F_require b_F_require 1 none ∈ GW ∧ Cond.initialized (y_F_require).cls ∈ GW ∧ ((y_F_require).cls ≠ "java/lang/invoke/MethodHandle" ∧ (y_F_require).cls ≠ "java/lang/invoke/VarHandle" ∧ (parseMethodDescriptor (y_F_require).desc).map (fun d => d.parameters.length) = some 1) := ⟨GW_at 311 (by decide +kernel) (by decide +kernel), GW_at 41 (by decide +kernel) (by decide +kernel), by decide +kernel⟩
theorem lm_F_27 : gLS "FramedLine" 27 y_F_require b_F_require 1 none 1 := ⟨mc_F_require, GW_at 309 (by decide +kernel) (by decide +kernel), GW_at 310 (by decide +kernel) (by decide +kernel)⟩
theorem mc_S_exchange : Cond.code y_S_exchange b_S_exchange 4 (some .int) ∈ GW ∧ Cond.initialized (y_S_exchange).cls ∈ GW ∧ ((y_S_exchange).cls ≠ "java/lang/invoke/MethodHandle" ∧ (y_S_exchange).cls ≠ "java/lang/invoke/VarHandle" ∧ (parseMethodDescriptor (y_S_exchange).desc).map (fun d => d.parameters.length) = some 2) := ⟨GW_at 382 (by decide +kernel) (by decide +kernel), GW_at 43 (by decide +kernel) (by decide +kernel), by decide +kernel⟩
theorem lm_F_35 : gLV "FramedLine" "FramedLine$Sender" 35 y_S_exchange b_S_exchange 4 (some .int) 2 := ⟨mc_S_exchange, GW_at 379 (by decide +kernel) (by decide +kernel), GW_at 380 (by decide +kernel) (by decide +kernel), GW_at 381 (by decide +kernel) (by decide +kernel)⟩
theorem mc_A_change : Cond.code y_A_change b_A_change 4 (some .boolean) ∈ GW ∧ Cond.initialized (y_A_change).cls ∈ GW ∧ ((y_A_change).cls ≠ "java/lang/invoke/MethodHandle" ∧ (y_A_change).cls ≠ "java/lang/invoke/VarHandle" ∧ (parseMethodDescriptor (y_A_change).desc).map (fun d => d.parameters.length) = some 2) := ⟨GW_at 394 (by decide +kernel) (by decide +kernel), GW_at 45 (by decide +kernel) (by decide +kernel), by decide +kernel⟩
theorem lm_F_45 : gLV "FramedLine" "FramedLine$Arrivals" 45 y_A_change b_A_change 4 (some .boolean) 2 := ⟨mc_A_change, GW_at 391 (by decide +kernel) (by decide +kernel), GW_at 392 (by decide +kernel) (by decide +kernel), GW_at 393 (by decide +kernel) (by decide +kernel)⟩
theorem mc_A_doubleNext : Cond.code y_A_doubleNext b_A_doubleNext 2 (some .boolean) ∈ GW ∧ Cond.initialized (y_A_doubleNext).cls ∈ GW ∧ ((y_A_doubleNext).cls ≠ "java/lang/invoke/MethodHandle" ∧ (y_A_doubleNext).cls ≠ "java/lang/invoke/VarHandle" ∧ (parseMethodDescriptor (y_A_doubleNext).desc).map (fun d => d.parameters.length) = some 0) := ⟨GW_at 425 (by decide +kernel) (by decide +kernel), GW_at 45 (by decide +kernel) (by decide +kernel), by decide +kernel⟩
theorem lm_F_61 : gLV "FramedLine" "FramedLine$Arrivals" 61 y_A_doubleNext b_A_doubleNext 2 (some .boolean) 0 := ⟨mc_A_doubleNext, GW_at 422 (by decide +kernel) (by decide +kernel), GW_at 423 (by decide +kernel) (by decide +kernel), GW_at 424 (by decide +kernel) (by decide +kernel)⟩
theorem mc_N_send : Cond.code y_N_send b_N_send 1 (some .int) ∈ GW ∧ Cond.initialized (y_N_send).cls ∈ GW ∧ ((y_N_send).cls ≠ "java/lang/invoke/MethodHandle" ∧ (y_N_send).cls ≠ "java/lang/invoke/VarHandle" ∧ (parseMethodDescriptor (y_N_send).desc).map (fun d => d.parameters.length) = some 0) := ⟨GW_at 436 (by decide +kernel) (by decide +kernel), GW_at 42 (by decide +kernel) (by decide +kernel), by decide +kernel⟩
theorem lm_F_65 : gLV "FramedLine" "FramedLine$End" 65 y_N_send b_N_send 1 (some .int) 0 := ⟨mc_N_send, GW_at 433 (by decide +kernel) (by decide +kernel), GW_at 434 (by decide +kernel) (by decide +kernel), GW_at 435 (by decide +kernel) (by decide +kernel)⟩
theorem mc_N_receive : Cond.code y_N_receive b_N_receive 7 none ∈ GW ∧ Cond.initialized (y_N_receive).cls ∈ GW ∧ ((y_N_receive).cls ≠ "java/lang/invoke/MethodHandle" ∧ (y_N_receive).cls ≠ "java/lang/invoke/VarHandle" ∧ (parseMethodDescriptor (y_N_receive).desc).map (fun d => d.parameters.length) = some 2) := ⟨GW_at 489 (by decide +kernel) (by decide +kernel), GW_at 42 (by decide +kernel) (by decide +kernel), by decide +kernel⟩
theorem lm_F_69 : gLV "FramedLine" "FramedLine$End" 69 y_N_receive b_N_receive 7 none 2 := ⟨mc_N_receive, GW_at 486 (by decide +kernel) (by decide +kernel), GW_at 487 (by decide +kernel) (by decide +kernel), GW_at 488 (by decide +kernel) (by decide +kernel)⟩
theorem lm_F_86 : gLV "FramedLine" "FramedLine$Receiver" 86 y_R_isAligned b_R_isAligned 1 (some .boolean) 0 := ⟨mc_R_isAligned, GW_at 597 (by decide +kernel) (by decide +kernel), GW_at 450 (by decide +kernel) (by decide +kernel), GW_at 451 (by decide +kernel) (by decide +kernel)⟩
theorem mc_M_send : Cond.code y_M_send b_M_send 2 (some .int) ∈ GW ∧ Cond.initialized (y_M_send).cls ∈ GW ∧ ((y_M_send).cls ≠ "java/lang/invoke/MethodHandle" ∧ (y_M_send).cls ≠ "java/lang/invoke/VarHandle" ∧ (parseMethodDescriptor (y_M_send).desc).map (fun d => d.parameters.length) = some 1) := ⟨GW_at 801 (by decide +kernel) (by decide +kernel), GW_at 51 (by decide +kernel) (by decide +kernel), by decide +kernel⟩
theorem lm_M_200 : gLV "FramedLineModel" "FramedLineModel" 200 y_M_send b_M_send 2 (some .int) 1 := ⟨mc_M_send, GW_at 798 (by decide +kernel) (by decide +kernel), GW_at 800 (by decide +kernel) (by decide +kernel), GW_at 24 (by decide +kernel) (by decide +kernel)⟩
theorem mc_M_arrive : Cond.code y_M_arrive b_M_arrive 4 none ∈ GW ∧ Cond.initialized (y_M_arrive).cls ∈ GW ∧ ((y_M_arrive).cls ≠ "java/lang/invoke/MethodHandle" ∧ (y_M_arrive).cls ≠ "java/lang/invoke/VarHandle" ∧ (parseMethodDescriptor (y_M_arrive).desc).map (fun d => d.parameters.length) = some 2) := ⟨GW_at 824 (by decide +kernel) (by decide +kernel), GW_at 51 (by decide +kernel) (by decide +kernel), by decide +kernel⟩
theorem lm_M_203 : gLV "FramedLineModel" "FramedLineModel" 203 y_M_arrive b_M_arrive 4 none 2 := ⟨mc_M_arrive, GW_at 821 (by decide +kernel) (by decide +kernel), GW_at 823 (by decide +kernel) (by decide +kernel), GW_at 29 (by decide +kernel) (by decide +kernel)⟩
theorem d_F_load_0 : decode b_F_load 0 = .ok (.aload_n 0, 1) := by decide +kernel
theorem d_F_load_1 : decode b_F_load 1 = .ok (.iload_n 1, 1) := by decide +kernel
theorem d_F_load_2 : decode b_F_load 2 = .ok (.invokevirtual 23, 3) := by decide +kernel
theorem d_F_load_5 : decode b_F_load 5 = .ok (.astore 4, 2) := by decide +kernel
theorem d_F_load_7 : decode b_F_load 7 = .ok (.iload_n 2, 1) := by decide +kernel
theorem d_F_load_8 : decode b_F_load 8 = .ok (.iconst 1, 1) := by decide +kernel
theorem d_F_load_9 : decode b_F_load 9 = .ok (.if_icmp .lt 23, 3) := by decide +kernel
theorem d_F_load_12 : decode b_F_load 12 = .ok (.iload_n 2, 1) := by decide +kernel
theorem d_F_load_13 : decode b_F_load 13 = .ok (.iconst 4, 1) := by decide +kernel
theorem d_F_load_14 : decode b_F_load 14 = .ok (.if_icmp .ge 18, 3) := by decide +kernel
theorem d_F_load_17 : decode b_F_load 17 = .ok (.iload_n 3, 1) := by decide +kernel
theorem d_F_load_18 : decode b_F_load 18 = .ok (.ifCond .lt 14, 3) := by decide +kernel
theorem d_F_load_21 : decode b_F_load 21 = .ok (.iload_n 3, 1) := by decide +kernel
theorem d_F_load_22 : decode b_F_load 22 = .ok (.sipush 255, 3) := by decide +kernel
theorem d_F_load_25 : decode b_F_load 25 = .ok (.if_icmp .gt 7, 3) := by decide +kernel
theorem d_F_load_28 : decode b_F_load 28 = .ok (.iconst 1, 1) := by decide +kernel
theorem d_F_load_29 : decode b_F_load 29 = .ok (.goto 4, 3) := by decide +kernel
theorem d_F_load_32 : decode b_F_load 32 = .ok (.iconst 0, 1) := by decide +kernel
theorem d_F_load_33 : decode b_F_load 33 = .ok (.invokestatic 27, 3) := by decide +kernel
theorem d_F_load_36 : decode b_F_load 36 = .ok (.aload 4, 2) := by decide +kernel
theorem d_F_load_38 : decode b_F_load 38 = .ok (.getfield 31, 3) := by decide +kernel
theorem d_F_load_41 : decode b_F_load 41 = .ok (.iload_n 2, 1) := by decide +kernel
theorem d_F_load_42 : decode b_F_load 42 = .ok (.iload_n 3, 1) := by decide +kernel
theorem d_F_load_43 : decode b_F_load 43 = .ok (.invokevirtual 35, 3) := by decide +kernel
theorem d_F_load_46 : decode b_F_load 46 = .ok (.ireturn, 1) := by decide +kernel
theorem d_F_disturb_0 : decode b_F_disturb 0 = .ok (.aload_n 0, 1) := by decide +kernel
theorem d_F_disturb_1 : decode b_F_disturb 1 = .ok (.iload_n 1, 1) := by decide +kernel
theorem d_F_disturb_2 : decode b_F_disturb 2 = .ok (.invokevirtual 23, 3) := by decide +kernel
theorem d_F_disturb_5 : decode b_F_disturb 5 = .ok (.astore 4, 2) := by decide +kernel
theorem d_F_disturb_7 : decode b_F_disturb 7 = .ok (.iload_n 2, 1) := by decide +kernel
theorem d_F_disturb_8 : decode b_F_disturb 8 = .ok (.iconst 1, 1) := by decide +kernel
theorem d_F_disturb_9 : decode b_F_disturb 9 = .ok (.if_icmp .lt 24, 3) := by decide +kernel
theorem d_F_disturb_12 : decode b_F_disturb 12 = .ok (.iload_n 2, 1) := by decide +kernel
theorem d_F_disturb_13 : decode b_F_disturb 13 = .ok (.sipush 1000, 3) := by decide +kernel
theorem d_F_disturb_16 : decode b_F_disturb 16 = .ok (.if_icmp .gt 17, 3) := by decide +kernel
theorem d_F_disturb_19 : decode b_F_disturb 19 = .ok (.iload_n 3, 1) := by decide +kernel
theorem d_F_disturb_20 : decode b_F_disturb 20 = .ok (.iconst (-1), 1) := by decide +kernel
theorem d_F_disturb_21 : decode b_F_disturb 21 = .ok (.if_icmp .lt 12, 3) := by decide +kernel
theorem d_F_disturb_24 : decode b_F_disturb 24 = .ok (.iload_n 3, 1) := by decide +kernel
theorem d_F_disturb_25 : decode b_F_disturb 25 = .ok (.iconst 1, 1) := by decide +kernel
theorem d_F_disturb_26 : decode b_F_disturb 26 = .ok (.if_icmp .gt 7, 3) := by decide +kernel
theorem d_F_disturb_29 : decode b_F_disturb 29 = .ok (.iconst 1, 1) := by decide +kernel
theorem d_F_disturb_30 : decode b_F_disturb 30 = .ok (.goto 4, 3) := by decide +kernel
theorem d_F_disturb_33 : decode b_F_disturb 33 = .ok (.iconst 0, 1) := by decide +kernel
theorem d_F_disturb_34 : decode b_F_disturb 34 = .ok (.invokestatic 27, 3) := by decide +kernel
theorem d_F_disturb_37 : decode b_F_disturb 37 = .ok (.aload 4, 2) := by decide +kernel
theorem d_F_disturb_39 : decode b_F_disturb 39 = .ok (.getfield 41, 3) := by decide +kernel
theorem d_F_disturb_42 : decode b_F_disturb 42 = .ok (.aload_n 0, 1) := by decide +kernel
theorem d_F_disturb_43 : decode b_F_disturb 43 = .ok (.getfield 19, 3) := by decide +kernel
theorem d_F_disturb_46 : decode b_F_disturb 46 = .ok (.iload_n 2, 1) := by decide +kernel
theorem d_F_disturb_47 : decode b_F_disturb 47 = .ok (.iadd, 1) := by decide +kernel
theorem d_F_disturb_48 : decode b_F_disturb 48 = .ok (.iload_n 3, 1) := by decide +kernel
theorem d_F_disturb_49 : decode b_F_disturb 49 = .ok (.invokevirtual 45, 3) := by decide +kernel
theorem d_F_disturb_52 : decode b_F_disturb 52 = .ok (.ifCond .ne 13, 3) := by decide +kernel
theorem d_F_disturb_55 : decode b_F_disturb 55 = .ok (.new 51, 3) := by decide +kernel
theorem d_F_disturb_58 : decode b_F_disturb 58 = .ok (.dup, 1) := by decide +kernel
theorem d_F_disturb_59 : decode b_F_disturb 59 = .ok (.ldc 53, 2) := by decide +kernel
theorem d_F_disturb_61 : decode b_F_disturb 61 = .ok (.invokespecial 55, 3) := by decide +kernel
theorem d_F_disturb_64 : decode b_F_disturb 64 = .ok (.athrow, 1) := by decide +kernel
theorem d_F_disturb_65 : decode b_F_disturb 65 = .ok (.aload 4, 2) := by decide +kernel
theorem d_F_disturb_67 : decode b_F_disturb 67 = .ok (.getfield 41, 3) := by decide +kernel
theorem d_F_disturb_70 : decode b_F_disturb 70 = .ok (.getfield 58, 3) := by decide +kernel
theorem d_F_disturb_73 : decode b_F_disturb 73 = .ok (.ireturn, 1) := by decide +kernel
theorem d_F_slip_0 : decode b_F_slip 0 = .ok (.aload_n 0, 1) := by decide +kernel
theorem d_F_slip_1 : decode b_F_slip 1 = .ok (.iload_n 1, 1) := by decide +kernel
theorem d_F_slip_2 : decode b_F_slip 2 = .ok (.invokevirtual 23, 3) := by decide +kernel
theorem d_F_slip_5 : decode b_F_slip 5 = .ok (.getfield 41, 3) := by decide +kernel
theorem d_F_slip_8 : decode b_F_slip 8 = .ok (.invokevirtual 61, 3) := by decide +kernel
theorem d_F_slip_11 : decode b_F_slip 11 = .ok (.ireturn, 1) := by decide +kernel
theorem d_F_pass_0 : decode b_F_pass 0 = .ok (.iload_n 1, 1) := by decide +kernel
theorem d_F_pass_1 : decode b_F_pass 1 = .ok (.iconst 1, 1) := by decide +kernel
theorem d_F_pass_2 : decode b_F_pass 2 = .ok (.if_icmp .lt 14, 3) := by decide +kernel
theorem d_F_pass_5 : decode b_F_pass 5 = .ok (.iload_n 1, 1) := by decide +kernel
theorem d_F_pass_6 : decode b_F_pass 6 = .ok (.sipush 600, 3) := by decide +kernel
theorem d_F_pass_9 : decode b_F_pass 9 = .ok (.if_icmp .gt 7, 3) := by decide +kernel
theorem d_F_pass_12 : decode b_F_pass 12 = .ok (.iconst 1, 1) := by decide +kernel
theorem d_F_pass_13 : decode b_F_pass 13 = .ok (.goto 4, 3) := by decide +kernel
theorem d_F_pass_16 : decode b_F_pass 16 = .ok (.iconst 0, 1) := by decide +kernel
theorem d_F_pass_17 : decode b_F_pass 17 = .ok (.invokestatic 27, 3) := by decide +kernel
theorem d_F_pass_20 : decode b_F_pass 20 = .ok (.iconst 0, 1) := by decide +kernel
theorem d_F_pass_21 : decode b_F_pass 21 = .ok (.istore_n 2, 1) := by decide +kernel
theorem d_F_pass_22 : decode b_F_pass 22 = .ok (.iload_n 2, 1) := by decide +kernel
theorem d_F_pass_23 : decode b_F_pass 23 = .ok (.iload_n 1, 1) := by decide +kernel
theorem d_F_pass_24 : decode b_F_pass 24 = .ok (.if_icmp .ge 61, 3) := by decide +kernel
theorem d_F_pass_27 : decode b_F_pass 27 = .ok (.aload_n 0, 1) := by decide +kernel
theorem d_F_pass_28 : decode b_F_pass 28 = .ok (.dup, 1) := by decide +kernel
theorem d_F_pass_29 : decode b_F_pass 29 = .ok (.getfield 19, 3) := by decide +kernel
theorem d_F_pass_32 : decode b_F_pass 32 = .ok (.iconst 1, 1) := by decide +kernel
theorem d_F_pass_33 : decode b_F_pass 33 = .ok (.iadd, 1) := by decide +kernel
theorem d_F_pass_34 : decode b_F_pass 34 = .ok (.putfield 19, 3) := by decide +kernel
theorem d_F_pass_37 : decode b_F_pass 37 = .ok (.aload_n 0, 1) := by decide +kernel
theorem d_F_pass_38 : decode b_F_pass 38 = .ok (.getfield 10, 3) := by decide +kernel
theorem d_F_pass_41 : decode b_F_pass 41 = .ok (.invokevirtual 65, 3) := by decide +kernel
theorem d_F_pass_44 : decode b_F_pass 44 = .ok (.istore_n 3, 1) := by decide +kernel
theorem d_F_pass_45 : decode b_F_pass 45 = .ok (.aload_n 0, 1) := by decide +kernel
theorem d_F_pass_46 : decode b_F_pass 46 = .ok (.getfield 16, 3) := by decide +kernel
theorem d_F_pass_49 : decode b_F_pass 49 = .ok (.invokevirtual 65, 3) := by decide +kernel
theorem d_F_pass_52 : decode b_F_pass 52 = .ok (.istore 4, 2) := by decide +kernel
theorem d_F_pass_54 : decode b_F_pass 54 = .ok (.aload_n 0, 1) := by decide +kernel
theorem d_F_pass_55 : decode b_F_pass 55 = .ok (.getfield 10, 3) := by decide +kernel
theorem d_F_pass_58 : decode b_F_pass 58 = .ok (.aload_n 0, 1) := by decide +kernel
theorem d_F_pass_59 : decode b_F_pass 59 = .ok (.getfield 19, 3) := by decide +kernel
theorem d_F_pass_62 : decode b_F_pass 62 = .ok (.iload 4, 2) := by decide +kernel
theorem d_F_pass_64 : decode b_F_pass 64 = .ok (.invokevirtual 69, 3) := by decide +kernel
theorem d_F_pass_67 : decode b_F_pass 67 = .ok (.aload_n 0, 1) := by decide +kernel
theorem d_F_pass_68 : decode b_F_pass 68 = .ok (.getfield 16, 3) := by decide +kernel
theorem d_F_pass_71 : decode b_F_pass 71 = .ok (.aload_n 0, 1) := by decide +kernel
theorem d_F_pass_72 : decode b_F_pass 72 = .ok (.getfield 19, 3) := by decide +kernel
theorem d_F_pass_75 : decode b_F_pass 75 = .ok (.iload_n 3, 1) := by decide +kernel
theorem d_F_pass_76 : decode b_F_pass 76 = .ok (.invokevirtual 69, 3) := by decide +kernel
theorem d_F_pass_79 : decode b_F_pass 79 = .ok (.iinc 2 1, 3) := by decide +kernel
theorem d_F_pass_82 : decode b_F_pass 82 = .ok (.goto (-60), 3) := by decide +kernel
theorem d_F_pass_85 : decode b_F_pass 85 = .ok (.aload_n 0, 1) := by decide +kernel
theorem d_F_pass_86 : decode b_F_pass 86 = .ok (.getfield 19, 3) := by decide +kernel
theorem d_F_pass_89 : decode b_F_pass 89 = .ok (.ireturn, 1) := by decide +kernel
theorem d_F_symbol_0 : decode b_F_symbol 0 = .ok (.aload_n 0, 1) := by decide +kernel
theorem d_F_symbol_1 : decode b_F_symbol 1 = .ok (.iload_n 1, 1) := by decide +kernel
theorem d_F_symbol_2 : decode b_F_symbol 2 = .ok (.invokevirtual 23, 3) := by decide +kernel
theorem d_F_symbol_5 : decode b_F_symbol 5 = .ok (.getfield 73, 3) := by decide +kernel
theorem d_F_symbol_8 : decode b_F_symbol 8 = .ok (.getfield 77, 3) := by decide +kernel
theorem d_F_symbol_11 : decode b_F_symbol 11 = .ok (.ireturn, 1) := by decide +kernel
theorem d_F_aligned_0 : decode b_F_aligned 0 = .ok (.aload_n 0, 1) := by decide +kernel
theorem d_F_aligned_1 : decode b_F_aligned 1 = .ok (.iload_n 1, 1) := by decide +kernel
theorem d_F_aligned_2 : decode b_F_aligned 2 = .ok (.invokevirtual 23, 3) := by decide +kernel
theorem d_F_aligned_5 : decode b_F_aligned 5 = .ok (.getfield 82, 3) := by decide +kernel
theorem d_F_aligned_8 : decode b_F_aligned 8 = .ok (.invokevirtual 86, 3) := by decide +kernel
theorem d_F_aligned_11 : decode b_F_aligned 11 = .ok (.ireturn, 1) := by decide +kernel
theorem d_F_frame_0 : decode b_F_frame 0 = .ok (.aload_n 0, 1) := by decide +kernel
theorem d_F_frame_1 : decode b_F_frame 1 = .ok (.iload_n 1, 1) := by decide +kernel
theorem d_F_frame_2 : decode b_F_frame 2 = .ok (.invokevirtual 23, 3) := by decide +kernel
theorem d_F_frame_5 : decode b_F_frame 5 = .ok (.getfield 82, 3) := by decide +kernel
theorem d_F_frame_8 : decode b_F_frame 8 = .ok (.getfield 91, 3) := by decide +kernel
theorem d_F_frame_11 : decode b_F_frame 11 = .ok (.getfield 95, 3) := by decide +kernel
theorem d_F_frame_14 : decode b_F_frame 14 = .ok (.ireturn, 1) := by decide +kernel
theorem d_F_slot_0 : decode b_F_slot 0 = .ok (.aload_n 0, 1) := by decide +kernel
theorem d_F_slot_1 : decode b_F_slot 1 = .ok (.iload_n 1, 1) := by decide +kernel
theorem d_F_slot_2 : decode b_F_slot 2 = .ok (.invokevirtual 23, 3) := by decide +kernel
theorem d_F_slot_5 : decode b_F_slot 5 = .ok (.astore_n 3, 1) := by decide +kernel
theorem d_F_slot_6 : decode b_F_slot 6 = .ok (.iload_n 2, 1) := by decide +kernel
theorem d_F_slot_7 : decode b_F_slot 7 = .ok (.ifCond .lt 12, 3) := by decide +kernel
theorem d_F_slot_10 : decode b_F_slot 10 = .ok (.iload_n 2, 1) := by decide +kernel
theorem d_F_slot_11 : decode b_F_slot 11 = .ok (.iconst 4, 1) := by decide +kernel
theorem d_F_slot_12 : decode b_F_slot 12 = .ok (.if_icmp .ge 7, 3) := by decide +kernel
theorem d_F_slot_15 : decode b_F_slot 15 = .ok (.iconst 1, 1) := by decide +kernel
theorem d_F_slot_16 : decode b_F_slot 16 = .ok (.goto 4, 3) := by decide +kernel
theorem d_F_slot_19 : decode b_F_slot 19 = .ok (.iconst 0, 1) := by decide +kernel
theorem d_F_slot_20 : decode b_F_slot 20 = .ok (.invokestatic 27, 3) := by decide +kernel
theorem d_F_slot_23 : decode b_F_slot 23 = .ok (.aload_n 3, 1) := by decide +kernel
theorem d_F_slot_24 : decode b_F_slot 24 = .ok (.getfield 82, 3) := by decide +kernel
theorem d_F_slot_27 : decode b_F_slot 27 = .ok (.iload_n 2, 1) := by decide +kernel
theorem d_F_slot_28 : decode b_F_slot 28 = .ok (.invokevirtual 100, 3) := by decide +kernel
theorem d_F_slot_31 : decode b_F_slot 31 = .ok (.ireturn, 1) := by decide +kernel
theorem d_F_alarm_0 : decode b_F_alarm 0 = .ok (.aload_n 0, 1) := by decide +kernel
theorem d_F_alarm_1 : decode b_F_alarm 1 = .ok (.iload_n 1, 1) := by decide +kernel
theorem d_F_alarm_2 : decode b_F_alarm 2 = .ok (.invokevirtual 23, 3) := by decide +kernel
theorem d_F_alarm_5 : decode b_F_alarm 5 = .ok (.getfield 82, 3) := by decide +kernel
theorem d_F_alarm_8 : decode b_F_alarm 8 = .ok (.getfield 104, 3) := by decide +kernel
theorem d_F_alarm_11 : decode b_F_alarm 11 = .ok (.ireturn, 1) := by decide +kernel
theorem d_F_count_0 : decode b_F_count 0 = .ok (.aload_n 0, 1) := by decide +kernel
theorem d_F_count_1 : decode b_F_count 1 = .ok (.iload_n 1, 1) := by decide +kernel
theorem d_F_count_2 : decode b_F_count 2 = .ok (.invokevirtual 23, 3) := by decide +kernel
theorem d_F_count_5 : decode b_F_count 5 = .ok (.astore_n 3, 1) := by decide +kernel
theorem d_F_count_6 : decode b_F_count 6 = .ok (.iload_n 2, 1) := by decide +kernel
theorem d_F_count_7 : decode b_F_count 7 = .ok (.tableswitch 79 0 4 #[33, 41, 49, 57, 68], 33) := by decide +kernel
theorem d_F_count_40 : decode b_F_count 40 = .ok (.aload_n 3, 1) := by decide +kernel
theorem d_F_count_41 : decode b_F_count 41 = .ok (.getfield 82, 3) := by decide +kernel
theorem d_F_count_44 : decode b_F_count 44 = .ok (.getfield 108, 3) := by decide +kernel
theorem d_F_count_47 : decode b_F_count 47 = .ok (.ireturn, 1) := by decide +kernel
theorem d_F_count_48 : decode b_F_count 48 = .ok (.aload_n 3, 1) := by decide +kernel
theorem d_F_count_49 : decode b_F_count 49 = .ok (.getfield 73, 3) := by decide +kernel
theorem d_F_count_52 : decode b_F_count 52 = .ok (.getfield 111, 3) := by decide +kernel
theorem d_F_count_55 : decode b_F_count 55 = .ok (.ireturn, 1) := by decide +kernel
theorem d_F_count_56 : decode b_F_count 56 = .ok (.aload_n 3, 1) := by decide +kernel
theorem d_F_count_57 : decode b_F_count 57 = .ok (.getfield 82, 3) := by decide +kernel
theorem d_F_count_60 : decode b_F_count 60 = .ok (.getfield 114, 3) := by decide +kernel
theorem d_F_count_63 : decode b_F_count 63 = .ok (.ireturn, 1) := by decide +kernel
theorem d_F_count_64 : decode b_F_count 64 = .ok (.aload_n 3, 1) := by decide +kernel
theorem d_F_count_65 : decode b_F_count 65 = .ok (.getfield 82, 3) := by decide +kernel
theorem d_F_count_68 : decode b_F_count 68 = .ok (.getfield 91, 3) := by decide +kernel
theorem d_F_count_71 : decode b_F_count 71 = .ok (.getfield 117, 3) := by decide +kernel
theorem d_F_count_74 : decode b_F_count 74 = .ok (.ireturn, 1) := by decide +kernel
theorem d_F_count_75 : decode b_F_count 75 = .ok (.aload_n 3, 1) := by decide +kernel
theorem d_F_count_76 : decode b_F_count 76 = .ok (.getfield 82, 3) := by decide +kernel
theorem d_F_count_79 : decode b_F_count 79 = .ok (.getfield 91, 3) := by decide +kernel
theorem d_F_count_82 : decode b_F_count 82 = .ok (.getfield 120, 3) := by decide +kernel
theorem d_F_count_85 : decode b_F_count 85 = .ok (.ireturn, 1) := by decide +kernel
theorem d_F_count_86 : decode b_F_count 86 = .ok (.new 123, 3) := by decide +kernel
theorem d_F_count_89 : decode b_F_count 89 = .ok (.dup, 1) := by decide +kernel
theorem d_F_count_90 : decode b_F_count 90 = .ok (.ldc 125, 2) := by decide +kernel
theorem d_F_count_92 : decode b_F_count 92 = .ok (.invokespecial 127, 3) := by decide +kernel
theorem d_F_count_95 : decode b_F_count 95 = .ok (.athrow, 1) := by decide +kernel
theorem d_F_endOf_0 : decode b_F_endOf 0 = .ok (.iload_n 1, 1) := by decide +kernel
theorem d_F_endOf_1 : decode b_F_endOf 1 = .ok (.ifCond .eq 8, 3) := by decide +kernel
theorem d_F_endOf_4 : decode b_F_endOf 4 = .ok (.iload_n 1, 1) := by decide +kernel
theorem d_F_endOf_5 : decode b_F_endOf 5 = .ok (.iconst 1, 1) := by decide +kernel
theorem d_F_endOf_6 : decode b_F_endOf 6 = .ok (.if_icmp .ne 7, 3) := by decide +kernel
theorem d_F_endOf_9 : decode b_F_endOf 9 = .ok (.iconst 1, 1) := by decide +kernel
theorem d_F_endOf_10 : decode b_F_endOf 10 = .ok (.goto 4, 3) := by decide +kernel
theorem d_F_endOf_13 : decode b_F_endOf 13 = .ok (.iconst 0, 1) := by decide +kernel
theorem d_F_endOf_14 : decode b_F_endOf 14 = .ok (.invokestatic 27, 3) := by decide +kernel
theorem d_F_endOf_17 : decode b_F_endOf 17 = .ok (.iload_n 1, 1) := by decide +kernel
theorem d_F_endOf_18 : decode b_F_endOf 18 = .ok (.ifCond .ne 10, 3) := by decide +kernel
theorem d_F_endOf_21 : decode b_F_endOf 21 = .ok (.aload_n 0, 1) := by decide +kernel
theorem d_F_endOf_22 : decode b_F_endOf 22 = .ok (.getfield 10, 3) := by decide +kernel
theorem d_F_endOf_25 : decode b_F_endOf 25 = .ok (.goto 7, 3) := by decide +kernel
theorem d_F_endOf_28 : decode b_F_endOf 28 = .ok (.aload_n 0, 1) := by decide +kernel
theorem d_F_endOf_29 : decode b_F_endOf 29 = .ok (.getfield 16, 3) := by decide +kernel
theorem d_F_endOf_32 : decode b_F_endOf 32 = .ok (.areturn, 1) := by decide +kernel
theorem d_F_require_0 : decode b_F_require 0 = .ok (.iload_n 0, 1) := by decide +kernel
theorem d_F_require_1 : decode b_F_require 1 = .ok (.ifCond .ne 13, 3) := by decide +kernel
theorem d_F_require_4 : decode b_F_require 4 = .ok (.new 123, 3) := by decide +kernel
theorem d_F_require_7 : decode b_F_require 7 = .ok (.dup, 1) := by decide +kernel
theorem d_F_require_8 : decode b_F_require 8 = .ok (.ldc 128, 2) := by decide +kernel
theorem d_F_require_10 : decode b_F_require 10 = .ok (.invokespecial 127, 3) := by decide +kernel
theorem d_F_require_13 : decode b_F_require 13 = .ok (.athrow, 1) := by decide +kernel
theorem d_F_require_14 : decode b_F_require 14 = .ok (.return_, 1) := by decide +kernel
theorem d_M_disturb_0 : decode b_M_disturb 0 = .ok (.aload_n 0, 1) := by decide +kernel
theorem d_M_disturb_1 : decode b_M_disturb 1 = .ok (.iload_n 1, 1) := by decide +kernel
theorem d_M_disturb_2 : decode b_M_disturb 2 = .ok (.invokestatic 193, 3) := by decide +kernel
theorem d_M_disturb_5 : decode b_M_disturb 5 = .ok (.ifCond .eq 27, 3) := by decide +kernel
theorem d_M_disturb_8 : decode b_M_disturb 8 = .ok (.iload_n 2, 1) := by decide +kernel
theorem d_M_disturb_9 : decode b_M_disturb 9 = .ok (.iconst 1, 1) := by decide +kernel
theorem d_M_disturb_10 : decode b_M_disturb 10 = .ok (.sipush 1000, 3) := by decide +kernel
theorem d_M_disturb_13 : decode b_M_disturb 13 = .ok (.invokestatic 196, 3) := by decide +kernel
theorem d_M_disturb_16 : decode b_M_disturb 16 = .ok (.ifCond .eq 16, 3) := by decide +kernel
theorem d_M_disturb_19 : decode b_M_disturb 19 = .ok (.iload_n 3, 1) := by decide +kernel
theorem d_M_disturb_20 : decode b_M_disturb 20 = .ok (.iconst (-1), 1) := by decide +kernel
theorem d_M_disturb_21 : decode b_M_disturb 21 = .ok (.iconst 1, 1) := by decide +kernel
theorem d_M_disturb_22 : decode b_M_disturb 22 = .ok (.invokestatic 196, 3) := by decide +kernel
theorem d_M_disturb_25 : decode b_M_disturb 25 = .ok (.ifCond .eq 7, 3) := by decide +kernel
theorem d_M_disturb_28 : decode b_M_disturb 28 = .ok (.iconst 0, 1) := by decide +kernel
theorem d_M_disturb_29 : decode b_M_disturb 29 = .ok (.goto 4, 3) := by decide +kernel
theorem d_M_disturb_32 : decode b_M_disturb 32 = .ok (.iconst 1, 1) := by decide +kernel
theorem d_M_disturb_33 : decode b_M_disturb 33 = .ok (.putfield 137, 3) := by decide +kernel
theorem d_M_disturb_36 : decode b_M_disturb 36 = .ok (.aload_n 0, 1) := by decide +kernel
theorem d_M_disturb_37 : decode b_M_disturb 37 = .ok (.getfield 137, 3) := by decide +kernel
theorem d_M_disturb_40 : decode b_M_disturb 40 = .ok (.ifCond .le 5, 3) := by decide +kernel
theorem d_M_disturb_43 : decode b_M_disturb 43 = .ok (.iconst 0, 1) := by decide +kernel
theorem d_M_disturb_44 : decode b_M_disturb 44 = .ok (.ireturn, 1) := by decide +kernel
theorem d_M_disturb_45 : decode b_M_disturb 45 = .ok (.aload_n 0, 1) := by decide +kernel
theorem d_M_disturb_46 : decode b_M_disturb 46 = .ok (.iload_n 1, 1) := by decide +kernel
theorem d_M_disturb_47 : decode b_M_disturb 47 = .ok (.aload_n 0, 1) := by decide +kernel
theorem d_M_disturb_48 : decode b_M_disturb 48 = .ok (.getfield 156, 3) := by decide +kernel
theorem d_M_disturb_51 : decode b_M_disturb 51 = .ok (.iload_n 2, 1) := by decide +kernel
theorem d_M_disturb_52 : decode b_M_disturb 52 = .ok (.iadd, 1) := by decide +kernel
theorem d_M_disturb_53 : decode b_M_disturb 53 = .ok (.invokevirtual 162, 3) := by decide +kernel
theorem d_M_disturb_56 : decode b_M_disturb 56 = .ok (.istore 4, 2) := by decide +kernel
theorem d_M_disturb_58 : decode b_M_disturb 58 = .ok (.aload_n 0, 1) := by decide +kernel
theorem d_M_disturb_59 : decode b_M_disturb 59 = .ok (.iload 4, 2) := by decide +kernel
theorem d_M_disturb_61 : decode b_M_disturb 61 = .ok (.ifCond .ge 18, 3) := by decide +kernel
theorem d_M_disturb_64 : decode b_M_disturb 64 = .ok (.aload_n 0, 1) := by decide +kernel
theorem d_M_disturb_65 : decode b_M_disturb 65 = .ok (.getfield 41, 3) := by decide +kernel
theorem d_M_disturb_68 : decode b_M_disturb 68 = .ok (.iload_n 1, 1) := by decide +kernel
theorem d_M_disturb_69 : decode b_M_disturb 69 = .ok (.iaload, 1) := by decide +kernel
theorem d_M_disturb_70 : decode b_M_disturb 70 = .ok (.bipush 8, 2) := by decide +kernel
theorem d_M_disturb_72 : decode b_M_disturb 72 = .ok (.if_icmp .ne 7, 3) := by decide +kernel
theorem d_M_disturb_75 : decode b_M_disturb 75 = .ok (.iconst 2, 1) := by decide +kernel
theorem d_M_disturb_76 : decode b_M_disturb 76 = .ok (.goto 4, 3) := by decide +kernel
theorem d_M_disturb_79 : decode b_M_disturb 79 = .ok (.iconst 0, 1) := by decide +kernel
theorem d_M_disturb_80 : decode b_M_disturb 80 = .ok (.putfield 137, 3) := by decide +kernel
theorem d_M_disturb_83 : decode b_M_disturb 83 = .ok (.aload_n 0, 1) := by decide +kernel
theorem d_M_disturb_84 : decode b_M_disturb 84 = .ok (.getfield 137, 3) := by decide +kernel
theorem d_M_disturb_87 : decode b_M_disturb 87 = .ok (.ifCond .le 5, 3) := by decide +kernel
theorem d_M_disturb_90 : decode b_M_disturb 90 = .ok (.iconst 0, 1) := by decide +kernel
theorem d_M_disturb_91 : decode b_M_disturb 91 = .ok (.ireturn, 1) := by decide +kernel
theorem d_M_disturb_92 : decode b_M_disturb 92 = .ok (.iload 4, 2) := by decide +kernel
theorem d_M_disturb_94 : decode b_M_disturb 94 = .ok (.ifCond .ge 21, 3) := by decide +kernel
theorem d_M_disturb_97 : decode b_M_disturb 97 = .ok (.aload_n 0, 1) := by decide +kernel
theorem d_M_disturb_98 : decode b_M_disturb 98 = .ok (.getfield 41, 3) := by decide +kernel
theorem d_M_disturb_101 : decode b_M_disturb 101 = .ok (.iload_n 1, 1) := by decide +kernel
theorem d_M_disturb_102 : decode b_M_disturb 102 = .ok (.iaload, 1) := by decide +kernel
theorem d_M_disturb_103 : decode b_M_disturb 103 = .ok (.istore 4, 2) := by decide +kernel
theorem d_M_disturb_105 : decode b_M_disturb 105 = .ok (.aload_n 0, 1) := by decide +kernel
theorem d_M_disturb_106 : decode b_M_disturb 106 = .ok (.getfield 41, 3) := by decide +kernel
theorem d_M_disturb_109 : decode b_M_disturb 109 = .ok (.iload_n 1, 1) := by decide +kernel
theorem d_M_disturb_110 : decode b_M_disturb 110 = .ok (.iload 4, 2) := by decide +kernel
theorem d_M_disturb_112 : decode b_M_disturb 112 = .ok (.iconst 1, 1) := by decide +kernel
theorem d_M_disturb_113 : decode b_M_disturb 113 = .ok (.iadd, 1) := by decide +kernel
theorem d_M_disturb_114 : decode b_M_disturb 114 = .ok (.iastore, 1) := by decide +kernel
theorem d_M_disturb_115 : decode b_M_disturb 115 = .ok (.aload_n 0, 1) := by decide +kernel
theorem d_M_disturb_116 : decode b_M_disturb 116 = .ok (.getfield 44, 3) := by decide +kernel
theorem d_M_disturb_119 : decode b_M_disturb 119 = .ok (.bipush 8, 2) := by decide +kernel
theorem d_M_disturb_121 : decode b_M_disturb 121 = .ok (.iload_n 1, 1) := by decide +kernel
theorem d_M_disturb_122 : decode b_M_disturb 122 = .ok (.imul, 1) := by decide +kernel
theorem d_M_disturb_123 : decode b_M_disturb 123 = .ok (.iload 4, 2) := by decide +kernel
theorem d_M_disturb_125 : decode b_M_disturb 125 = .ok (.iadd, 1) := by decide +kernel
theorem d_M_disturb_126 : decode b_M_disturb 126 = .ok (.aload_n 0, 1) := by decide +kernel
theorem d_M_disturb_127 : decode b_M_disturb 127 = .ok (.getfield 156, 3) := by decide +kernel
theorem d_M_disturb_130 : decode b_M_disturb 130 = .ok (.iload_n 2, 1) := by decide +kernel
theorem d_M_disturb_131 : decode b_M_disturb 131 = .ok (.iadd, 1) := by decide +kernel
theorem d_M_disturb_132 : decode b_M_disturb 132 = .ok (.iastore, 1) := by decide +kernel
theorem d_M_disturb_133 : decode b_M_disturb 133 = .ok (.aload_n 0, 1) := by decide +kernel
theorem d_M_disturb_134 : decode b_M_disturb 134 = .ok (.getfield 47, 3) := by decide +kernel
theorem d_M_disturb_137 : decode b_M_disturb 137 = .ok (.bipush 8, 2) := by decide +kernel
theorem d_M_disturb_139 : decode b_M_disturb 139 = .ok (.iload_n 1, 1) := by decide +kernel
theorem d_M_disturb_140 : decode b_M_disturb 140 = .ok (.imul, 1) := by decide +kernel
theorem d_M_disturb_141 : decode b_M_disturb 141 = .ok (.iload 4, 2) := by decide +kernel
theorem d_M_disturb_143 : decode b_M_disturb 143 = .ok (.iadd, 1) := by decide +kernel
theorem d_M_disturb_144 : decode b_M_disturb 144 = .ok (.iload_n 3, 1) := by decide +kernel
theorem d_M_disturb_145 : decode b_M_disturb 145 = .ok (.iastore, 1) := by decide +kernel
theorem d_M_disturb_146 : decode b_M_disturb 146 = .ok (.aload_n 0, 1) := by decide +kernel
theorem d_M_disturb_147 : decode b_M_disturb 147 = .ok (.getfield 41, 3) := by decide +kernel
theorem d_M_disturb_150 : decode b_M_disturb 150 = .ok (.iload_n 1, 1) := by decide +kernel
theorem d_M_disturb_151 : decode b_M_disturb 151 = .ok (.iaload, 1) := by decide +kernel
theorem d_M_disturb_152 : decode b_M_disturb 152 = .ok (.ireturn, 1) := by decide +kernel
theorem d_M_pass_0 : decode b_M_pass 0 = .ok (.aload_n 0, 1) := by decide +kernel
theorem d_M_pass_1 : decode b_M_pass 1 = .ok (.iload_n 1, 1) := by decide +kernel
theorem d_M_pass_2 : decode b_M_pass 2 = .ok (.iconst 1, 1) := by decide +kernel
theorem d_M_pass_3 : decode b_M_pass 3 = .ok (.sipush 600, 3) := by decide +kernel
theorem d_M_pass_6 : decode b_M_pass 6 = .ok (.invokestatic 196, 3) := by decide +kernel
theorem d_M_pass_9 : decode b_M_pass 9 = .ok (.ifCond .eq 7, 3) := by decide +kernel
theorem d_M_pass_12 : decode b_M_pass 12 = .ok (.iconst 0, 1) := by decide +kernel
theorem d_M_pass_13 : decode b_M_pass 13 = .ok (.goto 4, 3) := by decide +kernel
theorem d_M_pass_16 : decode b_M_pass 16 = .ok (.iconst 1, 1) := by decide +kernel
theorem d_M_pass_17 : decode b_M_pass 17 = .ok (.putfield 137, 3) := by decide +kernel
theorem d_M_pass_20 : decode b_M_pass 20 = .ok (.iconst 0, 1) := by decide +kernel
theorem d_M_pass_21 : decode b_M_pass 21 = .ok (.istore_n 2, 1) := by decide +kernel
theorem d_M_pass_22 : decode b_M_pass 22 = .ok (.iload_n 2, 1) := by decide +kernel
theorem d_M_pass_23 : decode b_M_pass 23 = .ok (.iload_n 1, 1) := by decide +kernel
theorem d_M_pass_24 : decode b_M_pass 24 = .ok (.if_icmp .ge 52, 3) := by decide +kernel
theorem d_M_pass_27 : decode b_M_pass 27 = .ok (.aload_n 0, 1) := by decide +kernel
theorem d_M_pass_28 : decode b_M_pass 28 = .ok (.getfield 137, 3) := by decide +kernel
theorem d_M_pass_31 : decode b_M_pass 31 = .ok (.ifCond .ne 45, 3) := by decide +kernel
theorem d_M_pass_34 : decode b_M_pass 34 = .ok (.aload_n 0, 1) := by decide +kernel
theorem d_M_pass_35 : decode b_M_pass 35 = .ok (.dup, 1) := by decide +kernel
theorem d_M_pass_36 : decode b_M_pass 36 = .ok (.getfield 156, 3) := by decide +kernel
theorem d_M_pass_39 : decode b_M_pass 39 = .ok (.iconst 1, 1) := by decide +kernel
theorem d_M_pass_40 : decode b_M_pass 40 = .ok (.iadd, 1) := by decide +kernel
theorem d_M_pass_41 : decode b_M_pass 41 = .ok (.putfield 156, 3) := by decide +kernel
theorem d_M_pass_44 : decode b_M_pass 44 = .ok (.aload_n 0, 1) := by decide +kernel
theorem d_M_pass_45 : decode b_M_pass 45 = .ok (.iconst 0, 1) := by decide +kernel
theorem d_M_pass_46 : decode b_M_pass 46 = .ok (.invokevirtual 200, 3) := by decide +kernel
theorem d_M_pass_49 : decode b_M_pass 49 = .ok (.istore_n 3, 1) := by decide +kernel
theorem d_M_pass_50 : decode b_M_pass 50 = .ok (.aload_n 0, 1) := by decide +kernel
theorem d_M_pass_51 : decode b_M_pass 51 = .ok (.iconst 1, 1) := by decide +kernel
theorem d_M_pass_52 : decode b_M_pass 52 = .ok (.invokevirtual 200, 3) := by decide +kernel
theorem d_M_pass_55 : decode b_M_pass 55 = .ok (.istore 4, 2) := by decide +kernel
theorem d_M_pass_57 : decode b_M_pass 57 = .ok (.aload_n 0, 1) := by decide +kernel
theorem d_M_pass_58 : decode b_M_pass 58 = .ok (.iconst 0, 1) := by decide +kernel
theorem d_M_pass_59 : decode b_M_pass 59 = .ok (.iload 4, 2) := by decide +kernel
theorem d_M_pass_61 : decode b_M_pass 61 = .ok (.invokevirtual 203, 3) := by decide +kernel
theorem d_M_pass_64 : decode b_M_pass 64 = .ok (.aload_n 0, 1) := by decide +kernel
theorem d_M_pass_65 : decode b_M_pass 65 = .ok (.iconst 1, 1) := by decide +kernel
theorem d_M_pass_66 : decode b_M_pass 66 = .ok (.iload_n 3, 1) := by decide +kernel
theorem d_M_pass_67 : decode b_M_pass 67 = .ok (.invokevirtual 203, 3) := by decide +kernel
theorem d_M_pass_70 : decode b_M_pass 70 = .ok (.iinc 2 1, 3) := by decide +kernel
theorem d_M_pass_73 : decode b_M_pass 73 = .ok (.goto (-51), 3) := by decide +kernel
theorem d_M_pass_76 : decode b_M_pass 76 = .ok (.aload_n 0, 1) := by decide +kernel
theorem d_M_pass_77 : decode b_M_pass 77 = .ok (.getfield 137, 3) := by decide +kernel
theorem d_M_pass_80 : decode b_M_pass 80 = .ok (.ifCond .ne 10, 3) := by decide +kernel
theorem d_M_pass_83 : decode b_M_pass 83 = .ok (.aload_n 0, 1) := by decide +kernel
theorem d_M_pass_84 : decode b_M_pass 84 = .ok (.getfield 156, 3) := by decide +kernel
theorem d_M_pass_87 : decode b_M_pass 87 = .ok (.goto 4, 3) := by decide +kernel
theorem d_M_pass_90 : decode b_M_pass 90 = .ok (.iconst 0, 1) := by decide +kernel
theorem d_M_pass_91 : decode b_M_pass 91 = .ok (.ireturn, 1) := by decide +kernel
