theorem lo_inst : Cond.instanceMethod Lib.objectInit ∈ GW := GW_at 63 (by decide +kernel) (by decide +kernel)
theorem lo_code : Cond.code Lib.objectInit ⟨#[0xb1]⟩ 1 none ∈ GW := GW_at 64 (by decide +kernel) (by decide +kernel)
theorem la_int : Cond.arrayClass (newarray.typeOf .int) ∈ GW := GW_at 96 (by decide +kernel) (by decide +kernel)
theorem la_boolean : Cond.arrayClass (newarray.typeOf .boolean) ∈ GW := GW_at 767 (by decide +kernel) (by decide +kernel)
theorem d_O_init_0 : decode b_O_init 0 = .ok (.aload_n 0, 1) := by decide +kernel
theorem d_O_init_1 : decode b_O_init 1 = .ok (.invokespecial 3, 3) := by decide +kernel
theorem d_O_init_4 : decode b_O_init 4 = .ok (.aload_n 0, 1) := by decide +kernel
theorem d_O_init_5 : decode b_O_init 5 = .ok (.iconst (-1), 1) := by decide +kernel
theorem d_O_init_6 : decode b_O_init 6 = .ok (.putfield 9, 3) := by decide +kernel
theorem d_O_init_9 : decode b_O_init 9 = .ok (.aload_n 0, 1) := by decide +kernel
theorem d_O_init_10 : decode b_O_init 10 = .ok (.iconst 0, 1) := by decide +kernel
theorem d_O_init_11 : decode b_O_init 11 = .ok (.putfield 15, 3) := by decide +kernel
theorem d_O_init_14 : decode b_O_init 14 = .ok (.aload_n 0, 1) := by decide +kernel
theorem d_O_init_15 : decode b_O_init 15 = .ok (.iconst 0, 1) := by decide +kernel
theorem d_O_init_16 : decode b_O_init 16 = .ok (.putfield 18, 3) := by decide +kernel
theorem d_O_init_19 : decode b_O_init 19 = .ok (.aload_n 0, 1) := by decide +kernel
theorem d_O_init_20 : decode b_O_init 20 = .ok (.iconst 0, 1) := by decide +kernel
theorem d_O_init_21 : decode b_O_init 21 = .ok (.putfield 21, 3) := by decide +kernel
theorem d_O_init_24 : decode b_O_init 24 = .ok (.aload_n 0, 1) := by decide +kernel
theorem d_O_init_25 : decode b_O_init 25 = .ok (.iconst 0, 1) := by decide +kernel
theorem d_O_init_26 : decode b_O_init 26 = .ok (.putfield 24, 3) := by decide +kernel
theorem d_O_init_29 : decode b_O_init 29 = .ok (.aload_n 0, 1) := by decide +kernel
theorem d_O_init_30 : decode b_O_init 30 = .ok (.iconst 0, 1) := by decide +kernel
theorem d_O_init_31 : decode b_O_init 31 = .ok (.putfield 28, 3) := by decide +kernel
theorem d_O_init_34 : decode b_O_init 34 = .ok (.aload_n 0, 1) := by decide +kernel
theorem d_O_init_35 : decode b_O_init 35 = .ok (.iconst 0, 1) := by decide +kernel
theorem d_O_init_36 : decode b_O_init 36 = .ok (.putfield 31, 3) := by decide +kernel
theorem d_O_init_39 : decode b_O_init 39 = .ok (.aload_n 0, 1) := by decide +kernel
theorem d_O_init_40 : decode b_O_init 40 = .ok (.iconst 0, 1) := by decide +kernel
theorem d_O_init_41 : decode b_O_init 41 = .ok (.putfield 34, 3) := by decide +kernel
theorem d_O_init_44 : decode b_O_init 44 = .ok (.aload_n 0, 1) := by decide +kernel
theorem d_O_init_45 : decode b_O_init 45 = .ok (.iconst 0, 1) := by decide +kernel
theorem d_O_init_46 : decode b_O_init 46 = .ok (.putfield 37, 3) := by decide +kernel
theorem d_O_init_49 : decode b_O_init 49 = .ok (.aload_n 0, 1) := by decide +kernel
theorem d_O_init_50 : decode b_O_init 50 = .ok (.iconst 0, 1) := by decide +kernel
theorem d_O_init_51 : decode b_O_init 51 = .ok (.putfield 40, 3) := by decide +kernel
theorem d_O_init_54 : decode b_O_init 54 = .ok (.aload_n 0, 1) := by decide +kernel
theorem d_O_init_55 : decode b_O_init 55 = .ok (.iconst 0, 1) := by decide +kernel
theorem d_O_init_56 : decode b_O_init 56 = .ok (.putfield 43, 3) := by decide +kernel
theorem d_O_init_59 : decode b_O_init 59 = .ok (.aload_n 0, 1) := by decide +kernel
theorem d_O_init_60 : decode b_O_init 60 = .ok (.iconst 0, 1) := by decide +kernel
theorem d_O_init_61 : decode b_O_init 61 = .ok (.putfield 46, 3) := by decide +kernel
theorem d_O_init_64 : decode b_O_init 64 = .ok (.aload_n 0, 1) := by decide +kernel
theorem d_O_init_65 : decode b_O_init 65 = .ok (.iconst 0, 1) := by decide +kernel
theorem d_O_init_66 : decode b_O_init 66 = .ok (.putfield 49, 3) := by decide +kernel
theorem d_O_init_69 : decode b_O_init 69 = .ok (.return_, 1) := by decide +kernel
theorem lin_O : Cond.instantiable "FramedLine$Rounds" 13 ∈ GW := GW_at 179 (by decide +kernel) (by decide +kernel)
theorem lit_O : Cond.initialized "FramedLine$Rounds" ∈ GW := GW_at 48 (by decide +kernel) (by decide +kernel)
theorem lmO_O : Cond.methodLink "FramedLine$Rounds" 3 Lib.objectInit ∈ GW := GW_at 183 (by decide +kernel) (by decide +kernel)
theorem lj_O_9 : Cond.fieldLink "FramedLine$Rounds" 9 "FramedLine$Rounds" "number" "I" ∈ GW := GW_at 184 (by decide +kernel) (by decide +kernel)
theorem lj_O_15 : Cond.fieldLink "FramedLine$Rounds" 15 "FramedLine$Rounds" "oddFrames" "I" ∈ GW := GW_at 186 (by decide +kernel) (by decide +kernel)
theorem lj_O_18 : Cond.fieldLink "FramedLine$Rounds" 18 "FramedLine$Rounds" "firstBitsOfOdd" "I" ∈ GW := GW_at 187 (by decide +kernel) (by decide +kernel)
theorem lj_O_21 : Cond.fieldLink "FramedLine$Rounds" 21 "FramedLine$Rounds" "wrongRounds" "I" ∈ GW := GW_at 188 (by decide +kernel) (by decide +kernel)
theorem lj_O_24 : Cond.fieldLink "FramedLine$Rounds" 24 "FramedLine$Rounds" "halfBegunKnown" "Z" ∈ GW := GW_at 189 (by decide +kernel) (by decide +kernel)
theorem lj_O_28 : Cond.fieldLink "FramedLine$Rounds" 28 "FramedLine$Rounds" "halfBeforeKnown" "Z" ∈ GW := GW_at 190 (by decide +kernel) (by decide +kernel)
theorem lj_O_31 : Cond.fieldLink "FramedLine$Rounds" 31 "FramedLine$Rounds" "check" "I" ∈ GW := GW_at 191 (by decide +kernel) (by decide +kernel)
theorem lj_O_34 : Cond.fieldLink "FramedLine$Rounds" 34 "FramedLine$Rounds" "checkOfHalfBefore" "I" ∈ GW := GW_at 192 (by decide +kernel) (by decide +kernel)
theorem lj_O_37 : Cond.fieldLink "FramedLine$Rounds" 37 "FramedLine$Rounds" "checkCome" "I" ∈ GW := GW_at 193 (by decide +kernel) (by decide +kernel)
theorem lj_O_40 : Cond.fieldLink "FramedLine$Rounds" 40 "FramedLine$Rounds" "firstHalfWrong" "Z" ∈ GW := GW_at 194 (by decide +kernel) (by decide +kernel)
theorem lj_O_43 : Cond.fieldLink "FramedLine$Rounds" 43 "FramedLine$Rounds" "secondHalfWrong" "Z" ∈ GW := GW_at 196 (by decide +kernel) (by decide +kernel)
theorem lj_O_46 : Cond.fieldLink "FramedLine$Rounds" 46 "FramedLine$Rounds" "wrongHalves" "I" ∈ GW := GW_at 198 (by decide +kernel) (by decide +kernel)
theorem lj_O_49 : Cond.fieldLink "FramedLine$Rounds" 49 "FramedLine$Rounds" "farFaults" "I" ∈ GW := GW_at 200 (by decide +kernel) (by decide +kernel)
theorem d_R_init_0 : decode b_R_init 0 = .ok (.aload_n 0, 1) := by decide +kernel
theorem d_R_init_1 : decode b_R_init 1 = .ok (.invokespecial 3, 3) := by decide +kernel
theorem d_R_init_4 : decode b_R_init 4 = .ok (.aload_n 0, 1) := by decide +kernel
theorem d_R_init_5 : decode b_R_init 5 = .ok (.new 9, 3) := by decide +kernel
theorem d_R_init_8 : decode b_R_init 8 = .ok (.dup, 1) := by decide +kernel
theorem d_R_init_9 : decode b_R_init 9 = .ok (.invokespecial 11, 3) := by decide +kernel
theorem d_R_init_12 : decode b_R_init 12 = .ok (.putfield 12, 3) := by decide +kernel
theorem d_R_init_15 : decode b_R_init 15 = .ok (.aload_n 0, 1) := by decide +kernel
theorem d_R_init_16 : decode b_R_init 16 = .ok (.getstatic 18, 3) := by decide +kernel
theorem d_R_init_19 : decode b_R_init 19 = .ok (.putfield 24, 3) := by decide +kernel
theorem d_R_init_22 : decode b_R_init 22 = .ok (.aload_n 0, 1) := by decide +kernel
theorem d_R_init_23 : decode b_R_init 23 = .ok (.iconst 0, 1) := by decide +kernel
theorem d_R_init_24 : decode b_R_init 24 = .ok (.putfield 27, 3) := by decide +kernel
theorem d_R_init_27 : decode b_R_init 27 = .ok (.aload_n 0, 1) := by decide +kernel
theorem d_R_init_28 : decode b_R_init 28 = .ok (.iconst 0, 1) := by decide +kernel
theorem d_R_init_29 : decode b_R_init 29 = .ok (.putfield 31, 3) := by decide +kernel
theorem d_R_init_32 : decode b_R_init 32 = .ok (.aload_n 0, 1) := by decide +kernel
theorem d_R_init_33 : decode b_R_init 33 = .ok (.iconst 0, 1) := by decide +kernel
theorem d_R_init_34 : decode b_R_init 34 = .ok (.putfield 34, 3) := by decide +kernel
theorem d_R_init_37 : decode b_R_init 37 = .ok (.aload_n 0, 1) := by decide +kernel
theorem d_R_init_38 : decode b_R_init 38 = .ok (.iconst 0, 1) := by decide +kernel
theorem d_R_init_39 : decode b_R_init 39 = .ok (.putfield 38, 3) := by decide +kernel
theorem d_R_init_42 : decode b_R_init 42 = .ok (.aload_n 0, 1) := by decide +kernel
theorem d_R_init_43 : decode b_R_init 43 = .ok (.iconst 0, 1) := by decide +kernel
theorem d_R_init_44 : decode b_R_init 44 = .ok (.putfield 41, 3) := by decide +kernel
theorem d_R_init_47 : decode b_R_init 47 = .ok (.aload_n 0, 1) := by decide +kernel
theorem d_R_init_48 : decode b_R_init 48 = .ok (.iconst 0, 1) := by decide +kernel
theorem d_R_init_49 : decode b_R_init 49 = .ok (.putfield 44, 3) := by decide +kernel
theorem d_R_init_52 : decode b_R_init 52 = .ok (.aload_n 0, 1) := by decide +kernel
theorem d_R_init_53 : decode b_R_init 53 = .ok (.iconst 0, 1) := by decide +kernel
theorem d_R_init_54 : decode b_R_init 54 = .ok (.putfield 47, 3) := by decide +kernel
theorem d_R_init_57 : decode b_R_init 57 = .ok (.aload_n 0, 1) := by decide +kernel
theorem d_R_init_58 : decode b_R_init 58 = .ok (.iconst 0, 1) := by decide +kernel
theorem d_R_init_59 : decode b_R_init 59 = .ok (.putfield 50, 3) := by decide +kernel
theorem d_R_init_62 : decode b_R_init 62 = .ok (.return_, 1) := by decide +kernel
theorem lin_R : Cond.instantiable "FramedLine$Receiver" 10 ∈ GW := GW_at 173 (by decide +kernel) (by decide +kernel)
theorem lit_R : Cond.initialized "FramedLine$Receiver" ∈ GW := GW_at 47 (by decide +kernel) (by decide +kernel)
theorem lmO_R : Cond.methodLink "FramedLine$Receiver" 3 Lib.objectInit ∈ GW := GW_at 177 (by decide +kernel) (by decide +kernel)
theorem lkj_R_9 : Cond.classLink "FramedLine$Receiver" 9 "FramedLine$Rounds" ∈ GW := GW_at 178 (by decide +kernel) (by decide +kernel)
theorem lmj_R_11 : gLI "FramedLine$Receiver" 11 y_O_init b_O_init := ⟨⟨GW_at 182 (by decide +kernel) (by decide +kernel), GW_at 48 (by decide +kernel) (by decide +kernel), by decide +kernel⟩, GW_at 180 (by decide +kernel) (by decide +kernel), GW_at 181 (by decide +kernel) (by decide +kernel), rfl⟩
theorem lj_R_12 : Cond.fieldLink "FramedLine$Receiver" 12 "FramedLine$Receiver" "rounds" "LFramedLine$Rounds;" ∈ GW := GW_at 231 (by decide +kernel) (by decide +kernel)
theorem lj_R_18 : Cond.fieldLink "FramedLine$Receiver" 18 "FramedLine$State" "SEARCHING" "LFramedLine$State;" ∈ GW := GW_at 229 (by decide +kernel) (by decide +kernel)
theorem lj_R_24 : Cond.fieldLink "FramedLine$Receiver" 24 "FramedLine$Receiver" "state" "LFramedLine$State;" ∈ GW := GW_at 234 (by decide +kernel) (by decide +kernel)
theorem lj_R_27 : Cond.fieldLink "FramedLine$Receiver" 27 "FramedLine$Receiver" "latestBits" "I" ∈ GW := GW_at 235 (by decide +kernel) (by decide +kernel)
theorem lj_R_31 : Cond.fieldLink "FramedLine$Receiver" 31 "FramedLine$Receiver" "bits" "I" ∈ GW := GW_at 236 (by decide +kernel) (by decide +kernel)
theorem lj_R_34 : Cond.fieldLink "FramedLine$Receiver" 34 "FramedLine$Receiver" "odd" "Z" ∈ GW := GW_at 237 (by decide +kernel) (by decide +kernel)
theorem lj_R_38 : Cond.fieldLink "FramedLine$Receiver" 38 "FramedLine$Receiver" "wrongWords" "I" ∈ GW := GW_at 238 (by decide +kernel) (by decide +kernel)
theorem lj_R_41 : Cond.fieldLink "FramedLine$Receiver" 41 "FramedLine$Receiver" "latestFrame" "I" ∈ GW := GW_at 239 (by decide +kernel) (by decide +kernel)
theorem lj_R_44 : Cond.fieldLink "FramedLine$Receiver" 44 "FramedLine$Receiver" "completeFrames" "I" ∈ GW := GW_at 240 (by decide +kernel) (by decide +kernel)
theorem lj_R_47 : Cond.fieldLink "FramedLine$Receiver" 47 "FramedLine$Receiver" "losses" "I" ∈ GW := GW_at 242 (by decide +kernel) (by decide +kernel)
theorem lj_R_50 : Cond.fieldLink "FramedLine$Receiver" 50 "FramedLine$Receiver" "alarmCame" "Z" ∈ GW := GW_at 244 (by decide +kernel) (by decide +kernel)
theorem d_S_init_0 : decode b_S_init 0 = .ok (.aload_n 0, 1) := by decide +kernel
theorem d_S_init_1 : decode b_S_init 1 = .ok (.invokespecial 3, 3) := by decide +kernel
theorem d_S_init_4 : decode b_S_init 4 = .ok (.aload_n 0, 1) := by decide +kernel
theorem d_S_init_5 : decode b_S_init 5 = .ok (.iconst 4, 1) := by decide +kernel
theorem d_S_init_6 : decode b_S_init 6 = .ok (.newarray .int, 2) := by decide +kernel
theorem d_S_init_8 : decode b_S_init 8 = .ok (.putfield 9, 3) := by decide +kernel
theorem d_S_init_11 : decode b_S_init 11 = .ok (.aload_n 0, 1) := by decide +kernel
theorem d_S_init_12 : decode b_S_init 12 = .ok (.iconst 0, 1) := by decide +kernel
theorem d_S_init_13 : decode b_S_init 13 = .ok (.putfield 15, 3) := by decide +kernel
theorem d_S_init_16 : decode b_S_init 16 = .ok (.aload_n 0, 1) := by decide +kernel
theorem d_S_init_17 : decode b_S_init 17 = .ok (.iconst 0, 1) := by decide +kernel
theorem d_S_init_18 : decode b_S_init 18 = .ok (.putfield 19, 3) := by decide +kernel
theorem d_S_init_21 : decode b_S_init 21 = .ok (.aload_n 0, 1) := by decide +kernel
theorem d_S_init_22 : decode b_S_init 22 = .ok (.bipush 32, 2) := by decide +kernel
theorem d_S_init_24 : decode b_S_init 24 = .ok (.putfield 22, 3) := by decide +kernel
theorem d_S_init_27 : decode b_S_init 27 = .ok (.aload_n 0, 1) := by decide +kernel
theorem d_S_init_28 : decode b_S_init 28 = .ok (.iconst 0, 1) := by decide +kernel
theorem d_S_init_29 : decode b_S_init 29 = .ok (.putfield 25, 3) := by decide +kernel
theorem d_S_init_32 : decode b_S_init 32 = .ok (.aload_n 0, 1) := by decide +kernel
theorem d_S_init_33 : decode b_S_init 33 = .ok (.iconst 0, 1) := by decide +kernel
theorem d_S_init_34 : decode b_S_init 34 = .ok (.putfield 28, 3) := by decide +kernel
theorem d_S_init_37 : decode b_S_init 37 = .ok (.return_, 1) := by decide +kernel
theorem lin_S : Cond.instantiable "FramedLine$Sender" 6 ∈ GW := GW_at 72 (by decide +kernel) (by decide +kernel)
theorem lit_S : Cond.initialized "FramedLine$Sender" ∈ GW := GW_at 43 (by decide +kernel) (by decide +kernel)
theorem lmO_S : Cond.methodLink "FramedLine$Sender" 3 Lib.objectInit ∈ GW := GW_at 76 (by decide +kernel) (by decide +kernel)
theorem lj_S_9 : Cond.fieldLink "FramedLine$Sender" 9 "FramedLine$Sender" "loaded" "[I" ∈ GW := GW_at 77 (by decide +kernel) (by decide +kernel)
theorem lj_S_15 : Cond.fieldLink "FramedLine$Sender" 15 "FramedLine$Sender" "next" "I" ∈ GW := GW_at 78 (by decide +kernel) (by decide +kernel)
theorem lj_S_19 : Cond.fieldLink "FramedLine$Sender" 19 "FramedLine$Sender" "frameBits" "I" ∈ GW := GW_at 79 (by decide +kernel) (by decide +kernel)
theorem lj_S_22 : Cond.fieldLink "FramedLine$Sender" 22 "FramedLine$Sender" "bitsSent" "I" ∈ GW := GW_at 80 (by decide +kernel) (by decide +kernel)
theorem lj_S_25 : Cond.fieldLink "FramedLine$Sender" 25 "FramedLine$Sender" "check" "I" ∈ GW := GW_at 81 (by decide +kernel) (by decide +kernel)
theorem lj_S_28 : Cond.fieldLink "FramedLine$Sender" 28 "FramedLine$Sender" "checkOfHalfBefore" "I" ∈ GW := GW_at 82 (by decide +kernel) (by decide +kernel)
theorem d_E_init_0 : decode b_E_init 0 = .ok (.aload_n 0, 1) := by decide +kernel
theorem d_E_init_1 : decode b_E_init 1 = .ok (.invokespecial 3, 3) := by decide +kernel
theorem d_E_init_4 : decode b_E_init 4 = .ok (.aload_n 0, 1) := by decide +kernel
theorem d_E_init_5 : decode b_E_init 5 = .ok (.iconst (-1), 1) := by decide +kernel
theorem d_E_init_6 : decode b_E_init 6 = .ok (.putfield 9, 3) := by decide +kernel
theorem d_E_init_9 : decode b_E_init 9 = .ok (.aload_n 0, 1) := by decide +kernel
theorem d_E_init_10 : decode b_E_init 10 = .ok (.iconst 0, 1) := by decide +kernel
theorem d_E_init_11 : decode b_E_init 11 = .ok (.putfield 15, 3) := by decide +kernel
theorem d_E_init_14 : decode b_E_init 14 = .ok (.aload_n 0, 1) := by decide +kernel
theorem d_E_init_15 : decode b_E_init 15 = .ok (.iconst 0, 1) := by decide +kernel
theorem d_E_init_16 : decode b_E_init 16 = .ok (.putfield 19, 3) := by decide +kernel
theorem d_E_init_19 : decode b_E_init 19 = .ok (.aload_n 0, 1) := by decide +kernel
theorem d_E_init_20 : decode b_E_init 20 = .ok (.iconst 0, 1) := by decide +kernel
theorem d_E_init_21 : decode b_E_init 21 = .ok (.putfield 22, 3) := by decide +kernel
theorem d_E_init_24 : decode b_E_init 24 = .ok (.aload_n 0, 1) := by decide +kernel
theorem d_E_init_25 : decode b_E_init 25 = .ok (.iconst 0, 1) := by decide +kernel
theorem d_E_init_26 : decode b_E_init 26 = .ok (.putfield 25, 3) := by decide +kernel
theorem d_E_init_29 : decode b_E_init 29 = .ok (.aload_n 0, 1) := by decide +kernel
theorem d_E_init_30 : decode b_E_init 30 = .ok (.iconst 0, 1) := by decide +kernel
theorem d_E_init_31 : decode b_E_init 31 = .ok (.putfield 28, 3) := by decide +kernel
theorem d_E_init_34 : decode b_E_init 34 = .ok (.return_, 1) := by decide +kernel
theorem lin_E : Cond.instantiable "FramedLine$Encoder" 6 ∈ GW := GW_at 98 (by decide +kernel) (by decide +kernel)
theorem lit_E : Cond.initialized "FramedLine$Encoder" ∈ GW := GW_at 44 (by decide +kernel) (by decide +kernel)
theorem lmO_E : Cond.methodLink "FramedLine$Encoder" 3 Lib.objectInit ∈ GW := GW_at 102 (by decide +kernel) (by decide +kernel)
theorem lj_E_9 : Cond.fieldLink "FramedLine$Encoder" 9 "FramedLine$Encoder" "latestPulse" "I" ∈ GW := GW_at 103 (by decide +kernel) (by decide +kernel)
theorem lj_E_15 : Cond.fieldLink "FramedLine$Encoder" 15 "FramedLine$Encoder" "oddPulses" "Z" ∈ GW := GW_at 104 (by decide +kernel) (by decide +kernel)
theorem lj_E_19 : Cond.fieldLink "FramedLine$Encoder" 19 "FramedLine$Encoder" "zeros" "I" ∈ GW := GW_at 105 (by decide +kernel) (by decide +kernel)
theorem lj_E_22 : Cond.fieldLink "FramedLine$Encoder" 22 "FramedLine$Encoder" "threeBehind" "I" ∈ GW := GW_at 106 (by decide +kernel) (by decide +kernel)
theorem lj_E_25 : Cond.fieldLink "FramedLine$Encoder" 25 "FramedLine$Encoder" "twoBehind" "I" ∈ GW := GW_at 107 (by decide +kernel) (by decide +kernel)
theorem lj_E_28 : Cond.fieldLink "FramedLine$Encoder" 28 "FramedLine$Encoder" "oneBehind" "I" ∈ GW := GW_at 108 (by decide +kernel) (by decide +kernel)
theorem d_A_init_0 : decode b_A_init 0 = .ok (.aload_n 0, 1) := by decide +kernel
theorem d_A_init_1 : decode b_A_init 1 = .ok (.invokespecial 3, 3) := by decide +kernel
theorem d_A_init_4 : decode b_A_init 4 = .ok (.aload_n 0, 1) := by decide +kernel
theorem d_A_init_5 : decode b_A_init 5 = .ok (.bipush 8, 2) := by decide +kernel
theorem d_A_init_7 : decode b_A_init 7 = .ok (.newarray .int, 2) := by decide +kernel
theorem d_A_init_9 : decode b_A_init 9 = .ok (.putfield 9, 3) := by decide +kernel
theorem d_A_init_12 : decode b_A_init 12 = .ok (.aload_n 0, 1) := by decide +kernel
theorem d_A_init_13 : decode b_A_init 13 = .ok (.bipush 8, 2) := by decide +kernel
theorem d_A_init_15 : decode b_A_init 15 = .ok (.newarray .int, 2) := by decide +kernel
theorem d_A_init_17 : decode b_A_init 17 = .ok (.putfield 15, 3) := by decide +kernel
theorem d_A_init_20 : decode b_A_init 20 = .ok (.aload_n 0, 1) := by decide +kernel
theorem d_A_init_21 : decode b_A_init 21 = .ok (.iconst 0, 1) := by decide +kernel
theorem d_A_init_22 : decode b_A_init 22 = .ok (.putfield 18, 3) := by decide +kernel
theorem d_A_init_25 : decode b_A_init 25 = .ok (.aload_n 0, 1) := by decide +kernel
theorem d_A_init_26 : decode b_A_init 26 = .ok (.iconst 0, 1) := by decide +kernel
theorem d_A_init_27 : decode b_A_init 27 = .ok (.putfield 22, 3) := by decide +kernel
theorem d_A_init_30 : decode b_A_init 30 = .ok (.return_, 1) := by decide +kernel
theorem lin_A : Cond.instantiable "FramedLine$Arrivals" 4 ∈ GW := GW_at 123 (by decide +kernel) (by decide +kernel)
theorem lit_A : Cond.initialized "FramedLine$Arrivals" ∈ GW := GW_at 45 (by decide +kernel) (by decide +kernel)
theorem lmO_A : Cond.methodLink "FramedLine$Arrivals" 3 Lib.objectInit ∈ GW := GW_at 127 (by decide +kernel) (by decide +kernel)
theorem lj_A_9 : Cond.fieldLink "FramedLine$Arrivals" 9 "FramedLine$Arrivals" "times" "[I" ∈ GW := GW_at 128 (by decide +kernel) (by decide +kernel)
theorem lj_A_15 : Cond.fieldLink "FramedLine$Arrivals" 15 "FramedLine$Arrivals" "symbols" "[I" ∈ GW := GW_at 129 (by decide +kernel) (by decide +kernel)
theorem lj_A_18 : Cond.fieldLink "FramedLine$Arrivals" 18 "FramedLine$Arrivals" "waiting" "I" ∈ GW := GW_at 130 (by decide +kernel) (by decide +kernel)
theorem lj_A_22 : Cond.fieldLink "FramedLine$Arrivals" 22 "FramedLine$Arrivals" "slipping" "Z" ∈ GW := GW_at 132 (by decide +kernel) (by decide +kernel)
theorem d_D_init_0 : decode b_D_init 0 = .ok (.aload_n 0, 1) := by decide +kernel
theorem d_D_init_1 : decode b_D_init 1 = .ok (.invokespecial 3, 3) := by decide +kernel
theorem d_D_init_4 : decode b_D_init 4 = .ok (.aload_n 0, 1) := by decide +kernel
theorem d_D_init_5 : decode b_D_init 5 = .ok (.iconst 0, 1) := by decide +kernel
theorem d_D_init_6 : decode b_D_init 6 = .ok (.putfield 9, 3) := by decide +kernel
theorem d_D_init_9 : decode b_D_init 9 = .ok (.aload_n 0, 1) := by decide +kernel
theorem d_D_init_10 : decode b_D_init 10 = .ok (.iconst 0, 1) := by decide +kernel
theorem d_D_init_11 : decode b_D_init 11 = .ok (.putfield 15, 3) := by decide +kernel
theorem d_D_init_14 : decode b_D_init 14 = .ok (.aload_n 0, 1) := by decide +kernel
theorem d_D_init_15 : decode b_D_init 15 = .ok (.iconst 0, 1) := by decide +kernel
theorem d_D_init_16 : decode b_D_init 16 = .ok (.putfield 18, 3) := by decide +kernel
theorem d_D_init_19 : decode b_D_init 19 = .ok (.aload_n 0, 1) := by decide +kernel
theorem d_D_init_20 : decode b_D_init 20 = .ok (.iconst 0, 1) := by decide +kernel
theorem d_D_init_21 : decode b_D_init 21 = .ok (.putfield 21, 3) := by decide +kernel
theorem d_D_init_24 : decode b_D_init 24 = .ok (.aload_n 0, 1) := by decide +kernel
theorem d_D_init_25 : decode b_D_init 25 = .ok (.iconst 0, 1) := by decide +kernel
theorem d_D_init_26 : decode b_D_init 26 = .ok (.putfield 24, 3) := by decide +kernel
theorem d_D_init_29 : decode b_D_init 29 = .ok (.aload_n 0, 1) := by decide +kernel
theorem d_D_init_30 : decode b_D_init 30 = .ok (.iconst 0, 1) := by decide +kernel
theorem d_D_init_31 : decode b_D_init 31 = .ok (.putfield 27, 3) := by decide +kernel
theorem d_D_init_34 : decode b_D_init 34 = .ok (.aload_n 0, 1) := by decide +kernel
theorem d_D_init_35 : decode b_D_init 35 = .ok (.iconst 0, 1) := by decide +kernel
theorem d_D_init_36 : decode b_D_init 36 = .ok (.putfield 30, 3) := by decide +kernel
theorem d_D_init_39 : decode b_D_init 39 = .ok (.return_, 1) := by decide +kernel
theorem lin_D : Cond.instantiable "FramedLine$Decoder" 7 ∈ GW := GW_at 143 (by decide +kernel) (by decide +kernel)
theorem lit_D : Cond.initialized "FramedLine$Decoder" ∈ GW := GW_at 46 (by decide +kernel) (by decide +kernel)
theorem lmO_D : Cond.methodLink "FramedLine$Decoder" 3 Lib.objectInit ∈ GW := GW_at 147 (by decide +kernel) (by decide +kernel)
theorem lj_D_9 : Cond.fieldLink "FramedLine$Decoder" 9 "FramedLine$Decoder" "latestSymbol" "I" ∈ GW := GW_at 148 (by decide +kernel) (by decide +kernel)
theorem lj_D_15 : Cond.fieldLink "FramedLine$Decoder" 15 "FramedLine$Decoder" "latestPulse" "I" ∈ GW := GW_at 150 (by decide +kernel) (by decide +kernel)
theorem lj_D_18 : Cond.fieldLink "FramedLine$Decoder" 18 "FramedLine$Decoder" "latestV" "I" ∈ GW := GW_at 151 (by decide +kernel) (by decide +kernel)
theorem lj_D_21 : Cond.fieldLink "FramedLine$Decoder" 21 "FramedLine$Decoder" "zeros" "I" ∈ GW := GW_at 152 (by decide +kernel) (by decide +kernel)
theorem lj_D_24 : Cond.fieldLink "FramedLine$Decoder" 24 "FramedLine$Decoder" "latestBits" "I" ∈ GW := GW_at 153 (by decide +kernel) (by decide +kernel)
theorem lj_D_27 : Cond.fieldLink "FramedLine$Decoder" 27 "FramedLine$Decoder" "symbolsAhead" "I" ∈ GW := GW_at 154 (by decide +kernel) (by decide +kernel)
theorem lj_D_30 : Cond.fieldLink "FramedLine$Decoder" 30 "FramedLine$Decoder" "faults" "I" ∈ GW := GW_at 155 (by decide +kernel) (by decide +kernel)
theorem d_N_init_0 : decode b_N_init 0 = .ok (.aload_n 0, 1) := by decide +kernel
theorem d_N_init_1 : decode b_N_init 1 = .ok (.invokespecial 3, 3) := by decide +kernel
theorem d_N_init_4 : decode b_N_init 4 = .ok (.aload_n 0, 1) := by decide +kernel
theorem d_N_init_5 : decode b_N_init 5 = .ok (.new 9, 3) := by decide +kernel
theorem d_N_init_8 : decode b_N_init 8 = .ok (.dup, 1) := by decide +kernel
theorem d_N_init_9 : decode b_N_init 9 = .ok (.invokespecial 11, 3) := by decide +kernel
theorem d_N_init_12 : decode b_N_init 12 = .ok (.putfield 12, 3) := by decide +kernel
theorem d_N_init_15 : decode b_N_init 15 = .ok (.aload_n 0, 1) := by decide +kernel
theorem d_N_init_16 : decode b_N_init 16 = .ok (.new 18, 3) := by decide +kernel
theorem d_N_init_19 : decode b_N_init 19 = .ok (.dup, 1) := by decide +kernel
theorem d_N_init_20 : decode b_N_init 20 = .ok (.invokespecial 20, 3) := by decide +kernel
theorem d_N_init_23 : decode b_N_init 23 = .ok (.putfield 21, 3) := by decide +kernel
theorem d_N_init_26 : decode b_N_init 26 = .ok (.aload_n 0, 1) := by decide +kernel
theorem d_N_init_27 : decode b_N_init 27 = .ok (.new 25, 3) := by decide +kernel
theorem d_N_init_30 : decode b_N_init 30 = .ok (.dup, 1) := by decide +kernel
theorem d_N_init_31 : decode b_N_init 31 = .ok (.invokespecial 27, 3) := by decide +kernel
theorem d_N_init_34 : decode b_N_init 34 = .ok (.putfield 28, 3) := by decide +kernel
theorem d_N_init_37 : decode b_N_init 37 = .ok (.aload_n 0, 1) := by decide +kernel
theorem d_N_init_38 : decode b_N_init 38 = .ok (.new 32, 3) := by decide +kernel
theorem d_N_init_41 : decode b_N_init 41 = .ok (.dup, 1) := by decide +kernel
theorem d_N_init_42 : decode b_N_init 42 = .ok (.invokespecial 34, 3) := by decide +kernel
theorem d_N_init_45 : decode b_N_init 45 = .ok (.putfield 35, 3) := by decide +kernel
theorem d_N_init_48 : decode b_N_init 48 = .ok (.aload_n 0, 1) := by decide +kernel
theorem d_N_init_49 : decode b_N_init 49 = .ok (.new 39, 3) := by decide +kernel
theorem d_N_init_52 : decode b_N_init 52 = .ok (.dup, 1) := by decide +kernel
theorem d_N_init_53 : decode b_N_init 53 = .ok (.invokespecial 41, 3) := by decide +kernel
theorem d_N_init_56 : decode b_N_init 56 = .ok (.putfield 42, 3) := by decide +kernel
theorem d_N_init_59 : decode b_N_init 59 = .ok (.return_, 1) := by decide +kernel
theorem lin_N : Cond.instantiable "FramedLine$End" 5 ∈ GW := GW_at 66 (by decide +kernel) (by decide +kernel)
theorem lit_N : Cond.initialized "FramedLine$End" ∈ GW := GW_at 42 (by decide +kernel) (by decide +kernel)
theorem lmO_N : Cond.methodLink "FramedLine$End" 3 Lib.objectInit ∈ GW := GW_at 70 (by decide +kernel) (by decide +kernel)
theorem lkj_N_9 : Cond.classLink "FramedLine$End" 9 "FramedLine$Sender" ∈ GW := GW_at 71 (by decide +kernel) (by decide +kernel)
theorem lmj_N_11 : gLI "FramedLine$End" 11 y_S_init b_S_init := ⟨⟨GW_at 75 (by decide +kernel) (by decide +kernel), GW_at 43 (by decide +kernel) (by decide +kernel), by decide +kernel⟩, GW_at 73 (by decide +kernel) (by decide +kernel), GW_at 74 (by decide +kernel) (by decide +kernel), rfl⟩
theorem lj_N_12 : Cond.fieldLink "FramedLine$End" 12 "FramedLine$End" "sender" "LFramedLine$Sender;" ∈ GW := GW_at 267 (by decide +kernel) (by decide +kernel)
theorem lkj_N_18 : Cond.classLink "FramedLine$End" 18 "FramedLine$Encoder" ∈ GW := GW_at 97 (by decide +kernel) (by decide +kernel)
theorem lmj_N_20 : gLI "FramedLine$End" 20 y_E_init b_E_init := ⟨⟨GW_at 101 (by decide +kernel) (by decide +kernel), GW_at 44 (by decide +kernel) (by decide +kernel), by decide +kernel⟩, GW_at 99 (by decide +kernel) (by decide +kernel), GW_at 100 (by decide +kernel) (by decide +kernel), rfl⟩
theorem lj_N_21 : Cond.fieldLink "FramedLine$End" 21 "FramedLine$End" "encoder" "LFramedLine$Encoder;" ∈ GW := GW_at 269 (by decide +kernel) (by decide +kernel)
theorem lkj_N_25 : Cond.classLink "FramedLine$End" 25 "FramedLine$Arrivals" ∈ GW := GW_at 122 (by decide +kernel) (by decide +kernel)
theorem lmj_N_27 : gLI "FramedLine$End" 27 y_A_init b_A_init := ⟨⟨GW_at 126 (by decide +kernel) (by decide +kernel), GW_at 45 (by decide +kernel) (by decide +kernel), by decide +kernel⟩, GW_at 124 (by decide +kernel) (by decide +kernel), GW_at 125 (by decide +kernel) (by decide +kernel), rfl⟩
theorem lj_N_28 : Cond.fieldLink "FramedLine$End" 28 "FramedLine$End" "arrivals" "LFramedLine$Arrivals;" ∈ GW := GW_at 270 (by decide +kernel) (by decide +kernel)
theorem lkj_N_32 : Cond.classLink "FramedLine$End" 32 "FramedLine$Decoder" ∈ GW := GW_at 142 (by decide +kernel) (by decide +kernel)
theorem lmj_N_34 : gLI "FramedLine$End" 34 y_D_init b_D_init := ⟨⟨GW_at 146 (by decide +kernel) (by decide +kernel), GW_at 46 (by decide +kernel) (by decide +kernel), by decide +kernel⟩, GW_at 144 (by decide +kernel) (by decide +kernel), GW_at 145 (by decide +kernel) (by decide +kernel), rfl⟩
theorem lj_N_35 : Cond.fieldLink "FramedLine$End" 35 "FramedLine$End" "decoder" "LFramedLine$Decoder;" ∈ GW := GW_at 272 (by decide +kernel) (by decide +kernel)
theorem lkj_N_39 : Cond.classLink "FramedLine$End" 39 "FramedLine$Receiver" ∈ GW := GW_at 172 (by decide +kernel) (by decide +kernel)
theorem lmj_N_41 : gLI "FramedLine$End" 41 y_R_init b_R_init := ⟨⟨GW_at 176 (by decide +kernel) (by decide +kernel), GW_at 47 (by decide +kernel) (by decide +kernel), by decide +kernel⟩, GW_at 174 (by decide +kernel) (by decide +kernel), GW_at 175 (by decide +kernel) (by decide +kernel), rfl⟩
theorem lj_N_42 : Cond.fieldLink "FramedLine$End" 42 "FramedLine$End" "receiver" "LFramedLine$Receiver;" ∈ GW := GW_at 274 (by decide +kernel) (by decide +kernel)
theorem d_F_init_0 : decode b_F_init 0 = .ok (.aload_n 0, 1) := by decide +kernel
theorem d_F_init_1 : decode b_F_init 1 = .ok (.invokespecial 1, 3) := by decide +kernel
theorem d_F_init_4 : decode b_F_init 4 = .ok (.aload_n 0, 1) := by decide +kernel
theorem d_F_init_5 : decode b_F_init 5 = .ok (.new 7, 3) := by decide +kernel
theorem d_F_init_8 : decode b_F_init 8 = .ok (.dup, 1) := by decide +kernel
theorem d_F_init_9 : decode b_F_init 9 = .ok (.invokespecial 9, 3) := by decide +kernel
theorem d_F_init_12 : decode b_F_init 12 = .ok (.putfield 10, 3) := by decide +kernel
theorem d_F_init_15 : decode b_F_init 15 = .ok (.aload_n 0, 1) := by decide +kernel
theorem d_F_init_16 : decode b_F_init 16 = .ok (.new 7, 3) := by decide +kernel
theorem d_F_init_19 : decode b_F_init 19 = .ok (.dup, 1) := by decide +kernel
theorem d_F_init_20 : decode b_F_init 20 = .ok (.invokespecial 9, 3) := by decide +kernel
theorem d_F_init_23 : decode b_F_init 23 = .ok (.putfield 16, 3) := by decide +kernel
theorem d_F_init_26 : decode b_F_init 26 = .ok (.aload_n 0, 1) := by decide +kernel
theorem d_F_init_27 : decode b_F_init 27 = .ok (.iconst 0, 1) := by decide +kernel
theorem d_F_init_28 : decode b_F_init 28 = .ok (.putfield 19, 3) := by decide +kernel
theorem d_F_init_31 : decode b_F_init 31 = .ok (.return_, 1) := by decide +kernel
theorem lin_F : Cond.instantiable "FramedLine" 3 ∈ GW := GW_at 58 (by decide +kernel) (by decide +kernel)
theorem lit_F : Cond.initialized "FramedLine" ∈ GW := GW_at 41 (by decide +kernel) (by decide +kernel)
theorem lmO_F : Cond.methodLink "FramedLine" 1 Lib.objectInit ∈ GW := GW_at 62 (by decide +kernel) (by decide +kernel)
theorem lkj_F_7 : Cond.classLink "FramedLine" 7 "FramedLine$End" ∈ GW := GW_at 65 (by decide +kernel) (by decide +kernel)
theorem lmj_F_9 : gLI "FramedLine" 9 y_N_init b_N_init := ⟨⟨GW_at 69 (by decide +kernel) (by decide +kernel), GW_at 42 (by decide +kernel) (by decide +kernel), by decide +kernel⟩, GW_at 67 (by decide +kernel) (by decide +kernel), GW_at 68 (by decide +kernel) (by decide +kernel), rfl⟩
theorem lj_F_10 : Cond.fieldLink "FramedLine" 10 "FramedLine" "zero" "LFramedLine$End;" ∈ GW := GW_at 287 (by decide +kernel) (by decide +kernel)
theorem lj_F_16 : Cond.fieldLink "FramedLine" 16 "FramedLine" "one" "LFramedLine$End;" ∈ GW := GW_at 288 (by decide +kernel) (by decide +kernel)
theorem lj_F_19 : Cond.fieldLink "FramedLine" 19 "FramedLine" "passed" "I" ∈ GW := GW_at 289 (by decide +kernel) (by decide +kernel)
theorem d_M_init_0 : decode b_M_init 0 = .ok (.aload_n 0, 1) := by decide +kernel
theorem d_M_init_1 : decode b_M_init 1 = .ok (.invokespecial 1, 3) := by decide +kernel
theorem d_M_init_4 : decode b_M_init 4 = .ok (.aload_n 0, 1) := by decide +kernel
theorem d_M_init_5 : decode b_M_init 5 = .ok (.bipush 8, 2) := by decide +kernel
theorem d_M_init_7 : decode b_M_init 7 = .ok (.newarray .int, 2) := by decide +kernel
theorem d_M_init_9 : decode b_M_init 9 = .ok (.putfield 7, 3) := by decide +kernel
theorem d_M_init_12 : decode b_M_init 12 = .ok (.aload_n 0, 1) := by decide +kernel
theorem d_M_init_13 : decode b_M_init 13 = .ok (.iconst 2, 1) := by decide +kernel
theorem d_M_init_14 : decode b_M_init 14 = .ok (.newarray .int, 2) := by decide +kernel
theorem d_M_init_16 : decode b_M_init 16 = .ok (.putfield 13, 3) := by decide +kernel
theorem d_M_init_19 : decode b_M_init 19 = .ok (.aload_n 0, 1) := by decide +kernel
theorem d_M_init_20 : decode b_M_init 20 = .ok (.iconst 2, 1) := by decide +kernel
theorem d_M_init_21 : decode b_M_init 21 = .ok (.newarray .int, 2) := by decide +kernel
theorem d_M_init_23 : decode b_M_init 23 = .ok (.putfield 16, 3) := by decide +kernel
theorem d_M_init_26 : decode b_M_init 26 = .ok (.aload_n 0, 1) := by decide +kernel
theorem d_M_init_27 : decode b_M_init 27 = .ok (.iconst 2, 1) := by decide +kernel
theorem d_M_init_28 : decode b_M_init 28 = .ok (.newarray .int, 2) := by decide +kernel
theorem d_M_init_30 : decode b_M_init 30 = .ok (.putfield 19, 3) := by decide +kernel
theorem d_M_init_33 : decode b_M_init 33 = .ok (.aload_n 0, 1) := by decide +kernel
theorem d_M_init_34 : decode b_M_init 34 = .ok (.iconst 2, 1) := by decide +kernel
theorem d_M_init_35 : decode b_M_init 35 = .ok (.newarray .int, 2) := by decide +kernel
theorem d_M_init_37 : decode b_M_init 37 = .ok (.putfield 22, 3) := by decide +kernel
theorem d_M_init_40 : decode b_M_init 40 = .ok (.aload_n 0, 1) := by decide +kernel
theorem d_M_init_41 : decode b_M_init 41 = .ok (.iconst 2, 1) := by decide +kernel
theorem d_M_init_42 : decode b_M_init 42 = .ok (.newarray .int, 2) := by decide +kernel
theorem d_M_init_44 : decode b_M_init 44 = .ok (.putfield 25, 3) := by decide +kernel
theorem d_M_init_47 : decode b_M_init 47 = .ok (.aload_n 0, 1) := by decide +kernel
theorem d_M_init_48 : decode b_M_init 48 = .ok (.iconst 2, 1) := by decide +kernel
theorem d_M_init_49 : decode b_M_init 49 = .ok (.newarray .int, 2) := by decide +kernel
theorem d_M_init_51 : decode b_M_init 51 = .ok (.putfield 28, 3) := by decide +kernel
theorem d_M_init_54 : decode b_M_init 54 = .ok (.aload_n 0, 1) := by decide +kernel
theorem d_M_init_55 : decode b_M_init 55 = .ok (.iconst 2, 1) := by decide +kernel
theorem d_M_init_56 : decode b_M_init 56 = .ok (.newarray .int, 2) := by decide +kernel
theorem d_M_init_58 : decode b_M_init 58 = .ok (.putfield 31, 3) := by decide +kernel
theorem d_M_init_61 : decode b_M_init 61 = .ok (.aload_n 0, 1) := by decide +kernel
theorem d_M_init_62 : decode b_M_init 62 = .ok (.iconst 2, 1) := by decide +kernel
theorem d_M_init_63 : decode b_M_init 63 = .ok (.newarray .int, 2) := by decide +kernel
theorem d_M_init_65 : decode b_M_init 65 = .ok (.putfield 34, 3) := by decide +kernel
theorem d_M_init_68 : decode b_M_init 68 = .ok (.aload_n 0, 1) := by decide +kernel
theorem d_M_init_69 : decode b_M_init 69 = .ok (.iconst 2, 1) := by decide +kernel
theorem d_M_init_70 : decode b_M_init 70 = .ok (.newarray .boolean, 2) := by decide +kernel
theorem d_M_init_72 : decode b_M_init 72 = .ok (.putfield 37, 3) := by decide +kernel
theorem d_M_init_75 : decode b_M_init 75 = .ok (.aload_n 0, 1) := by decide +kernel
theorem d_M_init_76 : decode b_M_init 76 = .ok (.iconst 2, 1) := by decide +kernel
theorem d_M_init_77 : decode b_M_init 77 = .ok (.newarray .int, 2) := by decide +kernel
theorem d_M_init_79 : decode b_M_init 79 = .ok (.putfield 41, 3) := by decide +kernel
theorem d_M_init_82 : decode b_M_init 82 = .ok (.aload_n 0, 1) := by decide +kernel
theorem d_M_init_83 : decode b_M_init 83 = .ok (.bipush 16, 2) := by decide +kernel
theorem d_M_init_85 : decode b_M_init 85 = .ok (.newarray .int, 2) := by decide +kernel
theorem d_M_init_87 : decode b_M_init 87 = .ok (.putfield 44, 3) := by decide +kernel
theorem d_M_init_90 : decode b_M_init 90 = .ok (.aload_n 0, 1) := by decide +kernel
theorem d_M_init_91 : decode b_M_init 91 = .ok (.bipush 16, 2) := by decide +kernel
theorem d_M_init_93 : decode b_M_init 93 = .ok (.newarray .int, 2) := by decide +kernel
theorem d_M_init_95 : decode b_M_init 95 = .ok (.putfield 47, 3) := by decide +kernel
theorem d_M_init_98 : decode b_M_init 98 = .ok (.aload_n 0, 1) := by decide +kernel
theorem d_M_init_99 : decode b_M_init 99 = .ok (.iconst 2, 1) := by decide +kernel
theorem d_M_init_100 : decode b_M_init 100 = .ok (.newarray .boolean, 2) := by decide +kernel
theorem d_M_init_102 : decode b_M_init 102 = .ok (.putfield 50, 3) := by decide +kernel
theorem d_M_init_105 : decode b_M_init 105 = .ok (.aload_n 0, 1) := by decide +kernel
theorem d_M_init_106 : decode b_M_init 106 = .ok (.iconst 2, 1) := by decide +kernel
theorem d_M_init_107 : decode b_M_init 107 = .ok (.newarray .int, 2) := by decide +kernel
theorem d_M_init_109 : decode b_M_init 109 = .ok (.putfield 53, 3) := by decide +kernel
theorem d_M_init_112 : decode b_M_init 112 = .ok (.aload_n 0, 1) := by decide +kernel
theorem d_M_init_113 : decode b_M_init 113 = .ok (.iconst 2, 1) := by decide +kernel
theorem d_M_init_114 : decode b_M_init 114 = .ok (.newarray .int, 2) := by decide +kernel
theorem d_M_init_116 : decode b_M_init 116 = .ok (.putfield 56, 3) := by decide +kernel
theorem d_M_init_119 : decode b_M_init 119 = .ok (.aload_n 0, 1) := by decide +kernel
theorem d_M_init_120 : decode b_M_init 120 = .ok (.bipush 6, 2) := by decide +kernel
theorem d_M_init_122 : decode b_M_init 122 = .ok (.newarray .int, 2) := by decide +kernel
theorem d_M_init_124 : decode b_M_init 124 = .ok (.putfield 59, 3) := by decide +kernel
theorem d_M_init_127 : decode b_M_init 127 = .ok (.aload_n 0, 1) := by decide +kernel
theorem d_M_init_128 : decode b_M_init 128 = .ok (.bipush 6, 2) := by decide +kernel
theorem d_M_init_130 : decode b_M_init 130 = .ok (.newarray .boolean, 2) := by decide +kernel
theorem d_M_init_132 : decode b_M_init 132 = .ok (.putfield 62, 3) := by decide +kernel
theorem d_M_init_135 : decode b_M_init 135 = .ok (.aload_n 0, 1) := by decide +kernel
theorem d_M_init_136 : decode b_M_init 136 = .ok (.iconst 2, 1) := by decide +kernel
theorem d_M_init_137 : decode b_M_init 137 = .ok (.newarray .int, 2) := by decide +kernel
theorem d_M_init_139 : decode b_M_init 139 = .ok (.putfield 65, 3) := by decide +kernel
theorem d_M_init_142 : decode b_M_init 142 = .ok (.aload_n 0, 1) := by decide +kernel
theorem d_M_init_143 : decode b_M_init 143 = .ok (.iconst 2, 1) := by decide +kernel
theorem d_M_init_144 : decode b_M_init 144 = .ok (.newarray .int, 2) := by decide +kernel
theorem d_M_init_146 : decode b_M_init 146 = .ok (.putfield 68, 3) := by decide +kernel
theorem d_M_init_149 : decode b_M_init 149 = .ok (.aload_n 0, 1) := by decide +kernel
theorem d_M_init_150 : decode b_M_init 150 = .ok (.iconst 2, 1) := by decide +kernel
theorem d_M_init_151 : decode b_M_init 151 = .ok (.newarray .int, 2) := by decide +kernel
theorem d_M_init_153 : decode b_M_init 153 = .ok (.putfield 71, 3) := by decide +kernel
theorem d_M_init_156 : decode b_M_init 156 = .ok (.aload_n 0, 1) := by decide +kernel
theorem d_M_init_157 : decode b_M_init 157 = .ok (.iconst 2, 1) := by decide +kernel
theorem d_M_init_158 : decode b_M_init 158 = .ok (.newarray .int, 2) := by decide +kernel
theorem d_M_init_160 : decode b_M_init 160 = .ok (.putfield 74, 3) := by decide +kernel
theorem d_M_init_163 : decode b_M_init 163 = .ok (.aload_n 0, 1) := by decide +kernel
theorem d_M_init_164 : decode b_M_init 164 = .ok (.iconst 2, 1) := by decide +kernel
theorem d_M_init_165 : decode b_M_init 165 = .ok (.newarray .int, 2) := by decide +kernel
theorem d_M_init_167 : decode b_M_init 167 = .ok (.putfield 77, 3) := by decide +kernel
theorem d_M_init_170 : decode b_M_init 170 = .ok (.aload_n 0, 1) := by decide +kernel
theorem d_M_init_171 : decode b_M_init 171 = .ok (.iconst 2, 1) := by decide +kernel
theorem d_M_init_172 : decode b_M_init 172 = .ok (.newarray .int, 2) := by decide +kernel
theorem d_M_init_174 : decode b_M_init 174 = .ok (.putfield 80, 3) := by decide +kernel
theorem d_M_init_177 : decode b_M_init 177 = .ok (.aload_n 0, 1) := by decide +kernel
theorem d_M_init_178 : decode b_M_init 178 = .ok (.iconst 2, 1) := by decide +kernel
theorem d_M_init_179 : decode b_M_init 179 = .ok (.newarray .int, 2) := by decide +kernel
theorem d_M_init_181 : decode b_M_init 181 = .ok (.putfield 83, 3) := by decide +kernel
theorem d_M_init_184 : decode b_M_init 184 = .ok (.aload_n 0, 1) := by decide +kernel
theorem d_M_init_185 : decode b_M_init 185 = .ok (.iconst 2, 1) := by decide +kernel
theorem d_M_init_186 : decode b_M_init 186 = .ok (.newarray .boolean, 2) := by decide +kernel
theorem d_M_init_188 : decode b_M_init 188 = .ok (.putfield 86, 3) := by decide +kernel
theorem d_M_init_191 : decode b_M_init 191 = .ok (.aload_n 0, 1) := by decide +kernel
theorem d_M_init_192 : decode b_M_init 192 = .ok (.iconst 2, 1) := by decide +kernel
theorem d_M_init_193 : decode b_M_init 193 = .ok (.newarray .int, 2) := by decide +kernel
theorem d_M_init_195 : decode b_M_init 195 = .ok (.putfield 89, 3) := by decide +kernel
theorem d_M_init_198 : decode b_M_init 198 = .ok (.aload_n 0, 1) := by decide +kernel
theorem d_M_init_199 : decode b_M_init 199 = .ok (.iconst 2, 1) := by decide +kernel
theorem d_M_init_200 : decode b_M_init 200 = .ok (.newarray .boolean, 2) := by decide +kernel
theorem d_M_init_202 : decode b_M_init 202 = .ok (.putfield 92, 3) := by decide +kernel
theorem d_M_init_205 : decode b_M_init 205 = .ok (.aload_n 0, 1) := by decide +kernel
theorem d_M_init_206 : decode b_M_init 206 = .ok (.iconst 2, 1) := by decide +kernel
theorem d_M_init_207 : decode b_M_init 207 = .ok (.newarray .int, 2) := by decide +kernel
theorem d_M_init_209 : decode b_M_init 209 = .ok (.putfield 95, 3) := by decide +kernel
theorem d_M_init_212 : decode b_M_init 212 = .ok (.aload_n 0, 1) := by decide +kernel
theorem d_M_init_213 : decode b_M_init 213 = .ok (.iconst 2, 1) := by decide +kernel
theorem d_M_init_214 : decode b_M_init 214 = .ok (.newarray .boolean, 2) := by decide +kernel
theorem d_M_init_216 : decode b_M_init 216 = .ok (.putfield 98, 3) := by decide +kernel
theorem d_M_init_219 : decode b_M_init 219 = .ok (.aload_n 0, 1) := by decide +kernel
theorem d_M_init_220 : decode b_M_init 220 = .ok (.iconst 2, 1) := by decide +kernel
theorem d_M_init_221 : decode b_M_init 221 = .ok (.newarray .boolean, 2) := by decide +kernel
theorem d_M_init_223 : decode b_M_init 223 = .ok (.putfield 101, 3) := by decide +kernel
theorem d_M_init_226 : decode b_M_init 226 = .ok (.aload_n 0, 1) := by decide +kernel
theorem d_M_init_227 : decode b_M_init 227 = .ok (.iconst 2, 1) := by decide +kernel
theorem d_M_init_228 : decode b_M_init 228 = .ok (.newarray .int, 2) := by decide +kernel
theorem d_M_init_230 : decode b_M_init 230 = .ok (.putfield 104, 3) := by decide +kernel
theorem d_M_init_233 : decode b_M_init 233 = .ok (.aload_n 0, 1) := by decide +kernel
theorem d_M_init_234 : decode b_M_init 234 = .ok (.iconst 2, 1) := by decide +kernel
theorem d_M_init_235 : decode b_M_init 235 = .ok (.newarray .int, 2) := by decide +kernel
theorem d_M_init_237 : decode b_M_init 237 = .ok (.putfield 107, 3) := by decide +kernel
theorem d_M_init_240 : decode b_M_init 240 = .ok (.aload_n 0, 1) := by decide +kernel
theorem d_M_init_241 : decode b_M_init 241 = .ok (.iconst 2, 1) := by decide +kernel
theorem d_M_init_242 : decode b_M_init 242 = .ok (.newarray .int, 2) := by decide +kernel
theorem d_M_init_244 : decode b_M_init 244 = .ok (.putfield 110, 3) := by decide +kernel
theorem d_M_init_247 : decode b_M_init 247 = .ok (.aload_n 0, 1) := by decide +kernel
theorem d_M_init_248 : decode b_M_init 248 = .ok (.iconst 2, 1) := by decide +kernel
theorem d_M_init_249 : decode b_M_init 249 = .ok (.newarray .int, 2) := by decide +kernel
theorem d_M_init_251 : decode b_M_init 251 = .ok (.putfield 113, 3) := by decide +kernel
theorem d_M_init_254 : decode b_M_init 254 = .ok (.aload_n 0, 1) := by decide +kernel
theorem d_M_init_255 : decode b_M_init 255 = .ok (.iconst 2, 1) := by decide +kernel
theorem d_M_init_256 : decode b_M_init 256 = .ok (.newarray .boolean, 2) := by decide +kernel
theorem d_M_init_258 : decode b_M_init 258 = .ok (.putfield 116, 3) := by decide +kernel
theorem d_M_init_261 : decode b_M_init 261 = .ok (.aload_n 0, 1) := by decide +kernel
theorem d_M_init_262 : decode b_M_init 262 = .ok (.iconst 2, 1) := by decide +kernel
theorem d_M_init_263 : decode b_M_init 263 = .ok (.newarray .int, 2) := by decide +kernel
theorem d_M_init_265 : decode b_M_init 265 = .ok (.putfield 119, 3) := by decide +kernel
theorem d_M_init_268 : decode b_M_init 268 = .ok (.aload_n 0, 1) := by decide +kernel
theorem d_M_init_269 : decode b_M_init 269 = .ok (.iconst 2, 1) := by decide +kernel
theorem d_M_init_270 : decode b_M_init 270 = .ok (.newarray .int, 2) := by decide +kernel
theorem d_M_init_272 : decode b_M_init 272 = .ok (.putfield 122, 3) := by decide +kernel
theorem d_M_init_275 : decode b_M_init 275 = .ok (.aload_n 0, 1) := by decide +kernel
theorem d_M_init_276 : decode b_M_init 276 = .ok (.iconst 2, 1) := by decide +kernel
theorem d_M_init_277 : decode b_M_init 277 = .ok (.newarray .boolean, 2) := by decide +kernel
theorem d_M_init_279 : decode b_M_init 279 = .ok (.putfield 125, 3) := by decide +kernel
theorem d_M_init_282 : decode b_M_init 282 = .ok (.aload_n 0, 1) := by decide +kernel
theorem d_M_init_283 : decode b_M_init 283 = .ok (.iconst 2, 1) := by decide +kernel
theorem d_M_init_284 : decode b_M_init 284 = .ok (.newarray .int, 2) := by decide +kernel
theorem d_M_init_286 : decode b_M_init 286 = .ok (.putfield 128, 3) := by decide +kernel
theorem d_M_init_289 : decode b_M_init 289 = .ok (.aload_n 0, 1) := by decide +kernel
theorem d_M_init_290 : decode b_M_init 290 = .ok (.iconst 4, 1) := by decide +kernel
theorem d_M_init_291 : decode b_M_init 291 = .ok (.newarray .boolean, 2) := by decide +kernel
theorem d_M_init_293 : decode b_M_init 293 = .ok (.putfield 131, 3) := by decide +kernel
theorem d_M_init_296 : decode b_M_init 296 = .ok (.aload_n 0, 1) := by decide +kernel
theorem d_M_init_297 : decode b_M_init 297 = .ok (.bipush 10, 2) := by decide +kernel
theorem d_M_init_299 : decode b_M_init 299 = .ok (.newarray .int, 2) := by decide +kernel
theorem d_M_init_301 : decode b_M_init 301 = .ok (.putfield 134, 3) := by decide +kernel
theorem d_M_init_304 : decode b_M_init 304 = .ok (.return_, 1) := by decide +kernel
theorem lin_M : Cond.instantiable "FramedLineModel" 44 ∈ GW := GW_at 629 (by decide +kernel) (by decide +kernel)
theorem lit_M : Cond.initialized "FramedLineModel" ∈ GW := GW_at 51 (by decide +kernel) (by decide +kernel)
theorem lmO_M : Cond.methodLink "FramedLineModel" 1 Lib.objectInit ∈ GW := GW_at 633 (by decide +kernel) (by decide +kernel)
theorem lj_M_7 : Cond.fieldLink "FramedLineModel" 7 "FramedLineModel" "loaded" "[I" ∈ GW := GW_at 636 (by decide +kernel) (by decide +kernel)
theorem lj_M_13 : Cond.fieldLink "FramedLineModel" 13 "FramedLineModel" "word" "[I" ∈ GW := GW_at 637 (by decide +kernel) (by decide +kernel)
theorem lj_M_16 : Cond.fieldLink "FramedLineModel" 16 "FramedLineModel" "number" "[I" ∈ GW := GW_at 638 (by decide +kernel) (by decide +kernel)
theorem lj_M_19 : Cond.fieldLink "FramedLineModel" 19 "FramedLineModel" "gone" "[I" ∈ GW := GW_at 639 (by decide +kernel) (by decide +kernel)
theorem lj_M_22 : Cond.fieldLink "FramedLineModel" 22 "FramedLineModel" "check" "[I" ∈ GW := GW_at 640 (by decide +kernel) (by decide +kernel)
theorem lj_M_25 : Cond.fieldLink "FramedLineModel" 25 "FramedLineModel" "before" "[I" ∈ GW := GW_at 641 (by decide +kernel) (by decide +kernel)
theorem lj_M_28 : Cond.fieldLink "FramedLineModel" 28 "FramedLineModel" "ahead" "[I" ∈ GW := GW_at 642 (by decide +kernel) (by decide +kernel)
theorem lj_M_31 : Cond.fieldLink "FramedLineModel" 31 "FramedLineModel" "group" "[I" ∈ GW := GW_at 643 (by decide +kernel) (by decide +kernel)
theorem lj_M_34 : Cond.fieldLink "FramedLineModel" 34 "FramedLineModel" "pulse" "[I" ∈ GW := GW_at 644 (by decide +kernel) (by decide +kernel)
theorem lj_M_37 : Cond.fieldLink "FramedLineModel" 37 "FramedLineModel" "odd" "[Z" ∈ GW := GW_at 645 (by decide +kernel) (by decide +kernel)
theorem lj_M_41 : Cond.fieldLink "FramedLineModel" 41 "FramedLineModel" "many" "[I" ∈ GW := GW_at 646 (by decide +kernel) (by decide +kernel)
theorem lj_M_44 : Cond.fieldLink "FramedLineModel" 44 "FramedLineModel" "when" "[I" ∈ GW := GW_at 647 (by decide +kernel) (by decide +kernel)
theorem lj_M_47 : Cond.fieldLink "FramedLineModel" 47 "FramedLineModel" "what" "[I" ∈ GW := GW_at 648 (by decide +kernel) (by decide +kernel)
theorem lj_M_50 : Cond.fieldLink "FramedLineModel" 50 "FramedLineModel" "slips" "[Z" ∈ GW := GW_at 649 (by decide +kernel) (by decide +kernel)
theorem lj_M_53 : Cond.fieldLink "FramedLineModel" 53 "FramedLineModel" "came" "[I" ∈ GW := GW_at 650 (by decide +kernel) (by decide +kernel)
theorem lj_M_56 : Cond.fieldLink "FramedLineModel" 56 "FramedLineModel" "latest" "[I" ∈ GW := GW_at 651 (by decide +kernel) (by decide +kernel)
theorem lj_M_59 : Cond.fieldLink "FramedLineModel" 59 "FramedLineModel" "back" "[I" ∈ GW := GW_at 652 (by decide +kernel) (by decide +kernel)
theorem lj_M_62 : Cond.fieldLink "FramedLineModel" 62 "FramedLineModel" "wasV" "[Z" ∈ GW := GW_at 653 (by decide +kernel) (by decide +kernel)
theorem lj_M_65 : Cond.fieldLink "FramedLineModel" 65 "FramedLineModel" "heard" "[I" ∈ GW := GW_at 654 (by decide +kernel) (by decide +kernel)
theorem lj_M_68 : Cond.fieldLink "FramedLineModel" 68 "FramedLineModel" "lastV" "[I" ∈ GW := GW_at 655 (by decide +kernel) (by decide +kernel)
theorem lj_M_71 : Cond.fieldLink "FramedLineModel" 71 "FramedLineModel" "zeros" "[I" ∈ GW := GW_at 656 (by decide +kernel) (by decide +kernel)
theorem lj_M_74 : Cond.fieldLink "FramedLineModel" 74 "FramedLineModel" "mode" "[I" ∈ GW := GW_at 657 (by decide +kernel) (by decide +kernel)
theorem lj_M_77 : Cond.fieldLink "FramedLineModel" 77 "FramedLineModel" "since" "[I" ∈ GW := GW_at 658 (by decide +kernel) (by decide +kernel)
theorem lj_M_80 : Cond.fieldLink "FramedLineModel" 80 "FramedLineModel" "bits" "[I" ∈ GW := GW_at 659 (by decide +kernel) (by decide +kernel)
theorem lj_M_83 : Cond.fieldLink "FramedLineModel" 83 "FramedLineModel" "at" "[I" ∈ GW := GW_at 660 (by decide +kernel) (by decide +kernel)
theorem lj_M_86 : Cond.fieldLink "FramedLineModel" 86 "FramedLineModel" "even" "[Z" ∈ GW := GW_at 661 (by decide +kernel) (by decide +kernel)
theorem lj_M_89 : Cond.fieldLink "FramedLineModel" 89 "FramedLineModel" "wrongs" "[I" ∈ GW := GW_at 662 (by decide +kernel) (by decide +kernel)
theorem lj_M_92 : Cond.fieldLink "FramedLineModel" 92 "FramedLineModel" "any" "[Z" ∈ GW := GW_at 663 (by decide +kernel) (by decide +kernel)
theorem lj_M_95 : Cond.fieldLink "FramedLineModel" 95 "FramedLineModel" "frame" "[I" ∈ GW := GW_at 664 (by decide +kernel) (by decide +kernel)
theorem lj_M_98 : Cond.fieldLink "FramedLineModel" 98 "FramedLineModel" "alarms" "[Z" ∈ GW := GW_at 665 (by decide +kernel) (by decide +kernel)
theorem lj_M_101 : Cond.fieldLink "FramedLineModel" 101 "FramedLineModel" "known" "[Z" ∈ GW := GW_at 666 (by decide +kernel) (by decide +kernel)
theorem lj_M_104 : Cond.fieldLink "FramedLineModel" 104 "FramedLineModel" "place" "[I" ∈ GW := GW_at 667 (by decide +kernel) (by decide +kernel)
theorem lj_M_107 : Cond.fieldLink "FramedLineModel" 107 "FramedLineModel" "firsts" "[I" ∈ GW := GW_at 668 (by decide +kernel) (by decide +kernel)
theorem lj_M_110 : Cond.fieldLink "FramedLineModel" 110 "FramedLineModel" "odds" "[I" ∈ GW := GW_at 669 (by decide +kernel) (by decide +kernel)
theorem lj_M_113 : Cond.fieldLink "FramedLineModel" 113 "FramedLineModel" "misses" "[I" ∈ GW := GW_at 670 (by decide +kernel) (by decide +kernel)
theorem lj_M_116 : Cond.fieldLink "FramedLineModel" 116 "FramedLineModel" "whole" "[Z" ∈ GW := GW_at 671 (by decide +kernel) (by decide +kernel)
theorem lj_M_119 : Cond.fieldLink "FramedLineModel" 119 "FramedLineModel" "sum" "[I" ∈ GW := GW_at 672 (by decide +kernel) (by decide +kernel)
theorem lj_M_122 : Cond.fieldLink "FramedLineModel" 122 "FramedLineModel" "told" "[I" ∈ GW := GW_at 673 (by decide +kernel) (by decide +kernel)
theorem lj_M_125 : Cond.fieldLink "FramedLineModel" 125 "FramedLineModel" "wholeBefore" "[Z" ∈ GW := GW_at 674 (by decide +kernel) (by decide +kernel)
theorem lj_M_128 : Cond.fieldLink "FramedLineModel" 128 "FramedLineModel" "sumBefore" "[I" ∈ GW := GW_at 675 (by decide +kernel) (by decide +kernel)
theorem lj_M_131 : Cond.fieldLink "FramedLineModel" 131 "FramedLineModel" "foundWrong" "[Z" ∈ GW := GW_at 676 (by decide +kernel) (by decide +kernel)
theorem lj_M_134 : Cond.fieldLink "FramedLineModel" 134 "FramedLineModel" "counts" "[I" ∈ GW := GW_at 677 (by decide +kernel) (by decide +kernel)
