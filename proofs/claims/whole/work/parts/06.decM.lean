theorem d_M_thrown_0 : decode b_M_thrown 0 = .ok (.aload_n 0, 1) := by decide +kernel
theorem d_M_thrown_1 : decode b_M_thrown 1 = .ok (.getfield 137, 3) := by decide +kernel
theorem d_M_thrown_4 : decode b_M_thrown 4 = .ok (.ireturn, 1) := by decide +kernel
theorem d_M_within_0 : decode b_M_within 0 = .ok (.iload_n 0, 1) := by decide +kernel
theorem d_M_within_1 : decode b_M_within 1 = .ok (.iload_n 1, 1) := by decide +kernel
theorem d_M_within_2 : decode b_M_within 2 = .ok (.if_icmp .lt 12, 3) := by decide +kernel
theorem d_M_within_5 : decode b_M_within 5 = .ok (.iload_n 0, 1) := by decide +kernel
theorem d_M_within_6 : decode b_M_within 6 = .ok (.iload_n 2, 1) := by decide +kernel
theorem d_M_within_7 : decode b_M_within 7 = .ok (.if_icmp .gt 7, 3) := by decide +kernel
theorem d_M_within_10 : decode b_M_within 10 = .ok (.iconst 1, 1) := by decide +kernel
theorem d_M_within_11 : decode b_M_within 11 = .ok (.goto 4, 3) := by decide +kernel
theorem d_M_within_14 : decode b_M_within 14 = .ok (.iconst 0, 1) := by decide +kernel
theorem d_M_within_15 : decode b_M_within 15 = .ok (.ireturn, 1) := by decide +kernel
theorem d_M_isEnd_0 : decode b_M_isEnd 0 = .ok (.iload_n 0, 1) := by decide +kernel
theorem d_M_isEnd_1 : decode b_M_isEnd 1 = .ok (.ifCond .eq 8, 3) := by decide +kernel
theorem d_M_isEnd_4 : decode b_M_isEnd 4 = .ok (.iload_n 0, 1) := by decide +kernel
theorem d_M_isEnd_5 : decode b_M_isEnd 5 = .ok (.iconst 1, 1) := by decide +kernel
theorem d_M_isEnd_6 : decode b_M_isEnd 6 = .ok (.if_icmp .ne 7, 3) := by decide +kernel
theorem d_M_isEnd_9 : decode b_M_isEnd 9 = .ok (.iconst 1, 1) := by decide +kernel
theorem d_M_isEnd_10 : decode b_M_isEnd 10 = .ok (.goto 4, 3) := by decide +kernel
theorem d_M_isEnd_13 : decode b_M_isEnd 13 = .ok (.iconst 0, 1) := by decide +kernel
theorem d_M_isEnd_14 : decode b_M_isEnd 14 = .ok (.ireturn, 1) := by decide +kernel
theorem d_M_with_0 : decode b_M_with 0 = .ok (.iload_n 1, 1) := by decide +kernel
theorem d_M_with_1 : decode b_M_with 1 = .ok (.iload_n 0, 1) := by decide +kernel
theorem d_M_with_2 : decode b_M_with 2 = .ok (.iconst 3, 1) := by decide +kernel
theorem d_M_with_3 : decode b_M_with 3 = .ok (.ishr, 1) := by decide +kernel
theorem d_M_with_4 : decode b_M_with 4 = .ok (.ixor, 1) := by decide +kernel
theorem d_M_with_5 : decode b_M_with 5 = .ok (.istore_n 2, 1) := by decide +kernel
theorem d_M_with_6 : decode b_M_with 6 = .ok (.iload_n 0, 1) := by decide +kernel
theorem d_M_with_7 : decode b_M_with 7 = .ok (.iconst 1, 1) := by decide +kernel
theorem d_M_with_8 : decode b_M_with 8 = .ok (.ishl, 1) := by decide +kernel
theorem d_M_with_9 : decode b_M_with 9 = .ok (.bipush 15, 2) := by decide +kernel
theorem d_M_with_11 : decode b_M_with 11 = .ok (.iand, 1) := by decide +kernel
theorem d_M_with_12 : decode b_M_with 12 = .ok (.istore_n 3, 1) := by decide +kernel
theorem d_M_with_13 : decode b_M_with 13 = .ok (.iload_n 2, 1) := by decide +kernel
theorem d_M_with_14 : decode b_M_with 14 = .ok (.iconst 1, 1) := by decide +kernel
theorem d_M_with_15 : decode b_M_with 15 = .ok (.if_icmp .ne 9, 3) := by decide +kernel
theorem d_M_with_18 : decode b_M_with 18 = .ok (.iload_n 3, 1) := by decide +kernel
theorem d_M_with_19 : decode b_M_with 19 = .ok (.iconst 3, 1) := by decide +kernel
theorem d_M_with_20 : decode b_M_with 20 = .ok (.ixor, 1) := by decide +kernel
theorem d_M_with_21 : decode b_M_with 21 = .ok (.goto 4, 3) := by decide +kernel
theorem d_M_with_24 : decode b_M_with 24 = .ok (.iload_n 3, 1) := by decide +kernel
theorem d_M_with_25 : decode b_M_with 25 = .ok (.ireturn, 1) := by decide +kernel
theorem d_M_mark_0 : decode b_M_mark 0 = .ok (.iload_n 2, 1) := by decide +kernel
theorem d_M_mark_1 : decode b_M_mark 1 = .ok (.bipush 11, 2) := by decide +kernel
theorem d_M_mark_3 : decode b_M_mark 3 = .ok (.if_icmp .le 32, 3) := by decide +kernel
theorem d_M_mark_6 : decode b_M_mark 6 = .ok (.aload_n 0, 1) := by decide +kernel
theorem d_M_mark_7 : decode b_M_mark 7 = .ok (.getfield 131, 3) := by decide +kernel
theorem d_M_mark_10 : decode b_M_mark 10 = .ok (.iconst 2, 1) := by decide +kernel
theorem d_M_mark_11 : decode b_M_mark 11 = .ok (.iload_n 1, 1) := by decide +kernel
theorem d_M_mark_12 : decode b_M_mark 12 = .ok (.imul, 1) := by decide +kernel
theorem d_M_mark_13 : decode b_M_mark 13 = .ok (.iload_n 2, 1) := by decide +kernel
theorem d_M_mark_14 : decode b_M_mark 14 = .ok (.bipush 13, 2) := by decide +kernel
theorem d_M_mark_16 : decode b_M_mark 16 = .ok (.if_icmp .ne 7, 3) := by decide +kernel
theorem d_M_mark_19 : decode b_M_mark 19 = .ok (.iconst 0, 1) := by decide +kernel
theorem d_M_mark_20 : decode b_M_mark 20 = .ok (.goto 4, 3) := by decide +kernel
theorem d_M_mark_23 : decode b_M_mark 23 = .ok (.iconst 1, 1) := by decide +kernel
theorem d_M_mark_24 : decode b_M_mark 24 = .ok (.iadd, 1) := by decide +kernel
theorem d_M_mark_25 : decode b_M_mark 25 = .ok (.baload, 1) := by decide +kernel
theorem d_M_mark_26 : decode b_M_mark 26 = .ok (.ifCond .eq 7, 3) := by decide +kernel
theorem d_M_mark_29 : decode b_M_mark 29 = .ok (.iconst 0, 1) := by decide +kernel
theorem d_M_mark_30 : decode b_M_mark 30 = .ok (.goto 4, 3) := by decide +kernel
theorem d_M_mark_33 : decode b_M_mark 33 = .ok (.iconst 1, 1) := by decide +kernel
theorem d_M_mark_34 : decode b_M_mark 34 = .ok (.ireturn, 1) := by decide +kernel
theorem d_M_mark_35 : decode b_M_mark 35 = .ok (.iload_n 2, 1) := by decide +kernel
theorem d_M_mark_36 : decode b_M_mark 36 = .ok (.iconst 5, 1) := by decide +kernel
theorem d_M_mark_37 : decode b_M_mark 37 = .ok (.if_icmp .eq 9, 3) := by decide +kernel
theorem d_M_mark_40 : decode b_M_mark 40 = .ok (.iload_n 2, 1) := by decide +kernel
theorem d_M_mark_41 : decode b_M_mark 41 = .ok (.bipush 8, 2) := by decide +kernel
theorem d_M_mark_43 : decode b_M_mark 43 = .ok (.if_icmp .le 7, 3) := by decide +kernel
theorem d_M_mark_46 : decode b_M_mark 46 = .ok (.iconst 1, 1) := by decide +kernel
theorem d_M_mark_47 : decode b_M_mark 47 = .ok (.goto 4, 3) := by decide +kernel
theorem d_M_mark_50 : decode b_M_mark 50 = .ok (.iconst 0, 1) := by decide +kernel
theorem d_M_mark_51 : decode b_M_mark 51 = .ok (.ireturn, 1) := by decide +kernel
theorem d_M_beginFrame_0 : decode b_M_beginFrame 0 = .ok (.aload_n 0, 1) := by decide +kernel
theorem d_M_beginFrame_1 : decode b_M_beginFrame 1 = .ok (.getfield 16, 3) := by decide +kernel
theorem d_M_beginFrame_4 : decode b_M_beginFrame 4 = .ok (.iload_n 1, 1) := by decide +kernel
theorem d_M_beginFrame_5 : decode b_M_beginFrame 5 = .ok (.iaload, 1) := by decide +kernel
theorem d_M_beginFrame_6 : decode b_M_beginFrame 6 = .ok (.istore_n 2, 1) := by decide +kernel
theorem d_M_beginFrame_7 : decode b_M_beginFrame 7 = .ok (.iconst 0, 1) := by decide +kernel
theorem d_M_beginFrame_8 : decode b_M_beginFrame 8 = .ok (.istore_n 3, 1) := by decide +kernel
theorem d_M_beginFrame_9 : decode b_M_beginFrame 9 = .ok (.iload_n 2, 1) := by decide +kernel
theorem d_M_beginFrame_10 : decode b_M_beginFrame 10 = .ok (.iconst 2, 1) := by decide +kernel
theorem d_M_beginFrame_11 : decode b_M_beginFrame 11 = .ok (.irem, 1) := by decide +kernel
theorem d_M_beginFrame_12 : decode b_M_beginFrame 12 = .ok (.ifCond .ne 31, 3) := by decide +kernel
theorem d_M_beginFrame_15 : decode b_M_beginFrame 15 = .ok (.aload_n 0, 1) := by decide +kernel
theorem d_M_beginFrame_16 : decode b_M_beginFrame 16 = .ok (.getfield 25, 3) := by decide +kernel
theorem d_M_beginFrame_19 : decode b_M_beginFrame 19 = .ok (.iload_n 1, 1) := by decide +kernel
theorem d_M_beginFrame_20 : decode b_M_beginFrame 20 = .ok (.iaload, 1) := by decide +kernel
theorem d_M_beginFrame_21 : decode b_M_beginFrame 21 = .ok (.iconst 3, 1) := by decide +kernel
theorem d_M_beginFrame_22 : decode b_M_beginFrame 22 = .ok (.iload_n 2, 1) := by decide +kernel
theorem d_M_beginFrame_23 : decode b_M_beginFrame 23 = .ok (.bipush 8, 2) := by decide +kernel
theorem d_M_beginFrame_25 : decode b_M_beginFrame 25 = .ok (.irem, 1) := by decide +kernel
theorem d_M_beginFrame_26 : decode b_M_beginFrame 26 = .ok (.iconst 2, 1) := by decide +kernel
theorem d_M_beginFrame_27 : decode b_M_beginFrame 27 = .ok (.idiv, 1) := by decide +kernel
theorem d_M_beginFrame_28 : decode b_M_beginFrame 28 = .ok (.isub, 1) := by decide +kernel
theorem d_M_beginFrame_29 : decode b_M_beginFrame 29 = .ok (.ishr, 1) := by decide +kernel
theorem d_M_beginFrame_30 : decode b_M_beginFrame 30 = .ok (.iconst 1, 1) := by decide +kernel
theorem d_M_beginFrame_31 : decode b_M_beginFrame 31 = .ok (.iand, 1) := by decide +kernel
theorem d_M_beginFrame_32 : decode b_M_beginFrame 32 = .ok (.sipush 128, 3) := by decide +kernel
theorem d_M_beginFrame_35 : decode b_M_beginFrame 35 = .ok (.imul, 1) := by decide +kernel
theorem d_M_beginFrame_36 : decode b_M_beginFrame 36 = .ok (.bipush 27, 2) := by decide +kernel
theorem d_M_beginFrame_38 : decode b_M_beginFrame 38 = .ok (.iadd, 1) := by decide +kernel
theorem d_M_beginFrame_39 : decode b_M_beginFrame 39 = .ok (.istore_n 3, 1) := by decide +kernel
theorem d_M_beginFrame_40 : decode b_M_beginFrame 40 = .ok (.goto 37, 3) := by decide +kernel
theorem d_M_beginFrame_43 : decode b_M_beginFrame 43 = .ok (.aload_n 0, 1) := by decide +kernel
theorem d_M_beginFrame_44 : decode b_M_beginFrame 44 = .ok (.iload_n 1, 1) := by decide +kernel
theorem d_M_beginFrame_45 : decode b_M_beginFrame 45 = .ok (.iload_n 2, 1) := by decide +kernel
theorem d_M_beginFrame_46 : decode b_M_beginFrame 46 = .ok (.invokevirtual 141, 3) := by decide +kernel
theorem d_M_beginFrame_49 : decode b_M_beginFrame 49 = .ok (.sipush 128, 3) := by decide +kernel
theorem d_M_beginFrame_52 : decode b_M_beginFrame 52 = .ok (.imul, 1) := by decide +kernel
theorem d_M_beginFrame_53 : decode b_M_beginFrame 53 = .ok (.bipush 64, 2) := by decide +kernel
theorem d_M_beginFrame_55 : decode b_M_beginFrame 55 = .ok (.iadd, 1) := by decide +kernel
theorem d_M_beginFrame_56 : decode b_M_beginFrame 56 = .ok (.aload_n 0, 1) := by decide +kernel
theorem d_M_beginFrame_57 : decode b_M_beginFrame 57 = .ok (.getfield 74, 3) := by decide +kernel
theorem d_M_beginFrame_60 : decode b_M_beginFrame 60 = .ok (.iload_n 1, 1) := by decide +kernel
theorem d_M_beginFrame_61 : decode b_M_beginFrame 61 = .ok (.iaload, 1) := by decide +kernel
theorem d_M_beginFrame_62 : decode b_M_beginFrame 62 = .ok (.iconst 2, 1) := by decide +kernel
theorem d_M_beginFrame_63 : decode b_M_beginFrame 63 = .ok (.if_icmp .ne 7, 3) := by decide +kernel
theorem d_M_beginFrame_66 : decode b_M_beginFrame 66 = .ok (.iconst 0, 1) := by decide +kernel
theorem d_M_beginFrame_67 : decode b_M_beginFrame 67 = .ok (.goto 5, 3) := by decide +kernel
theorem d_M_beginFrame_70 : decode b_M_beginFrame 70 = .ok (.bipush 32, 2) := by decide +kernel
theorem d_M_beginFrame_72 : decode b_M_beginFrame 72 = .ok (.iadd, 1) := by decide +kernel
theorem d_M_beginFrame_73 : decode b_M_beginFrame 73 = .ok (.bipush 31, 2) := by decide +kernel
theorem d_M_beginFrame_75 : decode b_M_beginFrame 75 = .ok (.iadd, 1) := by decide +kernel
theorem d_M_beginFrame_76 : decode b_M_beginFrame 76 = .ok (.istore_n 3, 1) := by decide +kernel
theorem d_M_beginFrame_77 : decode b_M_beginFrame 77 = .ok (.aload_n 0, 1) := by decide +kernel
theorem d_M_beginFrame_78 : decode b_M_beginFrame 78 = .ok (.getfield 13, 3) := by decide +kernel
theorem d_M_beginFrame_81 : decode b_M_beginFrame 81 = .ok (.iload_n 1, 1) := by decide +kernel
theorem d_M_beginFrame_82 : decode b_M_beginFrame 82 = .ok (.iload_n 3, 1) := by decide +kernel
theorem d_M_beginFrame_83 : decode b_M_beginFrame 83 = .ok (.bipush 24, 2) := by decide +kernel
theorem d_M_beginFrame_85 : decode b_M_beginFrame 85 = .ok (.ishl, 1) := by decide +kernel
theorem d_M_beginFrame_86 : decode b_M_beginFrame 86 = .ok (.aload_n 0, 1) := by decide +kernel
theorem d_M_beginFrame_87 : decode b_M_beginFrame 87 = .ok (.getfield 7, 3) := by decide +kernel
theorem d_M_beginFrame_90 : decode b_M_beginFrame 90 = .ok (.iconst 4, 1) := by decide +kernel
theorem d_M_beginFrame_91 : decode b_M_beginFrame 91 = .ok (.iload_n 1, 1) := by decide +kernel
theorem d_M_beginFrame_92 : decode b_M_beginFrame 92 = .ok (.imul, 1) := by decide +kernel
theorem d_M_beginFrame_93 : decode b_M_beginFrame 93 = .ok (.iconst 1, 1) := by decide +kernel
theorem d_M_beginFrame_94 : decode b_M_beginFrame 94 = .ok (.iadd, 1) := by decide +kernel
theorem d_M_beginFrame_95 : decode b_M_beginFrame 95 = .ok (.iaload, 1) := by decide +kernel
theorem d_M_beginFrame_96 : decode b_M_beginFrame 96 = .ok (.bipush 16, 2) := by decide +kernel
theorem d_M_beginFrame_98 : decode b_M_beginFrame 98 = .ok (.ishl, 1) := by decide +kernel
theorem d_M_beginFrame_99 : decode b_M_beginFrame 99 = .ok (.ior, 1) := by decide +kernel
theorem d_M_beginFrame_100 : decode b_M_beginFrame 100 = .ok (.aload_n 0, 1) := by decide +kernel
theorem d_M_beginFrame_101 : decode b_M_beginFrame 101 = .ok (.getfield 7, 3) := by decide +kernel
theorem d_M_beginFrame_104 : decode b_M_beginFrame 104 = .ok (.iconst 4, 1) := by decide +kernel
theorem d_M_beginFrame_105 : decode b_M_beginFrame 105 = .ok (.iload_n 1, 1) := by decide +kernel
theorem d_M_beginFrame_106 : decode b_M_beginFrame 106 = .ok (.imul, 1) := by decide +kernel
theorem d_M_beginFrame_107 : decode b_M_beginFrame 107 = .ok (.iconst 2, 1) := by decide +kernel
theorem d_M_beginFrame_108 : decode b_M_beginFrame 108 = .ok (.iadd, 1) := by decide +kernel
theorem d_M_beginFrame_109 : decode b_M_beginFrame 109 = .ok (.iaload, 1) := by decide +kernel
theorem d_M_beginFrame_110 : decode b_M_beginFrame 110 = .ok (.bipush 8, 2) := by decide +kernel
theorem d_M_beginFrame_112 : decode b_M_beginFrame 112 = .ok (.ishl, 1) := by decide +kernel
theorem d_M_beginFrame_113 : decode b_M_beginFrame 113 = .ok (.ior, 1) := by decide +kernel
theorem d_M_beginFrame_114 : decode b_M_beginFrame 114 = .ok (.aload_n 0, 1) := by decide +kernel
theorem d_M_beginFrame_115 : decode b_M_beginFrame 115 = .ok (.getfield 7, 3) := by decide +kernel
theorem d_M_beginFrame_118 : decode b_M_beginFrame 118 = .ok (.iconst 4, 1) := by decide +kernel
theorem d_M_beginFrame_119 : decode b_M_beginFrame 119 = .ok (.iload_n 1, 1) := by decide +kernel
theorem d_M_beginFrame_120 : decode b_M_beginFrame 120 = .ok (.imul, 1) := by decide +kernel
theorem d_M_beginFrame_121 : decode b_M_beginFrame 121 = .ok (.iconst 3, 1) := by decide +kernel
theorem d_M_beginFrame_122 : decode b_M_beginFrame 122 = .ok (.iadd, 1) := by decide +kernel
theorem d_M_beginFrame_123 : decode b_M_beginFrame 123 = .ok (.iaload, 1) := by decide +kernel
theorem d_M_beginFrame_124 : decode b_M_beginFrame 124 = .ok (.ior, 1) := by decide +kernel
theorem d_M_beginFrame_125 : decode b_M_beginFrame 125 = .ok (.iastore, 1) := by decide +kernel
theorem d_M_beginFrame_126 : decode b_M_beginFrame 126 = .ok (.return_, 1) := by decide +kernel
theorem d_M_nextBit_0 : decode b_M_nextBit 0 = .ok (.aload_n 0, 1) := by decide +kernel
theorem d_M_nextBit_1 : decode b_M_nextBit 1 = .ok (.getfield 19, 3) := by decide +kernel
theorem d_M_nextBit_4 : decode b_M_nextBit 4 = .ok (.iload_n 1, 1) := by decide +kernel
theorem d_M_nextBit_5 : decode b_M_nextBit 5 = .ok (.iaload, 1) := by decide +kernel
theorem d_M_nextBit_6 : decode b_M_nextBit 6 = .ok (.ifCond .ne 8, 3) := by decide +kernel
theorem d_M_nextBit_9 : decode b_M_nextBit 9 = .ok (.aload_n 0, 1) := by decide +kernel
theorem d_M_nextBit_10 : decode b_M_nextBit 10 = .ok (.iload_n 1, 1) := by decide +kernel
theorem d_M_nextBit_11 : decode b_M_nextBit 11 = .ok (.invokevirtual 145, 3) := by decide +kernel
theorem d_M_nextBit_14 : decode b_M_nextBit 14 = .ok (.aload_n 0, 1) := by decide +kernel
theorem d_M_nextBit_15 : decode b_M_nextBit 15 = .ok (.getfield 13, 3) := by decide +kernel
theorem d_M_nextBit_18 : decode b_M_nextBit 18 = .ok (.iload_n 1, 1) := by decide +kernel
theorem d_M_nextBit_19 : decode b_M_nextBit 19 = .ok (.iaload, 1) := by decide +kernel
theorem d_M_nextBit_20 : decode b_M_nextBit 20 = .ok (.bipush 31, 2) := by decide +kernel
theorem d_M_nextBit_22 : decode b_M_nextBit 22 = .ok (.aload_n 0, 1) := by decide +kernel
theorem d_M_nextBit_23 : decode b_M_nextBit 23 = .ok (.getfield 19, 3) := by decide +kernel
theorem d_M_nextBit_26 : decode b_M_nextBit 26 = .ok (.iload_n 1, 1) := by decide +kernel
theorem d_M_nextBit_27 : decode b_M_nextBit 27 = .ok (.iaload, 1) := by decide +kernel
theorem d_M_nextBit_28 : decode b_M_nextBit 28 = .ok (.isub, 1) := by decide +kernel
theorem d_M_nextBit_29 : decode b_M_nextBit 29 = .ok (.ishr, 1) := by decide +kernel
theorem d_M_nextBit_30 : decode b_M_nextBit 30 = .ok (.iconst 1, 1) := by decide +kernel
theorem d_M_nextBit_31 : decode b_M_nextBit 31 = .ok (.iand, 1) := by decide +kernel
theorem d_M_nextBit_32 : decode b_M_nextBit 32 = .ok (.istore_n 2, 1) := by decide +kernel
theorem d_M_nextBit_33 : decode b_M_nextBit 33 = .ok (.aload_n 0, 1) := by decide +kernel
theorem d_M_nextBit_34 : decode b_M_nextBit 34 = .ok (.getfield 22, 3) := by decide +kernel
theorem d_M_nextBit_37 : decode b_M_nextBit 37 = .ok (.iload_n 1, 1) := by decide +kernel
theorem d_M_nextBit_38 : decode b_M_nextBit 38 = .ok (.aload_n 0, 1) := by decide +kernel
theorem d_M_nextBit_39 : decode b_M_nextBit 39 = .ok (.getfield 22, 3) := by decide +kernel
theorem d_M_nextBit_42 : decode b_M_nextBit 42 = .ok (.iload_n 1, 1) := by decide +kernel
theorem d_M_nextBit_43 : decode b_M_nextBit 43 = .ok (.iaload, 1) := by decide +kernel
theorem d_M_nextBit_44 : decode b_M_nextBit 44 = .ok (.aload_n 0, 1) := by decide +kernel
theorem d_M_nextBit_45 : decode b_M_nextBit 45 = .ok (.getfield 19, 3) := by decide +kernel
theorem d_M_nextBit_48 : decode b_M_nextBit 48 = .ok (.iload_n 1, 1) := by decide +kernel
theorem d_M_nextBit_49 : decode b_M_nextBit 49 = .ok (.iaload, 1) := by decide +kernel
theorem d_M_nextBit_50 : decode b_M_nextBit 50 = .ok (.ifCond .ne 18, 3) := by decide +kernel
theorem d_M_nextBit_53 : decode b_M_nextBit 53 = .ok (.aload_n 0, 1) := by decide +kernel
theorem d_M_nextBit_54 : decode b_M_nextBit 54 = .ok (.getfield 16, 3) := by decide +kernel
theorem d_M_nextBit_57 : decode b_M_nextBit 57 = .ok (.iload_n 1, 1) := by decide +kernel
theorem d_M_nextBit_58 : decode b_M_nextBit 58 = .ok (.iaload, 1) := by decide +kernel
theorem d_M_nextBit_59 : decode b_M_nextBit 59 = .ok (.iconst 2, 1) := by decide +kernel
theorem d_M_nextBit_60 : decode b_M_nextBit 60 = .ok (.irem, 1) := by decide +kernel
theorem d_M_nextBit_61 : decode b_M_nextBit 61 = .ok (.ifCond .ne 7, 3) := by decide +kernel
theorem d_M_nextBit_64 : decode b_M_nextBit 64 = .ok (.iconst 0, 1) := by decide +kernel
theorem d_M_nextBit_65 : decode b_M_nextBit 65 = .ok (.goto 4, 3) := by decide +kernel
theorem d_M_nextBit_68 : decode b_M_nextBit 68 = .ok (.iload_n 2, 1) := by decide +kernel
theorem d_M_nextBit_69 : decode b_M_nextBit 69 = .ok (.invokestatic 149, 3) := by decide +kernel
theorem d_M_nextBit_72 : decode b_M_nextBit 72 = .ok (.iastore, 1) := by decide +kernel
theorem d_M_nextBit_73 : decode b_M_nextBit 73 = .ok (.aload_n 0, 1) := by decide +kernel
theorem d_M_nextBit_74 : decode b_M_nextBit 74 = .ok (.getfield 19, 3) := by decide +kernel
theorem d_M_nextBit_77 : decode b_M_nextBit 77 = .ok (.iload_n 1, 1) := by decide +kernel
theorem d_M_nextBit_78 : decode b_M_nextBit 78 = .ok (.aload_n 0, 1) := by decide +kernel
theorem d_M_nextBit_79 : decode b_M_nextBit 79 = .ok (.getfield 19, 3) := by decide +kernel
theorem d_M_nextBit_82 : decode b_M_nextBit 82 = .ok (.iload_n 1, 1) := by decide +kernel
theorem d_M_nextBit_83 : decode b_M_nextBit 83 = .ok (.iaload, 1) := by decide +kernel
theorem d_M_nextBit_84 : decode b_M_nextBit 84 = .ok (.iconst 1, 1) := by decide +kernel
theorem d_M_nextBit_85 : decode b_M_nextBit 85 = .ok (.iadd, 1) := by decide +kernel
theorem d_M_nextBit_86 : decode b_M_nextBit 86 = .ok (.iastore, 1) := by decide +kernel
theorem d_M_nextBit_87 : decode b_M_nextBit 87 = .ok (.aload_n 0, 1) := by decide +kernel
theorem d_M_nextBit_88 : decode b_M_nextBit 88 = .ok (.getfield 19, 3) := by decide +kernel
theorem d_M_nextBit_91 : decode b_M_nextBit 91 = .ok (.iload_n 1, 1) := by decide +kernel
theorem d_M_nextBit_92 : decode b_M_nextBit 92 = .ok (.iaload, 1) := by decide +kernel
theorem d_M_nextBit_93 : decode b_M_nextBit 93 = .ok (.bipush 32, 2) := by decide +kernel
theorem d_M_nextBit_95 : decode b_M_nextBit 95 = .ok (.if_icmp .ne 58, 3) := by decide +kernel
theorem d_M_nextBit_98 : decode b_M_nextBit 98 = .ok (.aload_n 0, 1) := by decide +kernel
theorem d_M_nextBit_99 : decode b_M_nextBit 99 = .ok (.getfield 19, 3) := by decide +kernel
theorem d_M_nextBit_102 : decode b_M_nextBit 102 = .ok (.iload_n 1, 1) := by decide +kernel
theorem d_M_nextBit_103 : decode b_M_nextBit 103 = .ok (.iconst 0, 1) := by decide +kernel
theorem d_M_nextBit_104 : decode b_M_nextBit 104 = .ok (.iastore, 1) := by decide +kernel
theorem d_M_nextBit_105 : decode b_M_nextBit 105 = .ok (.aload_n 0, 1) := by decide +kernel
theorem d_M_nextBit_106 : decode b_M_nextBit 106 = .ok (.getfield 16, 3) := by decide +kernel
theorem d_M_nextBit_109 : decode b_M_nextBit 109 = .ok (.iload_n 1, 1) := by decide +kernel
theorem d_M_nextBit_110 : decode b_M_nextBit 110 = .ok (.aload_n 0, 1) := by decide +kernel
theorem d_M_nextBit_111 : decode b_M_nextBit 111 = .ok (.getfield 16, 3) := by decide +kernel
theorem d_M_nextBit_114 : decode b_M_nextBit 114 = .ok (.iload_n 1, 1) := by decide +kernel
theorem d_M_nextBit_115 : decode b_M_nextBit 115 = .ok (.iaload, 1) := by decide +kernel
theorem d_M_nextBit_116 : decode b_M_nextBit 116 = .ok (.iconst 1, 1) := by decide +kernel
theorem d_M_nextBit_117 : decode b_M_nextBit 117 = .ok (.iadd, 1) := by decide +kernel
theorem d_M_nextBit_118 : decode b_M_nextBit 118 = .ok (.bipush 16, 2) := by decide +kernel
theorem d_M_nextBit_120 : decode b_M_nextBit 120 = .ok (.irem, 1) := by decide +kernel
theorem d_M_nextBit_121 : decode b_M_nextBit 121 = .ok (.iastore, 1) := by decide +kernel
theorem d_M_nextBit_122 : decode b_M_nextBit 122 = .ok (.aload_n 0, 1) := by decide +kernel
theorem d_M_nextBit_123 : decode b_M_nextBit 123 = .ok (.getfield 16, 3) := by decide +kernel
theorem d_M_nextBit_126 : decode b_M_nextBit 126 = .ok (.iload_n 1, 1) := by decide +kernel
theorem d_M_nextBit_127 : decode b_M_nextBit 127 = .ok (.iaload, 1) := by decide +kernel
theorem d_M_nextBit_128 : decode b_M_nextBit 128 = .ok (.bipush 8, 2) := by decide +kernel
theorem d_M_nextBit_130 : decode b_M_nextBit 130 = .ok (.irem, 1) := by decide +kernel
theorem d_M_nextBit_131 : decode b_M_nextBit 131 = .ok (.ifCond .ne 22, 3) := by decide +kernel
theorem d_M_nextBit_134 : decode b_M_nextBit 134 = .ok (.aload_n 0, 1) := by decide +kernel
theorem d_M_nextBit_135 : decode b_M_nextBit 135 = .ok (.getfield 25, 3) := by decide +kernel
theorem d_M_nextBit_138 : decode b_M_nextBit 138 = .ok (.iload_n 1, 1) := by decide +kernel
theorem d_M_nextBit_139 : decode b_M_nextBit 139 = .ok (.aload_n 0, 1) := by decide +kernel
theorem d_M_nextBit_140 : decode b_M_nextBit 140 = .ok (.getfield 22, 3) := by decide +kernel
theorem d_M_nextBit_143 : decode b_M_nextBit 143 = .ok (.iload_n 1, 1) := by decide +kernel
theorem d_M_nextBit_144 : decode b_M_nextBit 144 = .ok (.iaload, 1) := by decide +kernel
theorem d_M_nextBit_145 : decode b_M_nextBit 145 = .ok (.iastore, 1) := by decide +kernel
theorem d_M_nextBit_146 : decode b_M_nextBit 146 = .ok (.aload_n 0, 1) := by decide +kernel
theorem d_M_nextBit_147 : decode b_M_nextBit 147 = .ok (.getfield 22, 3) := by decide +kernel
theorem d_M_nextBit_150 : decode b_M_nextBit 150 = .ok (.iload_n 1, 1) := by decide +kernel
theorem d_M_nextBit_151 : decode b_M_nextBit 151 = .ok (.iconst 0, 1) := by decide +kernel
theorem d_M_nextBit_152 : decode b_M_nextBit 152 = .ok (.iastore, 1) := by decide +kernel
theorem d_M_nextBit_153 : decode b_M_nextBit 153 = .ok (.iload_n 2, 1) := by decide +kernel
theorem d_M_nextBit_154 : decode b_M_nextBit 154 = .ok (.ireturn, 1) := by decide +kernel
theorem d_M_turned_0 : decode b_M_turned 0 = .ok (.aload_n 0, 1) := by decide +kernel
theorem d_M_turned_1 : decode b_M_turned 1 = .ok (.getfield 34, 3) := by decide +kernel
theorem d_M_turned_4 : decode b_M_turned 4 = .ok (.iload_n 1, 1) := by decide +kernel
theorem d_M_turned_5 : decode b_M_turned 5 = .ok (.aload_n 0, 1) := by decide +kernel
theorem d_M_turned_6 : decode b_M_turned 6 = .ok (.getfield 34, 3) := by decide +kernel
theorem d_M_turned_9 : decode b_M_turned 9 = .ok (.iload_n 1, 1) := by decide +kernel
theorem d_M_turned_10 : decode b_M_turned 10 = .ok (.iaload, 1) := by decide +kernel
theorem d_M_turned_11 : decode b_M_turned 11 = .ok (.ifCond .ne 7, 3) := by decide +kernel
theorem d_M_turned_14 : decode b_M_turned 14 = .ok (.iconst 1, 1) := by decide +kernel
theorem d_M_turned_15 : decode b_M_turned 15 = .ok (.goto 10, 3) := by decide +kernel
theorem d_M_turned_18 : decode b_M_turned 18 = .ok (.aload_n 0, 1) := by decide +kernel
theorem d_M_turned_19 : decode b_M_turned 19 = .ok (.getfield 34, 3) := by decide +kernel
theorem d_M_turned_22 : decode b_M_turned 22 = .ok (.iload_n 1, 1) := by decide +kernel
theorem d_M_turned_23 : decode b_M_turned 23 = .ok (.iaload, 1) := by decide +kernel
theorem d_M_turned_24 : decode b_M_turned 24 = .ok (.ineg, 1) := by decide +kernel
theorem d_M_turned_25 : decode b_M_turned 25 = .ok (.iastore, 1) := by decide +kernel
theorem d_M_turned_26 : decode b_M_turned 26 = .ok (.aload_n 0, 1) := by decide +kernel
theorem d_M_turned_27 : decode b_M_turned 27 = .ok (.getfield 34, 3) := by decide +kernel
theorem d_M_turned_30 : decode b_M_turned 30 = .ok (.iload_n 1, 1) := by decide +kernel
theorem d_M_turned_31 : decode b_M_turned 31 = .ok (.iaload, 1) := by decide +kernel
theorem d_M_turned_32 : decode b_M_turned 32 = .ok (.ireturn, 1) := by decide +kernel
theorem d_M_send_0 : decode b_M_send 0 = .ok (.aload_n 0, 1) := by decide +kernel
theorem d_M_send_1 : decode b_M_send 1 = .ok (.getfield 28, 3) := by decide +kernel
theorem d_M_send_4 : decode b_M_send 4 = .ok (.iload_n 1, 1) := by decide +kernel
theorem d_M_send_5 : decode b_M_send 5 = .ok (.aload_n 0, 1) := by decide +kernel
theorem d_M_send_6 : decode b_M_send 6 = .ok (.getfield 28, 3) := by decide +kernel
theorem d_M_send_9 : decode b_M_send 9 = .ok (.iload_n 1, 1) := by decide +kernel
theorem d_M_send_10 : decode b_M_send 10 = .ok (.iaload, 1) := by decide +kernel
theorem d_M_send_11 : decode b_M_send 11 = .ok (.iconst 1, 1) := by decide +kernel
theorem d_M_send_12 : decode b_M_send 12 = .ok (.ishl, 1) := by decide +kernel
theorem d_M_send_13 : decode b_M_send 13 = .ok (.aload_n 0, 1) := by decide +kernel
theorem d_M_send_14 : decode b_M_send 14 = .ok (.iload_n 1, 1) := by decide +kernel
theorem d_M_send_15 : decode b_M_send 15 = .ok (.invokevirtual 152, 3) := by decide +kernel
theorem d_M_send_18 : decode b_M_send 18 = .ok (.ior, 1) := by decide +kernel
theorem d_M_send_19 : decode b_M_send 19 = .ok (.bipush 15, 2) := by decide +kernel
theorem d_M_send_21 : decode b_M_send 21 = .ok (.iand, 1) := by decide +kernel
theorem d_M_send_22 : decode b_M_send 22 = .ok (.iastore, 1) := by decide +kernel
theorem d_M_send_23 : decode b_M_send 23 = .ok (.aload_n 0, 1) := by decide +kernel
theorem d_M_send_24 : decode b_M_send 24 = .ok (.getfield 156, 3) := by decide +kernel
theorem d_M_send_27 : decode b_M_send 27 = .ok (.iconst 4, 1) := by decide +kernel
theorem d_M_send_28 : decode b_M_send 28 = .ok (.if_icmp .ge 5, 3) := by decide +kernel
theorem d_M_send_31 : decode b_M_send 31 = .ok (.iconst 0, 1) := by decide +kernel
theorem d_M_send_32 : decode b_M_send 32 = .ok (.ireturn, 1) := by decide +kernel
theorem d_M_send_33 : decode b_M_send 33 = .ok (.aload_n 0, 1) := by decide +kernel
theorem d_M_send_34 : decode b_M_send 34 = .ok (.getfield 31, 3) := by decide +kernel
theorem d_M_send_37 : decode b_M_send 37 = .ok (.iload_n 1, 1) := by decide +kernel
theorem d_M_send_38 : decode b_M_send 38 = .ok (.iaload, 1) := by decide +kernel
theorem d_M_send_39 : decode b_M_send 39 = .ok (.ifCond .le 66, 3) := by decide +kernel
theorem d_M_send_42 : decode b_M_send 42 = .ok (.aload_n 0, 1) := by decide +kernel
theorem d_M_send_43 : decode b_M_send 43 = .ok (.getfield 31, 3) := by decide +kernel
theorem d_M_send_46 : decode b_M_send 46 = .ok (.iload_n 1, 1) := by decide +kernel
theorem d_M_send_47 : decode b_M_send 47 = .ok (.aload_n 0, 1) := by decide +kernel
theorem d_M_send_48 : decode b_M_send 48 = .ok (.getfield 31, 3) := by decide +kernel
theorem d_M_send_51 : decode b_M_send 51 = .ok (.iload_n 1, 1) := by decide +kernel
theorem d_M_send_52 : decode b_M_send 52 = .ok (.iaload, 1) := by decide +kernel
theorem d_M_send_53 : decode b_M_send 53 = .ok (.iconst 1, 1) := by decide +kernel
theorem d_M_send_54 : decode b_M_send 54 = .ok (.isub, 1) := by decide +kernel
theorem d_M_send_55 : decode b_M_send 55 = .ok (.iastore, 1) := by decide +kernel
theorem d_M_send_56 : decode b_M_send 56 = .ok (.aload_n 0, 1) := by decide +kernel
theorem d_M_send_57 : decode b_M_send 57 = .ok (.getfield 37, 3) := by decide +kernel
theorem d_M_send_60 : decode b_M_send 60 = .ok (.iload_n 1, 1) := by decide +kernel
theorem d_M_send_61 : decode b_M_send 61 = .ok (.aload_n 0, 1) := by decide +kernel
theorem d_M_send_62 : decode b_M_send 62 = .ok (.getfield 31, 3) := by decide +kernel
theorem d_M_send_65 : decode b_M_send 65 = .ok (.iload_n 1, 1) := by decide +kernel
theorem d_M_send_66 : decode b_M_send 66 = .ok (.iaload, 1) := by decide +kernel
theorem d_M_send_67 : decode b_M_send 67 = .ok (.ifCond .le 16, 3) := by decide +kernel
theorem d_M_send_70 : decode b_M_send 70 = .ok (.aload_n 0, 1) := by decide +kernel
theorem d_M_send_71 : decode b_M_send 71 = .ok (.getfield 37, 3) := by decide +kernel
theorem d_M_send_74 : decode b_M_send 74 = .ok (.iload_n 1, 1) := by decide +kernel
theorem d_M_send_75 : decode b_M_send 75 = .ok (.baload, 1) := by decide +kernel
theorem d_M_send_76 : decode b_M_send 76 = .ok (.ifCond .eq 7, 3) := by decide +kernel
theorem d_M_send_79 : decode b_M_send 79 = .ok (.iconst 1, 1) := by decide +kernel
theorem d_M_send_80 : decode b_M_send 80 = .ok (.goto 4, 3) := by decide +kernel
theorem d_M_send_83 : decode b_M_send 83 = .ok (.iconst 0, 1) := by decide +kernel
theorem d_M_send_84 : decode b_M_send 84 = .ok (.bastore, 1) := by decide +kernel
theorem d_M_send_85 : decode b_M_send 85 = .ok (.aload_n 0, 1) := by decide +kernel
theorem d_M_send_86 : decode b_M_send 86 = .ok (.getfield 31, 3) := by decide +kernel
theorem d_M_send_89 : decode b_M_send 89 = .ok (.iload_n 1, 1) := by decide +kernel
theorem d_M_send_90 : decode b_M_send 90 = .ok (.iaload, 1) := by decide +kernel
theorem d_M_send_91 : decode b_M_send 91 = .ok (.ifCond .ne 12, 3) := by decide +kernel
theorem d_M_send_94 : decode b_M_send 94 = .ok (.aload_n 0, 1) := by decide +kernel
theorem d_M_send_95 : decode b_M_send 95 = .ok (.getfield 34, 3) := by decide +kernel
theorem d_M_send_98 : decode b_M_send 98 = .ok (.iload_n 1, 1) := by decide +kernel
theorem d_M_send_99 : decode b_M_send 99 = .ok (.iaload, 1) := by decide +kernel
theorem d_M_send_100 : decode b_M_send 100 = .ok (.goto 4, 3) := by decide +kernel
theorem d_M_send_103 : decode b_M_send 103 = .ok (.iconst 0, 1) := by decide +kernel
theorem d_M_send_104 : decode b_M_send 104 = .ok (.ireturn, 1) := by decide +kernel
theorem d_M_send_105 : decode b_M_send 105 = .ok (.aload_n 0, 1) := by decide +kernel
theorem d_M_send_106 : decode b_M_send 106 = .ok (.getfield 28, 3) := by decide +kernel
theorem d_M_send_109 : decode b_M_send 109 = .ok (.iload_n 1, 1) := by decide +kernel
theorem d_M_send_110 : decode b_M_send 110 = .ok (.iaload, 1) := by decide +kernel
theorem d_M_send_111 : decode b_M_send 111 = .ok (.ifCond .ne 29, 3) := by decide +kernel
theorem d_M_send_114 : decode b_M_send 114 = .ok (.aload_n 0, 1) := by decide +kernel
theorem d_M_send_115 : decode b_M_send 115 = .ok (.getfield 31, 3) := by decide +kernel
theorem d_M_send_118 : decode b_M_send 118 = .ok (.iload_n 1, 1) := by decide +kernel
theorem d_M_send_119 : decode b_M_send 119 = .ok (.iconst 3, 1) := by decide +kernel
theorem d_M_send_120 : decode b_M_send 120 = .ok (.iastore, 1) := by decide +kernel
theorem d_M_send_121 : decode b_M_send 121 = .ok (.aload_n 0, 1) := by decide +kernel
theorem d_M_send_122 : decode b_M_send 122 = .ok (.getfield 37, 3) := by decide +kernel
theorem d_M_send_125 : decode b_M_send 125 = .ok (.iload_n 1, 1) := by decide +kernel
theorem d_M_send_126 : decode b_M_send 126 = .ok (.baload, 1) := by decide +kernel
theorem d_M_send_127 : decode b_M_send 127 = .ok (.ifCond .eq 7, 3) := by decide +kernel
theorem d_M_send_130 : decode b_M_send 130 = .ok (.iconst 0, 1) := by decide +kernel
theorem d_M_send_131 : decode b_M_send 131 = .ok (.goto 8, 3) := by decide +kernel
theorem d_M_send_134 : decode b_M_send 134 = .ok (.aload_n 0, 1) := by decide +kernel
theorem d_M_send_135 : decode b_M_send 135 = .ok (.iload_n 1, 1) := by decide +kernel
theorem d_M_send_136 : decode b_M_send 136 = .ok (.invokevirtual 159, 3) := by decide +kernel
theorem d_M_send_139 : decode b_M_send 139 = .ok (.ireturn, 1) := by decide +kernel
theorem d_M_send_140 : decode b_M_send 140 = .ok (.aload_n 0, 1) := by decide +kernel
theorem d_M_send_141 : decode b_M_send 141 = .ok (.getfield 28, 3) := by decide +kernel
theorem d_M_send_144 : decode b_M_send 144 = .ok (.iload_n 1, 1) := by decide +kernel
theorem d_M_send_145 : decode b_M_send 145 = .ok (.iaload, 1) := by decide +kernel
theorem d_M_send_146 : decode b_M_send 146 = .ok (.bipush 8, 2) := by decide +kernel
theorem d_M_send_148 : decode b_M_send 148 = .ok (.if_icmp .ge 5, 3) := by decide +kernel
theorem d_M_send_151 : decode b_M_send 151 = .ok (.iconst 0, 1) := by decide +kernel
theorem d_M_send_152 : decode b_M_send 152 = .ok (.ireturn, 1) := by decide +kernel
theorem d_M_send_153 : decode b_M_send 153 = .ok (.aload_n 0, 1) := by decide +kernel
theorem d_M_send_154 : decode b_M_send 154 = .ok (.getfield 37, 3) := by decide +kernel
theorem d_M_send_157 : decode b_M_send 157 = .ok (.iload_n 1, 1) := by decide +kernel
theorem d_M_send_158 : decode b_M_send 158 = .ok (.aload_n 0, 1) := by decide +kernel
theorem d_M_send_159 : decode b_M_send 159 = .ok (.getfield 37, 3) := by decide +kernel
theorem d_M_send_162 : decode b_M_send 162 = .ok (.iload_n 1, 1) := by decide +kernel
theorem d_M_send_163 : decode b_M_send 163 = .ok (.baload, 1) := by decide +kernel
theorem d_M_send_164 : decode b_M_send 164 = .ok (.ifCond .ne 7, 3) := by decide +kernel
theorem d_M_send_167 : decode b_M_send 167 = .ok (.iconst 1, 1) := by decide +kernel
theorem d_M_send_168 : decode b_M_send 168 = .ok (.goto 4, 3) := by decide +kernel
theorem d_M_send_171 : decode b_M_send 171 = .ok (.iconst 0, 1) := by decide +kernel
theorem d_M_send_172 : decode b_M_send 172 = .ok (.bastore, 1) := by decide +kernel
theorem d_M_send_173 : decode b_M_send 173 = .ok (.aload_n 0, 1) := by decide +kernel
theorem d_M_send_174 : decode b_M_send 174 = .ok (.iload_n 1, 1) := by decide +kernel
theorem d_M_send_175 : decode b_M_send 175 = .ok (.invokevirtual 159, 3) := by decide +kernel
theorem d_M_send_178 : decode b_M_send 178 = .ok (.ireturn, 1) := by decide +kernel
theorem d_M_said_0 : decode b_M_said 0 = .ok (.iconst (-1), 1) := by decide +kernel
theorem d_M_said_1 : decode b_M_said 1 = .ok (.istore_n 3, 1) := by decide +kernel
theorem d_M_said_2 : decode b_M_said 2 = .ok (.iconst 0, 1) := by decide +kernel
theorem d_M_said_3 : decode b_M_said 3 = .ok (.istore 4, 2) := by decide +kernel
theorem d_M_said_5 : decode b_M_said 5 = .ok (.iload 4, 2) := by decide +kernel
theorem d_M_said_7 : decode b_M_said 7 = .ok (.aload_n 0, 1) := by decide +kernel
theorem d_M_said_8 : decode b_M_said 8 = .ok (.getfield 41, 3) := by decide +kernel
theorem d_M_said_11 : decode b_M_said 11 = .ok (.iload_n 1, 1) := by decide +kernel
theorem d_M_said_12 : decode b_M_said 12 = .ok (.iaload, 1) := by decide +kernel
theorem d_M_said_13 : decode b_M_said 13 = .ok (.if_icmp .ge 32, 3) := by decide +kernel
theorem d_M_said_16 : decode b_M_said 16 = .ok (.aload_n 0, 1) := by decide +kernel
theorem d_M_said_17 : decode b_M_said 17 = .ok (.getfield 44, 3) := by decide +kernel
theorem d_M_said_20 : decode b_M_said 20 = .ok (.bipush 8, 2) := by decide +kernel
theorem d_M_said_22 : decode b_M_said 22 = .ok (.iload_n 1, 1) := by decide +kernel
theorem d_M_said_23 : decode b_M_said 23 = .ok (.imul, 1) := by decide +kernel
theorem d_M_said_24 : decode b_M_said 24 = .ok (.iload 4, 2) := by decide +kernel
theorem d_M_said_26 : decode b_M_said 26 = .ok (.iadd, 1) := by decide +kernel
theorem d_M_said_27 : decode b_M_said 27 = .ok (.iaload, 1) := by decide +kernel
theorem d_M_said_28 : decode b_M_said 28 = .ok (.iload_n 2, 1) := by decide +kernel
theorem d_M_said_29 : decode b_M_said 29 = .ok (.if_icmp .ne 8, 3) := by decide +kernel
theorem d_M_said_32 : decode b_M_said 32 = .ok (.iload 4, 2) := by decide +kernel
theorem d_M_said_34 : decode b_M_said 34 = .ok (.goto 4, 3) := by decide +kernel
theorem d_M_said_37 : decode b_M_said 37 = .ok (.iload_n 3, 1) := by decide +kernel
theorem d_M_said_38 : decode b_M_said 38 = .ok (.istore_n 3, 1) := by decide +kernel
theorem d_M_said_39 : decode b_M_said 39 = .ok (.iinc 4 1, 3) := by decide +kernel
theorem d_M_said_42 : decode b_M_said 42 = .ok (.goto (-37), 3) := by decide +kernel
theorem d_M_said_45 : decode b_M_said 45 = .ok (.iload_n 3, 1) := by decide +kernel
theorem d_M_said_46 : decode b_M_said 46 = .ok (.ireturn, 1) := by decide +kernel
theorem d_M_coming_0 : decode b_M_coming 0 = .ok (.aload_n 0, 1) := by decide +kernel
theorem d_M_coming_1 : decode b_M_coming 1 = .ok (.iload_n 1, 1) := by decide +kernel
theorem d_M_coming_2 : decode b_M_coming 2 = .ok (.aload_n 0, 1) := by decide +kernel
theorem d_M_coming_3 : decode b_M_coming 3 = .ok (.getfield 156, 3) := by decide +kernel
theorem d_M_coming_6 : decode b_M_coming 6 = .ok (.invokevirtual 162, 3) := by decide +kernel
theorem d_M_coming_9 : decode b_M_coming 9 = .ok (.istore_n 3, 1) := by decide +kernel
theorem d_M_coming_10 : decode b_M_coming 10 = .ok (.iload_n 3, 1) := by decide +kernel
theorem d_M_coming_11 : decode b_M_coming 11 = .ok (.ifCond .ge 5, 3) := by decide +kernel
theorem d_M_coming_14 : decode b_M_coming 14 = .ok (.iload_n 2, 1) := by decide +kernel
theorem d_M_coming_15 : decode b_M_coming 15 = .ok (.ireturn, 1) := by decide +kernel
theorem d_M_coming_16 : decode b_M_coming 16 = .ok (.aload_n 0, 1) := by decide +kernel
theorem d_M_coming_17 : decode b_M_coming 17 = .ok (.getfield 47, 3) := by decide +kernel
theorem d_M_coming_20 : decode b_M_coming 20 = .ok (.bipush 8, 2) := by decide +kernel
theorem d_M_coming_22 : decode b_M_coming 22 = .ok (.iload_n 1, 1) := by decide +kernel
theorem d_M_coming_23 : decode b_M_coming 23 = .ok (.imul, 1) := by decide +kernel
theorem d_M_coming_24 : decode b_M_coming 24 = .ok (.iload_n 3, 1) := by decide +kernel
theorem d_M_coming_25 : decode b_M_coming 25 = .ok (.iadd, 1) := by decide +kernel
theorem d_M_coming_26 : decode b_M_coming 26 = .ok (.iaload, 1) := by decide +kernel
theorem d_M_coming_27 : decode b_M_coming 27 = .ok (.istore 4, 2) := by decide +kernel
theorem d_M_coming_29 : decode b_M_coming 29 = .ok (.aload_n 0, 1) := by decide +kernel
theorem d_M_coming_30 : decode b_M_coming 30 = .ok (.getfield 41, 3) := by decide +kernel
theorem d_M_coming_33 : decode b_M_coming 33 = .ok (.iload_n 1, 1) := by decide +kernel
theorem d_M_coming_34 : decode b_M_coming 34 = .ok (.aload_n 0, 1) := by decide +kernel
theorem d_M_coming_35 : decode b_M_coming 35 = .ok (.getfield 41, 3) := by decide +kernel
theorem d_M_coming_38 : decode b_M_coming 38 = .ok (.iload_n 1, 1) := by decide +kernel
theorem d_M_coming_39 : decode b_M_coming 39 = .ok (.iaload, 1) := by decide +kernel
theorem d_M_coming_40 : decode b_M_coming 40 = .ok (.iconst 1, 1) := by decide +kernel
theorem d_M_coming_41 : decode b_M_coming 41 = .ok (.isub, 1) := by decide +kernel
theorem d_M_coming_42 : decode b_M_coming 42 = .ok (.iastore, 1) := by decide +kernel
theorem d_M_coming_43 : decode b_M_coming 43 = .ok (.aload_n 0, 1) := by decide +kernel
theorem d_M_coming_44 : decode b_M_coming 44 = .ok (.getfield 44, 3) := by decide +kernel
theorem d_M_coming_47 : decode b_M_coming 47 = .ok (.bipush 8, 2) := by decide +kernel
theorem d_M_coming_49 : decode b_M_coming 49 = .ok (.iload_n 1, 1) := by decide +kernel
theorem d_M_coming_50 : decode b_M_coming 50 = .ok (.imul, 1) := by decide +kernel
theorem d_M_coming_51 : decode b_M_coming 51 = .ok (.iload_n 3, 1) := by decide +kernel
theorem d_M_coming_52 : decode b_M_coming 52 = .ok (.iadd, 1) := by decide +kernel
theorem d_M_coming_53 : decode b_M_coming 53 = .ok (.aload_n 0, 1) := by decide +kernel
theorem d_M_coming_54 : decode b_M_coming 54 = .ok (.getfield 44, 3) := by decide +kernel
theorem d_M_coming_57 : decode b_M_coming 57 = .ok (.bipush 8, 2) := by decide +kernel
theorem d_M_coming_59 : decode b_M_coming 59 = .ok (.iload_n 1, 1) := by decide +kernel
theorem d_M_coming_60 : decode b_M_coming 60 = .ok (.imul, 1) := by decide +kernel
theorem d_M_coming_61 : decode b_M_coming 61 = .ok (.aload_n 0, 1) := by decide +kernel
theorem d_M_coming_62 : decode b_M_coming 62 = .ok (.getfield 41, 3) := by decide +kernel
theorem d_M_coming_65 : decode b_M_coming 65 = .ok (.iload_n 1, 1) := by decide +kernel
theorem d_M_coming_66 : decode b_M_coming 66 = .ok (.iaload, 1) := by decide +kernel
theorem d_M_coming_67 : decode b_M_coming 67 = .ok (.iadd, 1) := by decide +kernel
theorem d_M_coming_68 : decode b_M_coming 68 = .ok (.iaload, 1) := by decide +kernel
theorem d_M_coming_69 : decode b_M_coming 69 = .ok (.iastore, 1) := by decide +kernel
theorem d_M_coming_70 : decode b_M_coming 70 = .ok (.aload_n 0, 1) := by decide +kernel
theorem d_M_coming_71 : decode b_M_coming 71 = .ok (.getfield 47, 3) := by decide +kernel
theorem d_M_coming_74 : decode b_M_coming 74 = .ok (.bipush 8, 2) := by decide +kernel
theorem d_M_coming_76 : decode b_M_coming 76 = .ok (.iload_n 1, 1) := by decide +kernel
theorem d_M_coming_77 : decode b_M_coming 77 = .ok (.imul, 1) := by decide +kernel
theorem d_M_coming_78 : decode b_M_coming 78 = .ok (.iload_n 3, 1) := by decide +kernel
theorem d_M_coming_79 : decode b_M_coming 79 = .ok (.iadd, 1) := by decide +kernel
theorem d_M_coming_80 : decode b_M_coming 80 = .ok (.aload_n 0, 1) := by decide +kernel
theorem d_M_coming_81 : decode b_M_coming 81 = .ok (.getfield 47, 3) := by decide +kernel
theorem d_M_coming_84 : decode b_M_coming 84 = .ok (.bipush 8, 2) := by decide +kernel
theorem d_M_coming_86 : decode b_M_coming 86 = .ok (.iload_n 1, 1) := by decide +kernel
theorem d_M_coming_87 : decode b_M_coming 87 = .ok (.imul, 1) := by decide +kernel
theorem d_M_coming_88 : decode b_M_coming 88 = .ok (.aload_n 0, 1) := by decide +kernel
theorem d_M_coming_89 : decode b_M_coming 89 = .ok (.getfield 41, 3) := by decide +kernel
theorem d_M_coming_92 : decode b_M_coming 92 = .ok (.iload_n 1, 1) := by decide +kernel
theorem d_M_coming_93 : decode b_M_coming 93 = .ok (.iaload, 1) := by decide +kernel
theorem d_M_coming_94 : decode b_M_coming 94 = .ok (.iadd, 1) := by decide +kernel
theorem d_M_coming_95 : decode b_M_coming 95 = .ok (.iaload, 1) := by decide +kernel
theorem d_M_coming_96 : decode b_M_coming 96 = .ok (.iastore, 1) := by decide +kernel
theorem d_M_coming_97 : decode b_M_coming 97 = .ok (.iload 4, 2) := by decide +kernel
theorem d_M_coming_99 : decode b_M_coming 99 = .ok (.ireturn, 1) := by decide +kernel
theorem d_M_fault_0 : decode b_M_fault 0 = .ok (.aload_n 0, 1) := by decide +kernel
theorem d_M_fault_1 : decode b_M_fault 1 = .ok (.getfield 134, 3) := by decide +kernel
theorem d_M_fault_4 : decode b_M_fault 4 = .ok (.iconst 5, 1) := by decide +kernel
theorem d_M_fault_5 : decode b_M_fault 5 = .ok (.iload_n 1, 1) := by decide +kernel
theorem d_M_fault_6 : decode b_M_fault 6 = .ok (.imul, 1) := by decide +kernel
theorem d_M_fault_7 : decode b_M_fault 7 = .ok (.iload_n 3, 1) := by decide +kernel
theorem d_M_fault_8 : decode b_M_fault 8 = .ok (.iadd, 1) := by decide +kernel
theorem d_M_fault_9 : decode b_M_fault 9 = .ok (.iload_n 2, 1) := by decide +kernel
theorem d_M_fault_10 : decode b_M_fault 10 = .ok (.ifCond .eq 18, 3) := by decide +kernel
theorem d_M_fault_13 : decode b_M_fault 13 = .ok (.aload_n 0, 1) := by decide +kernel
theorem d_M_fault_14 : decode b_M_fault 14 = .ok (.getfield 134, 3) := by decide +kernel
theorem d_M_fault_17 : decode b_M_fault 17 = .ok (.iconst 5, 1) := by decide +kernel
theorem d_M_fault_18 : decode b_M_fault 18 = .ok (.iload_n 1, 1) := by decide +kernel
theorem d_M_fault_19 : decode b_M_fault 19 = .ok (.imul, 1) := by decide +kernel
theorem d_M_fault_20 : decode b_M_fault 20 = .ok (.iload_n 3, 1) := by decide +kernel
theorem d_M_fault_21 : decode b_M_fault 21 = .ok (.iadd, 1) := by decide +kernel
theorem d_M_fault_22 : decode b_M_fault 22 = .ok (.iaload, 1) := by decide +kernel
theorem d_M_fault_23 : decode b_M_fault 23 = .ok (.iconst 1, 1) := by decide +kernel
theorem d_M_fault_24 : decode b_M_fault 24 = .ok (.iadd, 1) := by decide +kernel
theorem d_M_fault_25 : decode b_M_fault 25 = .ok (.goto 13, 3) := by decide +kernel
theorem d_M_fault_28 : decode b_M_fault 28 = .ok (.aload_n 0, 1) := by decide +kernel
theorem d_M_fault_29 : decode b_M_fault 29 = .ok (.getfield 134, 3) := by decide +kernel
theorem d_M_fault_32 : decode b_M_fault 32 = .ok (.iconst 5, 1) := by decide +kernel
theorem d_M_fault_33 : decode b_M_fault 33 = .ok (.iload_n 1, 1) := by decide +kernel
theorem d_M_fault_34 : decode b_M_fault 34 = .ok (.imul, 1) := by decide +kernel
theorem d_M_fault_35 : decode b_M_fault 35 = .ok (.iload_n 3, 1) := by decide +kernel
theorem d_M_fault_36 : decode b_M_fault 36 = .ok (.iadd, 1) := by decide +kernel
theorem d_M_fault_37 : decode b_M_fault 37 = .ok (.iaload, 1) := by decide +kernel
theorem d_M_fault_38 : decode b_M_fault 38 = .ok (.iastore, 1) := by decide +kernel
theorem d_M_fault_39 : decode b_M_fault 39 = .ok (.return_, 1) := by decide +kernel
theorem d_M_take_0 : decode b_M_take 0 = .ok (.iconst 3, 1) := by decide +kernel
theorem d_M_take_1 : decode b_M_take 1 = .ok (.iload_n 1, 1) := by decide +kernel
theorem d_M_take_2 : decode b_M_take 2 = .ok (.imul, 1) := by decide +kernel
theorem d_M_take_3 : decode b_M_take 3 = .ok (.istore_n 3, 1) := by decide +kernel
theorem d_M_take_4 : decode b_M_take 4 = .ok (.aload_n 0, 1) := by decide +kernel
theorem d_M_take_5 : decode b_M_take 5 = .ok (.getfield 56, 3) := by decide +kernel
theorem d_M_take_8 : decode b_M_take 8 = .ok (.iload_n 1, 1) := by decide +kernel
theorem d_M_take_9 : decode b_M_take 9 = .ok (.iload_n 2, 1) := by decide +kernel
theorem d_M_take_10 : decode b_M_take 10 = .ok (.iastore, 1) := by decide +kernel
theorem d_M_take_11 : decode b_M_take 11 = .ok (.aload_n 0, 1) := by decide +kernel
theorem d_M_take_12 : decode b_M_take 12 = .ok (.getfield 53, 3) := by decide +kernel
theorem d_M_take_15 : decode b_M_take 15 = .ok (.iload_n 1, 1) := by decide +kernel
theorem d_M_take_16 : decode b_M_take 16 = .ok (.aload_n 0, 1) := by decide +kernel
theorem d_M_take_17 : decode b_M_take 17 = .ok (.getfield 53, 3) := by decide +kernel
theorem d_M_take_20 : decode b_M_take 20 = .ok (.iload_n 1, 1) := by decide +kernel
theorem d_M_take_21 : decode b_M_take 21 = .ok (.iaload, 1) := by decide +kernel
theorem d_M_take_22 : decode b_M_take 22 = .ok (.iconst 4, 1) := by decide +kernel
theorem d_M_take_23 : decode b_M_take 23 = .ok (.if_icmp .ge 14, 3) := by decide +kernel
theorem d_M_take_26 : decode b_M_take 26 = .ok (.aload_n 0, 1) := by decide +kernel
theorem d_M_take_27 : decode b_M_take 27 = .ok (.getfield 53, 3) := by decide +kernel
theorem d_M_take_30 : decode b_M_take 30 = .ok (.iload_n 1, 1) := by decide +kernel
theorem d_M_take_31 : decode b_M_take 31 = .ok (.iaload, 1) := by decide +kernel
theorem d_M_take_32 : decode b_M_take 32 = .ok (.iconst 1, 1) := by decide +kernel
theorem d_M_take_33 : decode b_M_take 33 = .ok (.iadd, 1) := by decide +kernel
theorem d_M_take_34 : decode b_M_take 34 = .ok (.goto 4, 3) := by decide +kernel
theorem d_M_take_37 : decode b_M_take 37 = .ok (.iconst 4, 1) := by decide +kernel
theorem d_M_take_38 : decode b_M_take 38 = .ok (.iastore, 1) := by decide +kernel
theorem d_M_take_39 : decode b_M_take 39 = .ok (.iload_n 2, 1) := by decide +kernel
theorem d_M_take_40 : decode b_M_take 40 = .ok (.ifCond .eq 17, 3) := by decide +kernel
theorem d_M_take_43 : decode b_M_take 43 = .ok (.iload_n 2, 1) := by decide +kernel
theorem d_M_take_44 : decode b_M_take 44 = .ok (.aload_n 0, 1) := by decide +kernel
theorem d_M_take_45 : decode b_M_take 45 = .ok (.getfield 65, 3) := by decide +kernel
theorem d_M_take_48 : decode b_M_take 48 = .ok (.iload_n 1, 1) := by decide +kernel
theorem d_M_take_49 : decode b_M_take 49 = .ok (.iaload, 1) := by decide +kernel
theorem d_M_take_50 : decode b_M_take 50 = .ok (.if_icmp .ne 7, 3) := by decide +kernel
theorem d_M_take_53 : decode b_M_take 53 = .ok (.iconst 1, 1) := by decide +kernel
theorem d_M_take_54 : decode b_M_take 54 = .ok (.goto 4, 3) := by decide +kernel
theorem d_M_take_57 : decode b_M_take 57 = .ok (.iconst 0, 1) := by decide +kernel
theorem d_M_take_58 : decode b_M_take 58 = .ok (.istore 4, 2) := by decide +kernel
theorem d_M_take_60 : decode b_M_take 60 = .ok (.iload 4, 2) := by decide +kernel
theorem d_M_take_62 : decode b_M_take 62 = .ok (.ifCond .eq 27, 3) := by decide +kernel
theorem d_M_take_65 : decode b_M_take 65 = .ok (.aload_n 0, 1) := by decide +kernel
theorem d_M_take_66 : decode b_M_take 66 = .ok (.getfield 59, 3) := by decide +kernel
theorem d_M_take_69 : decode b_M_take 69 = .ok (.iload_n 3, 1) := by decide +kernel
theorem d_M_take_70 : decode b_M_take 70 = .ok (.iaload, 1) := by decide +kernel
theorem d_M_take_71 : decode b_M_take 71 = .ok (.ifCond .ne 18, 3) := by decide +kernel
theorem d_M_take_74 : decode b_M_take 74 = .ok (.aload_n 0, 1) := by decide +kernel
theorem d_M_take_75 : decode b_M_take 75 = .ok (.getfield 59, 3) := by decide +kernel
theorem d_M_take_78 : decode b_M_take 78 = .ok (.iload_n 3, 1) := by decide +kernel
theorem d_M_take_79 : decode b_M_take 79 = .ok (.iconst 1, 1) := by decide +kernel
theorem d_M_take_80 : decode b_M_take 80 = .ok (.iadd, 1) := by decide +kernel
theorem d_M_take_81 : decode b_M_take 81 = .ok (.iaload, 1) := by decide +kernel
theorem d_M_take_82 : decode b_M_take 82 = .ok (.ifCond .ne 7, 3) := by decide +kernel
theorem d_M_take_85 : decode b_M_take 85 = .ok (.iconst 1, 1) := by decide +kernel
theorem d_M_take_86 : decode b_M_take 86 = .ok (.goto 4, 3) := by decide +kernel
theorem d_M_take_89 : decode b_M_take 89 = .ok (.iconst 0, 1) := by decide +kernel
theorem d_M_take_90 : decode b_M_take 90 = .ok (.istore 5, 2) := by decide +kernel
theorem d_M_take_92 : decode b_M_take 92 = .ok (.aload_n 0, 1) := by decide +kernel
theorem d_M_take_93 : decode b_M_take 93 = .ok (.iload_n 1, 1) := by decide +kernel
theorem d_M_take_94 : decode b_M_take 94 = .ok (.iload 4, 2) := by decide +kernel
theorem d_M_take_96 : decode b_M_take 96 = .ok (.ifCond .eq 12, 3) := by decide +kernel
theorem d_M_take_99 : decode b_M_take 99 = .ok (.iload 5, 2) := by decide +kernel
theorem d_M_take_101 : decode b_M_take 101 = .ok (.ifCond .ne 7, 3) := by decide +kernel
theorem d_M_take_104 : decode b_M_take 104 = .ok (.iconst 1, 1) := by decide +kernel
theorem d_M_take_105 : decode b_M_take 105 = .ok (.goto 4, 3) := by decide +kernel
theorem d_M_take_108 : decode b_M_take 108 = .ok (.iconst 0, 1) := by decide +kernel
theorem d_M_take_109 : decode b_M_take 109 = .ok (.iconst 1, 1) := by decide +kernel
theorem d_M_take_110 : decode b_M_take 110 = .ok (.invokevirtual 165, 3) := by decide +kernel
theorem d_M_take_113 : decode b_M_take 113 = .ok (.aload_n 0, 1) := by decide +kernel
theorem d_M_take_114 : decode b_M_take 114 = .ok (.iload_n 1, 1) := by decide +kernel
theorem d_M_take_115 : decode b_M_take 115 = .ok (.iload 5, 2) := by decide +kernel
theorem d_M_take_117 : decode b_M_take 117 = .ok (.ifCond .eq 17, 3) := by decide +kernel
theorem d_M_take_120 : decode b_M_take 120 = .ok (.aload_n 0, 1) := by decide +kernel
theorem d_M_take_121 : decode b_M_take 121 = .ok (.getfield 68, 3) := by decide +kernel
theorem d_M_take_124 : decode b_M_take 124 = .ok (.iload_n 1, 1) := by decide +kernel
theorem d_M_take_125 : decode b_M_take 125 = .ok (.iaload, 1) := by decide +kernel
theorem d_M_take_126 : decode b_M_take 126 = .ok (.iload_n 2, 1) := by decide +kernel
theorem d_M_take_127 : decode b_M_take 127 = .ok (.if_icmp .ne 7, 3) := by decide +kernel
theorem d_M_take_130 : decode b_M_take 130 = .ok (.iconst 1, 1) := by decide +kernel
theorem d_M_take_131 : decode b_M_take 131 = .ok (.goto 4, 3) := by decide +kernel
theorem d_M_take_134 : decode b_M_take 134 = .ok (.iconst 0, 1) := by decide +kernel
theorem d_M_take_135 : decode b_M_take 135 = .ok (.iconst 1, 1) := by decide +kernel
theorem d_M_take_136 : decode b_M_take 136 = .ok (.invokevirtual 165, 3) := by decide +kernel
theorem d_M_take_139 : decode b_M_take 139 = .ok (.aload_n 0, 1) := by decide +kernel
theorem d_M_take_140 : decode b_M_take 140 = .ok (.getfield 68, 3) := by decide +kernel
theorem d_M_take_143 : decode b_M_take 143 = .ok (.iload_n 1, 1) := by decide +kernel
theorem d_M_take_144 : decode b_M_take 144 = .ok (.iload 5, 2) := by decide +kernel
theorem d_M_take_146 : decode b_M_take 146 = .ok (.ifCond .eq 7, 3) := by decide +kernel
theorem d_M_take_149 : decode b_M_take 149 = .ok (.iload_n 2, 1) := by decide +kernel
theorem d_M_take_150 : decode b_M_take 150 = .ok (.goto 9, 3) := by decide +kernel
theorem d_M_take_153 : decode b_M_take 153 = .ok (.aload_n 0, 1) := by decide +kernel
theorem d_M_take_154 : decode b_M_take 154 = .ok (.getfield 68, 3) := by decide +kernel
theorem d_M_take_157 : decode b_M_take 157 = .ok (.iload_n 1, 1) := by decide +kernel
theorem d_M_take_158 : decode b_M_take 158 = .ok (.iaload, 1) := by decide +kernel
theorem d_M_take_159 : decode b_M_take 159 = .ok (.iastore, 1) := by decide +kernel
theorem d_M_take_160 : decode b_M_take 160 = .ok (.aload_n 0, 1) := by decide +kernel
theorem d_M_take_161 : decode b_M_take 161 = .ok (.getfield 71, 3) := by decide +kernel
theorem d_M_take_164 : decode b_M_take 164 = .ok (.iload_n 1, 1) := by decide +kernel
theorem d_M_take_165 : decode b_M_take 165 = .ok (.iload_n 2, 1) := by decide +kernel
theorem d_M_take_166 : decode b_M_take 166 = .ok (.ifCond .ne 23, 3) := by decide +kernel
theorem d_M_take_169 : decode b_M_take 169 = .ok (.aload_n 0, 1) := by decide +kernel
theorem d_M_take_170 : decode b_M_take 170 = .ok (.getfield 65, 3) := by decide +kernel
theorem d_M_take_173 : decode b_M_take 173 = .ok (.iload_n 1, 1) := by decide +kernel
theorem d_M_take_174 : decode b_M_take 174 = .ok (.iaload, 1) := by decide +kernel
theorem d_M_take_175 : decode b_M_take 175 = .ok (.ifCond .eq 14, 3) := by decide +kernel
theorem d_M_take_178 : decode b_M_take 178 = .ok (.aload_n 0, 1) := by decide +kernel
theorem d_M_take_179 : decode b_M_take 179 = .ok (.getfield 71, 3) := by decide +kernel
theorem d_M_take_182 : decode b_M_take 182 = .ok (.iload_n 1, 1) := by decide +kernel
theorem d_M_take_183 : decode b_M_take 183 = .ok (.iaload, 1) := by decide +kernel
theorem d_M_take_184 : decode b_M_take 184 = .ok (.iconst 1, 1) := by decide +kernel
theorem d_M_take_185 : decode b_M_take 185 = .ok (.iadd, 1) := by decide +kernel
theorem d_M_take_186 : decode b_M_take 186 = .ok (.goto 4, 3) := by decide +kernel
theorem d_M_take_189 : decode b_M_take 189 = .ok (.iconst 0, 1) := by decide +kernel
theorem d_M_take_190 : decode b_M_take 190 = .ok (.iastore, 1) := by decide +kernel
theorem d_M_take_191 : decode b_M_take 191 = .ok (.aload_n 0, 1) := by decide +kernel
theorem d_M_take_192 : decode b_M_take 192 = .ok (.iload_n 1, 1) := by decide +kernel
theorem d_M_take_193 : decode b_M_take 193 = .ok (.aload_n 0, 1) := by decide +kernel
theorem d_M_take_194 : decode b_M_take 194 = .ok (.getfield 71, 3) := by decide +kernel
theorem d_M_take_197 : decode b_M_take 197 = .ok (.iload_n 1, 1) := by decide +kernel
theorem d_M_take_198 : decode b_M_take 198 = .ok (.iaload, 1) := by decide +kernel
theorem d_M_take_199 : decode b_M_take 199 = .ok (.iconst 4, 1) := by decide +kernel
theorem d_M_take_200 : decode b_M_take 200 = .ok (.if_icmp .ne 7, 3) := by decide +kernel
theorem d_M_take_203 : decode b_M_take 203 = .ok (.iconst 1, 1) := by decide +kernel
theorem d_M_take_204 : decode b_M_take 204 = .ok (.goto 4, 3) := by decide +kernel
theorem d_M_take_207 : decode b_M_take 207 = .ok (.iconst 0, 1) := by decide +kernel
theorem d_M_take_208 : decode b_M_take 208 = .ok (.iconst 1, 1) := by decide +kernel
theorem d_M_take_209 : decode b_M_take 209 = .ok (.invokevirtual 165, 3) := by decide +kernel
theorem d_M_take_212 : decode b_M_take 212 = .ok (.aload_n 0, 1) := by decide +kernel
theorem d_M_take_213 : decode b_M_take 213 = .ok (.getfield 71, 3) := by decide +kernel
theorem d_M_take_216 : decode b_M_take 216 = .ok (.iload_n 1, 1) := by decide +kernel
theorem d_M_take_217 : decode b_M_take 217 = .ok (.aload_n 0, 1) := by decide +kernel
theorem d_M_take_218 : decode b_M_take 218 = .ok (.getfield 71, 3) := by decide +kernel
theorem d_M_take_221 : decode b_M_take 221 = .ok (.iload_n 1, 1) := by decide +kernel
theorem d_M_take_222 : decode b_M_take 222 = .ok (.iaload, 1) := by decide +kernel
theorem d_M_take_223 : decode b_M_take 223 = .ok (.iconst 4, 1) := by decide +kernel
theorem d_M_take_224 : decode b_M_take 224 = .ok (.irem, 1) := by decide +kernel
theorem d_M_take_225 : decode b_M_take 225 = .ok (.iastore, 1) := by decide +kernel
theorem d_M_take_226 : decode b_M_take 226 = .ok (.aload_n 0, 1) := by decide +kernel
theorem d_M_take_227 : decode b_M_take 227 = .ok (.getfield 65, 3) := by decide +kernel
theorem d_M_take_230 : decode b_M_take 230 = .ok (.iload_n 1, 1) := by decide +kernel
theorem d_M_take_231 : decode b_M_take 231 = .ok (.iload_n 2, 1) := by decide +kernel
theorem d_M_take_232 : decode b_M_take 232 = .ok (.ifCond .ne 12, 3) := by decide +kernel
theorem d_M_take_235 : decode b_M_take 235 = .ok (.aload_n 0, 1) := by decide +kernel
theorem d_M_take_236 : decode b_M_take 236 = .ok (.getfield 65, 3) := by decide +kernel
theorem d_M_take_239 : decode b_M_take 239 = .ok (.iload_n 1, 1) := by decide +kernel
theorem d_M_take_240 : decode b_M_take 240 = .ok (.iaload, 1) := by decide +kernel
theorem d_M_take_241 : decode b_M_take 241 = .ok (.goto 4, 3) := by decide +kernel
theorem d_M_take_244 : decode b_M_take 244 = .ok (.iload_n 2, 1) := by decide +kernel
theorem d_M_take_245 : decode b_M_take 245 = .ok (.iastore, 1) := by decide +kernel
theorem d_M_take_246 : decode b_M_take 246 = .ok (.aload_n 0, 1) := by decide +kernel
theorem d_M_take_247 : decode b_M_take 247 = .ok (.getfield 59, 3) := by decide +kernel
theorem d_M_take_250 : decode b_M_take 250 = .ok (.iload_n 3, 1) := by decide +kernel
theorem d_M_take_251 : decode b_M_take 251 = .ok (.iconst 2, 1) := by decide +kernel
theorem d_M_take_252 : decode b_M_take 252 = .ok (.iadd, 1) := by decide +kernel
theorem d_M_take_253 : decode b_M_take 253 = .ok (.iaload, 1) := by decide +kernel
theorem d_M_take_254 : decode b_M_take 254 = .ok (.ifCond .eq 23, 3) := by decide +kernel
theorem d_M_take_257 : decode b_M_take 257 = .ok (.aload_n 0, 1) := by decide +kernel
theorem d_M_take_258 : decode b_M_take 258 = .ok (.getfield 62, 3) := by decide +kernel
theorem d_M_take_261 : decode b_M_take 261 = .ok (.iload_n 3, 1) := by decide +kernel
theorem d_M_take_262 : decode b_M_take 262 = .ok (.iconst 2, 1) := by decide +kernel
theorem d_M_take_263 : decode b_M_take 263 = .ok (.iadd, 1) := by decide +kernel
theorem d_M_take_264 : decode b_M_take 264 = .ok (.baload, 1) := by decide +kernel
theorem d_M_take_265 : decode b_M_take 265 = .ok (.ifCond .ne 12, 3) := by decide +kernel
theorem d_M_take_268 : decode b_M_take 268 = .ok (.iload 5, 2) := by decide +kernel
theorem d_M_take_270 : decode b_M_take 270 = .ok (.ifCond .ne 7, 3) := by decide +kernel
theorem d_M_take_273 : decode b_M_take 273 = .ok (.iconst 1, 1) := by decide +kernel
theorem d_M_take_274 : decode b_M_take 274 = .ok (.goto 4, 3) := by decide +kernel
theorem d_M_take_277 : decode b_M_take 277 = .ok (.iconst 0, 1) := by decide +kernel
theorem d_M_take_278 : decode b_M_take 278 = .ok (.istore 6, 2) := by decide +kernel
theorem d_M_take_280 : decode b_M_take 280 = .ok (.iconst 2, 1) := by decide +kernel
theorem d_M_take_281 : decode b_M_take 281 = .ok (.istore 7, 2) := by decide +kernel
theorem d_M_take_283 : decode b_M_take 283 = .ok (.iload 7, 2) := by decide +kernel
theorem d_M_take_285 : decode b_M_take 285 = .ok (.ifCond .le 49, 3) := by decide +kernel
theorem d_M_take_288 : decode b_M_take 288 = .ok (.aload_n 0, 1) := by decide +kernel
theorem d_M_take_289 : decode b_M_take 289 = .ok (.getfield 59, 3) := by decide +kernel
theorem d_M_take_292 : decode b_M_take 292 = .ok (.iload_n 3, 1) := by decide +kernel
theorem d_M_take_293 : decode b_M_take 293 = .ok (.iload 7, 2) := by decide +kernel
theorem d_M_take_295 : decode b_M_take 295 = .ok (.iadd, 1) := by decide +kernel
theorem d_M_take_296 : decode b_M_take 296 = .ok (.aload_n 0, 1) := by decide +kernel
theorem d_M_take_297 : decode b_M_take 297 = .ok (.getfield 59, 3) := by decide +kernel
theorem d_M_take_300 : decode b_M_take 300 = .ok (.iload_n 3, 1) := by decide +kernel
theorem d_M_take_301 : decode b_M_take 301 = .ok (.iload 7, 2) := by decide +kernel
theorem d_M_take_303 : decode b_M_take 303 = .ok (.iadd, 1) := by decide +kernel
theorem d_M_take_304 : decode b_M_take 304 = .ok (.iconst 1, 1) := by decide +kernel
theorem d_M_take_305 : decode b_M_take 305 = .ok (.isub, 1) := by decide +kernel
theorem d_M_take_306 : decode b_M_take 306 = .ok (.iaload, 1) := by decide +kernel
theorem d_M_take_307 : decode b_M_take 307 = .ok (.iastore, 1) := by decide +kernel
theorem d_M_take_308 : decode b_M_take 308 = .ok (.aload_n 0, 1) := by decide +kernel
theorem d_M_take_309 : decode b_M_take 309 = .ok (.getfield 62, 3) := by decide +kernel
theorem d_M_take_312 : decode b_M_take 312 = .ok (.iload_n 3, 1) := by decide +kernel
theorem d_M_take_313 : decode b_M_take 313 = .ok (.iload 7, 2) := by decide +kernel
theorem d_M_take_315 : decode b_M_take 315 = .ok (.iadd, 1) := by decide +kernel
theorem d_M_take_316 : decode b_M_take 316 = .ok (.aload_n 0, 1) := by decide +kernel
theorem d_M_take_317 : decode b_M_take 317 = .ok (.getfield 62, 3) := by decide +kernel
theorem d_M_take_320 : decode b_M_take 320 = .ok (.iload_n 3, 1) := by decide +kernel
theorem d_M_take_321 : decode b_M_take 321 = .ok (.iload 7, 2) := by decide +kernel
theorem d_M_take_323 : decode b_M_take 323 = .ok (.iadd, 1) := by decide +kernel
theorem d_M_take_324 : decode b_M_take 324 = .ok (.iconst 1, 1) := by decide +kernel
theorem d_M_take_325 : decode b_M_take 325 = .ok (.isub, 1) := by decide +kernel
theorem d_M_take_326 : decode b_M_take 326 = .ok (.baload, 1) := by decide +kernel
theorem d_M_take_327 : decode b_M_take 327 = .ok (.bastore, 1) := by decide +kernel
theorem d_M_take_328 : decode b_M_take 328 = .ok (.iinc 7 (-1), 3) := by decide +kernel
theorem d_M_take_331 : decode b_M_take 331 = .ok (.goto (-48), 3) := by decide +kernel
theorem d_M_take_334 : decode b_M_take 334 = .ok (.aload_n 0, 1) := by decide +kernel
theorem d_M_take_335 : decode b_M_take 335 = .ok (.getfield 59, 3) := by decide +kernel
theorem d_M_take_338 : decode b_M_take 338 = .ok (.iload_n 3, 1) := by decide +kernel
theorem d_M_take_339 : decode b_M_take 339 = .ok (.iload_n 2, 1) := by decide +kernel
theorem d_M_take_340 : decode b_M_take 340 = .ok (.iastore, 1) := by decide +kernel
theorem d_M_take_341 : decode b_M_take 341 = .ok (.aload_n 0, 1) := by decide +kernel
theorem d_M_take_342 : decode b_M_take 342 = .ok (.getfield 62, 3) := by decide +kernel
theorem d_M_take_345 : decode b_M_take 345 = .ok (.iload_n 3, 1) := by decide +kernel
theorem d_M_take_346 : decode b_M_take 346 = .ok (.iload 5, 2) := by decide +kernel
theorem d_M_take_348 : decode b_M_take 348 = .ok (.bastore, 1) := by decide +kernel
theorem d_M_take_349 : decode b_M_take 349 = .ok (.aload_n 0, 1) := by decide +kernel
theorem d_M_take_350 : decode b_M_take 350 = .ok (.getfield 53, 3) := by decide +kernel
theorem d_M_take_353 : decode b_M_take 353 = .ok (.iload_n 1, 1) := by decide +kernel
theorem d_M_take_354 : decode b_M_take 354 = .ok (.iaload, 1) := by decide +kernel
theorem d_M_take_355 : decode b_M_take 355 = .ok (.iconst 4, 1) := by decide +kernel
theorem d_M_take_356 : decode b_M_take 356 = .ok (.if_icmp .ne 10, 3) := by decide +kernel
theorem d_M_take_359 : decode b_M_take 359 = .ok (.aload_n 0, 1) := by decide +kernel
theorem d_M_take_360 : decode b_M_take 360 = .ok (.iload_n 1, 1) := by decide +kernel
theorem d_M_take_361 : decode b_M_take 361 = .ok (.iload 6, 2) := by decide +kernel
theorem d_M_take_363 : decode b_M_take 363 = .ok (.invokevirtual 169, 3) := by decide +kernel
theorem d_M_take_366 : decode b_M_take 366 = .ok (.return_, 1) := by decide +kernel
theorem d_M_search_0 : decode b_M_search 0 = .ok (.aload_n 0, 1) := by decide +kernel
theorem d_M_search_1 : decode b_M_search 1 = .ok (.getfield 74, 3) := by decide +kernel
theorem d_M_search_4 : decode b_M_search 4 = .ok (.iload_n 1, 1) := by decide +kernel
theorem d_M_search_5 : decode b_M_search 5 = .ok (.iconst 0, 1) := by decide +kernel
theorem d_M_search_6 : decode b_M_search 6 = .ok (.iastore, 1) := by decide +kernel
theorem d_M_search_7 : decode b_M_search 7 = .ok (.aload_n 0, 1) := by decide +kernel
theorem d_M_search_8 : decode b_M_search 8 = .ok (.getfield 77, 3) := by decide +kernel
theorem d_M_search_11 : decode b_M_search 11 = .ok (.iload_n 1, 1) := by decide +kernel
theorem d_M_search_12 : decode b_M_search 12 = .ok (.iconst 0, 1) := by decide +kernel
theorem d_M_search_13 : decode b_M_search 13 = .ok (.iastore, 1) := by decide +kernel
theorem d_M_search_14 : decode b_M_search 14 = .ok (.aload_n 0, 1) := by decide +kernel
theorem d_M_search_15 : decode b_M_search 15 = .ok (.iload_n 1, 1) := by decide +kernel
theorem d_M_search_16 : decode b_M_search 16 = .ok (.invokevirtual 173, 3) := by decide +kernel
theorem d_M_search_19 : decode b_M_search 19 = .ok (.return_, 1) := by decide +kernel
theorem d_M_forget_0 : decode b_M_forget 0 = .ok (.aload_n 0, 1) := by decide +kernel
theorem d_M_forget_1 : decode b_M_forget 1 = .ok (.getfield 101, 3) := by decide +kernel
theorem d_M_forget_4 : decode b_M_forget 4 = .ok (.iload_n 1, 1) := by decide +kernel
theorem d_M_forget_5 : decode b_M_forget 5 = .ok (.iconst 0, 1) := by decide +kernel
theorem d_M_forget_6 : decode b_M_forget 6 = .ok (.bastore, 1) := by decide +kernel
theorem d_M_forget_7 : decode b_M_forget 7 = .ok (.aload_n 0, 1) := by decide +kernel
theorem d_M_forget_8 : decode b_M_forget 8 = .ok (.getfield 116, 3) := by decide +kernel
theorem d_M_forget_11 : decode b_M_forget 11 = .ok (.iload_n 1, 1) := by decide +kernel
theorem d_M_forget_12 : decode b_M_forget 12 = .ok (.iconst 0, 1) := by decide +kernel
theorem d_M_forget_13 : decode b_M_forget 13 = .ok (.bastore, 1) := by decide +kernel
theorem d_M_forget_14 : decode b_M_forget 14 = .ok (.aload_n 0, 1) := by decide +kernel
theorem d_M_forget_15 : decode b_M_forget 15 = .ok (.getfield 125, 3) := by decide +kernel
theorem d_M_forget_18 : decode b_M_forget 18 = .ok (.iload_n 1, 1) := by decide +kernel
theorem d_M_forget_19 : decode b_M_forget 19 = .ok (.iconst 0, 1) := by decide +kernel
theorem d_M_forget_20 : decode b_M_forget 20 = .ok (.bastore, 1) := by decide +kernel
theorem d_M_forget_21 : decode b_M_forget 21 = .ok (.aload_n 0, 1) := by decide +kernel
theorem d_M_forget_22 : decode b_M_forget 22 = .ok (.getfield 131, 3) := by decide +kernel
theorem d_M_forget_25 : decode b_M_forget 25 = .ok (.iconst 2, 1) := by decide +kernel
theorem d_M_forget_26 : decode b_M_forget 26 = .ok (.iload_n 1, 1) := by decide +kernel
theorem d_M_forget_27 : decode b_M_forget 27 = .ok (.imul, 1) := by decide +kernel
theorem d_M_forget_28 : decode b_M_forget 28 = .ok (.iconst 0, 1) := by decide +kernel
theorem d_M_forget_29 : decode b_M_forget 29 = .ok (.bastore, 1) := by decide +kernel
theorem d_M_forget_30 : decode b_M_forget 30 = .ok (.aload_n 0, 1) := by decide +kernel
theorem d_M_forget_31 : decode b_M_forget 31 = .ok (.getfield 131, 3) := by decide +kernel
theorem d_M_forget_34 : decode b_M_forget 34 = .ok (.iconst 2, 1) := by decide +kernel
theorem d_M_forget_35 : decode b_M_forget 35 = .ok (.iload_n 1, 1) := by decide +kernel
theorem d_M_forget_36 : decode b_M_forget 36 = .ok (.imul, 1) := by decide +kernel
theorem d_M_forget_37 : decode b_M_forget 37 = .ok (.iconst 1, 1) := by decide +kernel
theorem d_M_forget_38 : decode b_M_forget 38 = .ok (.iadd, 1) := by decide +kernel
theorem d_M_forget_39 : decode b_M_forget 39 = .ok (.iconst 0, 1) := by decide +kernel
theorem d_M_forget_40 : decode b_M_forget 40 = .ok (.bastore, 1) := by decide +kernel
theorem d_M_forget_41 : decode b_M_forget 41 = .ok (.return_, 1) := by decide +kernel
theorem d_M_isWord_0 : decode b_M_isWord 0 = .ok (.aload_n 0, 1) := by decide +kernel
theorem d_M_isWord_1 : decode b_M_isWord 1 = .ok (.getfield 80, 3) := by decide +kernel
theorem d_M_isWord_4 : decode b_M_isWord 4 = .ok (.iload_n 1, 1) := by decide +kernel
theorem d_M_isWord_5 : decode b_M_isWord 5 = .ok (.iaload, 1) := by decide +kernel
theorem d_M_isWord_6 : decode b_M_isWord 6 = .ok (.bipush 127, 2) := by decide +kernel
theorem d_M_isWord_8 : decode b_M_isWord 8 = .ok (.iand, 1) := by decide +kernel
theorem d_M_isWord_9 : decode b_M_isWord 9 = .ok (.bipush 27, 2) := by decide +kernel
theorem d_M_isWord_11 : decode b_M_isWord 11 = .ok (.if_icmp .ne 7, 3) := by decide +kernel
theorem d_M_isWord_14 : decode b_M_isWord 14 = .ok (.iconst 1, 1) := by decide +kernel
theorem d_M_isWord_15 : decode b_M_isWord 15 = .ok (.goto 4, 3) := by decide +kernel
theorem d_M_isWord_18 : decode b_M_isWord 18 = .ok (.iconst 0, 1) := by decide +kernel
theorem d_M_isWord_19 : decode b_M_isWord 19 = .ok (.ireturn, 1) := by decide +kernel
theorem d_M_make_0 : decode b_M_make 0 = .ok (.aload_n 0, 1) := by decide +kernel
theorem d_M_make_1 : decode b_M_make 1 = .ok (.getfield 80, 3) := by decide +kernel
theorem d_M_make_4 : decode b_M_make 4 = .ok (.iload_n 1, 1) := by decide +kernel
theorem d_M_make_5 : decode b_M_make 5 = .ok (.aload_n 0, 1) := by decide +kernel
theorem d_M_make_6 : decode b_M_make 6 = .ok (.getfield 80, 3) := by decide +kernel
theorem d_M_make_9 : decode b_M_make 9 = .ok (.iload_n 1, 1) := by decide +kernel
theorem d_M_make_10 : decode b_M_make 10 = .ok (.iaload, 1) := by decide +kernel
theorem d_M_make_11 : decode b_M_make 11 = .ok (.iconst 1, 1) := by decide +kernel
theorem d_M_make_12 : decode b_M_make 12 = .ok (.ishl, 1) := by decide +kernel
theorem d_M_make_13 : decode b_M_make 13 = .ok (.iload_n 2, 1) := by decide +kernel
theorem d_M_make_14 : decode b_M_make 14 = .ok (.ior, 1) := by decide +kernel
theorem d_M_make_15 : decode b_M_make 15 = .ok (.iastore, 1) := by decide +kernel
theorem d_M_make_16 : decode b_M_make 16 = .ok (.aload_n 0, 1) := by decide +kernel
theorem d_M_make_17 : decode b_M_make 17 = .ok (.getfield 77, 3) := by decide +kernel
theorem d_M_make_20 : decode b_M_make 20 = .ok (.iload_n 1, 1) := by decide +kernel
theorem d_M_make_21 : decode b_M_make 21 = .ok (.aload_n 0, 1) := by decide +kernel
theorem d_M_make_22 : decode b_M_make 22 = .ok (.getfield 77, 3) := by decide +kernel
theorem d_M_make_25 : decode b_M_make 25 = .ok (.iload_n 1, 1) := by decide +kernel
theorem d_M_make_26 : decode b_M_make 26 = .ok (.iaload, 1) := by decide +kernel
theorem d_M_make_27 : decode b_M_make 27 = .ok (.bipush 100, 2) := by decide +kernel
theorem d_M_make_29 : decode b_M_make 29 = .ok (.if_icmp .ge 14, 3) := by decide +kernel
theorem d_M_make_32 : decode b_M_make 32 = .ok (.aload_n 0, 1) := by decide +kernel
theorem d_M_make_33 : decode b_M_make 33 = .ok (.getfield 77, 3) := by decide +kernel
theorem d_M_make_36 : decode b_M_make 36 = .ok (.iload_n 1, 1) := by decide +kernel
theorem d_M_make_37 : decode b_M_make 37 = .ok (.iaload, 1) := by decide +kernel
theorem d_M_make_38 : decode b_M_make 38 = .ok (.iconst 1, 1) := by decide +kernel
theorem d_M_make_39 : decode b_M_make 39 = .ok (.iadd, 1) := by decide +kernel
theorem d_M_make_40 : decode b_M_make 40 = .ok (.goto 9, 3) := by decide +kernel
theorem d_M_make_43 : decode b_M_make 43 = .ok (.aload_n 0, 1) := by decide +kernel
theorem d_M_make_44 : decode b_M_make 44 = .ok (.getfield 77, 3) := by decide +kernel
theorem d_M_make_47 : decode b_M_make 47 = .ok (.iload_n 1, 1) := by decide +kernel
theorem d_M_make_48 : decode b_M_make 48 = .ok (.iaload, 1) := by decide +kernel
theorem d_M_make_49 : decode b_M_make 49 = .ok (.iastore, 1) := by decide +kernel
theorem d_M_make_50 : decode b_M_make 50 = .ok (.aload_n 0, 1) := by decide +kernel
theorem d_M_make_51 : decode b_M_make 51 = .ok (.getfield 74, 3) := by decide +kernel
theorem d_M_make_54 : decode b_M_make 54 = .ok (.iload_n 1, 1) := by decide +kernel
theorem d_M_make_55 : decode b_M_make 55 = .ok (.iaload, 1) := by decide +kernel
theorem d_M_make_56 : decode b_M_make 56 = .ok (.iconst 2, 1) := by decide +kernel
theorem d_M_make_57 : decode b_M_make 57 = .ok (.if_icmp .ne 11, 3) := by decide +kernel
theorem d_M_make_60 : decode b_M_make 60 = .ok (.aload_n 0, 1) := by decide +kernel
theorem d_M_make_61 : decode b_M_make 61 = .ok (.iload_n 1, 1) := by decide +kernel
theorem d_M_make_62 : decode b_M_make 62 = .ok (.invokevirtual 176, 3) := by decide +kernel
theorem d_M_make_65 : decode b_M_make 65 = .ok (.goto 144, 3) := by decide +kernel
theorem d_M_make_68 : decode b_M_make 68 = .ok (.aload_n 0, 1) := by decide +kernel
theorem d_M_make_69 : decode b_M_make 69 = .ok (.getfield 74, 3) := by decide +kernel
theorem d_M_make_72 : decode b_M_make 72 = .ok (.iload_n 1, 1) := by decide +kernel
theorem d_M_make_73 : decode b_M_make 73 = .ok (.iaload, 1) := by decide +kernel
theorem d_M_make_74 : decode b_M_make 74 = .ok (.ifCond .ne 39, 3) := by decide +kernel
theorem d_M_make_77 : decode b_M_make 77 = .ok (.aload_n 0, 1) := by decide +kernel
theorem d_M_make_78 : decode b_M_make 78 = .ok (.getfield 77, 3) := by decide +kernel
theorem d_M_make_81 : decode b_M_make 81 = .ok (.iload_n 1, 1) := by decide +kernel
theorem d_M_make_82 : decode b_M_make 82 = .ok (.iaload, 1) := by decide +kernel
theorem d_M_make_83 : decode b_M_make 83 = .ok (.bipush 7, 2) := by decide +kernel
theorem d_M_make_85 : decode b_M_make 85 = .ok (.if_icmp .lt 124, 3) := by decide +kernel
theorem d_M_make_88 : decode b_M_make 88 = .ok (.aload_n 0, 1) := by decide +kernel
theorem d_M_make_89 : decode b_M_make 89 = .ok (.iload_n 1, 1) := by decide +kernel
theorem d_M_make_90 : decode b_M_make 90 = .ok (.invokevirtual 179, 3) := by decide +kernel
theorem d_M_make_93 : decode b_M_make 93 = .ok (.ifCond .eq 116, 3) := by decide +kernel
theorem d_M_make_96 : decode b_M_make 96 = .ok (.aload_n 0, 1) := by decide +kernel
theorem d_M_make_97 : decode b_M_make 97 = .ok (.getfield 74, 3) := by decide +kernel
theorem d_M_make_100 : decode b_M_make 100 = .ok (.iload_n 1, 1) := by decide +kernel
theorem d_M_make_101 : decode b_M_make 101 = .ok (.iconst 1, 1) := by decide +kernel
theorem d_M_make_102 : decode b_M_make 102 = .ok (.iastore, 1) := by decide +kernel
theorem d_M_make_103 : decode b_M_make 103 = .ok (.aload_n 0, 1) := by decide +kernel
theorem d_M_make_104 : decode b_M_make 104 = .ok (.getfield 77, 3) := by decide +kernel
theorem d_M_make_107 : decode b_M_make 107 = .ok (.iload_n 1, 1) := by decide +kernel
theorem d_M_make_108 : decode b_M_make 108 = .ok (.iconst 0, 1) := by decide +kernel
theorem d_M_make_109 : decode b_M_make 109 = .ok (.iastore, 1) := by decide +kernel
theorem d_M_make_110 : decode b_M_make 110 = .ok (.goto 99, 3) := by decide +kernel
theorem d_M_make_113 : decode b_M_make 113 = .ok (.aload_n 0, 1) := by decide +kernel
theorem d_M_make_114 : decode b_M_make 114 = .ok (.getfield 77, 3) := by decide +kernel
theorem d_M_make_117 : decode b_M_make 117 = .ok (.iload_n 1, 1) := by decide +kernel
theorem d_M_make_118 : decode b_M_make 118 = .ok (.iaload, 1) := by decide +kernel
theorem d_M_make_119 : decode b_M_make 119 = .ok (.bipush 26, 2) := by decide +kernel
theorem d_M_make_121 : decode b_M_make 121 = .ok (.if_icmp .ne 7, 3) := by decide +kernel
theorem d_M_make_124 : decode b_M_make 124 = .ok (.iload_n 2, 1) := by decide +kernel
theorem d_M_make_125 : decode b_M_make 125 = .ok (.ifCond .eq 22, 3) := by decide +kernel
theorem d_M_make_128 : decode b_M_make 128 = .ok (.aload_n 0, 1) := by decide +kernel
theorem d_M_make_129 : decode b_M_make 129 = .ok (.getfield 77, 3) := by decide +kernel
theorem d_M_make_132 : decode b_M_make 132 = .ok (.iload_n 1, 1) := by decide +kernel
theorem d_M_make_133 : decode b_M_make 133 = .ok (.iaload, 1) := by decide +kernel
theorem d_M_make_134 : decode b_M_make 134 = .ok (.bipush 64, 2) := by decide +kernel
theorem d_M_make_136 : decode b_M_make 136 = .ok (.if_icmp .ne 19, 3) := by decide +kernel
theorem d_M_make_139 : decode b_M_make 139 = .ok (.aload_n 0, 1) := by decide +kernel
theorem d_M_make_140 : decode b_M_make 140 = .ok (.iload_n 1, 1) := by decide +kernel
theorem d_M_make_141 : decode b_M_make 141 = .ok (.invokevirtual 179, 3) := by decide +kernel
theorem d_M_make_144 : decode b_M_make 144 = .ok (.ifCond .ne 11, 3) := by decide +kernel
theorem d_M_make_147 : decode b_M_make 147 = .ok (.aload_n 0, 1) := by decide +kernel
theorem d_M_make_148 : decode b_M_make 148 = .ok (.iload_n 1, 1) := by decide +kernel
theorem d_M_make_149 : decode b_M_make 149 = .ok (.invokevirtual 183, 3) := by decide +kernel
theorem d_M_make_152 : decode b_M_make 152 = .ok (.goto 57, 3) := by decide +kernel
theorem d_M_make_155 : decode b_M_make 155 = .ok (.aload_n 0, 1) := by decide +kernel
theorem d_M_make_156 : decode b_M_make 156 = .ok (.getfield 77, 3) := by decide +kernel
theorem d_M_make_159 : decode b_M_make 159 = .ok (.iload_n 1, 1) := by decide +kernel
theorem d_M_make_160 : decode b_M_make 160 = .ok (.iaload, 1) := by decide +kernel
theorem d_M_make_161 : decode b_M_make 161 = .ok (.bipush 64, 2) := by decide +kernel
theorem d_M_make_163 : decode b_M_make 163 = .ok (.if_icmp .ne 46, 3) := by decide +kernel
theorem d_M_make_166 : decode b_M_make 166 = .ok (.aload_n 0, 1) := by decide +kernel
theorem d_M_make_167 : decode b_M_make 167 = .ok (.getfield 74, 3) := by decide +kernel
theorem d_M_make_170 : decode b_M_make 170 = .ok (.iload_n 1, 1) := by decide +kernel
theorem d_M_make_171 : decode b_M_make 171 = .ok (.iconst 2, 1) := by decide +kernel
theorem d_M_make_172 : decode b_M_make 172 = .ok (.iastore, 1) := by decide +kernel
theorem d_M_make_173 : decode b_M_make 173 = .ok (.aload_n 0, 1) := by decide +kernel
theorem d_M_make_174 : decode b_M_make 174 = .ok (.getfield 83, 3) := by decide +kernel
theorem d_M_make_177 : decode b_M_make 177 = .ok (.iload_n 1, 1) := by decide +kernel
theorem d_M_make_178 : decode b_M_make 178 = .ok (.bipush 8, 2) := by decide +kernel
theorem d_M_make_180 : decode b_M_make 180 = .ok (.iastore, 1) := by decide +kernel
theorem d_M_make_181 : decode b_M_make 181 = .ok (.aload_n 0, 1) := by decide +kernel
theorem d_M_make_182 : decode b_M_make 182 = .ok (.getfield 86, 3) := by decide +kernel
theorem d_M_make_185 : decode b_M_make 185 = .ok (.iload_n 1, 1) := by decide +kernel
theorem d_M_make_186 : decode b_M_make 186 = .ok (.iconst 1, 1) := by decide +kernel
theorem d_M_make_187 : decode b_M_make 187 = .ok (.bastore, 1) := by decide +kernel
theorem d_M_make_188 : decode b_M_make 188 = .ok (.aload_n 0, 1) := by decide +kernel
theorem d_M_make_189 : decode b_M_make 189 = .ok (.getfield 89, 3) := by decide +kernel
theorem d_M_make_192 : decode b_M_make 192 = .ok (.iload_n 1, 1) := by decide +kernel
theorem d_M_make_193 : decode b_M_make 193 = .ok (.iconst 0, 1) := by decide +kernel
theorem d_M_make_194 : decode b_M_make 194 = .ok (.iastore, 1) := by decide +kernel
theorem d_M_make_195 : decode b_M_make 195 = .ok (.aload_n 0, 1) := by decide +kernel
theorem d_M_make_196 : decode b_M_make 196 = .ok (.getfield 110, 3) := by decide +kernel
theorem d_M_make_199 : decode b_M_make 199 = .ok (.iload_n 1, 1) := by decide +kernel
theorem d_M_make_200 : decode b_M_make 200 = .ok (.iconst 0, 1) := by decide +kernel
theorem d_M_make_201 : decode b_M_make 201 = .ok (.iastore, 1) := by decide +kernel
theorem d_M_make_202 : decode b_M_make 202 = .ok (.aload_n 0, 1) := by decide +kernel
theorem d_M_make_203 : decode b_M_make 203 = .ok (.getfield 107, 3) := by decide +kernel
theorem d_M_make_206 : decode b_M_make 206 = .ok (.iload_n 1, 1) := by decide +kernel
theorem d_M_make_207 : decode b_M_make 207 = .ok (.iconst 0, 1) := by decide +kernel
theorem d_M_make_208 : decode b_M_make 208 = .ok (.iastore, 1) := by decide +kernel
theorem d_M_make_209 : decode b_M_make 209 = .ok (.return_, 1) := by decide +kernel
theorem d_M_frameBit_0 : decode b_M_frameBit 0 = .ok (.aload_n 0, 1) := by decide +kernel
theorem d_M_frameBit_1 : decode b_M_frameBit 1 = .ok (.getfield 83, 3) := by decide +kernel
theorem d_M_frameBit_4 : decode b_M_frameBit 4 = .ok (.iload_n 1, 1) := by decide +kernel
theorem d_M_frameBit_5 : decode b_M_frameBit 5 = .ok (.aload_n 0, 1) := by decide +kernel
theorem d_M_frameBit_6 : decode b_M_frameBit 6 = .ok (.getfield 83, 3) := by decide +kernel
theorem d_M_frameBit_9 : decode b_M_frameBit 9 = .ok (.iload_n 1, 1) := by decide +kernel
theorem d_M_frameBit_10 : decode b_M_frameBit 10 = .ok (.iaload, 1) := by decide +kernel
theorem d_M_frameBit_11 : decode b_M_frameBit 11 = .ok (.iconst 1, 1) := by decide +kernel
theorem d_M_frameBit_12 : decode b_M_frameBit 12 = .ok (.iadd, 1) := by decide +kernel
theorem d_M_frameBit_13 : decode b_M_frameBit 13 = .ok (.iastore, 1) := by decide +kernel
theorem d_M_frameBit_14 : decode b_M_frameBit 14 = .ok (.aload_n 0, 1) := by decide +kernel
theorem d_M_frameBit_15 : decode b_M_frameBit 15 = .ok (.getfield 83, 3) := by decide +kernel
theorem d_M_frameBit_18 : decode b_M_frameBit 18 = .ok (.iload_n 1, 1) := by decide +kernel
theorem d_M_frameBit_19 : decode b_M_frameBit 19 = .ok (.iaload, 1) := by decide +kernel
theorem d_M_frameBit_20 : decode b_M_frameBit 20 = .ok (.bipush 8, 2) := by decide +kernel
theorem d_M_frameBit_22 : decode b_M_frameBit 22 = .ok (.if_icmp .ne 61, 3) := by decide +kernel
theorem d_M_frameBit_25 : decode b_M_frameBit 25 = .ok (.aload_n 0, 1) := by decide +kernel
theorem d_M_frameBit_26 : decode b_M_frameBit 26 = .ok (.getfield 86, 3) := by decide +kernel
theorem d_M_frameBit_29 : decode b_M_frameBit 29 = .ok (.iload_n 1, 1) := by decide +kernel
theorem d_M_frameBit_30 : decode b_M_frameBit 30 = .ok (.baload, 1) := by decide +kernel
theorem d_M_frameBit_31 : decode b_M_frameBit 31 = .ok (.ifCond .eq 52, 3) := by decide +kernel
theorem d_M_frameBit_34 : decode b_M_frameBit 34 = .ok (.aload_n 0, 1) := by decide +kernel
theorem d_M_frameBit_35 : decode b_M_frameBit 35 = .ok (.getfield 89, 3) := by decide +kernel
theorem d_M_frameBit_38 : decode b_M_frameBit 38 = .ok (.iload_n 1, 1) := by decide +kernel
theorem d_M_frameBit_39 : decode b_M_frameBit 39 = .ok (.aload_n 0, 1) := by decide +kernel
theorem d_M_frameBit_40 : decode b_M_frameBit 40 = .ok (.iload_n 1, 1) := by decide +kernel
theorem d_M_frameBit_41 : decode b_M_frameBit 41 = .ok (.invokevirtual 179, 3) := by decide +kernel
theorem d_M_frameBit_44 : decode b_M_frameBit 44 = .ok (.ifCond .eq 7, 3) := by decide +kernel
theorem d_M_frameBit_47 : decode b_M_frameBit 47 = .ok (.iconst 0, 1) := by decide +kernel
theorem d_M_frameBit_48 : decode b_M_frameBit 48 = .ok (.goto 11, 3) := by decide +kernel
theorem d_M_frameBit_51 : decode b_M_frameBit 51 = .ok (.aload_n 0, 1) := by decide +kernel
theorem d_M_frameBit_52 : decode b_M_frameBit 52 = .ok (.getfield 89, 3) := by decide +kernel
theorem d_M_frameBit_55 : decode b_M_frameBit 55 = .ok (.iload_n 1, 1) := by decide +kernel
theorem d_M_frameBit_56 : decode b_M_frameBit 56 = .ok (.iaload, 1) := by decide +kernel
theorem d_M_frameBit_57 : decode b_M_frameBit 57 = .ok (.iconst 1, 1) := by decide +kernel
theorem d_M_frameBit_58 : decode b_M_frameBit 58 = .ok (.iadd, 1) := by decide +kernel
theorem d_M_frameBit_59 : decode b_M_frameBit 59 = .ok (.iastore, 1) := by decide +kernel
theorem d_M_frameBit_60 : decode b_M_frameBit 60 = .ok (.aload_n 0, 1) := by decide +kernel
theorem d_M_frameBit_61 : decode b_M_frameBit 61 = .ok (.getfield 89, 3) := by decide +kernel
theorem d_M_frameBit_64 : decode b_M_frameBit 64 = .ok (.iload_n 1, 1) := by decide +kernel
theorem d_M_frameBit_65 : decode b_M_frameBit 65 = .ok (.iaload, 1) := by decide +kernel
theorem d_M_frameBit_66 : decode b_M_frameBit 66 = .ok (.iconst 3, 1) := by decide +kernel
theorem d_M_frameBit_67 : decode b_M_frameBit 67 = .ok (.if_icmp .ne 16, 3) := by decide +kernel
theorem d_M_frameBit_70 : decode b_M_frameBit 70 = .ok (.aload_n 0, 1) := by decide +kernel
theorem d_M_frameBit_71 : decode b_M_frameBit 71 = .ok (.iload_n 1, 1) := by decide +kernel
theorem d_M_frameBit_72 : decode b_M_frameBit 72 = .ok (.iconst 1, 1) := by decide +kernel
theorem d_M_frameBit_73 : decode b_M_frameBit 73 = .ok (.iconst 2, 1) := by decide +kernel
theorem d_M_frameBit_74 : decode b_M_frameBit 74 = .ok (.invokevirtual 165, 3) := by decide +kernel
theorem d_M_frameBit_77 : decode b_M_frameBit 77 = .ok (.aload_n 0, 1) := by decide +kernel
theorem d_M_frameBit_78 : decode b_M_frameBit 78 = .ok (.iload_n 1, 1) := by decide +kernel
theorem d_M_frameBit_79 : decode b_M_frameBit 79 = .ok (.invokevirtual 183, 3) := by decide +kernel
theorem d_M_frameBit_82 : decode b_M_frameBit 82 = .ok (.return_, 1) := by decide +kernel
theorem d_M_frameBit_83 : decode b_M_frameBit 83 = .ok (.aload_n 0, 1) := by decide +kernel
theorem d_M_frameBit_84 : decode b_M_frameBit 84 = .ok (.getfield 83, 3) := by decide +kernel
theorem d_M_frameBit_87 : decode b_M_frameBit 87 = .ok (.iload_n 1, 1) := by decide +kernel
theorem d_M_frameBit_88 : decode b_M_frameBit 88 = .ok (.iaload, 1) := by decide +kernel
theorem d_M_frameBit_89 : decode b_M_frameBit 89 = .ok (.bipush 32, 2) := by decide +kernel
theorem d_M_frameBit_91 : decode b_M_frameBit 91 = .ok (.if_icmp .ne 35, 3) := by decide +kernel
theorem d_M_frameBit_94 : decode b_M_frameBit 94 = .ok (.aload_n 0, 1) := by decide +kernel
theorem d_M_frameBit_95 : decode b_M_frameBit 95 = .ok (.iload_n 1, 1) := by decide +kernel
theorem d_M_frameBit_96 : decode b_M_frameBit 96 = .ok (.invokevirtual 186, 3) := by decide +kernel
theorem d_M_frameBit_99 : decode b_M_frameBit 99 = .ok (.aload_n 0, 1) := by decide +kernel
theorem d_M_frameBit_100 : decode b_M_frameBit 100 = .ok (.getfield 83, 3) := by decide +kernel
theorem d_M_frameBit_103 : decode b_M_frameBit 103 = .ok (.iload_n 1, 1) := by decide +kernel
theorem d_M_frameBit_104 : decode b_M_frameBit 104 = .ok (.iconst 0, 1) := by decide +kernel
theorem d_M_frameBit_105 : decode b_M_frameBit 105 = .ok (.iastore, 1) := by decide +kernel
theorem d_M_frameBit_106 : decode b_M_frameBit 106 = .ok (.aload_n 0, 1) := by decide +kernel
theorem d_M_frameBit_107 : decode b_M_frameBit 107 = .ok (.getfield 86, 3) := by decide +kernel
theorem d_M_frameBit_110 : decode b_M_frameBit 110 = .ok (.iload_n 1, 1) := by decide +kernel
theorem d_M_frameBit_111 : decode b_M_frameBit 111 = .ok (.aload_n 0, 1) := by decide +kernel
theorem d_M_frameBit_112 : decode b_M_frameBit 112 = .ok (.getfield 86, 3) := by decide +kernel
theorem d_M_frameBit_115 : decode b_M_frameBit 115 = .ok (.iload_n 1, 1) := by decide +kernel
theorem d_M_frameBit_116 : decode b_M_frameBit 116 = .ok (.baload, 1) := by decide +kernel
theorem d_M_frameBit_117 : decode b_M_frameBit 117 = .ok (.ifCond .ne 7, 3) := by decide +kernel
theorem d_M_frameBit_120 : decode b_M_frameBit 120 = .ok (.iconst 1, 1) := by decide +kernel
theorem d_M_frameBit_121 : decode b_M_frameBit 121 = .ok (.goto 4, 3) := by decide +kernel
theorem d_M_frameBit_124 : decode b_M_frameBit 124 = .ok (.iconst 0, 1) := by decide +kernel
theorem d_M_frameBit_125 : decode b_M_frameBit 125 = .ok (.bastore, 1) := by decide +kernel
theorem d_M_frameBit_126 : decode b_M_frameBit 126 = .ok (.return_, 1) := by decide +kernel
theorem d_M_complete_0 : decode b_M_complete 0 = .ok (.aload_n 0, 1) := by decide +kernel
theorem d_M_complete_1 : decode b_M_complete 1 = .ok (.getfield 80, 3) := by decide +kernel
theorem d_M_complete_4 : decode b_M_complete 4 = .ok (.iload_n 1, 1) := by decide +kernel
theorem d_M_complete_5 : decode b_M_complete 5 = .ok (.iaload, 1) := by decide +kernel
theorem d_M_complete_6 : decode b_M_complete 6 = .ok (.istore_n 2, 1) := by decide +kernel
theorem d_M_complete_7 : decode b_M_complete 7 = .ok (.iload_n 2, 1) := by decide +kernel
theorem d_M_complete_8 : decode b_M_complete 8 = .ok (.bipush 31, 2) := by decide +kernel
theorem d_M_complete_10 : decode b_M_complete 10 = .ok (.ishr, 1) := by decide +kernel
theorem d_M_complete_11 : decode b_M_complete 11 = .ok (.iconst 1, 1) := by decide +kernel
theorem d_M_complete_12 : decode b_M_complete 12 = .ok (.iand, 1) := by decide +kernel
theorem d_M_complete_13 : decode b_M_complete 13 = .ok (.istore_n 3, 1) := by decide +kernel
theorem d_M_complete_14 : decode b_M_complete 14 = .ok (.aload_n 0, 1) := by decide +kernel
theorem d_M_complete_15 : decode b_M_complete 15 = .ok (.getfield 95, 3) := by decide +kernel
theorem d_M_complete_18 : decode b_M_complete 18 = .ok (.iload_n 1, 1) := by decide +kernel
theorem d_M_complete_19 : decode b_M_complete 19 = .ok (.iload_n 2, 1) := by decide +kernel
theorem d_M_complete_20 : decode b_M_complete 20 = .ok (.iastore, 1) := by decide +kernel
theorem d_M_complete_21 : decode b_M_complete 21 = .ok (.aload_n 0, 1) := by decide +kernel
theorem d_M_complete_22 : decode b_M_complete 22 = .ok (.getfield 92, 3) := by decide +kernel
theorem d_M_complete_25 : decode b_M_complete 25 = .ok (.iload_n 1, 1) := by decide +kernel
theorem d_M_complete_26 : decode b_M_complete 26 = .ok (.iconst 1, 1) := by decide +kernel
theorem d_M_complete_27 : decode b_M_complete 27 = .ok (.bastore, 1) := by decide +kernel
theorem d_M_complete_28 : decode b_M_complete 28 = .ok (.aload_n 0, 1) := by decide +kernel
theorem d_M_complete_29 : decode b_M_complete 29 = .ok (.iload_n 1, 1) := by decide +kernel
theorem d_M_complete_30 : decode b_M_complete 30 = .ok (.iconst 1, 1) := by decide +kernel
theorem d_M_complete_31 : decode b_M_complete 31 = .ok (.iconst 0, 1) := by decide +kernel
theorem d_M_complete_32 : decode b_M_complete 32 = .ok (.invokevirtual 165, 3) := by decide +kernel
theorem d_M_complete_35 : decode b_M_complete 35 = .ok (.aload_n 0, 1) := by decide +kernel
theorem d_M_complete_36 : decode b_M_complete 36 = .ok (.getfield 86, 3) := by decide +kernel
theorem d_M_complete_39 : decode b_M_complete 39 = .ok (.iload_n 1, 1) := by decide +kernel
theorem d_M_complete_40 : decode b_M_complete 40 = .ok (.baload, 1) := by decide +kernel
theorem d_M_complete_41 : decode b_M_complete 41 = .ok (.ifCond .ne 73, 3) := by decide +kernel
theorem d_M_complete_44 : decode b_M_complete 44 = .ok (.aload_n 0, 1) := by decide +kernel
theorem d_M_complete_45 : decode b_M_complete 45 = .ok (.getfield 98, 3) := by decide +kernel
theorem d_M_complete_48 : decode b_M_complete 48 = .ok (.iload_n 1, 1) := by decide +kernel
theorem d_M_complete_49 : decode b_M_complete 49 = .ok (.iload_n 2, 1) := by decide +kernel
theorem d_M_complete_50 : decode b_M_complete 50 = .ok (.bipush 29, 2) := by decide +kernel
theorem d_M_complete_52 : decode b_M_complete 52 = .ok (.ishr, 1) := by decide +kernel
theorem d_M_complete_53 : decode b_M_complete 53 = .ok (.iconst 1, 1) := by decide +kernel
theorem d_M_complete_54 : decode b_M_complete 54 = .ok (.iand, 1) := by decide +kernel
theorem d_M_complete_55 : decode b_M_complete 55 = .ok (.iconst 1, 1) := by decide +kernel
theorem d_M_complete_56 : decode b_M_complete 56 = .ok (.if_icmp .ne 7, 3) := by decide +kernel
theorem d_M_complete_59 : decode b_M_complete 59 = .ok (.iconst 1, 1) := by decide +kernel
theorem d_M_complete_60 : decode b_M_complete 60 = .ok (.goto 4, 3) := by decide +kernel
theorem d_M_complete_63 : decode b_M_complete 63 = .ok (.iconst 0, 1) := by decide +kernel
theorem d_M_complete_64 : decode b_M_complete 64 = .ok (.bastore, 1) := by decide +kernel
theorem d_M_complete_65 : decode b_M_complete 65 = .ok (.aload_n 0, 1) := by decide +kernel
theorem d_M_complete_66 : decode b_M_complete 66 = .ok (.getfield 107, 3) := by decide +kernel
theorem d_M_complete_69 : decode b_M_complete 69 = .ok (.iload_n 1, 1) := by decide +kernel
theorem d_M_complete_70 : decode b_M_complete 70 = .ok (.aload_n 0, 1) := by decide +kernel
theorem d_M_complete_71 : decode b_M_complete 71 = .ok (.getfield 107, 3) := by decide +kernel
theorem d_M_complete_74 : decode b_M_complete 74 = .ok (.iload_n 1, 1) := by decide +kernel
theorem d_M_complete_75 : decode b_M_complete 75 = .ok (.iaload, 1) := by decide +kernel
theorem d_M_complete_76 : decode b_M_complete 76 = .ok (.iconst 1, 1) := by decide +kernel
theorem d_M_complete_77 : decode b_M_complete 77 = .ok (.ishl, 1) := by decide +kernel
theorem d_M_complete_78 : decode b_M_complete 78 = .ok (.iload_n 3, 1) := by decide +kernel
theorem d_M_complete_79 : decode b_M_complete 79 = .ok (.ior, 1) := by decide +kernel
theorem d_M_complete_80 : decode b_M_complete 80 = .ok (.bipush 63, 2) := by decide +kernel
theorem d_M_complete_82 : decode b_M_complete 82 = .ok (.iand, 1) := by decide +kernel
theorem d_M_complete_83 : decode b_M_complete 83 = .ok (.iastore, 1) := by decide +kernel
theorem d_M_complete_84 : decode b_M_complete 84 = .ok (.aload_n 0, 1) := by decide +kernel
theorem d_M_complete_85 : decode b_M_complete 85 = .ok (.getfield 110, 3) := by decide +kernel
theorem d_M_complete_88 : decode b_M_complete 88 = .ok (.iload_n 1, 1) := by decide +kernel
theorem d_M_complete_89 : decode b_M_complete 89 = .ok (.aload_n 0, 1) := by decide +kernel
theorem d_M_complete_90 : decode b_M_complete 90 = .ok (.getfield 110, 3) := by decide +kernel
theorem d_M_complete_93 : decode b_M_complete 93 = .ok (.iload_n 1, 1) := by decide +kernel
theorem d_M_complete_94 : decode b_M_complete 94 = .ok (.iaload, 1) := by decide +kernel
theorem d_M_complete_95 : decode b_M_complete 95 = .ok (.bipush 6, 2) := by decide +kernel
theorem d_M_complete_97 : decode b_M_complete 97 = .ok (.if_icmp .ge 14, 3) := by decide +kernel
theorem d_M_complete_100 : decode b_M_complete 100 = .ok (.aload_n 0, 1) := by decide +kernel
theorem d_M_complete_101 : decode b_M_complete 101 = .ok (.getfield 110, 3) := by decide +kernel
theorem d_M_complete_104 : decode b_M_complete 104 = .ok (.iload_n 1, 1) := by decide +kernel
theorem d_M_complete_105 : decode b_M_complete 105 = .ok (.iaload, 1) := by decide +kernel
theorem d_M_complete_106 : decode b_M_complete 106 = .ok (.iconst 1, 1) := by decide +kernel
theorem d_M_complete_107 : decode b_M_complete 107 = .ok (.iadd, 1) := by decide +kernel
theorem d_M_complete_108 : decode b_M_complete 108 = .ok (.goto 5, 3) := by decide +kernel
theorem d_M_complete_111 : decode b_M_complete 111 = .ok (.bipush 6, 2) := by decide +kernel
theorem d_M_complete_113 : decode b_M_complete 113 = .ok (.iastore, 1) := by decide +kernel
theorem d_M_complete_114 : decode b_M_complete 114 = .ok (.aload_n 0, 1) := by decide +kernel
theorem d_M_complete_115 : decode b_M_complete 115 = .ok (.getfield 86, 3) := by decide +kernel
theorem d_M_complete_118 : decode b_M_complete 118 = .ok (.iload_n 1, 1) := by decide +kernel
theorem d_M_complete_119 : decode b_M_complete 119 = .ok (.baload, 1) := by decide +kernel
theorem d_M_complete_120 : decode b_M_complete 120 = .ok (.ifCond .ne 29, 3) := by decide +kernel
theorem d_M_complete_123 : decode b_M_complete 123 = .ok (.aload_n 0, 1) := by decide +kernel
theorem d_M_complete_124 : decode b_M_complete 124 = .ok (.getfield 110, 3) := by decide +kernel
theorem d_M_complete_127 : decode b_M_complete 127 = .ok (.iload_n 1, 1) := by decide +kernel
theorem d_M_complete_128 : decode b_M_complete 128 = .ok (.iaload, 1) := by decide +kernel
theorem d_M_complete_129 : decode b_M_complete 129 = .ok (.bipush 6, 2) := by decide +kernel
theorem d_M_complete_131 : decode b_M_complete 131 = .ok (.if_icmp .ne 18, 3) := by decide +kernel
theorem d_M_complete_134 : decode b_M_complete 134 = .ok (.aload_n 0, 1) := by decide +kernel
theorem d_M_complete_135 : decode b_M_complete 135 = .ok (.getfield 107, 3) := by decide +kernel
theorem d_M_complete_138 : decode b_M_complete 138 = .ok (.iload_n 1, 1) := by decide +kernel
theorem d_M_complete_139 : decode b_M_complete 139 = .ok (.iaload, 1) := by decide +kernel
theorem d_M_complete_140 : decode b_M_complete 140 = .ok (.bipush 11, 2) := by decide +kernel
theorem d_M_complete_142 : decode b_M_complete 142 = .ok (.if_icmp .ne 7, 3) := by decide +kernel
theorem d_M_complete_145 : decode b_M_complete 145 = .ok (.iconst 1, 1) := by decide +kernel
theorem d_M_complete_146 : decode b_M_complete 146 = .ok (.goto 4, 3) := by decide +kernel
theorem d_M_complete_149 : decode b_M_complete 149 = .ok (.iconst 0, 1) := by decide +kernel
theorem d_M_complete_150 : decode b_M_complete 150 = .ok (.istore 4, 2) := by decide +kernel
theorem d_M_complete_152 : decode b_M_complete 152 = .ok (.aload_n 0, 1) := by decide +kernel
theorem d_M_complete_153 : decode b_M_complete 153 = .ok (.getfield 101, 3) := by decide +kernel
theorem d_M_complete_156 : decode b_M_complete 156 = .ok (.iload_n 1, 1) := by decide +kernel
theorem d_M_complete_157 : decode b_M_complete 157 = .ok (.baload, 1) := by decide +kernel
theorem d_M_complete_158 : decode b_M_complete 158 = .ok (.ifCond .ne 27, 3) := by decide +kernel
theorem d_M_complete_161 : decode b_M_complete 161 = .ok (.aload_n 0, 1) := by decide +kernel
theorem d_M_complete_162 : decode b_M_complete 162 = .ok (.getfield 101, 3) := by decide +kernel
theorem d_M_complete_165 : decode b_M_complete 165 = .ok (.iload_n 1, 1) := by decide +kernel
theorem d_M_complete_166 : decode b_M_complete 166 = .ok (.iload 4, 2) := by decide +kernel
theorem d_M_complete_168 : decode b_M_complete 168 = .ok (.bastore, 1) := by decide +kernel
theorem d_M_complete_169 : decode b_M_complete 169 = .ok (.aload_n 0, 1) := by decide +kernel
theorem d_M_complete_170 : decode b_M_complete 170 = .ok (.getfield 104, 3) := by decide +kernel
theorem d_M_complete_173 : decode b_M_complete 173 = .ok (.iload_n 1, 1) := by decide +kernel
theorem d_M_complete_174 : decode b_M_complete 174 = .ok (.bipush 11, 2) := by decide +kernel
theorem d_M_complete_176 : decode b_M_complete 176 = .ok (.iastore, 1) := by decide +kernel
theorem d_M_complete_177 : decode b_M_complete 177 = .ok (.aload_n 0, 1) := by decide +kernel
theorem d_M_complete_178 : decode b_M_complete 178 = .ok (.getfield 113, 3) := by decide +kernel
theorem d_M_complete_181 : decode b_M_complete 181 = .ok (.iload_n 1, 1) := by decide +kernel
theorem d_M_complete_182 : decode b_M_complete 182 = .ok (.iconst 0, 1) := by decide +kernel
theorem d_M_complete_183 : decode b_M_complete 183 = .ok (.iastore, 1) := by decide +kernel
theorem d_M_complete_184 : decode b_M_complete 184 = .ok (.return_, 1) := by decide +kernel
theorem d_M_complete_185 : decode b_M_complete 185 = .ok (.aload_n 0, 1) := by decide +kernel
theorem d_M_complete_186 : decode b_M_complete 186 = .ok (.getfield 104, 3) := by decide +kernel
theorem d_M_complete_189 : decode b_M_complete 189 = .ok (.iload_n 1, 1) := by decide +kernel
theorem d_M_complete_190 : decode b_M_complete 190 = .ok (.aload_n 0, 1) := by decide +kernel
theorem d_M_complete_191 : decode b_M_complete 191 = .ok (.getfield 104, 3) := by decide +kernel
theorem d_M_complete_194 : decode b_M_complete 194 = .ok (.iload_n 1, 1) := by decide +kernel
theorem d_M_complete_195 : decode b_M_complete 195 = .ok (.iaload, 1) := by decide +kernel
theorem d_M_complete_196 : decode b_M_complete 196 = .ok (.iconst 1, 1) := by decide +kernel
theorem d_M_complete_197 : decode b_M_complete 197 = .ok (.iadd, 1) := by decide +kernel
theorem d_M_complete_198 : decode b_M_complete 198 = .ok (.bipush 16, 2) := by decide +kernel
theorem d_M_complete_200 : decode b_M_complete 200 = .ok (.irem, 1) := by decide +kernel
theorem d_M_complete_201 : decode b_M_complete 201 = .ok (.iastore, 1) := by decide +kernel
theorem d_M_complete_202 : decode b_M_complete 202 = .ok (.aload_n 0, 1) := by decide +kernel
theorem d_M_complete_203 : decode b_M_complete 203 = .ok (.getfield 104, 3) := by decide +kernel
theorem d_M_complete_206 : decode b_M_complete 206 = .ok (.iload_n 1, 1) := by decide +kernel
theorem d_M_complete_207 : decode b_M_complete 207 = .ok (.iaload, 1) := by decide +kernel
theorem d_M_complete_208 : decode b_M_complete 208 = .ok (.bipush 11, 2) := by decide +kernel
theorem d_M_complete_210 : decode b_M_complete 210 = .ok (.if_icmp .ne 42, 3) := by decide +kernel
theorem d_M_complete_213 : decode b_M_complete 213 = .ok (.aload_n 0, 1) := by decide +kernel
theorem d_M_complete_214 : decode b_M_complete 214 = .ok (.getfield 113, 3) := by decide +kernel
theorem d_M_complete_217 : decode b_M_complete 217 = .ok (.iload_n 1, 1) := by decide +kernel
theorem d_M_complete_218 : decode b_M_complete 218 = .ok (.iload 4, 2) := by decide +kernel
theorem d_M_complete_220 : decode b_M_complete 220 = .ok (.ifCond .eq 7, 3) := by decide +kernel
theorem d_M_complete_223 : decode b_M_complete 223 = .ok (.iconst 0, 1) := by decide +kernel
theorem d_M_complete_224 : decode b_M_complete 224 = .ok (.goto 11, 3) := by decide +kernel
theorem d_M_complete_227 : decode b_M_complete 227 = .ok (.aload_n 0, 1) := by decide +kernel
theorem d_M_complete_228 : decode b_M_complete 228 = .ok (.getfield 113, 3) := by decide +kernel
theorem d_M_complete_231 : decode b_M_complete 231 = .ok (.iload_n 1, 1) := by decide +kernel
theorem d_M_complete_232 : decode b_M_complete 232 = .ok (.iaload, 1) := by decide +kernel
theorem d_M_complete_233 : decode b_M_complete 233 = .ok (.iconst 1, 1) := by decide +kernel
theorem d_M_complete_234 : decode b_M_complete 234 = .ok (.iadd, 1) := by decide +kernel
theorem d_M_complete_235 : decode b_M_complete 235 = .ok (.iastore, 1) := by decide +kernel
theorem d_M_complete_236 : decode b_M_complete 236 = .ok (.aload_n 0, 1) := by decide +kernel
theorem d_M_complete_237 : decode b_M_complete 237 = .ok (.getfield 113, 3) := by decide +kernel
theorem d_M_complete_240 : decode b_M_complete 240 = .ok (.iload_n 1, 1) := by decide +kernel
theorem d_M_complete_241 : decode b_M_complete 241 = .ok (.iaload, 1) := by decide +kernel
theorem d_M_complete_242 : decode b_M_complete 242 = .ok (.iconst 2, 1) := by decide +kernel
theorem d_M_complete_243 : decode b_M_complete 243 = .ok (.if_icmp .ne 9, 3) := by decide +kernel
theorem d_M_complete_246 : decode b_M_complete 246 = .ok (.aload_n 0, 1) := by decide +kernel
theorem d_M_complete_247 : decode b_M_complete 247 = .ok (.iload_n 1, 1) := by decide +kernel
theorem d_M_complete_248 : decode b_M_complete 248 = .ok (.invokevirtual 173, 3) := by decide +kernel
theorem d_M_complete_251 : decode b_M_complete 251 = .ok (.return_, 1) := by decide +kernel
theorem d_M_complete_252 : decode b_M_complete 252 = .ok (.aload_n 0, 1) := by decide +kernel
theorem d_M_complete_253 : decode b_M_complete 253 = .ok (.iload_n 1, 1) := by decide +kernel
theorem d_M_complete_254 : decode b_M_complete 254 = .ok (.aload_n 0, 1) := by decide +kernel
theorem d_M_complete_255 : decode b_M_complete 255 = .ok (.getfield 104, 3) := by decide +kernel
theorem d_M_complete_258 : decode b_M_complete 258 = .ok (.iload_n 1, 1) := by decide +kernel
theorem d_M_complete_259 : decode b_M_complete 259 = .ok (.iaload, 1) := by decide +kernel
theorem d_M_complete_260 : decode b_M_complete 260 = .ok (.bipush 13, 2) := by decide +kernel
theorem d_M_complete_262 : decode b_M_complete 262 = .ok (.if_icmp .eq 14, 3) := by decide +kernel
theorem d_M_complete_265 : decode b_M_complete 265 = .ok (.aload_n 0, 1) := by decide +kernel
theorem d_M_complete_266 : decode b_M_complete 266 = .ok (.getfield 104, 3) := by decide +kernel
theorem d_M_complete_269 : decode b_M_complete 269 = .ok (.iload_n 1, 1) := by decide +kernel
theorem d_M_complete_270 : decode b_M_complete 270 = .ok (.iaload, 1) := by decide +kernel
theorem d_M_complete_271 : decode b_M_complete 271 = .ok (.bipush 15, 2) := by decide +kernel
theorem d_M_complete_273 : decode b_M_complete 273 = .ok (.if_icmp .ne 11, 3) := by decide +kernel
theorem d_M_complete_276 : decode b_M_complete 276 = .ok (.iload_n 3, 1) := by decide +kernel
theorem d_M_complete_277 : decode b_M_complete 277 = .ok (.ifCond .ne 7, 3) := by decide +kernel
theorem d_M_complete_280 : decode b_M_complete 280 = .ok (.iconst 1, 1) := by decide +kernel
theorem d_M_complete_281 : decode b_M_complete 281 = .ok (.goto 4, 3) := by decide +kernel
theorem d_M_complete_284 : decode b_M_complete 284 = .ok (.iconst 0, 1) := by decide +kernel
theorem d_M_complete_285 : decode b_M_complete 285 = .ok (.iconst 4, 1) := by decide +kernel
theorem d_M_complete_286 : decode b_M_complete 286 = .ok (.invokevirtual 165, 3) := by decide +kernel
theorem d_M_complete_289 : decode b_M_complete 289 = .ok (.aload_n 0, 1) := by decide +kernel
theorem d_M_complete_290 : decode b_M_complete 290 = .ok (.iload_n 1, 1) := by decide +kernel
theorem d_M_complete_291 : decode b_M_complete 291 = .ok (.iload_n 2, 1) := by decide +kernel
theorem d_M_complete_292 : decode b_M_complete 292 = .ok (.iload_n 3, 1) := by decide +kernel
theorem d_M_complete_293 : decode b_M_complete 293 = .ok (.invokevirtual 189, 3) := by decide +kernel
theorem d_M_complete_296 : decode b_M_complete 296 = .ok (.return_, 1) := by decide +kernel
theorem d_M_halves_0 : decode b_M_halves 0 = .ok (.aload_n 0, 1) := by decide +kernel
theorem d_M_halves_1 : decode b_M_halves 1 = .ok (.getfield 104, 3) := by decide +kernel
theorem d_M_halves_4 : decode b_M_halves 4 = .ok (.iload_n 1, 1) := by decide +kernel
theorem d_M_halves_5 : decode b_M_halves 5 = .ok (.iaload, 1) := by decide +kernel
theorem d_M_halves_6 : decode b_M_halves 6 = .ok (.bipush 8, 2) := by decide +kernel
theorem d_M_halves_8 : decode b_M_halves 8 = .ok (.irem, 1) := by decide +kernel
theorem d_M_halves_9 : decode b_M_halves 9 = .ok (.ifCond .ne 24, 3) := by decide +kernel
theorem d_M_halves_12 : decode b_M_halves 12 = .ok (.aload_n 0, 1) := by decide +kernel
theorem d_M_halves_13 : decode b_M_halves 13 = .ok (.getfield 116, 3) := by decide +kernel
theorem d_M_halves_16 : decode b_M_halves 16 = .ok (.iload_n 1, 1) := by decide +kernel
theorem d_M_halves_17 : decode b_M_halves 17 = .ok (.iconst 1, 1) := by decide +kernel
theorem d_M_halves_18 : decode b_M_halves 18 = .ok (.bastore, 1) := by decide +kernel
theorem d_M_halves_19 : decode b_M_halves 19 = .ok (.aload_n 0, 1) := by decide +kernel
theorem d_M_halves_20 : decode b_M_halves 20 = .ok (.getfield 119, 3) := by decide +kernel
theorem d_M_halves_23 : decode b_M_halves 23 = .ok (.iload_n 1, 1) := by decide +kernel
theorem d_M_halves_24 : decode b_M_halves 24 = .ok (.iconst 0, 1) := by decide +kernel
theorem d_M_halves_25 : decode b_M_halves 25 = .ok (.iastore, 1) := by decide +kernel
theorem d_M_halves_26 : decode b_M_halves 26 = .ok (.aload_n 0, 1) := by decide +kernel
theorem d_M_halves_27 : decode b_M_halves 27 = .ok (.getfield 122, 3) := by decide +kernel
theorem d_M_halves_30 : decode b_M_halves 30 = .ok (.iload_n 1, 1) := by decide +kernel
theorem d_M_halves_31 : decode b_M_halves 31 = .ok (.iconst 0, 1) := by decide +kernel
theorem d_M_halves_32 : decode b_M_halves 32 = .ok (.iastore, 1) := by decide +kernel
theorem d_M_halves_33 : decode b_M_halves 33 = .ok (.aload_n 0, 1) := by decide +kernel
theorem d_M_halves_34 : decode b_M_halves 34 = .ok (.getfield 116, 3) := by decide +kernel
theorem d_M_halves_37 : decode b_M_halves 37 = .ok (.iload_n 1, 1) := by decide +kernel
theorem d_M_halves_38 : decode b_M_halves 38 = .ok (.baload, 1) := by decide +kernel
theorem d_M_halves_39 : decode b_M_halves 39 = .ok (.ifCond .ne 4, 3) := by decide +kernel
theorem d_M_halves_42 : decode b_M_halves 42 = .ok (.return_, 1) := by decide +kernel
theorem d_M_halves_43 : decode b_M_halves 43 = .ok (.bipush 31, 2) := by decide +kernel
theorem d_M_halves_45 : decode b_M_halves 45 = .ok (.istore 4, 2) := by decide +kernel
theorem d_M_halves_47 : decode b_M_halves 47 = .ok (.iload 4, 2) := by decide +kernel
theorem d_M_halves_49 : decode b_M_halves 49 = .ok (.ifCond .lt 50, 3) := by decide +kernel
theorem d_M_halves_52 : decode b_M_halves 52 = .ok (.aload_n 0, 1) := by decide +kernel
theorem d_M_halves_53 : decode b_M_halves 53 = .ok (.getfield 119, 3) := by decide +kernel
theorem d_M_halves_56 : decode b_M_halves 56 = .ok (.iload_n 1, 1) := by decide +kernel
theorem d_M_halves_57 : decode b_M_halves 57 = .ok (.aload_n 0, 1) := by decide +kernel
theorem d_M_halves_58 : decode b_M_halves 58 = .ok (.getfield 119, 3) := by decide +kernel
theorem d_M_halves_61 : decode b_M_halves 61 = .ok (.iload_n 1, 1) := by decide +kernel
theorem d_M_halves_62 : decode b_M_halves 62 = .ok (.iaload, 1) := by decide +kernel
theorem d_M_halves_63 : decode b_M_halves 63 = .ok (.iload 4, 2) := by decide +kernel
theorem d_M_halves_65 : decode b_M_halves 65 = .ok (.bipush 31, 2) := by decide +kernel
theorem d_M_halves_67 : decode b_M_halves 67 = .ok (.if_icmp .ne 16, 3) := by decide +kernel
theorem d_M_halves_70 : decode b_M_halves 70 = .ok (.aload_n 0, 1) := by decide +kernel
theorem d_M_halves_71 : decode b_M_halves 71 = .ok (.getfield 86, 3) := by decide +kernel
theorem d_M_halves_74 : decode b_M_halves 74 = .ok (.iload_n 1, 1) := by decide +kernel
theorem d_M_halves_75 : decode b_M_halves 75 = .ok (.baload, 1) := by decide +kernel
theorem d_M_halves_76 : decode b_M_halves 76 = .ok (.ifCond .eq 7, 3) := by decide +kernel
theorem d_M_halves_79 : decode b_M_halves 79 = .ok (.iconst 0, 1) := by decide +kernel
theorem d_M_halves_80 : decode b_M_halves 80 = .ok (.goto 9, 3) := by decide +kernel
theorem d_M_halves_83 : decode b_M_halves 83 = .ok (.iload_n 2, 1) := by decide +kernel
theorem d_M_halves_84 : decode b_M_halves 84 = .ok (.iload 4, 2) := by decide +kernel
theorem d_M_halves_86 : decode b_M_halves 86 = .ok (.ishr, 1) := by decide +kernel
theorem d_M_halves_87 : decode b_M_halves 87 = .ok (.iconst 1, 1) := by decide +kernel
theorem d_M_halves_88 : decode b_M_halves 88 = .ok (.iand, 1) := by decide +kernel
theorem d_M_halves_89 : decode b_M_halves 89 = .ok (.invokestatic 149, 3) := by decide +kernel
theorem d_M_halves_92 : decode b_M_halves 92 = .ok (.iastore, 1) := by decide +kernel
theorem d_M_halves_93 : decode b_M_halves 93 = .ok (.iinc 4 (-1), 3) := by decide +kernel
theorem d_M_halves_96 : decode b_M_halves 96 = .ok (.goto (-49), 3) := by decide +kernel
theorem d_M_halves_99 : decode b_M_halves 99 = .ok (.aload_n 0, 1) := by decide +kernel
theorem d_M_halves_100 : decode b_M_halves 100 = .ok (.getfield 122, 3) := by decide +kernel
theorem d_M_halves_103 : decode b_M_halves 103 = .ok (.iload_n 1, 1) := by decide +kernel
theorem d_M_halves_104 : decode b_M_halves 104 = .ok (.aload_n 0, 1) := by decide +kernel
theorem d_M_halves_105 : decode b_M_halves 105 = .ok (.getfield 86, 3) := by decide +kernel
theorem d_M_halves_108 : decode b_M_halves 108 = .ok (.iload_n 1, 1) := by decide +kernel
theorem d_M_halves_109 : decode b_M_halves 109 = .ok (.baload, 1) := by decide +kernel
theorem d_M_halves_110 : decode b_M_halves 110 = .ok (.ifCond .eq 16, 3) := by decide +kernel
theorem d_M_halves_113 : decode b_M_halves 113 = .ok (.aload_n 0, 1) := by decide +kernel
theorem d_M_halves_114 : decode b_M_halves 114 = .ok (.getfield 122, 3) := by decide +kernel
theorem d_M_halves_117 : decode b_M_halves 117 = .ok (.iload_n 1, 1) := by decide +kernel
theorem d_M_halves_118 : decode b_M_halves 118 = .ok (.iaload, 1) := by decide +kernel
theorem d_M_halves_119 : decode b_M_halves 119 = .ok (.iconst 1, 1) := by decide +kernel
theorem d_M_halves_120 : decode b_M_halves 120 = .ok (.ishl, 1) := by decide +kernel
theorem d_M_halves_121 : decode b_M_halves 121 = .ok (.iload_n 3, 1) := by decide +kernel
theorem d_M_halves_122 : decode b_M_halves 122 = .ok (.ior, 1) := by decide +kernel
theorem d_M_halves_123 : decode b_M_halves 123 = .ok (.goto 9, 3) := by decide +kernel
theorem d_M_halves_126 : decode b_M_halves 126 = .ok (.aload_n 0, 1) := by decide +kernel
theorem d_M_halves_127 : decode b_M_halves 127 = .ok (.getfield 122, 3) := by decide +kernel
theorem d_M_halves_130 : decode b_M_halves 130 = .ok (.iload_n 1, 1) := by decide +kernel
theorem d_M_halves_131 : decode b_M_halves 131 = .ok (.iaload, 1) := by decide +kernel
theorem d_M_halves_132 : decode b_M_halves 132 = .ok (.iastore, 1) := by decide +kernel
theorem d_M_halves_133 : decode b_M_halves 133 = .ok (.aload_n 0, 1) := by decide +kernel
theorem d_M_halves_134 : decode b_M_halves 134 = .ok (.getfield 104, 3) := by decide +kernel
theorem d_M_halves_137 : decode b_M_halves 137 = .ok (.iload_n 1, 1) := by decide +kernel
theorem d_M_halves_138 : decode b_M_halves 138 = .ok (.iaload, 1) := by decide +kernel
theorem d_M_halves_139 : decode b_M_halves 139 = .ok (.bipush 8, 2) := by decide +kernel
theorem d_M_halves_141 : decode b_M_halves 141 = .ok (.irem, 1) := by decide +kernel
theorem d_M_halves_142 : decode b_M_halves 142 = .ok (.bipush 7, 2) := by decide +kernel
theorem d_M_halves_144 : decode b_M_halves 144 = .ok (.if_icmp .ne 88, 3) := by decide +kernel
theorem d_M_halves_147 : decode b_M_halves 147 = .ok (.aload_n 0, 1) := by decide +kernel
theorem d_M_halves_148 : decode b_M_halves 148 = .ok (.getfield 125, 3) := by decide +kernel
theorem d_M_halves_151 : decode b_M_halves 151 = .ok (.iload_n 1, 1) := by decide +kernel
theorem d_M_halves_152 : decode b_M_halves 152 = .ok (.baload, 1) := by decide +kernel
theorem d_M_halves_153 : decode b_M_halves 153 = .ok (.ifCond .eq 60, 3) := by decide +kernel
theorem d_M_halves_156 : decode b_M_halves 156 = .ok (.aload_n 0, 1) := by decide +kernel
theorem d_M_halves_157 : decode b_M_halves 157 = .ok (.getfield 122, 3) := by decide +kernel
theorem d_M_halves_160 : decode b_M_halves 160 = .ok (.iload_n 1, 1) := by decide +kernel
theorem d_M_halves_161 : decode b_M_halves 161 = .ok (.iaload, 1) := by decide +kernel
theorem d_M_halves_162 : decode b_M_halves 162 = .ok (.aload_n 0, 1) := by decide +kernel
theorem d_M_halves_163 : decode b_M_halves 163 = .ok (.getfield 128, 3) := by decide +kernel
theorem d_M_halves_166 : decode b_M_halves 166 = .ok (.iload_n 1, 1) := by decide +kernel
theorem d_M_halves_167 : decode b_M_halves 167 = .ok (.iaload, 1) := by decide +kernel
theorem d_M_halves_168 : decode b_M_halves 168 = .ok (.if_icmp .eq 7, 3) := by decide +kernel
theorem d_M_halves_171 : decode b_M_halves 171 = .ok (.iconst 1, 1) := by decide +kernel
theorem d_M_halves_172 : decode b_M_halves 172 = .ok (.goto 4, 3) := by decide +kernel
theorem d_M_halves_175 : decode b_M_halves 175 = .ok (.iconst 0, 1) := by decide +kernel
theorem d_M_halves_176 : decode b_M_halves 176 = .ok (.istore 4, 2) := by decide +kernel
theorem d_M_halves_178 : decode b_M_halves 178 = .ok (.aload_n 0, 1) := by decide +kernel
theorem d_M_halves_179 : decode b_M_halves 179 = .ok (.iload_n 1, 1) := by decide +kernel
theorem d_M_halves_180 : decode b_M_halves 180 = .ok (.iload 4, 2) := by decide +kernel
theorem d_M_halves_182 : decode b_M_halves 182 = .ok (.iconst 3, 1) := by decide +kernel
theorem d_M_halves_183 : decode b_M_halves 183 = .ok (.invokevirtual 165, 3) := by decide +kernel
theorem d_M_halves_186 : decode b_M_halves 186 = .ok (.aload_n 0, 1) := by decide +kernel
theorem d_M_halves_187 : decode b_M_halves 187 = .ok (.getfield 131, 3) := by decide +kernel
theorem d_M_halves_190 : decode b_M_halves 190 = .ok (.iconst 2, 1) := by decide +kernel
theorem d_M_halves_191 : decode b_M_halves 191 = .ok (.iload_n 1, 1) := by decide +kernel
theorem d_M_halves_192 : decode b_M_halves 192 = .ok (.imul, 1) := by decide +kernel
theorem d_M_halves_193 : decode b_M_halves 193 = .ok (.aload_n 0, 1) := by decide +kernel
theorem d_M_halves_194 : decode b_M_halves 194 = .ok (.getfield 104, 3) := by decide +kernel
theorem d_M_halves_197 : decode b_M_halves 197 = .ok (.iload_n 1, 1) := by decide +kernel
theorem d_M_halves_198 : decode b_M_halves 198 = .ok (.iaload, 1) := by decide +kernel
theorem d_M_halves_199 : decode b_M_halves 199 = .ok (.bipush 15, 2) := by decide +kernel
theorem d_M_halves_201 : decode b_M_halves 201 = .ok (.if_icmp .ne 7, 3) := by decide +kernel
theorem d_M_halves_204 : decode b_M_halves 204 = .ok (.iconst 0, 1) := by decide +kernel
theorem d_M_halves_205 : decode b_M_halves 205 = .ok (.goto 4, 3) := by decide +kernel
theorem d_M_halves_208 : decode b_M_halves 208 = .ok (.iconst 1, 1) := by decide +kernel
theorem d_M_halves_209 : decode b_M_halves 209 = .ok (.iadd, 1) := by decide +kernel
theorem d_M_halves_210 : decode b_M_halves 210 = .ok (.iload 4, 2) := by decide +kernel
theorem d_M_halves_212 : decode b_M_halves 212 = .ok (.bastore, 1) := by decide +kernel
theorem d_M_halves_213 : decode b_M_halves 213 = .ok (.aload_n 0, 1) := by decide +kernel
theorem d_M_halves_214 : decode b_M_halves 214 = .ok (.getfield 125, 3) := by decide +kernel
theorem d_M_halves_217 : decode b_M_halves 217 = .ok (.iload_n 1, 1) := by decide +kernel
theorem d_M_halves_218 : decode b_M_halves 218 = .ok (.iconst 1, 1) := by decide +kernel
theorem d_M_halves_219 : decode b_M_halves 219 = .ok (.bastore, 1) := by decide +kernel
theorem d_M_halves_220 : decode b_M_halves 220 = .ok (.aload_n 0, 1) := by decide +kernel
theorem d_M_halves_221 : decode b_M_halves 221 = .ok (.getfield 128, 3) := by decide +kernel
theorem d_M_halves_224 : decode b_M_halves 224 = .ok (.iload_n 1, 1) := by decide +kernel
theorem d_M_halves_225 : decode b_M_halves 225 = .ok (.aload_n 0, 1) := by decide +kernel
theorem d_M_halves_226 : decode b_M_halves 226 = .ok (.getfield 119, 3) := by decide +kernel
theorem d_M_halves_229 : decode b_M_halves 229 = .ok (.iload_n 1, 1) := by decide +kernel
theorem d_M_halves_230 : decode b_M_halves 230 = .ok (.iaload, 1) := by decide +kernel
theorem d_M_halves_231 : decode b_M_halves 231 = .ok (.iastore, 1) := by decide +kernel
theorem d_M_halves_232 : decode b_M_halves 232 = .ok (.return_, 1) := by decide +kernel
theorem d_M_arrive_0 : decode b_M_arrive 0 = .ok (.aload_n 0, 1) := by decide +kernel
theorem d_M_arrive_1 : decode b_M_arrive 1 = .ok (.iload_n 1, 1) := by decide +kernel
theorem d_M_arrive_2 : decode b_M_arrive 2 = .ok (.iload_n 2, 1) := by decide +kernel
theorem d_M_arrive_3 : decode b_M_arrive 3 = .ok (.invokevirtual 206, 3) := by decide +kernel
theorem d_M_arrive_6 : decode b_M_arrive 6 = .ok (.istore_n 3, 1) := by decide +kernel
theorem d_M_arrive_7 : decode b_M_arrive 7 = .ok (.aload_n 0, 1) := by decide +kernel
theorem d_M_arrive_8 : decode b_M_arrive 8 = .ok (.iload_n 1, 1) := by decide +kernel
theorem d_M_arrive_9 : decode b_M_arrive 9 = .ok (.iload_n 3, 1) := by decide +kernel
theorem d_M_arrive_10 : decode b_M_arrive 10 = .ok (.invokevirtual 209, 3) := by decide +kernel
theorem d_M_arrive_13 : decode b_M_arrive 13 = .ok (.aload_n 0, 1) := by decide +kernel
theorem d_M_arrive_14 : decode b_M_arrive 14 = .ok (.getfield 50, 3) := by decide +kernel
theorem d_M_arrive_17 : decode b_M_arrive 17 = .ok (.iload_n 1, 1) := by decide +kernel
theorem d_M_arrive_18 : decode b_M_arrive 18 = .ok (.baload, 1) := by decide +kernel
theorem d_M_arrive_19 : decode b_M_arrive 19 = .ok (.ifCond .eq 16, 3) := by decide +kernel
theorem d_M_arrive_22 : decode b_M_arrive 22 = .ok (.aload_n 0, 1) := by decide +kernel
theorem d_M_arrive_23 : decode b_M_arrive 23 = .ok (.getfield 50, 3) := by decide +kernel
theorem d_M_arrive_26 : decode b_M_arrive 26 = .ok (.iload_n 1, 1) := by decide +kernel
theorem d_M_arrive_27 : decode b_M_arrive 27 = .ok (.iconst 0, 1) := by decide +kernel
theorem d_M_arrive_28 : decode b_M_arrive 28 = .ok (.bastore, 1) := by decide +kernel
theorem d_M_arrive_29 : decode b_M_arrive 29 = .ok (.aload_n 0, 1) := by decide +kernel
theorem d_M_arrive_30 : decode b_M_arrive 30 = .ok (.iload_n 1, 1) := by decide +kernel
theorem d_M_arrive_31 : decode b_M_arrive 31 = .ok (.iload_n 3, 1) := by decide +kernel
theorem d_M_arrive_32 : decode b_M_arrive 32 = .ok (.invokevirtual 209, 3) := by decide +kernel
theorem d_M_arrive_35 : decode b_M_arrive 35 = .ok (.return_, 1) := by decide +kernel
