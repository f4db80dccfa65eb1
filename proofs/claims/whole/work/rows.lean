section
-- ===== PART A: goes FIRST, ahead of the names: the tables' words, and 'selects' of the private methods out of them =====
/-- a private method of a class that the tables say can be made, by its rows of tables_1 -/
def lw_okq (q : MethodName × Nat) : Prop := (q.1.cls ≠ "java/lang/invoke/MethodHandle" ∧ q.1.cls ≠ "java/lang/invoke/VarHandle") ∧ Cond.instantiable q.1.cls q.2 ∈ tables_1 ∧ Cond.privateMethod q.1 ∈ tables_1 ∧ Cond.instanceMethod q.1 ∈ tables_1
theorem lw_p0 : lw_okq (⟨"FramedLine", "endOf", "(I)LFramedLine$End;"⟩, 3) := ⟨⟨by decide +kernel, by decide +kernel⟩, List.mem_of_getElem? (i := 18) (by decide +kernel), List.mem_of_getElem? (i := 266) (by decide +kernel), List.mem_of_getElem? (i := 267) (by decide +kernel)⟩
theorem lw_p1 : lw_okq (⟨"java/lang/Throwable", "fillInStackTrace", "(I)Ljava/lang/Throwable;"⟩, 6) := ⟨⟨by decide +kernel, by decide +kernel⟩, List.mem_of_getElem? (i := 310) (by decide +kernel), List.mem_of_getElem? (i := 308) (by decide +kernel), List.mem_of_getElem? (i := 309) (by decide +kernel)⟩
theorem lw_p2 : lw_okq (⟨"FramedLine$Arrivals", "placeOf", "(I)I"⟩, 4) := ⟨⟨by decide +kernel, by decide +kernel⟩, List.mem_of_getElem? (i := 83) (by decide +kernel), List.mem_of_getElem? (i := 356) (by decide +kernel), List.mem_of_getElem? (i := 357) (by decide +kernel)⟩
theorem lw_p3 : lw_okq (⟨"FramedLine$Sender", "oddSlotZero", "(LFramedLine$Receiver;)I"⟩, 6) := ⟨⟨by decide +kernel, by decide +kernel⟩, List.mem_of_getElem? (i := 32) (by decide +kernel), List.mem_of_getElem? (i := 406) (by decide +kernel), List.mem_of_getElem? (i := 407) (by decide +kernel)⟩
theorem lw_p4 : lw_okq (⟨"FramedLine$Sender", "firstBitOfOdd", "(LFramedLine$Rounds;)I"⟩, 6) := ⟨⟨by decide +kernel, by decide +kernel⟩, List.mem_of_getElem? (i := 32) (by decide +kernel), List.mem_of_getElem? (i := 416) (by decide +kernel), List.mem_of_getElem? (i := 417) (by decide +kernel)⟩
theorem lw_p5 : lw_okq (⟨"FramedLine$Sender", "evenSlotZero", "()I"⟩, 6) := ⟨⟨by decide +kernel, by decide +kernel⟩, List.mem_of_getElem? (i := 32) (by decide +kernel), List.mem_of_getElem? (i := 420) (by decide +kernel), List.mem_of_getElem? (i := 421) (by decide +kernel)⟩
theorem lw_p6 : lw_okq (⟨"FramedLine$Encoder", "pulseOfOne", "()I"⟩, 6) := ⟨⟨by decide +kernel, by decide +kernel⟩, List.mem_of_getElem? (i := 58) (by decide +kernel), List.mem_of_getElem? (i := 439) (by decide +kernel), List.mem_of_getElem? (i := 440) (by decide +kernel)⟩
theorem lw_p7 : lw_okq (⟨"FramedLine$Encoder", "symbolOfZero", "()I"⟩, 6) := ⟨⟨by decide +kernel, by decide +kernel⟩, List.mem_of_getElem? (i := 58) (by decide +kernel), List.mem_of_getElem? (i := 443) (by decide +kernel), List.mem_of_getElem? (i := 444) (by decide +kernel)⟩
theorem lw_p8 : lw_okq (⟨"FramedLine$Decoder", "takeZero", "()V"⟩, 7) := ⟨⟨by decide +kernel, by decide +kernel⟩, List.mem_of_getElem? (i := 103) (by decide +kernel), List.mem_of_getElem? (i := 463) (by decide +kernel), List.mem_of_getElem? (i := 464) (by decide +kernel)⟩
theorem lw_p9 : lw_okq (⟨"FramedLine$Decoder", "takePulse", "(I)V"⟩, 7) := ⟨⟨by decide +kernel, by decide +kernel⟩, List.mem_of_getElem? (i := 103) (by decide +kernel), List.mem_of_getElem? (i := 467) (by decide +kernel), List.mem_of_getElem? (i := 468) (by decide +kernel)⟩
theorem lw_p10 : lw_okq (⟨"FramedLine$Decoder", "takeV", "(I)V"⟩, 7) := ⟨⟨by decide +kernel, by decide +kernel⟩, List.mem_of_getElem? (i := 103) (by decide +kernel), List.mem_of_getElem? (i := 471) (by decide +kernel), List.mem_of_getElem? (i := 472) (by decide +kernel)⟩
theorem lw_p11 : lw_okq (⟨"FramedLine$Receiver", "search", "()V"⟩, 10) := ⟨⟨by decide +kernel, by decide +kernel⟩, List.mem_of_getElem? (i := 133) (by decide +kernel), List.mem_of_getElem? (i := 479) (by decide +kernel), List.mem_of_getElem? (i := 480) (by decide +kernel)⟩
theorem lw_p12 : lw_okq (⟨"FramedLine$Receiver", "wordStands", "()Z"⟩, 10) := ⟨⟨by decide +kernel, by decide +kernel⟩, List.mem_of_getElem? (i := 133) (by decide +kernel), List.mem_of_getElem? (i := 483) (by decide +kernel), List.mem_of_getElem? (i := 484) (by decide +kernel)⟩
theorem lw_p13 : lw_okq (⟨"FramedLine$Receiver", "enter", "(LFramedLine$State;)V"⟩, 10) := ⟨⟨by decide +kernel, by decide +kernel⟩, List.mem_of_getElem? (i := 133) (by decide +kernel), List.mem_of_getElem? (i := 489) (by decide +kernel), List.mem_of_getElem? (i := 490) (by decide +kernel)⟩
theorem lw_p14 : lw_okq (⟨"FramedLine$Receiver", "tryWord", "(I)V"⟩, 10) := ⟨⟨by decide +kernel, by decide +kernel⟩, List.mem_of_getElem? (i := 133) (by decide +kernel), List.mem_of_getElem? (i := 493) (by decide +kernel), List.mem_of_getElem? (i := 494) (by decide +kernel)⟩
theorem lw_p15 : lw_okq (⟨"FramedLine$Receiver", "align", "()V"⟩, 10) := ⟨⟨by decide +kernel, by decide +kernel⟩, List.mem_of_getElem? (i := 133) (by decide +kernel), List.mem_of_getElem? (i := 497) (by decide +kernel), List.mem_of_getElem? (i := 498) (by decide +kernel)⟩
def lw_privs_1 : List (MethodName × Nat) := [(⟨"FramedLine", "endOf", "(I)LFramedLine$End;"⟩, 3), (⟨"java/lang/Throwable", "fillInStackTrace", "(I)Ljava/lang/Throwable;"⟩, 6), (⟨"FramedLine$Arrivals", "placeOf", "(I)I"⟩, 4), (⟨"FramedLine$Sender", "oddSlotZero", "(LFramedLine$Receiver;)I"⟩, 6), (⟨"FramedLine$Sender", "firstBitOfOdd", "(LFramedLine$Rounds;)I"⟩, 6), (⟨"FramedLine$Sender", "evenSlotZero", "()I"⟩, 6), (⟨"FramedLine$Encoder", "pulseOfOne", "()I"⟩, 6), (⟨"FramedLine$Encoder", "symbolOfZero", "()I"⟩, 6), (⟨"FramedLine$Decoder", "takeZero", "()V"⟩, 7), (⟨"FramedLine$Decoder", "takePulse", "(I)V"⟩, 7), (⟨"FramedLine$Decoder", "takeV", "(I)V"⟩, 7), (⟨"FramedLine$Receiver", "search", "()V"⟩, 10), (⟨"FramedLine$Receiver", "wordStands", "()Z"⟩, 10), (⟨"FramedLine$Receiver", "enter", "(LFramedLine$State;)V"⟩, 10), (⟨"FramedLine$Receiver", "tryWord", "(I)V"⟩, 10), (⟨"FramedLine$Receiver", "align", "()V"⟩, 10)]
theorem lw_r1 : ∀ q ∈ lw_privs_1, lw_okq q := List.forall_mem_cons.mpr ⟨lw_p0, List.forall_mem_cons.mpr ⟨lw_p1, List.forall_mem_cons.mpr ⟨lw_p2, List.forall_mem_cons.mpr ⟨lw_p3, List.forall_mem_cons.mpr ⟨lw_p4, List.forall_mem_cons.mpr ⟨lw_p5, List.forall_mem_cons.mpr ⟨lw_p6, List.forall_mem_cons.mpr ⟨lw_p7, List.forall_mem_cons.mpr ⟨lw_p8, List.forall_mem_cons.mpr ⟨lw_p9, List.forall_mem_cons.mpr ⟨lw_p10, List.forall_mem_cons.mpr ⟨lw_p11, List.forall_mem_cons.mpr ⟨lw_p12, List.forall_mem_cons.mpr ⟨lw_p13, List.forall_mem_cons.mpr ⟨lw_p14, List.forall_mem_cons.mpr ⟨lw_p15, fun _ h => absurd h List.not_mem_nil⟩⟩⟩⟩⟩⟩⟩⟩⟩⟩⟩⟩⟩⟩⟩⟩
theorem lw_p16 : lw_okq (⟨"FramedLine$Receiver", "complete", "()V"⟩, 10) := ⟨⟨by decide +kernel, by decide +kernel⟩, List.mem_of_getElem? (i := 133) (by decide +kernel), List.mem_of_getElem? (i := 501) (by decide +kernel), List.mem_of_getElem? (i := 502) (by decide +kernel)⟩
theorem lw_p17 : lw_okq (⟨"FramedLine$Rounds", "findNumber", "(Z)V"⟩, 13) := ⟨⟨by decide +kernel, by decide +kernel⟩, List.mem_of_getElem? (i := 139) (by decide +kernel), List.mem_of_getElem? (i := 513) (by decide +kernel), List.mem_of_getElem? (i := 514) (by decide +kernel)⟩
theorem lw_p18 : lw_okq (⟨"FramedLine$Rounds", "judgeRoundWord", "()V"⟩, 13) := ⟨⟨by decide +kernel, by decide +kernel⟩, List.mem_of_getElem? (i := 139) (by decide +kernel), List.mem_of_getElem? (i := 519) (by decide +kernel), List.mem_of_getElem? (i := 520) (by decide +kernel)⟩
theorem lw_p19 : lw_okq (⟨"FramedLine$Rounds", "forgetNumber", "()V"⟩, 13) := ⟨⟨by decide +kernel, by decide +kernel⟩, List.mem_of_getElem? (i := 139) (by decide +kernel), List.mem_of_getElem? (i := 523) (by decide +kernel), List.mem_of_getElem? (i := 524) (by decide +kernel)⟩
theorem lw_p20 : lw_okq (⟨"FramedLine$Rounds", "endHalf", "()V"⟩, 13) := ⟨⟨by decide +kernel, by decide +kernel⟩, List.mem_of_getElem? (i := 139) (by decide +kernel), List.mem_of_getElem? (i := 528) (by decide +kernel), List.mem_of_getElem? (i := 529) (by decide +kernel)⟩
theorem lw_p21 : lw_okq (⟨"FramedLine$Rounds", "judgeHalfBefore", "()V"⟩, 13) := ⟨⟨by decide +kernel, by decide +kernel⟩, List.mem_of_getElem? (i := 139) (by decide +kernel), List.mem_of_getElem? (i := 532) (by decide +kernel), List.mem_of_getElem? (i := 533) (by decide +kernel)⟩
theorem lw_p22 : lw_okq (⟨"FramedLine$Receiver", "lookAtWord", "()V"⟩, 10) := ⟨⟨by decide +kernel, by decide +kernel⟩, List.mem_of_getElem? (i := 133) (by decide +kernel), List.mem_of_getElem? (i := 536) (by decide +kernel), List.mem_of_getElem? (i := 537) (by decide +kernel)⟩
theorem lw_p23 : lw_okq (⟨"FramedLineModel", "said", "(II)I"⟩, 44) := ⟨⟨by decide +kernel, by decide +kernel⟩, List.mem_of_getElem? (i := 589) (by decide +kernel), List.mem_of_getElem? (i := 747) (by decide +kernel), List.mem_of_getElem? (i := 748) (by decide +kernel)⟩
theorem lw_p24 : lw_okq (⟨"FramedLineModel", "send", "(I)I"⟩, 44) := ⟨⟨by decide +kernel, by decide +kernel⟩, List.mem_of_getElem? (i := 589) (by decide +kernel), List.mem_of_getElem? (i := 759) (by decide +kernel), List.mem_of_getElem? (i := 760) (by decide +kernel)⟩
theorem lw_p25 : lw_okq (⟨"FramedLineModel", "nextBit", "(I)I"⟩, 44) := ⟨⟨by decide +kernel, by decide +kernel⟩, List.mem_of_getElem? (i := 589) (by decide +kernel), List.mem_of_getElem? (i := 763) (by decide +kernel), List.mem_of_getElem? (i := 764) (by decide +kernel)⟩
theorem lw_p26 : lw_okq (⟨"FramedLineModel", "beginFrame", "(I)V"⟩, 44) := ⟨⟨by decide +kernel, by decide +kernel⟩, List.mem_of_getElem? (i := 589) (by decide +kernel), List.mem_of_getElem? (i := 767) (by decide +kernel), List.mem_of_getElem? (i := 768) (by decide +kernel)⟩
theorem lw_p27 : lw_okq (⟨"FramedLineModel", "mark", "(II)I"⟩, 44) := ⟨⟨by decide +kernel, by decide +kernel⟩, List.mem_of_getElem? (i := 589) (by decide +kernel), List.mem_of_getElem? (i := 771) (by decide +kernel), List.mem_of_getElem? (i := 772) (by decide +kernel)⟩
theorem lw_p28 : lw_okq (⟨"FramedLineModel", "turned", "(I)I"⟩, 44) := ⟨⟨by decide +kernel, by decide +kernel⟩, List.mem_of_getElem? (i := 589) (by decide +kernel), List.mem_of_getElem? (i := 778) (by decide +kernel), List.mem_of_getElem? (i := 779) (by decide +kernel)⟩
theorem lw_p29 : lw_okq (⟨"FramedLineModel", "arrive", "(II)V"⟩, 44) := ⟨⟨by decide +kernel, by decide +kernel⟩, List.mem_of_getElem? (i := 589) (by decide +kernel), List.mem_of_getElem? (i := 782) (by decide +kernel), List.mem_of_getElem? (i := 783) (by decide +kernel)⟩
theorem lw_p30 : lw_okq (⟨"FramedLineModel", "coming", "(II)I"⟩, 44) := ⟨⟨by decide +kernel, by decide +kernel⟩, List.mem_of_getElem? (i := 589) (by decide +kernel), List.mem_of_getElem? (i := 786) (by decide +kernel), List.mem_of_getElem? (i := 787) (by decide +kernel)⟩
theorem lw_p31 : lw_okq (⟨"FramedLineModel", "take", "(II)V"⟩, 44) := ⟨⟨by decide +kernel, by decide +kernel⟩, List.mem_of_getElem? (i := 589) (by decide +kernel), List.mem_of_getElem? (i := 790) (by decide +kernel), List.mem_of_getElem? (i := 791) (by decide +kernel)⟩
def lw_privs_2 : List (MethodName × Nat) := [(⟨"FramedLine$Receiver", "complete", "()V"⟩, 10), (⟨"FramedLine$Rounds", "findNumber", "(Z)V"⟩, 13), (⟨"FramedLine$Rounds", "judgeRoundWord", "()V"⟩, 13), (⟨"FramedLine$Rounds", "forgetNumber", "()V"⟩, 13), (⟨"FramedLine$Rounds", "endHalf", "()V"⟩, 13), (⟨"FramedLine$Rounds", "judgeHalfBefore", "()V"⟩, 13), (⟨"FramedLine$Receiver", "lookAtWord", "()V"⟩, 10), (⟨"FramedLineModel", "said", "(II)I"⟩, 44), (⟨"FramedLineModel", "send", "(I)I"⟩, 44), (⟨"FramedLineModel", "nextBit", "(I)I"⟩, 44), (⟨"FramedLineModel", "beginFrame", "(I)V"⟩, 44), (⟨"FramedLineModel", "mark", "(II)I"⟩, 44), (⟨"FramedLineModel", "turned", "(I)I"⟩, 44), (⟨"FramedLineModel", "arrive", "(II)V"⟩, 44), (⟨"FramedLineModel", "coming", "(II)I"⟩, 44), (⟨"FramedLineModel", "take", "(II)V"⟩, 44)]
theorem lw_r2 : ∀ q ∈ lw_privs_2, lw_okq q := List.forall_mem_cons.mpr ⟨lw_p16, List.forall_mem_cons.mpr ⟨lw_p17, List.forall_mem_cons.mpr ⟨lw_p18, List.forall_mem_cons.mpr ⟨lw_p19, List.forall_mem_cons.mpr ⟨lw_p20, List.forall_mem_cons.mpr ⟨lw_p21, List.forall_mem_cons.mpr ⟨lw_p22, List.forall_mem_cons.mpr ⟨lw_p23, List.forall_mem_cons.mpr ⟨lw_p24, List.forall_mem_cons.mpr ⟨lw_p25, List.forall_mem_cons.mpr ⟨lw_p26, List.forall_mem_cons.mpr ⟨lw_p27, List.forall_mem_cons.mpr ⟨lw_p28, List.forall_mem_cons.mpr ⟨lw_p29, List.forall_mem_cons.mpr ⟨lw_p30, List.forall_mem_cons.mpr ⟨lw_p31, fun _ h => absurd h List.not_mem_nil⟩⟩⟩⟩⟩⟩⟩⟩⟩⟩⟩⟩⟩⟩⟩⟩
theorem lw_p32 : lw_okq (⟨"FramedLineModel", "fault", "(IZI)V"⟩, 44) := ⟨⟨by decide +kernel, by decide +kernel⟩, List.mem_of_getElem? (i := 589) (by decide +kernel), List.mem_of_getElem? (i := 794) (by decide +kernel), List.mem_of_getElem? (i := 795) (by decide +kernel)⟩
theorem lw_p33 : lw_okq (⟨"FramedLineModel", "make", "(II)V"⟩, 44) := ⟨⟨by decide +kernel, by decide +kernel⟩, List.mem_of_getElem? (i := 589) (by decide +kernel), List.mem_of_getElem? (i := 798) (by decide +kernel), List.mem_of_getElem? (i := 799) (by decide +kernel)⟩
theorem lw_p34 : lw_okq (⟨"FramedLineModel", "frameBit", "(I)V"⟩, 44) := ⟨⟨by decide +kernel, by decide +kernel⟩, List.mem_of_getElem? (i := 589) (by decide +kernel), List.mem_of_getElem? (i := 802) (by decide +kernel), List.mem_of_getElem? (i := 803) (by decide +kernel)⟩
theorem lw_p35 : lw_okq (⟨"FramedLineModel", "isWord", "(I)Z"⟩, 44) := ⟨⟨by decide +kernel, by decide +kernel⟩, List.mem_of_getElem? (i := 589) (by decide +kernel), List.mem_of_getElem? (i := 806) (by decide +kernel), List.mem_of_getElem? (i := 807) (by decide +kernel)⟩
theorem lw_p36 : lw_okq (⟨"FramedLineModel", "search", "(I)V"⟩, 44) := ⟨⟨by decide +kernel, by decide +kernel⟩, List.mem_of_getElem? (i := 589) (by decide +kernel), List.mem_of_getElem? (i := 810) (by decide +kernel), List.mem_of_getElem? (i := 811) (by decide +kernel)⟩
theorem lw_p37 : lw_okq (⟨"FramedLineModel", "forget", "(I)V"⟩, 44) := ⟨⟨by decide +kernel, by decide +kernel⟩, List.mem_of_getElem? (i := 589) (by decide +kernel), List.mem_of_getElem? (i := 814) (by decide +kernel), List.mem_of_getElem? (i := 815) (by decide +kernel)⟩
theorem lw_p38 : lw_okq (⟨"FramedLineModel", "complete", "(I)V"⟩, 44) := ⟨⟨by decide +kernel, by decide +kernel⟩, List.mem_of_getElem? (i := 589) (by decide +kernel), List.mem_of_getElem? (i := 818) (by decide +kernel), List.mem_of_getElem? (i := 819) (by decide +kernel)⟩
theorem lw_p39 : lw_okq (⟨"FramedLineModel", "halves", "(III)V"⟩, 44) := ⟨⟨by decide +kernel, by decide +kernel⟩, List.mem_of_getElem? (i := 589) (by decide +kernel), List.mem_of_getElem? (i := 822) (by decide +kernel), List.mem_of_getElem? (i := 823) (by decide +kernel)⟩
def lw_privs_3 : List (MethodName × Nat) := [(⟨"FramedLineModel", "fault", "(IZI)V"⟩, 44), (⟨"FramedLineModel", "make", "(II)V"⟩, 44), (⟨"FramedLineModel", "frameBit", "(I)V"⟩, 44), (⟨"FramedLineModel", "isWord", "(I)Z"⟩, 44), (⟨"FramedLineModel", "search", "(I)V"⟩, 44), (⟨"FramedLineModel", "forget", "(I)V"⟩, 44), (⟨"FramedLineModel", "complete", "(I)V"⟩, 44), (⟨"FramedLineModel", "halves", "(III)V"⟩, 44)]
theorem lw_r3 : ∀ q ∈ lw_privs_3, lw_okq q := List.forall_mem_cons.mpr ⟨lw_p32, List.forall_mem_cons.mpr ⟨lw_p33, List.forall_mem_cons.mpr ⟨lw_p34, List.forall_mem_cons.mpr ⟨lw_p35, List.forall_mem_cons.mpr ⟨lw_p36, List.forall_mem_cons.mpr ⟨lw_p37, List.forall_mem_cons.mpr ⟨lw_p38, List.forall_mem_cons.mpr ⟨lw_p39, fun _ h => absurd h List.not_mem_nil⟩⟩⟩⟩⟩⟩⟩⟩
def lw_privs : List (MethodName × Nat) := lw_privs_1 ++ (lw_privs_2 ++ (lw_privs_3))
def lw_tbl : List Cond := k2_sels lw_privs ++ tables_1
theorem lw_privs_ok : ∀ q ∈ lw_privs, lw_okq q := by
  show ∀ q ∈ lw_privs_1 ++ (lw_privs_2 ++ (lw_privs_3)), lw_okq q
  exact List.forall_mem_append.mpr ⟨lw_r1, List.forall_mem_append.mpr ⟨lw_r2, lw_r3⟩⟩
end
section
def T_A : u_T := fun k => match k with
  | 0 => ("FramedLine$Arrivals", "times", "[I", true)
  | 1 => ("FramedLine$Arrivals", "symbols", "[I", true)
  | 2 => ("FramedLine$Arrivals", "waiting", "I", false)
  | _ => ("FramedLine$Arrivals", "slipping", "Z", false)
def t_A : Nat → FieldType := fun k => match k with
  | 0 => .array .int
  | 1 => .array .int
  | 2 => .int
  | _ => .boolean
def T_D : u_T := fun k => match k with
  | 0 => ("FramedLine$Decoder", "latestSymbol", "I", false)
  | 1 => ("FramedLine$Decoder", "latestPulse", "I", false)
  | 2 => ("FramedLine$Decoder", "latestV", "I", false)
  | 3 => ("FramedLine$Decoder", "zeros", "I", false)
  | 4 => ("FramedLine$Decoder", "latestBits", "I", false)
  | 5 => ("FramedLine$Decoder", "symbolsAhead", "I", false)
  | _ => ("FramedLine$Decoder", "faults", "I", false)
def t_D : Nat → FieldType := fun k => match k with
  | 0 => .int
  | 1 => .int
  | 2 => .int
  | 3 => .int
  | 4 => .int
  | 5 => .int
  | _ => .int
def T_E : u_T := fun k => match k with
  | 0 => ("FramedLine$Encoder", "latestPulse", "I", false)
  | 1 => ("FramedLine$Encoder", "oddPulses", "Z", false)
  | 2 => ("FramedLine$Encoder", "zeros", "I", false)
  | 3 => ("FramedLine$Encoder", "threeBehind", "I", false)
  | 4 => ("FramedLine$Encoder", "twoBehind", "I", false)
  | _ => ("FramedLine$Encoder", "oneBehind", "I", false)
def t_E : Nat → FieldType := fun k => match k with
  | 0 => .int
  | 1 => .boolean
  | 2 => .int
  | 3 => .int
  | 4 => .int
  | _ => .int
def T_N : u_T := fun k => match k with
  | 0 => ("FramedLine$End", "sender", "LFramedLine$Sender;", true)
  | 1 => ("FramedLine$End", "encoder", "LFramedLine$Encoder;", true)
  | 2 => ("FramedLine$End", "arrivals", "LFramedLine$Arrivals;", true)
  | 3 => ("FramedLine$End", "decoder", "LFramedLine$Decoder;", true)
  | _ => ("FramedLine$End", "receiver", "LFramedLine$Receiver;", true)
def t_N : Nat → FieldType := fun k => match k with
  | 0 => .object "FramedLine$Sender"
  | 1 => .object "FramedLine$Encoder"
  | 2 => .object "FramedLine$Arrivals"
  | 3 => .object "FramedLine$Decoder"
  | _ => .object "FramedLine$Receiver"
def T_R : u_T := fun k => match k with
  | 0 => ("FramedLine$Receiver", "rounds", "LFramedLine$Rounds;", true)
  | 1 => ("FramedLine$Receiver", "state", "LFramedLine$State;", false)
  | 2 => ("FramedLine$Receiver", "latestBits", "I", false)
  | 3 => ("FramedLine$Receiver", "bits", "I", false)
  | 4 => ("FramedLine$Receiver", "odd", "Z", false)
  | 5 => ("FramedLine$Receiver", "wrongWords", "I", false)
  | 6 => ("FramedLine$Receiver", "latestFrame", "I", false)
  | 7 => ("FramedLine$Receiver", "completeFrames", "I", false)
  | 8 => ("FramedLine$Receiver", "losses", "I", false)
  | _ => ("FramedLine$Receiver", "alarmCame", "Z", false)
def t_R : Nat → FieldType := fun k => match k with
  | 0 => .object "FramedLine$Rounds"
  | 1 => .object "FramedLine$State"
  | 2 => .int
  | 3 => .int
  | 4 => .boolean
  | 5 => .int
  | 6 => .int
  | 7 => .int
  | 8 => .int
  | _ => .boolean
def T_O : u_T := fun k => match k with
  | 0 => ("FramedLine$Rounds", "number", "I", false)
  | 1 => ("FramedLine$Rounds", "oddFrames", "I", false)
  | 2 => ("FramedLine$Rounds", "firstBitsOfOdd", "I", false)
  | 3 => ("FramedLine$Rounds", "wrongRounds", "I", false)
  | 4 => ("FramedLine$Rounds", "halfBegunKnown", "Z", false)
  | 5 => ("FramedLine$Rounds", "halfBeforeKnown", "Z", false)
  | 6 => ("FramedLine$Rounds", "check", "I", false)
  | 7 => ("FramedLine$Rounds", "checkOfHalfBefore", "I", false)
  | 8 => ("FramedLine$Rounds", "checkCome", "I", false)
  | 9 => ("FramedLine$Rounds", "firstHalfWrong", "Z", false)
  | 10 => ("FramedLine$Rounds", "secondHalfWrong", "Z", false)
  | 11 => ("FramedLine$Rounds", "wrongHalves", "I", false)
  | _ => ("FramedLine$Rounds", "farFaults", "I", false)
def t_O : Nat → FieldType := fun k => match k with
  | 0 => .int
  | 1 => .int
  | 2 => .int
  | 3 => .int
  | 4 => .boolean
  | 5 => .boolean
  | 6 => .int
  | 7 => .int
  | 8 => .int
  | 9 => .boolean
  | 10 => .boolean
  | 11 => .int
  | _ => .int
def T_S : u_T := fun k => match k with
  | 0 => ("FramedLine$Sender", "loaded", "[I", true)
  | 1 => ("FramedLine$Sender", "next", "I", false)
  | 2 => ("FramedLine$Sender", "frameBits", "I", false)
  | 3 => ("FramedLine$Sender", "bitsSent", "I", false)
  | 4 => ("FramedLine$Sender", "check", "I", false)
  | _ => ("FramedLine$Sender", "checkOfHalfBefore", "I", false)
def t_S : Nat → FieldType := fun k => match k with
  | 0 => .array .int
  | 1 => .int
  | 2 => .int
  | 3 => .int
  | 4 => .int
  | _ => .int
def T_F : u_T := fun k => match k with
  | 0 => ("FramedLine", "zero", "LFramedLine$End;", true)
  | 1 => ("FramedLine", "one", "LFramedLine$End;", true)
  | _ => ("FramedLine", "passed", "I", false)
def t_F : Nat → FieldType := fun k => match k with
  | 0 => .object "FramedLine$End"
  | 1 => .object "FramedLine$End"
  | _ => .int
def T_M : u_T := fun k => match k with
  | 0 => ("FramedLineModel", "code", "I", false)
  | 1 => ("FramedLineModel", "now", "I", false)
  | 2 => ("FramedLineModel", "loaded", "[I", false)
  | 3 => ("FramedLineModel", "word", "[I", false)
  | 4 => ("FramedLineModel", "number", "[I", false)
  | 5 => ("FramedLineModel", "gone", "[I", false)
  | 6 => ("FramedLineModel", "check", "[I", false)
  | 7 => ("FramedLineModel", "before", "[I", false)
  | 8 => ("FramedLineModel", "ahead", "[I", false)
  | 9 => ("FramedLineModel", "group", "[I", false)
  | 10 => ("FramedLineModel", "pulse", "[I", false)
  | 11 => ("FramedLineModel", "odd", "[Z", false)
  | 12 => ("FramedLineModel", "many", "[I", false)
  | 13 => ("FramedLineModel", "when", "[I", false)
  | 14 => ("FramedLineModel", "what", "[I", false)
  | 15 => ("FramedLineModel", "slips", "[Z", false)
  | 16 => ("FramedLineModel", "came", "[I", false)
  | 17 => ("FramedLineModel", "latest", "[I", false)
  | 18 => ("FramedLineModel", "back", "[I", false)
  | 19 => ("FramedLineModel", "wasV", "[Z", false)
  | 20 => ("FramedLineModel", "heard", "[I", false)
  | 21 => ("FramedLineModel", "lastV", "[I", false)
  | 22 => ("FramedLineModel", "zeros", "[I", false)
  | 23 => ("FramedLineModel", "mode", "[I", false)
  | 24 => ("FramedLineModel", "since", "[I", false)
  | 25 => ("FramedLineModel", "bits", "[I", false)
  | 26 => ("FramedLineModel", "at", "[I", false)
  | 27 => ("FramedLineModel", "even", "[Z", false)
  | 28 => ("FramedLineModel", "wrongs", "[I", false)
  | 29 => ("FramedLineModel", "any", "[Z", false)
  | 30 => ("FramedLineModel", "frame", "[I", false)
  | 31 => ("FramedLineModel", "alarms", "[Z", false)
  | 32 => ("FramedLineModel", "known", "[Z", false)
  | 33 => ("FramedLineModel", "place", "[I", false)
  | 34 => ("FramedLineModel", "firsts", "[I", false)
  | 35 => ("FramedLineModel", "odds", "[I", false)
  | 36 => ("FramedLineModel", "misses", "[I", false)
  | 37 => ("FramedLineModel", "whole", "[Z", false)
  | 38 => ("FramedLineModel", "sum", "[I", false)
  | 39 => ("FramedLineModel", "told", "[I", false)
  | 40 => ("FramedLineModel", "wholeBefore", "[Z", false)
  | 41 => ("FramedLineModel", "sumBefore", "[I", false)
  | 42 => ("FramedLineModel", "foundWrong", "[Z", false)
  | _ => ("FramedLineModel", "counts", "[I", false)
def t_M : Nat → FieldType := fun k => match k with
  | 0 => .int
  | 1 => .int
  | 2 => .array .int
  | 3 => .array .int
  | 4 => .array .int
  | 5 => .array .int
  | 6 => .array .int
  | 7 => .array .int
  | 8 => .array .int
  | 9 => .array .int
  | 10 => .array .int
  | 11 => .array .boolean
  | 12 => .array .int
  | 13 => .array .int
  | 14 => .array .int
  | 15 => .array .boolean
  | 16 => .array .int
  | 17 => .array .int
  | 18 => .array .int
  | 19 => .array .boolean
  | 20 => .array .int
  | 21 => .array .int
  | 22 => .array .int
  | 23 => .array .int
  | 24 => .array .int
  | 25 => .array .int
  | 26 => .array .int
  | 27 => .array .boolean
  | 28 => .array .int
  | 29 => .array .boolean
  | 30 => .array .int
  | 31 => .array .boolean
  | 32 => .array .boolean
  | 33 => .array .int
  | 34 => .array .int
  | 35 => .array .int
  | 36 => .array .int
  | 37 => .array .boolean
  | 38 => .array .int
  | 39 => .array .int
  | 40 => .array .boolean
  | 41 => .array .int
  | 42 => .array .boolean
  | _ => .array .int
abbrev vwCl : List vw_C := [("FramedLine$Arrivals", T_A, 4), ("FramedLine$Decoder", T_D, 7), ("FramedLine$Encoder", T_E, 6), ("FramedLine$End", T_N, 5), ("FramedLine$Receiver", T_R, 10), ("FramedLine$Rounds", T_O, 13), ("FramedLine$Sender", T_S, 6), ("FramedLine", T_F, 3), ("FramedLineModel", T_M, 44)]
/-! OUR OWN BASE. One memory G for all cells of the two systems: G c k is the number in field (or element) k of cell c. gw P G is the world that it stands for; each row of a walk takes 'gH P s G H locs' to the same of the next memory. -/
abbrev Mem : Type := Nat → Nat → Int32
def wr (G : Mem) (c k : Nat) (v : Int32) : Mem := va_up G c (upd (G c) k v)
theorem wr_same (G : Mem) (c k : Nat) (v : Int32) : wr G c k v c k = v := by simp [wr, va_up, upd]
theorem wr_k (G : Mem) (c k : Nat) (v : Int32) {k' : Nat} (h : k' ≠ k) : wr G c k v c k' = G c k' := by simp [wr, va_up, upd, h]
theorem wr_c (G : Mem) (c k : Nat) (v : Int32) {c' : Nat} (h : c' ≠ c) : wr G c k v c' = G c' := by simp [wr, va_up, h]
theorem wr_ck (G : Mem) (c k : Nat) (v : Int32) {c' k' : Nat} (h : c' ≠ c) : wr G c k v c' k' = G c' k' := by rw [wr_c G c k v h]
abbrev tn (i : Int32) : Nat := i.toNatClampNeg
def zb (x : Int32) : Int32 := x &&& 1
theorem zb_nar (x : Int32) : vp_nar .boolean x = zb x := rfl
def isB (v : Int32) : Prop := narrow .boolean (.int v) = .int v ∧ fits .boolean (.int v) = true
theorem isB_0 : isB 0 := ⟨rfl, rfl⟩
theorem isB_1 : isB 1 := ⟨rfl, rfl⟩
theorem isB_or {v : Int32} (h : isB v) : v = 0 ∨ v = 1 := by
  have h2 : (v == 0 || v == 1) = true := h.2
  simpa using h2
theorem isB_of {v : Int32} (h : v = 0 ∨ v = 1) : isB v := by rcases h with rfl | rfl <;> exact ⟨rfl, rfl⟩
theorem zb_or (x : Int32) : zb x = 0 ∨ zb x = 1 := by
  obtain ⟨j, hj, e⟩ := pk_andE x (m := 1) 1 (by decide)
  have : j = 0 ∨ j = 1 := by omega
  rcases this with rfl | rfl
  · exact Or.inl e
  · exact Or.inr e
theorem isB_zb (x : Int32) : isB (zb x) := isB_of (zb_or x)
theorem zb_isB {v : Int32} (h : isB v) : zb v = v := by rcases isB_or h with rfl | rfl <;> rfl
def iu (x y : Int32) : Int32 := (x.toUInt32 >>> (y.toUInt32 &&& Int32.toUInt32 31)).toInt32
def n3 (x : Int32) : Int32 := if x = 0 then 0 else if x = 1 then 1 else 2
def n3n (x : Int32) : Nat := if x = 0 then 0 else if x = 1 then 1 else 2
theorem n3_eq {x y : Int32} : n3n x = n3n y ↔ n3 x = n3 y := by
  unfold n3 n3n
  by_cases h1 : x = 0 <;> by_cases h2 : x = 1 <;> by_cases h3 : y = 0 <;> by_cases h4 : y = 1 <;> simp [h1, h2, h3, h4]
theorem n3n_lt (x : Int32) : n3n x < 3 := by unfold n3n; split; omega; split <;> omega
/-- addresses, classes' places, the classes of int[] and boolean[], the addresses of the enum's three -/
abbrev gP : Type := (Nat → Nat) × va_G × ClassId × ClassId × (Nat → Nat)
def gad (P : gP) : Nat → Nat := P.1
def gDD (P : gP) : va_G := P.2.1
def gcI (P : gP) : ClassId := P.2.2.1
def gcZ (P : gP) : ClassId := P.2.2.2.1
def gae (P : gP) (x : Int32) : Nat := P.2.2.2.2 (n3n x)
def fl_F (P : gP) (c : Nat) (g : Nat → Int32) : List Value := [.ref (gad P (1)), .ref (gad P (11)), .int (g 2)]
def fl_N (P : gP) (c : Nat) (g : Nat → Int32) : List Value := [.ref (gad P (c+1)), .ref (gad P (c+3)), .ref (gad P (c+4)), .ref (gad P (c+7)), .ref (gad P (c+8))]
def fl_S (P : gP) (c : Nat) (g : Nat → Int32) : List Value := [.ref (gad P (c+1)), .int (g 1), .int (g 2), .int (g 3), .int (g 4), .int (g 5)]
def fl_E (P : gP) (c : Nat) (g : Nat → Int32) : List Value := [.int (g 0), .int (zb (g 1)), .int (g 2), .int (g 3), .int (g 4), .int (g 5)]
def fl_A (P : gP) (c : Nat) (g : Nat → Int32) : List Value := [.ref (gad P (c+1)), .ref (gad P (c+2)), .int (g 2), .int (zb (g 3))]
def fl_D (P : gP) (c : Nat) (g : Nat → Int32) : List Value := [.int (g 0), .int (g 1), .int (g 2), .int (g 3), .int (g 4), .int (g 5), .int (g 6)]
def fl_R (P : gP) (c : Nat) (g : Nat → Int32) : List Value := [.ref (gad P (c+1)), .ref (gae P (g 1)), .int (g 2), .int (g 3), .int (zb (g 4)), .int (g 5), .int (g 6), .int (g 7), .int (g 8), .int (zb (g 9))]
def fl_O (P : gP) (c : Nat) (g : Nat → Int32) : List Value := [.int (g 0), .int (g 1), .int (g 2), .int (g 3), .int (zb (g 4)), .int (zb (g 5)), .int (g 6), .int (g 7), .int (g 8), .int (zb (g 9)), .int (zb (g 10)), .int (g 11), .int (g 12)]
def fl_M (P : gP) (c : Nat) (g : Nat → Int32) : List Value := [.int (g 0), .int (g 1), .ref (gad P (22)), .ref (gad P (23)), .ref (gad P (24)), .ref (gad P (25)), .ref (gad P (26)), .ref (gad P (27)), .ref (gad P (28)), .ref (gad P (29)), .ref (gad P (30)), .ref (gad P (31)), .ref (gad P (32)), .ref (gad P (33)), .ref (gad P (34)), .ref (gad P (35)), .ref (gad P (36)), .ref (gad P (37)), .ref (gad P (38)), .ref (gad P (39)), .ref (gad P (40)), .ref (gad P (41)), .ref (gad P (42)), .ref (gad P (43)), .ref (gad P (44)), .ref (gad P (45)), .ref (gad P (46)), .ref (gad P (47)), .ref (gad P (48)), .ref (gad P (49)), .ref (gad P (50)), .ref (gad P (51)), .ref (gad P (52)), .ref (gad P (53)), .ref (gad P (54)), .ref (gad P (55)), .ref (gad P (56)), .ref (gad P (57)), .ref (gad P (58)), .ref (gad P (59)), .ref (gad P (60)), .ref (gad P (61)), .ref (gad P (62)), .ref (gad P (63))]
/-- what stands in cell c when its numbers are g -/
def gc (P : gP) (c : Nat) (g : Nat → Int32) : va_E := match c with
  | 0 => .inr (7, fl_F P 0 g)
  | 1 => .inr (3, fl_N P 1 g)
  | 2 => .inr (6, fl_S P 2 g)
  | 3 => .inl (gcI P, 4, .inl g)
  | 4 => .inr (2, fl_E P 4 g)
  | 5 => .inr (0, fl_A P 5 g)
  | 6 => .inl (gcI P, 8, .inl g)
  | 7 => .inl (gcI P, 8, .inl g)
  | 8 => .inr (1, fl_D P 8 g)
  | 9 => .inr (4, fl_R P 9 g)
  | 10 => .inr (5, fl_O P 10 g)
  | 11 => .inr (3, fl_N P 11 g)
  | 12 => .inr (6, fl_S P 12 g)
  | 13 => .inl (gcI P, 4, .inl g)
  | 14 => .inr (2, fl_E P 14 g)
  | 15 => .inr (0, fl_A P 15 g)
  | 16 => .inl (gcI P, 8, .inl g)
  | 17 => .inl (gcI P, 8, .inl g)
  | 18 => .inr (1, fl_D P 18 g)
  | 19 => .inr (4, fl_R P 19 g)
  | 20 => .inr (5, fl_O P 20 g)
  | 21 => .inr (8, fl_M P 21 g)
  | 22 => .inl (gcI P, 8, .inl g)
  | 23 => .inl (gcI P, 2, .inl g)
  | 24 => .inl (gcI P, 2, .inl g)
  | 25 => .inl (gcI P, 2, .inl g)
  | 26 => .inl (gcI P, 2, .inl g)
  | 27 => .inl (gcI P, 2, .inl g)
  | 28 => .inl (gcI P, 2, .inl g)
  | 29 => .inl (gcI P, 2, .inl g)
  | 30 => .inl (gcI P, 2, .inl g)
  | 31 => .inl (gcZ P, 2, .inl g)
  | 32 => .inl (gcI P, 2, .inl g)
  | 33 => .inl (gcI P, 16, .inl g)
  | 34 => .inl (gcI P, 16, .inl g)
  | 35 => .inl (gcZ P, 2, .inl g)
  | 36 => .inl (gcI P, 2, .inl g)
  | 37 => .inl (gcI P, 2, .inl g)
  | 38 => .inl (gcI P, 6, .inl g)
  | 39 => .inl (gcZ P, 6, .inl g)
  | 40 => .inl (gcI P, 2, .inl g)
  | 41 => .inl (gcI P, 2, .inl g)
  | 42 => .inl (gcI P, 2, .inl g)
  | 43 => .inl (gcI P, 2, .inl g)
  | 44 => .inl (gcI P, 2, .inl g)
  | 45 => .inl (gcI P, 2, .inl g)
  | 46 => .inl (gcI P, 2, .inl g)
  | 47 => .inl (gcZ P, 2, .inl g)
  | 48 => .inl (gcI P, 2, .inl g)
  | 49 => .inl (gcZ P, 2, .inl g)
  | 50 => .inl (gcI P, 2, .inl g)
  | 51 => .inl (gcZ P, 2, .inl g)
  | 52 => .inl (gcZ P, 2, .inl g)
  | 53 => .inl (gcI P, 2, .inl g)
  | 54 => .inl (gcI P, 2, .inl g)
  | 55 => .inl (gcI P, 2, .inl g)
  | 56 => .inl (gcI P, 2, .inl g)
  | 57 => .inl (gcZ P, 2, .inl g)
  | 58 => .inl (gcI P, 2, .inl g)
  | 59 => .inl (gcI P, 2, .inl g)
  | 60 => .inl (gcZ P, 2, .inl g)
  | 61 => .inl (gcI P, 2, .inl g)
  | 62 => .inl (gcZ P, 4, .inl g)
  | _ => .inl (gcI P, 10, .inl g)
def gw (P : gP) (G : Mem) : va_W := (List.range 64).map (fun c => (gad P c, gc P c (G c)))
theorem gw_at {P : gP} {G : Mem} {c : Nat} (h : c < 64) : (gw P G)[c]? = some (gad P c, gc P c (G c)) := by simp [gw, h]
theorem gw_lt {P : gP} {G : Mem} {c : Nat} {q : Nat × va_E} (h : (gw P G)[c]? = some q) : c < 64 := by
  have := (List.getElem?_eq_some_iff.mp h).1
  simpa [gw] using this
theorem gw_set {P : gP} {G : Mem} {c : Nat} {g : Nat → Int32} (h : c < 64) : (gw P G).set c (gad P c, gc P c g) = gw P (va_up G c g) := by
  apply List.ext_getElem?
  intro i
  by_cases hi : i = c
  · subst hi
    rw [List.getElem?_set_self (by simpa [gw] using h), gw_at h, va_up_self]
  · rw [List.getElem?_set_ne (Ne.symm hi)]
    by_cases hl : i < 64
    · rw [gw_at hl, gw_at hl, va_up_ne _ _ hi]
    · rw [List.getElem?_eq_none (by simp [gw]; omega), List.getElem?_eq_none (by simp [gw]; omega)]
/-- the cells of the two systems -/
def gA (P : gP) : Nat → Prop := fun q => ∃ c, c < 64 ∧ q = gad P c
def gInj (P : gP) : Prop := ∀ i j, i < 64 → j < 64 → gad P i = gad P j → i = j
theorem gD_of {P : gP} (h : gInj P) (G : Mem) : va_D (gA P) (gw P G) := by
  refine ⟨fun i j p q hi hj e => ?_, fun k q hk => ?_⟩
  · have li := gw_lt hi
    have lj := gw_lt hj
    rw [gw_at li] at hi
    rw [gw_at lj] at hj
    cases hi
    cases hj
    exact h i j li lj e
  · have lk := gw_lt hk
    rw [gw_at lk] at hk
    cases hk
    exact ⟨k, lk, rfl⟩
def kF (c : Nat) : Prop := c = 0
def kN (c : Nat) : Prop := c = 1 ∨ c = 11
def kS (c : Nat) : Prop := c = 2 ∨ c = 12
def kI4 (c : Nat) : Prop := c = 3 ∨ c = 13
def kE (c : Nat) : Prop := c = 4 ∨ c = 14
def kA (c : Nat) : Prop := c = 5 ∨ c = 15
def kD (c : Nat) : Prop := c = 8 ∨ c = 18
def kR (c : Nat) : Prop := c = 9 ∨ c = 19
def kO (c : Nat) : Prop := c = 10 ∨ c = 20
def kM (c : Nat) : Prop := c = 21
def kI8 (c : Nat) : Prop := (c = 6 ∨ c = 16) ∨ (c = 7 ∨ c = 17)
theorem gc_F {P : gP} {c : Nat} (h : kF c) : c < 64 ∧ ∀ g, gc P c g = .inr (7, fl_F P c g) := by rcases h with rfl <;> exact ⟨by decide, fun _ => rfl⟩
theorem gc_N {P : gP} {c : Nat} (h : kN c) : c < 64 ∧ ∀ g, gc P c g = .inr (3, fl_N P c g) := by rcases h with rfl | rfl <;> exact ⟨by decide, fun _ => rfl⟩
theorem gc_S {P : gP} {c : Nat} (h : kS c) : c < 64 ∧ ∀ g, gc P c g = .inr (6, fl_S P c g) := by rcases h with rfl | rfl <;> exact ⟨by decide, fun _ => rfl⟩
theorem gc_E {P : gP} {c : Nat} (h : kE c) : c < 64 ∧ ∀ g, gc P c g = .inr (2, fl_E P c g) := by rcases h with rfl | rfl <;> exact ⟨by decide, fun _ => rfl⟩
theorem gc_A {P : gP} {c : Nat} (h : kA c) : c < 64 ∧ ∀ g, gc P c g = .inr (0, fl_A P c g) := by rcases h with rfl | rfl <;> exact ⟨by decide, fun _ => rfl⟩
theorem gc_D {P : gP} {c : Nat} (h : kD c) : c < 64 ∧ ∀ g, gc P c g = .inr (1, fl_D P c g) := by rcases h with rfl | rfl <;> exact ⟨by decide, fun _ => rfl⟩
theorem gc_R {P : gP} {c : Nat} (h : kR c) : c < 64 ∧ ∀ g, gc P c g = .inr (4, fl_R P c g) := by rcases h with rfl | rfl <;> exact ⟨by decide, fun _ => rfl⟩
theorem gc_O {P : gP} {c : Nat} (h : kO c) : c < 64 ∧ ∀ g, gc P c g = .inr (5, fl_O P c g) := by rcases h with rfl | rfl <;> exact ⟨by decide, fun _ => rfl⟩
theorem gc_M {P : gP} {c : Nat} (h : kM c) : c < 64 ∧ ∀ g, gc P c g = .inr (8, fl_M P c g) := by rcases h with rfl <;> exact ⟨by decide, fun _ => rfl⟩
theorem ga_I4 {P : gP} {c : Nat} (h : kI4 c) : c < 64 ∧ ∀ g, gc P c g = .inl (gcI P, 4, .inl g) := by rcases h with rfl | rfl <;> exact ⟨by decide, fun _ => rfl⟩
theorem ga_I8 {P : gP} {c : Nat} (h : kI8 c) : c < 64 ∧ ∀ g, gc P c g = .inl (gcI P, 8, .inl g) := by rcases h with (rfl | rfl) | (rfl | rfl) <;> exact ⟨by decide, fun _ => rfl⟩
theorem kN_sender {c : Nat} (h : kN c) : kS (c + 1) := by rcases h with rfl | rfl <;> simp [kS]
theorem kN_encoder {c : Nat} (h : kN c) : kE (c + 3) := by rcases h with rfl | rfl <;> simp [kE]
theorem kN_arrivals {c : Nat} (h : kN c) : kA (c + 4) := by rcases h with rfl | rfl <;> simp [kA]
theorem kN_decoder {c : Nat} (h : kN c) : kD (c + 7) := by rcases h with rfl | rfl <;> simp [kD]
theorem kN_receiver {c : Nat} (h : kN c) : kR (c + 8) := by rcases h with rfl | rfl <;> simp [kR]
theorem kS_loaded {c : Nat} (h : kS c) : kI4 (c + 1) := by rcases h with rfl | rfl <;> simp [kI4]
theorem kR_rounds {c : Nat} (h : kR c) : kO (c + 1) := by rcases h with rfl | rfl <;> simp [kO]
theorem kA_times {c : Nat} (h : kA c) : kI8 (c + 1) := by rcases h with rfl | rfl <;> simp [kI8]
theorem kA_symbols {c : Nat} (h : kA c) : kI8 (c + 2) := by rcases h with rfl | rfl <;> simp [kI8]
theorem set_E1 (P : gP) (c : Nat) : ∀ (g : Nat → Int32) (nv : Int32), isB nv → (fl_E P c g).set 1 (.int nv) = fl_E P c (upd g 1 nv) := by
  intro g nv h
  have e := zb_isB h
  simp [fl_E, upd, e]
theorem set_A3 (P : gP) (c : Nat) : ∀ (g : Nat → Int32) (nv : Int32), isB nv → (fl_A P c g).set 3 (.int nv) = fl_A P c (upd g 3 nv) := by
  intro g nv h
  have e := zb_isB h
  simp [fl_A, upd, e]
theorem set_R4 (P : gP) (c : Nat) : ∀ (g : Nat → Int32) (nv : Int32), isB nv → (fl_R P c g).set 4 (.int nv) = fl_R P c (upd g 4 nv) := by
  intro g nv h
  have e := zb_isB h
  simp [fl_R, upd, e]
theorem set_R9 (P : gP) (c : Nat) : ∀ (g : Nat → Int32) (nv : Int32), isB nv → (fl_R P c g).set 9 (.int nv) = fl_R P c (upd g 9 nv) := by
  intro g nv h
  have e := zb_isB h
  simp [fl_R, upd, e]
theorem set_O4 (P : gP) (c : Nat) : ∀ (g : Nat → Int32) (nv : Int32), isB nv → (fl_O P c g).set 4 (.int nv) = fl_O P c (upd g 4 nv) := by
  intro g nv h
  have e := zb_isB h
  simp [fl_O, upd, e]
theorem set_O5 (P : gP) (c : Nat) : ∀ (g : Nat → Int32) (nv : Int32), isB nv → (fl_O P c g).set 5 (.int nv) = fl_O P c (upd g 5 nv) := by
  intro g nv h
  have e := zb_isB h
  simp [fl_O, upd, e]
theorem set_O9 (P : gP) (c : Nat) : ∀ (g : Nat → Int32) (nv : Int32), isB nv → (fl_O P c g).set 9 (.int nv) = fl_O P c (upd g 9 nv) := by
  intro g nv h
  have e := zb_isB h
  simp [fl_O, upd, e]
theorem set_O10 (P : gP) (c : Nat) : ∀ (g : Nat → Int32) (nv : Int32), isB nv → (fl_O P c g).set 10 (.int nv) = fl_O P c (upd g 10 nv) := by
  intro g nv h
  have e := zb_isB h
  simp [fl_O, upd, e]
end
section
/-! the words: those of the tables that stay good under every warming; the nest's own words beside them -/
def GW : List Cond := lw_tbl.filter goodWord
theorem GW_at (i : Nat) {w : Cond} (h : lw_tbl[i]? = some w) (hg : goodWord w = true) : w ∈ GW := List.mem_filter.mpr ⟨List.mem_of_getElem? h, hg⟩
theorem GW_good {big : List Cond} {l : List Cond} (h : ∀ w ∈ l, w ∈ GW) : GoodIn GW l := fun w hw => ⟨h w hw, good_of_word (List.mem_filter.mp (h w hw)).2⟩
def nestW : Cond → Bool
  | .fieldLinkNest .. => true
  | .methodLinkNest .. => true
  | _ => false
def NW : List Cond := lw_tbl.filter nestW
theorem NW_at (i : Nat) {w : Cond} (h : lw_tbl[i]? = some w) (hg : nestW w = true) : w ∈ NW := List.mem_filter.mpr ⟨List.mem_of_getElem? h, hg⟩
theorem NW_tab {w : Cond} (h : w ∈ NW) : w.onTables = true := by
  have hn := (List.mem_filter.mp h).2
  cases w <;> first | rfl | (simp [nestW] at hn)
theorem NW_warm {s U : State} (hW : s.WarmedH U.vm) (h : ∀ w ∈ NW, va_Nw w s) : ∀ w ∈ NW, va_Nw w U := by
  intro w hw
  have hn := (List.mem_filter.mp hw).2
  have h1 := h w hw
  cases w <;> first | exact va_Nw.warmF hW h1 | exact va_Nw.warmM hW h1 | (simp [nestW] at hn)
/-- what a state's tables hold, once and for all -/
def gS (P : gP) (U : State) : Prop := va_K (gDD P) vwCl [(gcI P, .int), (gcZ P, .boolean)] U ∧ gInj P ∧ (∀ w ∈ NW, va_Nw w U) ∧ va_En "FramedLine$State" "LFramedLine$State;" ["SEARCHING", "TRYING", "ALIGNED"] [] P.2.2.2.2 (gA P) U U.heap
def gPre (P : gP) (G : Mem) (U : State) : Prop := va_P (gDD P) vwCl (gw P G) U.heap ∧ gS P U
def gH (P : gP) (s : State) (G : Mem) (H : Heap) (locs : List Loc) : Prop := va_P (gDD P) vwCl (gw P G) H ∧ va_S (gA P) s.heap H locs
theorem gPre_blind {av : List Value} {P : gP} {G : Mem} : FrameBlind (va_Pc av (gPre P G)) := by
  intro a U g mk h
  obtain ⟨h0, h1, hK, hI, hN, hE⟩ := h
  exact ⟨h0, h1, va_K.moved (u := U) (U := U.calling g mk a) (Vm.Alike.refl U.vm) hK, hI, fun w hw => va_Nw.same (u := U) (U := U.calling g mk a) (NW_tab hw) rfl (hN w hw), va_En.moved (u := U) (U := U.calling g mk a) (Vm.Alike.refl U.vm) hE⟩
theorem gS_moved {P : gP} {s U : State} {H : Heap} {locs : List Loc} (h : gS P s) (hS : va_S (gA P) s.heap H locs) (hU : U.heap = H) (hW : s.WarmedH U.vm) : gS P U := by
  obtain ⟨hK, hI, hN, hE⟩ := h
  refine ⟨va_K.moved hW.alike hK, hI, NW_warm hW hN, ?_⟩
  rw [hU]
  exact va_En.moved hW.alike (hE.kept hS.2.1)
/-- a method's own code and place, and what the tables give -/
def gE (p : Program) (s : State) (m : MethodId) (args : Array Value) (meth : Method) (c : Code) (P : gP) (own : String) (cc : ByteArray) (nL : Nat) (ret : Option FieldType) : Prop :=
  p.tables.exec = Jvm.exec ∧ c.code = cc ∧ meth.sig.returnType = ret ∧ c.maxLocals = nL ∧ s.vm.findClass own = some m.cls ∧ (∀ w ∈ GW, w.before args s = true) ∧ meth.locks = false ∧ gS P s
def gMv (l : Launch) (y : MethodName) (cc : ByteArray) (maxL : Nat) (ret : Option FieldType) (rm : Room) (av : List Value) (P : gP) (G : Mem) (X : Mem) : Prop :=
  Met l y (Cond.code y cc maxL ret :: GW) rm (va_Pc av (gPre P G)) (va_Qv (fun u : Mem => X = u) (fun u t => va_P (gDD P) vwCl (gw P u) t.heap) (gA P)) 0 0 (gA P)
def gMi (l : Launch) (y : MethodName) (cc : ByteArray) (maxL : Nat) (ret : Option FieldType) (rm : Room) (av : List Value) (P : gP) (G : Mem) (X : Int32 × Mem) : Prop :=
  Met l y (Cond.code y cc maxL ret :: GW) rm (va_Pc av (gPre P G)) (va_Qi (fun (r : Int32) (u : Mem) => X = (r, u)) (fun u t => va_P (gDD P) vwCl (gw P u) t.heap) (gA P)) 0 0 (gA P)
def gMz (l : Launch) (y : MethodName) (cc : ByteArray) (maxL : Nat) (ret : Option FieldType) (rm : Room) (av : List Value) (P : gP) (G : Mem) (X : Int32 × Mem) : Prop :=
  Met l y (Cond.code y cc maxL ret :: GW) rm (va_Pc av (gPre P G)) (va_Qi (fun (r : Int32) (u : Mem) => X = (r, u) ∧ isB r) (fun u t => va_P (gDD P) vwCl (gw P u) t.heap) (gA P)) 0 0 (gA P)
def gMri (l : Launch) (y : MethodName) (cc : ByteArray) (maxL : Nat) (ret : Option FieldType) (rm : Room) (av : List Value) (P : gP) (G : Mem) (X : Int32) : Prop := gMi l y cc maxL ret rm av P G (X, G)
def gMrz (l : Launch) (y : MethodName) (cc : ByteArray) (maxL : Nat) (ret : Option FieldType) (rm : Room) (av : List Value) (P : gP) (G : Mem) (X : Int32) : Prop := gMz l y cc maxL ret rm av P G (X, G)
def gCl (ci : Nat) (C : String) (T : u_T) (N : Nat) : Prop := vwCl[ci]? = some (C, T, N) ∧ ∀ w ∈ u_ws C T N, w ∈ GW
def gCt (C : String) (T : u_T) (N : Nat) (ty : Nat → FieldType) : Prop := (∀ k, k < N → parseFieldDescriptor (T k).2.2.1 = some (ty k)) ∧ (∀ a, a < N → ∀ b, b < N → a ≠ b → (T a).2.1 ≠ (T b).2.1)
/-- a call's words -/
def gLV (own C : String) (idx : Nat) (y : MethodName) (cc : ByteArray) (maxL : Nat) (ret : Option FieldType) (n : Nat) : Prop :=
  (Cond.code y cc maxL ret ∈ GW ∧ Cond.initialized y.cls ∈ GW ∧ (y.cls ≠ "java/lang/invoke/MethodHandle" ∧ y.cls ≠ "java/lang/invoke/VarHandle" ∧ (parseMethodDescriptor y.desc).map (fun d => d.parameters.length) = some n)) ∧ Cond.methodLink own idx y ∈ GW ∧ Cond.instanceMethod y ∈ GW ∧ Cond.selects C y y ∈ GW
def gLS (own : String) (idx : Nat) (y : MethodName) (cc : ByteArray) (maxL : Nat) (ret : Option FieldType) (n : Nat) : Prop :=
  (Cond.code y cc maxL ret ∈ GW ∧ Cond.initialized y.cls ∈ GW ∧ (y.cls ≠ "java/lang/invoke/MethodHandle" ∧ y.cls ≠ "java/lang/invoke/VarHandle" ∧ (parseMethodDescriptor y.desc).map (fun d => d.parameters.length) = some n)) ∧ Cond.methodLink own idx y ∈ GW ∧ Cond.static y ∈ GW
def gLSN (own host : String) (idx : Nat) (y : MethodName) (cc : ByteArray) (maxL : Nat) (ret : Option FieldType) (n : Nat) : Prop :=
  (Cond.code y cc maxL ret ∈ GW ∧ Cond.initialized y.cls ∈ GW ∧ (y.cls ≠ "java/lang/invoke/MethodHandle" ∧ y.cls ≠ "java/lang/invoke/VarHandle" ∧ (parseMethodDescriptor y.desc).map (fun d => d.parameters.length) = some n)) ∧ Cond.methodLinkNest own idx y host ∈ NW ∧ Cond.static y ∈ GW
theorem gE_of {p : Program} {l : Launch} {e : Env} {s : State} {m : MethodId} {args : Array Value} {below : List Frame} {meth : Method} {c : Code} {s₁ : State} {y : MethodName} {cc : ByteArray} {maxL : Nat} {ret : Option FieldType} {rm : Room} {P : gP} {G : Mem}
    (B : BodyLoose p l y (headSpec (Cond.code y cc maxL ret :: GW) rm) cc maxL ret e s m args below meth c s₁) (hml : c.maxLocals = maxL) (hpre : gPre P G s) : gE p s m args meth c P y.cls cc maxL ret ∧ gH P s G s.heap [] :=
  ⟨⟨B.exec, B.bytes, B.returns, hml, findClass_of_methodNamed B.named, fun w h => atoms_spec (ws := Cond.code y cc maxL ret :: GW) B.pre w (List.mem_cons_of_mem _ h), B.notSynchronized, hpre.2⟩, hpre.1, va_S.rf⟩
section GR
variable {p : Program} {l : Launch} {e : Env} {R : Room} {s : State} {m : MethodId} {args : Array Value} {below : List Frame} {meth : Method} {c : Code} {H : Heap} {locs : List Loc} {cells slots : Nat} {Q : State → Prop}
variable {cc : ByteArray} {pc : Nat} {ls : Array Slot} {rest : List Value} {P : gP} {G : Mem} {own : String} {nL : Nat} {ret : Option FieldType}
/-- a place that several ways come to: first what goes on from there, then the ways -/
theorem jn {α : Type} {g : JFrame} (Pz : α → Heap → List Loc → Prop) (fr : α → JFrame) (k1 : ∀ (z : α) (H1 : Heap) (locs1 : List Loc), Pz z H1 locs1 → W p l e R s m args below meth c H1 locs1 cells slots Q (fr z))
    (k2 : (∀ (z : α) (H1 : Heap) (locs1 : List Loc), Pz z H1 locs1 → W p l e R s m args below meth c H1 locs1 cells slots Q (fr z)) → W p l e R s m args below meth c H locs cells slots Q g) : W p l e R s m args below meth c H locs cells slots Q g := k2 k1
/-- a loop's head: a measure that falls -/
theorem lp {α : Type} (Pz : α → Heap → List Loc → Prop) (fr : α → JFrame) (μ : α → Nat)
    (st : ∀ (z : α) (H1 : Heap) (locs1 : List Loc), Pz z H1 locs1 → (∀ (z' : α) (H2 : Heap) (locs2 : List Loc), μ z' < μ z → Pz z' H2 locs2 → W p l e R s m args below meth c H2 locs2 cells slots Q (fr z')) → W p l e R s m args below meth c H1 locs1 cells slots Q (fr z)) :
    ∀ (z : α) (H1 : Heap) (locs1 : List Loc), Pz z H1 locs1 → W p l e R s m args below meth c H1 locs1 cells slots Q (fr z) := by
  have key : ∀ (n : Nat) (z : α) (H1 : Heap) (locs1 : List Loc), μ z < n → Pz z H1 locs1 → W p l e R s m args below meth c H1 locs1 cells slots Q (fr z) := by
    intro n
    induction n with
    | zero => intro z H1 locs1 h; exact absurd h (Nat.not_lt_zero _)
    | succ n ih =>
      intro z H1 locs1 h hz
      exact st z H1 locs1 hz (fun z' H2 locs2 hlt hz' => ih z' H2 locs2 (Nat.lt_of_lt_of_le hlt (Nat.le_of_lt_succ h)) hz')
  exact fun z H1 locs1 hz => key (μ z + 1) z H1 locs1 (Nat.lt_succ_self _) hz
theorem jl {α : Type} {g : JFrame} (Pz : α → Heap → List Loc → Prop) (fr : α → JFrame) (μ : α → Nat)
    (st : ∀ (z : α) (H1 : Heap) (locs1 : List Loc), Pz z H1 locs1 → (∀ (z' : α) (H2 : Heap) (locs2 : List Loc), μ z' < μ z → Pz z' H2 locs2 → W p l e R s m args below meth c H2 locs2 cells slots Q (fr z')) → W p l e R s m args below meth c H1 locs1 cells slots Q (fr z))
    (k2 : (∀ (z : α) (H1 : Heap) (locs1 : List Loc), Pz z H1 locs1 → W p l e R s m args below meth c H1 locs1 cells slots Q (fr z)) → W p l e R s m args below meth c H locs cells slots Q g) : W p l e R s m args below meth c H locs cells slots Q g := k2 (lp Pz fr μ st)
theorem g_get {ci N idx : Nat} {C : String} {T : u_T} {fl : (Nat → Int32) → List Value} {c0 : Nat} (E : gE p s m args meth c P own cc nL ret) (h : gH P s G H locs) (hc : c0 < 64 ∧ ∀ g, gc P c0 g = .inr (ci, fl g)) (hcl : gCl ci C T N) (k : Nat) (hk : k < N)
    (hl : Cond.fieldLink own idx (T k).1 (T k).2.1 (T k).2.2.1 ∈ GW) {v : Value} (hv : (fl (G c0))[k]? = some v) (hdg : decode cc pc = .ok (.getfield idx, 3))
    (kk : W p l e R s m args below meth c H locs cells slots Q (F0 m (pc + 3) ls (v :: rest))) : W p l e R s m args below meth c H locs cells slots Q (F0 m pc ls (.ref (gad P c0) :: rest)) :=
  va_get E.1 E.2.1 E.2.2.2.2.2.1 hcl.2 E.2.2.2.2.1 E.2.2.2.2.2.2.2.1 h.1 c0 (by rw [gw_at hc.1, hc.2]) hcl.1 k hk (E.2.2.2.2.2.1 _ hl) (fun _ q => q) hv hdg kk
theorem g_getN {ci N idx : Nat} {C host : String} {T : u_T} {fl : (Nat → Int32) → List Value} {c0 : Nat} (E : gE p s m args meth c P own cc nL ret) (h : gH P s G H locs) (hc : c0 < 64 ∧ ∀ g, gc P c0 g = .inr (ci, fl g)) (hcl : gCl ci C T N) (k : Nat) (hk : k < N)
    (hl : Cond.fieldLinkNest own idx (T k).1 (T k).2.1 (T k).2.2.1 host ∈ NW) {v : Value} (hv : (fl (G c0))[k]? = some v) (hdg : decode cc pc = .ok (.getfield idx, 3))
    (kk : W p l e R s m args below meth c H locs cells slots Q (F0 m (pc + 3) ls (v :: rest))) : W p l e R s m args below meth c H locs cells slots Q (F0 m pc ls (.ref (gad P c0) :: rest)) :=
  va_getN E.1 E.2.1 E.2.2.2.2.2.1 hcl.2 E.2.2.2.2.1 E.2.2.2.2.2.2.2.1 h.1 c0 (by rw [gw_at hc.1, hc.2]) hcl.1 k hk (va_Nw.use (NW_tab hl) (E.2.2.2.2.2.2.2.2.2.1 _ hl)) (fun _ q => q) hv hdg kk
theorem g_put {ci N idx : Nat} {C : String} {T : u_T} {ty0 : Nat → FieldType} {fl : (Nat → Int32) → List Value} {c0 : Nat} {v : Value} {nv : Int32} {ty : FieldType} (E : gE p s m args meth c P own cc nL ret) (h : gH P s G H locs) (hc : c0 < 64 ∧ ∀ g, gc P c0 g = .inr (ci, fl g)) (hcl : gCl ci C T N) (hct : gCt C T N ty0) (k : Nat) (hk : k < N)
    (hl : Cond.fieldLink own idx (T k).1 (T k).2.1 (T k).2.2.1 ∈ GW) (hfin : (T k).2.2.2 = false) (hd : parseFieldDescriptor (T k).2.2.1 = some ty) (hset : ∀ g, (fl g).set k v = fl (upd g k nv)) (hn : narrow ty v = v) (hfit : fits ty v = true) (hlen : k < (fl (G c0)).length) (hdg : decode cc pc = .ok (.putfield idx, 3))
    (kk : ∀ (H1 : Heap) (locs1 : List Loc), gH P s (wr G c0 k nv) H1 locs1 → W p l e R s m args below meth c H1 locs1 cells slots Q (F0 m (pc + 3) ls rest)) : W p l e R s m args below meth c H locs cells slots Q (F0 m pc ls (v :: .ref (gad P c0) :: rest)) := by
  refine va_put E.1 E.2.1 E.2.2.2.2.2.1 hcl.2 ty0 hct.1 hct.2 E.2.2.2.2.1 E.2.2.2.2.2.2.2.1 h.1 (gD_of E.2.2.2.2.2.2.2.2.1 G) h.2 c0 (by rw [gw_at hc.1, hc.2]) hcl.1 k hk (E.2.2.2.2.2.1 _ hl) (fun _ q => q) hfin hd hn hfit hlen hdg (fun H1 locs1 hP _ hS => kk H1 locs1 ⟨?_, hS⟩)
  rw [hset, ← hc.2, gw_set hc.1] at hP
  exact hP
theorem g_geti {ci N idx : Nat} {C : String} {T : u_T} {fl : (Nat → Int32) → List Value} {c0 : Nat} {v : Int32} (E : gE p s m args meth c P own cc nL ret) (h : gH P s G H locs) (hc : c0 < 64 ∧ ∀ g, gc P c0 g = .inr (ci, fl g)) (hcl : gCl ci C T N) (k : Nat) (hk : k < N)
    (hl : Cond.fieldLink own idx (T k).1 (T k).2.1 (T k).2.2.1 ∈ GW) (hf : ∀ g, (fl g)[k]? = some (.int (g k))) (hv : G c0 k = v) (hdg : decode cc pc = .ok (.getfield idx, 3))
    (kk : W p l e R s m args below meth c H locs cells slots Q (F0 m (pc + 3) ls (.int v :: rest))) : W p l e R s m args below meth c H locs cells slots Q (F0 m pc ls (.ref (gad P c0) :: rest)) := by
  subst hv
  exact g_get E h hc hcl k hk hl (hf _) hdg kk
theorem g_getiN {ci N idx : Nat} {C host : String} {T : u_T} {fl : (Nat → Int32) → List Value} {c0 : Nat} {v : Int32} (E : gE p s m args meth c P own cc nL ret) (h : gH P s G H locs) (hc : c0 < 64 ∧ ∀ g, gc P c0 g = .inr (ci, fl g)) (hcl : gCl ci C T N) (k : Nat) (hk : k < N)
    (hl : Cond.fieldLinkNest own idx (T k).1 (T k).2.1 (T k).2.2.1 host ∈ NW) (hf : ∀ g, (fl g)[k]? = some (.int (g k))) (hv : G c0 k = v) (hdg : decode cc pc = .ok (.getfield idx, 3))
    (kk : W p l e R s m args below meth c H locs cells slots Q (F0 m (pc + 3) ls (.int v :: rest))) : W p l e R s m args below meth c H locs cells slots Q (F0 m pc ls (.ref (gad P c0) :: rest)) := by
  subst hv
  exact g_getN E h hc hcl k hk hl (hf _) hdg kk
theorem g_getz {ci N idx : Nat} {C : String} {T : u_T} {fl : (Nat → Int32) → List Value} {c0 : Nat} {v : Int32} (E : gE p s m args meth c P own cc nL ret) (h : gH P s G H locs) (hc : c0 < 64 ∧ ∀ g, gc P c0 g = .inr (ci, fl g)) (hcl : gCl ci C T N) (k : Nat) (hk : k < N)
    (hl : Cond.fieldLink own idx (T k).1 (T k).2.1 (T k).2.2.1 ∈ GW) (hf : ∀ g, (fl g)[k]? = some (.int (zb (g k)))) (hv : G c0 k = v) (hdg : decode cc pc = .ok (.getfield idx, 3))
    (kk : W p l e R s m args below meth c H locs cells slots Q (F0 m (pc + 3) ls (.int (zb v) :: rest))) : W p l e R s m args below meth c H locs cells slots Q (F0 m pc ls (.ref (gad P c0) :: rest)) := by
  subst hv
  exact g_get E h hc hcl k hk hl (hf _) hdg kk
theorem g_getzN {ci N idx : Nat} {C host : String} {T : u_T} {fl : (Nat → Int32) → List Value} {c0 : Nat} {v : Int32} (E : gE p s m args meth c P own cc nL ret) (h : gH P s G H locs) (hc : c0 < 64 ∧ ∀ g, gc P c0 g = .inr (ci, fl g)) (hcl : gCl ci C T N) (k : Nat) (hk : k < N)
    (hl : Cond.fieldLinkNest own idx (T k).1 (T k).2.1 (T k).2.2.1 host ∈ NW) (hf : ∀ g, (fl g)[k]? = some (.int (zb (g k)))) (hv : G c0 k = v) (hdg : decode cc pc = .ok (.getfield idx, 3))
    (kk : W p l e R s m args below meth c H locs cells slots Q (F0 m (pc + 3) ls (.int (zb v) :: rest))) : W p l e R s m args below meth c H locs cells slots Q (F0 m pc ls (.ref (gad P c0) :: rest)) := by
  subst hv
  exact g_getN E h hc hcl k hk hl (hf _) hdg kk
theorem g_gete {ci N idx : Nat} {C : String} {T : u_T} {fl : (Nat → Int32) → List Value} {c0 : Nat} {v : Int32} (E : gE p s m args meth c P own cc nL ret) (h : gH P s G H locs) (hc : c0 < 64 ∧ ∀ g, gc P c0 g = .inr (ci, fl g)) (hcl : gCl ci C T N) (k : Nat) (hk : k < N)
    (hl : Cond.fieldLink own idx (T k).1 (T k).2.1 (T k).2.2.1 ∈ GW) (hf : ∀ g, (fl g)[k]? = some (.ref (gae P (g k)))) (hv : G c0 k = v) (hdg : decode cc pc = .ok (.getfield idx, 3))
    (kk : W p l e R s m args below meth c H locs cells slots Q (F0 m (pc + 3) ls (.ref (gae P v) :: rest))) : W p l e R s m args below meth c H locs cells slots Q (F0 m pc ls (.ref (gad P c0) :: rest)) := by
  subst hv
  exact g_get E h hc hcl k hk hl (hf _) hdg kk
theorem g_geteN {ci N idx : Nat} {C host : String} {T : u_T} {fl : (Nat → Int32) → List Value} {c0 : Nat} {v : Int32} (E : gE p s m args meth c P own cc nL ret) (h : gH P s G H locs) (hc : c0 < 64 ∧ ∀ g, gc P c0 g = .inr (ci, fl g)) (hcl : gCl ci C T N) (k : Nat) (hk : k < N)
    (hl : Cond.fieldLinkNest own idx (T k).1 (T k).2.1 (T k).2.2.1 host ∈ NW) (hf : ∀ g, (fl g)[k]? = some (.ref (gae P (g k)))) (hv : G c0 k = v) (hdg : decode cc pc = .ok (.getfield idx, 3))
    (kk : W p l e R s m args below meth c H locs cells slots Q (F0 m (pc + 3) ls (.ref (gae P v) :: rest))) : W p l e R s m args below meth c H locs cells slots Q (F0 m pc ls (.ref (gad P c0) :: rest)) := by
  subst hv
  exact g_getN E h hc hcl k hk hl (hf _) hdg kk
theorem g_puti {ci N idx : Nat} {C : String} {T : u_T} {ty0 : Nat → FieldType} {fl : (Nat → Int32) → List Value} {c0 : Nat} {nv : Int32} (E : gE p s m args meth c P own cc nL ret) (h : gH P s G H locs) (hc : c0 < 64 ∧ ∀ g, gc P c0 g = .inr (ci, fl g)) (hcl : gCl ci C T N) (hct : gCt C T N ty0) (k : Nat) (hk : k < N)
    (hl : Cond.fieldLink own idx (T k).1 (T k).2.1 (T k).2.2.1 ∈ GW) (hfin : (T k).2.2.2 = false) (hd : parseFieldDescriptor (T k).2.2.1 = some .int) (hset : ∀ g nv, (fl g).set k (.int nv) = fl (upd g k nv)) (hlen : k < (fl (G c0)).length) (hdg : decode cc pc = .ok (.putfield idx, 3))
    (kk : ∀ (H1 : Heap) (locs1 : List Loc), gH P s (wr G c0 k nv) H1 locs1 → W p l e R s m args below meth c H1 locs1 cells slots Q (F0 m (pc + 3) ls rest)) : W p l e R s m args below meth c H locs cells slots Q (F0 m pc ls (.int nv :: .ref (gad P c0) :: rest)) :=
  g_put E h hc hcl hct k hk hl hfin hd (fun g => hset g nv) rfl rfl hlen hdg kk
theorem g_putz {ci N idx : Nat} {C : String} {T : u_T} {ty0 : Nat → FieldType} {fl : (Nat → Int32) → List Value} {c0 : Nat} {nv : Int32} (E : gE p s m args meth c P own cc nL ret) (h : gH P s G H locs) (hc : c0 < 64 ∧ ∀ g, gc P c0 g = .inr (ci, fl g)) (hcl : gCl ci C T N) (hct : gCt C T N ty0) (k : Nat) (hk : k < N)
    (hl : Cond.fieldLink own idx (T k).1 (T k).2.1 (T k).2.2.1 ∈ GW) (hfin : (T k).2.2.2 = false) (hd : parseFieldDescriptor (T k).2.2.1 = some .boolean) (hset : ∀ g nv, isB nv → (fl g).set k (.int nv) = fl (upd g k nv)) (hz : isB nv) (hlen : k < (fl (G c0)).length) (hdg : decode cc pc = .ok (.putfield idx, 3))
    (kk : ∀ (H1 : Heap) (locs1 : List Loc), gH P s (wr G c0 k nv) H1 locs1 → W p l e R s m args below meth c H1 locs1 cells slots Q (F0 m (pc + 3) ls rest)) : W p l e R s m args below meth c H locs cells slots Q (F0 m pc ls (.int nv :: .ref (gad P c0) :: rest)) :=
  g_put E h hc hcl hct k hk hl hfin hd (fun g => hset g nv hz) hz.1 hz.2 hlen hdg kk
theorem g_pute {ci N idx : Nat} {C : String} {T : u_T} {ty0 : Nat → FieldType} {fl : (Nat → Int32) → List Value} {c0 : Nat} {nv : Int32} (E : gE p s m args meth c P own cc nL ret) (h : gH P s G H locs) (hc : c0 < 64 ∧ ∀ g, gc P c0 g = .inr (ci, fl g)) (hcl : gCl ci C T N) (hct : gCt C T N ty0) (k : Nat) (hk : k < N)
    (hl : Cond.fieldLink own idx (T k).1 (T k).2.1 (T k).2.2.1 ∈ GW) (hfin : (T k).2.2.2 = false) (hd : parseFieldDescriptor (T k).2.2.1 = some (.object "FramedLine$State")) (hset : ∀ g nv, (fl g).set k (.ref (gae P nv)) = fl (upd g k nv)) (hlen : k < (fl (G c0)).length) (hdg : decode cc pc = .ok (.putfield idx, 3))
    (kk : ∀ (H1 : Heap) (locs1 : List Loc), gH P s (wr G c0 k nv) H1 locs1 → W p l e R s m args below meth c H1 locs1 cells slots Q (F0 m (pc + 3) ls rest)) : W p l e R s m args below meth c H locs cells slots Q (F0 m pc ls (.ref (gae P nv) :: .ref (gad P c0) :: rest)) :=
  g_put E h hc hcl hct k hk hl hfin hd (fun g => hset g nv) rfl rfl hlen hdg kk
theorem g_iaload {c0 n k : Nat} {i v : Int32} (E : gE p s m args meth c P own cc nL ret) (h : gH P s G H locs) (hc : c0 < 64 ∧ ∀ g, gc P c0 g = .inl (gcI P, n, .inl g)) (hin : vp_in i n) (hk : i.toNatClampNeg = k) (hv : G c0 k = v) (hdg : decode cc pc = .ok (.iaload, 1))
    (kk : W p l e R s m args below meth c H locs cells slots Q (F0 m (pc + 1) ls (.int v :: rest))) : W p l e R s m args below meth c H locs cells slots Q (F0 m pc ls (.int i :: .ref (gad P c0) :: rest)) := by
  subst hk
  subst hv
  exact va_iald E.1 E.2.1 E.2.2.2.2.2.2.2.1 h.1 c0 0 (by rw [gw_at hc.1, hc.2]) rfl hin hdg kk
theorem g_baload {c0 n k : Nat} {i v : Int32} (E : gE p s m args meth c P own cc nL ret) (h : gH P s G H locs) (hc : c0 < 64 ∧ ∀ g, gc P c0 g = .inl (gcZ P, n, .inl g)) (hin : vp_in i n) (hk : i.toNatClampNeg = k) (hv : G c0 k = v) (hdg : decode cc pc = .ok (.baload, 1))
    (kk : W p l e R s m args below meth c H locs cells slots Q (F0 m (pc + 1) ls (.int v :: rest))) : W p l e R s m args below meth c H locs cells slots Q (F0 m pc ls (.int i :: .ref (gad P c0) :: rest)) := by
  subst hk
  subst hv
  exact va_zald E.1 E.2.1 E.2.2.2.2.2.2.2.1 h.1 c0 1 (by rw [gw_at hc.1, hc.2]) rfl hin hdg kk
theorem g_iastore {c0 n k : Nat} {i x : Int32} (E : gE p s m args meth c P own cc nL ret) (h : gH P s G H locs) (hc : c0 < 64 ∧ ∀ g, gc P c0 g = .inl (gcI P, n, .inl g)) (hin : vp_in i n) (hk : i.toNatClampNeg = k) (hdg : decode cc pc = .ok (.iastore, 1))
    (kk : ∀ (H1 : Heap) (locs1 : List Loc), gH P s (wr G c0 k x) H1 locs1 → W p l e R s m args below meth c H1 locs1 cells slots Q (F0 m (pc + 1) ls rest)) : W p l e R s m args below meth c H locs cells slots Q (F0 m pc ls (.int x :: .int i :: .ref (gad P c0) :: rest)) := by
  subst hk
  refine va_iast E.1 E.2.1 E.2.2.2.2.2.2.2.1 h.1 (gD_of E.2.2.2.2.2.2.2.2.1 G) h.2 c0 0 (by rw [gw_at hc.1, hc.2]) rfl hin hdg (fun H1 locs1 hP _ hS => kk H1 locs1 ⟨?_, hS⟩)
  rw [← hc.2, gw_set hc.1] at hP
  exact hP
theorem g_bastore {c0 n k : Nat} {i x : Int32} (E : gE p s m args meth c P own cc nL ret) (h : gH P s G H locs) (hc : c0 < 64 ∧ ∀ g, gc P c0 g = .inl (gcZ P, n, .inl g)) (hin : vp_in i n) (hk : i.toNatClampNeg = k) (hdg : decode cc pc = .ok (.bastore, 1))
    (kk : ∀ (H1 : Heap) (locs1 : List Loc), gH P s (wr G c0 k (zb x)) H1 locs1 → W p l e R s m args below meth c H1 locs1 cells slots Q (F0 m (pc + 1) ls rest)) : W p l e R s m args below meth c H locs cells slots Q (F0 m pc ls (.int x :: .int i :: .ref (gad P c0) :: rest)) := by
  subst hk
  refine va_zast E.1 E.2.1 E.2.2.2.2.2.2.2.1 h.1 (gD_of E.2.2.2.2.2.2.2.2.1 G) h.2 c0 1 (by rw [gw_at hc.1, hc.2]) rfl hin hdg (fun H1 locs1 hP _ hS => kk H1 locs1 ⟨?_, hS⟩)
  rw [← hc.2, gw_set hc.1] at hP
  exact hP
theorem g_acmp_ne {x y : Int32} {off : Int} {tgt : Nat} (E : gE p s m args meth c P own cc nL ret) (hb : c.code = cc) (hdg : decode cc pc = .ok (.if_acmp .ne off, 3)) (ht : (pc : Int) + off = (tgt : Int))
    (kt : ¬ n3 x = n3 y → W p l e R s m args below meth c H locs cells slots Q (F0 m tgt ls rest)) (kf : n3 x = n3 y → W p l e R s m args below meth c H locs cells slots Q (F0 m (pc + 3) ls rest)) : W p l e R s m args below meth c H locs cells slots Q (F0 m pc ls (.ref (gae P y) :: .ref (gae P x) :: rest)) := by
  have hinj := E.2.2.2.2.2.2.2.2.2.2.2
  have key : (some (gae P x) = some (gae P y)) ↔ n3 x = n3 y := by
    refine ⟨fun h => n3_eq.mp (hinj _ _ (n3n_lt x) (n3n_lt y) (Option.some.inj h)), fun h => ?_⟩
    unfold gae
    rw [n3_eq.mpr h]
  exact lv_acmp_ne (rx := some (gae P x)) (ry := some (gae P y)) E.1 hb hdg ht (fun h => kt (fun q => h (key.mpr q))) (fun h => kf (key.mp h))
theorem g_gets {idx : Nat} (E : gE p s m args meth c P own cc nL ret) (h : gH P s G H locs) (k : Nat) {x : Int32} (hk : k < 3) (hx : n3n x = k) (hl : Cond.fieldLink own idx "FramedLine$State" ((["SEARCHING", "TRYING", "ALIGNED"] : List String).getD k "") "LFramedLine$State;" ∈ GW) (hdg : decode cc pc = .ok (.getstatic idx, 3))
    (kk : W p l e R s m args below meth c H locs cells slots Q (F0 m (pc + 3) ls (.ref (gae P x) :: rest))) : W p l e R s m args below meth c H locs cells slots Q (F0 m pc ls rest) := by
  subst hx
  exact va_gets E.1 E.2.1 (E.2.2.2.2.2.2.2.2.2.2.1 _ hk).1 h.2 E.2.2.2.2.1 (E.2.2.2.2.2.1 _ hl) (fun _ q => q) hdg kk
theorem g_preV {c0 ci N : Nat} {C : String} {T : u_T} {fl : (Nat → Int32) → List Value} {As : List Value} (E : gE p s m args meth c P own cc nL ret) (h : gH P s G H locs) (hc : c0 < 64 ∧ ∀ g, gc P c0 g = .inr (ci, fl g)) (hcl : gCl ci C T N) : PreV s H C (gad P c0) (va_Pc (.ref (gad P c0) :: As) (gPre P G)) As :=
  ⟨gPre_blind, va_recv (q := (C, T, N)) E.2.2.2.2.2.2.2.1 h.1 hcl.1 (q0 := c0) (fs := fl (G c0)) (by rw [gw_at hc.1, hc.2]), fun U hU hW => ⟨rfl, by rw [hU]; exact h.1, gS_moved E.2.2.2.2.2.2.2 h.2 hU hW⟩⟩
theorem g_preS {As : List Value} (E : gE p s m args meth c P own cc nL ret) (h : gH P s G H locs) : PreS s H (va_Pc As (gPre P G)) As :=
  ⟨gPre_blind, fun U hU hW => ⟨rfl, by rw [hU]; exact h.1, gS_moved E.2.2.2.2.2.2.2 h.2 hU hW⟩⟩
theorem g_cb {y : MethodName} {cy : ByteArray} {my n idx : Nat} {ry : Option FieldType} {rm : Room} (hts : ∀ w ∈ GW, w.before args s = true) (L : Cond.code y cy my ry ∈ GW ∧ Cond.initialized y.cls ∈ GW ∧ (y.cls ≠ "java/lang/invoke/MethodHandle" ∧ y.cls ≠ "java/lang/invoke/VarHandle" ∧ (parseMethodDescriptor y.desc).map (fun d => d.parameters.length) = some n)) (hl : (Cond.methodLink own idx y).before args s = true) (hc : rm.cells = 0) (hs : rm.slots = 0) (hR : rm.frames + 1 ≤ R.frames ∧ 8 + (my + 11) + rm.locals ≤ R.locals) : CallB R s args own idx y cy my ry (Cond.code y cy my ry :: GW) rm 0 0 n :=
  callB_of n hts (GW_good (big := GW) (fun w h => (List.mem_cons.mp h).elim (fun q => by rw [q]; exact L.1) id)) rfl hc hs (hts _ L.2.1) hl L.2.2 hR

theorem g_endv {X : Mem} {st0 : List Value} {a : Array Value} (h : gH P s G H locs) (hr : va_Run p l e R s m args below meth c H locs cells slots 0 0 (F0 m pc ls st0) rest (va_Qv (fun u : Mem => X = u) (fun u t => va_P (gDD P) vwCl (gw P u) t.heap) (gA P) a) (gA P))
    (kk : ∀ (H1 : Heap) (locs1 : List Loc), gH P s X H1 locs1 → W p l e R s m args below meth c H1 locs1 cells slots Q (F0 m (pc + 3) ls rest)) : W p l e R s m args below meth c H locs cells slots Q (F0 m pc ls st0) :=
  va_callv hr h.2 (fun q _ z => z) (fun q z => z) (fun u t H1 locs1 ht _ hX hB _ _ hS => kk H1 locs1 ⟨by rw [hX, ← ht]; exact hB, hS⟩)
theorem g_endi {X : Int32 × Mem} {st0 : List Value} {a : Array Value} (h : gH P s G H locs) (hr : va_Run p l e R s m args below meth c H locs cells slots 0 0 (F0 m pc ls st0) rest (va_Qi (fun (r : Int32) (u : Mem) => X = (r, u)) (fun u t => va_P (gDD P) vwCl (gw P u) t.heap) (gA P) a) (gA P))
    (kk : ∀ (H1 : Heap) (locs1 : List Loc), gH P s X.2 H1 locs1 → W p l e R s m args below meth c H1 locs1 cells slots Q (F0 m (pc + 3) ls (.int X.1 :: rest))) : W p l e R s m args below meth c H locs cells slots Q (F0 m pc ls st0) :=
  va_calli hr h.2 (fun q _ z => z) (fun q z => z) (fun r u t H1 locs1 ht _ hX hB _ _ hS => by
    subst hX
    exact kk H1 locs1 ⟨by rw [← ht]; exact hB, hS⟩)
theorem g_endz {X : Int32 × Mem} {st0 : List Value} {a : Array Value} (h : gH P s G H locs) (hr : va_Run p l e R s m args below meth c H locs cells slots 0 0 (F0 m pc ls st0) rest (va_Qi (fun (r : Int32) (u : Mem) => X = (r, u) ∧ isB r) (fun u t => va_P (gDD P) vwCl (gw P u) t.heap) (gA P) a) (gA P))
    (kk : ∀ (H1 : Heap) (locs1 : List Loc), gH P s X.2 H1 locs1 → isB X.1 → W p l e R s m args below meth c H1 locs1 cells slots Q (F0 m (pc + 3) ls (.int X.1 :: rest))) : W p l e R s m args below meth c H locs cells slots Q (F0 m pc ls st0) :=
  va_calli hr h.2 (fun q _ z => z) (fun q z => z) (fun r u t H1 locs1 ht _ hX hB _ _ hS => by
    obtain ⟨hX, hz⟩ := hX
    subst hX
    exact kk H1 locs1 ⟨by rw [← ht]; exact hB, hS⟩ hz)
theorem g_callVv {y : MethodName} {cy : ByteArray} {my n idx : Nat} {ry : Option FieldType} {rm : Room} {lv : List (Nat × Value)} {st0 As : List Value} {X : Mem} {c0 ci N : Nat} {C : String} {T : u_T} {fl : (Nat → Int32) → List Value} (E : gE p s m args meth c P own cc nL ret) (h : gH P s G H locs) (hl : lv_has ls nL lv) (hM : gMv l y cy my ry rm (.ref (gad P c0) :: As) P G X) (L : gLV own C idx y cy my ry n) (hc : c0 < 64 ∧ ∀ g, gc P c0 g = .inr (ci, fl g)) (hcl : gCl ci C T N)
    (hF : rm.frames + 1 ≤ R.frames) (hL : 8 + (my + 11) + rm.locals ≤ R.locals) (hCe : cells ≤ R.cells) (hSl : slots ≤ R.slots) (hroom : (rest.map fun v => v.category).sum ≤ 8) (hc0 : rm.cells = 0) (hs0 : rm.slots = 0) (hn : As.length = n) (hst : st0 = As.reverse ++ .ref (gad P c0) :: rest) (hdg : decode cc pc = .ok (.invokevirtual idx, 3))
    (kk : ∀ (H1 : Heap) (locs1 : List Loc), gH P s X H1 locs1 → W p l e R s m args below meth c H1 locs1 cells slots Q (F0 m (pc + 3) ls rest)) : W p l e R s m args below meth c H locs cells slots Q (F0 m pc ls st0) :=
  g_endv h (va_runV ⟨E.1, E.2.1, E.2.2.2.1, E.2.2.2.2.1, E.2.2.2.2.2.1⟩ hM ⟨g_cb E.2.2.2.2.2.1 L.1 (E.2.2.2.2.2.1 _ L.2.1) hc0 hs0 ⟨hF, hL⟩, E.2.2.2.2.2.1 _ L.2.2.1, E.2.2.2.2.2.1 _ L.2.2.2⟩ (g_preV E h hc hcl) rfl hn hl.1 hst (lv_room hroom) hdg ⟨hCe, hSl⟩) kk
theorem g_callVi {y : MethodName} {cy : ByteArray} {my n idx : Nat} {ry : Option FieldType} {rm : Room} {lv : List (Nat × Value)} {st0 As : List Value} {X : Int32 × Mem} {c0 ci N : Nat} {C : String} {T : u_T} {fl : (Nat → Int32) → List Value} (E : gE p s m args meth c P own cc nL ret) (h : gH P s G H locs) (hl : lv_has ls nL lv) (hM : gMi l y cy my ry rm (.ref (gad P c0) :: As) P G X) (L : gLV own C idx y cy my ry n) (hc : c0 < 64 ∧ ∀ g, gc P c0 g = .inr (ci, fl g)) (hcl : gCl ci C T N)
    (hF : rm.frames + 1 ≤ R.frames) (hL : 8 + (my + 11) + rm.locals ≤ R.locals) (hCe : cells ≤ R.cells) (hSl : slots ≤ R.slots) (hroom : (rest.map fun v => v.category).sum ≤ 8) (hc0 : rm.cells = 0) (hs0 : rm.slots = 0) (hn : As.length = n) (hst : st0 = As.reverse ++ .ref (gad P c0) :: rest) (hdg : decode cc pc = .ok (.invokevirtual idx, 3))
    (kk : ∀ (H1 : Heap) (locs1 : List Loc), gH P s X.2 H1 locs1 → W p l e R s m args below meth c H1 locs1 cells slots Q (F0 m (pc + 3) ls (.int X.1 :: rest))) : W p l e R s m args below meth c H locs cells slots Q (F0 m pc ls st0) :=
  g_endi h (va_runV ⟨E.1, E.2.1, E.2.2.2.1, E.2.2.2.2.1, E.2.2.2.2.2.1⟩ hM ⟨g_cb E.2.2.2.2.2.1 L.1 (E.2.2.2.2.2.1 _ L.2.1) hc0 hs0 ⟨hF, hL⟩, E.2.2.2.2.2.1 _ L.2.2.1, E.2.2.2.2.2.1 _ L.2.2.2⟩ (g_preV E h hc hcl) rfl hn hl.1 hst (lv_room hroom) hdg ⟨hCe, hSl⟩) kk
theorem g_callVz {y : MethodName} {cy : ByteArray} {my n idx : Nat} {ry : Option FieldType} {rm : Room} {lv : List (Nat × Value)} {st0 As : List Value} {X : Int32 × Mem} {c0 ci N : Nat} {C : String} {T : u_T} {fl : (Nat → Int32) → List Value} (E : gE p s m args meth c P own cc nL ret) (h : gH P s G H locs) (hl : lv_has ls nL lv) (hM : gMz l y cy my ry rm (.ref (gad P c0) :: As) P G X) (L : gLV own C idx y cy my ry n) (hc : c0 < 64 ∧ ∀ g, gc P c0 g = .inr (ci, fl g)) (hcl : gCl ci C T N)
    (hF : rm.frames + 1 ≤ R.frames) (hL : 8 + (my + 11) + rm.locals ≤ R.locals) (hCe : cells ≤ R.cells) (hSl : slots ≤ R.slots) (hroom : (rest.map fun v => v.category).sum ≤ 8) (hc0 : rm.cells = 0) (hs0 : rm.slots = 0) (hn : As.length = n) (hst : st0 = As.reverse ++ .ref (gad P c0) :: rest) (hdg : decode cc pc = .ok (.invokevirtual idx, 3))
    (kk : ∀ (H1 : Heap) (locs1 : List Loc), gH P s X.2 H1 locs1 → isB X.1 → W p l e R s m args below meth c H1 locs1 cells slots Q (F0 m (pc + 3) ls (.int X.1 :: rest))) : W p l e R s m args below meth c H locs cells slots Q (F0 m pc ls st0) :=
  g_endz h (va_runV ⟨E.1, E.2.1, E.2.2.2.1, E.2.2.2.2.1, E.2.2.2.2.2.1⟩ hM ⟨g_cb E.2.2.2.2.2.1 L.1 (E.2.2.2.2.2.1 _ L.2.1) hc0 hs0 ⟨hF, hL⟩, E.2.2.2.2.2.1 _ L.2.2.1, E.2.2.2.2.2.1 _ L.2.2.2⟩ (g_preV E h hc hcl) rfl hn hl.1 hst (lv_room hroom) hdg ⟨hCe, hSl⟩) kk
theorem g_callVri {y : MethodName} {cy : ByteArray} {my n idx : Nat} {ry : Option FieldType} {rm : Room} {lv : List (Nat × Value)} {st0 As : List Value} {X : Int32} {c0 ci N : Nat} {C : String} {T : u_T} {fl : (Nat → Int32) → List Value} (E : gE p s m args meth c P own cc nL ret) (h : gH P s G H locs) (hl : lv_has ls nL lv) (hM : gMri l y cy my ry rm (.ref (gad P c0) :: As) P G X) (L : gLV own C idx y cy my ry n) (hc : c0 < 64 ∧ ∀ g, gc P c0 g = .inr (ci, fl g)) (hcl : gCl ci C T N)
    (hF : rm.frames + 1 ≤ R.frames) (hL : 8 + (my + 11) + rm.locals ≤ R.locals) (hCe : cells ≤ R.cells) (hSl : slots ≤ R.slots) (hroom : (rest.map fun v => v.category).sum ≤ 8) (hc0 : rm.cells = 0) (hs0 : rm.slots = 0) (hn : As.length = n) (hst : st0 = As.reverse ++ .ref (gad P c0) :: rest) (hdg : decode cc pc = .ok (.invokevirtual idx, 3))
    (kk : ∀ (H1 : Heap) (locs1 : List Loc), gH P s G H1 locs1 → W p l e R s m args below meth c H1 locs1 cells slots Q (F0 m (pc + 3) ls (.int X :: rest))) : W p l e R s m args below meth c H locs cells slots Q (F0 m pc ls st0) :=
  g_endi h (va_runV ⟨E.1, E.2.1, E.2.2.2.1, E.2.2.2.2.1, E.2.2.2.2.2.1⟩ hM ⟨g_cb E.2.2.2.2.2.1 L.1 (E.2.2.2.2.2.1 _ L.2.1) hc0 hs0 ⟨hF, hL⟩, E.2.2.2.2.2.1 _ L.2.2.1, E.2.2.2.2.2.1 _ L.2.2.2⟩ (g_preV E h hc hcl) rfl hn hl.1 hst (lv_room hroom) hdg ⟨hCe, hSl⟩) kk
theorem g_callVrz {y : MethodName} {cy : ByteArray} {my n idx : Nat} {ry : Option FieldType} {rm : Room} {lv : List (Nat × Value)} {st0 As : List Value} {X : Int32} {c0 ci N : Nat} {C : String} {T : u_T} {fl : (Nat → Int32) → List Value} (E : gE p s m args meth c P own cc nL ret) (h : gH P s G H locs) (hl : lv_has ls nL lv) (hM : gMrz l y cy my ry rm (.ref (gad P c0) :: As) P G X) (L : gLV own C idx y cy my ry n) (hc : c0 < 64 ∧ ∀ g, gc P c0 g = .inr (ci, fl g)) (hcl : gCl ci C T N)
    (hF : rm.frames + 1 ≤ R.frames) (hL : 8 + (my + 11) + rm.locals ≤ R.locals) (hCe : cells ≤ R.cells) (hSl : slots ≤ R.slots) (hroom : (rest.map fun v => v.category).sum ≤ 8) (hc0 : rm.cells = 0) (hs0 : rm.slots = 0) (hn : As.length = n) (hst : st0 = As.reverse ++ .ref (gad P c0) :: rest) (hdg : decode cc pc = .ok (.invokevirtual idx, 3))
    (kk : ∀ (H1 : Heap) (locs1 : List Loc), gH P s G H1 locs1 → isB X → W p l e R s m args below meth c H1 locs1 cells slots Q (F0 m (pc + 3) ls (.int X :: rest))) : W p l e R s m args below meth c H locs cells slots Q (F0 m pc ls st0) :=
  g_endz h (va_runV ⟨E.1, E.2.1, E.2.2.2.1, E.2.2.2.2.1, E.2.2.2.2.2.1⟩ hM ⟨g_cb E.2.2.2.2.2.1 L.1 (E.2.2.2.2.2.1 _ L.2.1) hc0 hs0 ⟨hF, hL⟩, E.2.2.2.2.2.1 _ L.2.2.1, E.2.2.2.2.2.1 _ L.2.2.2⟩ (g_preV E h hc hcl) rfl hn hl.1 hst (lv_room hroom) hdg ⟨hCe, hSl⟩) kk
theorem g_callSv {y : MethodName} {cy : ByteArray} {my n idx : Nat} {ry : Option FieldType} {rm : Room} {lv : List (Nat × Value)} {st0 As : List Value} {X : Mem} (E : gE p s m args meth c P own cc nL ret) (h : gH P s G H locs) (hl : lv_has ls nL lv) (hM : gMv l y cy my ry rm As P G X) (L : gLS own idx y cy my ry n)
    (hF : rm.frames + 1 ≤ R.frames) (hL : 8 + (my + 11) + rm.locals ≤ R.locals) (hCe : cells ≤ R.cells) (hSl : slots ≤ R.slots) (hroom : (rest.map fun v => v.category).sum ≤ 8) (hc0 : rm.cells = 0) (hs0 : rm.slots = 0) (hn : As.length = n) (hst : st0 = As.reverse ++ rest) (hdg : decode cc pc = .ok (.invokestatic idx, 3))
    (kk : ∀ (H1 : Heap) (locs1 : List Loc), gH P s X H1 locs1 → W p l e R s m args below meth c H1 locs1 cells slots Q (F0 m (pc + 3) ls rest)) : W p l e R s m args below meth c H locs cells slots Q (F0 m pc ls st0) :=
  g_endv h (va_runS ⟨E.1, E.2.1, E.2.2.2.1, E.2.2.2.2.1, E.2.2.2.2.2.1⟩ hM ⟨g_cb E.2.2.2.2.2.1 L.1 (E.2.2.2.2.2.1 _ L.2.1) hc0 hs0 ⟨hF, hL⟩, E.2.2.2.2.2.1 _ L.2.2⟩ (g_preS E h) rfl hn hl.1 hst (lv_room hroom) hdg ⟨hCe, hSl⟩) kk
theorem g_callSi {y : MethodName} {cy : ByteArray} {my n idx : Nat} {ry : Option FieldType} {rm : Room} {lv : List (Nat × Value)} {st0 As : List Value} {X : Int32 × Mem} (E : gE p s m args meth c P own cc nL ret) (h : gH P s G H locs) (hl : lv_has ls nL lv) (hM : gMi l y cy my ry rm As P G X) (L : gLS own idx y cy my ry n)
    (hF : rm.frames + 1 ≤ R.frames) (hL : 8 + (my + 11) + rm.locals ≤ R.locals) (hCe : cells ≤ R.cells) (hSl : slots ≤ R.slots) (hroom : (rest.map fun v => v.category).sum ≤ 8) (hc0 : rm.cells = 0) (hs0 : rm.slots = 0) (hn : As.length = n) (hst : st0 = As.reverse ++ rest) (hdg : decode cc pc = .ok (.invokestatic idx, 3))
    (kk : ∀ (H1 : Heap) (locs1 : List Loc), gH P s X.2 H1 locs1 → W p l e R s m args below meth c H1 locs1 cells slots Q (F0 m (pc + 3) ls (.int X.1 :: rest))) : W p l e R s m args below meth c H locs cells slots Q (F0 m pc ls st0) :=
  g_endi h (va_runS ⟨E.1, E.2.1, E.2.2.2.1, E.2.2.2.2.1, E.2.2.2.2.2.1⟩ hM ⟨g_cb E.2.2.2.2.2.1 L.1 (E.2.2.2.2.2.1 _ L.2.1) hc0 hs0 ⟨hF, hL⟩, E.2.2.2.2.2.1 _ L.2.2⟩ (g_preS E h) rfl hn hl.1 hst (lv_room hroom) hdg ⟨hCe, hSl⟩) kk
theorem g_callSz {y : MethodName} {cy : ByteArray} {my n idx : Nat} {ry : Option FieldType} {rm : Room} {lv : List (Nat × Value)} {st0 As : List Value} {X : Int32 × Mem} (E : gE p s m args meth c P own cc nL ret) (h : gH P s G H locs) (hl : lv_has ls nL lv) (hM : gMz l y cy my ry rm As P G X) (L : gLS own idx y cy my ry n)
    (hF : rm.frames + 1 ≤ R.frames) (hL : 8 + (my + 11) + rm.locals ≤ R.locals) (hCe : cells ≤ R.cells) (hSl : slots ≤ R.slots) (hroom : (rest.map fun v => v.category).sum ≤ 8) (hc0 : rm.cells = 0) (hs0 : rm.slots = 0) (hn : As.length = n) (hst : st0 = As.reverse ++ rest) (hdg : decode cc pc = .ok (.invokestatic idx, 3))
    (kk : ∀ (H1 : Heap) (locs1 : List Loc), gH P s X.2 H1 locs1 → isB X.1 → W p l e R s m args below meth c H1 locs1 cells slots Q (F0 m (pc + 3) ls (.int X.1 :: rest))) : W p l e R s m args below meth c H locs cells slots Q (F0 m pc ls st0) :=
  g_endz h (va_runS ⟨E.1, E.2.1, E.2.2.2.1, E.2.2.2.2.1, E.2.2.2.2.2.1⟩ hM ⟨g_cb E.2.2.2.2.2.1 L.1 (E.2.2.2.2.2.1 _ L.2.1) hc0 hs0 ⟨hF, hL⟩, E.2.2.2.2.2.1 _ L.2.2⟩ (g_preS E h) rfl hn hl.1 hst (lv_room hroom) hdg ⟨hCe, hSl⟩) kk
theorem g_callSri {y : MethodName} {cy : ByteArray} {my n idx : Nat} {ry : Option FieldType} {rm : Room} {lv : List (Nat × Value)} {st0 As : List Value} {X : Int32} (E : gE p s m args meth c P own cc nL ret) (h : gH P s G H locs) (hl : lv_has ls nL lv) (hM : gMri l y cy my ry rm As P G X) (L : gLS own idx y cy my ry n)
    (hF : rm.frames + 1 ≤ R.frames) (hL : 8 + (my + 11) + rm.locals ≤ R.locals) (hCe : cells ≤ R.cells) (hSl : slots ≤ R.slots) (hroom : (rest.map fun v => v.category).sum ≤ 8) (hc0 : rm.cells = 0) (hs0 : rm.slots = 0) (hn : As.length = n) (hst : st0 = As.reverse ++ rest) (hdg : decode cc pc = .ok (.invokestatic idx, 3))
    (kk : ∀ (H1 : Heap) (locs1 : List Loc), gH P s G H1 locs1 → W p l e R s m args below meth c H1 locs1 cells slots Q (F0 m (pc + 3) ls (.int X :: rest))) : W p l e R s m args below meth c H locs cells slots Q (F0 m pc ls st0) :=
  g_endi h (va_runS ⟨E.1, E.2.1, E.2.2.2.1, E.2.2.2.2.1, E.2.2.2.2.2.1⟩ hM ⟨g_cb E.2.2.2.2.2.1 L.1 (E.2.2.2.2.2.1 _ L.2.1) hc0 hs0 ⟨hF, hL⟩, E.2.2.2.2.2.1 _ L.2.2⟩ (g_preS E h) rfl hn hl.1 hst (lv_room hroom) hdg ⟨hCe, hSl⟩) kk
theorem g_callSrz {y : MethodName} {cy : ByteArray} {my n idx : Nat} {ry : Option FieldType} {rm : Room} {lv : List (Nat × Value)} {st0 As : List Value} {X : Int32} (E : gE p s m args meth c P own cc nL ret) (h : gH P s G H locs) (hl : lv_has ls nL lv) (hM : gMrz l y cy my ry rm As P G X) (L : gLS own idx y cy my ry n)
    (hF : rm.frames + 1 ≤ R.frames) (hL : 8 + (my + 11) + rm.locals ≤ R.locals) (hCe : cells ≤ R.cells) (hSl : slots ≤ R.slots) (hroom : (rest.map fun v => v.category).sum ≤ 8) (hc0 : rm.cells = 0) (hs0 : rm.slots = 0) (hn : As.length = n) (hst : st0 = As.reverse ++ rest) (hdg : decode cc pc = .ok (.invokestatic idx, 3))
    (kk : ∀ (H1 : Heap) (locs1 : List Loc), gH P s G H1 locs1 → isB X → W p l e R s m args below meth c H1 locs1 cells slots Q (F0 m (pc + 3) ls (.int X :: rest))) : W p l e R s m args below meth c H locs cells slots Q (F0 m pc ls st0) :=
  g_endz h (va_runS ⟨E.1, E.2.1, E.2.2.2.1, E.2.2.2.2.1, E.2.2.2.2.2.1⟩ hM ⟨g_cb E.2.2.2.2.2.1 L.1 (E.2.2.2.2.2.1 _ L.2.1) hc0 hs0 ⟨hF, hL⟩, E.2.2.2.2.2.1 _ L.2.2⟩ (g_preS E h) rfl hn hl.1 hst (lv_room hroom) hdg ⟨hCe, hSl⟩) kk
theorem g_cn {y : MethodName} {cy : ByteArray} {my n idx : Nat} {host : String} {ry : Option FieldType} {rm : Room} (hts : ∀ w ∈ GW, w.before args s = true) (L : Cond.code y cy my ry ∈ GW ∧ Cond.initialized y.cls ∈ GW ∧ (y.cls ≠ "java/lang/invoke/MethodHandle" ∧ y.cls ≠ "java/lang/invoke/VarHandle" ∧ (parseMethodDescriptor y.desc).map (fun d => d.parameters.length) = some n)) (hl : va_Nw (.methodLinkNest own idx y host) s) (hc : rm.cells = 0) (hs : rm.slots = 0) (hR : rm.frames + 1 ≤ R.frames ∧ 8 + (my + 11) + rm.locals ≤ R.locals) : va_CN R s args own idx y host cy my ry (Cond.code y cy my ry :: GW) rm 0 0 n :=
  va_cnB n hts (GW_good (big := GW) (fun w h => (List.mem_cons.mp h).elim (fun q => by rw [q]; exact L.1) id)) rfl hc hs hl (hts _ L.2.1) L.2.2 hR
theorem g_callSNv {y : MethodName} {cy : ByteArray} {my n idx : Nat} {ry : Option FieldType} {rm : Room} {lv : List (Nat × Value)} {st0 As : List Value} {X : Mem} {host : String} (E : gE p s m args meth c P own cc nL ret) (h : gH P s G H locs) (hl : lv_has ls nL lv) (hM : gMv l y cy my ry rm As P G X) (L : gLSN own host idx y cy my ry n)
    (hF : rm.frames + 1 ≤ R.frames) (hL : 8 + (my + 11) + rm.locals ≤ R.locals) (hCe : cells ≤ R.cells) (hSl : slots ≤ R.slots) (hroom : (rest.map fun v => v.category).sum ≤ 8) (hc0 : rm.cells = 0) (hs0 : rm.slots = 0) (hn : As.length = n) (hst : st0 = As.reverse ++ rest) (hdg : decode cc pc = .ok (.invokestatic idx, 3))
    (kk : ∀ (H1 : Heap) (locs1 : List Loc), gH P s X H1 locs1 → W p l e R s m args below meth c H1 locs1 cells slots Q (F0 m (pc + 3) ls rest)) : W p l e R s m args below meth c H locs cells slots Q (F0 m pc ls st0) :=
  g_endv h (va_runSN ⟨E.1, E.2.1, E.2.2.2.1, E.2.2.2.2.1, E.2.2.2.2.2.1⟩ hM ⟨g_cn E.2.2.2.2.2.1 L.1 (E.2.2.2.2.2.2.2.2.2.1 _ L.2.1) hc0 hs0 ⟨hF, hL⟩, E.2.2.2.2.2.1 _ L.2.2, trivial⟩ (g_preS E h) rfl hn hl.1 hst (lv_room hroom) hdg ⟨hCe, hSl⟩) kk
theorem g_callSNi {y : MethodName} {cy : ByteArray} {my n idx : Nat} {ry : Option FieldType} {rm : Room} {lv : List (Nat × Value)} {st0 As : List Value} {X : Int32 × Mem} {host : String} (E : gE p s m args meth c P own cc nL ret) (h : gH P s G H locs) (hl : lv_has ls nL lv) (hM : gMi l y cy my ry rm As P G X) (L : gLSN own host idx y cy my ry n)
    (hF : rm.frames + 1 ≤ R.frames) (hL : 8 + (my + 11) + rm.locals ≤ R.locals) (hCe : cells ≤ R.cells) (hSl : slots ≤ R.slots) (hroom : (rest.map fun v => v.category).sum ≤ 8) (hc0 : rm.cells = 0) (hs0 : rm.slots = 0) (hn : As.length = n) (hst : st0 = As.reverse ++ rest) (hdg : decode cc pc = .ok (.invokestatic idx, 3))
    (kk : ∀ (H1 : Heap) (locs1 : List Loc), gH P s X.2 H1 locs1 → W p l e R s m args below meth c H1 locs1 cells slots Q (F0 m (pc + 3) ls (.int X.1 :: rest))) : W p l e R s m args below meth c H locs cells slots Q (F0 m pc ls st0) :=
  g_endi h (va_runSN ⟨E.1, E.2.1, E.2.2.2.1, E.2.2.2.2.1, E.2.2.2.2.2.1⟩ hM ⟨g_cn E.2.2.2.2.2.1 L.1 (E.2.2.2.2.2.2.2.2.2.1 _ L.2.1) hc0 hs0 ⟨hF, hL⟩, E.2.2.2.2.2.1 _ L.2.2, trivial⟩ (g_preS E h) rfl hn hl.1 hst (lv_room hroom) hdg ⟨hCe, hSl⟩) kk
theorem g_callSNz {y : MethodName} {cy : ByteArray} {my n idx : Nat} {ry : Option FieldType} {rm : Room} {lv : List (Nat × Value)} {st0 As : List Value} {X : Int32 × Mem} {host : String} (E : gE p s m args meth c P own cc nL ret) (h : gH P s G H locs) (hl : lv_has ls nL lv) (hM : gMz l y cy my ry rm As P G X) (L : gLSN own host idx y cy my ry n)
    (hF : rm.frames + 1 ≤ R.frames) (hL : 8 + (my + 11) + rm.locals ≤ R.locals) (hCe : cells ≤ R.cells) (hSl : slots ≤ R.slots) (hroom : (rest.map fun v => v.category).sum ≤ 8) (hc0 : rm.cells = 0) (hs0 : rm.slots = 0) (hn : As.length = n) (hst : st0 = As.reverse ++ rest) (hdg : decode cc pc = .ok (.invokestatic idx, 3))
    (kk : ∀ (H1 : Heap) (locs1 : List Loc), gH P s X.2 H1 locs1 → isB X.1 → W p l e R s m args below meth c H1 locs1 cells slots Q (F0 m (pc + 3) ls (.int X.1 :: rest))) : W p l e R s m args below meth c H locs cells slots Q (F0 m pc ls st0) :=
  g_endz h (va_runSN ⟨E.1, E.2.1, E.2.2.2.1, E.2.2.2.2.1, E.2.2.2.2.2.1⟩ hM ⟨g_cn E.2.2.2.2.2.1 L.1 (E.2.2.2.2.2.2.2.2.2.1 _ L.2.1) hc0 hs0 ⟨hF, hL⟩, E.2.2.2.2.2.1 _ L.2.2, trivial⟩ (g_preS E h) rfl hn hl.1 hst (lv_room hroom) hdg ⟨hCe, hSl⟩) kk
theorem g_callSNri {y : MethodName} {cy : ByteArray} {my n idx : Nat} {ry : Option FieldType} {rm : Room} {lv : List (Nat × Value)} {st0 As : List Value} {X : Int32} {host : String} (E : gE p s m args meth c P own cc nL ret) (h : gH P s G H locs) (hl : lv_has ls nL lv) (hM : gMri l y cy my ry rm As P G X) (L : gLSN own host idx y cy my ry n)
    (hF : rm.frames + 1 ≤ R.frames) (hL : 8 + (my + 11) + rm.locals ≤ R.locals) (hCe : cells ≤ R.cells) (hSl : slots ≤ R.slots) (hroom : (rest.map fun v => v.category).sum ≤ 8) (hc0 : rm.cells = 0) (hs0 : rm.slots = 0) (hn : As.length = n) (hst : st0 = As.reverse ++ rest) (hdg : decode cc pc = .ok (.invokestatic idx, 3))
    (kk : ∀ (H1 : Heap) (locs1 : List Loc), gH P s G H1 locs1 → W p l e R s m args below meth c H1 locs1 cells slots Q (F0 m (pc + 3) ls (.int X :: rest))) : W p l e R s m args below meth c H locs cells slots Q (F0 m pc ls st0) :=
  g_endi h (va_runSN ⟨E.1, E.2.1, E.2.2.2.1, E.2.2.2.2.1, E.2.2.2.2.2.1⟩ hM ⟨g_cn E.2.2.2.2.2.1 L.1 (E.2.2.2.2.2.2.2.2.2.1 _ L.2.1) hc0 hs0 ⟨hF, hL⟩, E.2.2.2.2.2.1 _ L.2.2, trivial⟩ (g_preS E h) rfl hn hl.1 hst (lv_room hroom) hdg ⟨hCe, hSl⟩) kk
theorem g_callSNrz {y : MethodName} {cy : ByteArray} {my n idx : Nat} {ry : Option FieldType} {rm : Room} {lv : List (Nat × Value)} {st0 As : List Value} {X : Int32} {host : String} (E : gE p s m args meth c P own cc nL ret) (h : gH P s G H locs) (hl : lv_has ls nL lv) (hM : gMrz l y cy my ry rm As P G X) (L : gLSN own host idx y cy my ry n)
    (hF : rm.frames + 1 ≤ R.frames) (hL : 8 + (my + 11) + rm.locals ≤ R.locals) (hCe : cells ≤ R.cells) (hSl : slots ≤ R.slots) (hroom : (rest.map fun v => v.category).sum ≤ 8) (hc0 : rm.cells = 0) (hs0 : rm.slots = 0) (hn : As.length = n) (hst : st0 = As.reverse ++ rest) (hdg : decode cc pc = .ok (.invokestatic idx, 3))
    (kk : ∀ (H1 : Heap) (locs1 : List Loc), gH P s G H1 locs1 → isB X → W p l e R s m args below meth c H1 locs1 cells slots Q (F0 m (pc + 3) ls (.int X :: rest))) : W p l e R s m args below meth c H locs cells slots Q (F0 m pc ls st0) :=
  g_endz h (va_runSN ⟨E.1, E.2.1, E.2.2.2.1, E.2.2.2.2.1, E.2.2.2.2.2.1⟩ hM ⟨g_cn E.2.2.2.2.2.1 L.1 (E.2.2.2.2.2.2.2.2.2.1 _ L.2.1) hc0 hs0 ⟨hF, hL⟩, E.2.2.2.2.2.1 _ L.2.2, trivial⟩ (g_preS E h) rfl hn hl.1 hst (lv_room hroom) hdg ⟨hCe, hSl⟩) kk
theorem g_vret {X : Mem} (E : gE p s m args meth c P own cc nL none) (h : gH P s G H locs) (hX : X = G) (hdg : decode cc pc = .ok (.return_, 1)) : W p l e R s m args below meth c H locs cells slots (MQ below (va_Qv (fun u : Mem => X = u) (fun u t => va_P (gDD P) vwCl (gw P u) t.heap) (gA P)) args s cells slots (gA P)) (F0 m pc ls []) :=
  W.vret E.1 E.2.1 E.2.2.1 (fun t ht _ => ⟨⟨G, rfl, hX, by show va_P _ _ _ t.heap; rw [ht]; exact h.1⟩, h.2.F ht⟩) h.2.2.2 hdg E.2.2.2.2.2.2.1
theorem g_iret {X : Int32 × Mem} {v : Int32} (E : gE p s m args meth c P own cc nL (some .int)) (h : gH P s G H locs) (hX : X = (v, G)) (hdg : decode cc pc = .ok (.ireturn, 1)) : W p l e R s m args below meth c H locs cells slots (MQ below (va_Qi (fun (r : Int32) (u : Mem) => X = (r, u)) (fun u t => va_P (gDD P) vwCl (gw P u) t.heap) (gA P)) args s cells slots (gA P)) (F0 m pc ls [.int v]) :=
  W.iret E.1 E.2.1 E.2.2.1 (fun t ht _ => ⟨⟨v, G, rfl, hX, by show va_P _ _ _ t.heap; rw [ht]; exact h.1⟩, h.2.F ht⟩) h.2.2.2 hdg E.2.2.2.2.2.2.1
theorem g_zret {X : Int32 × Mem} {v : Int32} (E : gE p s m args meth c P own cc nL (some .boolean)) (h : gH P s G H locs) (hX : X = (v, G)) (hz : isB v) (hdg : decode cc pc = .ok (.ireturn, 1)) : W p l e R s m args below meth c H locs cells slots (MQ below (va_Qi (fun (r : Int32) (u : Mem) => X = (r, u) ∧ isB r) (fun u t => va_P (gDD P) vwCl (gw P u) t.heap) (gA P)) args s cells slots (gA P)) (F0 m pc ls [.int v]) :=
  W.zret E.1 E.2.1 E.2.2.1 hz.1 (fun t ht _ => ⟨⟨v, G, rfl, ⟨hX, hz⟩, by show va_P _ _ _ t.heap; rw [ht]; exact h.1⟩, h.2.F ht⟩) h.2.2.2 hdg E.2.2.2.2.2.2.1
theorem g_riret {X : Int32} {v : Int32} (E : gE p s m args meth c P own cc nL (some .int)) (h : gH P s G H locs) (hX : X = v) (hdg : decode cc pc = .ok (.ireturn, 1)) : W p l e R s m args below meth c H locs cells slots (MQ below (va_Qi (fun (r : Int32) (u : Mem) => (X, G) = (r, u)) (fun u t => va_P (gDD P) vwCl (gw P u) t.heap) (gA P)) args s cells slots (gA P)) (F0 m pc ls [.int v]) := g_iret E h (by rw [hX]) hdg
theorem g_rzret {X : Int32} {v : Int32} (E : gE p s m args meth c P own cc nL (some .boolean)) (h : gH P s G H locs) (hX : X = v) (hz : isB v) (hdg : decode cc pc = .ok (.ireturn, 1)) : W p l e R s m args below meth c H locs cells slots (MQ below (va_Qi (fun (r : Int32) (u : Mem) => (X, G) = (r, u) ∧ isB r) (fun u t => va_P (gDD P) vwCl (gw P u) t.heap) (gA P)) args s cells slots (gA P)) (F0 m pc ls [.int v]) := g_zret E h (by rw [hX]) hz hdg
end GR
abbrev b_A_init : ByteArray := prog_2_method_1_code
def y_A_init : MethodName := ⟨"FramedLine$Arrivals", "<init>", "()V"⟩
abbrev b_A_change : ByteArray := prog_2_method_2_code
def y_A_change : MethodName := ⟨"FramedLine$Arrivals", "change", "(II)Z"⟩
abbrev b_A_doubleNext : ByteArray := prog_2_method_3_code
def y_A_doubleNext : MethodName := ⟨"FramedLine$Arrivals", "doubleNext", "()Z"⟩
abbrev b_A_asItComes : ByteArray := prog_2_method_4_code
def y_A_asItComes : MethodName := ⟨"FramedLine$Arrivals", "asItComes", "(II)I"⟩
abbrev b_A_comings : ByteArray := prog_2_method_5_code
def y_A_comings : MethodName := ⟨"FramedLine$Arrivals", "comings", "()I"⟩
abbrev b_A_placeOf : ByteArray := prog_2_method_6_code
def y_A_placeOf : MethodName := ⟨"FramedLine$Arrivals", "placeOf", "(I)I"⟩
abbrev b_D_init : ByteArray := prog_3_method_1_code
def y_D_init : MethodName := ⟨"FramedLine$Decoder", "<init>", "()V"⟩
abbrev b_D_bitBehind : ByteArray := prog_3_method_2_code
def y_D_bitBehind : MethodName := ⟨"FramedLine$Decoder", "bitBehind", "(I)I"⟩
abbrev b_D_takeZero : ByteArray := prog_3_method_3_code
def y_D_takeZero : MethodName := ⟨"FramedLine$Decoder", "takeZero", "()V"⟩
abbrev b_D_takePulse : ByteArray := prog_3_method_4_code
def y_D_takePulse : MethodName := ⟨"FramedLine$Decoder", "takePulse", "(I)V"⟩
abbrev b_D_takeV : ByteArray := prog_3_method_5_code
def y_D_takeV : MethodName := ⟨"FramedLine$Decoder", "takeV", "(I)V"⟩
abbrev b_E_init : ByteArray := prog_4_method_1_code
def y_E_init : MethodName := ⟨"FramedLine$Encoder", "<init>", "()V"⟩
abbrev b_E_symbolBehind : ByteArray := prog_4_method_2_code
def y_E_symbolBehind : MethodName := ⟨"FramedLine$Encoder", "symbolBehind", "(I)I"⟩
abbrev b_E_pulseOfOne : ByteArray := prog_4_method_3_code
def y_E_pulseOfOne : MethodName := ⟨"FramedLine$Encoder", "pulseOfOne", "()I"⟩
abbrev b_E_symbolOfZero : ByteArray := prog_4_method_4_code
def y_E_symbolOfZero : MethodName := ⟨"FramedLine$Encoder", "symbolOfZero", "()I"⟩
abbrev b_N_init : ByteArray := prog_5_method_1_code
def y_N_init : MethodName := ⟨"FramedLine$End", "<init>", "()V"⟩
abbrev b_N_send : ByteArray := prog_5_method_2_code
def y_N_send : MethodName := ⟨"FramedLine$End", "send", "()I"⟩
abbrev b_N_receive : ByteArray := prog_5_method_3_code
def y_N_receive : MethodName := ⟨"FramedLine$End", "receive", "(II)V"⟩
abbrev b_R_init : ByteArray := prog_6_method_1_code
def y_R_init : MethodName := ⟨"FramedLine$Receiver", "<init>", "()V"⟩
abbrev b_R_isAligned : ByteArray := prog_6_method_2_code
def y_R_isAligned : MethodName := ⟨"FramedLine$Receiver", "isAligned", "()Z"⟩
abbrev b_R_byteOf : ByteArray := prog_6_method_3_code
def y_R_byteOf : MethodName := ⟨"FramedLine$Receiver", "byteOf", "(I)I"⟩
abbrev b_R_takeBit : ByteArray := prog_6_method_4_code
def y_R_takeBit : MethodName := ⟨"FramedLine$Receiver", "takeBit", "(I)V"⟩
abbrev b_R_search : ByteArray := prog_6_method_5_code
def y_R_search : MethodName := ⟨"FramedLine$Receiver", "search", "()V"⟩
abbrev b_R_tryWord : ByteArray := prog_6_method_6_code
def y_R_tryWord : MethodName := ⟨"FramedLine$Receiver", "tryWord", "(I)V"⟩
abbrev b_R_align : ByteArray := prog_6_method_7_code
def y_R_align : MethodName := ⟨"FramedLine$Receiver", "align", "()V"⟩
abbrev b_R_lookAtWord : ByteArray := prog_6_method_8_code
def y_R_lookAtWord : MethodName := ⟨"FramedLine$Receiver", "lookAtWord", "()V"⟩
abbrev b_R_complete : ByteArray := prog_6_method_9_code
def y_R_complete : MethodName := ⟨"FramedLine$Receiver", "complete", "()V"⟩
abbrev b_R_wordStands : ByteArray := prog_6_method_10_code
def y_R_wordStands : MethodName := ⟨"FramedLine$Receiver", "wordStands", "()Z"⟩
abbrev b_R_enter : ByteArray := prog_6_method_11_code
def y_R_enter : MethodName := ⟨"FramedLine$Receiver", "enter", "(LFramedLine$State;)V"⟩
abbrev b_O_init : ByteArray := prog_7_method_1_code
def y_O_init : MethodName := ⟨"FramedLine$Rounds", "<init>", "()V"⟩
abbrev b_O_startAnew : ByteArray := prog_7_method_2_code
def y_O_startAnew : MethodName := ⟨"FramedLine$Rounds", "startAnew", "()V"⟩
abbrev b_O_takeFrame : ByteArray := prog_7_method_3_code
def y_O_takeFrame : MethodName := ⟨"FramedLine$Rounds", "takeFrame", "(IZ)V"⟩
abbrev b_O_findNumber : ByteArray := prog_7_method_4_code
def y_O_findNumber : MethodName := ⟨"FramedLine$Rounds", "findNumber", "(Z)V"⟩
abbrev b_O_judgeRoundWord : ByteArray := prog_7_method_5_code
def y_O_judgeRoundWord : MethodName := ⟨"FramedLine$Rounds", "judgeRoundWord", "()V"⟩
abbrev b_O_endHalf : ByteArray := prog_7_method_6_code
def y_O_endHalf : MethodName := ⟨"FramedLine$Rounds", "endHalf", "()V"⟩
abbrev b_O_judgeHalfBefore : ByteArray := prog_7_method_7_code
def y_O_judgeHalfBefore : MethodName := ⟨"FramedLine$Rounds", "judgeHalfBefore", "()V"⟩
abbrev b_O_forgetNumber : ByteArray := prog_7_method_8_code
def y_O_forgetNumber : MethodName := ⟨"FramedLine$Rounds", "forgetNumber", "()V"⟩
abbrev b_S_init : ByteArray := prog_8_method_1_code
def y_S_init : MethodName := ⟨"FramedLine$Sender", "<init>", "()V"⟩
abbrev b_S_exchange : ByteArray := prog_8_method_2_code
def y_S_exchange : MethodName := ⟨"FramedLine$Sender", "exchange", "(II)I"⟩
abbrev b_S_isBetweenFrames : ByteArray := prog_8_method_3_code
def y_S_isBetweenFrames : MethodName := ⟨"FramedLine$Sender", "isBetweenFrames", "()Z"⟩
abbrev b_S_beginFrame : ByteArray := prog_8_method_4_code
def y_S_beginFrame : MethodName := ⟨"FramedLine$Sender", "beginFrame", "(LFramedLine$Receiver;)V"⟩
abbrev b_S_nextBit : ByteArray := prog_8_method_5_code
def y_S_nextBit : MethodName := ⟨"FramedLine$Sender", "nextBit", "()I"⟩
abbrev b_S_evenSlotZero : ByteArray := prog_8_method_6_code
def y_S_evenSlotZero : MethodName := ⟨"FramedLine$Sender", "evenSlotZero", "()I"⟩
abbrev b_S_oddSlotZero : ByteArray := prog_8_method_7_code
def y_S_oddSlotZero : MethodName := ⟨"FramedLine$Sender", "oddSlotZero", "(LFramedLine$Receiver;)I"⟩
abbrev b_S_firstBitOfOdd : ByteArray := prog_8_method_8_code
def y_S_firstBitOfOdd : MethodName := ⟨"FramedLine$Sender", "firstBitOfOdd", "(LFramedLine$Rounds;)I"⟩
abbrev b_F_init : ByteArray := prog_1_method_1_code
def y_F_init : MethodName := ⟨"FramedLine", "<init>", "()V"⟩
abbrev b_F_load : ByteArray := prog_1_method_2_code
def y_F_load : MethodName := ⟨"FramedLine", "load", "(III)I"⟩
abbrev b_F_disturb : ByteArray := prog_1_method_3_code
def y_F_disturb : MethodName := ⟨"FramedLine", "disturb", "(III)I"⟩
abbrev b_F_slip : ByteArray := prog_1_method_4_code
def y_F_slip : MethodName := ⟨"FramedLine", "slip", "(I)Z"⟩
abbrev b_F_pass : ByteArray := prog_1_method_5_code
def y_F_pass : MethodName := ⟨"FramedLine", "pass", "(I)I"⟩
abbrev b_F_symbol : ByteArray := prog_1_method_6_code
def y_F_symbol : MethodName := ⟨"FramedLine", "symbol", "(I)I"⟩
abbrev b_F_aligned : ByteArray := prog_1_method_7_code
def y_F_aligned : MethodName := ⟨"FramedLine", "aligned", "(I)Z"⟩
abbrev b_F_frame : ByteArray := prog_1_method_8_code
def y_F_frame : MethodName := ⟨"FramedLine", "frame", "(I)I"⟩
abbrev b_F_slot : ByteArray := prog_1_method_9_code
def y_F_slot : MethodName := ⟨"FramedLine", "slot", "(II)I"⟩
abbrev b_F_alarm : ByteArray := prog_1_method_10_code
def y_F_alarm : MethodName := ⟨"FramedLine", "alarm", "(I)Z"⟩
abbrev b_F_count : ByteArray := prog_1_method_11_code
def y_F_count : MethodName := ⟨"FramedLine", "count", "(II)I"⟩
abbrev b_F_endOf : ByteArray := prog_1_method_12_code
def y_F_endOf : MethodName := ⟨"FramedLine", "endOf", "(I)LFramedLine$End;"⟩
abbrev b_F_require : ByteArray := prog_1_method_13_code
def y_F_require : MethodName := ⟨"FramedLine", "require", "(Z)V"⟩
abbrev b_F_checkOver : ByteArray := prog_1_method_14_code
def y_F_checkOver : MethodName := ⟨"FramedLine", "checkOver", "(II)I"⟩
abbrev b_F_endsHalf : ByteArray := prog_1_method_15_code
def y_F_endsHalf : MethodName := ⟨"FramedLine", "endsHalf", "(I)Z"⟩
abbrev b_L_load : ByteArray := method_3_code
def y_L_load : MethodName := ⟨"FramedLineLaw", "load", "(LFramedLine;III[J)I"⟩
abbrev b_L_disturb : ByteArray := method_4_code
def y_L_disturb : MethodName := ⟨"FramedLineLaw", "disturb", "(LFramedLine;III[J)I"⟩
abbrev b_L_slip : ByteArray := method_5_code
def y_L_slip : MethodName := ⟨"FramedLineLaw", "slip", "(LFramedLine;I[J)I"⟩
abbrev b_L_pass : ByteArray := method_6_code
def y_L_pass : MethodName := ⟨"FramedLineLaw", "pass", "(LFramedLine;I[J)I"⟩
abbrev b_L_symbol : ByteArray := method_7_code
def y_L_symbol : MethodName := ⟨"FramedLineLaw", "symbol", "(LFramedLine;I[J)I"⟩
abbrev b_L_aligned : ByteArray := method_8_code
def y_L_aligned : MethodName := ⟨"FramedLineLaw", "aligned", "(LFramedLine;I[J)I"⟩
abbrev b_L_frame : ByteArray := method_9_code
def y_L_frame : MethodName := ⟨"FramedLineLaw", "frame", "(LFramedLine;I[J)I"⟩
abbrev b_L_slot : ByteArray := method_10_code
def y_L_slot : MethodName := ⟨"FramedLineLaw", "slot", "(LFramedLine;II[J)I"⟩
abbrev b_L_alarm : ByteArray := method_11_code
def y_L_alarm : MethodName := ⟨"FramedLineLaw", "alarm", "(LFramedLine;I[J)I"⟩
abbrev b_L_count : ByteArray := method_12_code
def y_L_count : MethodName := ⟨"FramedLineLaw", "count", "(LFramedLine;II[J)I"⟩
abbrev b_L_law : ByteArray := code
abbrev b_M_init : ByteArray := prog_11_method_1_code
def y_M_init : MethodName := ⟨"FramedLineModel", "<init>", "()V"⟩
abbrev b_M_thrown : ByteArray := prog_11_method_2_code
def y_M_thrown : MethodName := ⟨"FramedLineModel", "thrown", "()I"⟩
abbrev b_M_within : ByteArray := prog_11_method_3_code
def y_M_within : MethodName := ⟨"FramedLineModel", "within", "(III)Z"⟩
abbrev b_M_isEnd : ByteArray := prog_11_method_4_code
def y_M_isEnd : MethodName := ⟨"FramedLineModel", "isEnd", "(I)Z"⟩
abbrev b_M_with : ByteArray := prog_11_method_5_code
def y_M_with : MethodName := ⟨"FramedLineModel", "with", "(II)I"⟩
abbrev b_M_mark : ByteArray := prog_11_method_6_code
def y_M_mark : MethodName := ⟨"FramedLineModel", "mark", "(II)I"⟩
abbrev b_M_beginFrame : ByteArray := prog_11_method_7_code
def y_M_beginFrame : MethodName := ⟨"FramedLineModel", "beginFrame", "(I)V"⟩
abbrev b_M_nextBit : ByteArray := prog_11_method_8_code
def y_M_nextBit : MethodName := ⟨"FramedLineModel", "nextBit", "(I)I"⟩
abbrev b_M_turned : ByteArray := prog_11_method_9_code
def y_M_turned : MethodName := ⟨"FramedLineModel", "turned", "(I)I"⟩
abbrev b_M_send : ByteArray := prog_11_method_10_code
def y_M_send : MethodName := ⟨"FramedLineModel", "send", "(I)I"⟩
abbrev b_M_said : ByteArray := prog_11_method_11_code
def y_M_said : MethodName := ⟨"FramedLineModel", "said", "(II)I"⟩
abbrev b_M_coming : ByteArray := prog_11_method_12_code
def y_M_coming : MethodName := ⟨"FramedLineModel", "coming", "(II)I"⟩
abbrev b_M_fault : ByteArray := prog_11_method_13_code
def y_M_fault : MethodName := ⟨"FramedLineModel", "fault", "(IZI)V"⟩
abbrev b_M_take : ByteArray := prog_11_method_14_code
def y_M_take : MethodName := ⟨"FramedLineModel", "take", "(II)V"⟩
abbrev b_M_search : ByteArray := prog_11_method_15_code
def y_M_search : MethodName := ⟨"FramedLineModel", "search", "(I)V"⟩
abbrev b_M_forget : ByteArray := prog_11_method_16_code
def y_M_forget : MethodName := ⟨"FramedLineModel", "forget", "(I)V"⟩
abbrev b_M_isWord : ByteArray := prog_11_method_17_code
def y_M_isWord : MethodName := ⟨"FramedLineModel", "isWord", "(I)Z"⟩
abbrev b_M_make : ByteArray := prog_11_method_18_code
def y_M_make : MethodName := ⟨"FramedLineModel", "make", "(II)V"⟩
abbrev b_M_frameBit : ByteArray := prog_11_method_19_code
def y_M_frameBit : MethodName := ⟨"FramedLineModel", "frameBit", "(I)V"⟩
abbrev b_M_complete : ByteArray := prog_11_method_20_code
def y_M_complete : MethodName := ⟨"FramedLineModel", "complete", "(I)V"⟩
abbrev b_M_halves : ByteArray := prog_11_method_21_code
def y_M_halves : MethodName := ⟨"FramedLineModel", "halves", "(III)V"⟩
abbrev b_M_load : ByteArray := prog_11_method_22_code
def y_M_load : MethodName := ⟨"FramedLineModel", "load", "(III)I"⟩
abbrev b_M_disturb : ByteArray := prog_11_method_23_code
def y_M_disturb : MethodName := ⟨"FramedLineModel", "disturb", "(III)I"⟩
abbrev b_M_slip : ByteArray := prog_11_method_24_code
def y_M_slip : MethodName := ⟨"FramedLineModel", "slip", "(I)Z"⟩
abbrev b_M_pass : ByteArray := prog_11_method_25_code
def y_M_pass : MethodName := ⟨"FramedLineModel", "pass", "(I)I"⟩
abbrev b_M_arrive : ByteArray := prog_11_method_26_code
def y_M_arrive : MethodName := ⟨"FramedLineModel", "arrive", "(II)V"⟩
abbrev b_M_symbol : ByteArray := prog_11_method_27_code
def y_M_symbol : MethodName := ⟨"FramedLineModel", "symbol", "(I)I"⟩
abbrev b_M_aligned : ByteArray := prog_11_method_28_code
def y_M_aligned : MethodName := ⟨"FramedLineModel", "aligned", "(I)Z"⟩
abbrev b_M_frame : ByteArray := prog_11_method_29_code
def y_M_frame : MethodName := ⟨"FramedLineModel", "frame", "(I)I"⟩
abbrev b_M_slot : ByteArray := prog_11_method_30_code
def y_M_slot : MethodName := ⟨"FramedLineModel", "slot", "(II)I"⟩
abbrev b_M_alarm : ByteArray := prog_11_method_31_code
def y_M_alarm : MethodName := ⟨"FramedLineModel", "alarm", "(I)Z"⟩
abbrev b_M_count : ByteArray := prog_11_method_32_code
def y_M_count : MethodName := ⟨"FramedLineModel", "count", "(II)I"⟩
theorem cl_A : gCl 0 "FramedLine$Arrivals" T_A 4 := ⟨rfl, by
  show ∀ w ∈ (List.range 4).map (u_lay "FramedLine$Arrivals" T_A), w ∈ GW
  intro w hw
  obtain ⟨k, hk, rfl⟩ := List.mem_map.mp hw
  have hk := List.mem_range.mp hk
  match k, hk with
  | 0, _ => exact GW_at 133 (by decide +kernel) (by decide +kernel)
  | 1, _ => exact GW_at 135 (by decide +kernel) (by decide +kernel)
  | 2, _ => exact GW_at 137 (by decide +kernel) (by decide +kernel)
  | 3, _ => exact GW_at 139 (by decide +kernel) (by decide +kernel)⟩
theorem ct_A : gCt "FramedLine$Arrivals" T_A 4 t_A := ⟨by decide +kernel, by decide +kernel⟩
theorem cl_D : gCl 1 "FramedLine$Decoder" T_D 7 := ⟨rfl, by
  show ∀ w ∈ (List.range 7).map (u_lay "FramedLine$Decoder" T_D), w ∈ GW
  intro w hw
  obtain ⟨k, hk, rfl⟩ := List.mem_map.mp hw
  have hk := List.mem_range.mp hk
  match k, hk with
  | 0, _ => exact GW_at 157 (by decide +kernel) (by decide +kernel)
  | 1, _ => exact GW_at 159 (by decide +kernel) (by decide +kernel)
  | 2, _ => exact GW_at 161 (by decide +kernel) (by decide +kernel)
  | 3, _ => exact GW_at 163 (by decide +kernel) (by decide +kernel)
  | 4, _ => exact GW_at 165 (by decide +kernel) (by decide +kernel)
  | 5, _ => exact GW_at 167 (by decide +kernel) (by decide +kernel)
  | 6, _ => exact GW_at 169 (by decide +kernel) (by decide +kernel)⟩
theorem ct_D : gCt "FramedLine$Decoder" T_D 7 t_D := ⟨by decide +kernel, by decide +kernel⟩
theorem cl_E : gCl 2 "FramedLine$Encoder" T_E 6 := ⟨rfl, by
  show ∀ w ∈ (List.range 6).map (u_lay "FramedLine$Encoder" T_E), w ∈ GW
  intro w hw
  obtain ⟨k, hk, rfl⟩ := List.mem_map.mp hw
  have hk := List.mem_range.mp hk
  match k, hk with
  | 0, _ => exact GW_at 109 (by decide +kernel) (by decide +kernel)
  | 1, _ => exact GW_at 111 (by decide +kernel) (by decide +kernel)
  | 2, _ => exact GW_at 113 (by decide +kernel) (by decide +kernel)
  | 3, _ => exact GW_at 115 (by decide +kernel) (by decide +kernel)
  | 4, _ => exact GW_at 117 (by decide +kernel) (by decide +kernel)
  | 5, _ => exact GW_at 119 (by decide +kernel) (by decide +kernel)⟩
theorem ct_E : gCt "FramedLine$Encoder" T_E 6 t_E := ⟨by decide +kernel, by decide +kernel⟩
theorem cl_N : gCl 3 "FramedLine$End" T_N 5 := ⟨rfl, by
  show ∀ w ∈ (List.range 5).map (u_lay "FramedLine$End" T_N), w ∈ GW
  intro w hw
  obtain ⟨k, hk, rfl⟩ := List.mem_map.mp hw
  have hk := List.mem_range.mp hk
  match k, hk with
  | 0, _ => exact GW_at 276 (by decide +kernel) (by decide +kernel)
  | 1, _ => exact GW_at 278 (by decide +kernel) (by decide +kernel)
  | 2, _ => exact GW_at 280 (by decide +kernel) (by decide +kernel)
  | 3, _ => exact GW_at 282 (by decide +kernel) (by decide +kernel)
  | 4, _ => exact GW_at 284 (by decide +kernel) (by decide +kernel)⟩
theorem ct_N : gCt "FramedLine$End" T_N 5 t_N := ⟨by decide +kernel, by decide +kernel⟩
theorem cl_R : gCl 4 "FramedLine$Receiver" T_R 10 := ⟨rfl, by
  show ∀ w ∈ (List.range 10).map (u_lay "FramedLine$Receiver" T_R), w ∈ GW
  intro w hw
  obtain ⟨k, hk, rfl⟩ := List.mem_map.mp hw
  have hk := List.mem_range.mp hk
  match k, hk with
  | 0, _ => exact GW_at 246 (by decide +kernel) (by decide +kernel)
  | 1, _ => exact GW_at 248 (by decide +kernel) (by decide +kernel)
  | 2, _ => exact GW_at 250 (by decide +kernel) (by decide +kernel)
  | 3, _ => exact GW_at 252 (by decide +kernel) (by decide +kernel)
  | 4, _ => exact GW_at 254 (by decide +kernel) (by decide +kernel)
  | 5, _ => exact GW_at 256 (by decide +kernel) (by decide +kernel)
  | 6, _ => exact GW_at 258 (by decide +kernel) (by decide +kernel)
  | 7, _ => exact GW_at 260 (by decide +kernel) (by decide +kernel)
  | 8, _ => exact GW_at 262 (by decide +kernel) (by decide +kernel)
  | 9, _ => exact GW_at 264 (by decide +kernel) (by decide +kernel)⟩
theorem ct_R : gCt "FramedLine$Receiver" T_R 10 t_R := ⟨by decide +kernel, by decide +kernel⟩
theorem cl_O : gCl 5 "FramedLine$Rounds" T_O 13 := ⟨rfl, by
  show ∀ w ∈ (List.range 13).map (u_lay "FramedLine$Rounds" T_O), w ∈ GW
  intro w hw
  obtain ⟨k, hk, rfl⟩ := List.mem_map.mp hw
  have hk := List.mem_range.mp hk
  match k, hk with
  | 0, _ => exact GW_at 202 (by decide +kernel) (by decide +kernel)
  | 1, _ => exact GW_at 204 (by decide +kernel) (by decide +kernel)
  | 2, _ => exact GW_at 206 (by decide +kernel) (by decide +kernel)
  | 3, _ => exact GW_at 208 (by decide +kernel) (by decide +kernel)
  | 4, _ => exact GW_at 210 (by decide +kernel) (by decide +kernel)
  | 5, _ => exact GW_at 212 (by decide +kernel) (by decide +kernel)
  | 6, _ => exact GW_at 214 (by decide +kernel) (by decide +kernel)
  | 7, _ => exact GW_at 216 (by decide +kernel) (by decide +kernel)
  | 8, _ => exact GW_at 218 (by decide +kernel) (by decide +kernel)
  | 9, _ => exact GW_at 220 (by decide +kernel) (by decide +kernel)
  | 10, _ => exact GW_at 222 (by decide +kernel) (by decide +kernel)
  | 11, _ => exact GW_at 224 (by decide +kernel) (by decide +kernel)
  | 12, _ => exact GW_at 226 (by decide +kernel) (by decide +kernel)⟩
theorem ct_O : gCt "FramedLine$Rounds" T_O 13 t_O := ⟨by decide +kernel, by decide +kernel⟩
theorem cl_S : gCl 6 "FramedLine$Sender" T_S 6 := ⟨rfl, by
  show ∀ w ∈ (List.range 6).map (u_lay "FramedLine$Sender" T_S), w ∈ GW
  intro w hw
  obtain ⟨k, hk, rfl⟩ := List.mem_map.mp hw
  have hk := List.mem_range.mp hk
  match k, hk with
  | 0, _ => exact GW_at 83 (by decide +kernel) (by decide +kernel)
  | 1, _ => exact GW_at 85 (by decide +kernel) (by decide +kernel)
  | 2, _ => exact GW_at 87 (by decide +kernel) (by decide +kernel)
  | 3, _ => exact GW_at 89 (by decide +kernel) (by decide +kernel)
  | 4, _ => exact GW_at 91 (by decide +kernel) (by decide +kernel)
  | 5, _ => exact GW_at 93 (by decide +kernel) (by decide +kernel)⟩
theorem ct_S : gCt "FramedLine$Sender" T_S 6 t_S := ⟨by decide +kernel, by decide +kernel⟩
theorem cl_F : gCl 7 "FramedLine" T_F 3 := ⟨rfl, by
  show ∀ w ∈ (List.range 3).map (u_lay "FramedLine" T_F), w ∈ GW
  intro w hw
  obtain ⟨k, hk, rfl⟩ := List.mem_map.mp hw
  have hk := List.mem_range.mp hk
  match k, hk with
  | 0, _ => exact GW_at 290 (by decide +kernel) (by decide +kernel)
  | 1, _ => exact GW_at 292 (by decide +kernel) (by decide +kernel)
  | 2, _ => exact GW_at 294 (by decide +kernel) (by decide +kernel)⟩
theorem ct_F : gCt "FramedLine" T_F 3 t_F := ⟨by decide +kernel, by decide +kernel⟩
theorem cl_M : gCl 8 "FramedLineModel" T_M 44 := ⟨rfl, by
  show ∀ w ∈ (List.range 44).map (u_lay "FramedLineModel" T_M), w ∈ GW
  intro w hw
  obtain ⟨k, hk, rfl⟩ := List.mem_map.mp hw
  have hk := List.mem_range.mp hk
  match k, hk with
  | 0, _ => exact GW_at 678 (by decide +kernel) (by decide +kernel)
  | 1, _ => exact GW_at 680 (by decide +kernel) (by decide +kernel)
  | 2, _ => exact GW_at 682 (by decide +kernel) (by decide +kernel)
  | 3, _ => exact GW_at 684 (by decide +kernel) (by decide +kernel)
  | 4, _ => exact GW_at 686 (by decide +kernel) (by decide +kernel)
  | 5, _ => exact GW_at 688 (by decide +kernel) (by decide +kernel)
  | 6, _ => exact GW_at 690 (by decide +kernel) (by decide +kernel)
  | 7, _ => exact GW_at 692 (by decide +kernel) (by decide +kernel)
  | 8, _ => exact GW_at 694 (by decide +kernel) (by decide +kernel)
  | 9, _ => exact GW_at 696 (by decide +kernel) (by decide +kernel)
  | 10, _ => exact GW_at 698 (by decide +kernel) (by decide +kernel)
  | 11, _ => exact GW_at 700 (by decide +kernel) (by decide +kernel)
  | 12, _ => exact GW_at 702 (by decide +kernel) (by decide +kernel)
  | 13, _ => exact GW_at 704 (by decide +kernel) (by decide +kernel)
  | 14, _ => exact GW_at 706 (by decide +kernel) (by decide +kernel)
  | 15, _ => exact GW_at 708 (by decide +kernel) (by decide +kernel)
  | 16, _ => exact GW_at 710 (by decide +kernel) (by decide +kernel)
  | 17, _ => exact GW_at 712 (by decide +kernel) (by decide +kernel)
  | 18, _ => exact GW_at 714 (by decide +kernel) (by decide +kernel)
  | 19, _ => exact GW_at 716 (by decide +kernel) (by decide +kernel)
  | 20, _ => exact GW_at 718 (by decide +kernel) (by decide +kernel)
  | 21, _ => exact GW_at 720 (by decide +kernel) (by decide +kernel)
  | 22, _ => exact GW_at 722 (by decide +kernel) (by decide +kernel)
  | 23, _ => exact GW_at 724 (by decide +kernel) (by decide +kernel)
  | 24, _ => exact GW_at 726 (by decide +kernel) (by decide +kernel)
  | 25, _ => exact GW_at 728 (by decide +kernel) (by decide +kernel)
  | 26, _ => exact GW_at 730 (by decide +kernel) (by decide +kernel)
  | 27, _ => exact GW_at 732 (by decide +kernel) (by decide +kernel)
  | 28, _ => exact GW_at 734 (by decide +kernel) (by decide +kernel)
  | 29, _ => exact GW_at 736 (by decide +kernel) (by decide +kernel)
  | 30, _ => exact GW_at 738 (by decide +kernel) (by decide +kernel)
  | 31, _ => exact GW_at 740 (by decide +kernel) (by decide +kernel)
  | 32, _ => exact GW_at 742 (by decide +kernel) (by decide +kernel)
  | 33, _ => exact GW_at 744 (by decide +kernel) (by decide +kernel)
  | 34, _ => exact GW_at 746 (by decide +kernel) (by decide +kernel)
  | 35, _ => exact GW_at 748 (by decide +kernel) (by decide +kernel)
  | 36, _ => exact GW_at 750 (by decide +kernel) (by decide +kernel)
  | 37, _ => exact GW_at 752 (by decide +kernel) (by decide +kernel)
  | 38, _ => exact GW_at 754 (by decide +kernel) (by decide +kernel)
  | 39, _ => exact GW_at 756 (by decide +kernel) (by decide +kernel)
  | 40, _ => exact GW_at 758 (by decide +kernel) (by decide +kernel)
  | 41, _ => exact GW_at 760 (by decide +kernel) (by decide +kernel)
  | 42, _ => exact GW_at 762 (by decide +kernel) (by decide +kernel)
  | 43, _ => exact GW_at 764 (by decide +kernel) (by decide +kernel)
  | j + 44, h => exact absurd h (by omega)⟩
theorem ct_M : gCt "FramedLineModel" T_M 44 t_M := ⟨by decide +kernel, by decide +kernel⟩
end
section
theorem lc_O_59 : Cond.constant "FramedLine$Rounds" 59 2147483647 ∈ GW := GW_at 556 (by decide +kernel) (by decide +kernel)
theorem lc_S_39 : Cond.constant "FramedLine$Sender" 39 2147483647 ∈ GW := GW_at 463 (by decide +kernel) (by decide +kernel)
theorem lf_A_15 : Cond.fieldLink "FramedLine$Arrivals" 15 "FramedLine$Arrivals" "symbols" "[I" ∈ GW := GW_at 129 (by decide +kernel) (by decide +kernel)
theorem lf_A_18 : Cond.fieldLink "FramedLine$Arrivals" 18 "FramedLine$Arrivals" "waiting" "I" ∈ GW := GW_at 130 (by decide +kernel) (by decide +kernel)
theorem lf_A_22 : Cond.fieldLink "FramedLine$Arrivals" 22 "FramedLine$Arrivals" "slipping" "Z" ∈ GW := GW_at 132 (by decide +kernel) (by decide +kernel)
theorem lf_A_9 : Cond.fieldLink "FramedLine$Arrivals" 9 "FramedLine$Arrivals" "times" "[I" ∈ GW := GW_at 128 (by decide +kernel) (by decide +kernel)
theorem lf_D_15 : Cond.fieldLink "FramedLine$Decoder" 15 "FramedLine$Decoder" "latestPulse" "I" ∈ GW := GW_at 150 (by decide +kernel) (by decide +kernel)
theorem lf_D_18 : Cond.fieldLink "FramedLine$Decoder" 18 "FramedLine$Decoder" "latestV" "I" ∈ GW := GW_at 151 (by decide +kernel) (by decide +kernel)
theorem lf_D_21 : Cond.fieldLink "FramedLine$Decoder" 21 "FramedLine$Decoder" "zeros" "I" ∈ GW := GW_at 152 (by decide +kernel) (by decide +kernel)
theorem lf_D_24 : Cond.fieldLink "FramedLine$Decoder" 24 "FramedLine$Decoder" "latestBits" "I" ∈ GW := GW_at 153 (by decide +kernel) (by decide +kernel)
theorem lf_D_27 : Cond.fieldLink "FramedLine$Decoder" 27 "FramedLine$Decoder" "symbolsAhead" "I" ∈ GW := GW_at 154 (by decide +kernel) (by decide +kernel)
theorem lf_D_30 : Cond.fieldLink "FramedLine$Decoder" 30 "FramedLine$Decoder" "faults" "I" ∈ GW := GW_at 155 (by decide +kernel) (by decide +kernel)
theorem lf_D_9 : Cond.fieldLink "FramedLine$Decoder" 9 "FramedLine$Decoder" "latestSymbol" "I" ∈ GW := GW_at 148 (by decide +kernel) (by decide +kernel)
theorem lf_E_15 : Cond.fieldLink "FramedLine$Encoder" 15 "FramedLine$Encoder" "oddPulses" "Z" ∈ GW := GW_at 104 (by decide +kernel) (by decide +kernel)
theorem lf_E_19 : Cond.fieldLink "FramedLine$Encoder" 19 "FramedLine$Encoder" "zeros" "I" ∈ GW := GW_at 105 (by decide +kernel) (by decide +kernel)
theorem lf_E_22 : Cond.fieldLink "FramedLine$Encoder" 22 "FramedLine$Encoder" "threeBehind" "I" ∈ GW := GW_at 106 (by decide +kernel) (by decide +kernel)
theorem lf_E_25 : Cond.fieldLink "FramedLine$Encoder" 25 "FramedLine$Encoder" "twoBehind" "I" ∈ GW := GW_at 107 (by decide +kernel) (by decide +kernel)
theorem lf_E_28 : Cond.fieldLink "FramedLine$Encoder" 28 "FramedLine$Encoder" "oneBehind" "I" ∈ GW := GW_at 108 (by decide +kernel) (by decide +kernel)
theorem lf_E_9 : Cond.fieldLink "FramedLine$Encoder" 9 "FramedLine$Encoder" "latestPulse" "I" ∈ GW := GW_at 103 (by decide +kernel) (by decide +kernel)
theorem lf_M_101 : Cond.fieldLink "FramedLineModel" 101 "FramedLineModel" "known" "[Z" ∈ GW := GW_at 666 (by decide +kernel) (by decide +kernel)
theorem lf_M_104 : Cond.fieldLink "FramedLineModel" 104 "FramedLineModel" "place" "[I" ∈ GW := GW_at 667 (by decide +kernel) (by decide +kernel)
theorem lf_M_107 : Cond.fieldLink "FramedLineModel" 107 "FramedLineModel" "firsts" "[I" ∈ GW := GW_at 668 (by decide +kernel) (by decide +kernel)
theorem lf_M_110 : Cond.fieldLink "FramedLineModel" 110 "FramedLineModel" "odds" "[I" ∈ GW := GW_at 669 (by decide +kernel) (by decide +kernel)
theorem lf_M_113 : Cond.fieldLink "FramedLineModel" 113 "FramedLineModel" "misses" "[I" ∈ GW := GW_at 670 (by decide +kernel) (by decide +kernel)
theorem lf_M_116 : Cond.fieldLink "FramedLineModel" 116 "FramedLineModel" "whole" "[Z" ∈ GW := GW_at 671 (by decide +kernel) (by decide +kernel)
theorem lf_M_119 : Cond.fieldLink "FramedLineModel" 119 "FramedLineModel" "sum" "[I" ∈ GW := GW_at 672 (by decide +kernel) (by decide +kernel)
theorem lf_M_122 : Cond.fieldLink "FramedLineModel" 122 "FramedLineModel" "told" "[I" ∈ GW := GW_at 673 (by decide +kernel) (by decide +kernel)
theorem lf_M_125 : Cond.fieldLink "FramedLineModel" 125 "FramedLineModel" "wholeBefore" "[Z" ∈ GW := GW_at 674 (by decide +kernel) (by decide +kernel)
theorem lf_M_128 : Cond.fieldLink "FramedLineModel" 128 "FramedLineModel" "sumBefore" "[I" ∈ GW := GW_at 675 (by decide +kernel) (by decide +kernel)
theorem lf_M_13 : Cond.fieldLink "FramedLineModel" 13 "FramedLineModel" "word" "[I" ∈ GW := GW_at 637 (by decide +kernel) (by decide +kernel)
theorem lf_M_131 : Cond.fieldLink "FramedLineModel" 131 "FramedLineModel" "foundWrong" "[Z" ∈ GW := GW_at 676 (by decide +kernel) (by decide +kernel)
theorem lf_M_134 : Cond.fieldLink "FramedLineModel" 134 "FramedLineModel" "counts" "[I" ∈ GW := GW_at 677 (by decide +kernel) (by decide +kernel)
theorem lf_M_137 : Cond.fieldLink "FramedLineModel" 137 "FramedLineModel" "code" "I" ∈ GW := GW_at 634 (by decide +kernel) (by decide +kernel)
theorem lf_M_156 : Cond.fieldLink "FramedLineModel" 156 "FramedLineModel" "now" "I" ∈ GW := GW_at 635 (by decide +kernel) (by decide +kernel)
theorem lf_M_16 : Cond.fieldLink "FramedLineModel" 16 "FramedLineModel" "number" "[I" ∈ GW := GW_at 638 (by decide +kernel) (by decide +kernel)
theorem lf_M_19 : Cond.fieldLink "FramedLineModel" 19 "FramedLineModel" "gone" "[I" ∈ GW := GW_at 639 (by decide +kernel) (by decide +kernel)
theorem lf_M_22 : Cond.fieldLink "FramedLineModel" 22 "FramedLineModel" "check" "[I" ∈ GW := GW_at 640 (by decide +kernel) (by decide +kernel)
theorem lf_M_25 : Cond.fieldLink "FramedLineModel" 25 "FramedLineModel" "before" "[I" ∈ GW := GW_at 641 (by decide +kernel) (by decide +kernel)
theorem lf_M_28 : Cond.fieldLink "FramedLineModel" 28 "FramedLineModel" "ahead" "[I" ∈ GW := GW_at 642 (by decide +kernel) (by decide +kernel)
theorem lf_M_31 : Cond.fieldLink "FramedLineModel" 31 "FramedLineModel" "group" "[I" ∈ GW := GW_at 643 (by decide +kernel) (by decide +kernel)
theorem lf_M_34 : Cond.fieldLink "FramedLineModel" 34 "FramedLineModel" "pulse" "[I" ∈ GW := GW_at 644 (by decide +kernel) (by decide +kernel)
theorem lf_M_37 : Cond.fieldLink "FramedLineModel" 37 "FramedLineModel" "odd" "[Z" ∈ GW := GW_at 645 (by decide +kernel) (by decide +kernel)
theorem lf_M_41 : Cond.fieldLink "FramedLineModel" 41 "FramedLineModel" "many" "[I" ∈ GW := GW_at 646 (by decide +kernel) (by decide +kernel)
theorem lf_M_44 : Cond.fieldLink "FramedLineModel" 44 "FramedLineModel" "when" "[I" ∈ GW := GW_at 647 (by decide +kernel) (by decide +kernel)
theorem lf_M_47 : Cond.fieldLink "FramedLineModel" 47 "FramedLineModel" "what" "[I" ∈ GW := GW_at 648 (by decide +kernel) (by decide +kernel)
theorem lf_M_50 : Cond.fieldLink "FramedLineModel" 50 "FramedLineModel" "slips" "[Z" ∈ GW := GW_at 649 (by decide +kernel) (by decide +kernel)
theorem lf_M_53 : Cond.fieldLink "FramedLineModel" 53 "FramedLineModel" "came" "[I" ∈ GW := GW_at 650 (by decide +kernel) (by decide +kernel)
theorem lf_M_56 : Cond.fieldLink "FramedLineModel" 56 "FramedLineModel" "latest" "[I" ∈ GW := GW_at 651 (by decide +kernel) (by decide +kernel)
theorem lf_M_59 : Cond.fieldLink "FramedLineModel" 59 "FramedLineModel" "back" "[I" ∈ GW := GW_at 652 (by decide +kernel) (by decide +kernel)
theorem lf_M_62 : Cond.fieldLink "FramedLineModel" 62 "FramedLineModel" "wasV" "[Z" ∈ GW := GW_at 653 (by decide +kernel) (by decide +kernel)
theorem lf_M_65 : Cond.fieldLink "FramedLineModel" 65 "FramedLineModel" "heard" "[I" ∈ GW := GW_at 654 (by decide +kernel) (by decide +kernel)
theorem lf_M_68 : Cond.fieldLink "FramedLineModel" 68 "FramedLineModel" "lastV" "[I" ∈ GW := GW_at 655 (by decide +kernel) (by decide +kernel)
theorem lf_M_7 : Cond.fieldLink "FramedLineModel" 7 "FramedLineModel" "loaded" "[I" ∈ GW := GW_at 636 (by decide +kernel) (by decide +kernel)
theorem lf_M_71 : Cond.fieldLink "FramedLineModel" 71 "FramedLineModel" "zeros" "[I" ∈ GW := GW_at 656 (by decide +kernel) (by decide +kernel)
theorem lf_M_74 : Cond.fieldLink "FramedLineModel" 74 "FramedLineModel" "mode" "[I" ∈ GW := GW_at 657 (by decide +kernel) (by decide +kernel)
theorem lf_M_77 : Cond.fieldLink "FramedLineModel" 77 "FramedLineModel" "since" "[I" ∈ GW := GW_at 658 (by decide +kernel) (by decide +kernel)
theorem lf_M_80 : Cond.fieldLink "FramedLineModel" 80 "FramedLineModel" "bits" "[I" ∈ GW := GW_at 659 (by decide +kernel) (by decide +kernel)
theorem lf_M_83 : Cond.fieldLink "FramedLineModel" 83 "FramedLineModel" "at" "[I" ∈ GW := GW_at 660 (by decide +kernel) (by decide +kernel)
theorem lf_M_86 : Cond.fieldLink "FramedLineModel" 86 "FramedLineModel" "even" "[Z" ∈ GW := GW_at 661 (by decide +kernel) (by decide +kernel)
theorem lf_M_89 : Cond.fieldLink "FramedLineModel" 89 "FramedLineModel" "wrongs" "[I" ∈ GW := GW_at 662 (by decide +kernel) (by decide +kernel)
theorem lf_M_92 : Cond.fieldLink "FramedLineModel" 92 "FramedLineModel" "any" "[Z" ∈ GW := GW_at 663 (by decide +kernel) (by decide +kernel)
theorem lf_M_95 : Cond.fieldLink "FramedLineModel" 95 "FramedLineModel" "frame" "[I" ∈ GW := GW_at 664 (by decide +kernel) (by decide +kernel)
theorem lf_M_98 : Cond.fieldLink "FramedLineModel" 98 "FramedLineModel" "alarms" "[Z" ∈ GW := GW_at 665 (by decide +kernel) (by decide +kernel)
theorem lf_N_12 : Cond.fieldLink "FramedLine$End" 12 "FramedLine$End" "sender" "LFramedLine$Sender;" ∈ GW := GW_at 267 (by decide +kernel) (by decide +kernel)
theorem lf_N_21 : Cond.fieldLink "FramedLine$End" 21 "FramedLine$End" "encoder" "LFramedLine$Encoder;" ∈ GW := GW_at 269 (by decide +kernel) (by decide +kernel)
theorem lf_N_28 : Cond.fieldLink "FramedLine$End" 28 "FramedLine$End" "arrivals" "LFramedLine$Arrivals;" ∈ GW := GW_at 270 (by decide +kernel) (by decide +kernel)
theorem lf_N_35 : Cond.fieldLink "FramedLine$End" 35 "FramedLine$End" "decoder" "LFramedLine$Decoder;" ∈ GW := GW_at 272 (by decide +kernel) (by decide +kernel)
theorem lf_N_42 : Cond.fieldLink "FramedLine$End" 42 "FramedLine$End" "receiver" "LFramedLine$Receiver;" ∈ GW := GW_at 274 (by decide +kernel) (by decide +kernel)
theorem lf_O_15 : Cond.fieldLink "FramedLine$Rounds" 15 "FramedLine$Rounds" "oddFrames" "I" ∈ GW := GW_at 186 (by decide +kernel) (by decide +kernel)
theorem lf_O_18 : Cond.fieldLink "FramedLine$Rounds" 18 "FramedLine$Rounds" "firstBitsOfOdd" "I" ∈ GW := GW_at 187 (by decide +kernel) (by decide +kernel)
theorem lf_O_21 : Cond.fieldLink "FramedLine$Rounds" 21 "FramedLine$Rounds" "wrongRounds" "I" ∈ GW := GW_at 188 (by decide +kernel) (by decide +kernel)
theorem lf_O_24 : Cond.fieldLink "FramedLine$Rounds" 24 "FramedLine$Rounds" "halfBegunKnown" "Z" ∈ GW := GW_at 189 (by decide +kernel) (by decide +kernel)
theorem lf_O_28 : Cond.fieldLink "FramedLine$Rounds" 28 "FramedLine$Rounds" "halfBeforeKnown" "Z" ∈ GW := GW_at 190 (by decide +kernel) (by decide +kernel)
theorem lf_O_31 : Cond.fieldLink "FramedLine$Rounds" 31 "FramedLine$Rounds" "check" "I" ∈ GW := GW_at 191 (by decide +kernel) (by decide +kernel)
theorem lf_O_34 : Cond.fieldLink "FramedLine$Rounds" 34 "FramedLine$Rounds" "checkOfHalfBefore" "I" ∈ GW := GW_at 192 (by decide +kernel) (by decide +kernel)
theorem lf_O_37 : Cond.fieldLink "FramedLine$Rounds" 37 "FramedLine$Rounds" "checkCome" "I" ∈ GW := GW_at 193 (by decide +kernel) (by decide +kernel)
theorem lf_O_40 : Cond.fieldLink "FramedLine$Rounds" 40 "FramedLine$Rounds" "firstHalfWrong" "Z" ∈ GW := GW_at 194 (by decide +kernel) (by decide +kernel)
theorem lf_O_43 : Cond.fieldLink "FramedLine$Rounds" 43 "FramedLine$Rounds" "secondHalfWrong" "Z" ∈ GW := GW_at 196 (by decide +kernel) (by decide +kernel)
theorem lf_O_46 : Cond.fieldLink "FramedLine$Rounds" 46 "FramedLine$Rounds" "wrongHalves" "I" ∈ GW := GW_at 198 (by decide +kernel) (by decide +kernel)
theorem lf_O_49 : Cond.fieldLink "FramedLine$Rounds" 49 "FramedLine$Rounds" "farFaults" "I" ∈ GW := GW_at 200 (by decide +kernel) (by decide +kernel)
theorem lf_O_9 : Cond.fieldLink "FramedLine$Rounds" 9 "FramedLine$Rounds" "number" "I" ∈ GW := GW_at 184 (by decide +kernel) (by decide +kernel)
theorem lf_R_12 : Cond.fieldLink "FramedLine$Receiver" 12 "FramedLine$Receiver" "rounds" "LFramedLine$Rounds;" ∈ GW := GW_at 231 (by decide +kernel) (by decide +kernel)
theorem lf_R_18 : Cond.fieldLink "FramedLine$Receiver" 18 "FramedLine$State" "SEARCHING" "LFramedLine$State;" ∈ GW := GW_at 229 (by decide +kernel) (by decide +kernel)
theorem lf_R_24 : Cond.fieldLink "FramedLine$Receiver" 24 "FramedLine$Receiver" "state" "LFramedLine$State;" ∈ GW := GW_at 234 (by decide +kernel) (by decide +kernel)
theorem lf_R_27 : Cond.fieldLink "FramedLine$Receiver" 27 "FramedLine$Receiver" "latestBits" "I" ∈ GW := GW_at 235 (by decide +kernel) (by decide +kernel)
theorem lf_R_31 : Cond.fieldLink "FramedLine$Receiver" 31 "FramedLine$Receiver" "bits" "I" ∈ GW := GW_at 236 (by decide +kernel) (by decide +kernel)
theorem lf_R_34 : Cond.fieldLink "FramedLine$Receiver" 34 "FramedLine$Receiver" "odd" "Z" ∈ GW := GW_at 237 (by decide +kernel) (by decide +kernel)
theorem lf_R_38 : Cond.fieldLink "FramedLine$Receiver" 38 "FramedLine$Receiver" "wrongWords" "I" ∈ GW := GW_at 238 (by decide +kernel) (by decide +kernel)
theorem lf_R_41 : Cond.fieldLink "FramedLine$Receiver" 41 "FramedLine$Receiver" "latestFrame" "I" ∈ GW := GW_at 239 (by decide +kernel) (by decide +kernel)
theorem lf_R_44 : Cond.fieldLink "FramedLine$Receiver" 44 "FramedLine$Receiver" "completeFrames" "I" ∈ GW := GW_at 240 (by decide +kernel) (by decide +kernel)
theorem lf_R_47 : Cond.fieldLink "FramedLine$Receiver" 47 "FramedLine$Receiver" "losses" "I" ∈ GW := GW_at 242 (by decide +kernel) (by decide +kernel)
theorem lf_R_50 : Cond.fieldLink "FramedLine$Receiver" 50 "FramedLine$Receiver" "alarmCame" "Z" ∈ GW := GW_at 244 (by decide +kernel) (by decide +kernel)
theorem lf_R_53 : Cond.fieldLink "FramedLine$Receiver" 53 "FramedLine$State" "ALIGNED" "LFramedLine$State;" ∈ GW := GW_at 453 (by decide +kernel) (by decide +kernel)
theorem lf_R_59 : Cond.fieldLink "FramedLine$Receiver" 59 "FramedLine$State" "TRYING" "LFramedLine$State;" ∈ GW := GW_at 526 (by decide +kernel) (by decide +kernel)
theorem lf_S_15 : Cond.fieldLink "FramedLine$Sender" 15 "FramedLine$Sender" "next" "I" ∈ GW := GW_at 78 (by decide +kernel) (by decide +kernel)
theorem lf_S_19 : Cond.fieldLink "FramedLine$Sender" 19 "FramedLine$Sender" "frameBits" "I" ∈ GW := GW_at 79 (by decide +kernel) (by decide +kernel)
theorem lf_S_22 : Cond.fieldLink "FramedLine$Sender" 22 "FramedLine$Sender" "bitsSent" "I" ∈ GW := GW_at 80 (by decide +kernel) (by decide +kernel)
theorem lf_S_25 : Cond.fieldLink "FramedLine$Sender" 25 "FramedLine$Sender" "check" "I" ∈ GW := GW_at 81 (by decide +kernel) (by decide +kernel)
theorem lf_S_28 : Cond.fieldLink "FramedLine$Sender" 28 "FramedLine$Sender" "checkOfHalfBefore" "I" ∈ GW := GW_at 82 (by decide +kernel) (by decide +kernel)
theorem lf_S_54 : Cond.fieldLinkNest "FramedLine$Sender" 54 "FramedLine$Receiver" "rounds" "LFramedLine$Rounds;" "FramedLine" ∈ NW := NW_at 232 (by decide +kernel) (by decide +kernel)
theorem lf_S_62 : Cond.fieldLinkNest "FramedLine$Sender" 62 "FramedLine$Rounds" "firstHalfWrong" "Z" "FramedLine" ∈ NW := NW_at 195 (by decide +kernel) (by decide +kernel)
theorem lf_S_68 : Cond.fieldLinkNest "FramedLine$Sender" 68 "FramedLine$Rounds" "secondHalfWrong" "Z" "FramedLine" ∈ NW := NW_at 197 (by decide +kernel) (by decide +kernel)
theorem lf_S_9 : Cond.fieldLink "FramedLine$Sender" 9 "FramedLine$Sender" "loaded" "[I" ∈ GW := GW_at 77 (by decide +kernel) (by decide +kernel)
theorem mc_A_placeOf : Cond.code y_A_placeOf b_A_placeOf 3 (some .int) ∈ GW ∧ Cond.initialized (y_A_placeOf).cls ∈ GW ∧ ((y_A_placeOf).cls ≠ "java/lang/invoke/MethodHandle" ∧ (y_A_placeOf).cls ≠ "java/lang/invoke/VarHandle" ∧ (parseMethodDescriptor (y_A_placeOf).desc).map (fun d => d.parameters.length) = some 1) := ⟨GW_at 398 (by decide +kernel) (by decide +kernel), GW_at 45 (by decide +kernel) (by decide +kernel), by decide +kernel⟩
theorem lm_A_26 : gLV "FramedLine$Arrivals" "FramedLine$Arrivals" 26 y_A_placeOf b_A_placeOf 3 (some .int) 1 := ⟨mc_A_placeOf, GW_at 395 (by decide +kernel) (by decide +kernel), GW_at 397 (by decide +kernel) (by decide +kernel), GW_at 2 (by decide +kernel) (by decide +kernel)⟩
theorem mc_D_takeZero : Cond.code y_D_takeZero b_D_takeZero 1 none ∈ GW ∧ Cond.initialized (y_D_takeZero).cls ∈ GW ∧ ((y_D_takeZero).cls ≠ "java/lang/invoke/MethodHandle" ∧ (y_D_takeZero).cls ≠ "java/lang/invoke/VarHandle" ∧ (parseMethodDescriptor (y_D_takeZero).desc).map (fun d => d.parameters.length) = some 0) := ⟨GW_at 505 (by decide +kernel) (by decide +kernel), GW_at 46 (by decide +kernel) (by decide +kernel), by decide +kernel⟩
theorem lm_D_33 : gLV "FramedLine$Decoder" "FramedLine$Decoder" 33 y_D_takeZero b_D_takeZero 1 none 0 := ⟨mc_D_takeZero, GW_at 502 (by decide +kernel) (by decide +kernel), GW_at 504 (by decide +kernel) (by decide +kernel), GW_at 8 (by decide +kernel) (by decide +kernel)⟩
theorem mc_D_takePulse : Cond.code y_D_takePulse b_D_takePulse 3 none ∈ GW ∧ Cond.initialized (y_D_takePulse).cls ∈ GW ∧ ((y_D_takePulse).cls ≠ "java/lang/invoke/MethodHandle" ∧ (y_D_takePulse).cls ≠ "java/lang/invoke/VarHandle" ∧ (parseMethodDescriptor (y_D_takePulse).desc).map (fun d => d.parameters.length) = some 1) := ⟨GW_at 509 (by decide +kernel) (by decide +kernel), GW_at 46 (by decide +kernel) (by decide +kernel), by decide +kernel⟩
theorem lm_D_36 : gLV "FramedLine$Decoder" "FramedLine$Decoder" 36 y_D_takePulse b_D_takePulse 3 none 1 := ⟨mc_D_takePulse, GW_at 506 (by decide +kernel) (by decide +kernel), GW_at 508 (by decide +kernel) (by decide +kernel), GW_at 9 (by decide +kernel) (by decide +kernel)⟩
theorem mc_D_takeV : Cond.code y_D_takeV b_D_takeV 2 none ∈ GW ∧ Cond.initialized (y_D_takeV).cls ∈ GW ∧ ((y_D_takeV).cls ≠ "java/lang/invoke/MethodHandle" ∧ (y_D_takeV).cls ≠ "java/lang/invoke/VarHandle" ∧ (parseMethodDescriptor (y_D_takeV).desc).map (fun d => d.parameters.length) = some 1) := ⟨GW_at 513 (by decide +kernel) (by decide +kernel), GW_at 46 (by decide +kernel) (by decide +kernel), by decide +kernel⟩
theorem lm_D_40 : gLV "FramedLine$Decoder" "FramedLine$Decoder" 40 y_D_takeV b_D_takeV 2 none 1 := ⟨mc_D_takeV, GW_at 510 (by decide +kernel) (by decide +kernel), GW_at 512 (by decide +kernel) (by decide +kernel), GW_at 10 (by decide +kernel) (by decide +kernel)⟩
theorem mc_E_pulseOfOne : Cond.code y_E_pulseOfOne b_E_pulseOfOne 1 (some .int) ∈ GW ∧ Cond.initialized (y_E_pulseOfOne).cls ∈ GW ∧ ((y_E_pulseOfOne).cls ≠ "java/lang/invoke/MethodHandle" ∧ (y_E_pulseOfOne).cls ≠ "java/lang/invoke/VarHandle" ∧ (parseMethodDescriptor (y_E_pulseOfOne).desc).map (fun d => d.parameters.length) = some 0) := ⟨GW_at 481 (by decide +kernel) (by decide +kernel), GW_at 44 (by decide +kernel) (by decide +kernel), by decide +kernel⟩
theorem lm_E_31 : gLV "FramedLine$Encoder" "FramedLine$Encoder" 31 y_E_pulseOfOne b_E_pulseOfOne 1 (some .int) 0 := ⟨mc_E_pulseOfOne, GW_at 478 (by decide +kernel) (by decide +kernel), GW_at 480 (by decide +kernel) (by decide +kernel), GW_at 6 (by decide +kernel) (by decide +kernel)⟩
theorem mc_E_symbolOfZero : Cond.code y_E_symbolOfZero b_E_symbolOfZero 1 (some .int) ∈ GW ∧ Cond.initialized (y_E_symbolOfZero).cls ∈ GW ∧ ((y_E_symbolOfZero).cls ≠ "java/lang/invoke/MethodHandle" ∧ (y_E_symbolOfZero).cls ≠ "java/lang/invoke/VarHandle" ∧ (parseMethodDescriptor (y_E_symbolOfZero).desc).map (fun d => d.parameters.length) = some 0) := ⟨GW_at 485 (by decide +kernel) (by decide +kernel), GW_at 44 (by decide +kernel) (by decide +kernel), by decide +kernel⟩
theorem lm_E_35 : gLV "FramedLine$Encoder" "FramedLine$Encoder" 35 y_E_symbolOfZero b_E_symbolOfZero 1 (some .int) 0 := ⟨mc_E_symbolOfZero, GW_at 482 (by decide +kernel) (by decide +kernel), GW_at 484 (by decide +kernel) (by decide +kernel), GW_at 7 (by decide +kernel) (by decide +kernel)⟩
theorem mc_M_mark : Cond.code y_M_mark b_M_mark 3 (some .int) ∈ GW ∧ Cond.initialized (y_M_mark).cls ∈ GW ∧ ((y_M_mark).cls ≠ "java/lang/invoke/MethodHandle" ∧ (y_M_mark).cls ≠ "java/lang/invoke/VarHandle" ∧ (parseMethodDescriptor (y_M_mark).desc).map (fun d => d.parameters.length) = some 2) := ⟨GW_at 813 (by decide +kernel) (by decide +kernel), GW_at 51 (by decide +kernel) (by decide +kernel), by decide +kernel⟩
theorem lm_M_141 : gLV "FramedLineModel" "FramedLineModel" 141 y_M_mark b_M_mark 3 (some .int) 2 := ⟨mc_M_mark, GW_at 810 (by decide +kernel) (by decide +kernel), GW_at 812 (by decide +kernel) (by decide +kernel), GW_at 27 (by decide +kernel) (by decide +kernel)⟩
theorem mc_M_beginFrame : Cond.code y_M_beginFrame b_M_beginFrame 4 none ∈ GW ∧ Cond.initialized (y_M_beginFrame).cls ∈ GW ∧ ((y_M_beginFrame).cls ≠ "java/lang/invoke/MethodHandle" ∧ (y_M_beginFrame).cls ≠ "java/lang/invoke/VarHandle" ∧ (parseMethodDescriptor (y_M_beginFrame).desc).map (fun d => d.parameters.length) = some 1) := ⟨GW_at 809 (by decide +kernel) (by decide +kernel), GW_at 51 (by decide +kernel) (by decide +kernel), by decide +kernel⟩
theorem lm_M_145 : gLV "FramedLineModel" "FramedLineModel" 145 y_M_beginFrame b_M_beginFrame 4 none 1 := ⟨mc_M_beginFrame, GW_at 806 (by decide +kernel) (by decide +kernel), GW_at 808 (by decide +kernel) (by decide +kernel), GW_at 26 (by decide +kernel) (by decide +kernel)⟩
theorem mc_M_with : Cond.code y_M_with b_M_with 4 (some .int) ∈ GW ∧ Cond.initialized (y_M_with).cls ∈ GW ∧ ((y_M_with).cls ≠ "java/lang/invoke/MethodHandle" ∧ (y_M_with).cls ≠ "java/lang/invoke/VarHandle" ∧ (parseMethodDescriptor (y_M_with).desc).map (fun d => d.parameters.length) = some 2) := ⟨GW_at 816 (by decide +kernel) (by decide +kernel), GW_at 51 (by decide +kernel) (by decide +kernel), by decide +kernel⟩
theorem lm_M_149 : gLS "FramedLineModel" 149 y_M_with b_M_with 4 (some .int) 2 := ⟨mc_M_with, GW_at 814 (by decide +kernel) (by decide +kernel), GW_at 815 (by decide +kernel) (by decide +kernel)⟩
theorem mc_M_nextBit : Cond.code y_M_nextBit b_M_nextBit 3 (some .int) ∈ GW ∧ Cond.initialized (y_M_nextBit).cls ∈ GW ∧ ((y_M_nextBit).cls ≠ "java/lang/invoke/MethodHandle" ∧ (y_M_nextBit).cls ≠ "java/lang/invoke/VarHandle" ∧ (parseMethodDescriptor (y_M_nextBit).desc).map (fun d => d.parameters.length) = some 1) := ⟨GW_at 805 (by decide +kernel) (by decide +kernel), GW_at 51 (by decide +kernel) (by decide +kernel), by decide +kernel⟩
theorem lm_M_152 : gLV "FramedLineModel" "FramedLineModel" 152 y_M_nextBit b_M_nextBit 3 (some .int) 1 := ⟨mc_M_nextBit, GW_at 802 (by decide +kernel) (by decide +kernel), GW_at 804 (by decide +kernel) (by decide +kernel), GW_at 25 (by decide +kernel) (by decide +kernel)⟩
theorem mc_M_turned : Cond.code y_M_turned b_M_turned 2 (some .int) ∈ GW ∧ Cond.initialized (y_M_turned).cls ∈ GW ∧ ((y_M_turned).cls ≠ "java/lang/invoke/MethodHandle" ∧ (y_M_turned).cls ≠ "java/lang/invoke/VarHandle" ∧ (parseMethodDescriptor (y_M_turned).desc).map (fun d => d.parameters.length) = some 1) := ⟨GW_at 820 (by decide +kernel) (by decide +kernel), GW_at 51 (by decide +kernel) (by decide +kernel), by decide +kernel⟩
theorem lm_M_159 : gLV "FramedLineModel" "FramedLineModel" 159 y_M_turned b_M_turned 2 (some .int) 1 := ⟨mc_M_turned, GW_at 817 (by decide +kernel) (by decide +kernel), GW_at 819 (by decide +kernel) (by decide +kernel), GW_at 28 (by decide +kernel) (by decide +kernel)⟩
theorem mc_M_said : Cond.code y_M_said b_M_said 5 (some .int) ∈ GW ∧ Cond.initialized (y_M_said).cls ∈ GW ∧ ((y_M_said).cls ≠ "java/lang/invoke/MethodHandle" ∧ (y_M_said).cls ≠ "java/lang/invoke/VarHandle" ∧ (parseMethodDescriptor (y_M_said).desc).map (fun d => d.parameters.length) = some 2) := ⟨GW_at 789 (by decide +kernel) (by decide +kernel), GW_at 51 (by decide +kernel) (by decide +kernel), by decide +kernel⟩
theorem lm_M_162 : gLV "FramedLineModel" "FramedLineModel" 162 y_M_said b_M_said 5 (some .int) 2 := ⟨mc_M_said, GW_at 786 (by decide +kernel) (by decide +kernel), GW_at 788 (by decide +kernel) (by decide +kernel), GW_at 23 (by decide +kernel) (by decide +kernel)⟩
theorem mc_M_fault : Cond.code y_M_fault b_M_fault 4 none ∈ GW ∧ Cond.initialized (y_M_fault).cls ∈ GW ∧ ((y_M_fault).cls ≠ "java/lang/invoke/MethodHandle" ∧ (y_M_fault).cls ≠ "java/lang/invoke/VarHandle" ∧ (parseMethodDescriptor (y_M_fault).desc).map (fun d => d.parameters.length) = some 3) := ⟨GW_at 836 (by decide +kernel) (by decide +kernel), GW_at 51 (by decide +kernel) (by decide +kernel), by decide +kernel⟩
theorem lm_M_165 : gLV "FramedLineModel" "FramedLineModel" 165 y_M_fault b_M_fault 4 none 3 := ⟨mc_M_fault, GW_at 833 (by decide +kernel) (by decide +kernel), GW_at 835 (by decide +kernel) (by decide +kernel), GW_at 32 (by decide +kernel) (by decide +kernel)⟩
theorem mc_M_make : Cond.code y_M_make b_M_make 3 none ∈ GW ∧ Cond.initialized (y_M_make).cls ∈ GW ∧ ((y_M_make).cls ≠ "java/lang/invoke/MethodHandle" ∧ (y_M_make).cls ≠ "java/lang/invoke/VarHandle" ∧ (parseMethodDescriptor (y_M_make).desc).map (fun d => d.parameters.length) = some 2) := ⟨GW_at 840 (by decide +kernel) (by decide +kernel), GW_at 51 (by decide +kernel) (by decide +kernel), by decide +kernel⟩
theorem lm_M_169 : gLV "FramedLineModel" "FramedLineModel" 169 y_M_make b_M_make 3 none 2 := ⟨mc_M_make, GW_at 837 (by decide +kernel) (by decide +kernel), GW_at 839 (by decide +kernel) (by decide +kernel), GW_at 33 (by decide +kernel) (by decide +kernel)⟩
theorem mc_M_forget : Cond.code y_M_forget b_M_forget 2 none ∈ GW ∧ Cond.initialized (y_M_forget).cls ∈ GW ∧ ((y_M_forget).cls ≠ "java/lang/invoke/MethodHandle" ∧ (y_M_forget).cls ≠ "java/lang/invoke/VarHandle" ∧ (parseMethodDescriptor (y_M_forget).desc).map (fun d => d.parameters.length) = some 1) := ⟨GW_at 856 (by decide +kernel) (by decide +kernel), GW_at 51 (by decide +kernel) (by decide +kernel), by decide +kernel⟩
theorem lm_M_173 : gLV "FramedLineModel" "FramedLineModel" 173 y_M_forget b_M_forget 2 none 1 := ⟨mc_M_forget, GW_at 853 (by decide +kernel) (by decide +kernel), GW_at 855 (by decide +kernel) (by decide +kernel), GW_at 37 (by decide +kernel) (by decide +kernel)⟩
theorem mc_M_frameBit : Cond.code y_M_frameBit b_M_frameBit 2 none ∈ GW ∧ Cond.initialized (y_M_frameBit).cls ∈ GW ∧ ((y_M_frameBit).cls ≠ "java/lang/invoke/MethodHandle" ∧ (y_M_frameBit).cls ≠ "java/lang/invoke/VarHandle" ∧ (parseMethodDescriptor (y_M_frameBit).desc).map (fun d => d.parameters.length) = some 1) := ⟨GW_at 844 (by decide +kernel) (by decide +kernel), GW_at 51 (by decide +kernel) (by decide +kernel), by decide +kernel⟩
theorem lm_M_176 : gLV "FramedLineModel" "FramedLineModel" 176 y_M_frameBit b_M_frameBit 2 none 1 := ⟨mc_M_frameBit, GW_at 841 (by decide +kernel) (by decide +kernel), GW_at 843 (by decide +kernel) (by decide +kernel), GW_at 34 (by decide +kernel) (by decide +kernel)⟩
theorem mc_M_isWord : Cond.code y_M_isWord b_M_isWord 2 (some .boolean) ∈ GW ∧ Cond.initialized (y_M_isWord).cls ∈ GW ∧ ((y_M_isWord).cls ≠ "java/lang/invoke/MethodHandle" ∧ (y_M_isWord).cls ≠ "java/lang/invoke/VarHandle" ∧ (parseMethodDescriptor (y_M_isWord).desc).map (fun d => d.parameters.length) = some 1) := ⟨GW_at 848 (by decide +kernel) (by decide +kernel), GW_at 51 (by decide +kernel) (by decide +kernel), by decide +kernel⟩
theorem lm_M_179 : gLV "FramedLineModel" "FramedLineModel" 179 y_M_isWord b_M_isWord 2 (some .boolean) 1 := ⟨mc_M_isWord, GW_at 845 (by decide +kernel) (by decide +kernel), GW_at 847 (by decide +kernel) (by decide +kernel), GW_at 35 (by decide +kernel) (by decide +kernel)⟩
theorem mc_M_search : Cond.code y_M_search b_M_search 2 none ∈ GW ∧ Cond.initialized (y_M_search).cls ∈ GW ∧ ((y_M_search).cls ≠ "java/lang/invoke/MethodHandle" ∧ (y_M_search).cls ≠ "java/lang/invoke/VarHandle" ∧ (parseMethodDescriptor (y_M_search).desc).map (fun d => d.parameters.length) = some 1) := ⟨GW_at 852 (by decide +kernel) (by decide +kernel), GW_at 51 (by decide +kernel) (by decide +kernel), by decide +kernel⟩
theorem lm_M_183 : gLV "FramedLineModel" "FramedLineModel" 183 y_M_search b_M_search 2 none 1 := ⟨mc_M_search, GW_at 849 (by decide +kernel) (by decide +kernel), GW_at 851 (by decide +kernel) (by decide +kernel), GW_at 36 (by decide +kernel) (by decide +kernel)⟩
theorem mc_M_complete : Cond.code y_M_complete b_M_complete 5 none ∈ GW ∧ Cond.initialized (y_M_complete).cls ∈ GW ∧ ((y_M_complete).cls ≠ "java/lang/invoke/MethodHandle" ∧ (y_M_complete).cls ≠ "java/lang/invoke/VarHandle" ∧ (parseMethodDescriptor (y_M_complete).desc).map (fun d => d.parameters.length) = some 1) := ⟨GW_at 860 (by decide +kernel) (by decide +kernel), GW_at 51 (by decide +kernel) (by decide +kernel), by decide +kernel⟩
theorem lm_M_186 : gLV "FramedLineModel" "FramedLineModel" 186 y_M_complete b_M_complete 5 none 1 := ⟨mc_M_complete, GW_at 857 (by decide +kernel) (by decide +kernel), GW_at 859 (by decide +kernel) (by decide +kernel), GW_at 38 (by decide +kernel) (by decide +kernel)⟩
theorem mc_M_halves : Cond.code y_M_halves b_M_halves 5 none ∈ GW ∧ Cond.initialized (y_M_halves).cls ∈ GW ∧ ((y_M_halves).cls ≠ "java/lang/invoke/MethodHandle" ∧ (y_M_halves).cls ≠ "java/lang/invoke/VarHandle" ∧ (parseMethodDescriptor (y_M_halves).desc).map (fun d => d.parameters.length) = some 3) := ⟨GW_at 864 (by decide +kernel) (by decide +kernel), GW_at 51 (by decide +kernel) (by decide +kernel), by decide +kernel⟩
theorem lm_M_189 : gLV "FramedLineModel" "FramedLineModel" 189 y_M_halves b_M_halves 5 none 3 := ⟨mc_M_halves, GW_at 861 (by decide +kernel) (by decide +kernel), GW_at 863 (by decide +kernel) (by decide +kernel), GW_at 39 (by decide +kernel) (by decide +kernel)⟩
theorem mc_M_coming : Cond.code y_M_coming b_M_coming 5 (some .int) ∈ GW ∧ Cond.initialized (y_M_coming).cls ∈ GW ∧ ((y_M_coming).cls ≠ "java/lang/invoke/MethodHandle" ∧ (y_M_coming).cls ≠ "java/lang/invoke/VarHandle" ∧ (parseMethodDescriptor (y_M_coming).desc).map (fun d => d.parameters.length) = some 2) := ⟨GW_at 828 (by decide +kernel) (by decide +kernel), GW_at 51 (by decide +kernel) (by decide +kernel), by decide +kernel⟩
theorem lm_M_206 : gLV "FramedLineModel" "FramedLineModel" 206 y_M_coming b_M_coming 5 (some .int) 2 := ⟨mc_M_coming, GW_at 825 (by decide +kernel) (by decide +kernel), GW_at 827 (by decide +kernel) (by decide +kernel), GW_at 30 (by decide +kernel) (by decide +kernel)⟩
theorem mc_M_take : Cond.code y_M_take b_M_take 8 none ∈ GW ∧ Cond.initialized (y_M_take).cls ∈ GW ∧ ((y_M_take).cls ≠ "java/lang/invoke/MethodHandle" ∧ (y_M_take).cls ≠ "java/lang/invoke/VarHandle" ∧ (parseMethodDescriptor (y_M_take).desc).map (fun d => d.parameters.length) = some 2) := ⟨GW_at 832 (by decide +kernel) (by decide +kernel), GW_at 51 (by decide +kernel) (by decide +kernel), by decide +kernel⟩
theorem lm_M_209 : gLV "FramedLineModel" "FramedLineModel" 209 y_M_take b_M_take 8 none 2 := ⟨mc_M_take, GW_at 829 (by decide +kernel) (by decide +kernel), GW_at 831 (by decide +kernel) (by decide +kernel), GW_at 31 (by decide +kernel) (by decide +kernel)⟩
theorem mc_S_isBetweenFrames : Cond.code y_S_isBetweenFrames b_S_isBetweenFrames 1 (some .boolean) ∈ GW ∧ Cond.initialized (y_S_isBetweenFrames).cls ∈ GW ∧ ((y_S_isBetweenFrames).cls ≠ "java/lang/invoke/MethodHandle" ∧ (y_S_isBetweenFrames).cls ≠ "java/lang/invoke/VarHandle" ∧ (parseMethodDescriptor (y_S_isBetweenFrames).desc).map (fun d => d.parameters.length) = some 0) := ⟨GW_at 440 (by decide +kernel) (by decide +kernel), GW_at 43 (by decide +kernel) (by decide +kernel), by decide +kernel⟩
theorem lm_N_46 : gLV "FramedLine$End" "FramedLine$Sender" 46 y_S_isBetweenFrames b_S_isBetweenFrames 1 (some .boolean) 0 := ⟨mc_S_isBetweenFrames, GW_at 437 (by decide +kernel) (by decide +kernel), GW_at 438 (by decide +kernel) (by decide +kernel), GW_at 439 (by decide +kernel) (by decide +kernel)⟩
theorem mc_S_beginFrame : Cond.code y_S_beginFrame b_S_beginFrame 4 none ∈ GW ∧ Cond.initialized (y_S_beginFrame).cls ∈ GW ∧ ((y_S_beginFrame).cls ≠ "java/lang/invoke/MethodHandle" ∧ (y_S_beginFrame).cls ≠ "java/lang/invoke/VarHandle" ∧ (parseMethodDescriptor (y_S_beginFrame).desc).map (fun d => d.parameters.length) = some 1) := ⟨GW_at 444 (by decide +kernel) (by decide +kernel), GW_at 43 (by decide +kernel) (by decide +kernel), by decide +kernel⟩
theorem lm_N_50 : gLV "FramedLine$End" "FramedLine$Sender" 50 y_S_beginFrame b_S_beginFrame 4 none 1 := ⟨mc_S_beginFrame, GW_at 441 (by decide +kernel) (by decide +kernel), GW_at 442 (by decide +kernel) (by decide +kernel), GW_at 443 (by decide +kernel) (by decide +kernel)⟩
theorem mc_S_nextBit : Cond.code y_S_nextBit b_S_nextBit 1 (some .int) ∈ GW ∧ Cond.initialized (y_S_nextBit).cls ∈ GW ∧ ((y_S_nextBit).cls ≠ "java/lang/invoke/MethodHandle" ∧ (y_S_nextBit).cls ≠ "java/lang/invoke/VarHandle" ∧ (parseMethodDescriptor (y_S_nextBit).desc).map (fun d => d.parameters.length) = some 0) := ⟨GW_at 473 (by decide +kernel) (by decide +kernel), GW_at 43 (by decide +kernel) (by decide +kernel), by decide +kernel⟩
theorem lm_N_54 : gLV "FramedLine$End" "FramedLine$Sender" 54 y_S_nextBit b_S_nextBit 1 (some .int) 0 := ⟨mc_S_nextBit, GW_at 470 (by decide +kernel) (by decide +kernel), GW_at 471 (by decide +kernel) (by decide +kernel), GW_at 472 (by decide +kernel) (by decide +kernel)⟩
theorem mc_E_symbolBehind : Cond.code y_E_symbolBehind b_E_symbolBehind 4 (some .int) ∈ GW ∧ Cond.initialized (y_E_symbolBehind).cls ∈ GW ∧ ((y_E_symbolBehind).cls ≠ "java/lang/invoke/MethodHandle" ∧ (y_E_symbolBehind).cls ≠ "java/lang/invoke/VarHandle" ∧ (parseMethodDescriptor (y_E_symbolBehind).desc).map (fun d => d.parameters.length) = some 1) := ⟨GW_at 477 (by decide +kernel) (by decide +kernel), GW_at 44 (by decide +kernel) (by decide +kernel), by decide +kernel⟩
theorem lm_N_58 : gLV "FramedLine$End" "FramedLine$Encoder" 58 y_E_symbolBehind b_E_symbolBehind 4 (some .int) 1 := ⟨mc_E_symbolBehind, GW_at 474 (by decide +kernel) (by decide +kernel), GW_at 475 (by decide +kernel) (by decide +kernel), GW_at 476 (by decide +kernel) (by decide +kernel)⟩
theorem mc_A_asItComes : Cond.code y_A_asItComes b_A_asItComes 5 (some .int) ∈ GW ∧ Cond.initialized (y_A_asItComes).cls ∈ GW ∧ ((y_A_asItComes).cls ≠ "java/lang/invoke/MethodHandle" ∧ (y_A_asItComes).cls ≠ "java/lang/invoke/VarHandle" ∧ (parseMethodDescriptor (y_A_asItComes).desc).map (fun d => d.parameters.length) = some 2) := ⟨GW_at 493 (by decide +kernel) (by decide +kernel), GW_at 45 (by decide +kernel) (by decide +kernel), by decide +kernel⟩
theorem lm_N_62 : gLV "FramedLine$End" "FramedLine$Arrivals" 62 y_A_asItComes b_A_asItComes 5 (some .int) 2 := ⟨mc_A_asItComes, GW_at 490 (by decide +kernel) (by decide +kernel), GW_at 491 (by decide +kernel) (by decide +kernel), GW_at 492 (by decide +kernel) (by decide +kernel)⟩
theorem mc_A_comings : Cond.code y_A_comings b_A_comings 2 (some .int) ∈ GW ∧ Cond.initialized (y_A_comings).cls ∈ GW ∧ ((y_A_comings).cls ≠ "java/lang/invoke/MethodHandle" ∧ (y_A_comings).cls ≠ "java/lang/invoke/VarHandle" ∧ (parseMethodDescriptor (y_A_comings).desc).map (fun d => d.parameters.length) = some 0) := ⟨GW_at 497 (by decide +kernel) (by decide +kernel), GW_at 45 (by decide +kernel) (by decide +kernel), by decide +kernel⟩
theorem lm_N_66 : gLV "FramedLine$End" "FramedLine$Arrivals" 66 y_A_comings b_A_comings 2 (some .int) 0 := ⟨mc_A_comings, GW_at 494 (by decide +kernel) (by decide +kernel), GW_at 495 (by decide +kernel) (by decide +kernel), GW_at 496 (by decide +kernel) (by decide +kernel)⟩
theorem mc_D_bitBehind : Cond.code y_D_bitBehind b_D_bitBehind 2 (some .int) ∈ GW ∧ Cond.initialized (y_D_bitBehind).cls ∈ GW ∧ ((y_D_bitBehind).cls ≠ "java/lang/invoke/MethodHandle" ∧ (y_D_bitBehind).cls ≠ "java/lang/invoke/VarHandle" ∧ (parseMethodDescriptor (y_D_bitBehind).desc).map (fun d => d.parameters.length) = some 1) := ⟨GW_at 501 (by decide +kernel) (by decide +kernel), GW_at 46 (by decide +kernel) (by decide +kernel), by decide +kernel⟩
theorem lm_N_69 : gLV "FramedLine$End" "FramedLine$Decoder" 69 y_D_bitBehind b_D_bitBehind 2 (some .int) 1 := ⟨mc_D_bitBehind, GW_at 498 (by decide +kernel) (by decide +kernel), GW_at 499 (by decide +kernel) (by decide +kernel), GW_at 500 (by decide +kernel) (by decide +kernel)⟩
theorem mc_R_takeBit : Cond.code y_R_takeBit b_R_takeBit 2 none ∈ GW ∧ Cond.initialized (y_R_takeBit).cls ∈ GW ∧ ((y_R_takeBit).cls ≠ "java/lang/invoke/MethodHandle" ∧ (y_R_takeBit).cls ≠ "java/lang/invoke/VarHandle" ∧ (parseMethodDescriptor (y_R_takeBit).desc).map (fun d => d.parameters.length) = some 1) := ⟨GW_at 517 (by decide +kernel) (by decide +kernel), GW_at 47 (by decide +kernel) (by decide +kernel), by decide +kernel⟩
theorem lm_N_72 : gLV "FramedLine$End" "FramedLine$Receiver" 72 y_R_takeBit b_R_takeBit 2 none 1 := ⟨mc_R_takeBit, GW_at 514 (by decide +kernel) (by decide +kernel), GW_at 515 (by decide +kernel) (by decide +kernel), GW_at 516 (by decide +kernel) (by decide +kernel)⟩
theorem mc_O_forgetNumber : Cond.code y_O_forgetNumber b_O_forgetNumber 1 none ∈ GW ∧ Cond.initialized (y_O_forgetNumber).cls ∈ GW ∧ ((y_O_forgetNumber).cls ≠ "java/lang/invoke/MethodHandle" ∧ (y_O_forgetNumber).cls ≠ "java/lang/invoke/VarHandle" ∧ (parseMethodDescriptor (y_O_forgetNumber).desc).map (fun d => d.parameters.length) = some 0) := ⟨GW_at 565 (by decide +kernel) (by decide +kernel), GW_at 48 (by decide +kernel) (by decide +kernel), by decide +kernel⟩
theorem lm_O_52 : gLV "FramedLine$Rounds" "FramedLine$Rounds" 52 y_O_forgetNumber b_O_forgetNumber 1 none 0 := ⟨mc_O_forgetNumber, GW_at 562 (by decide +kernel) (by decide +kernel), GW_at 564 (by decide +kernel) (by decide +kernel), GW_at 19 (by decide +kernel) (by decide +kernel)⟩
theorem mc_O_findNumber : Cond.code y_O_findNumber b_O_findNumber 2 none ∈ GW ∧ Cond.initialized (y_O_findNumber).cls ∈ GW ∧ ((y_O_findNumber).cls ≠ "java/lang/invoke/MethodHandle" ∧ (y_O_findNumber).cls ≠ "java/lang/invoke/VarHandle" ∧ (parseMethodDescriptor (y_O_findNumber).desc).map (fun d => d.parameters.length) = some 1) := ⟨GW_at 555 (by decide +kernel) (by decide +kernel), GW_at 48 (by decide +kernel) (by decide +kernel), by decide +kernel⟩
theorem lm_O_55 : gLV "FramedLine$Rounds" "FramedLine$Rounds" 55 y_O_findNumber b_O_findNumber 2 none 1 := ⟨mc_O_findNumber, GW_at 552 (by decide +kernel) (by decide +kernel), GW_at 554 (by decide +kernel) (by decide +kernel), GW_at 17 (by decide +kernel) (by decide +kernel)⟩
theorem mc_F_checkOver : Cond.code y_F_checkOver b_F_checkOver 5 (some .int) ∈ GW ∧ Cond.initialized (y_F_checkOver).cls ∈ GW ∧ ((y_F_checkOver).cls ≠ "java/lang/invoke/MethodHandle" ∧ (y_F_checkOver).cls ≠ "java/lang/invoke/VarHandle" ∧ (parseMethodDescriptor (y_F_checkOver).desc).map (fun d => d.parameters.length) = some 2) := ⟨GW_at 466 (by decide +kernel) (by decide +kernel), GW_at 41 (by decide +kernel) (by decide +kernel), by decide +kernel⟩
theorem lm_O_60 : gLSN "FramedLine$Rounds" "FramedLine" 60 y_F_checkOver b_F_checkOver 5 (some .int) 2 := ⟨mc_F_checkOver, NW_at 557 (by decide +kernel) (by decide +kernel), GW_at 465 (by decide +kernel) (by decide +kernel)⟩
theorem mc_O_judgeRoundWord : Cond.code y_O_judgeRoundWord b_O_judgeRoundWord 1 none ∈ GW ∧ Cond.initialized (y_O_judgeRoundWord).cls ∈ GW ∧ ((y_O_judgeRoundWord).cls ≠ "java/lang/invoke/MethodHandle" ∧ (y_O_judgeRoundWord).cls ≠ "java/lang/invoke/VarHandle" ∧ (parseMethodDescriptor (y_O_judgeRoundWord).desc).map (fun d => d.parameters.length) = some 0) := ⟨GW_at 561 (by decide +kernel) (by decide +kernel), GW_at 48 (by decide +kernel) (by decide +kernel), by decide +kernel⟩
theorem lm_O_64 : gLV "FramedLine$Rounds" "FramedLine$Rounds" 64 y_O_judgeRoundWord b_O_judgeRoundWord 1 none 0 := ⟨mc_O_judgeRoundWord, GW_at 558 (by decide +kernel) (by decide +kernel), GW_at 560 (by decide +kernel) (by decide +kernel), GW_at 18 (by decide +kernel) (by decide +kernel)⟩
theorem mc_F_endsHalf : Cond.code y_F_endsHalf b_F_endsHalf 1 (some .boolean) ∈ GW ∧ Cond.initialized (y_F_endsHalf).cls ∈ GW ∧ ((y_F_endsHalf).cls ≠ "java/lang/invoke/MethodHandle" ∧ (y_F_endsHalf).cls ≠ "java/lang/invoke/VarHandle" ∧ (parseMethodDescriptor (y_F_endsHalf).desc).map (fun d => d.parameters.length) = some 1) := ⟨GW_at 469 (by decide +kernel) (by decide +kernel), GW_at 41 (by decide +kernel) (by decide +kernel), by decide +kernel⟩
theorem lm_O_67 : gLSN "FramedLine$Rounds" "FramedLine" 67 y_F_endsHalf b_F_endsHalf 1 (some .boolean) 1 := ⟨mc_F_endsHalf, NW_at 566 (by decide +kernel) (by decide +kernel), GW_at 468 (by decide +kernel) (by decide +kernel)⟩
theorem mc_O_endHalf : Cond.code y_O_endHalf b_O_endHalf 1 none ∈ GW ∧ Cond.initialized (y_O_endHalf).cls ∈ GW ∧ ((y_O_endHalf).cls ≠ "java/lang/invoke/MethodHandle" ∧ (y_O_endHalf).cls ≠ "java/lang/invoke/VarHandle" ∧ (parseMethodDescriptor (y_O_endHalf).desc).map (fun d => d.parameters.length) = some 0) := ⟨GW_at 570 (by decide +kernel) (by decide +kernel), GW_at 48 (by decide +kernel) (by decide +kernel), by decide +kernel⟩
theorem lm_O_71 : gLV "FramedLine$Rounds" "FramedLine$Rounds" 71 y_O_endHalf b_O_endHalf 1 none 0 := ⟨mc_O_endHalf, GW_at 567 (by decide +kernel) (by decide +kernel), GW_at 569 (by decide +kernel) (by decide +kernel), GW_at 20 (by decide +kernel) (by decide +kernel)⟩
theorem mc_O_judgeHalfBefore : Cond.code y_O_judgeHalfBefore b_O_judgeHalfBefore 2 none ∈ GW ∧ Cond.initialized (y_O_judgeHalfBefore).cls ∈ GW ∧ ((y_O_judgeHalfBefore).cls ≠ "java/lang/invoke/MethodHandle" ∧ (y_O_judgeHalfBefore).cls ≠ "java/lang/invoke/VarHandle" ∧ (parseMethodDescriptor (y_O_judgeHalfBefore).desc).map (fun d => d.parameters.length) = some 0) := ⟨GW_at 574 (by decide +kernel) (by decide +kernel), GW_at 48 (by decide +kernel) (by decide +kernel), by decide +kernel⟩
theorem lm_O_74 : gLV "FramedLine$Rounds" "FramedLine$Rounds" 74 y_O_judgeHalfBefore b_O_judgeHalfBefore 2 none 0 := ⟨mc_O_judgeHalfBefore, GW_at 571 (by decide +kernel) (by decide +kernel), GW_at 573 (by decide +kernel) (by decide +kernel), GW_at 21 (by decide +kernel) (by decide +kernel)⟩
theorem mc_R_search : Cond.code y_R_search b_R_search 1 none ∈ GW ∧ Cond.initialized (y_R_search).cls ∈ GW ∧ ((y_R_search).cls ≠ "java/lang/invoke/MethodHandle" ∧ (y_R_search).cls ≠ "java/lang/invoke/VarHandle" ∧ (parseMethodDescriptor (y_R_search).desc).map (fun d => d.parameters.length) = some 0) := ⟨GW_at 521 (by decide +kernel) (by decide +kernel), GW_at 47 (by decide +kernel) (by decide +kernel), by decide +kernel⟩
theorem lm_R_56 : gLV "FramedLine$Receiver" "FramedLine$Receiver" 56 y_R_search b_R_search 1 none 0 := ⟨mc_R_search, GW_at 518 (by decide +kernel) (by decide +kernel), GW_at 520 (by decide +kernel) (by decide +kernel), GW_at 11 (by decide +kernel) (by decide +kernel)⟩
theorem mc_R_tryWord : Cond.code y_R_tryWord b_R_tryWord 2 none ∈ GW ∧ Cond.initialized (y_R_tryWord).cls ∈ GW ∧ ((y_R_tryWord).cls ≠ "java/lang/invoke/MethodHandle" ∧ (y_R_tryWord).cls ≠ "java/lang/invoke/VarHandle" ∧ (parseMethodDescriptor (y_R_tryWord).desc).map (fun d => d.parameters.length) = some 1) := ⟨GW_at 535 (by decide +kernel) (by decide +kernel), GW_at 47 (by decide +kernel) (by decide +kernel), by decide +kernel⟩
theorem lm_R_62 : gLV "FramedLine$Receiver" "FramedLine$Receiver" 62 y_R_tryWord b_R_tryWord 2 none 1 := ⟨mc_R_tryWord, GW_at 532 (by decide +kernel) (by decide +kernel), GW_at 534 (by decide +kernel) (by decide +kernel), GW_at 14 (by decide +kernel) (by decide +kernel)⟩
theorem mc_R_complete : Cond.code y_R_complete b_R_complete 1 none ∈ GW ∧ Cond.initialized (y_R_complete).cls ∈ GW ∧ ((y_R_complete).cls ≠ "java/lang/invoke/MethodHandle" ∧ (y_R_complete).cls ≠ "java/lang/invoke/VarHandle" ∧ (parseMethodDescriptor (y_R_complete).desc).map (fun d => d.parameters.length) = some 0) := ⟨GW_at 543 (by decide +kernel) (by decide +kernel), GW_at 47 (by decide +kernel) (by decide +kernel), by decide +kernel⟩
theorem lm_R_66 : gLV "FramedLine$Receiver" "FramedLine$Receiver" 66 y_R_complete b_R_complete 1 none 0 := ⟨mc_R_complete, GW_at 540 (by decide +kernel) (by decide +kernel), GW_at 542 (by decide +kernel) (by decide +kernel), GW_at 16 (by decide +kernel) (by decide +kernel)⟩
theorem mc_R_lookAtWord : Cond.code y_R_lookAtWord b_R_lookAtWord 1 none ∈ GW ∧ Cond.initialized (y_R_lookAtWord).cls ∈ GW ∧ ((y_R_lookAtWord).cls ≠ "java/lang/invoke/MethodHandle" ∧ (y_R_lookAtWord).cls ≠ "java/lang/invoke/VarHandle" ∧ (parseMethodDescriptor (y_R_lookAtWord).desc).map (fun d => d.parameters.length) = some 0) := ⟨GW_at 578 (by decide +kernel) (by decide +kernel), GW_at 47 (by decide +kernel) (by decide +kernel), by decide +kernel⟩
theorem lm_R_69 : gLV "FramedLine$Receiver" "FramedLine$Receiver" 69 y_R_lookAtWord b_R_lookAtWord 1 none 0 := ⟨mc_R_lookAtWord, GW_at 575 (by decide +kernel) (by decide +kernel), GW_at 577 (by decide +kernel) (by decide +kernel), GW_at 22 (by decide +kernel) (by decide +kernel)⟩
theorem mc_R_wordStands : Cond.code y_R_wordStands b_R_wordStands 1 (some .boolean) ∈ GW ∧ Cond.initialized (y_R_wordStands).cls ∈ GW ∧ ((y_R_wordStands).cls ≠ "java/lang/invoke/MethodHandle" ∧ (y_R_wordStands).cls ≠ "java/lang/invoke/VarHandle" ∧ (parseMethodDescriptor (y_R_wordStands).desc).map (fun d => d.parameters.length) = some 0) := ⟨GW_at 525 (by decide +kernel) (by decide +kernel), GW_at 47 (by decide +kernel) (by decide +kernel), by decide +kernel⟩
theorem lm_R_72 : gLV "FramedLine$Receiver" "FramedLine$Receiver" 72 y_R_wordStands b_R_wordStands 1 (some .boolean) 0 := ⟨mc_R_wordStands, GW_at 522 (by decide +kernel) (by decide +kernel), GW_at 524 (by decide +kernel) (by decide +kernel), GW_at 12 (by decide +kernel) (by decide +kernel)⟩
theorem mc_R_enter : Cond.code y_R_enter b_R_enter 2 none ∈ GW ∧ Cond.initialized (y_R_enter).cls ∈ GW ∧ ((y_R_enter).cls ≠ "java/lang/invoke/MethodHandle" ∧ (y_R_enter).cls ≠ "java/lang/invoke/VarHandle" ∧ (parseMethodDescriptor (y_R_enter).desc).map (fun d => d.parameters.length) = some 1) := ⟨GW_at 531 (by decide +kernel) (by decide +kernel), GW_at 47 (by decide +kernel) (by decide +kernel), by decide +kernel⟩
theorem lm_R_76 : gLV "FramedLine$Receiver" "FramedLine$Receiver" 76 y_R_enter b_R_enter 2 none 1 := ⟨mc_R_enter, GW_at 528 (by decide +kernel) (by decide +kernel), GW_at 530 (by decide +kernel) (by decide +kernel), GW_at 13 (by decide +kernel) (by decide +kernel)⟩
theorem mc_R_align : Cond.code y_R_align b_R_align 1 none ∈ GW ∧ Cond.initialized (y_R_align).cls ∈ GW ∧ ((y_R_align).cls ≠ "java/lang/invoke/MethodHandle" ∧ (y_R_align).cls ≠ "java/lang/invoke/VarHandle" ∧ (parseMethodDescriptor (y_R_align).desc).map (fun d => d.parameters.length) = some 0) := ⟨GW_at 539 (by decide +kernel) (by decide +kernel), GW_at 47 (by decide +kernel) (by decide +kernel), by decide +kernel⟩
theorem lm_R_80 : gLV "FramedLine$Receiver" "FramedLine$Receiver" 80 y_R_align b_R_align 1 none 0 := ⟨mc_R_align, GW_at 536 (by decide +kernel) (by decide +kernel), GW_at 538 (by decide +kernel) (by decide +kernel), GW_at 15 (by decide +kernel) (by decide +kernel)⟩
theorem mc_O_startAnew : Cond.code y_O_startAnew b_O_startAnew 1 none ∈ GW ∧ Cond.initialized (y_O_startAnew).cls ∈ GW ∧ ((y_O_startAnew).cls ≠ "java/lang/invoke/MethodHandle" ∧ (y_O_startAnew).cls ≠ "java/lang/invoke/VarHandle" ∧ (parseMethodDescriptor (y_O_startAnew).desc).map (fun d => d.parameters.length) = some 0) := ⟨GW_at 582 (by decide +kernel) (by decide +kernel), GW_at 48 (by decide +kernel) (by decide +kernel), by decide +kernel⟩
theorem lm_R_83 : gLV "FramedLine$Receiver" "FramedLine$Rounds" 83 y_O_startAnew b_O_startAnew 1 none 0 := ⟨mc_O_startAnew, GW_at 579 (by decide +kernel) (by decide +kernel), GW_at 580 (by decide +kernel) (by decide +kernel), GW_at 581 (by decide +kernel) (by decide +kernel)⟩
theorem mc_R_byteOf : Cond.code y_R_byteOf b_R_byteOf 2 (some .int) ∈ GW ∧ Cond.initialized (y_R_byteOf).cls ∈ GW ∧ ((y_R_byteOf).cls ≠ "java/lang/invoke/MethodHandle" ∧ (y_R_byteOf).cls ≠ "java/lang/invoke/VarHandle" ∧ (parseMethodDescriptor (y_R_byteOf).desc).map (fun d => d.parameters.length) = some 1) := ⟨GW_at 547 (by decide +kernel) (by decide +kernel), GW_at 47 (by decide +kernel) (by decide +kernel), by decide +kernel⟩
theorem lm_R_86 : gLV "FramedLine$Receiver" "FramedLine$Receiver" 86 y_R_byteOf b_R_byteOf 2 (some .int) 1 := ⟨mc_R_byteOf, GW_at 544 (by decide +kernel) (by decide +kernel), GW_at 545 (by decide +kernel) (by decide +kernel), GW_at 546 (by decide +kernel) (by decide +kernel)⟩
theorem mc_O_takeFrame : Cond.code y_O_takeFrame b_O_takeFrame 4 none ∈ GW ∧ Cond.initialized (y_O_takeFrame).cls ∈ GW ∧ ((y_O_takeFrame).cls ≠ "java/lang/invoke/MethodHandle" ∧ (y_O_takeFrame).cls ≠ "java/lang/invoke/VarHandle" ∧ (parseMethodDescriptor (y_O_takeFrame).desc).map (fun d => d.parameters.length) = some 2) := ⟨GW_at 551 (by decide +kernel) (by decide +kernel), GW_at 48 (by decide +kernel) (by decide +kernel), by decide +kernel⟩
theorem lm_R_90 : gLV "FramedLine$Receiver" "FramedLine$Rounds" 90 y_O_takeFrame b_O_takeFrame 4 none 2 := ⟨mc_O_takeFrame, GW_at 548 (by decide +kernel) (by decide +kernel), GW_at 549 (by decide +kernel) (by decide +kernel), GW_at 550 (by decide +kernel) (by decide +kernel)⟩
theorem mc_S_oddSlotZero : Cond.code y_S_oddSlotZero b_S_oddSlotZero 3 (some .int) ∈ GW ∧ Cond.initialized (y_S_oddSlotZero).cls ∈ GW ∧ ((y_S_oddSlotZero).cls ≠ "java/lang/invoke/MethodHandle" ∧ (y_S_oddSlotZero).cls ≠ "java/lang/invoke/VarHandle" ∧ (parseMethodDescriptor (y_S_oddSlotZero).desc).map (fun d => d.parameters.length) = some 1) := ⟨GW_at 448 (by decide +kernel) (by decide +kernel), GW_at 43 (by decide +kernel) (by decide +kernel), by decide +kernel⟩
theorem lm_S_31 : gLV "FramedLine$Sender" "FramedLine$Sender" 31 y_S_oddSlotZero b_S_oddSlotZero 3 (some .int) 1 := ⟨mc_S_oddSlotZero, GW_at 445 (by decide +kernel) (by decide +kernel), GW_at 447 (by decide +kernel) (by decide +kernel), GW_at 3 (by decide +kernel) (by decide +kernel)⟩
theorem mc_S_evenSlotZero : Cond.code y_S_evenSlotZero b_S_evenSlotZero 3 (some .int) ∈ GW ∧ Cond.initialized (y_S_evenSlotZero).cls ∈ GW ∧ ((y_S_evenSlotZero).cls ≠ "java/lang/invoke/MethodHandle" ∧ (y_S_evenSlotZero).cls ≠ "java/lang/invoke/VarHandle" ∧ (parseMethodDescriptor (y_S_evenSlotZero).desc).map (fun d => d.parameters.length) = some 0) := ⟨GW_at 462 (by decide +kernel) (by decide +kernel), GW_at 43 (by decide +kernel) (by decide +kernel), by decide +kernel⟩
theorem lm_S_35 : gLV "FramedLine$Sender" "FramedLine$Sender" 35 y_S_evenSlotZero b_S_evenSlotZero 3 (some .int) 0 := ⟨mc_S_evenSlotZero, GW_at 459 (by decide +kernel) (by decide +kernel), GW_at 461 (by decide +kernel) (by decide +kernel), GW_at 5 (by decide +kernel) (by decide +kernel)⟩
theorem lm_S_40 : gLSN "FramedLine$Sender" "FramedLine" 40 y_F_checkOver b_F_checkOver 5 (some .int) 2 := ⟨mc_F_checkOver, NW_at 464 (by decide +kernel) (by decide +kernel), GW_at 465 (by decide +kernel) (by decide +kernel)⟩
theorem lm_S_44 : gLSN "FramedLine$Sender" "FramedLine" 44 y_F_endsHalf b_F_endsHalf 1 (some .boolean) 1 := ⟨mc_F_endsHalf, NW_at 467 (by decide +kernel) (by decide +kernel), GW_at 468 (by decide +kernel) (by decide +kernel)⟩
theorem mc_R_isAligned : Cond.code y_R_isAligned b_R_isAligned 1 (some .boolean) ∈ GW ∧ Cond.initialized (y_R_isAligned).cls ∈ GW ∧ ((y_R_isAligned).cls ≠ "java/lang/invoke/MethodHandle" ∧ (y_R_isAligned).cls ≠ "java/lang/invoke/VarHandle" ∧ (parseMethodDescriptor (y_R_isAligned).desc).map (fun d => d.parameters.length) = some 0) := ⟨GW_at 452 (by decide +kernel) (by decide +kernel), GW_at 47 (by decide +kernel) (by decide +kernel), by decide +kernel⟩
theorem lm_S_48 : gLV "FramedLine$Sender" "FramedLine$Receiver" 48 y_R_isAligned b_R_isAligned 1 (some .boolean) 0 := ⟨mc_R_isAligned, GW_at 449 (by decide +kernel) (by decide +kernel), GW_at 450 (by decide +kernel) (by decide +kernel), GW_at 451 (by decide +kernel) (by decide +kernel)⟩
theorem mc_S_firstBitOfOdd : Cond.code y_S_firstBitOfOdd b_S_firstBitOfOdd 3 (some .int) ∈ GW ∧ Cond.initialized (y_S_firstBitOfOdd).cls ∈ GW ∧ ((y_S_firstBitOfOdd).cls ≠ "java/lang/invoke/MethodHandle" ∧ (y_S_firstBitOfOdd).cls ≠ "java/lang/invoke/VarHandle" ∧ (parseMethodDescriptor (y_S_firstBitOfOdd).desc).map (fun d => d.parameters.length) = some 1) := ⟨GW_at 458 (by decide +kernel) (by decide +kernel), GW_at 43 (by decide +kernel) (by decide +kernel), by decide +kernel⟩
theorem lm_S_58 : gLV "FramedLine$Sender" "FramedLine$Sender" 58 y_S_firstBitOfOdd b_S_firstBitOfOdd 3 (some .int) 1 := ⟨mc_S_firstBitOfOdd, GW_at 455 (by decide +kernel) (by decide +kernel), GW_at 457 (by decide +kernel) (by decide +kernel), GW_at 4 (by decide +kernel) (by decide +kernel)⟩
end
section
theorem d_A_change_0 : decode b_A_change 0 = .ok (.aload_n 0, 1) := by decide +kernel
theorem d_A_change_1 : decode b_A_change 1 = .ok (.iload_n 1, 1) := by decide +kernel
theorem d_A_change_2 : decode b_A_change 2 = .ok (.invokevirtual 26, 3) := by decide +kernel
theorem d_A_change_5 : decode b_A_change 5 = .ok (.istore_n 3, 1) := by decide +kernel
theorem d_A_change_6 : decode b_A_change 6 = .ok (.iload_n 3, 1) := by decide +kernel
theorem d_A_change_7 : decode b_A_change 7 = .ok (.bipush 8, 2) := by decide +kernel
theorem d_A_change_9 : decode b_A_change 9 = .ok (.if_icmp .lt 5, 3) := by decide +kernel
theorem d_A_change_12 : decode b_A_change 12 = .ok (.iconst 0, 1) := by decide +kernel
theorem d_A_change_13 : decode b_A_change 13 = .ok (.ireturn, 1) := by decide +kernel
theorem d_A_change_14 : decode b_A_change 14 = .ok (.iload_n 3, 1) := by decide +kernel
theorem d_A_change_15 : decode b_A_change 15 = .ok (.aload_n 0, 1) := by decide +kernel
theorem d_A_change_16 : decode b_A_change 16 = .ok (.getfield 18, 3) := by decide +kernel
theorem d_A_change_19 : decode b_A_change 19 = .ok (.if_icmp .ne 13, 3) := by decide +kernel
theorem d_A_change_22 : decode b_A_change 22 = .ok (.aload_n 0, 1) := by decide +kernel
theorem d_A_change_23 : decode b_A_change 23 = .ok (.dup, 1) := by decide +kernel
theorem d_A_change_24 : decode b_A_change 24 = .ok (.getfield 18, 3) := by decide +kernel
theorem d_A_change_27 : decode b_A_change 27 = .ok (.iconst 1, 1) := by decide +kernel
theorem d_A_change_28 : decode b_A_change 28 = .ok (.iadd, 1) := by decide +kernel
theorem d_A_change_29 : decode b_A_change 29 = .ok (.putfield 18, 3) := by decide +kernel
theorem d_A_change_32 : decode b_A_change 32 = .ok (.aload_n 0, 1) := by decide +kernel
theorem d_A_change_33 : decode b_A_change 33 = .ok (.getfield 9, 3) := by decide +kernel
theorem d_A_change_36 : decode b_A_change 36 = .ok (.iload_n 3, 1) := by decide +kernel
theorem d_A_change_37 : decode b_A_change 37 = .ok (.iload_n 1, 1) := by decide +kernel
theorem d_A_change_38 : decode b_A_change 38 = .ok (.iastore, 1) := by decide +kernel
theorem d_A_change_39 : decode b_A_change 39 = .ok (.aload_n 0, 1) := by decide +kernel
theorem d_A_change_40 : decode b_A_change 40 = .ok (.getfield 15, 3) := by decide +kernel
theorem d_A_change_43 : decode b_A_change 43 = .ok (.iload_n 3, 1) := by decide +kernel
theorem d_A_change_44 : decode b_A_change 44 = .ok (.iload_n 2, 1) := by decide +kernel
theorem d_A_change_45 : decode b_A_change 45 = .ok (.iastore, 1) := by decide +kernel
theorem d_A_change_46 : decode b_A_change 46 = .ok (.iconst 1, 1) := by decide +kernel
theorem d_A_change_47 : decode b_A_change 47 = .ok (.ireturn, 1) := by decide +kernel
theorem d_A_doubleNext_0 : decode b_A_doubleNext 0 = .ok (.aload_n 0, 1) := by decide +kernel
theorem d_A_doubleNext_1 : decode b_A_doubleNext 1 = .ok (.getfield 22, 3) := by decide +kernel
theorem d_A_doubleNext_4 : decode b_A_doubleNext 4 = .ok (.ifCond .ne 7, 3) := by decide +kernel
theorem d_A_doubleNext_7 : decode b_A_doubleNext 7 = .ok (.iconst 1, 1) := by decide +kernel
theorem d_A_doubleNext_8 : decode b_A_doubleNext 8 = .ok (.goto 4, 3) := by decide +kernel
theorem d_A_doubleNext_11 : decode b_A_doubleNext 11 = .ok (.iconst 0, 1) := by decide +kernel
theorem d_A_doubleNext_12 : decode b_A_doubleNext 12 = .ok (.istore_n 1, 1) := by decide +kernel
theorem d_A_doubleNext_13 : decode b_A_doubleNext 13 = .ok (.aload_n 0, 1) := by decide +kernel
theorem d_A_doubleNext_14 : decode b_A_doubleNext 14 = .ok (.iconst 1, 1) := by decide +kernel
theorem d_A_doubleNext_15 : decode b_A_doubleNext 15 = .ok (.putfield 22, 3) := by decide +kernel
theorem d_A_doubleNext_18 : decode b_A_doubleNext 18 = .ok (.iload_n 1, 1) := by decide +kernel
theorem d_A_doubleNext_19 : decode b_A_doubleNext 19 = .ok (.ireturn, 1) := by decide +kernel
theorem d_A_asItComes_0 : decode b_A_asItComes 0 = .ok (.aload_n 0, 1) := by decide +kernel
theorem d_A_asItComes_1 : decode b_A_asItComes 1 = .ok (.iload_n 1, 1) := by decide +kernel
theorem d_A_asItComes_2 : decode b_A_asItComes 2 = .ok (.invokevirtual 26, 3) := by decide +kernel
theorem d_A_asItComes_5 : decode b_A_asItComes 5 = .ok (.istore_n 3, 1) := by decide +kernel
theorem d_A_asItComes_6 : decode b_A_asItComes 6 = .ok (.iload_n 3, 1) := by decide +kernel
theorem d_A_asItComes_7 : decode b_A_asItComes 7 = .ok (.aload_n 0, 1) := by decide +kernel
theorem d_A_asItComes_8 : decode b_A_asItComes 8 = .ok (.getfield 18, 3) := by decide +kernel
theorem d_A_asItComes_11 : decode b_A_asItComes 11 = .ok (.if_icmp .lt 5, 3) := by decide +kernel
theorem d_A_asItComes_14 : decode b_A_asItComes 14 = .ok (.iload_n 2, 1) := by decide +kernel
theorem d_A_asItComes_15 : decode b_A_asItComes 15 = .ok (.ireturn, 1) := by decide +kernel
theorem d_A_asItComes_16 : decode b_A_asItComes 16 = .ok (.aload_n 0, 1) := by decide +kernel
theorem d_A_asItComes_17 : decode b_A_asItComes 17 = .ok (.getfield 15, 3) := by decide +kernel
theorem d_A_asItComes_20 : decode b_A_asItComes 20 = .ok (.iload_n 3, 1) := by decide +kernel
theorem d_A_asItComes_21 : decode b_A_asItComes 21 = .ok (.iaload, 1) := by decide +kernel
theorem d_A_asItComes_22 : decode b_A_asItComes 22 = .ok (.istore 4, 2) := by decide +kernel
theorem d_A_asItComes_24 : decode b_A_asItComes 24 = .ok (.aload_n 0, 1) := by decide +kernel
theorem d_A_asItComes_25 : decode b_A_asItComes 25 = .ok (.dup, 1) := by decide +kernel
theorem d_A_asItComes_26 : decode b_A_asItComes 26 = .ok (.getfield 18, 3) := by decide +kernel
theorem d_A_asItComes_29 : decode b_A_asItComes 29 = .ok (.iconst 1, 1) := by decide +kernel
theorem d_A_asItComes_30 : decode b_A_asItComes 30 = .ok (.isub, 1) := by decide +kernel
theorem d_A_asItComes_31 : decode b_A_asItComes 31 = .ok (.putfield 18, 3) := by decide +kernel
theorem d_A_asItComes_34 : decode b_A_asItComes 34 = .ok (.aload_n 0, 1) := by decide +kernel
theorem d_A_asItComes_35 : decode b_A_asItComes 35 = .ok (.getfield 9, 3) := by decide +kernel
theorem d_A_asItComes_38 : decode b_A_asItComes 38 = .ok (.iload_n 3, 1) := by decide +kernel
theorem d_A_asItComes_39 : decode b_A_asItComes 39 = .ok (.aload_n 0, 1) := by decide +kernel
theorem d_A_asItComes_40 : decode b_A_asItComes 40 = .ok (.getfield 9, 3) := by decide +kernel
theorem d_A_asItComes_43 : decode b_A_asItComes 43 = .ok (.aload_n 0, 1) := by decide +kernel
theorem d_A_asItComes_44 : decode b_A_asItComes 44 = .ok (.getfield 18, 3) := by decide +kernel
theorem d_A_asItComes_47 : decode b_A_asItComes 47 = .ok (.iaload, 1) := by decide +kernel
theorem d_A_asItComes_48 : decode b_A_asItComes 48 = .ok (.iastore, 1) := by decide +kernel
theorem d_A_asItComes_49 : decode b_A_asItComes 49 = .ok (.aload_n 0, 1) := by decide +kernel
theorem d_A_asItComes_50 : decode b_A_asItComes 50 = .ok (.getfield 15, 3) := by decide +kernel
theorem d_A_asItComes_53 : decode b_A_asItComes 53 = .ok (.iload_n 3, 1) := by decide +kernel
theorem d_A_asItComes_54 : decode b_A_asItComes 54 = .ok (.aload_n 0, 1) := by decide +kernel
theorem d_A_asItComes_55 : decode b_A_asItComes 55 = .ok (.getfield 15, 3) := by decide +kernel
theorem d_A_asItComes_58 : decode b_A_asItComes 58 = .ok (.aload_n 0, 1) := by decide +kernel
theorem d_A_asItComes_59 : decode b_A_asItComes 59 = .ok (.getfield 18, 3) := by decide +kernel
theorem d_A_asItComes_62 : decode b_A_asItComes 62 = .ok (.iaload, 1) := by decide +kernel
theorem d_A_asItComes_63 : decode b_A_asItComes 63 = .ok (.iastore, 1) := by decide +kernel
theorem d_A_asItComes_64 : decode b_A_asItComes 64 = .ok (.iload 4, 2) := by decide +kernel
theorem d_A_asItComes_66 : decode b_A_asItComes 66 = .ok (.ireturn, 1) := by decide +kernel
theorem d_A_comings_0 : decode b_A_comings 0 = .ok (.aload_n 0, 1) := by decide +kernel
theorem d_A_comings_1 : decode b_A_comings 1 = .ok (.getfield 22, 3) := by decide +kernel
theorem d_A_comings_4 : decode b_A_comings 4 = .ok (.ifCond .eq 7, 3) := by decide +kernel
theorem d_A_comings_7 : decode b_A_comings 7 = .ok (.iconst 2, 1) := by decide +kernel
theorem d_A_comings_8 : decode b_A_comings 8 = .ok (.goto 4, 3) := by decide +kernel
theorem d_A_comings_11 : decode b_A_comings 11 = .ok (.iconst 1, 1) := by decide +kernel
theorem d_A_comings_12 : decode b_A_comings 12 = .ok (.istore_n 1, 1) := by decide +kernel
theorem d_A_comings_13 : decode b_A_comings 13 = .ok (.aload_n 0, 1) := by decide +kernel
theorem d_A_comings_14 : decode b_A_comings 14 = .ok (.iconst 0, 1) := by decide +kernel
theorem d_A_comings_15 : decode b_A_comings 15 = .ok (.putfield 22, 3) := by decide +kernel
theorem d_A_comings_18 : decode b_A_comings 18 = .ok (.iload_n 1, 1) := by decide +kernel
theorem d_A_comings_19 : decode b_A_comings 19 = .ok (.ireturn, 1) := by decide +kernel
theorem d_A_placeOf_0 : decode b_A_placeOf 0 = .ok (.iconst 0, 1) := by decide +kernel
theorem d_A_placeOf_1 : decode b_A_placeOf 1 = .ok (.istore_n 2, 1) := by decide +kernel
theorem d_A_placeOf_2 : decode b_A_placeOf 2 = .ok (.iload_n 2, 1) := by decide +kernel
theorem d_A_placeOf_3 : decode b_A_placeOf 3 = .ok (.aload_n 0, 1) := by decide +kernel
theorem d_A_placeOf_4 : decode b_A_placeOf 4 = .ok (.getfield 18, 3) := by decide +kernel
theorem d_A_placeOf_7 : decode b_A_placeOf 7 = .ok (.if_icmp .ge 19, 3) := by decide +kernel
theorem d_A_placeOf_10 : decode b_A_placeOf 10 = .ok (.aload_n 0, 1) := by decide +kernel
theorem d_A_placeOf_11 : decode b_A_placeOf 11 = .ok (.getfield 9, 3) := by decide +kernel
theorem d_A_placeOf_14 : decode b_A_placeOf 14 = .ok (.iload_n 2, 1) := by decide +kernel
theorem d_A_placeOf_15 : decode b_A_placeOf 15 = .ok (.iaload, 1) := by decide +kernel
theorem d_A_placeOf_16 : decode b_A_placeOf 16 = .ok (.iload_n 1, 1) := by decide +kernel
theorem d_A_placeOf_17 : decode b_A_placeOf 17 = .ok (.if_icmp .eq 9, 3) := by decide +kernel
theorem d_A_placeOf_20 : decode b_A_placeOf 20 = .ok (.iinc 2 1, 3) := by decide +kernel
theorem d_A_placeOf_23 : decode b_A_placeOf 23 = .ok (.goto (-21), 3) := by decide +kernel
theorem d_A_placeOf_26 : decode b_A_placeOf 26 = .ok (.iload_n 2, 1) := by decide +kernel
theorem d_A_placeOf_27 : decode b_A_placeOf 27 = .ok (.ireturn, 1) := by decide +kernel
theorem d_D_bitBehind_0 : decode b_D_bitBehind 0 = .ok (.aload_n 0, 1) := by decide +kernel
theorem d_D_bitBehind_1 : decode b_D_bitBehind 1 = .ok (.iload_n 1, 1) := by decide +kernel
theorem d_D_bitBehind_2 : decode b_D_bitBehind 2 = .ok (.putfield 9, 3) := by decide +kernel
theorem d_D_bitBehind_5 : decode b_D_bitBehind 5 = .ok (.iload_n 1, 1) := by decide +kernel
theorem d_D_bitBehind_6 : decode b_D_bitBehind 6 = .ok (.ifCond .ne 10, 3) := by decide +kernel
theorem d_D_bitBehind_9 : decode b_D_bitBehind 9 = .ok (.aload_n 0, 1) := by decide +kernel
theorem d_D_bitBehind_10 : decode b_D_bitBehind 10 = .ok (.invokevirtual 33, 3) := by decide +kernel
theorem d_D_bitBehind_13 : decode b_D_bitBehind 13 = .ok (.goto 8, 3) := by decide +kernel
theorem d_D_bitBehind_16 : decode b_D_bitBehind 16 = .ok (.aload_n 0, 1) := by decide +kernel
theorem d_D_bitBehind_17 : decode b_D_bitBehind 17 = .ok (.iload_n 1, 1) := by decide +kernel
theorem d_D_bitBehind_18 : decode b_D_bitBehind 18 = .ok (.invokevirtual 36, 3) := by decide +kernel
theorem d_D_bitBehind_21 : decode b_D_bitBehind 21 = .ok (.aload_n 0, 1) := by decide +kernel
theorem d_D_bitBehind_22 : decode b_D_bitBehind 22 = .ok (.getfield 27, 3) := by decide +kernel
theorem d_D_bitBehind_25 : decode b_D_bitBehind 25 = .ok (.iconst 3, 1) := by decide +kernel
theorem d_D_bitBehind_26 : decode b_D_bitBehind 26 = .ok (.if_icmp .ge 15, 3) := by decide +kernel
theorem d_D_bitBehind_29 : decode b_D_bitBehind 29 = .ok (.aload_n 0, 1) := by decide +kernel
theorem d_D_bitBehind_30 : decode b_D_bitBehind 30 = .ok (.dup, 1) := by decide +kernel
theorem d_D_bitBehind_31 : decode b_D_bitBehind 31 = .ok (.getfield 27, 3) := by decide +kernel
theorem d_D_bitBehind_34 : decode b_D_bitBehind 34 = .ok (.iconst 1, 1) := by decide +kernel
theorem d_D_bitBehind_35 : decode b_D_bitBehind 35 = .ok (.iadd, 1) := by decide +kernel
theorem d_D_bitBehind_36 : decode b_D_bitBehind 36 = .ok (.putfield 27, 3) := by decide +kernel
theorem d_D_bitBehind_39 : decode b_D_bitBehind 39 = .ok (.iconst (-1), 1) := by decide +kernel
theorem d_D_bitBehind_40 : decode b_D_bitBehind 40 = .ok (.ireturn, 1) := by decide +kernel
theorem d_D_bitBehind_41 : decode b_D_bitBehind 41 = .ok (.aload_n 0, 1) := by decide +kernel
theorem d_D_bitBehind_42 : decode b_D_bitBehind 42 = .ok (.getfield 24, 3) := by decide +kernel
theorem d_D_bitBehind_45 : decode b_D_bitBehind 45 = .ok (.iconst 3, 1) := by decide +kernel
theorem d_D_bitBehind_46 : decode b_D_bitBehind 46 = .ok (.ishr, 1) := by decide +kernel
theorem d_D_bitBehind_47 : decode b_D_bitBehind 47 = .ok (.iconst 1, 1) := by decide +kernel
theorem d_D_bitBehind_48 : decode b_D_bitBehind 48 = .ok (.iand, 1) := by decide +kernel
theorem d_D_bitBehind_49 : decode b_D_bitBehind 49 = .ok (.ireturn, 1) := by decide +kernel
theorem d_D_takeZero_0 : decode b_D_takeZero 0 = .ok (.aload_n 0, 1) := by decide +kernel
theorem d_D_takeZero_1 : decode b_D_takeZero 1 = .ok (.aload_n 0, 1) := by decide +kernel
theorem d_D_takeZero_2 : decode b_D_takeZero 2 = .ok (.getfield 24, 3) := by decide +kernel
theorem d_D_takeZero_5 : decode b_D_takeZero 5 = .ok (.iconst 1, 1) := by decide +kernel
theorem d_D_takeZero_6 : decode b_D_takeZero 6 = .ok (.ishl, 1) := by decide +kernel
theorem d_D_takeZero_7 : decode b_D_takeZero 7 = .ok (.bipush 15, 2) := by decide +kernel
theorem d_D_takeZero_9 : decode b_D_takeZero 9 = .ok (.iand, 1) := by decide +kernel
theorem d_D_takeZero_10 : decode b_D_takeZero 10 = .ok (.putfield 24, 3) := by decide +kernel
theorem d_D_takeZero_13 : decode b_D_takeZero 13 = .ok (.aload_n 0, 1) := by decide +kernel
theorem d_D_takeZero_14 : decode b_D_takeZero 14 = .ok (.dup, 1) := by decide +kernel
theorem d_D_takeZero_15 : decode b_D_takeZero 15 = .ok (.getfield 21, 3) := by decide +kernel
theorem d_D_takeZero_18 : decode b_D_takeZero 18 = .ok (.iconst 1, 1) := by decide +kernel
theorem d_D_takeZero_19 : decode b_D_takeZero 19 = .ok (.iadd, 1) := by decide +kernel
theorem d_D_takeZero_20 : decode b_D_takeZero 20 = .ok (.putfield 21, 3) := by decide +kernel
theorem d_D_takeZero_23 : decode b_D_takeZero 23 = .ok (.aload_n 0, 1) := by decide +kernel
theorem d_D_takeZero_24 : decode b_D_takeZero 24 = .ok (.getfield 15, 3) := by decide +kernel
theorem d_D_takeZero_27 : decode b_D_takeZero 27 = .ok (.ifCond .eq 22, 3) := by decide +kernel
theorem d_D_takeZero_30 : decode b_D_takeZero 30 = .ok (.aload_n 0, 1) := by decide +kernel
theorem d_D_takeZero_31 : decode b_D_takeZero 31 = .ok (.getfield 21, 3) := by decide +kernel
theorem d_D_takeZero_34 : decode b_D_takeZero 34 = .ok (.iconst 3, 1) := by decide +kernel
theorem d_D_takeZero_35 : decode b_D_takeZero 35 = .ok (.iand, 1) := by decide +kernel
theorem d_D_takeZero_36 : decode b_D_takeZero 36 = .ok (.ifCond .ne 13, 3) := by decide +kernel
theorem d_D_takeZero_39 : decode b_D_takeZero 39 = .ok (.aload_n 0, 1) := by decide +kernel
theorem d_D_takeZero_40 : decode b_D_takeZero 40 = .ok (.dup, 1) := by decide +kernel
theorem d_D_takeZero_41 : decode b_D_takeZero 41 = .ok (.getfield 30, 3) := by decide +kernel
theorem d_D_takeZero_44 : decode b_D_takeZero 44 = .ok (.iconst 1, 1) := by decide +kernel
theorem d_D_takeZero_45 : decode b_D_takeZero 45 = .ok (.iadd, 1) := by decide +kernel
theorem d_D_takeZero_46 : decode b_D_takeZero 46 = .ok (.putfield 30, 3) := by decide +kernel
theorem d_D_takeZero_49 : decode b_D_takeZero 49 = .ok (.return_, 1) := by decide +kernel
theorem d_D_takePulse_0 : decode b_D_takePulse 0 = .ok (.iload_n 1, 1) := by decide +kernel
theorem d_D_takePulse_1 : decode b_D_takePulse 1 = .ok (.aload_n 0, 1) := by decide +kernel
theorem d_D_takePulse_2 : decode b_D_takePulse 2 = .ok (.getfield 15, 3) := by decide +kernel
theorem d_D_takePulse_5 : decode b_D_takePulse 5 = .ok (.if_icmp .ne 7, 3) := by decide +kernel
theorem d_D_takePulse_8 : decode b_D_takePulse 8 = .ok (.iconst 1, 1) := by decide +kernel
theorem d_D_takePulse_9 : decode b_D_takePulse 9 = .ok (.goto 4, 3) := by decide +kernel
theorem d_D_takePulse_12 : decode b_D_takePulse 12 = .ok (.iconst 0, 1) := by decide +kernel
theorem d_D_takePulse_13 : decode b_D_takePulse 13 = .ok (.istore_n 2, 1) := by decide +kernel
theorem d_D_takePulse_14 : decode b_D_takePulse 14 = .ok (.iload_n 2, 1) := by decide +kernel
theorem d_D_takePulse_15 : decode b_D_takePulse 15 = .ok (.ifCond .eq 19, 3) := by decide +kernel
theorem d_D_takePulse_18 : decode b_D_takePulse 18 = .ok (.aload_n 0, 1) := by decide +kernel
theorem d_D_takePulse_19 : decode b_D_takePulse 19 = .ok (.getfield 21, 3) := by decide +kernel
theorem d_D_takePulse_22 : decode b_D_takePulse 22 = .ok (.iconst 2, 1) := by decide +kernel
theorem d_D_takePulse_23 : decode b_D_takePulse 23 = .ok (.if_icmp .lt 11, 3) := by decide +kernel
theorem d_D_takePulse_26 : decode b_D_takePulse 26 = .ok (.aload_n 0, 1) := by decide +kernel
theorem d_D_takePulse_27 : decode b_D_takePulse 27 = .ok (.iload_n 1, 1) := by decide +kernel
theorem d_D_takePulse_28 : decode b_D_takePulse 28 = .ok (.invokevirtual 40, 3) := by decide +kernel
theorem d_D_takePulse_31 : decode b_D_takePulse 31 = .ok (.goto 32, 3) := by decide +kernel
theorem d_D_takePulse_34 : decode b_D_takePulse 34 = .ok (.aload_n 0, 1) := by decide +kernel
theorem d_D_takePulse_35 : decode b_D_takePulse 35 = .ok (.aload_n 0, 1) := by decide +kernel
theorem d_D_takePulse_36 : decode b_D_takePulse 36 = .ok (.getfield 24, 3) := by decide +kernel
theorem d_D_takePulse_39 : decode b_D_takePulse 39 = .ok (.iconst 1, 1) := by decide +kernel
theorem d_D_takePulse_40 : decode b_D_takePulse 40 = .ok (.ishl, 1) := by decide +kernel
theorem d_D_takePulse_41 : decode b_D_takePulse 41 = .ok (.iconst 1, 1) := by decide +kernel
theorem d_D_takePulse_42 : decode b_D_takePulse 42 = .ok (.ior, 1) := by decide +kernel
theorem d_D_takePulse_43 : decode b_D_takePulse 43 = .ok (.bipush 15, 2) := by decide +kernel
theorem d_D_takePulse_45 : decode b_D_takePulse 45 = .ok (.iand, 1) := by decide +kernel
theorem d_D_takePulse_46 : decode b_D_takePulse 46 = .ok (.putfield 24, 3) := by decide +kernel
theorem d_D_takePulse_49 : decode b_D_takePulse 49 = .ok (.iload_n 2, 1) := by decide +kernel
theorem d_D_takePulse_50 : decode b_D_takePulse 50 = .ok (.ifCond .eq 13, 3) := by decide +kernel
theorem d_D_takePulse_53 : decode b_D_takePulse 53 = .ok (.aload_n 0, 1) := by decide +kernel
theorem d_D_takePulse_54 : decode b_D_takePulse 54 = .ok (.dup, 1) := by decide +kernel
theorem d_D_takePulse_55 : decode b_D_takePulse 55 = .ok (.getfield 30, 3) := by decide +kernel
theorem d_D_takePulse_58 : decode b_D_takePulse 58 = .ok (.iconst 1, 1) := by decide +kernel
theorem d_D_takePulse_59 : decode b_D_takePulse 59 = .ok (.iadd, 1) := by decide +kernel
theorem d_D_takePulse_60 : decode b_D_takePulse 60 = .ok (.putfield 30, 3) := by decide +kernel
theorem d_D_takePulse_63 : decode b_D_takePulse 63 = .ok (.aload_n 0, 1) := by decide +kernel
theorem d_D_takePulse_64 : decode b_D_takePulse 64 = .ok (.iload_n 1, 1) := by decide +kernel
theorem d_D_takePulse_65 : decode b_D_takePulse 65 = .ok (.putfield 15, 3) := by decide +kernel
theorem d_D_takePulse_68 : decode b_D_takePulse 68 = .ok (.aload_n 0, 1) := by decide +kernel
theorem d_D_takePulse_69 : decode b_D_takePulse 69 = .ok (.iconst 0, 1) := by decide +kernel
theorem d_D_takePulse_70 : decode b_D_takePulse 70 = .ok (.putfield 21, 3) := by decide +kernel
theorem d_D_takePulse_73 : decode b_D_takePulse 73 = .ok (.return_, 1) := by decide +kernel
theorem d_D_takeV_0 : decode b_D_takeV 0 = .ok (.aload_n 0, 1) := by decide +kernel
theorem d_D_takeV_1 : decode b_D_takeV 1 = .ok (.iconst 0, 1) := by decide +kernel
theorem d_D_takeV_2 : decode b_D_takeV 2 = .ok (.putfield 24, 3) := by decide +kernel
theorem d_D_takeV_5 : decode b_D_takeV 5 = .ok (.iload_n 1, 1) := by decide +kernel
theorem d_D_takeV_6 : decode b_D_takeV 6 = .ok (.aload_n 0, 1) := by decide +kernel
theorem d_D_takeV_7 : decode b_D_takeV 7 = .ok (.getfield 18, 3) := by decide +kernel
theorem d_D_takeV_10 : decode b_D_takeV 10 = .ok (.if_icmp .ne 13, 3) := by decide +kernel
theorem d_D_takeV_13 : decode b_D_takeV 13 = .ok (.aload_n 0, 1) := by decide +kernel
theorem d_D_takeV_14 : decode b_D_takeV 14 = .ok (.dup, 1) := by decide +kernel
theorem d_D_takeV_15 : decode b_D_takeV 15 = .ok (.getfield 30, 3) := by decide +kernel
theorem d_D_takeV_18 : decode b_D_takeV 18 = .ok (.iconst 1, 1) := by decide +kernel
theorem d_D_takeV_19 : decode b_D_takeV 19 = .ok (.iadd, 1) := by decide +kernel
theorem d_D_takeV_20 : decode b_D_takeV 20 = .ok (.putfield 30, 3) := by decide +kernel
theorem d_D_takeV_23 : decode b_D_takeV 23 = .ok (.aload_n 0, 1) := by decide +kernel
theorem d_D_takeV_24 : decode b_D_takeV 24 = .ok (.iload_n 1, 1) := by decide +kernel
theorem d_D_takeV_25 : decode b_D_takeV 25 = .ok (.putfield 18, 3) := by decide +kernel
theorem d_D_takeV_28 : decode b_D_takeV 28 = .ok (.return_, 1) := by decide +kernel
theorem d_E_symbolBehind_0 : decode b_E_symbolBehind 0 = .ok (.iload_n 1, 1) := by decide +kernel
theorem d_E_symbolBehind_1 : decode b_E_symbolBehind 1 = .ok (.iconst 1, 1) := by decide +kernel
theorem d_E_symbolBehind_2 : decode b_E_symbolBehind 2 = .ok (.if_icmp .ne 10, 3) := by decide +kernel
theorem d_E_symbolBehind_5 : decode b_E_symbolBehind 5 = .ok (.aload_n 0, 1) := by decide +kernel
theorem d_E_symbolBehind_6 : decode b_E_symbolBehind 6 = .ok (.invokevirtual 31, 3) := by decide +kernel
theorem d_E_symbolBehind_9 : decode b_E_symbolBehind 9 = .ok (.goto 7, 3) := by decide +kernel
theorem d_E_symbolBehind_12 : decode b_E_symbolBehind 12 = .ok (.aload_n 0, 1) := by decide +kernel
theorem d_E_symbolBehind_13 : decode b_E_symbolBehind 13 = .ok (.invokevirtual 35, 3) := by decide +kernel
theorem d_E_symbolBehind_16 : decode b_E_symbolBehind 16 = .ok (.istore_n 2, 1) := by decide +kernel
theorem d_E_symbolBehind_17 : decode b_E_symbolBehind 17 = .ok (.aload_n 0, 1) := by decide +kernel
theorem d_E_symbolBehind_18 : decode b_E_symbolBehind 18 = .ok (.getfield 22, 3) := by decide +kernel
theorem d_E_symbolBehind_21 : decode b_E_symbolBehind 21 = .ok (.istore_n 3, 1) := by decide +kernel
theorem d_E_symbolBehind_22 : decode b_E_symbolBehind 22 = .ok (.aload_n 0, 1) := by decide +kernel
theorem d_E_symbolBehind_23 : decode b_E_symbolBehind 23 = .ok (.aload_n 0, 1) := by decide +kernel
theorem d_E_symbolBehind_24 : decode b_E_symbolBehind 24 = .ok (.getfield 25, 3) := by decide +kernel
theorem d_E_symbolBehind_27 : decode b_E_symbolBehind 27 = .ok (.putfield 22, 3) := by decide +kernel
theorem d_E_symbolBehind_30 : decode b_E_symbolBehind 30 = .ok (.aload_n 0, 1) := by decide +kernel
theorem d_E_symbolBehind_31 : decode b_E_symbolBehind 31 = .ok (.aload_n 0, 1) := by decide +kernel
theorem d_E_symbolBehind_32 : decode b_E_symbolBehind 32 = .ok (.getfield 28, 3) := by decide +kernel
theorem d_E_symbolBehind_35 : decode b_E_symbolBehind 35 = .ok (.putfield 25, 3) := by decide +kernel
theorem d_E_symbolBehind_38 : decode b_E_symbolBehind 38 = .ok (.aload_n 0, 1) := by decide +kernel
theorem d_E_symbolBehind_39 : decode b_E_symbolBehind 39 = .ok (.iload_n 2, 1) := by decide +kernel
theorem d_E_symbolBehind_40 : decode b_E_symbolBehind 40 = .ok (.putfield 28, 3) := by decide +kernel
theorem d_E_symbolBehind_43 : decode b_E_symbolBehind 43 = .ok (.iload_n 3, 1) := by decide +kernel
theorem d_E_symbolBehind_44 : decode b_E_symbolBehind 44 = .ok (.ireturn, 1) := by decide +kernel
theorem d_E_pulseOfOne_0 : decode b_E_pulseOfOne 0 = .ok (.aload_n 0, 1) := by decide +kernel
theorem d_E_pulseOfOne_1 : decode b_E_pulseOfOne 1 = .ok (.iconst 0, 1) := by decide +kernel
theorem d_E_pulseOfOne_2 : decode b_E_pulseOfOne 2 = .ok (.putfield 19, 3) := by decide +kernel
theorem d_E_pulseOfOne_5 : decode b_E_pulseOfOne 5 = .ok (.aload_n 0, 1) := by decide +kernel
theorem d_E_pulseOfOne_6 : decode b_E_pulseOfOne 6 = .ok (.aload_n 0, 1) := by decide +kernel
theorem d_E_pulseOfOne_7 : decode b_E_pulseOfOne 7 = .ok (.getfield 15, 3) := by decide +kernel
theorem d_E_pulseOfOne_10 : decode b_E_pulseOfOne 10 = .ok (.ifCond .ne 7, 3) := by decide +kernel
theorem d_E_pulseOfOne_13 : decode b_E_pulseOfOne 13 = .ok (.iconst 1, 1) := by decide +kernel
theorem d_E_pulseOfOne_14 : decode b_E_pulseOfOne 14 = .ok (.goto 4, 3) := by decide +kernel
theorem d_E_pulseOfOne_17 : decode b_E_pulseOfOne 17 = .ok (.iconst 0, 1) := by decide +kernel
theorem d_E_pulseOfOne_18 : decode b_E_pulseOfOne 18 = .ok (.putfield 15, 3) := by decide +kernel
theorem d_E_pulseOfOne_21 : decode b_E_pulseOfOne 21 = .ok (.aload_n 0, 1) := by decide +kernel
theorem d_E_pulseOfOne_22 : decode b_E_pulseOfOne 22 = .ok (.aload_n 0, 1) := by decide +kernel
theorem d_E_pulseOfOne_23 : decode b_E_pulseOfOne 23 = .ok (.getfield 9, 3) := by decide +kernel
theorem d_E_pulseOfOne_26 : decode b_E_pulseOfOne 26 = .ok (.ineg, 1) := by decide +kernel
theorem d_E_pulseOfOne_27 : decode b_E_pulseOfOne 27 = .ok (.putfield 9, 3) := by decide +kernel
theorem d_E_pulseOfOne_30 : decode b_E_pulseOfOne 30 = .ok (.aload_n 0, 1) := by decide +kernel
theorem d_E_pulseOfOne_31 : decode b_E_pulseOfOne 31 = .ok (.getfield 9, 3) := by decide +kernel
theorem d_E_pulseOfOne_34 : decode b_E_pulseOfOne 34 = .ok (.ireturn, 1) := by decide +kernel
theorem d_E_symbolOfZero_0 : decode b_E_symbolOfZero 0 = .ok (.aload_n 0, 1) := by decide +kernel
theorem d_E_symbolOfZero_1 : decode b_E_symbolOfZero 1 = .ok (.dup, 1) := by decide +kernel
theorem d_E_symbolOfZero_2 : decode b_E_symbolOfZero 2 = .ok (.getfield 19, 3) := by decide +kernel
theorem d_E_symbolOfZero_5 : decode b_E_symbolOfZero 5 = .ok (.iconst 1, 1) := by decide +kernel
theorem d_E_symbolOfZero_6 : decode b_E_symbolOfZero 6 = .ok (.iadd, 1) := by decide +kernel
theorem d_E_symbolOfZero_7 : decode b_E_symbolOfZero 7 = .ok (.putfield 19, 3) := by decide +kernel
theorem d_E_symbolOfZero_10 : decode b_E_symbolOfZero 10 = .ok (.aload_n 0, 1) := by decide +kernel
theorem d_E_symbolOfZero_11 : decode b_E_symbolOfZero 11 = .ok (.getfield 19, 3) := by decide +kernel
theorem d_E_symbolOfZero_14 : decode b_E_symbolOfZero 14 = .ok (.iconst 3, 1) := by decide +kernel
theorem d_E_symbolOfZero_15 : decode b_E_symbolOfZero 15 = .ok (.if_icmp .gt 5, 3) := by decide +kernel
theorem d_E_symbolOfZero_18 : decode b_E_symbolOfZero 18 = .ok (.iconst 0, 1) := by decide +kernel
theorem d_E_symbolOfZero_19 : decode b_E_symbolOfZero 19 = .ok (.ireturn, 1) := by decide +kernel
theorem d_E_symbolOfZero_20 : decode b_E_symbolOfZero 20 = .ok (.aload_n 0, 1) := by decide +kernel
theorem d_E_symbolOfZero_21 : decode b_E_symbolOfZero 21 = .ok (.getfield 15, 3) := by decide +kernel
theorem d_E_symbolOfZero_24 : decode b_E_symbolOfZero 24 = .ok (.ifCond .ne 20, 3) := by decide +kernel
theorem d_E_symbolOfZero_27 : decode b_E_symbolOfZero 27 = .ok (.aload_n 0, 1) := by decide +kernel
theorem d_E_symbolOfZero_28 : decode b_E_symbolOfZero 28 = .ok (.aload_n 0, 1) := by decide +kernel
theorem d_E_symbolOfZero_29 : decode b_E_symbolOfZero 29 = .ok (.getfield 9, 3) := by decide +kernel
theorem d_E_symbolOfZero_32 : decode b_E_symbolOfZero 32 = .ok (.ineg, 1) := by decide +kernel
theorem d_E_symbolOfZero_33 : decode b_E_symbolOfZero 33 = .ok (.putfield 9, 3) := by decide +kernel
theorem d_E_symbolOfZero_36 : decode b_E_symbolOfZero 36 = .ok (.aload_n 0, 1) := by decide +kernel
theorem d_E_symbolOfZero_37 : decode b_E_symbolOfZero 37 = .ok (.aload_n 0, 1) := by decide +kernel
theorem d_E_symbolOfZero_38 : decode b_E_symbolOfZero 38 = .ok (.getfield 9, 3) := by decide +kernel
theorem d_E_symbolOfZero_41 : decode b_E_symbolOfZero 41 = .ok (.putfield 22, 3) := by decide +kernel
theorem d_E_symbolOfZero_44 : decode b_E_symbolOfZero 44 = .ok (.aload_n 0, 1) := by decide +kernel
theorem d_E_symbolOfZero_45 : decode b_E_symbolOfZero 45 = .ok (.iconst 0, 1) := by decide +kernel
theorem d_E_symbolOfZero_46 : decode b_E_symbolOfZero 46 = .ok (.putfield 19, 3) := by decide +kernel
theorem d_E_symbolOfZero_49 : decode b_E_symbolOfZero 49 = .ok (.aload_n 0, 1) := by decide +kernel
theorem d_E_symbolOfZero_50 : decode b_E_symbolOfZero 50 = .ok (.iconst 0, 1) := by decide +kernel
theorem d_E_symbolOfZero_51 : decode b_E_symbolOfZero 51 = .ok (.putfield 15, 3) := by decide +kernel
theorem d_E_symbolOfZero_54 : decode b_E_symbolOfZero 54 = .ok (.aload_n 0, 1) := by decide +kernel
theorem d_E_symbolOfZero_55 : decode b_E_symbolOfZero 55 = .ok (.getfield 9, 3) := by decide +kernel
theorem d_E_symbolOfZero_58 : decode b_E_symbolOfZero 58 = .ok (.ireturn, 1) := by decide +kernel
theorem d_N_send_0 : decode b_N_send 0 = .ok (.aload_n 0, 1) := by decide +kernel
theorem d_N_send_1 : decode b_N_send 1 = .ok (.getfield 12, 3) := by decide +kernel
theorem d_N_send_4 : decode b_N_send 4 = .ok (.invokevirtual 46, 3) := by decide +kernel
theorem d_N_send_7 : decode b_N_send 7 = .ok (.ifCond .eq 14, 3) := by decide +kernel
theorem d_N_send_10 : decode b_N_send 10 = .ok (.aload_n 0, 1) := by decide +kernel
theorem d_N_send_11 : decode b_N_send 11 = .ok (.getfield 12, 3) := by decide +kernel
theorem d_N_send_14 : decode b_N_send 14 = .ok (.aload_n 0, 1) := by decide +kernel
theorem d_N_send_15 : decode b_N_send 15 = .ok (.getfield 42, 3) := by decide +kernel
theorem d_N_send_18 : decode b_N_send 18 = .ok (.invokevirtual 50, 3) := by decide +kernel
theorem d_N_send_21 : decode b_N_send 21 = .ok (.aload_n 0, 1) := by decide +kernel
theorem d_N_send_22 : decode b_N_send 22 = .ok (.getfield 21, 3) := by decide +kernel
theorem d_N_send_25 : decode b_N_send 25 = .ok (.aload_n 0, 1) := by decide +kernel
theorem d_N_send_26 : decode b_N_send 26 = .ok (.getfield 12, 3) := by decide +kernel
theorem d_N_send_29 : decode b_N_send 29 = .ok (.invokevirtual 54, 3) := by decide +kernel
theorem d_N_send_32 : decode b_N_send 32 = .ok (.invokevirtual 58, 3) := by decide +kernel
theorem d_N_send_35 : decode b_N_send 35 = .ok (.ireturn, 1) := by decide +kernel
theorem d_N_receive_0 : decode b_N_receive 0 = .ok (.aload_n 0, 1) := by decide +kernel
theorem d_N_receive_1 : decode b_N_receive 1 = .ok (.getfield 28, 3) := by decide +kernel
theorem d_N_receive_4 : decode b_N_receive 4 = .ok (.iload_n 1, 1) := by decide +kernel
theorem d_N_receive_5 : decode b_N_receive 5 = .ok (.iload_n 2, 1) := by decide +kernel
theorem d_N_receive_6 : decode b_N_receive 6 = .ok (.invokevirtual 62, 3) := by decide +kernel
theorem d_N_receive_9 : decode b_N_receive 9 = .ok (.istore_n 3, 1) := by decide +kernel
theorem d_N_receive_10 : decode b_N_receive 10 = .ok (.aload_n 0, 1) := by decide +kernel
theorem d_N_receive_11 : decode b_N_receive 11 = .ok (.getfield 28, 3) := by decide +kernel
theorem d_N_receive_14 : decode b_N_receive 14 = .ok (.invokevirtual 66, 3) := by decide +kernel
theorem d_N_receive_17 : decode b_N_receive 17 = .ok (.istore 4, 2) := by decide +kernel
theorem d_N_receive_19 : decode b_N_receive 19 = .ok (.iconst 0, 1) := by decide +kernel
theorem d_N_receive_20 : decode b_N_receive 20 = .ok (.istore 5, 2) := by decide +kernel
theorem d_N_receive_22 : decode b_N_receive 22 = .ok (.iload 5, 2) := by decide +kernel
theorem d_N_receive_24 : decode b_N_receive 24 = .ok (.iload 4, 2) := by decide +kernel
theorem d_N_receive_26 : decode b_N_receive 26 = .ok (.if_icmp .ge 34, 3) := by decide +kernel
theorem d_N_receive_29 : decode b_N_receive 29 = .ok (.aload_n 0, 1) := by decide +kernel
theorem d_N_receive_30 : decode b_N_receive 30 = .ok (.getfield 35, 3) := by decide +kernel
theorem d_N_receive_33 : decode b_N_receive 33 = .ok (.iload_n 3, 1) := by decide +kernel
theorem d_N_receive_34 : decode b_N_receive 34 = .ok (.invokevirtual 69, 3) := by decide +kernel
theorem d_N_receive_37 : decode b_N_receive 37 = .ok (.istore 6, 2) := by decide +kernel
theorem d_N_receive_39 : decode b_N_receive 39 = .ok (.iload 6, 2) := by decide +kernel
theorem d_N_receive_41 : decode b_N_receive 41 = .ok (.iconst (-1), 1) := by decide +kernel
theorem d_N_receive_42 : decode b_N_receive 42 = .ok (.if_icmp .eq 12, 3) := by decide +kernel
theorem d_N_receive_45 : decode b_N_receive 45 = .ok (.aload_n 0, 1) := by decide +kernel
theorem d_N_receive_46 : decode b_N_receive 46 = .ok (.getfield 42, 3) := by decide +kernel
theorem d_N_receive_49 : decode b_N_receive 49 = .ok (.iload 6, 2) := by decide +kernel
theorem d_N_receive_51 : decode b_N_receive 51 = .ok (.invokevirtual 72, 3) := by decide +kernel
theorem d_N_receive_54 : decode b_N_receive 54 = .ok (.iinc 5 1, 3) := by decide +kernel
theorem d_N_receive_57 : decode b_N_receive 57 = .ok (.goto (-35), 3) := by decide +kernel
theorem d_N_receive_60 : decode b_N_receive 60 = .ok (.return_, 1) := by decide +kernel
theorem d_R_isAligned_0 : decode b_R_isAligned 0 = .ok (.aload_n 0, 1) := by decide +kernel
theorem d_R_isAligned_1 : decode b_R_isAligned 1 = .ok (.getfield 24, 3) := by decide +kernel
theorem d_R_isAligned_4 : decode b_R_isAligned 4 = .ok (.getstatic 53, 3) := by decide +kernel
theorem d_R_isAligned_7 : decode b_R_isAligned 7 = .ok (.if_acmp .ne 7, 3) := by decide +kernel
theorem d_R_isAligned_10 : decode b_R_isAligned 10 = .ok (.iconst 1, 1) := by decide +kernel
theorem d_R_isAligned_11 : decode b_R_isAligned 11 = .ok (.goto 4, 3) := by decide +kernel
theorem d_R_isAligned_14 : decode b_R_isAligned 14 = .ok (.iconst 0, 1) := by decide +kernel
theorem d_R_isAligned_15 : decode b_R_isAligned 15 = .ok (.ireturn, 1) := by decide +kernel
theorem d_R_byteOf_0 : decode b_R_byteOf 0 = .ok (.aload_n 0, 1) := by decide +kernel
theorem d_R_byteOf_1 : decode b_R_byteOf 1 = .ok (.getfield 44, 3) := by decide +kernel
theorem d_R_byteOf_4 : decode b_R_byteOf 4 = .ok (.ifCond .ne 5, 3) := by decide +kernel
theorem d_R_byteOf_7 : decode b_R_byteOf 7 = .ok (.iconst (-1), 1) := by decide +kernel
theorem d_R_byteOf_8 : decode b_R_byteOf 8 = .ok (.ireturn, 1) := by decide +kernel
theorem d_R_byteOf_9 : decode b_R_byteOf 9 = .ok (.aload_n 0, 1) := by decide +kernel
theorem d_R_byteOf_10 : decode b_R_byteOf 10 = .ok (.getfield 41, 3) := by decide +kernel
theorem d_R_byteOf_13 : decode b_R_byteOf 13 = .ok (.bipush 32, 2) := by decide +kernel
theorem d_R_byteOf_15 : decode b_R_byteOf 15 = .ok (.bipush 8, 2) := by decide +kernel
theorem d_R_byteOf_17 : decode b_R_byteOf 17 = .ok (.iload_n 1, 1) := by decide +kernel
theorem d_R_byteOf_18 : decode b_R_byteOf 18 = .ok (.iconst 1, 1) := by decide +kernel
theorem d_R_byteOf_19 : decode b_R_byteOf 19 = .ok (.iadd, 1) := by decide +kernel
theorem d_R_byteOf_20 : decode b_R_byteOf 20 = .ok (.imul, 1) := by decide +kernel
theorem d_R_byteOf_21 : decode b_R_byteOf 21 = .ok (.isub, 1) := by decide +kernel
theorem d_R_byteOf_22 : decode b_R_byteOf 22 = .ok (.iushr, 1) := by decide +kernel
theorem d_R_byteOf_23 : decode b_R_byteOf 23 = .ok (.sipush 255, 3) := by decide +kernel
theorem d_R_byteOf_26 : decode b_R_byteOf 26 = .ok (.iand, 1) := by decide +kernel
theorem d_R_byteOf_27 : decode b_R_byteOf 27 = .ok (.ireturn, 1) := by decide +kernel
theorem d_R_takeBit_0 : decode b_R_takeBit 0 = .ok (.aload_n 0, 1) := by decide +kernel
theorem d_R_takeBit_1 : decode b_R_takeBit 1 = .ok (.aload_n 0, 1) := by decide +kernel
theorem d_R_takeBit_2 : decode b_R_takeBit 2 = .ok (.getfield 27, 3) := by decide +kernel
theorem d_R_takeBit_5 : decode b_R_takeBit 5 = .ok (.iconst 1, 1) := by decide +kernel
theorem d_R_takeBit_6 : decode b_R_takeBit 6 = .ok (.ishl, 1) := by decide +kernel
theorem d_R_takeBit_7 : decode b_R_takeBit 7 = .ok (.iload_n 1, 1) := by decide +kernel
theorem d_R_takeBit_8 : decode b_R_takeBit 8 = .ok (.ior, 1) := by decide +kernel
theorem d_R_takeBit_9 : decode b_R_takeBit 9 = .ok (.putfield 27, 3) := by decide +kernel
theorem d_R_takeBit_12 : decode b_R_takeBit 12 = .ok (.aload_n 0, 1) := by decide +kernel
theorem d_R_takeBit_13 : decode b_R_takeBit 13 = .ok (.dup, 1) := by decide +kernel
theorem d_R_takeBit_14 : decode b_R_takeBit 14 = .ok (.getfield 31, 3) := by decide +kernel
theorem d_R_takeBit_17 : decode b_R_takeBit 17 = .ok (.iconst 1, 1) := by decide +kernel
theorem d_R_takeBit_18 : decode b_R_takeBit 18 = .ok (.iadd, 1) := by decide +kernel
theorem d_R_takeBit_19 : decode b_R_takeBit 19 = .ok (.putfield 31, 3) := by decide +kernel
theorem d_R_takeBit_22 : decode b_R_takeBit 22 = .ok (.aload_n 0, 1) := by decide +kernel
theorem d_R_takeBit_23 : decode b_R_takeBit 23 = .ok (.getfield 24, 3) := by decide +kernel
theorem d_R_takeBit_26 : decode b_R_takeBit 26 = .ok (.getstatic 18, 3) := by decide +kernel
theorem d_R_takeBit_29 : decode b_R_takeBit 29 = .ok (.if_acmp .ne 10, 3) := by decide +kernel
theorem d_R_takeBit_32 : decode b_R_takeBit 32 = .ok (.aload_n 0, 1) := by decide +kernel
theorem d_R_takeBit_33 : decode b_R_takeBit 33 = .ok (.invokevirtual 56, 3) := by decide +kernel
theorem d_R_takeBit_36 : decode b_R_takeBit 36 = .ok (.goto 57, 3) := by decide +kernel
theorem d_R_takeBit_39 : decode b_R_takeBit 39 = .ok (.aload_n 0, 1) := by decide +kernel
theorem d_R_takeBit_40 : decode b_R_takeBit 40 = .ok (.getfield 24, 3) := by decide +kernel
theorem d_R_takeBit_43 : decode b_R_takeBit 43 = .ok (.getstatic 59, 3) := by decide +kernel
theorem d_R_takeBit_46 : decode b_R_takeBit 46 = .ok (.if_acmp .ne 11, 3) := by decide +kernel
theorem d_R_takeBit_49 : decode b_R_takeBit 49 = .ok (.aload_n 0, 1) := by decide +kernel
theorem d_R_takeBit_50 : decode b_R_takeBit 50 = .ok (.iload_n 1, 1) := by decide +kernel
theorem d_R_takeBit_51 : decode b_R_takeBit 51 = .ok (.invokevirtual 62, 3) := by decide +kernel
theorem d_R_takeBit_54 : decode b_R_takeBit 54 = .ok (.goto 39, 3) := by decide +kernel
theorem d_R_takeBit_57 : decode b_R_takeBit 57 = .ok (.aload_n 0, 1) := by decide +kernel
theorem d_R_takeBit_58 : decode b_R_takeBit 58 = .ok (.getfield 31, 3) := by decide +kernel
theorem d_R_takeBit_61 : decode b_R_takeBit 61 = .ok (.bipush 32, 2) := by decide +kernel
theorem d_R_takeBit_63 : decode b_R_takeBit 63 = .ok (.if_icmp .ne 10, 3) := by decide +kernel
theorem d_R_takeBit_66 : decode b_R_takeBit 66 = .ok (.aload_n 0, 1) := by decide +kernel
theorem d_R_takeBit_67 : decode b_R_takeBit 67 = .ok (.invokevirtual 66, 3) := by decide +kernel
theorem d_R_takeBit_70 : decode b_R_takeBit 70 = .ok (.goto 23, 3) := by decide +kernel
theorem d_R_takeBit_73 : decode b_R_takeBit 73 = .ok (.aload_n 0, 1) := by decide +kernel
theorem d_R_takeBit_74 : decode b_R_takeBit 74 = .ok (.getfield 31, 3) := by decide +kernel
theorem d_R_takeBit_77 : decode b_R_takeBit 77 = .ok (.bipush 8, 2) := by decide +kernel
theorem d_R_takeBit_79 : decode b_R_takeBit 79 = .ok (.if_icmp .ne 14, 3) := by decide +kernel
theorem d_R_takeBit_82 : decode b_R_takeBit 82 = .ok (.aload_n 0, 1) := by decide +kernel
theorem d_R_takeBit_83 : decode b_R_takeBit 83 = .ok (.getfield 34, 3) := by decide +kernel
theorem d_R_takeBit_86 : decode b_R_takeBit 86 = .ok (.ifCond .ne 7, 3) := by decide +kernel
theorem d_R_takeBit_89 : decode b_R_takeBit 89 = .ok (.aload_n 0, 1) := by decide +kernel
theorem d_R_takeBit_90 : decode b_R_takeBit 90 = .ok (.invokevirtual 69, 3) := by decide +kernel
theorem d_R_takeBit_93 : decode b_R_takeBit 93 = .ok (.return_, 1) := by decide +kernel
theorem d_R_search_0 : decode b_R_search 0 = .ok (.aload_n 0, 1) := by decide +kernel
theorem d_R_search_1 : decode b_R_search 1 = .ok (.getfield 31, 3) := by decide +kernel
theorem d_R_search_4 : decode b_R_search 4 = .ok (.bipush 7, 2) := by decide +kernel
theorem d_R_search_6 : decode b_R_search 6 = .ok (.if_icmp .lt 17, 3) := by decide +kernel
theorem d_R_search_9 : decode b_R_search 9 = .ok (.aload_n 0, 1) := by decide +kernel
theorem d_R_search_10 : decode b_R_search 10 = .ok (.invokevirtual 72, 3) := by decide +kernel
theorem d_R_search_13 : decode b_R_search 13 = .ok (.ifCond .eq 10, 3) := by decide +kernel
theorem d_R_search_16 : decode b_R_search 16 = .ok (.aload_n 0, 1) := by decide +kernel
theorem d_R_search_17 : decode b_R_search 17 = .ok (.getstatic 59, 3) := by decide +kernel
theorem d_R_search_20 : decode b_R_search 20 = .ok (.invokevirtual 76, 3) := by decide +kernel
theorem d_R_search_23 : decode b_R_search 23 = .ok (.return_, 1) := by decide +kernel
theorem d_R_tryWord_0 : decode b_R_tryWord 0 = .ok (.aload_n 0, 1) := by decide +kernel
theorem d_R_tryWord_1 : decode b_R_tryWord 1 = .ok (.getfield 31, 3) := by decide +kernel
theorem d_R_tryWord_4 : decode b_R_tryWord 4 = .ok (.bipush 26, 2) := by decide +kernel
theorem d_R_tryWord_6 : decode b_R_tryWord 6 = .ok (.if_icmp .ne 17, 3) := by decide +kernel
theorem d_R_tryWord_9 : decode b_R_tryWord 9 = .ok (.iload_n 1, 1) := by decide +kernel
theorem d_R_tryWord_10 : decode b_R_tryWord 10 = .ok (.ifCond .ne 13, 3) := by decide +kernel
theorem d_R_tryWord_13 : decode b_R_tryWord 13 = .ok (.aload_n 0, 1) := by decide +kernel
theorem d_R_tryWord_14 : decode b_R_tryWord 14 = .ok (.getstatic 18, 3) := by decide +kernel
theorem d_R_tryWord_17 : decode b_R_tryWord 17 = .ok (.invokevirtual 76, 3) := by decide +kernel
theorem d_R_tryWord_20 : decode b_R_tryWord 20 = .ok (.goto 33, 3) := by decide +kernel
theorem d_R_tryWord_23 : decode b_R_tryWord 23 = .ok (.aload_n 0, 1) := by decide +kernel
theorem d_R_tryWord_24 : decode b_R_tryWord 24 = .ok (.getfield 31, 3) := by decide +kernel
theorem d_R_tryWord_27 : decode b_R_tryWord 27 = .ok (.bipush 64, 2) := by decide +kernel
theorem d_R_tryWord_29 : decode b_R_tryWord 29 = .ok (.if_icmp .ne 24, 3) := by decide +kernel
theorem d_R_tryWord_32 : decode b_R_tryWord 32 = .ok (.aload_n 0, 1) := by decide +kernel
theorem d_R_tryWord_33 : decode b_R_tryWord 33 = .ok (.invokevirtual 72, 3) := by decide +kernel
theorem d_R_tryWord_36 : decode b_R_tryWord 36 = .ok (.ifCond .eq 10, 3) := by decide +kernel
theorem d_R_tryWord_39 : decode b_R_tryWord 39 = .ok (.aload_n 0, 1) := by decide +kernel
theorem d_R_tryWord_40 : decode b_R_tryWord 40 = .ok (.invokevirtual 80, 3) := by decide +kernel
theorem d_R_tryWord_43 : decode b_R_tryWord 43 = .ok (.goto 10, 3) := by decide +kernel
theorem d_R_tryWord_46 : decode b_R_tryWord 46 = .ok (.aload_n 0, 1) := by decide +kernel
theorem d_R_tryWord_47 : decode b_R_tryWord 47 = .ok (.getstatic 18, 3) := by decide +kernel
theorem d_R_tryWord_50 : decode b_R_tryWord 50 = .ok (.invokevirtual 76, 3) := by decide +kernel
theorem d_R_tryWord_53 : decode b_R_tryWord 53 = .ok (.return_, 1) := by decide +kernel
theorem d_R_align_0 : decode b_R_align 0 = .ok (.aload_n 0, 1) := by decide +kernel
theorem d_R_align_1 : decode b_R_align 1 = .ok (.getstatic 53, 3) := by decide +kernel
theorem d_R_align_4 : decode b_R_align 4 = .ok (.invokevirtual 76, 3) := by decide +kernel
theorem d_R_align_7 : decode b_R_align 7 = .ok (.aload_n 0, 1) := by decide +kernel
theorem d_R_align_8 : decode b_R_align 8 = .ok (.bipush 8, 2) := by decide +kernel
theorem d_R_align_10 : decode b_R_align 10 = .ok (.putfield 31, 3) := by decide +kernel
theorem d_R_align_13 : decode b_R_align 13 = .ok (.aload_n 0, 1) := by decide +kernel
theorem d_R_align_14 : decode b_R_align 14 = .ok (.iconst 0, 1) := by decide +kernel
theorem d_R_align_15 : decode b_R_align 15 = .ok (.putfield 34, 3) := by decide +kernel
theorem d_R_align_18 : decode b_R_align 18 = .ok (.aload_n 0, 1) := by decide +kernel
theorem d_R_align_19 : decode b_R_align 19 = .ok (.iconst 0, 1) := by decide +kernel
theorem d_R_align_20 : decode b_R_align 20 = .ok (.putfield 38, 3) := by decide +kernel
theorem d_R_align_23 : decode b_R_align 23 = .ok (.return_, 1) := by decide +kernel
theorem d_R_lookAtWord_0 : decode b_R_lookAtWord 0 = .ok (.aload_n 0, 1) := by decide +kernel
theorem d_R_lookAtWord_1 : decode b_R_lookAtWord 1 = .ok (.aload_n 0, 1) := by decide +kernel
theorem d_R_lookAtWord_2 : decode b_R_lookAtWord 2 = .ok (.invokevirtual 72, 3) := by decide +kernel
theorem d_R_lookAtWord_5 : decode b_R_lookAtWord 5 = .ok (.ifCond .eq 7, 3) := by decide +kernel
theorem d_R_lookAtWord_8 : decode b_R_lookAtWord 8 = .ok (.iconst 0, 1) := by decide +kernel
theorem d_R_lookAtWord_9 : decode b_R_lookAtWord 9 = .ok (.goto 9, 3) := by decide +kernel
theorem d_R_lookAtWord_12 : decode b_R_lookAtWord 12 = .ok (.aload_n 0, 1) := by decide +kernel
theorem d_R_lookAtWord_13 : decode b_R_lookAtWord 13 = .ok (.getfield 38, 3) := by decide +kernel
theorem d_R_lookAtWord_16 : decode b_R_lookAtWord 16 = .ok (.iconst 1, 1) := by decide +kernel
theorem d_R_lookAtWord_17 : decode b_R_lookAtWord 17 = .ok (.iadd, 1) := by decide +kernel
theorem d_R_lookAtWord_18 : decode b_R_lookAtWord 18 = .ok (.putfield 38, 3) := by decide +kernel
theorem d_R_lookAtWord_21 : decode b_R_lookAtWord 21 = .ok (.aload_n 0, 1) := by decide +kernel
theorem d_R_lookAtWord_22 : decode b_R_lookAtWord 22 = .ok (.getfield 38, 3) := by decide +kernel
theorem d_R_lookAtWord_25 : decode b_R_lookAtWord 25 = .ok (.iconst 3, 1) := by decide +kernel
theorem d_R_lookAtWord_26 : decode b_R_lookAtWord 26 = .ok (.if_icmp .ne 27, 3) := by decide +kernel
theorem d_R_lookAtWord_29 : decode b_R_lookAtWord 29 = .ok (.aload_n 0, 1) := by decide +kernel
theorem d_R_lookAtWord_30 : decode b_R_lookAtWord 30 = .ok (.dup, 1) := by decide +kernel
theorem d_R_lookAtWord_31 : decode b_R_lookAtWord 31 = .ok (.getfield 47, 3) := by decide +kernel
theorem d_R_lookAtWord_34 : decode b_R_lookAtWord 34 = .ok (.iconst 1, 1) := by decide +kernel
theorem d_R_lookAtWord_35 : decode b_R_lookAtWord 35 = .ok (.iadd, 1) := by decide +kernel
theorem d_R_lookAtWord_36 : decode b_R_lookAtWord 36 = .ok (.putfield 47, 3) := by decide +kernel
theorem d_R_lookAtWord_39 : decode b_R_lookAtWord 39 = .ok (.aload_n 0, 1) := by decide +kernel
theorem d_R_lookAtWord_40 : decode b_R_lookAtWord 40 = .ok (.getstatic 18, 3) := by decide +kernel
theorem d_R_lookAtWord_43 : decode b_R_lookAtWord 43 = .ok (.invokevirtual 76, 3) := by decide +kernel
theorem d_R_lookAtWord_46 : decode b_R_lookAtWord 46 = .ok (.aload_n 0, 1) := by decide +kernel
theorem d_R_lookAtWord_47 : decode b_R_lookAtWord 47 = .ok (.getfield 12, 3) := by decide +kernel
theorem d_R_lookAtWord_50 : decode b_R_lookAtWord 50 = .ok (.invokevirtual 83, 3) := by decide +kernel
theorem d_R_lookAtWord_53 : decode b_R_lookAtWord 53 = .ok (.return_, 1) := by decide +kernel
theorem d_R_complete_0 : decode b_R_complete 0 = .ok (.aload_n 0, 1) := by decide +kernel
theorem d_R_complete_1 : decode b_R_complete 1 = .ok (.aload_n 0, 1) := by decide +kernel
theorem d_R_complete_2 : decode b_R_complete 2 = .ok (.getfield 27, 3) := by decide +kernel
theorem d_R_complete_5 : decode b_R_complete 5 = .ok (.putfield 41, 3) := by decide +kernel
theorem d_R_complete_8 : decode b_R_complete 8 = .ok (.aload_n 0, 1) := by decide +kernel
theorem d_R_complete_9 : decode b_R_complete 9 = .ok (.dup, 1) := by decide +kernel
theorem d_R_complete_10 : decode b_R_complete 10 = .ok (.getfield 44, 3) := by decide +kernel
theorem d_R_complete_13 : decode b_R_complete 13 = .ok (.iconst 1, 1) := by decide +kernel
theorem d_R_complete_14 : decode b_R_complete 14 = .ok (.iadd, 1) := by decide +kernel
theorem d_R_complete_15 : decode b_R_complete 15 = .ok (.putfield 44, 3) := by decide +kernel
theorem d_R_complete_18 : decode b_R_complete 18 = .ok (.aload_n 0, 1) := by decide +kernel
theorem d_R_complete_19 : decode b_R_complete 19 = .ok (.getfield 34, 3) := by decide +kernel
theorem d_R_complete_22 : decode b_R_complete 22 = .ok (.ifCond .eq 23, 3) := by decide +kernel
theorem d_R_complete_25 : decode b_R_complete 25 = .ok (.aload_n 0, 1) := by decide +kernel
theorem d_R_complete_26 : decode b_R_complete 26 = .ok (.aload_n 0, 1) := by decide +kernel
theorem d_R_complete_27 : decode b_R_complete 27 = .ok (.iconst 0, 1) := by decide +kernel
theorem d_R_complete_28 : decode b_R_complete 28 = .ok (.invokevirtual 86, 3) := by decide +kernel
theorem d_R_complete_31 : decode b_R_complete 31 = .ok (.bipush 32, 2) := by decide +kernel
theorem d_R_complete_33 : decode b_R_complete 33 = .ok (.iand, 1) := by decide +kernel
theorem d_R_complete_34 : decode b_R_complete 34 = .ok (.ifCond .eq 7, 3) := by decide +kernel
theorem d_R_complete_37 : decode b_R_complete 37 = .ok (.iconst 1, 1) := by decide +kernel
theorem d_R_complete_38 : decode b_R_complete 38 = .ok (.goto 4, 3) := by decide +kernel
theorem d_R_complete_41 : decode b_R_complete 41 = .ok (.iconst 0, 1) := by decide +kernel
theorem d_R_complete_42 : decode b_R_complete 42 = .ok (.putfield 50, 3) := by decide +kernel
theorem d_R_complete_45 : decode b_R_complete 45 = .ok (.aload_n 0, 1) := by decide +kernel
theorem d_R_complete_46 : decode b_R_complete 46 = .ok (.getfield 12, 3) := by decide +kernel
theorem d_R_complete_49 : decode b_R_complete 49 = .ok (.aload_n 0, 1) := by decide +kernel
theorem d_R_complete_50 : decode b_R_complete 50 = .ok (.getfield 41, 3) := by decide +kernel
theorem d_R_complete_53 : decode b_R_complete 53 = .ok (.aload_n 0, 1) := by decide +kernel
theorem d_R_complete_54 : decode b_R_complete 54 = .ok (.getfield 34, 3) := by decide +kernel
theorem d_R_complete_57 : decode b_R_complete 57 = .ok (.invokevirtual 90, 3) := by decide +kernel
theorem d_R_complete_60 : decode b_R_complete 60 = .ok (.aload_n 0, 1) := by decide +kernel
theorem d_R_complete_61 : decode b_R_complete 61 = .ok (.aload_n 0, 1) := by decide +kernel
theorem d_R_complete_62 : decode b_R_complete 62 = .ok (.getfield 34, 3) := by decide +kernel
theorem d_R_complete_65 : decode b_R_complete 65 = .ok (.ifCond .ne 7, 3) := by decide +kernel
theorem d_R_complete_68 : decode b_R_complete 68 = .ok (.iconst 1, 1) := by decide +kernel
theorem d_R_complete_69 : decode b_R_complete 69 = .ok (.goto 4, 3) := by decide +kernel
theorem d_R_complete_72 : decode b_R_complete 72 = .ok (.iconst 0, 1) := by decide +kernel
theorem d_R_complete_73 : decode b_R_complete 73 = .ok (.putfield 34, 3) := by decide +kernel
theorem d_R_complete_76 : decode b_R_complete 76 = .ok (.aload_n 0, 1) := by decide +kernel
theorem d_R_complete_77 : decode b_R_complete 77 = .ok (.iconst 0, 1) := by decide +kernel
theorem d_R_complete_78 : decode b_R_complete 78 = .ok (.putfield 31, 3) := by decide +kernel
theorem d_R_complete_81 : decode b_R_complete 81 = .ok (.return_, 1) := by decide +kernel
theorem d_R_wordStands_0 : decode b_R_wordStands 0 = .ok (.aload_n 0, 1) := by decide +kernel
theorem d_R_wordStands_1 : decode b_R_wordStands 1 = .ok (.getfield 27, 3) := by decide +kernel
theorem d_R_wordStands_4 : decode b_R_wordStands 4 = .ok (.bipush 127, 2) := by decide +kernel
theorem d_R_wordStands_6 : decode b_R_wordStands 6 = .ok (.iand, 1) := by decide +kernel
theorem d_R_wordStands_7 : decode b_R_wordStands 7 = .ok (.bipush 27, 2) := by decide +kernel
theorem d_R_wordStands_9 : decode b_R_wordStands 9 = .ok (.if_icmp .ne 7, 3) := by decide +kernel
theorem d_R_wordStands_12 : decode b_R_wordStands 12 = .ok (.iconst 1, 1) := by decide +kernel
theorem d_R_wordStands_13 : decode b_R_wordStands 13 = .ok (.goto 4, 3) := by decide +kernel
theorem d_R_wordStands_16 : decode b_R_wordStands 16 = .ok (.iconst 0, 1) := by decide +kernel
theorem d_R_wordStands_17 : decode b_R_wordStands 17 = .ok (.ireturn, 1) := by decide +kernel
theorem d_R_enter_0 : decode b_R_enter 0 = .ok (.aload_n 0, 1) := by decide +kernel
theorem d_R_enter_1 : decode b_R_enter 1 = .ok (.aload_n 1, 1) := by decide +kernel
theorem d_R_enter_2 : decode b_R_enter 2 = .ok (.putfield 24, 3) := by decide +kernel
theorem d_R_enter_5 : decode b_R_enter 5 = .ok (.aload_n 0, 1) := by decide +kernel
theorem d_R_enter_6 : decode b_R_enter 6 = .ok (.iconst 0, 1) := by decide +kernel
theorem d_R_enter_7 : decode b_R_enter 7 = .ok (.putfield 31, 3) := by decide +kernel
theorem d_R_enter_10 : decode b_R_enter 10 = .ok (.return_, 1) := by decide +kernel
theorem d_O_startAnew_0 : decode b_O_startAnew 0 = .ok (.aload_n 0, 1) := by decide +kernel
theorem d_O_startAnew_1 : decode b_O_startAnew 1 = .ok (.invokevirtual 52, 3) := by decide +kernel
theorem d_O_startAnew_4 : decode b_O_startAnew 4 = .ok (.aload_n 0, 1) := by decide +kernel
theorem d_O_startAnew_5 : decode b_O_startAnew 5 = .ok (.iconst 0, 1) := by decide +kernel
theorem d_O_startAnew_6 : decode b_O_startAnew 6 = .ok (.putfield 15, 3) := by decide +kernel
theorem d_O_startAnew_9 : decode b_O_startAnew 9 = .ok (.return_, 1) := by decide +kernel
theorem d_O_takeFrame_0 : decode b_O_takeFrame 0 = .ok (.iload_n 1, 1) := by decide +kernel
theorem d_O_takeFrame_1 : decode b_O_takeFrame 1 = .ok (.bipush 31, 2) := by decide +kernel
theorem d_O_takeFrame_3 : decode b_O_takeFrame 3 = .ok (.iushr, 1) := by decide +kernel
theorem d_O_takeFrame_4 : decode b_O_takeFrame 4 = .ok (.istore_n 3, 1) := by decide +kernel
theorem d_O_takeFrame_5 : decode b_O_takeFrame 5 = .ok (.iload_n 2, 1) := by decide +kernel
theorem d_O_takeFrame_6 : decode b_O_takeFrame 6 = .ok (.ifCond .eq 31, 3) := by decide +kernel
theorem d_O_takeFrame_9 : decode b_O_takeFrame 9 = .ok (.aload_n 0, 1) := by decide +kernel
theorem d_O_takeFrame_10 : decode b_O_takeFrame 10 = .ok (.dup, 1) := by decide +kernel
theorem d_O_takeFrame_11 : decode b_O_takeFrame 11 = .ok (.getfield 15, 3) := by decide +kernel
theorem d_O_takeFrame_14 : decode b_O_takeFrame 14 = .ok (.iconst 1, 1) := by decide +kernel
theorem d_O_takeFrame_15 : decode b_O_takeFrame 15 = .ok (.iadd, 1) := by decide +kernel
theorem d_O_takeFrame_16 : decode b_O_takeFrame 16 = .ok (.putfield 15, 3) := by decide +kernel
theorem d_O_takeFrame_19 : decode b_O_takeFrame 19 = .ok (.aload_n 0, 1) := by decide +kernel
theorem d_O_takeFrame_20 : decode b_O_takeFrame 20 = .ok (.aload_n 0, 1) := by decide +kernel
theorem d_O_takeFrame_21 : decode b_O_takeFrame 21 = .ok (.getfield 18, 3) := by decide +kernel
theorem d_O_takeFrame_24 : decode b_O_takeFrame 24 = .ok (.iconst 1, 1) := by decide +kernel
theorem d_O_takeFrame_25 : decode b_O_takeFrame 25 = .ok (.ishl, 1) := by decide +kernel
theorem d_O_takeFrame_26 : decode b_O_takeFrame 26 = .ok (.iload_n 3, 1) := by decide +kernel
theorem d_O_takeFrame_27 : decode b_O_takeFrame 27 = .ok (.ior, 1) := by decide +kernel
theorem d_O_takeFrame_28 : decode b_O_takeFrame 28 = .ok (.bipush 63, 2) := by decide +kernel
theorem d_O_takeFrame_30 : decode b_O_takeFrame 30 = .ok (.iand, 1) := by decide +kernel
theorem d_O_takeFrame_31 : decode b_O_takeFrame 31 = .ok (.putfield 18, 3) := by decide +kernel
theorem d_O_takeFrame_34 : decode b_O_takeFrame 34 = .ok (.goto 18, 3) := by decide +kernel
theorem d_O_takeFrame_37 : decode b_O_takeFrame 37 = .ok (.aload_n 0, 1) := by decide +kernel
theorem d_O_takeFrame_38 : decode b_O_takeFrame 38 = .ok (.aload_n 0, 1) := by decide +kernel
theorem d_O_takeFrame_39 : decode b_O_takeFrame 39 = .ok (.getfield 37, 3) := by decide +kernel
theorem d_O_takeFrame_42 : decode b_O_takeFrame 42 = .ok (.iconst 1, 1) := by decide +kernel
theorem d_O_takeFrame_43 : decode b_O_takeFrame 43 = .ok (.ishl, 1) := by decide +kernel
theorem d_O_takeFrame_44 : decode b_O_takeFrame 44 = .ok (.iload_n 3, 1) := by decide +kernel
theorem d_O_takeFrame_45 : decode b_O_takeFrame 45 = .ok (.ior, 1) := by decide +kernel
theorem d_O_takeFrame_46 : decode b_O_takeFrame 46 = .ok (.bipush 15, 2) := by decide +kernel
theorem d_O_takeFrame_48 : decode b_O_takeFrame 48 = .ok (.iand, 1) := by decide +kernel
theorem d_O_takeFrame_49 : decode b_O_takeFrame 49 = .ok (.putfield 37, 3) := by decide +kernel
theorem d_O_takeFrame_52 : decode b_O_takeFrame 52 = .ok (.aload_n 0, 1) := by decide +kernel
theorem d_O_takeFrame_53 : decode b_O_takeFrame 53 = .ok (.getfield 9, 3) := by decide +kernel
theorem d_O_takeFrame_56 : decode b_O_takeFrame 56 = .ok (.iconst (-1), 1) := by decide +kernel
theorem d_O_takeFrame_57 : decode b_O_takeFrame 57 = .ok (.if_icmp .ne 9, 3) := by decide +kernel
theorem d_O_takeFrame_60 : decode b_O_takeFrame 60 = .ok (.aload_n 0, 1) := by decide +kernel
theorem d_O_takeFrame_61 : decode b_O_takeFrame 61 = .ok (.iload_n 2, 1) := by decide +kernel
theorem d_O_takeFrame_62 : decode b_O_takeFrame 62 = .ok (.invokevirtual 55, 3) := by decide +kernel
theorem d_O_takeFrame_65 : decode b_O_takeFrame 65 = .ok (.return_, 1) := by decide +kernel
theorem d_O_takeFrame_66 : decode b_O_takeFrame 66 = .ok (.aload_n 0, 1) := by decide +kernel
theorem d_O_takeFrame_67 : decode b_O_takeFrame 67 = .ok (.aload_n 0, 1) := by decide +kernel
theorem d_O_takeFrame_68 : decode b_O_takeFrame 68 = .ok (.getfield 9, 3) := by decide +kernel
theorem d_O_takeFrame_71 : decode b_O_takeFrame 71 = .ok (.iconst 1, 1) := by decide +kernel
theorem d_O_takeFrame_72 : decode b_O_takeFrame 72 = .ok (.iadd, 1) := by decide +kernel
theorem d_O_takeFrame_73 : decode b_O_takeFrame 73 = .ok (.bipush 15, 2) := by decide +kernel
theorem d_O_takeFrame_75 : decode b_O_takeFrame 75 = .ok (.iand, 1) := by decide +kernel
theorem d_O_takeFrame_76 : decode b_O_takeFrame 76 = .ok (.putfield 9, 3) := by decide +kernel
theorem d_O_takeFrame_79 : decode b_O_takeFrame 79 = .ok (.aload_n 0, 1) := by decide +kernel
theorem d_O_takeFrame_80 : decode b_O_takeFrame 80 = .ok (.aload_n 0, 1) := by decide +kernel
theorem d_O_takeFrame_81 : decode b_O_takeFrame 81 = .ok (.getfield 31, 3) := by decide +kernel
theorem d_O_takeFrame_84 : decode b_O_takeFrame 84 = .ok (.iload_n 2, 1) := by decide +kernel
theorem d_O_takeFrame_85 : decode b_O_takeFrame 85 = .ok (.ifCond .eq 7, 3) := by decide +kernel
theorem d_O_takeFrame_88 : decode b_O_takeFrame 88 = .ok (.iload_n 1, 1) := by decide +kernel
theorem d_O_takeFrame_89 : decode b_O_takeFrame 89 = .ok (.goto 7, 3) := by decide +kernel
theorem d_O_takeFrame_92 : decode b_O_takeFrame 92 = .ok (.iload_n 1, 1) := by decide +kernel
theorem d_O_takeFrame_93 : decode b_O_takeFrame 93 = .ok (.ldc 59, 2) := by decide +kernel
theorem d_O_takeFrame_95 : decode b_O_takeFrame 95 = .ok (.iand, 1) := by decide +kernel
theorem d_O_takeFrame_96 : decode b_O_takeFrame 96 = .ok (.invokestatic 60, 3) := by decide +kernel
theorem d_O_takeFrame_99 : decode b_O_takeFrame 99 = .ok (.putfield 31, 3) := by decide +kernel
theorem d_O_takeFrame_102 : decode b_O_takeFrame 102 = .ok (.aload_n 0, 1) := by decide +kernel
theorem d_O_takeFrame_103 : decode b_O_takeFrame 103 = .ok (.getfield 9, 3) := by decide +kernel
theorem d_O_takeFrame_106 : decode b_O_takeFrame 106 = .ok (.bipush 11, 2) := by decide +kernel
theorem d_O_takeFrame_108 : decode b_O_takeFrame 108 = .ok (.if_icmp .ne 10, 3) := by decide +kernel
theorem d_O_takeFrame_111 : decode b_O_takeFrame 111 = .ok (.aload_n 0, 1) := by decide +kernel
theorem d_O_takeFrame_112 : decode b_O_takeFrame 112 = .ok (.invokevirtual 64, 3) := by decide +kernel
theorem d_O_takeFrame_115 : decode b_O_takeFrame 115 = .ok (.goto 35, 3) := by decide +kernel
theorem d_O_takeFrame_118 : decode b_O_takeFrame 118 = .ok (.iload_n 3, 1) := by decide +kernel
theorem d_O_takeFrame_119 : decode b_O_takeFrame 119 = .ok (.ifCond .ne 31, 3) := by decide +kernel
theorem d_O_takeFrame_122 : decode b_O_takeFrame 122 = .ok (.aload_n 0, 1) := by decide +kernel
theorem d_O_takeFrame_123 : decode b_O_takeFrame 123 = .ok (.getfield 9, 3) := by decide +kernel
theorem d_O_takeFrame_126 : decode b_O_takeFrame 126 = .ok (.bipush 13, 2) := by decide +kernel
theorem d_O_takeFrame_128 : decode b_O_takeFrame 128 = .ok (.if_icmp .eq 12, 3) := by decide +kernel
theorem d_O_takeFrame_131 : decode b_O_takeFrame 131 = .ok (.aload_n 0, 1) := by decide +kernel
theorem d_O_takeFrame_132 : decode b_O_takeFrame 132 = .ok (.getfield 9, 3) := by decide +kernel
theorem d_O_takeFrame_135 : decode b_O_takeFrame 135 = .ok (.bipush 15, 2) := by decide +kernel
theorem d_O_takeFrame_137 : decode b_O_takeFrame 137 = .ok (.if_icmp .ne 13, 3) := by decide +kernel
theorem d_O_takeFrame_140 : decode b_O_takeFrame 140 = .ok (.aload_n 0, 1) := by decide +kernel
theorem d_O_takeFrame_141 : decode b_O_takeFrame 141 = .ok (.dup, 1) := by decide +kernel
theorem d_O_takeFrame_142 : decode b_O_takeFrame 142 = .ok (.getfield 49, 3) := by decide +kernel
theorem d_O_takeFrame_145 : decode b_O_takeFrame 145 = .ok (.iconst 1, 1) := by decide +kernel
theorem d_O_takeFrame_146 : decode b_O_takeFrame 146 = .ok (.iadd, 1) := by decide +kernel
theorem d_O_takeFrame_147 : decode b_O_takeFrame 147 = .ok (.putfield 49, 3) := by decide +kernel
theorem d_O_takeFrame_150 : decode b_O_takeFrame 150 = .ok (.aload_n 0, 1) := by decide +kernel
theorem d_O_takeFrame_151 : decode b_O_takeFrame 151 = .ok (.getfield 9, 3) := by decide +kernel
theorem d_O_takeFrame_154 : decode b_O_takeFrame 154 = .ok (.invokestatic 67, 3) := by decide +kernel
theorem d_O_takeFrame_157 : decode b_O_takeFrame 157 = .ok (.ifCond .eq 7, 3) := by decide +kernel
theorem d_O_takeFrame_160 : decode b_O_takeFrame 160 = .ok (.aload_n 0, 1) := by decide +kernel
theorem d_O_takeFrame_161 : decode b_O_takeFrame 161 = .ok (.invokevirtual 71, 3) := by decide +kernel
theorem d_O_takeFrame_164 : decode b_O_takeFrame 164 = .ok (.return_, 1) := by decide +kernel
theorem d_O_findNumber_0 : decode b_O_findNumber 0 = .ok (.iload_n 1, 1) := by decide +kernel
theorem d_O_findNumber_1 : decode b_O_findNumber 1 = .ok (.ifCond .eq 32, 3) := by decide +kernel
theorem d_O_findNumber_4 : decode b_O_findNumber 4 = .ok (.aload_n 0, 1) := by decide +kernel
theorem d_O_findNumber_5 : decode b_O_findNumber 5 = .ok (.getfield 15, 3) := by decide +kernel
theorem d_O_findNumber_8 : decode b_O_findNumber 8 = .ok (.bipush 6, 2) := by decide +kernel
theorem d_O_findNumber_10 : decode b_O_findNumber 10 = .ok (.if_icmp .lt 23, 3) := by decide +kernel
theorem d_O_findNumber_13 : decode b_O_findNumber 13 = .ok (.aload_n 0, 1) := by decide +kernel
theorem d_O_findNumber_14 : decode b_O_findNumber 14 = .ok (.getfield 18, 3) := by decide +kernel
theorem d_O_findNumber_17 : decode b_O_findNumber 17 = .ok (.bipush 11, 2) := by decide +kernel
theorem d_O_findNumber_19 : decode b_O_findNumber 19 = .ok (.if_icmp .ne 14, 3) := by decide +kernel
theorem d_O_findNumber_22 : decode b_O_findNumber 22 = .ok (.aload_n 0, 1) := by decide +kernel
theorem d_O_findNumber_23 : decode b_O_findNumber 23 = .ok (.bipush 11, 2) := by decide +kernel
theorem d_O_findNumber_25 : decode b_O_findNumber 25 = .ok (.putfield 9, 3) := by decide +kernel
theorem d_O_findNumber_28 : decode b_O_findNumber 28 = .ok (.aload_n 0, 1) := by decide +kernel
theorem d_O_findNumber_29 : decode b_O_findNumber 29 = .ok (.iconst 0, 1) := by decide +kernel
theorem d_O_findNumber_30 : decode b_O_findNumber 30 = .ok (.putfield 21, 3) := by decide +kernel
theorem d_O_findNumber_33 : decode b_O_findNumber 33 = .ok (.return_, 1) := by decide +kernel
theorem d_O_judgeRoundWord_0 : decode b_O_judgeRoundWord 0 = .ok (.aload_n 0, 1) := by decide +kernel
theorem d_O_judgeRoundWord_1 : decode b_O_judgeRoundWord 1 = .ok (.aload_n 0, 1) := by decide +kernel
theorem d_O_judgeRoundWord_2 : decode b_O_judgeRoundWord 2 = .ok (.getfield 18, 3) := by decide +kernel
theorem d_O_judgeRoundWord_5 : decode b_O_judgeRoundWord 5 = .ok (.bipush 11, 2) := by decide +kernel
theorem d_O_judgeRoundWord_7 : decode b_O_judgeRoundWord 7 = .ok (.if_icmp .ne 7, 3) := by decide +kernel
theorem d_O_judgeRoundWord_10 : decode b_O_judgeRoundWord 10 = .ok (.iconst 0, 1) := by decide +kernel
theorem d_O_judgeRoundWord_11 : decode b_O_judgeRoundWord 11 = .ok (.goto 9, 3) := by decide +kernel
theorem d_O_judgeRoundWord_14 : decode b_O_judgeRoundWord 14 = .ok (.aload_n 0, 1) := by decide +kernel
theorem d_O_judgeRoundWord_15 : decode b_O_judgeRoundWord 15 = .ok (.getfield 21, 3) := by decide +kernel
theorem d_O_judgeRoundWord_18 : decode b_O_judgeRoundWord 18 = .ok (.iconst 1, 1) := by decide +kernel
theorem d_O_judgeRoundWord_19 : decode b_O_judgeRoundWord 19 = .ok (.iadd, 1) := by decide +kernel
theorem d_O_judgeRoundWord_20 : decode b_O_judgeRoundWord 20 = .ok (.putfield 21, 3) := by decide +kernel
theorem d_O_judgeRoundWord_23 : decode b_O_judgeRoundWord 23 = .ok (.aload_n 0, 1) := by decide +kernel
theorem d_O_judgeRoundWord_24 : decode b_O_judgeRoundWord 24 = .ok (.getfield 21, 3) := by decide +kernel
theorem d_O_judgeRoundWord_27 : decode b_O_judgeRoundWord 27 = .ok (.iconst 2, 1) := by decide +kernel
theorem d_O_judgeRoundWord_28 : decode b_O_judgeRoundWord 28 = .ok (.if_icmp .ne 7, 3) := by decide +kernel
theorem d_O_judgeRoundWord_31 : decode b_O_judgeRoundWord 31 = .ok (.aload_n 0, 1) := by decide +kernel
theorem d_O_judgeRoundWord_32 : decode b_O_judgeRoundWord 32 = .ok (.invokevirtual 52, 3) := by decide +kernel
theorem d_O_judgeRoundWord_35 : decode b_O_judgeRoundWord 35 = .ok (.return_, 1) := by decide +kernel
theorem d_O_endHalf_0 : decode b_O_endHalf 0 = .ok (.aload_n 0, 1) := by decide +kernel
theorem d_O_endHalf_1 : decode b_O_endHalf 1 = .ok (.getfield 28, 3) := by decide +kernel
theorem d_O_endHalf_4 : decode b_O_endHalf 4 = .ok (.ifCond .eq 7, 3) := by decide +kernel
theorem d_O_endHalf_7 : decode b_O_endHalf 7 = .ok (.aload_n 0, 1) := by decide +kernel
theorem d_O_endHalf_8 : decode b_O_endHalf 8 = .ok (.invokevirtual 74, 3) := by decide +kernel
theorem d_O_endHalf_11 : decode b_O_endHalf 11 = .ok (.aload_n 0, 1) := by decide +kernel
theorem d_O_endHalf_12 : decode b_O_endHalf 12 = .ok (.aload_n 0, 1) := by decide +kernel
theorem d_O_endHalf_13 : decode b_O_endHalf 13 = .ok (.getfield 24, 3) := by decide +kernel
theorem d_O_endHalf_16 : decode b_O_endHalf 16 = .ok (.putfield 28, 3) := by decide +kernel
theorem d_O_endHalf_19 : decode b_O_endHalf 19 = .ok (.aload_n 0, 1) := by decide +kernel
theorem d_O_endHalf_20 : decode b_O_endHalf 20 = .ok (.aload_n 0, 1) := by decide +kernel
theorem d_O_endHalf_21 : decode b_O_endHalf 21 = .ok (.getfield 31, 3) := by decide +kernel
theorem d_O_endHalf_24 : decode b_O_endHalf 24 = .ok (.putfield 34, 3) := by decide +kernel
theorem d_O_endHalf_27 : decode b_O_endHalf 27 = .ok (.aload_n 0, 1) := by decide +kernel
theorem d_O_endHalf_28 : decode b_O_endHalf 28 = .ok (.iconst 1, 1) := by decide +kernel
theorem d_O_endHalf_29 : decode b_O_endHalf 29 = .ok (.putfield 24, 3) := by decide +kernel
theorem d_O_endHalf_32 : decode b_O_endHalf 32 = .ok (.aload_n 0, 1) := by decide +kernel
theorem d_O_endHalf_33 : decode b_O_endHalf 33 = .ok (.iconst 0, 1) := by decide +kernel
theorem d_O_endHalf_34 : decode b_O_endHalf 34 = .ok (.putfield 31, 3) := by decide +kernel
theorem d_O_endHalf_37 : decode b_O_endHalf 37 = .ok (.return_, 1) := by decide +kernel
theorem d_O_judgeHalfBefore_0 : decode b_O_judgeHalfBefore 0 = .ok (.aload_n 0, 1) := by decide +kernel
theorem d_O_judgeHalfBefore_1 : decode b_O_judgeHalfBefore 1 = .ok (.getfield 37, 3) := by decide +kernel
theorem d_O_judgeHalfBefore_4 : decode b_O_judgeHalfBefore 4 = .ok (.aload_n 0, 1) := by decide +kernel
theorem d_O_judgeHalfBefore_5 : decode b_O_judgeHalfBefore 5 = .ok (.getfield 34, 3) := by decide +kernel
theorem d_O_judgeHalfBefore_8 : decode b_O_judgeHalfBefore 8 = .ok (.if_icmp .eq 7, 3) := by decide +kernel
theorem d_O_judgeHalfBefore_11 : decode b_O_judgeHalfBefore 11 = .ok (.iconst 1, 1) := by decide +kernel
theorem d_O_judgeHalfBefore_12 : decode b_O_judgeHalfBefore 12 = .ok (.goto 4, 3) := by decide +kernel
theorem d_O_judgeHalfBefore_15 : decode b_O_judgeHalfBefore 15 = .ok (.iconst 0, 1) := by decide +kernel
theorem d_O_judgeHalfBefore_16 : decode b_O_judgeHalfBefore 16 = .ok (.istore_n 1, 1) := by decide +kernel
theorem d_O_judgeHalfBefore_17 : decode b_O_judgeHalfBefore 17 = .ok (.iload_n 1, 1) := by decide +kernel
theorem d_O_judgeHalfBefore_18 : decode b_O_judgeHalfBefore 18 = .ok (.ifCond .eq 13, 3) := by decide +kernel
theorem d_O_judgeHalfBefore_21 : decode b_O_judgeHalfBefore 21 = .ok (.aload_n 0, 1) := by decide +kernel
theorem d_O_judgeHalfBefore_22 : decode b_O_judgeHalfBefore 22 = .ok (.dup, 1) := by decide +kernel
theorem d_O_judgeHalfBefore_23 : decode b_O_judgeHalfBefore 23 = .ok (.getfield 46, 3) := by decide +kernel
theorem d_O_judgeHalfBefore_26 : decode b_O_judgeHalfBefore 26 = .ok (.iconst 1, 1) := by decide +kernel
theorem d_O_judgeHalfBefore_27 : decode b_O_judgeHalfBefore 27 = .ok (.iadd, 1) := by decide +kernel
theorem d_O_judgeHalfBefore_28 : decode b_O_judgeHalfBefore 28 = .ok (.putfield 46, 3) := by decide +kernel
theorem d_O_judgeHalfBefore_31 : decode b_O_judgeHalfBefore 31 = .ok (.aload_n 0, 1) := by decide +kernel
theorem d_O_judgeHalfBefore_32 : decode b_O_judgeHalfBefore 32 = .ok (.getfield 9, 3) := by decide +kernel
theorem d_O_judgeHalfBefore_35 : decode b_O_judgeHalfBefore 35 = .ok (.bipush 15, 2) := by decide +kernel
theorem d_O_judgeHalfBefore_37 : decode b_O_judgeHalfBefore 37 = .ok (.if_icmp .ne 11, 3) := by decide +kernel
theorem d_O_judgeHalfBefore_40 : decode b_O_judgeHalfBefore 40 = .ok (.aload_n 0, 1) := by decide +kernel
theorem d_O_judgeHalfBefore_41 : decode b_O_judgeHalfBefore 41 = .ok (.iload_n 1, 1) := by decide +kernel
theorem d_O_judgeHalfBefore_42 : decode b_O_judgeHalfBefore 42 = .ok (.putfield 40, 3) := by decide +kernel
theorem d_O_judgeHalfBefore_45 : decode b_O_judgeHalfBefore 45 = .ok (.goto 8, 3) := by decide +kernel
theorem d_O_judgeHalfBefore_48 : decode b_O_judgeHalfBefore 48 = .ok (.aload_n 0, 1) := by decide +kernel
theorem d_O_judgeHalfBefore_49 : decode b_O_judgeHalfBefore 49 = .ok (.iload_n 1, 1) := by decide +kernel
theorem d_O_judgeHalfBefore_50 : decode b_O_judgeHalfBefore 50 = .ok (.putfield 43, 3) := by decide +kernel
theorem d_O_judgeHalfBefore_53 : decode b_O_judgeHalfBefore 53 = .ok (.return_, 1) := by decide +kernel
theorem d_O_forgetNumber_0 : decode b_O_forgetNumber 0 = .ok (.aload_n 0, 1) := by decide +kernel
theorem d_O_forgetNumber_1 : decode b_O_forgetNumber 1 = .ok (.iconst (-1), 1) := by decide +kernel
theorem d_O_forgetNumber_2 : decode b_O_forgetNumber 2 = .ok (.putfield 9, 3) := by decide +kernel
theorem d_O_forgetNumber_5 : decode b_O_forgetNumber 5 = .ok (.aload_n 0, 1) := by decide +kernel
theorem d_O_forgetNumber_6 : decode b_O_forgetNumber 6 = .ok (.iconst 0, 1) := by decide +kernel
theorem d_O_forgetNumber_7 : decode b_O_forgetNumber 7 = .ok (.putfield 24, 3) := by decide +kernel
theorem d_O_forgetNumber_10 : decode b_O_forgetNumber 10 = .ok (.aload_n 0, 1) := by decide +kernel
theorem d_O_forgetNumber_11 : decode b_O_forgetNumber 11 = .ok (.iconst 0, 1) := by decide +kernel
theorem d_O_forgetNumber_12 : decode b_O_forgetNumber 12 = .ok (.putfield 28, 3) := by decide +kernel
theorem d_O_forgetNumber_15 : decode b_O_forgetNumber 15 = .ok (.aload_n 0, 1) := by decide +kernel
theorem d_O_forgetNumber_16 : decode b_O_forgetNumber 16 = .ok (.iconst 0, 1) := by decide +kernel
theorem d_O_forgetNumber_17 : decode b_O_forgetNumber 17 = .ok (.putfield 40, 3) := by decide +kernel
theorem d_O_forgetNumber_20 : decode b_O_forgetNumber 20 = .ok (.aload_n 0, 1) := by decide +kernel
theorem d_O_forgetNumber_21 : decode b_O_forgetNumber 21 = .ok (.iconst 0, 1) := by decide +kernel
theorem d_O_forgetNumber_22 : decode b_O_forgetNumber 22 = .ok (.putfield 43, 3) := by decide +kernel
theorem d_O_forgetNumber_25 : decode b_O_forgetNumber 25 = .ok (.return_, 1) := by decide +kernel
theorem d_S_exchange_0 : decode b_S_exchange 0 = .ok (.aload_n 0, 1) := by decide +kernel
theorem d_S_exchange_1 : decode b_S_exchange 1 = .ok (.getfield 9, 3) := by decide +kernel
theorem d_S_exchange_4 : decode b_S_exchange 4 = .ok (.iload_n 1, 1) := by decide +kernel
theorem d_S_exchange_5 : decode b_S_exchange 5 = .ok (.iaload, 1) := by decide +kernel
theorem d_S_exchange_6 : decode b_S_exchange 6 = .ok (.istore_n 3, 1) := by decide +kernel
theorem d_S_exchange_7 : decode b_S_exchange 7 = .ok (.aload_n 0, 1) := by decide +kernel
theorem d_S_exchange_8 : decode b_S_exchange 8 = .ok (.getfield 9, 3) := by decide +kernel
theorem d_S_exchange_11 : decode b_S_exchange 11 = .ok (.iload_n 1, 1) := by decide +kernel
theorem d_S_exchange_12 : decode b_S_exchange 12 = .ok (.iload_n 2, 1) := by decide +kernel
theorem d_S_exchange_13 : decode b_S_exchange 13 = .ok (.iastore, 1) := by decide +kernel
theorem d_S_exchange_14 : decode b_S_exchange 14 = .ok (.iload_n 3, 1) := by decide +kernel
theorem d_S_exchange_15 : decode b_S_exchange 15 = .ok (.ireturn, 1) := by decide +kernel
theorem d_S_isBetweenFrames_0 : decode b_S_isBetweenFrames 0 = .ok (.aload_n 0, 1) := by decide +kernel
theorem d_S_isBetweenFrames_1 : decode b_S_isBetweenFrames 1 = .ok (.getfield 22, 3) := by decide +kernel
theorem d_S_isBetweenFrames_4 : decode b_S_isBetweenFrames 4 = .ok (.bipush 32, 2) := by decide +kernel
theorem d_S_isBetweenFrames_6 : decode b_S_isBetweenFrames 6 = .ok (.if_icmp .ne 7, 3) := by decide +kernel
theorem d_S_isBetweenFrames_9 : decode b_S_isBetweenFrames 9 = .ok (.iconst 1, 1) := by decide +kernel
theorem d_S_isBetweenFrames_10 : decode b_S_isBetweenFrames 10 = .ok (.goto 4, 3) := by decide +kernel
theorem d_S_isBetweenFrames_13 : decode b_S_isBetweenFrames 13 = .ok (.iconst 0, 1) := by decide +kernel
theorem d_S_isBetweenFrames_14 : decode b_S_isBetweenFrames 14 = .ok (.ireturn, 1) := by decide +kernel
theorem d_S_beginFrame_0 : decode b_S_beginFrame 0 = .ok (.aload_n 0, 1) := by decide +kernel
theorem d_S_beginFrame_1 : decode b_S_beginFrame 1 = .ok (.getfield 15, 3) := by decide +kernel
theorem d_S_beginFrame_4 : decode b_S_beginFrame 4 = .ok (.iconst 1, 1) := by decide +kernel
theorem d_S_beginFrame_5 : decode b_S_beginFrame 5 = .ok (.iand, 1) := by decide +kernel
theorem d_S_beginFrame_6 : decode b_S_beginFrame 6 = .ok (.iconst 1, 1) := by decide +kernel
theorem d_S_beginFrame_7 : decode b_S_beginFrame 7 = .ok (.if_icmp .ne 7, 3) := by decide +kernel
theorem d_S_beginFrame_10 : decode b_S_beginFrame 10 = .ok (.iconst 1, 1) := by decide +kernel
theorem d_S_beginFrame_11 : decode b_S_beginFrame 11 = .ok (.goto 4, 3) := by decide +kernel
theorem d_S_beginFrame_14 : decode b_S_beginFrame 14 = .ok (.iconst 0, 1) := by decide +kernel
theorem d_S_beginFrame_15 : decode b_S_beginFrame 15 = .ok (.istore_n 2, 1) := by decide +kernel
theorem d_S_beginFrame_16 : decode b_S_beginFrame 16 = .ok (.iload_n 2, 1) := by decide +kernel
theorem d_S_beginFrame_17 : decode b_S_beginFrame 17 = .ok (.ifCond .eq 11, 3) := by decide +kernel
theorem d_S_beginFrame_20 : decode b_S_beginFrame 20 = .ok (.aload_n 0, 1) := by decide +kernel
theorem d_S_beginFrame_21 : decode b_S_beginFrame 21 = .ok (.aload_n 1, 1) := by decide +kernel
theorem d_S_beginFrame_22 : decode b_S_beginFrame 22 = .ok (.invokevirtual 31, 3) := by decide +kernel
theorem d_S_beginFrame_25 : decode b_S_beginFrame 25 = .ok (.goto 7, 3) := by decide +kernel
theorem d_S_beginFrame_28 : decode b_S_beginFrame 28 = .ok (.aload_n 0, 1) := by decide +kernel
theorem d_S_beginFrame_29 : decode b_S_beginFrame 29 = .ok (.invokevirtual 35, 3) := by decide +kernel
theorem d_S_beginFrame_32 : decode b_S_beginFrame 32 = .ok (.istore_n 3, 1) := by decide +kernel
theorem d_S_beginFrame_33 : decode b_S_beginFrame 33 = .ok (.aload_n 0, 1) := by decide +kernel
theorem d_S_beginFrame_34 : decode b_S_beginFrame 34 = .ok (.iload_n 3, 1) := by decide +kernel
theorem d_S_beginFrame_35 : decode b_S_beginFrame 35 = .ok (.bipush 24, 2) := by decide +kernel
theorem d_S_beginFrame_37 : decode b_S_beginFrame 37 = .ok (.ishl, 1) := by decide +kernel
theorem d_S_beginFrame_38 : decode b_S_beginFrame 38 = .ok (.aload_n 0, 1) := by decide +kernel
theorem d_S_beginFrame_39 : decode b_S_beginFrame 39 = .ok (.getfield 9, 3) := by decide +kernel
theorem d_S_beginFrame_42 : decode b_S_beginFrame 42 = .ok (.iconst 1, 1) := by decide +kernel
theorem d_S_beginFrame_43 : decode b_S_beginFrame 43 = .ok (.iaload, 1) := by decide +kernel
theorem d_S_beginFrame_44 : decode b_S_beginFrame 44 = .ok (.bipush 16, 2) := by decide +kernel
theorem d_S_beginFrame_46 : decode b_S_beginFrame 46 = .ok (.ishl, 1) := by decide +kernel
theorem d_S_beginFrame_47 : decode b_S_beginFrame 47 = .ok (.ior, 1) := by decide +kernel
theorem d_S_beginFrame_48 : decode b_S_beginFrame 48 = .ok (.aload_n 0, 1) := by decide +kernel
theorem d_S_beginFrame_49 : decode b_S_beginFrame 49 = .ok (.getfield 9, 3) := by decide +kernel
theorem d_S_beginFrame_52 : decode b_S_beginFrame 52 = .ok (.iconst 2, 1) := by decide +kernel
theorem d_S_beginFrame_53 : decode b_S_beginFrame 53 = .ok (.iaload, 1) := by decide +kernel
theorem d_S_beginFrame_54 : decode b_S_beginFrame 54 = .ok (.bipush 8, 2) := by decide +kernel
theorem d_S_beginFrame_56 : decode b_S_beginFrame 56 = .ok (.ishl, 1) := by decide +kernel
theorem d_S_beginFrame_57 : decode b_S_beginFrame 57 = .ok (.ior, 1) := by decide +kernel
theorem d_S_beginFrame_58 : decode b_S_beginFrame 58 = .ok (.aload_n 0, 1) := by decide +kernel
theorem d_S_beginFrame_59 : decode b_S_beginFrame 59 = .ok (.getfield 9, 3) := by decide +kernel
theorem d_S_beginFrame_62 : decode b_S_beginFrame 62 = .ok (.iconst 3, 1) := by decide +kernel
theorem d_S_beginFrame_63 : decode b_S_beginFrame 63 = .ok (.iaload, 1) := by decide +kernel
theorem d_S_beginFrame_64 : decode b_S_beginFrame 64 = .ok (.ior, 1) := by decide +kernel
theorem d_S_beginFrame_65 : decode b_S_beginFrame 65 = .ok (.putfield 19, 3) := by decide +kernel
theorem d_S_beginFrame_68 : decode b_S_beginFrame 68 = .ok (.aload_n 0, 1) := by decide +kernel
theorem d_S_beginFrame_69 : decode b_S_beginFrame 69 = .ok (.aload_n 0, 1) := by decide +kernel
theorem d_S_beginFrame_70 : decode b_S_beginFrame 70 = .ok (.getfield 25, 3) := by decide +kernel
theorem d_S_beginFrame_73 : decode b_S_beginFrame 73 = .ok (.iload_n 2, 1) := by decide +kernel
theorem d_S_beginFrame_74 : decode b_S_beginFrame 74 = .ok (.ifCond .eq 10, 3) := by decide +kernel
theorem d_S_beginFrame_77 : decode b_S_beginFrame 77 = .ok (.aload_n 0, 1) := by decide +kernel
theorem d_S_beginFrame_78 : decode b_S_beginFrame 78 = .ok (.getfield 19, 3) := by decide +kernel
theorem d_S_beginFrame_81 : decode b_S_beginFrame 81 = .ok (.goto 10, 3) := by decide +kernel
theorem d_S_beginFrame_84 : decode b_S_beginFrame 84 = .ok (.aload_n 0, 1) := by decide +kernel
theorem d_S_beginFrame_85 : decode b_S_beginFrame 85 = .ok (.getfield 19, 3) := by decide +kernel
theorem d_S_beginFrame_88 : decode b_S_beginFrame 88 = .ok (.ldc 39, 2) := by decide +kernel
theorem d_S_beginFrame_90 : decode b_S_beginFrame 90 = .ok (.iand, 1) := by decide +kernel
theorem d_S_beginFrame_91 : decode b_S_beginFrame 91 = .ok (.invokestatic 40, 3) := by decide +kernel
theorem d_S_beginFrame_94 : decode b_S_beginFrame 94 = .ok (.putfield 25, 3) := by decide +kernel
theorem d_S_beginFrame_97 : decode b_S_beginFrame 97 = .ok (.aload_n 0, 1) := by decide +kernel
theorem d_S_beginFrame_98 : decode b_S_beginFrame 98 = .ok (.iconst 0, 1) := by decide +kernel
theorem d_S_beginFrame_99 : decode b_S_beginFrame 99 = .ok (.putfield 22, 3) := by decide +kernel
theorem d_S_beginFrame_102 : decode b_S_beginFrame 102 = .ok (.aload_n 0, 1) := by decide +kernel
theorem d_S_beginFrame_103 : decode b_S_beginFrame 103 = .ok (.getfield 15, 3) := by decide +kernel
theorem d_S_beginFrame_106 : decode b_S_beginFrame 106 = .ok (.invokestatic 44, 3) := by decide +kernel
theorem d_S_beginFrame_109 : decode b_S_beginFrame 109 = .ok (.ifCond .eq 16, 3) := by decide +kernel
theorem d_S_beginFrame_112 : decode b_S_beginFrame 112 = .ok (.aload_n 0, 1) := by decide +kernel
theorem d_S_beginFrame_113 : decode b_S_beginFrame 113 = .ok (.aload_n 0, 1) := by decide +kernel
theorem d_S_beginFrame_114 : decode b_S_beginFrame 114 = .ok (.getfield 25, 3) := by decide +kernel
theorem d_S_beginFrame_117 : decode b_S_beginFrame 117 = .ok (.putfield 28, 3) := by decide +kernel
theorem d_S_beginFrame_120 : decode b_S_beginFrame 120 = .ok (.aload_n 0, 1) := by decide +kernel
theorem d_S_beginFrame_121 : decode b_S_beginFrame 121 = .ok (.iconst 0, 1) := by decide +kernel
theorem d_S_beginFrame_122 : decode b_S_beginFrame 122 = .ok (.putfield 25, 3) := by decide +kernel
theorem d_S_beginFrame_125 : decode b_S_beginFrame 125 = .ok (.aload_n 0, 1) := by decide +kernel
theorem d_S_beginFrame_126 : decode b_S_beginFrame 126 = .ok (.aload_n 0, 1) := by decide +kernel
theorem d_S_beginFrame_127 : decode b_S_beginFrame 127 = .ok (.getfield 15, 3) := by decide +kernel
theorem d_S_beginFrame_130 : decode b_S_beginFrame 130 = .ok (.iconst 1, 1) := by decide +kernel
theorem d_S_beginFrame_131 : decode b_S_beginFrame 131 = .ok (.iadd, 1) := by decide +kernel
theorem d_S_beginFrame_132 : decode b_S_beginFrame 132 = .ok (.bipush 15, 2) := by decide +kernel
theorem d_S_beginFrame_134 : decode b_S_beginFrame 134 = .ok (.iand, 1) := by decide +kernel
theorem d_S_beginFrame_135 : decode b_S_beginFrame 135 = .ok (.putfield 15, 3) := by decide +kernel
theorem d_S_beginFrame_138 : decode b_S_beginFrame 138 = .ok (.return_, 1) := by decide +kernel
theorem d_S_nextBit_0 : decode b_S_nextBit 0 = .ok (.aload_n 0, 1) := by decide +kernel
theorem d_S_nextBit_1 : decode b_S_nextBit 1 = .ok (.dup, 1) := by decide +kernel
theorem d_S_nextBit_2 : decode b_S_nextBit 2 = .ok (.getfield 22, 3) := by decide +kernel
theorem d_S_nextBit_5 : decode b_S_nextBit 5 = .ok (.iconst 1, 1) := by decide +kernel
theorem d_S_nextBit_6 : decode b_S_nextBit 6 = .ok (.iadd, 1) := by decide +kernel
theorem d_S_nextBit_7 : decode b_S_nextBit 7 = .ok (.putfield 22, 3) := by decide +kernel
theorem d_S_nextBit_10 : decode b_S_nextBit 10 = .ok (.aload_n 0, 1) := by decide +kernel
theorem d_S_nextBit_11 : decode b_S_nextBit 11 = .ok (.getfield 19, 3) := by decide +kernel
theorem d_S_nextBit_14 : decode b_S_nextBit 14 = .ok (.bipush 32, 2) := by decide +kernel
theorem d_S_nextBit_16 : decode b_S_nextBit 16 = .ok (.aload_n 0, 1) := by decide +kernel
theorem d_S_nextBit_17 : decode b_S_nextBit 17 = .ok (.getfield 22, 3) := by decide +kernel
theorem d_S_nextBit_20 : decode b_S_nextBit 20 = .ok (.isub, 1) := by decide +kernel
theorem d_S_nextBit_21 : decode b_S_nextBit 21 = .ok (.iushr, 1) := by decide +kernel
theorem d_S_nextBit_22 : decode b_S_nextBit 22 = .ok (.iconst 1, 1) := by decide +kernel
theorem d_S_nextBit_23 : decode b_S_nextBit 23 = .ok (.iand, 1) := by decide +kernel
theorem d_S_nextBit_24 : decode b_S_nextBit 24 = .ok (.ireturn, 1) := by decide +kernel
theorem d_S_evenSlotZero_0 : decode b_S_evenSlotZero 0 = .ok (.aload_n 0, 1) := by decide +kernel
theorem d_S_evenSlotZero_1 : decode b_S_evenSlotZero 1 = .ok (.getfield 15, 3) := by decide +kernel
theorem d_S_evenSlotZero_4 : decode b_S_evenSlotZero 4 = .ok (.iconst 1, 1) := by decide +kernel
theorem d_S_evenSlotZero_5 : decode b_S_evenSlotZero 5 = .ok (.ishr, 1) := by decide +kernel
theorem d_S_evenSlotZero_6 : decode b_S_evenSlotZero 6 = .ok (.iconst 3, 1) := by decide +kernel
theorem d_S_evenSlotZero_7 : decode b_S_evenSlotZero 7 = .ok (.iand, 1) := by decide +kernel
theorem d_S_evenSlotZero_8 : decode b_S_evenSlotZero 8 = .ok (.istore_n 1, 1) := by decide +kernel
theorem d_S_evenSlotZero_9 : decode b_S_evenSlotZero 9 = .ok (.aload_n 0, 1) := by decide +kernel
theorem d_S_evenSlotZero_10 : decode b_S_evenSlotZero 10 = .ok (.getfield 28, 3) := by decide +kernel
theorem d_S_evenSlotZero_13 : decode b_S_evenSlotZero 13 = .ok (.iconst 3, 1) := by decide +kernel
theorem d_S_evenSlotZero_14 : decode b_S_evenSlotZero 14 = .ok (.iload_n 1, 1) := by decide +kernel
theorem d_S_evenSlotZero_15 : decode b_S_evenSlotZero 15 = .ok (.isub, 1) := by decide +kernel
theorem d_S_evenSlotZero_16 : decode b_S_evenSlotZero 16 = .ok (.ishr, 1) := by decide +kernel
theorem d_S_evenSlotZero_17 : decode b_S_evenSlotZero 17 = .ok (.iconst 1, 1) := by decide +kernel
theorem d_S_evenSlotZero_18 : decode b_S_evenSlotZero 18 = .ok (.iand, 1) := by decide +kernel
theorem d_S_evenSlotZero_19 : decode b_S_evenSlotZero 19 = .ok (.istore_n 2, 1) := by decide +kernel
theorem d_S_evenSlotZero_20 : decode b_S_evenSlotZero 20 = .ok (.iload_n 2, 1) := by decide +kernel
theorem d_S_evenSlotZero_21 : decode b_S_evenSlotZero 21 = .ok (.bipush 7, 2) := by decide +kernel
theorem d_S_evenSlotZero_23 : decode b_S_evenSlotZero 23 = .ok (.ishl, 1) := by decide +kernel
theorem d_S_evenSlotZero_24 : decode b_S_evenSlotZero 24 = .ok (.bipush 27, 2) := by decide +kernel
theorem d_S_evenSlotZero_26 : decode b_S_evenSlotZero 26 = .ok (.ior, 1) := by decide +kernel
theorem d_S_evenSlotZero_27 : decode b_S_evenSlotZero 27 = .ok (.ireturn, 1) := by decide +kernel
theorem d_S_oddSlotZero_0 : decode b_S_oddSlotZero 0 = .ok (.aload_n 1, 1) := by decide +kernel
theorem d_S_oddSlotZero_1 : decode b_S_oddSlotZero 1 = .ok (.invokevirtual 48, 3) := by decide +kernel
theorem d_S_oddSlotZero_4 : decode b_S_oddSlotZero 4 = .ok (.ifCond .eq 7, 3) := by decide +kernel
theorem d_S_oddSlotZero_7 : decode b_S_oddSlotZero 7 = .ok (.iconst 0, 1) := by decide +kernel
theorem d_S_oddSlotZero_8 : decode b_S_oddSlotZero 8 = .ok (.goto 5, 3) := by decide +kernel
theorem d_S_oddSlotZero_11 : decode b_S_oddSlotZero 11 = .ok (.bipush 32, 2) := by decide +kernel
theorem d_S_oddSlotZero_13 : decode b_S_oddSlotZero 13 = .ok (.istore_n 2, 1) := by decide +kernel
theorem d_S_oddSlotZero_14 : decode b_S_oddSlotZero 14 = .ok (.aload_n 0, 1) := by decide +kernel
theorem d_S_oddSlotZero_15 : decode b_S_oddSlotZero 15 = .ok (.aload_n 1, 1) := by decide +kernel
theorem d_S_oddSlotZero_16 : decode b_S_oddSlotZero 16 = .ok (.getfield 54, 3) := by decide +kernel
theorem d_S_oddSlotZero_19 : decode b_S_oddSlotZero 19 = .ok (.invokevirtual 58, 3) := by decide +kernel
theorem d_S_oddSlotZero_22 : decode b_S_oddSlotZero 22 = .ok (.bipush 7, 2) := by decide +kernel
theorem d_S_oddSlotZero_24 : decode b_S_oddSlotZero 24 = .ok (.ishl, 1) := by decide +kernel
theorem d_S_oddSlotZero_25 : decode b_S_oddSlotZero 25 = .ok (.bipush 95, 2) := by decide +kernel
theorem d_S_oddSlotZero_27 : decode b_S_oddSlotZero 27 = .ok (.ior, 1) := by decide +kernel
theorem d_S_oddSlotZero_28 : decode b_S_oddSlotZero 28 = .ok (.iload_n 2, 1) := by decide +kernel
theorem d_S_oddSlotZero_29 : decode b_S_oddSlotZero 29 = .ok (.ior, 1) := by decide +kernel
theorem d_S_oddSlotZero_30 : decode b_S_oddSlotZero 30 = .ok (.ireturn, 1) := by decide +kernel
theorem d_S_firstBitOfOdd_0 : decode b_S_firstBitOfOdd 0 = .ok (.aload_n 0, 1) := by decide +kernel
theorem d_S_firstBitOfOdd_1 : decode b_S_firstBitOfOdd 1 = .ok (.getfield 15, 3) := by decide +kernel
theorem d_S_firstBitOfOdd_4 : decode b_S_firstBitOfOdd 4 = .ok (.bipush 11, 2) := by decide +kernel
theorem d_S_firstBitOfOdd_6 : decode b_S_firstBitOfOdd 6 = .ok (.if_icmp .gt 17, 3) := by decide +kernel
theorem d_S_firstBitOfOdd_9 : decode b_S_firstBitOfOdd 9 = .ok (.bipush 11, 2) := by decide +kernel
theorem d_S_firstBitOfOdd_11 : decode b_S_firstBitOfOdd 11 = .ok (.iconst 5, 1) := by decide +kernel
theorem d_S_firstBitOfOdd_12 : decode b_S_firstBitOfOdd 12 = .ok (.aload_n 0, 1) := by decide +kernel
theorem d_S_firstBitOfOdd_13 : decode b_S_firstBitOfOdd 13 = .ok (.getfield 15, 3) := by decide +kernel
theorem d_S_firstBitOfOdd_16 : decode b_S_firstBitOfOdd 16 = .ok (.iconst 1, 1) := by decide +kernel
theorem d_S_firstBitOfOdd_17 : decode b_S_firstBitOfOdd 17 = .ok (.ishr, 1) := by decide +kernel
theorem d_S_firstBitOfOdd_18 : decode b_S_firstBitOfOdd 18 = .ok (.isub, 1) := by decide +kernel
theorem d_S_firstBitOfOdd_19 : decode b_S_firstBitOfOdd 19 = .ok (.ishr, 1) := by decide +kernel
theorem d_S_firstBitOfOdd_20 : decode b_S_firstBitOfOdd 20 = .ok (.iconst 1, 1) := by decide +kernel
theorem d_S_firstBitOfOdd_21 : decode b_S_firstBitOfOdd 21 = .ok (.iand, 1) := by decide +kernel
theorem d_S_firstBitOfOdd_22 : decode b_S_firstBitOfOdd 22 = .ok (.ireturn, 1) := by decide +kernel
theorem d_S_firstBitOfOdd_23 : decode b_S_firstBitOfOdd 23 = .ok (.aload_n 0, 1) := by decide +kernel
theorem d_S_firstBitOfOdd_24 : decode b_S_firstBitOfOdd 24 = .ok (.getfield 15, 3) := by decide +kernel
theorem d_S_firstBitOfOdd_27 : decode b_S_firstBitOfOdd 27 = .ok (.bipush 13, 2) := by decide +kernel
theorem d_S_firstBitOfOdd_29 : decode b_S_firstBitOfOdd 29 = .ok (.if_icmp .ne 10, 3) := by decide +kernel
theorem d_S_firstBitOfOdd_32 : decode b_S_firstBitOfOdd 32 = .ok (.aload_n 1, 1) := by decide +kernel
theorem d_S_firstBitOfOdd_33 : decode b_S_firstBitOfOdd 33 = .ok (.getfield 62, 3) := by decide +kernel
theorem d_S_firstBitOfOdd_36 : decode b_S_firstBitOfOdd 36 = .ok (.goto 7, 3) := by decide +kernel
theorem d_S_firstBitOfOdd_39 : decode b_S_firstBitOfOdd 39 = .ok (.aload_n 1, 1) := by decide +kernel
theorem d_S_firstBitOfOdd_40 : decode b_S_firstBitOfOdd 40 = .ok (.getfield 68, 3) := by decide +kernel
theorem d_S_firstBitOfOdd_43 : decode b_S_firstBitOfOdd 43 = .ok (.istore_n 2, 1) := by decide +kernel
theorem d_S_firstBitOfOdd_44 : decode b_S_firstBitOfOdd 44 = .ok (.iload_n 2, 1) := by decide +kernel
theorem d_S_firstBitOfOdd_45 : decode b_S_firstBitOfOdd 45 = .ok (.ifCond .eq 7, 3) := by decide +kernel
theorem d_S_firstBitOfOdd_48 : decode b_S_firstBitOfOdd 48 = .ok (.iconst 0, 1) := by decide +kernel
theorem d_S_firstBitOfOdd_49 : decode b_S_firstBitOfOdd 49 = .ok (.goto 4, 3) := by decide +kernel
theorem d_S_firstBitOfOdd_52 : decode b_S_firstBitOfOdd 52 = .ok (.iconst 1, 1) := by decide +kernel
theorem d_S_firstBitOfOdd_53 : decode b_S_firstBitOfOdd 53 = .ok (.ireturn, 1) := by decide +kernel
theorem d_F_checkOver_0 : decode b_F_checkOver 0 = .ok (.iload_n 0, 1) := by decide +kernel
theorem d_F_checkOver_1 : decode b_F_checkOver 1 = .ok (.istore_n 2, 1) := by decide +kernel
theorem d_F_checkOver_2 : decode b_F_checkOver 2 = .ok (.bipush 31, 2) := by decide +kernel
theorem d_F_checkOver_4 : decode b_F_checkOver 4 = .ok (.istore_n 3, 1) := by decide +kernel
theorem d_F_checkOver_5 : decode b_F_checkOver 5 = .ok (.iload_n 3, 1) := by decide +kernel
theorem d_F_checkOver_6 : decode b_F_checkOver 6 = .ok (.ifCond .lt 37, 3) := by decide +kernel
theorem d_F_checkOver_9 : decode b_F_checkOver 9 = .ok (.iload_n 1, 1) := by decide +kernel
theorem d_F_checkOver_10 : decode b_F_checkOver 10 = .ok (.iload_n 3, 1) := by decide +kernel
theorem d_F_checkOver_11 : decode b_F_checkOver 11 = .ok (.iushr, 1) := by decide +kernel
theorem d_F_checkOver_12 : decode b_F_checkOver 12 = .ok (.iconst 1, 1) := by decide +kernel
theorem d_F_checkOver_13 : decode b_F_checkOver 13 = .ok (.iand, 1) := by decide +kernel
theorem d_F_checkOver_14 : decode b_F_checkOver 14 = .ok (.iload_n 2, 1) := by decide +kernel
theorem d_F_checkOver_15 : decode b_F_checkOver 15 = .ok (.iconst 3, 1) := by decide +kernel
theorem d_F_checkOver_16 : decode b_F_checkOver 16 = .ok (.ishr, 1) := by decide +kernel
theorem d_F_checkOver_17 : decode b_F_checkOver 17 = .ok (.ixor, 1) := by decide +kernel
theorem d_F_checkOver_18 : decode b_F_checkOver 18 = .ok (.istore 4, 2) := by decide +kernel
theorem d_F_checkOver_20 : decode b_F_checkOver 20 = .ok (.iload_n 2, 1) := by decide +kernel
theorem d_F_checkOver_21 : decode b_F_checkOver 21 = .ok (.iconst 1, 1) := by decide +kernel
theorem d_F_checkOver_22 : decode b_F_checkOver 22 = .ok (.ishl, 1) := by decide +kernel
theorem d_F_checkOver_23 : decode b_F_checkOver 23 = .ok (.bipush 15, 2) := by decide +kernel
theorem d_F_checkOver_25 : decode b_F_checkOver 25 = .ok (.iand, 1) := by decide +kernel
theorem d_F_checkOver_26 : decode b_F_checkOver 26 = .ok (.istore_n 2, 1) := by decide +kernel
theorem d_F_checkOver_27 : decode b_F_checkOver 27 = .ok (.iload 4, 2) := by decide +kernel
theorem d_F_checkOver_29 : decode b_F_checkOver 29 = .ok (.iconst 1, 1) := by decide +kernel
theorem d_F_checkOver_30 : decode b_F_checkOver 30 = .ok (.if_icmp .ne 7, 3) := by decide +kernel
theorem d_F_checkOver_33 : decode b_F_checkOver 33 = .ok (.iload_n 2, 1) := by decide +kernel
theorem d_F_checkOver_34 : decode b_F_checkOver 34 = .ok (.iconst 3, 1) := by decide +kernel
theorem d_F_checkOver_35 : decode b_F_checkOver 35 = .ok (.ixor, 1) := by decide +kernel
theorem d_F_checkOver_36 : decode b_F_checkOver 36 = .ok (.istore_n 2, 1) := by decide +kernel
theorem d_F_checkOver_37 : decode b_F_checkOver 37 = .ok (.iinc 3 (-1), 3) := by decide +kernel
theorem d_F_checkOver_40 : decode b_F_checkOver 40 = .ok (.goto (-35), 3) := by decide +kernel
theorem d_F_checkOver_43 : decode b_F_checkOver 43 = .ok (.iload_n 2, 1) := by decide +kernel
theorem d_F_checkOver_44 : decode b_F_checkOver 44 = .ok (.ireturn, 1) := by decide +kernel
theorem d_F_endsHalf_0 : decode b_F_endsHalf 0 = .ok (.iload_n 0, 1) := by decide +kernel
theorem d_F_endsHalf_1 : decode b_F_endsHalf 1 = .ok (.bipush 7, 2) := by decide +kernel
theorem d_F_endsHalf_3 : decode b_F_endsHalf 3 = .ok (.if_icmp .eq 9, 3) := by decide +kernel
theorem d_F_endsHalf_6 : decode b_F_endsHalf 6 = .ok (.iload_n 0, 1) := by decide +kernel
theorem d_F_endsHalf_7 : decode b_F_endsHalf 7 = .ok (.bipush 15, 2) := by decide +kernel
theorem d_F_endsHalf_9 : decode b_F_endsHalf 9 = .ok (.if_icmp .ne 7, 3) := by decide +kernel
theorem d_F_endsHalf_12 : decode b_F_endsHalf 12 = .ok (.iconst 1, 1) := by decide +kernel
theorem d_F_endsHalf_13 : decode b_F_endsHalf 13 = .ok (.goto 4, 3) := by decide +kernel
theorem d_F_endsHalf_16 : decode b_F_endsHalf 16 = .ok (.iconst 0, 1) := by decide +kernel
theorem d_F_endsHalf_17 : decode b_F_endsHalf 17 = .ok (.ireturn, 1) := by decide +kernel
end
section
theorem d_M_thrown_0 : decode b_M_thrown 0 = .ok (.aload_n 0, 1) := by decide +kernel
theorem d_M_thrown_1 : decode b_M_thrown 1 = .ok (.getfield 137, 3) := by decide +kernel
theorem d_M_thrown_4 : decode b_M_thrown 4 = .ok (.ireturn, 1) := by decide +kernel
theorem d_M_within_0 : decode b_M_within 0 = .ok (.iload_n 0, 1) := by decide +kernel
theorem d_M_within_1 : decode b_M_within 1 = .ok (.iload_n 1, 1) := by decide +kernel
theorem d_M_within_2 : decode b_M_within 2 = .ok (.if_icmp .lt 12, 3) := by decide +kernel
theorem d_M_within_5 : decode b_M_within 5 = .ok (.iload_n 0, 1) := by decide +kernel
theorem d_M_within_6 : decode b_M_within 6 = .ok (.iload_n 2, 1) := by decide +kernel
theorem d_M_within_7 : decode b_M_within 7 = .ok (.if_icmp .gt 7, 3) := by decide +kernel
theorem d_M_within_10 : decode b_M_within 10 = .ok (.iconst 1, 1) := by decide +kernel
theorem d_M_within_11 : decode b_M_within 11 = .ok (.goto 4, 3) := by decide +kernel
theorem d_M_within_14 : decode b_M_within 14 = .ok (.iconst 0, 1) := by decide +kernel
theorem d_M_within_15 : decode b_M_within 15 = .ok (.ireturn, 1) := by decide +kernel
theorem d_M_isEnd_0 : decode b_M_isEnd 0 = .ok (.iload_n 0, 1) := by decide +kernel
theorem d_M_isEnd_1 : decode b_M_isEnd 1 = .ok (.ifCond .eq 8, 3) := by decide +kernel
theorem d_M_isEnd_4 : decode b_M_isEnd 4 = .ok (.iload_n 0, 1) := by decide +kernel
theorem d_M_isEnd_5 : decode b_M_isEnd 5 = .ok (.iconst 1, 1) := by decide +kernel
theorem d_M_isEnd_6 : decode b_M_isEnd 6 = .ok (.if_icmp .ne 7, 3) := by decide +kernel
theorem d_M_isEnd_9 : decode b_M_isEnd 9 = .ok (.iconst 1, 1) := by decide +kernel
theorem d_M_isEnd_10 : decode b_M_isEnd 10 = .ok (.goto 4, 3) := by decide +kernel
theorem d_M_isEnd_13 : decode b_M_isEnd 13 = .ok (.iconst 0, 1) := by decide +kernel
theorem d_M_isEnd_14 : decode b_M_isEnd 14 = .ok (.ireturn, 1) := by decide +kernel
theorem d_M_with_0 : decode b_M_with 0 = .ok (.iload_n 1, 1) := by decide +kernel
theorem d_M_with_1 : decode b_M_with 1 = .ok (.iload_n 0, 1) := by decide +kernel
theorem d_M_with_2 : decode b_M_with 2 = .ok (.iconst 3, 1) := by decide +kernel
theorem d_M_with_3 : decode b_M_with 3 = .ok (.ishr, 1) := by decide +kernel
theorem d_M_with_4 : decode b_M_with 4 = .ok (.ixor, 1) := by decide +kernel
theorem d_M_with_5 : decode b_M_with 5 = .ok (.istore_n 2, 1) := by decide +kernel
theorem d_M_with_6 : decode b_M_with 6 = .ok (.iload_n 0, 1) := by decide +kernel
theorem d_M_with_7 : decode b_M_with 7 = .ok (.iconst 1, 1) := by decide +kernel
theorem d_M_with_8 : decode b_M_with 8 = .ok (.ishl, 1) := by decide +kernel
theorem d_M_with_9 : decode b_M_with 9 = .ok (.bipush 15, 2) := by decide +kernel
theorem d_M_with_11 : decode b_M_with 11 = .ok (.iand, 1) := by decide +kernel
theorem d_M_with_12 : decode b_M_with 12 = .ok (.istore_n 3, 1) := by decide +kernel
theorem d_M_with_13 : decode b_M_with 13 = .ok (.iload_n 2, 1) := by decide +kernel
theorem d_M_with_14 : decode b_M_with 14 = .ok (.iconst 1, 1) := by decide +kernel
theorem d_M_with_15 : decode b_M_with 15 = .ok (.if_icmp .ne 9, 3) := by decide +kernel
theorem d_M_with_18 : decode b_M_with 18 = .ok (.iload_n 3, 1) := by decide +kernel
theorem d_M_with_19 : decode b_M_with 19 = .ok (.iconst 3, 1) := by decide +kernel
theorem d_M_with_20 : decode b_M_with 20 = .ok (.ixor, 1) := by decide +kernel
theorem d_M_with_21 : decode b_M_with 21 = .ok (.goto 4, 3) := by decide +kernel
theorem d_M_with_24 : decode b_M_with 24 = .ok (.iload_n 3, 1) := by decide +kernel
theorem d_M_with_25 : decode b_M_with 25 = .ok (.ireturn, 1) := by decide +kernel
theorem d_M_mark_0 : decode b_M_mark 0 = .ok (.iload_n 2, 1) := by decide +kernel
theorem d_M_mark_1 : decode b_M_mark 1 = .ok (.bipush 11, 2) := by decide +kernel
theorem d_M_mark_3 : decode b_M_mark 3 = .ok (.if_icmp .le 32, 3) := by decide +kernel
theorem d_M_mark_6 : decode b_M_mark 6 = .ok (.aload_n 0, 1) := by decide +kernel
theorem d_M_mark_7 : decode b_M_mark 7 = .ok (.getfield 131, 3) := by decide +kernel
theorem d_M_mark_10 : decode b_M_mark 10 = .ok (.iconst 2, 1) := by decide +kernel
theorem d_M_mark_11 : decode b_M_mark 11 = .ok (.iload_n 1, 1) := by decide +kernel
theorem d_M_mark_12 : decode b_M_mark 12 = .ok (.imul, 1) := by decide +kernel
theorem d_M_mark_13 : decode b_M_mark 13 = .ok (.iload_n 2, 1) := by decide +kernel
theorem d_M_mark_14 : decode b_M_mark 14 = .ok (.bipush 13, 2) := by decide +kernel
theorem d_M_mark_16 : decode b_M_mark 16 = .ok (.if_icmp .ne 7, 3) := by decide +kernel
theorem d_M_mark_19 : decode b_M_mark 19 = .ok (.iconst 0, 1) := by decide +kernel
theorem d_M_mark_20 : decode b_M_mark 20 = .ok (.goto 4, 3) := by decide +kernel
theorem d_M_mark_23 : decode b_M_mark 23 = .ok (.iconst 1, 1) := by decide +kernel
theorem d_M_mark_24 : decode b_M_mark 24 = .ok (.iadd, 1) := by decide +kernel
theorem d_M_mark_25 : decode b_M_mark 25 = .ok (.baload, 1) := by decide +kernel
theorem d_M_mark_26 : decode b_M_mark 26 = .ok (.ifCond .eq 7, 3) := by decide +kernel
theorem d_M_mark_29 : decode b_M_mark 29 = .ok (.iconst 0, 1) := by decide +kernel
theorem d_M_mark_30 : decode b_M_mark 30 = .ok (.goto 4, 3) := by decide +kernel
theorem d_M_mark_33 : decode b_M_mark 33 = .ok (.iconst 1, 1) := by decide +kernel
theorem d_M_mark_34 : decode b_M_mark 34 = .ok (.ireturn, 1) := by decide +kernel
theorem d_M_mark_35 : decode b_M_mark 35 = .ok (.iload_n 2, 1) := by decide +kernel
theorem d_M_mark_36 : decode b_M_mark 36 = .ok (.iconst 5, 1) := by decide +kernel
theorem d_M_mark_37 : decode b_M_mark 37 = .ok (.if_icmp .eq 9, 3) := by decide +kernel
theorem d_M_mark_40 : decode b_M_mark 40 = .ok (.iload_n 2, 1) := by decide +kernel
theorem d_M_mark_41 : decode b_M_mark 41 = .ok (.bipush 8, 2) := by decide +kernel
theorem d_M_mark_43 : decode b_M_mark 43 = .ok (.if_icmp .le 7, 3) := by decide +kernel
theorem d_M_mark_46 : decode b_M_mark 46 = .ok (.iconst 1, 1) := by decide +kernel
theorem d_M_mark_47 : decode b_M_mark 47 = .ok (.goto 4, 3) := by decide +kernel
theorem d_M_mark_50 : decode b_M_mark 50 = .ok (.iconst 0, 1) := by decide +kernel
theorem d_M_mark_51 : decode b_M_mark 51 = .ok (.ireturn, 1) := by decide +kernel
theorem d_M_beginFrame_0 : decode b_M_beginFrame 0 = .ok (.aload_n 0, 1) := by decide +kernel
theorem d_M_beginFrame_1 : decode b_M_beginFrame 1 = .ok (.getfield 16, 3) := by decide +kernel
theorem d_M_beginFrame_4 : decode b_M_beginFrame 4 = .ok (.iload_n 1, 1) := by decide +kernel
theorem d_M_beginFrame_5 : decode b_M_beginFrame 5 = .ok (.iaload, 1) := by decide +kernel
theorem d_M_beginFrame_6 : decode b_M_beginFrame 6 = .ok (.istore_n 2, 1) := by decide +kernel
theorem d_M_beginFrame_7 : decode b_M_beginFrame 7 = .ok (.iconst 0, 1) := by decide +kernel
theorem d_M_beginFrame_8 : decode b_M_beginFrame 8 = .ok (.istore_n 3, 1) := by decide +kernel
theorem d_M_beginFrame_9 : decode b_M_beginFrame 9 = .ok (.iload_n 2, 1) := by decide +kernel
theorem d_M_beginFrame_10 : decode b_M_beginFrame 10 = .ok (.iconst 2, 1) := by decide +kernel
theorem d_M_beginFrame_11 : decode b_M_beginFrame 11 = .ok (.irem, 1) := by decide +kernel
theorem d_M_beginFrame_12 : decode b_M_beginFrame 12 = .ok (.ifCond .ne 31, 3) := by decide +kernel
theorem d_M_beginFrame_15 : decode b_M_beginFrame 15 = .ok (.aload_n 0, 1) := by decide +kernel
theorem d_M_beginFrame_16 : decode b_M_beginFrame 16 = .ok (.getfield 25, 3) := by decide +kernel
theorem d_M_beginFrame_19 : decode b_M_beginFrame 19 = .ok (.iload_n 1, 1) := by decide +kernel
theorem d_M_beginFrame_20 : decode b_M_beginFrame 20 = .ok (.iaload, 1) := by decide +kernel
theorem d_M_beginFrame_21 : decode b_M_beginFrame 21 = .ok (.iconst 3, 1) := by decide +kernel
theorem d_M_beginFrame_22 : decode b_M_beginFrame 22 = .ok (.iload_n 2, 1) := by decide +kernel
theorem d_M_beginFrame_23 : decode b_M_beginFrame 23 = .ok (.bipush 8, 2) := by decide +kernel
theorem d_M_beginFrame_25 : decode b_M_beginFrame 25 = .ok (.irem, 1) := by decide +kernel
theorem d_M_beginFrame_26 : decode b_M_beginFrame 26 = .ok (.iconst 2, 1) := by decide +kernel
theorem d_M_beginFrame_27 : decode b_M_beginFrame 27 = .ok (.idiv, 1) := by decide +kernel
theorem d_M_beginFrame_28 : decode b_M_beginFrame 28 = .ok (.isub, 1) := by decide +kernel
theorem d_M_beginFrame_29 : decode b_M_beginFrame 29 = .ok (.ishr, 1) := by decide +kernel
theorem d_M_beginFrame_30 : decode b_M_beginFrame 30 = .ok (.iconst 1, 1) := by decide +kernel
theorem d_M_beginFrame_31 : decode b_M_beginFrame 31 = .ok (.iand, 1) := by decide +kernel
theorem d_M_beginFrame_32 : decode b_M_beginFrame 32 = .ok (.sipush 128, 3) := by decide +kernel
theorem d_M_beginFrame_35 : decode b_M_beginFrame 35 = .ok (.imul, 1) := by decide +kernel
theorem d_M_beginFrame_36 : decode b_M_beginFrame 36 = .ok (.bipush 27, 2) := by decide +kernel
theorem d_M_beginFrame_38 : decode b_M_beginFrame 38 = .ok (.iadd, 1) := by decide +kernel
theorem d_M_beginFrame_39 : decode b_M_beginFrame 39 = .ok (.istore_n 3, 1) := by decide +kernel
theorem d_M_beginFrame_40 : decode b_M_beginFrame 40 = .ok (.goto 37, 3) := by decide +kernel
theorem d_M_beginFrame_43 : decode b_M_beginFrame 43 = .ok (.aload_n 0, 1) := by decide +kernel
theorem d_M_beginFrame_44 : decode b_M_beginFrame 44 = .ok (.iload_n 1, 1) := by decide +kernel
theorem d_M_beginFrame_45 : decode b_M_beginFrame 45 = .ok (.iload_n 2, 1) := by decide +kernel
theorem d_M_beginFrame_46 : decode b_M_beginFrame 46 = .ok (.invokevirtual 141, 3) := by decide +kernel
theorem d_M_beginFrame_49 : decode b_M_beginFrame 49 = .ok (.sipush 128, 3) := by decide +kernel
theorem d_M_beginFrame_52 : decode b_M_beginFrame 52 = .ok (.imul, 1) := by decide +kernel
theorem d_M_beginFrame_53 : decode b_M_beginFrame 53 = .ok (.bipush 64, 2) := by decide +kernel
theorem d_M_beginFrame_55 : decode b_M_beginFrame 55 = .ok (.iadd, 1) := by decide +kernel
theorem d_M_beginFrame_56 : decode b_M_beginFrame 56 = .ok (.aload_n 0, 1) := by decide +kernel
theorem d_M_beginFrame_57 : decode b_M_beginFrame 57 = .ok (.getfield 74, 3) := by decide +kernel
theorem d_M_beginFrame_60 : decode b_M_beginFrame 60 = .ok (.iload_n 1, 1) := by decide +kernel
theorem d_M_beginFrame_61 : decode b_M_beginFrame 61 = .ok (.iaload, 1) := by decide +kernel
theorem d_M_beginFrame_62 : decode b_M_beginFrame 62 = .ok (.iconst 2, 1) := by decide +kernel
theorem d_M_beginFrame_63 : decode b_M_beginFrame 63 = .ok (.if_icmp .ne 7, 3) := by decide +kernel
theorem d_M_beginFrame_66 : decode b_M_beginFrame 66 = .ok (.iconst 0, 1) := by decide +kernel
theorem d_M_beginFrame_67 : decode b_M_beginFrame 67 = .ok (.goto 5, 3) := by decide +kernel
theorem d_M_beginFrame_70 : decode b_M_beginFrame 70 = .ok (.bipush 32, 2) := by decide +kernel
theorem d_M_beginFrame_72 : decode b_M_beginFrame 72 = .ok (.iadd, 1) := by decide +kernel
theorem d_M_beginFrame_73 : decode b_M_beginFrame 73 = .ok (.bipush 31, 2) := by decide +kernel
theorem d_M_beginFrame_75 : decode b_M_beginFrame 75 = .ok (.iadd, 1) := by decide +kernel
theorem d_M_beginFrame_76 : decode b_M_beginFrame 76 = .ok (.istore_n 3, 1) := by decide +kernel
theorem d_M_beginFrame_77 : decode b_M_beginFrame 77 = .ok (.aload_n 0, 1) := by decide +kernel
theorem d_M_beginFrame_78 : decode b_M_beginFrame 78 = .ok (.getfield 13, 3) := by decide +kernel
theorem d_M_beginFrame_81 : decode b_M_beginFrame 81 = .ok (.iload_n 1, 1) := by decide +kernel
theorem d_M_beginFrame_82 : decode b_M_beginFrame 82 = .ok (.iload_n 3, 1) := by decide +kernel
theorem d_M_beginFrame_83 : decode b_M_beginFrame 83 = .ok (.bipush 24, 2) := by decide +kernel
theorem d_M_beginFrame_85 : decode b_M_beginFrame 85 = .ok (.ishl, 1) := by decide +kernel
theorem d_M_beginFrame_86 : decode b_M_beginFrame 86 = .ok (.aload_n 0, 1) := by decide +kernel
theorem d_M_beginFrame_87 : decode b_M_beginFrame 87 = .ok (.getfield 7, 3) := by decide +kernel
theorem d_M_beginFrame_90 : decode b_M_beginFrame 90 = .ok (.iconst 4, 1) := by decide +kernel
theorem d_M_beginFrame_91 : decode b_M_beginFrame 91 = .ok (.iload_n 1, 1) := by decide +kernel
theorem d_M_beginFrame_92 : decode b_M_beginFrame 92 = .ok (.imul, 1) := by decide +kernel
theorem d_M_beginFrame_93 : decode b_M_beginFrame 93 = .ok (.iconst 1, 1) := by decide +kernel
theorem d_M_beginFrame_94 : decode b_M_beginFrame 94 = .ok (.iadd, 1) := by decide +kernel
theorem d_M_beginFrame_95 : decode b_M_beginFrame 95 = .ok (.iaload, 1) := by decide +kernel
theorem d_M_beginFrame_96 : decode b_M_beginFrame 96 = .ok (.bipush 16, 2) := by decide +kernel
theorem d_M_beginFrame_98 : decode b_M_beginFrame 98 = .ok (.ishl, 1) := by decide +kernel
theorem d_M_beginFrame_99 : decode b_M_beginFrame 99 = .ok (.ior, 1) := by decide +kernel
theorem d_M_beginFrame_100 : decode b_M_beginFrame 100 = .ok (.aload_n 0, 1) := by decide +kernel
theorem d_M_beginFrame_101 : decode b_M_beginFrame 101 = .ok (.getfield 7, 3) := by decide +kernel
theorem d_M_beginFrame_104 : decode b_M_beginFrame 104 = .ok (.iconst 4, 1) := by decide +kernel
theorem d_M_beginFrame_105 : decode b_M_beginFrame 105 = .ok (.iload_n 1, 1) := by decide +kernel
theorem d_M_beginFrame_106 : decode b_M_beginFrame 106 = .ok (.imul, 1) := by decide +kernel
theorem d_M_beginFrame_107 : decode b_M_beginFrame 107 = .ok (.iconst 2, 1) := by decide +kernel
theorem d_M_beginFrame_108 : decode b_M_beginFrame 108 = .ok (.iadd, 1) := by decide +kernel
theorem d_M_beginFrame_109 : decode b_M_beginFrame 109 = .ok (.iaload, 1) := by decide +kernel
theorem d_M_beginFrame_110 : decode b_M_beginFrame 110 = .ok (.bipush 8, 2) := by decide +kernel
theorem d_M_beginFrame_112 : decode b_M_beginFrame 112 = .ok (.ishl, 1) := by decide +kernel
theorem d_M_beginFrame_113 : decode b_M_beginFrame 113 = .ok (.ior, 1) := by decide +kernel
theorem d_M_beginFrame_114 : decode b_M_beginFrame 114 = .ok (.aload_n 0, 1) := by decide +kernel
theorem d_M_beginFrame_115 : decode b_M_beginFrame 115 = .ok (.getfield 7, 3) := by decide +kernel
theorem d_M_beginFrame_118 : decode b_M_beginFrame 118 = .ok (.iconst 4, 1) := by decide +kernel
theorem d_M_beginFrame_119 : decode b_M_beginFrame 119 = .ok (.iload_n 1, 1) := by decide +kernel
theorem d_M_beginFrame_120 : decode b_M_beginFrame 120 = .ok (.imul, 1) := by decide +kernel
theorem d_M_beginFrame_121 : decode b_M_beginFrame 121 = .ok (.iconst 3, 1) := by decide +kernel
theorem d_M_beginFrame_122 : decode b_M_beginFrame 122 = .ok (.iadd, 1) := by decide +kernel
theorem d_M_beginFrame_123 : decode b_M_beginFrame 123 = .ok (.iaload, 1) := by decide +kernel
theorem d_M_beginFrame_124 : decode b_M_beginFrame 124 = .ok (.ior, 1) := by decide +kernel
theorem d_M_beginFrame_125 : decode b_M_beginFrame 125 = .ok (.iastore, 1) := by decide +kernel
theorem d_M_beginFrame_126 : decode b_M_beginFrame 126 = .ok (.return_, 1) := by decide +kernel
theorem d_M_nextBit_0 : decode b_M_nextBit 0 = .ok (.aload_n 0, 1) := by decide +kernel
theorem d_M_nextBit_1 : decode b_M_nextBit 1 = .ok (.getfield 19, 3) := by decide +kernel
theorem d_M_nextBit_4 : decode b_M_nextBit 4 = .ok (.iload_n 1, 1) := by decide +kernel
theorem d_M_nextBit_5 : decode b_M_nextBit 5 = .ok (.iaload, 1) := by decide +kernel
theorem d_M_nextBit_6 : decode b_M_nextBit 6 = .ok (.ifCond .ne 8, 3) := by decide +kernel
theorem d_M_nextBit_9 : decode b_M_nextBit 9 = .ok (.aload_n 0, 1) := by decide +kernel
theorem d_M_nextBit_10 : decode b_M_nextBit 10 = .ok (.iload_n 1, 1) := by decide +kernel
theorem d_M_nextBit_11 : decode b_M_nextBit 11 = .ok (.invokevirtual 145, 3) := by decide +kernel
theorem d_M_nextBit_14 : decode b_M_nextBit 14 = .ok (.aload_n 0, 1) := by decide +kernel
theorem d_M_nextBit_15 : decode b_M_nextBit 15 = .ok (.getfield 13, 3) := by decide +kernel
theorem d_M_nextBit_18 : decode b_M_nextBit 18 = .ok (.iload_n 1, 1) := by decide +kernel
theorem d_M_nextBit_19 : decode b_M_nextBit 19 = .ok (.iaload, 1) := by decide +kernel
theorem d_M_nextBit_20 : decode b_M_nextBit 20 = .ok (.bipush 31, 2) := by decide +kernel
theorem d_M_nextBit_22 : decode b_M_nextBit 22 = .ok (.aload_n 0, 1) := by decide +kernel
theorem d_M_nextBit_23 : decode b_M_nextBit 23 = .ok (.getfield 19, 3) := by decide +kernel
theorem d_M_nextBit_26 : decode b_M_nextBit 26 = .ok (.iload_n 1, 1) := by decide +kernel
theorem d_M_nextBit_27 : decode b_M_nextBit 27 = .ok (.iaload, 1) := by decide +kernel
theorem d_M_nextBit_28 : decode b_M_nextBit 28 = .ok (.isub, 1) := by decide +kernel
theorem d_M_nextBit_29 : decode b_M_nextBit 29 = .ok (.ishr, 1) := by decide +kernel
theorem d_M_nextBit_30 : decode b_M_nextBit 30 = .ok (.iconst 1, 1) := by decide +kernel
theorem d_M_nextBit_31 : decode b_M_nextBit 31 = .ok (.iand, 1) := by decide +kernel
theorem d_M_nextBit_32 : decode b_M_nextBit 32 = .ok (.istore_n 2, 1) := by decide +kernel
theorem d_M_nextBit_33 : decode b_M_nextBit 33 = .ok (.aload_n 0, 1) := by decide +kernel
theorem d_M_nextBit_34 : decode b_M_nextBit 34 = .ok (.getfield 22, 3) := by decide +kernel
theorem d_M_nextBit_37 : decode b_M_nextBit 37 = .ok (.iload_n 1, 1) := by decide +kernel
theorem d_M_nextBit_38 : decode b_M_nextBit 38 = .ok (.aload_n 0, 1) := by decide +kernel
theorem d_M_nextBit_39 : decode b_M_nextBit 39 = .ok (.getfield 22, 3) := by decide +kernel
theorem d_M_nextBit_42 : decode b_M_nextBit 42 = .ok (.iload_n 1, 1) := by decide +kernel
theorem d_M_nextBit_43 : decode b_M_nextBit 43 = .ok (.iaload, 1) := by decide +kernel
theorem d_M_nextBit_44 : decode b_M_nextBit 44 = .ok (.aload_n 0, 1) := by decide +kernel
theorem d_M_nextBit_45 : decode b_M_nextBit 45 = .ok (.getfield 19, 3) := by decide +kernel
theorem d_M_nextBit_48 : decode b_M_nextBit 48 = .ok (.iload_n 1, 1) := by decide +kernel
theorem d_M_nextBit_49 : decode b_M_nextBit 49 = .ok (.iaload, 1) := by decide +kernel
theorem d_M_nextBit_50 : decode b_M_nextBit 50 = .ok (.ifCond .ne 18, 3) := by decide +kernel
theorem d_M_nextBit_53 : decode b_M_nextBit 53 = .ok (.aload_n 0, 1) := by decide +kernel
theorem d_M_nextBit_54 : decode b_M_nextBit 54 = .ok (.getfield 16, 3) := by decide +kernel
theorem d_M_nextBit_57 : decode b_M_nextBit 57 = .ok (.iload_n 1, 1) := by decide +kernel
theorem d_M_nextBit_58 : decode b_M_nextBit 58 = .ok (.iaload, 1) := by decide +kernel
theorem d_M_nextBit_59 : decode b_M_nextBit 59 = .ok (.iconst 2, 1) := by decide +kernel
theorem d_M_nextBit_60 : decode b_M_nextBit 60 = .ok (.irem, 1) := by decide +kernel
theorem d_M_nextBit_61 : decode b_M_nextBit 61 = .ok (.ifCond .ne 7, 3) := by decide +kernel
theorem d_M_nextBit_64 : decode b_M_nextBit 64 = .ok (.iconst 0, 1) := by decide +kernel
theorem d_M_nextBit_65 : decode b_M_nextBit 65 = .ok (.goto 4, 3) := by decide +kernel
theorem d_M_nextBit_68 : decode b_M_nextBit 68 = .ok (.iload_n 2, 1) := by decide +kernel
theorem d_M_nextBit_69 : decode b_M_nextBit 69 = .ok (.invokestatic 149, 3) := by decide +kernel
theorem d_M_nextBit_72 : decode b_M_nextBit 72 = .ok (.iastore, 1) := by decide +kernel
theorem d_M_nextBit_73 : decode b_M_nextBit 73 = .ok (.aload_n 0, 1) := by decide +kernel
theorem d_M_nextBit_74 : decode b_M_nextBit 74 = .ok (.getfield 19, 3) := by decide +kernel
theorem d_M_nextBit_77 : decode b_M_nextBit 77 = .ok (.iload_n 1, 1) := by decide +kernel
theorem d_M_nextBit_78 : decode b_M_nextBit 78 = .ok (.aload_n 0, 1) := by decide +kernel
theorem d_M_nextBit_79 : decode b_M_nextBit 79 = .ok (.getfield 19, 3) := by decide +kernel
theorem d_M_nextBit_82 : decode b_M_nextBit 82 = .ok (.iload_n 1, 1) := by decide +kernel
theorem d_M_nextBit_83 : decode b_M_nextBit 83 = .ok (.iaload, 1) := by decide +kernel
theorem d_M_nextBit_84 : decode b_M_nextBit 84 = .ok (.iconst 1, 1) := by decide +kernel
theorem d_M_nextBit_85 : decode b_M_nextBit 85 = .ok (.iadd, 1) := by decide +kernel
theorem d_M_nextBit_86 : decode b_M_nextBit 86 = .ok (.iastore, 1) := by decide +kernel
theorem d_M_nextBit_87 : decode b_M_nextBit 87 = .ok (.aload_n 0, 1) := by decide +kernel
theorem d_M_nextBit_88 : decode b_M_nextBit 88 = .ok (.getfield 19, 3) := by decide +kernel
theorem d_M_nextBit_91 : decode b_M_nextBit 91 = .ok (.iload_n 1, 1) := by decide +kernel
theorem d_M_nextBit_92 : decode b_M_nextBit 92 = .ok (.iaload, 1) := by decide +kernel
theorem d_M_nextBit_93 : decode b_M_nextBit 93 = .ok (.bipush 32, 2) := by decide +kernel
theorem d_M_nextBit_95 : decode b_M_nextBit 95 = .ok (.if_icmp .ne 58, 3) := by decide +kernel
theorem d_M_nextBit_98 : decode b_M_nextBit 98 = .ok (.aload_n 0, 1) := by decide +kernel
theorem d_M_nextBit_99 : decode b_M_nextBit 99 = .ok (.getfield 19, 3) := by decide +kernel
theorem d_M_nextBit_102 : decode b_M_nextBit 102 = .ok (.iload_n 1, 1) := by decide +kernel
theorem d_M_nextBit_103 : decode b_M_nextBit 103 = .ok (.iconst 0, 1) := by decide +kernel
theorem d_M_nextBit_104 : decode b_M_nextBit 104 = .ok (.iastore, 1) := by decide +kernel
theorem d_M_nextBit_105 : decode b_M_nextBit 105 = .ok (.aload_n 0, 1) := by decide +kernel
theorem d_M_nextBit_106 : decode b_M_nextBit 106 = .ok (.getfield 16, 3) := by decide +kernel
theorem d_M_nextBit_109 : decode b_M_nextBit 109 = .ok (.iload_n 1, 1) := by decide +kernel
theorem d_M_nextBit_110 : decode b_M_nextBit 110 = .ok (.aload_n 0, 1) := by decide +kernel
theorem d_M_nextBit_111 : decode b_M_nextBit 111 = .ok (.getfield 16, 3) := by decide +kernel
theorem d_M_nextBit_114 : decode b_M_nextBit 114 = .ok (.iload_n 1, 1) := by decide +kernel
theorem d_M_nextBit_115 : decode b_M_nextBit 115 = .ok (.iaload, 1) := by decide +kernel
theorem d_M_nextBit_116 : decode b_M_nextBit 116 = .ok (.iconst 1, 1) := by decide +kernel
theorem d_M_nextBit_117 : decode b_M_nextBit 117 = .ok (.iadd, 1) := by decide +kernel
theorem d_M_nextBit_118 : decode b_M_nextBit 118 = .ok (.bipush 16, 2) := by decide +kernel
theorem d_M_nextBit_120 : decode b_M_nextBit 120 = .ok (.irem, 1) := by decide +kernel
theorem d_M_nextBit_121 : decode b_M_nextBit 121 = .ok (.iastore, 1) := by decide +kernel
theorem d_M_nextBit_122 : decode b_M_nextBit 122 = .ok (.aload_n 0, 1) := by decide +kernel
theorem d_M_nextBit_123 : decode b_M_nextBit 123 = .ok (.getfield 16, 3) := by decide +kernel
theorem d_M_nextBit_126 : decode b_M_nextBit 126 = .ok (.iload_n 1, 1) := by decide +kernel
theorem d_M_nextBit_127 : decode b_M_nextBit 127 = .ok (.iaload, 1) := by decide +kernel
theorem d_M_nextBit_128 : decode b_M_nextBit 128 = .ok (.bipush 8, 2) := by decide +kernel
theorem d_M_nextBit_130 : decode b_M_nextBit 130 = .ok (.irem, 1) := by decide +kernel
theorem d_M_nextBit_131 : decode b_M_nextBit 131 = .ok (.ifCond .ne 22, 3) := by decide +kernel
theorem d_M_nextBit_134 : decode b_M_nextBit 134 = .ok (.aload_n 0, 1) := by decide +kernel
theorem d_M_nextBit_135 : decode b_M_nextBit 135 = .ok (.getfield 25, 3) := by decide +kernel
theorem d_M_nextBit_138 : decode b_M_nextBit 138 = .ok (.iload_n 1, 1) := by decide +kernel
theorem d_M_nextBit_139 : decode b_M_nextBit 139 = .ok (.aload_n 0, 1) := by decide +kernel
theorem d_M_nextBit_140 : decode b_M_nextBit 140 = .ok (.getfield 22, 3) := by decide +kernel
theorem d_M_nextBit_143 : decode b_M_nextBit 143 = .ok (.iload_n 1, 1) := by decide +kernel
theorem d_M_nextBit_144 : decode b_M_nextBit 144 = .ok (.iaload, 1) := by decide +kernel
theorem d_M_nextBit_145 : decode b_M_nextBit 145 = .ok (.iastore, 1) := by decide +kernel
theorem d_M_nextBit_146 : decode b_M_nextBit 146 = .ok (.aload_n 0, 1) := by decide +kernel
theorem d_M_nextBit_147 : decode b_M_nextBit 147 = .ok (.getfield 22, 3) := by decide +kernel
theorem d_M_nextBit_150 : decode b_M_nextBit 150 = .ok (.iload_n 1, 1) := by decide +kernel
theorem d_M_nextBit_151 : decode b_M_nextBit 151 = .ok (.iconst 0, 1) := by decide +kernel
theorem d_M_nextBit_152 : decode b_M_nextBit 152 = .ok (.iastore, 1) := by decide +kernel
theorem d_M_nextBit_153 : decode b_M_nextBit 153 = .ok (.iload_n 2, 1) := by decide +kernel
theorem d_M_nextBit_154 : decode b_M_nextBit 154 = .ok (.ireturn, 1) := by decide +kernel
theorem d_M_turned_0 : decode b_M_turned 0 = .ok (.aload_n 0, 1) := by decide +kernel
theorem d_M_turned_1 : decode b_M_turned 1 = .ok (.getfield 34, 3) := by decide +kernel
theorem d_M_turned_4 : decode b_M_turned 4 = .ok (.iload_n 1, 1) := by decide +kernel
theorem d_M_turned_5 : decode b_M_turned 5 = .ok (.aload_n 0, 1) := by decide +kernel
theorem d_M_turned_6 : decode b_M_turned 6 = .ok (.getfield 34, 3) := by decide +kernel
theorem d_M_turned_9 : decode b_M_turned 9 = .ok (.iload_n 1, 1) := by decide +kernel
theorem d_M_turned_10 : decode b_M_turned 10 = .ok (.iaload, 1) := by decide +kernel
theorem d_M_turned_11 : decode b_M_turned 11 = .ok (.ifCond .ne 7, 3) := by decide +kernel
theorem d_M_turned_14 : decode b_M_turned 14 = .ok (.iconst 1, 1) := by decide +kernel
theorem d_M_turned_15 : decode b_M_turned 15 = .ok (.goto 10, 3) := by decide +kernel
theorem d_M_turned_18 : decode b_M_turned 18 = .ok (.aload_n 0, 1) := by decide +kernel
theorem d_M_turned_19 : decode b_M_turned 19 = .ok (.getfield 34, 3) := by decide +kernel
theorem d_M_turned_22 : decode b_M_turned 22 = .ok (.iload_n 1, 1) := by decide +kernel
theorem d_M_turned_23 : decode b_M_turned 23 = .ok (.iaload, 1) := by decide +kernel
theorem d_M_turned_24 : decode b_M_turned 24 = .ok (.ineg, 1) := by decide +kernel
theorem d_M_turned_25 : decode b_M_turned 25 = .ok (.iastore, 1) := by decide +kernel
theorem d_M_turned_26 : decode b_M_turned 26 = .ok (.aload_n 0, 1) := by decide +kernel
theorem d_M_turned_27 : decode b_M_turned 27 = .ok (.getfield 34, 3) := by decide +kernel
theorem d_M_turned_30 : decode b_M_turned 30 = .ok (.iload_n 1, 1) := by decide +kernel
theorem d_M_turned_31 : decode b_M_turned 31 = .ok (.iaload, 1) := by decide +kernel
theorem d_M_turned_32 : decode b_M_turned 32 = .ok (.ireturn, 1) := by decide +kernel
theorem d_M_send_0 : decode b_M_send 0 = .ok (.aload_n 0, 1) := by decide +kernel
theorem d_M_send_1 : decode b_M_send 1 = .ok (.getfield 28, 3) := by decide +kernel
theorem d_M_send_4 : decode b_M_send 4 = .ok (.iload_n 1, 1) := by decide +kernel
theorem d_M_send_5 : decode b_M_send 5 = .ok (.aload_n 0, 1) := by decide +kernel
theorem d_M_send_6 : decode b_M_send 6 = .ok (.getfield 28, 3) := by decide +kernel
theorem d_M_send_9 : decode b_M_send 9 = .ok (.iload_n 1, 1) := by decide +kernel
theorem d_M_send_10 : decode b_M_send 10 = .ok (.iaload, 1) := by decide +kernel
theorem d_M_send_11 : decode b_M_send 11 = .ok (.iconst 1, 1) := by decide +kernel
theorem d_M_send_12 : decode b_M_send 12 = .ok (.ishl, 1) := by decide +kernel
theorem d_M_send_13 : decode b_M_send 13 = .ok (.aload_n 0, 1) := by decide +kernel
theorem d_M_send_14 : decode b_M_send 14 = .ok (.iload_n 1, 1) := by decide +kernel
theorem d_M_send_15 : decode b_M_send 15 = .ok (.invokevirtual 152, 3) := by decide +kernel
theorem d_M_send_18 : decode b_M_send 18 = .ok (.ior, 1) := by decide +kernel
theorem d_M_send_19 : decode b_M_send 19 = .ok (.bipush 15, 2) := by decide +kernel
theorem d_M_send_21 : decode b_M_send 21 = .ok (.iand, 1) := by decide +kernel
theorem d_M_send_22 : decode b_M_send 22 = .ok (.iastore, 1) := by decide +kernel
theorem d_M_send_23 : decode b_M_send 23 = .ok (.aload_n 0, 1) := by decide +kernel
theorem d_M_send_24 : decode b_M_send 24 = .ok (.getfield 156, 3) := by decide +kernel
theorem d_M_send_27 : decode b_M_send 27 = .ok (.iconst 4, 1) := by decide +kernel
theorem d_M_send_28 : decode b_M_send 28 = .ok (.if_icmp .ge 5, 3) := by decide +kernel
theorem d_M_send_31 : decode b_M_send 31 = .ok (.iconst 0, 1) := by decide +kernel
theorem d_M_send_32 : decode b_M_send 32 = .ok (.ireturn, 1) := by decide +kernel
theorem d_M_send_33 : decode b_M_send 33 = .ok (.aload_n 0, 1) := by decide +kernel
theorem d_M_send_34 : decode b_M_send 34 = .ok (.getfield 31, 3) := by decide +kernel
theorem d_M_send_37 : decode b_M_send 37 = .ok (.iload_n 1, 1) := by decide +kernel
theorem d_M_send_38 : decode b_M_send 38 = .ok (.iaload, 1) := by decide +kernel
theorem d_M_send_39 : decode b_M_send 39 = .ok (.ifCond .le 66, 3) := by decide +kernel
theorem d_M_send_42 : decode b_M_send 42 = .ok (.aload_n 0, 1) := by decide +kernel
theorem d_M_send_43 : decode b_M_send 43 = .ok (.getfield 31, 3) := by decide +kernel
theorem d_M_send_46 : decode b_M_send 46 = .ok (.iload_n 1, 1) := by decide +kernel
theorem d_M_send_47 : decode b_M_send 47 = .ok (.aload_n 0, 1) := by decide +kernel
theorem d_M_send_48 : decode b_M_send 48 = .ok (.getfield 31, 3) := by decide +kernel
theorem d_M_send_51 : decode b_M_send 51 = .ok (.iload_n 1, 1) := by decide +kernel
theorem d_M_send_52 : decode b_M_send 52 = .ok (.iaload, 1) := by decide +kernel
theorem d_M_send_53 : decode b_M_send 53 = .ok (.iconst 1, 1) := by decide +kernel
theorem d_M_send_54 : decode b_M_send 54 = .ok (.isub, 1) := by decide +kernel
theorem d_M_send_55 : decode b_M_send 55 = .ok (.iastore, 1) := by decide +kernel
theorem d_M_send_56 : decode b_M_send 56 = .ok (.aload_n 0, 1) := by decide +kernel
theorem d_M_send_57 : decode b_M_send 57 = .ok (.getfield 37, 3) := by decide +kernel
theorem d_M_send_60 : decode b_M_send 60 = .ok (.iload_n 1, 1) := by decide +kernel
theorem d_M_send_61 : decode b_M_send 61 = .ok (.aload_n 0, 1) := by decide +kernel
theorem d_M_send_62 : decode b_M_send 62 = .ok (.getfield 31, 3) := by decide +kernel
theorem d_M_send_65 : decode b_M_send 65 = .ok (.iload_n 1, 1) := by decide +kernel
theorem d_M_send_66 : decode b_M_send 66 = .ok (.iaload, 1) := by decide +kernel
theorem d_M_send_67 : decode b_M_send 67 = .ok (.ifCond .le 16, 3) := by decide +kernel
theorem d_M_send_70 : decode b_M_send 70 = .ok (.aload_n 0, 1) := by decide +kernel
theorem d_M_send_71 : decode b_M_send 71 = .ok (.getfield 37, 3) := by decide +kernel
theorem d_M_send_74 : decode b_M_send 74 = .ok (.iload_n 1, 1) := by decide +kernel
theorem d_M_send_75 : decode b_M_send 75 = .ok (.baload, 1) := by decide +kernel
theorem d_M_send_76 : decode b_M_send 76 = .ok (.ifCond .eq 7, 3) := by decide +kernel
theorem d_M_send_79 : decode b_M_send 79 = .ok (.iconst 1, 1) := by decide +kernel
theorem d_M_send_80 : decode b_M_send 80 = .ok (.goto 4, 3) := by decide +kernel
theorem d_M_send_83 : decode b_M_send 83 = .ok (.iconst 0, 1) := by decide +kernel
theorem d_M_send_84 : decode b_M_send 84 = .ok (.bastore, 1) := by decide +kernel
theorem d_M_send_85 : decode b_M_send 85 = .ok (.aload_n 0, 1) := by decide +kernel
theorem d_M_send_86 : decode b_M_send 86 = .ok (.getfield 31, 3) := by decide +kernel
theorem d_M_send_89 : decode b_M_send 89 = .ok (.iload_n 1, 1) := by decide +kernel
theorem d_M_send_90 : decode b_M_send 90 = .ok (.iaload, 1) := by decide +kernel
theorem d_M_send_91 : decode b_M_send 91 = .ok (.ifCond .ne 12, 3) := by decide +kernel
theorem d_M_send_94 : decode b_M_send 94 = .ok (.aload_n 0, 1) := by decide +kernel
theorem d_M_send_95 : decode b_M_send 95 = .ok (.getfield 34, 3) := by decide +kernel
theorem d_M_send_98 : decode b_M_send 98 = .ok (.iload_n 1, 1) := by decide +kernel
theorem d_M_send_99 : decode b_M_send 99 = .ok (.iaload, 1) := by decide +kernel
theorem d_M_send_100 : decode b_M_send 100 = .ok (.goto 4, 3) := by decide +kernel
theorem d_M_send_103 : decode b_M_send 103 = .ok (.iconst 0, 1) := by decide +kernel
theorem d_M_send_104 : decode b_M_send 104 = .ok (.ireturn, 1) := by decide +kernel
theorem d_M_send_105 : decode b_M_send 105 = .ok (.aload_n 0, 1) := by decide +kernel
theorem d_M_send_106 : decode b_M_send 106 = .ok (.getfield 28, 3) := by decide +kernel
theorem d_M_send_109 : decode b_M_send 109 = .ok (.iload_n 1, 1) := by decide +kernel
theorem d_M_send_110 : decode b_M_send 110 = .ok (.iaload, 1) := by decide +kernel
theorem d_M_send_111 : decode b_M_send 111 = .ok (.ifCond .ne 29, 3) := by decide +kernel
theorem d_M_send_114 : decode b_M_send 114 = .ok (.aload_n 0, 1) := by decide +kernel
theorem d_M_send_115 : decode b_M_send 115 = .ok (.getfield 31, 3) := by decide +kernel
theorem d_M_send_118 : decode b_M_send 118 = .ok (.iload_n 1, 1) := by decide +kernel
theorem d_M_send_119 : decode b_M_send 119 = .ok (.iconst 3, 1) := by decide +kernel
theorem d_M_send_120 : decode b_M_send 120 = .ok (.iastore, 1) := by decide +kernel
theorem d_M_send_121 : decode b_M_send 121 = .ok (.aload_n 0, 1) := by decide +kernel
theorem d_M_send_122 : decode b_M_send 122 = .ok (.getfield 37, 3) := by decide +kernel
theorem d_M_send_125 : decode b_M_send 125 = .ok (.iload_n 1, 1) := by decide +kernel
theorem d_M_send_126 : decode b_M_send 126 = .ok (.baload, 1) := by decide +kernel
theorem d_M_send_127 : decode b_M_send 127 = .ok (.ifCond .eq 7, 3) := by decide +kernel
theorem d_M_send_130 : decode b_M_send 130 = .ok (.iconst 0, 1) := by decide +kernel
theorem d_M_send_131 : decode b_M_send 131 = .ok (.goto 8, 3) := by decide +kernel
theorem d_M_send_134 : decode b_M_send 134 = .ok (.aload_n 0, 1) := by decide +kernel
theorem d_M_send_135 : decode b_M_send 135 = .ok (.iload_n 1, 1) := by decide +kernel
theorem d_M_send_136 : decode b_M_send 136 = .ok (.invokevirtual 159, 3) := by decide +kernel
theorem d_M_send_139 : decode b_M_send 139 = .ok (.ireturn, 1) := by decide +kernel
theorem d_M_send_140 : decode b_M_send 140 = .ok (.aload_n 0, 1) := by decide +kernel
theorem d_M_send_141 : decode b_M_send 141 = .ok (.getfield 28, 3) := by decide +kernel
theorem d_M_send_144 : decode b_M_send 144 = .ok (.iload_n 1, 1) := by decide +kernel
theorem d_M_send_145 : decode b_M_send 145 = .ok (.iaload, 1) := by decide +kernel
theorem d_M_send_146 : decode b_M_send 146 = .ok (.bipush 8, 2) := by decide +kernel
theorem d_M_send_148 : decode b_M_send 148 = .ok (.if_icmp .ge 5, 3) := by decide +kernel
theorem d_M_send_151 : decode b_M_send 151 = .ok (.iconst 0, 1) := by decide +kernel
theorem d_M_send_152 : decode b_M_send 152 = .ok (.ireturn, 1) := by decide +kernel
theorem d_M_send_153 : decode b_M_send 153 = .ok (.aload_n 0, 1) := by decide +kernel
theorem d_M_send_154 : decode b_M_send 154 = .ok (.getfield 37, 3) := by decide +kernel
theorem d_M_send_157 : decode b_M_send 157 = .ok (.iload_n 1, 1) := by decide +kernel
theorem d_M_send_158 : decode b_M_send 158 = .ok (.aload_n 0, 1) := by decide +kernel
theorem d_M_send_159 : decode b_M_send 159 = .ok (.getfield 37, 3) := by decide +kernel
theorem d_M_send_162 : decode b_M_send 162 = .ok (.iload_n 1, 1) := by decide +kernel
theorem d_M_send_163 : decode b_M_send 163 = .ok (.baload, 1) := by decide +kernel
theorem d_M_send_164 : decode b_M_send 164 = .ok (.ifCond .ne 7, 3) := by decide +kernel
theorem d_M_send_167 : decode b_M_send 167 = .ok (.iconst 1, 1) := by decide +kernel
theorem d_M_send_168 : decode b_M_send 168 = .ok (.goto 4, 3) := by decide +kernel
theorem d_M_send_171 : decode b_M_send 171 = .ok (.iconst 0, 1) := by decide +kernel
theorem d_M_send_172 : decode b_M_send 172 = .ok (.bastore, 1) := by decide +kernel
theorem d_M_send_173 : decode b_M_send 173 = .ok (.aload_n 0, 1) := by decide +kernel
theorem d_M_send_174 : decode b_M_send 174 = .ok (.iload_n 1, 1) := by decide +kernel
theorem d_M_send_175 : decode b_M_send 175 = .ok (.invokevirtual 159, 3) := by decide +kernel
theorem d_M_send_178 : decode b_M_send 178 = .ok (.ireturn, 1) := by decide +kernel
theorem d_M_said_0 : decode b_M_said 0 = .ok (.iconst (-1), 1) := by decide +kernel
theorem d_M_said_1 : decode b_M_said 1 = .ok (.istore_n 3, 1) := by decide +kernel
theorem d_M_said_2 : decode b_M_said 2 = .ok (.iconst 0, 1) := by decide +kernel
theorem d_M_said_3 : decode b_M_said 3 = .ok (.istore 4, 2) := by decide +kernel
theorem d_M_said_5 : decode b_M_said 5 = .ok (.iload 4, 2) := by decide +kernel
theorem d_M_said_7 : decode b_M_said 7 = .ok (.aload_n 0, 1) := by decide +kernel
theorem d_M_said_8 : decode b_M_said 8 = .ok (.getfield 41, 3) := by decide +kernel
theorem d_M_said_11 : decode b_M_said 11 = .ok (.iload_n 1, 1) := by decide +kernel
theorem d_M_said_12 : decode b_M_said 12 = .ok (.iaload, 1) := by decide +kernel
theorem d_M_said_13 : decode b_M_said 13 = .ok (.if_icmp .ge 32, 3) := by decide +kernel
theorem d_M_said_16 : decode b_M_said 16 = .ok (.aload_n 0, 1) := by decide +kernel
theorem d_M_said_17 : decode b_M_said 17 = .ok (.getfield 44, 3) := by decide +kernel
theorem d_M_said_20 : decode b_M_said 20 = .ok (.bipush 8, 2) := by decide +kernel
theorem d_M_said_22 : decode b_M_said 22 = .ok (.iload_n 1, 1) := by decide +kernel
theorem d_M_said_23 : decode b_M_said 23 = .ok (.imul, 1) := by decide +kernel
theorem d_M_said_24 : decode b_M_said 24 = .ok (.iload 4, 2) := by decide +kernel
theorem d_M_said_26 : decode b_M_said 26 = .ok (.iadd, 1) := by decide +kernel
theorem d_M_said_27 : decode b_M_said 27 = .ok (.iaload, 1) := by decide +kernel
theorem d_M_said_28 : decode b_M_said 28 = .ok (.iload_n 2, 1) := by decide +kernel
theorem d_M_said_29 : decode b_M_said 29 = .ok (.if_icmp .ne 8, 3) := by decide +kernel
theorem d_M_said_32 : decode b_M_said 32 = .ok (.iload 4, 2) := by decide +kernel
theorem d_M_said_34 : decode b_M_said 34 = .ok (.goto 4, 3) := by decide +kernel
theorem d_M_said_37 : decode b_M_said 37 = .ok (.iload_n 3, 1) := by decide +kernel
theorem d_M_said_38 : decode b_M_said 38 = .ok (.istore_n 3, 1) := by decide +kernel
theorem d_M_said_39 : decode b_M_said 39 = .ok (.iinc 4 1, 3) := by decide +kernel
theorem d_M_said_42 : decode b_M_said 42 = .ok (.goto (-37), 3) := by decide +kernel
theorem d_M_said_45 : decode b_M_said 45 = .ok (.iload_n 3, 1) := by decide +kernel
theorem d_M_said_46 : decode b_M_said 46 = .ok (.ireturn, 1) := by decide +kernel
theorem d_M_coming_0 : decode b_M_coming 0 = .ok (.aload_n 0, 1) := by decide +kernel
theorem d_M_coming_1 : decode b_M_coming 1 = .ok (.iload_n 1, 1) := by decide +kernel
theorem d_M_coming_2 : decode b_M_coming 2 = .ok (.aload_n 0, 1) := by decide +kernel
theorem d_M_coming_3 : decode b_M_coming 3 = .ok (.getfield 156, 3) := by decide +kernel
theorem d_M_coming_6 : decode b_M_coming 6 = .ok (.invokevirtual 162, 3) := by decide +kernel
theorem d_M_coming_9 : decode b_M_coming 9 = .ok (.istore_n 3, 1) := by decide +kernel
theorem d_M_coming_10 : decode b_M_coming 10 = .ok (.iload_n 3, 1) := by decide +kernel
theorem d_M_coming_11 : decode b_M_coming 11 = .ok (.ifCond .ge 5, 3) := by decide +kernel
theorem d_M_coming_14 : decode b_M_coming 14 = .ok (.iload_n 2, 1) := by decide +kernel
theorem d_M_coming_15 : decode b_M_coming 15 = .ok (.ireturn, 1) := by decide +kernel
theorem d_M_coming_16 : decode b_M_coming 16 = .ok (.aload_n 0, 1) := by decide +kernel
theorem d_M_coming_17 : decode b_M_coming 17 = .ok (.getfield 47, 3) := by decide +kernel
theorem d_M_coming_20 : decode b_M_coming 20 = .ok (.bipush 8, 2) := by decide +kernel
theorem d_M_coming_22 : decode b_M_coming 22 = .ok (.iload_n 1, 1) := by decide +kernel
theorem d_M_coming_23 : decode b_M_coming 23 = .ok (.imul, 1) := by decide +kernel
theorem d_M_coming_24 : decode b_M_coming 24 = .ok (.iload_n 3, 1) := by decide +kernel
theorem d_M_coming_25 : decode b_M_coming 25 = .ok (.iadd, 1) := by decide +kernel
theorem d_M_coming_26 : decode b_M_coming 26 = .ok (.iaload, 1) := by decide +kernel
theorem d_M_coming_27 : decode b_M_coming 27 = .ok (.istore 4, 2) := by decide +kernel
theorem d_M_coming_29 : decode b_M_coming 29 = .ok (.aload_n 0, 1) := by decide +kernel
theorem d_M_coming_30 : decode b_M_coming 30 = .ok (.getfield 41, 3) := by decide +kernel
theorem d_M_coming_33 : decode b_M_coming 33 = .ok (.iload_n 1, 1) := by decide +kernel
theorem d_M_coming_34 : decode b_M_coming 34 = .ok (.aload_n 0, 1) := by decide +kernel
theorem d_M_coming_35 : decode b_M_coming 35 = .ok (.getfield 41, 3) := by decide +kernel
theorem d_M_coming_38 : decode b_M_coming 38 = .ok (.iload_n 1, 1) := by decide +kernel
theorem d_M_coming_39 : decode b_M_coming 39 = .ok (.iaload, 1) := by decide +kernel
theorem d_M_coming_40 : decode b_M_coming 40 = .ok (.iconst 1, 1) := by decide +kernel
theorem d_M_coming_41 : decode b_M_coming 41 = .ok (.isub, 1) := by decide +kernel
theorem d_M_coming_42 : decode b_M_coming 42 = .ok (.iastore, 1) := by decide +kernel
theorem d_M_coming_43 : decode b_M_coming 43 = .ok (.aload_n 0, 1) := by decide +kernel
theorem d_M_coming_44 : decode b_M_coming 44 = .ok (.getfield 44, 3) := by decide +kernel
theorem d_M_coming_47 : decode b_M_coming 47 = .ok (.bipush 8, 2) := by decide +kernel
theorem d_M_coming_49 : decode b_M_coming 49 = .ok (.iload_n 1, 1) := by decide +kernel
theorem d_M_coming_50 : decode b_M_coming 50 = .ok (.imul, 1) := by decide +kernel
theorem d_M_coming_51 : decode b_M_coming 51 = .ok (.iload_n 3, 1) := by decide +kernel
theorem d_M_coming_52 : decode b_M_coming 52 = .ok (.iadd, 1) := by decide +kernel
theorem d_M_coming_53 : decode b_M_coming 53 = .ok (.aload_n 0, 1) := by decide +kernel
theorem d_M_coming_54 : decode b_M_coming 54 = .ok (.getfield 44, 3) := by decide +kernel
theorem d_M_coming_57 : decode b_M_coming 57 = .ok (.bipush 8, 2) := by decide +kernel
theorem d_M_coming_59 : decode b_M_coming 59 = .ok (.iload_n 1, 1) := by decide +kernel
theorem d_M_coming_60 : decode b_M_coming 60 = .ok (.imul, 1) := by decide +kernel
theorem d_M_coming_61 : decode b_M_coming 61 = .ok (.aload_n 0, 1) := by decide +kernel
theorem d_M_coming_62 : decode b_M_coming 62 = .ok (.getfield 41, 3) := by decide +kernel
theorem d_M_coming_65 : decode b_M_coming 65 = .ok (.iload_n 1, 1) := by decide +kernel
theorem d_M_coming_66 : decode b_M_coming 66 = .ok (.iaload, 1) := by decide +kernel
theorem d_M_coming_67 : decode b_M_coming 67 = .ok (.iadd, 1) := by decide +kernel
theorem d_M_coming_68 : decode b_M_coming 68 = .ok (.iaload, 1) := by decide +kernel
theorem d_M_coming_69 : decode b_M_coming 69 = .ok (.iastore, 1) := by decide +kernel
theorem d_M_coming_70 : decode b_M_coming 70 = .ok (.aload_n 0, 1) := by decide +kernel
theorem d_M_coming_71 : decode b_M_coming 71 = .ok (.getfield 47, 3) := by decide +kernel
theorem d_M_coming_74 : decode b_M_coming 74 = .ok (.bipush 8, 2) := by decide +kernel
theorem d_M_coming_76 : decode b_M_coming 76 = .ok (.iload_n 1, 1) := by decide +kernel
theorem d_M_coming_77 : decode b_M_coming 77 = .ok (.imul, 1) := by decide +kernel
theorem d_M_coming_78 : decode b_M_coming 78 = .ok (.iload_n 3, 1) := by decide +kernel
theorem d_M_coming_79 : decode b_M_coming 79 = .ok (.iadd, 1) := by decide +kernel
theorem d_M_coming_80 : decode b_M_coming 80 = .ok (.aload_n 0, 1) := by decide +kernel
theorem d_M_coming_81 : decode b_M_coming 81 = .ok (.getfield 47, 3) := by decide +kernel
theorem d_M_coming_84 : decode b_M_coming 84 = .ok (.bipush 8, 2) := by decide +kernel
theorem d_M_coming_86 : decode b_M_coming 86 = .ok (.iload_n 1, 1) := by decide +kernel
theorem d_M_coming_87 : decode b_M_coming 87 = .ok (.imul, 1) := by decide +kernel
theorem d_M_coming_88 : decode b_M_coming 88 = .ok (.aload_n 0, 1) := by decide +kernel
theorem d_M_coming_89 : decode b_M_coming 89 = .ok (.getfield 41, 3) := by decide +kernel
theorem d_M_coming_92 : decode b_M_coming 92 = .ok (.iload_n 1, 1) := by decide +kernel
theorem d_M_coming_93 : decode b_M_coming 93 = .ok (.iaload, 1) := by decide +kernel
theorem d_M_coming_94 : decode b_M_coming 94 = .ok (.iadd, 1) := by decide +kernel
theorem d_M_coming_95 : decode b_M_coming 95 = .ok (.iaload, 1) := by decide +kernel
theorem d_M_coming_96 : decode b_M_coming 96 = .ok (.iastore, 1) := by decide +kernel
theorem d_M_coming_97 : decode b_M_coming 97 = .ok (.iload 4, 2) := by decide +kernel
theorem d_M_coming_99 : decode b_M_coming 99 = .ok (.ireturn, 1) := by decide +kernel
theorem d_M_fault_0 : decode b_M_fault 0 = .ok (.aload_n 0, 1) := by decide +kernel
theorem d_M_fault_1 : decode b_M_fault 1 = .ok (.getfield 134, 3) := by decide +kernel
theorem d_M_fault_4 : decode b_M_fault 4 = .ok (.iconst 5, 1) := by decide +kernel
theorem d_M_fault_5 : decode b_M_fault 5 = .ok (.iload_n 1, 1) := by decide +kernel
theorem d_M_fault_6 : decode b_M_fault 6 = .ok (.imul, 1) := by decide +kernel
theorem d_M_fault_7 : decode b_M_fault 7 = .ok (.iload_n 3, 1) := by decide +kernel
theorem d_M_fault_8 : decode b_M_fault 8 = .ok (.iadd, 1) := by decide +kernel
theorem d_M_fault_9 : decode b_M_fault 9 = .ok (.iload_n 2, 1) := by decide +kernel
theorem d_M_fault_10 : decode b_M_fault 10 = .ok (.ifCond .eq 18, 3) := by decide +kernel
theorem d_M_fault_13 : decode b_M_fault 13 = .ok (.aload_n 0, 1) := by decide +kernel
theorem d_M_fault_14 : decode b_M_fault 14 = .ok (.getfield 134, 3) := by decide +kernel
theorem d_M_fault_17 : decode b_M_fault 17 = .ok (.iconst 5, 1) := by decide +kernel
theorem d_M_fault_18 : decode b_M_fault 18 = .ok (.iload_n 1, 1) := by decide +kernel
theorem d_M_fault_19 : decode b_M_fault 19 = .ok (.imul, 1) := by decide +kernel
theorem d_M_fault_20 : decode b_M_fault 20 = .ok (.iload_n 3, 1) := by decide +kernel
theorem d_M_fault_21 : decode b_M_fault 21 = .ok (.iadd, 1) := by decide +kernel
theorem d_M_fault_22 : decode b_M_fault 22 = .ok (.iaload, 1) := by decide +kernel
theorem d_M_fault_23 : decode b_M_fault 23 = .ok (.iconst 1, 1) := by decide +kernel
theorem d_M_fault_24 : decode b_M_fault 24 = .ok (.iadd, 1) := by decide +kernel
theorem d_M_fault_25 : decode b_M_fault 25 = .ok (.goto 13, 3) := by decide +kernel
theorem d_M_fault_28 : decode b_M_fault 28 = .ok (.aload_n 0, 1) := by decide +kernel
theorem d_M_fault_29 : decode b_M_fault 29 = .ok (.getfield 134, 3) := by decide +kernel
theorem d_M_fault_32 : decode b_M_fault 32 = .ok (.iconst 5, 1) := by decide +kernel
theorem d_M_fault_33 : decode b_M_fault 33 = .ok (.iload_n 1, 1) := by decide +kernel
theorem d_M_fault_34 : decode b_M_fault 34 = .ok (.imul, 1) := by decide +kernel
theorem d_M_fault_35 : decode b_M_fault 35 = .ok (.iload_n 3, 1) := by decide +kernel
theorem d_M_fault_36 : decode b_M_fault 36 = .ok (.iadd, 1) := by decide +kernel
theorem d_M_fault_37 : decode b_M_fault 37 = .ok (.iaload, 1) := by decide +kernel
theorem d_M_fault_38 : decode b_M_fault 38 = .ok (.iastore, 1) := by decide +kernel
theorem d_M_fault_39 : decode b_M_fault 39 = .ok (.return_, 1) := by decide +kernel
theorem d_M_take_0 : decode b_M_take 0 = .ok (.iconst 3, 1) := by decide +kernel
theorem d_M_take_1 : decode b_M_take 1 = .ok (.iload_n 1, 1) := by decide +kernel
theorem d_M_take_2 : decode b_M_take 2 = .ok (.imul, 1) := by decide +kernel
theorem d_M_take_3 : decode b_M_take 3 = .ok (.istore_n 3, 1) := by decide +kernel
theorem d_M_take_4 : decode b_M_take 4 = .ok (.aload_n 0, 1) := by decide +kernel
theorem d_M_take_5 : decode b_M_take 5 = .ok (.getfield 56, 3) := by decide +kernel
theorem d_M_take_8 : decode b_M_take 8 = .ok (.iload_n 1, 1) := by decide +kernel
theorem d_M_take_9 : decode b_M_take 9 = .ok (.iload_n 2, 1) := by decide +kernel
theorem d_M_take_10 : decode b_M_take 10 = .ok (.iastore, 1) := by decide +kernel
theorem d_M_take_11 : decode b_M_take 11 = .ok (.aload_n 0, 1) := by decide +kernel
theorem d_M_take_12 : decode b_M_take 12 = .ok (.getfield 53, 3) := by decide +kernel
theorem d_M_take_15 : decode b_M_take 15 = .ok (.iload_n 1, 1) := by decide +kernel
theorem d_M_take_16 : decode b_M_take 16 = .ok (.aload_n 0, 1) := by decide +kernel
theorem d_M_take_17 : decode b_M_take 17 = .ok (.getfield 53, 3) := by decide +kernel
theorem d_M_take_20 : decode b_M_take 20 = .ok (.iload_n 1, 1) := by decide +kernel
theorem d_M_take_21 : decode b_M_take 21 = .ok (.iaload, 1) := by decide +kernel
theorem d_M_take_22 : decode b_M_take 22 = .ok (.iconst 4, 1) := by decide +kernel
theorem d_M_take_23 : decode b_M_take 23 = .ok (.if_icmp .ge 14, 3) := by decide +kernel
theorem d_M_take_26 : decode b_M_take 26 = .ok (.aload_n 0, 1) := by decide +kernel
theorem d_M_take_27 : decode b_M_take 27 = .ok (.getfield 53, 3) := by decide +kernel
theorem d_M_take_30 : decode b_M_take 30 = .ok (.iload_n 1, 1) := by decide +kernel
theorem d_M_take_31 : decode b_M_take 31 = .ok (.iaload, 1) := by decide +kernel
theorem d_M_take_32 : decode b_M_take 32 = .ok (.iconst 1, 1) := by decide +kernel
theorem d_M_take_33 : decode b_M_take 33 = .ok (.iadd, 1) := by decide +kernel
theorem d_M_take_34 : decode b_M_take 34 = .ok (.goto 4, 3) := by decide +kernel
theorem d_M_take_37 : decode b_M_take 37 = .ok (.iconst 4, 1) := by decide +kernel
theorem d_M_take_38 : decode b_M_take 38 = .ok (.iastore, 1) := by decide +kernel
theorem d_M_take_39 : decode b_M_take 39 = .ok (.iload_n 2, 1) := by decide +kernel
theorem d_M_take_40 : decode b_M_take 40 = .ok (.ifCond .eq 17, 3) := by decide +kernel
theorem d_M_take_43 : decode b_M_take 43 = .ok (.iload_n 2, 1) := by decide +kernel
theorem d_M_take_44 : decode b_M_take 44 = .ok (.aload_n 0, 1) := by decide +kernel
theorem d_M_take_45 : decode b_M_take 45 = .ok (.getfield 65, 3) := by decide +kernel
theorem d_M_take_48 : decode b_M_take 48 = .ok (.iload_n 1, 1) := by decide +kernel
theorem d_M_take_49 : decode b_M_take 49 = .ok (.iaload, 1) := by decide +kernel
theorem d_M_take_50 : decode b_M_take 50 = .ok (.if_icmp .ne 7, 3) := by decide +kernel
theorem d_M_take_53 : decode b_M_take 53 = .ok (.iconst 1, 1) := by decide +kernel
theorem d_M_take_54 : decode b_M_take 54 = .ok (.goto 4, 3) := by decide +kernel
theorem d_M_take_57 : decode b_M_take 57 = .ok (.iconst 0, 1) := by decide +kernel
theorem d_M_take_58 : decode b_M_take 58 = .ok (.istore 4, 2) := by decide +kernel
theorem d_M_take_60 : decode b_M_take 60 = .ok (.iload 4, 2) := by decide +kernel
theorem d_M_take_62 : decode b_M_take 62 = .ok (.ifCond .eq 27, 3) := by decide +kernel
theorem d_M_take_65 : decode b_M_take 65 = .ok (.aload_n 0, 1) := by decide +kernel
theorem d_M_take_66 : decode b_M_take 66 = .ok (.getfield 59, 3) := by decide +kernel
theorem d_M_take_69 : decode b_M_take 69 = .ok (.iload_n 3, 1) := by decide +kernel
theorem d_M_take_70 : decode b_M_take 70 = .ok (.iaload, 1) := by decide +kernel
theorem d_M_take_71 : decode b_M_take 71 = .ok (.ifCond .ne 18, 3) := by decide +kernel
theorem d_M_take_74 : decode b_M_take 74 = .ok (.aload_n 0, 1) := by decide +kernel
theorem d_M_take_75 : decode b_M_take 75 = .ok (.getfield 59, 3) := by decide +kernel
theorem d_M_take_78 : decode b_M_take 78 = .ok (.iload_n 3, 1) := by decide +kernel
theorem d_M_take_79 : decode b_M_take 79 = .ok (.iconst 1, 1) := by decide +kernel
theorem d_M_take_80 : decode b_M_take 80 = .ok (.iadd, 1) := by decide +kernel
theorem d_M_take_81 : decode b_M_take 81 = .ok (.iaload, 1) := by decide +kernel
theorem d_M_take_82 : decode b_M_take 82 = .ok (.ifCond .ne 7, 3) := by decide +kernel
theorem d_M_take_85 : decode b_M_take 85 = .ok (.iconst 1, 1) := by decide +kernel
theorem d_M_take_86 : decode b_M_take 86 = .ok (.goto 4, 3) := by decide +kernel
theorem d_M_take_89 : decode b_M_take 89 = .ok (.iconst 0, 1) := by decide +kernel
theorem d_M_take_90 : decode b_M_take 90 = .ok (.istore 5, 2) := by decide +kernel
theorem d_M_take_92 : decode b_M_take 92 = .ok (.aload_n 0, 1) := by decide +kernel
theorem d_M_take_93 : decode b_M_take 93 = .ok (.iload_n 1, 1) := by decide +kernel
theorem d_M_take_94 : decode b_M_take 94 = .ok (.iload 4, 2) := by decide +kernel
theorem d_M_take_96 : decode b_M_take 96 = .ok (.ifCond .eq 12, 3) := by decide +kernel
theorem d_M_take_99 : decode b_M_take 99 = .ok (.iload 5, 2) := by decide +kernel
theorem d_M_take_101 : decode b_M_take 101 = .ok (.ifCond .ne 7, 3) := by decide +kernel
theorem d_M_take_104 : decode b_M_take 104 = .ok (.iconst 1, 1) := by decide +kernel
theorem d_M_take_105 : decode b_M_take 105 = .ok (.goto 4, 3) := by decide +kernel
theorem d_M_take_108 : decode b_M_take 108 = .ok (.iconst 0, 1) := by decide +kernel
theorem d_M_take_109 : decode b_M_take 109 = .ok (.iconst 1, 1) := by decide +kernel
theorem d_M_take_110 : decode b_M_take 110 = .ok (.invokevirtual 165, 3) := by decide +kernel
theorem d_M_take_113 : decode b_M_take 113 = .ok (.aload_n 0, 1) := by decide +kernel
theorem d_M_take_114 : decode b_M_take 114 = .ok (.iload_n 1, 1) := by decide +kernel
theorem d_M_take_115 : decode b_M_take 115 = .ok (.iload 5, 2) := by decide +kernel
theorem d_M_take_117 : decode b_M_take 117 = .ok (.ifCond .eq 17, 3) := by decide +kernel
theorem d_M_take_120 : decode b_M_take 120 = .ok (.aload_n 0, 1) := by decide +kernel
theorem d_M_take_121 : decode b_M_take 121 = .ok (.getfield 68, 3) := by decide +kernel
theorem d_M_take_124 : decode b_M_take 124 = .ok (.iload_n 1, 1) := by decide +kernel
theorem d_M_take_125 : decode b_M_take 125 = .ok (.iaload, 1) := by decide +kernel
theorem d_M_take_126 : decode b_M_take 126 = .ok (.iload_n 2, 1) := by decide +kernel
theorem d_M_take_127 : decode b_M_take 127 = .ok (.if_icmp .ne 7, 3) := by decide +kernel
theorem d_M_take_130 : decode b_M_take 130 = .ok (.iconst 1, 1) := by decide +kernel
theorem d_M_take_131 : decode b_M_take 131 = .ok (.goto 4, 3) := by decide +kernel
theorem d_M_take_134 : decode b_M_take 134 = .ok (.iconst 0, 1) := by decide +kernel
theorem d_M_take_135 : decode b_M_take 135 = .ok (.iconst 1, 1) := by decide +kernel
theorem d_M_take_136 : decode b_M_take 136 = .ok (.invokevirtual 165, 3) := by decide +kernel
theorem d_M_take_139 : decode b_M_take 139 = .ok (.aload_n 0, 1) := by decide +kernel
theorem d_M_take_140 : decode b_M_take 140 = .ok (.getfield 68, 3) := by decide +kernel
theorem d_M_take_143 : decode b_M_take 143 = .ok (.iload_n 1, 1) := by decide +kernel
theorem d_M_take_144 : decode b_M_take 144 = .ok (.iload 5, 2) := by decide +kernel
theorem d_M_take_146 : decode b_M_take 146 = .ok (.ifCond .eq 7, 3) := by decide +kernel
theorem d_M_take_149 : decode b_M_take 149 = .ok (.iload_n 2, 1) := by decide +kernel
theorem d_M_take_150 : decode b_M_take 150 = .ok (.goto 9, 3) := by decide +kernel
theorem d_M_take_153 : decode b_M_take 153 = .ok (.aload_n 0, 1) := by decide +kernel
theorem d_M_take_154 : decode b_M_take 154 = .ok (.getfield 68, 3) := by decide +kernel
theorem d_M_take_157 : decode b_M_take 157 = .ok (.iload_n 1, 1) := by decide +kernel
theorem d_M_take_158 : decode b_M_take 158 = .ok (.iaload, 1) := by decide +kernel
theorem d_M_take_159 : decode b_M_take 159 = .ok (.iastore, 1) := by decide +kernel
theorem d_M_take_160 : decode b_M_take 160 = .ok (.aload_n 0, 1) := by decide +kernel
theorem d_M_take_161 : decode b_M_take 161 = .ok (.getfield 71, 3) := by decide +kernel
theorem d_M_take_164 : decode b_M_take 164 = .ok (.iload_n 1, 1) := by decide +kernel
theorem d_M_take_165 : decode b_M_take 165 = .ok (.iload_n 2, 1) := by decide +kernel
theorem d_M_take_166 : decode b_M_take 166 = .ok (.ifCond .ne 23, 3) := by decide +kernel
theorem d_M_take_169 : decode b_M_take 169 = .ok (.aload_n 0, 1) := by decide +kernel
theorem d_M_take_170 : decode b_M_take 170 = .ok (.getfield 65, 3) := by decide +kernel
theorem d_M_take_173 : decode b_M_take 173 = .ok (.iload_n 1, 1) := by decide +kernel
theorem d_M_take_174 : decode b_M_take 174 = .ok (.iaload, 1) := by decide +kernel
theorem d_M_take_175 : decode b_M_take 175 = .ok (.ifCond .eq 14, 3) := by decide +kernel
theorem d_M_take_178 : decode b_M_take 178 = .ok (.aload_n 0, 1) := by decide +kernel
theorem d_M_take_179 : decode b_M_take 179 = .ok (.getfield 71, 3) := by decide +kernel
theorem d_M_take_182 : decode b_M_take 182 = .ok (.iload_n 1, 1) := by decide +kernel
theorem d_M_take_183 : decode b_M_take 183 = .ok (.iaload, 1) := by decide +kernel
theorem d_M_take_184 : decode b_M_take 184 = .ok (.iconst 1, 1) := by decide +kernel
theorem d_M_take_185 : decode b_M_take 185 = .ok (.iadd, 1) := by decide +kernel
theorem d_M_take_186 : decode b_M_take 186 = .ok (.goto 4, 3) := by decide +kernel
theorem d_M_take_189 : decode b_M_take 189 = .ok (.iconst 0, 1) := by decide +kernel
theorem d_M_take_190 : decode b_M_take 190 = .ok (.iastore, 1) := by decide +kernel
theorem d_M_take_191 : decode b_M_take 191 = .ok (.aload_n 0, 1) := by decide +kernel
theorem d_M_take_192 : decode b_M_take 192 = .ok (.iload_n 1, 1) := by decide +kernel
theorem d_M_take_193 : decode b_M_take 193 = .ok (.aload_n 0, 1) := by decide +kernel
theorem d_M_take_194 : decode b_M_take 194 = .ok (.getfield 71, 3) := by decide +kernel
theorem d_M_take_197 : decode b_M_take 197 = .ok (.iload_n 1, 1) := by decide +kernel
theorem d_M_take_198 : decode b_M_take 198 = .ok (.iaload, 1) := by decide +kernel
theorem d_M_take_199 : decode b_M_take 199 = .ok (.iconst 4, 1) := by decide +kernel
theorem d_M_take_200 : decode b_M_take 200 = .ok (.if_icmp .ne 7, 3) := by decide +kernel
theorem d_M_take_203 : decode b_M_take 203 = .ok (.iconst 1, 1) := by decide +kernel
theorem d_M_take_204 : decode b_M_take 204 = .ok (.goto 4, 3) := by decide +kernel
theorem d_M_take_207 : decode b_M_take 207 = .ok (.iconst 0, 1) := by decide +kernel
theorem d_M_take_208 : decode b_M_take 208 = .ok (.iconst 1, 1) := by decide +kernel
theorem d_M_take_209 : decode b_M_take 209 = .ok (.invokevirtual 165, 3) := by decide +kernel
theorem d_M_take_212 : decode b_M_take 212 = .ok (.aload_n 0, 1) := by decide +kernel
theorem d_M_take_213 : decode b_M_take 213 = .ok (.getfield 71, 3) := by decide +kernel
theorem d_M_take_216 : decode b_M_take 216 = .ok (.iload_n 1, 1) := by decide +kernel
theorem d_M_take_217 : decode b_M_take 217 = .ok (.aload_n 0, 1) := by decide +kernel
theorem d_M_take_218 : decode b_M_take 218 = .ok (.getfield 71, 3) := by decide +kernel
theorem d_M_take_221 : decode b_M_take 221 = .ok (.iload_n 1, 1) := by decide +kernel
theorem d_M_take_222 : decode b_M_take 222 = .ok (.iaload, 1) := by decide +kernel
theorem d_M_take_223 : decode b_M_take 223 = .ok (.iconst 4, 1) := by decide +kernel
theorem d_M_take_224 : decode b_M_take 224 = .ok (.irem, 1) := by decide +kernel
theorem d_M_take_225 : decode b_M_take 225 = .ok (.iastore, 1) := by decide +kernel
theorem d_M_take_226 : decode b_M_take 226 = .ok (.aload_n 0, 1) := by decide +kernel
theorem d_M_take_227 : decode b_M_take 227 = .ok (.getfield 65, 3) := by decide +kernel
theorem d_M_take_230 : decode b_M_take 230 = .ok (.iload_n 1, 1) := by decide +kernel
theorem d_M_take_231 : decode b_M_take 231 = .ok (.iload_n 2, 1) := by decide +kernel
theorem d_M_take_232 : decode b_M_take 232 = .ok (.ifCond .ne 12, 3) := by decide +kernel
theorem d_M_take_235 : decode b_M_take 235 = .ok (.aload_n 0, 1) := by decide +kernel
theorem d_M_take_236 : decode b_M_take 236 = .ok (.getfield 65, 3) := by decide +kernel
theorem d_M_take_239 : decode b_M_take 239 = .ok (.iload_n 1, 1) := by decide +kernel
theorem d_M_take_240 : decode b_M_take 240 = .ok (.iaload, 1) := by decide +kernel
theorem d_M_take_241 : decode b_M_take 241 = .ok (.goto 4, 3) := by decide +kernel
theorem d_M_take_244 : decode b_M_take 244 = .ok (.iload_n 2, 1) := by decide +kernel
theorem d_M_take_245 : decode b_M_take 245 = .ok (.iastore, 1) := by decide +kernel
theorem d_M_take_246 : decode b_M_take 246 = .ok (.aload_n 0, 1) := by decide +kernel
theorem d_M_take_247 : decode b_M_take 247 = .ok (.getfield 59, 3) := by decide +kernel
theorem d_M_take_250 : decode b_M_take 250 = .ok (.iload_n 3, 1) := by decide +kernel
theorem d_M_take_251 : decode b_M_take 251 = .ok (.iconst 2, 1) := by decide +kernel
theorem d_M_take_252 : decode b_M_take 252 = .ok (.iadd, 1) := by decide +kernel
theorem d_M_take_253 : decode b_M_take 253 = .ok (.iaload, 1) := by decide +kernel
theorem d_M_take_254 : decode b_M_take 254 = .ok (.ifCond .eq 23, 3) := by decide +kernel
theorem d_M_take_257 : decode b_M_take 257 = .ok (.aload_n 0, 1) := by decide +kernel
theorem d_M_take_258 : decode b_M_take 258 = .ok (.getfield 62, 3) := by decide +kernel
theorem d_M_take_261 : decode b_M_take 261 = .ok (.iload_n 3, 1) := by decide +kernel
theorem d_M_take_262 : decode b_M_take 262 = .ok (.iconst 2, 1) := by decide +kernel
theorem d_M_take_263 : decode b_M_take 263 = .ok (.iadd, 1) := by decide +kernel
theorem d_M_take_264 : decode b_M_take 264 = .ok (.baload, 1) := by decide +kernel
theorem d_M_take_265 : decode b_M_take 265 = .ok (.ifCond .ne 12, 3) := by decide +kernel
theorem d_M_take_268 : decode b_M_take 268 = .ok (.iload 5, 2) := by decide +kernel
theorem d_M_take_270 : decode b_M_take 270 = .ok (.ifCond .ne 7, 3) := by decide +kernel
theorem d_M_take_273 : decode b_M_take 273 = .ok (.iconst 1, 1) := by decide +kernel
theorem d_M_take_274 : decode b_M_take 274 = .ok (.goto 4, 3) := by decide +kernel
theorem d_M_take_277 : decode b_M_take 277 = .ok (.iconst 0, 1) := by decide +kernel
theorem d_M_take_278 : decode b_M_take 278 = .ok (.istore 6, 2) := by decide +kernel
theorem d_M_take_280 : decode b_M_take 280 = .ok (.iconst 2, 1) := by decide +kernel
theorem d_M_take_281 : decode b_M_take 281 = .ok (.istore 7, 2) := by decide +kernel
theorem d_M_take_283 : decode b_M_take 283 = .ok (.iload 7, 2) := by decide +kernel
theorem d_M_take_285 : decode b_M_take 285 = .ok (.ifCond .le 49, 3) := by decide +kernel
theorem d_M_take_288 : decode b_M_take 288 = .ok (.aload_n 0, 1) := by decide +kernel
theorem d_M_take_289 : decode b_M_take 289 = .ok (.getfield 59, 3) := by decide +kernel
theorem d_M_take_292 : decode b_M_take 292 = .ok (.iload_n 3, 1) := by decide +kernel
theorem d_M_take_293 : decode b_M_take 293 = .ok (.iload 7, 2) := by decide +kernel
theorem d_M_take_295 : decode b_M_take 295 = .ok (.iadd, 1) := by decide +kernel
theorem d_M_take_296 : decode b_M_take 296 = .ok (.aload_n 0, 1) := by decide +kernel
theorem d_M_take_297 : decode b_M_take 297 = .ok (.getfield 59, 3) := by decide +kernel
theorem d_M_take_300 : decode b_M_take 300 = .ok (.iload_n 3, 1) := by decide +kernel
theorem d_M_take_301 : decode b_M_take 301 = .ok (.iload 7, 2) := by decide +kernel
theorem d_M_take_303 : decode b_M_take 303 = .ok (.iadd, 1) := by decide +kernel
theorem d_M_take_304 : decode b_M_take 304 = .ok (.iconst 1, 1) := by decide +kernel
theorem d_M_take_305 : decode b_M_take 305 = .ok (.isub, 1) := by decide +kernel
theorem d_M_take_306 : decode b_M_take 306 = .ok (.iaload, 1) := by decide +kernel
theorem d_M_take_307 : decode b_M_take 307 = .ok (.iastore, 1) := by decide +kernel
theorem d_M_take_308 : decode b_M_take 308 = .ok (.aload_n 0, 1) := by decide +kernel
theorem d_M_take_309 : decode b_M_take 309 = .ok (.getfield 62, 3) := by decide +kernel
theorem d_M_take_312 : decode b_M_take 312 = .ok (.iload_n 3, 1) := by decide +kernel
theorem d_M_take_313 : decode b_M_take 313 = .ok (.iload 7, 2) := by decide +kernel
theorem d_M_take_315 : decode b_M_take 315 = .ok (.iadd, 1) := by decide +kernel
theorem d_M_take_316 : decode b_M_take 316 = .ok (.aload_n 0, 1) := by decide +kernel
theorem d_M_take_317 : decode b_M_take 317 = .ok (.getfield 62, 3) := by decide +kernel
theorem d_M_take_320 : decode b_M_take 320 = .ok (.iload_n 3, 1) := by decide +kernel
theorem d_M_take_321 : decode b_M_take 321 = .ok (.iload 7, 2) := by decide +kernel
theorem d_M_take_323 : decode b_M_take 323 = .ok (.iadd, 1) := by decide +kernel
theorem d_M_take_324 : decode b_M_take 324 = .ok (.iconst 1, 1) := by decide +kernel
theorem d_M_take_325 : decode b_M_take 325 = .ok (.isub, 1) := by decide +kernel
theorem d_M_take_326 : decode b_M_take 326 = .ok (.baload, 1) := by decide +kernel
theorem d_M_take_327 : decode b_M_take 327 = .ok (.bastore, 1) := by decide +kernel
theorem d_M_take_328 : decode b_M_take 328 = .ok (.iinc 7 (-1), 3) := by decide +kernel
theorem d_M_take_331 : decode b_M_take 331 = .ok (.goto (-48), 3) := by decide +kernel
theorem d_M_take_334 : decode b_M_take 334 = .ok (.aload_n 0, 1) := by decide +kernel
theorem d_M_take_335 : decode b_M_take 335 = .ok (.getfield 59, 3) := by decide +kernel
theorem d_M_take_338 : decode b_M_take 338 = .ok (.iload_n 3, 1) := by decide +kernel
theorem d_M_take_339 : decode b_M_take 339 = .ok (.iload_n 2, 1) := by decide +kernel
theorem d_M_take_340 : decode b_M_take 340 = .ok (.iastore, 1) := by decide +kernel
theorem d_M_take_341 : decode b_M_take 341 = .ok (.aload_n 0, 1) := by decide +kernel
theorem d_M_take_342 : decode b_M_take 342 = .ok (.getfield 62, 3) := by decide +kernel
theorem d_M_take_345 : decode b_M_take 345 = .ok (.iload_n 3, 1) := by decide +kernel
theorem d_M_take_346 : decode b_M_take 346 = .ok (.iload 5, 2) := by decide +kernel
theorem d_M_take_348 : decode b_M_take 348 = .ok (.bastore, 1) := by decide +kernel
theorem d_M_take_349 : decode b_M_take 349 = .ok (.aload_n 0, 1) := by decide +kernel
theorem d_M_take_350 : decode b_M_take 350 = .ok (.getfield 53, 3) := by decide +kernel
theorem d_M_take_353 : decode b_M_take 353 = .ok (.iload_n 1, 1) := by decide +kernel
theorem d_M_take_354 : decode b_M_take 354 = .ok (.iaload, 1) := by decide +kernel
theorem d_M_take_355 : decode b_M_take 355 = .ok (.iconst 4, 1) := by decide +kernel
theorem d_M_take_356 : decode b_M_take 356 = .ok (.if_icmp .ne 10, 3) := by decide +kernel
theorem d_M_take_359 : decode b_M_take 359 = .ok (.aload_n 0, 1) := by decide +kernel
theorem d_M_take_360 : decode b_M_take 360 = .ok (.iload_n 1, 1) := by decide +kernel
theorem d_M_take_361 : decode b_M_take 361 = .ok (.iload 6, 2) := by decide +kernel
theorem d_M_take_363 : decode b_M_take 363 = .ok (.invokevirtual 169, 3) := by decide +kernel
theorem d_M_take_366 : decode b_M_take 366 = .ok (.return_, 1) := by decide +kernel
theorem d_M_search_0 : decode b_M_search 0 = .ok (.aload_n 0, 1) := by decide +kernel
theorem d_M_search_1 : decode b_M_search 1 = .ok (.getfield 74, 3) := by decide +kernel
theorem d_M_search_4 : decode b_M_search 4 = .ok (.iload_n 1, 1) := by decide +kernel
theorem d_M_search_5 : decode b_M_search 5 = .ok (.iconst 0, 1) := by decide +kernel
theorem d_M_search_6 : decode b_M_search 6 = .ok (.iastore, 1) := by decide +kernel
theorem d_M_search_7 : decode b_M_search 7 = .ok (.aload_n 0, 1) := by decide +kernel
theorem d_M_search_8 : decode b_M_search 8 = .ok (.getfield 77, 3) := by decide +kernel
theorem d_M_search_11 : decode b_M_search 11 = .ok (.iload_n 1, 1) := by decide +kernel
theorem d_M_search_12 : decode b_M_search 12 = .ok (.iconst 0, 1) := by decide +kernel
theorem d_M_search_13 : decode b_M_search 13 = .ok (.iastore, 1) := by decide +kernel
theorem d_M_search_14 : decode b_M_search 14 = .ok (.aload_n 0, 1) := by decide +kernel
theorem d_M_search_15 : decode b_M_search 15 = .ok (.iload_n 1, 1) := by decide +kernel
theorem d_M_search_16 : decode b_M_search 16 = .ok (.invokevirtual 173, 3) := by decide +kernel
theorem d_M_search_19 : decode b_M_search 19 = .ok (.return_, 1) := by decide +kernel
theorem d_M_forget_0 : decode b_M_forget 0 = .ok (.aload_n 0, 1) := by decide +kernel
theorem d_M_forget_1 : decode b_M_forget 1 = .ok (.getfield 101, 3) := by decide +kernel
theorem d_M_forget_4 : decode b_M_forget 4 = .ok (.iload_n 1, 1) := by decide +kernel
theorem d_M_forget_5 : decode b_M_forget 5 = .ok (.iconst 0, 1) := by decide +kernel
theorem d_M_forget_6 : decode b_M_forget 6 = .ok (.bastore, 1) := by decide +kernel
theorem d_M_forget_7 : decode b_M_forget 7 = .ok (.aload_n 0, 1) := by decide +kernel
theorem d_M_forget_8 : decode b_M_forget 8 = .ok (.getfield 116, 3) := by decide +kernel
theorem d_M_forget_11 : decode b_M_forget 11 = .ok (.iload_n 1, 1) := by decide +kernel
theorem d_M_forget_12 : decode b_M_forget 12 = .ok (.iconst 0, 1) := by decide +kernel
theorem d_M_forget_13 : decode b_M_forget 13 = .ok (.bastore, 1) := by decide +kernel
theorem d_M_forget_14 : decode b_M_forget 14 = .ok (.aload_n 0, 1) := by decide +kernel
theorem d_M_forget_15 : decode b_M_forget 15 = .ok (.getfield 125, 3) := by decide +kernel
theorem d_M_forget_18 : decode b_M_forget 18 = .ok (.iload_n 1, 1) := by decide +kernel
theorem d_M_forget_19 : decode b_M_forget 19 = .ok (.iconst 0, 1) := by decide +kernel
theorem d_M_forget_20 : decode b_M_forget 20 = .ok (.bastore, 1) := by decide +kernel
theorem d_M_forget_21 : decode b_M_forget 21 = .ok (.aload_n 0, 1) := by decide +kernel
theorem d_M_forget_22 : decode b_M_forget 22 = .ok (.getfield 131, 3) := by decide +kernel
theorem d_M_forget_25 : decode b_M_forget 25 = .ok (.iconst 2, 1) := by decide +kernel
theorem d_M_forget_26 : decode b_M_forget 26 = .ok (.iload_n 1, 1) := by decide +kernel
theorem d_M_forget_27 : decode b_M_forget 27 = .ok (.imul, 1) := by decide +kernel
theorem d_M_forget_28 : decode b_M_forget 28 = .ok (.iconst 0, 1) := by decide +kernel
theorem d_M_forget_29 : decode b_M_forget 29 = .ok (.bastore, 1) := by decide +kernel
theorem d_M_forget_30 : decode b_M_forget 30 = .ok (.aload_n 0, 1) := by decide +kernel
theorem d_M_forget_31 : decode b_M_forget 31 = .ok (.getfield 131, 3) := by decide +kernel
theorem d_M_forget_34 : decode b_M_forget 34 = .ok (.iconst 2, 1) := by decide +kernel
theorem d_M_forget_35 : decode b_M_forget 35 = .ok (.iload_n 1, 1) := by decide +kernel
theorem d_M_forget_36 : decode b_M_forget 36 = .ok (.imul, 1) := by decide +kernel
theorem d_M_forget_37 : decode b_M_forget 37 = .ok (.iconst 1, 1) := by decide +kernel
theorem d_M_forget_38 : decode b_M_forget 38 = .ok (.iadd, 1) := by decide +kernel
theorem d_M_forget_39 : decode b_M_forget 39 = .ok (.iconst 0, 1) := by decide +kernel
theorem d_M_forget_40 : decode b_M_forget 40 = .ok (.bastore, 1) := by decide +kernel
theorem d_M_forget_41 : decode b_M_forget 41 = .ok (.return_, 1) := by decide +kernel
theorem d_M_isWord_0 : decode b_M_isWord 0 = .ok (.aload_n 0, 1) := by decide +kernel
theorem d_M_isWord_1 : decode b_M_isWord 1 = .ok (.getfield 80, 3) := by decide +kernel
theorem d_M_isWord_4 : decode b_M_isWord 4 = .ok (.iload_n 1, 1) := by decide +kernel
theorem d_M_isWord_5 : decode b_M_isWord 5 = .ok (.iaload, 1) := by decide +kernel
theorem d_M_isWord_6 : decode b_M_isWord 6 = .ok (.bipush 127, 2) := by decide +kernel
theorem d_M_isWord_8 : decode b_M_isWord 8 = .ok (.iand, 1) := by decide +kernel
theorem d_M_isWord_9 : decode b_M_isWord 9 = .ok (.bipush 27, 2) := by decide +kernel
theorem d_M_isWord_11 : decode b_M_isWord 11 = .ok (.if_icmp .ne 7, 3) := by decide +kernel
theorem d_M_isWord_14 : decode b_M_isWord 14 = .ok (.iconst 1, 1) := by decide +kernel
theorem d_M_isWord_15 : decode b_M_isWord 15 = .ok (.goto 4, 3) := by decide +kernel
theorem d_M_isWord_18 : decode b_M_isWord 18 = .ok (.iconst 0, 1) := by decide +kernel
theorem d_M_isWord_19 : decode b_M_isWord 19 = .ok (.ireturn, 1) := by decide +kernel
theorem d_M_make_0 : decode b_M_make 0 = .ok (.aload_n 0, 1) := by decide +kernel
theorem d_M_make_1 : decode b_M_make 1 = .ok (.getfield 80, 3) := by decide +kernel
theorem d_M_make_4 : decode b_M_make 4 = .ok (.iload_n 1, 1) := by decide +kernel
theorem d_M_make_5 : decode b_M_make 5 = .ok (.aload_n 0, 1) := by decide +kernel
theorem d_M_make_6 : decode b_M_make 6 = .ok (.getfield 80, 3) := by decide +kernel
theorem d_M_make_9 : decode b_M_make 9 = .ok (.iload_n 1, 1) := by decide +kernel
theorem d_M_make_10 : decode b_M_make 10 = .ok (.iaload, 1) := by decide +kernel
theorem d_M_make_11 : decode b_M_make 11 = .ok (.iconst 1, 1) := by decide +kernel
theorem d_M_make_12 : decode b_M_make 12 = .ok (.ishl, 1) := by decide +kernel
theorem d_M_make_13 : decode b_M_make 13 = .ok (.iload_n 2, 1) := by decide +kernel
theorem d_M_make_14 : decode b_M_make 14 = .ok (.ior, 1) := by decide +kernel
theorem d_M_make_15 : decode b_M_make 15 = .ok (.iastore, 1) := by decide +kernel
theorem d_M_make_16 : decode b_M_make 16 = .ok (.aload_n 0, 1) := by decide +kernel
theorem d_M_make_17 : decode b_M_make 17 = .ok (.getfield 77, 3) := by decide +kernel
theorem d_M_make_20 : decode b_M_make 20 = .ok (.iload_n 1, 1) := by decide +kernel
theorem d_M_make_21 : decode b_M_make 21 = .ok (.aload_n 0, 1) := by decide +kernel
theorem d_M_make_22 : decode b_M_make 22 = .ok (.getfield 77, 3) := by decide +kernel
theorem d_M_make_25 : decode b_M_make 25 = .ok (.iload_n 1, 1) := by decide +kernel
theorem d_M_make_26 : decode b_M_make 26 = .ok (.iaload, 1) := by decide +kernel
theorem d_M_make_27 : decode b_M_make 27 = .ok (.bipush 100, 2) := by decide +kernel
theorem d_M_make_29 : decode b_M_make 29 = .ok (.if_icmp .ge 14, 3) := by decide +kernel
theorem d_M_make_32 : decode b_M_make 32 = .ok (.aload_n 0, 1) := by decide +kernel
theorem d_M_make_33 : decode b_M_make 33 = .ok (.getfield 77, 3) := by decide +kernel
theorem d_M_make_36 : decode b_M_make 36 = .ok (.iload_n 1, 1) := by decide +kernel
theorem d_M_make_37 : decode b_M_make 37 = .ok (.iaload, 1) := by decide +kernel
theorem d_M_make_38 : decode b_M_make 38 = .ok (.iconst 1, 1) := by decide +kernel
theorem d_M_make_39 : decode b_M_make 39 = .ok (.iadd, 1) := by decide +kernel
theorem d_M_make_40 : decode b_M_make 40 = .ok (.goto 9, 3) := by decide +kernel
theorem d_M_make_43 : decode b_M_make 43 = .ok (.aload_n 0, 1) := by decide +kernel
theorem d_M_make_44 : decode b_M_make 44 = .ok (.getfield 77, 3) := by decide +kernel
theorem d_M_make_47 : decode b_M_make 47 = .ok (.iload_n 1, 1) := by decide +kernel
theorem d_M_make_48 : decode b_M_make 48 = .ok (.iaload, 1) := by decide +kernel
theorem d_M_make_49 : decode b_M_make 49 = .ok (.iastore, 1) := by decide +kernel
theorem d_M_make_50 : decode b_M_make 50 = .ok (.aload_n 0, 1) := by decide +kernel
theorem d_M_make_51 : decode b_M_make 51 = .ok (.getfield 74, 3) := by decide +kernel
theorem d_M_make_54 : decode b_M_make 54 = .ok (.iload_n 1, 1) := by decide +kernel
theorem d_M_make_55 : decode b_M_make 55 = .ok (.iaload, 1) := by decide +kernel
theorem d_M_make_56 : decode b_M_make 56 = .ok (.iconst 2, 1) := by decide +kernel
theorem d_M_make_57 : decode b_M_make 57 = .ok (.if_icmp .ne 11, 3) := by decide +kernel
theorem d_M_make_60 : decode b_M_make 60 = .ok (.aload_n 0, 1) := by decide +kernel
theorem d_M_make_61 : decode b_M_make 61 = .ok (.iload_n 1, 1) := by decide +kernel
theorem d_M_make_62 : decode b_M_make 62 = .ok (.invokevirtual 176, 3) := by decide +kernel
theorem d_M_make_65 : decode b_M_make 65 = .ok (.goto 144, 3) := by decide +kernel
theorem d_M_make_68 : decode b_M_make 68 = .ok (.aload_n 0, 1) := by decide +kernel
theorem d_M_make_69 : decode b_M_make 69 = .ok (.getfield 74, 3) := by decide +kernel
theorem d_M_make_72 : decode b_M_make 72 = .ok (.iload_n 1, 1) := by decide +kernel
theorem d_M_make_73 : decode b_M_make 73 = .ok (.iaload, 1) := by decide +kernel
theorem d_M_make_74 : decode b_M_make 74 = .ok (.ifCond .ne 39, 3) := by decide +kernel
theorem d_M_make_77 : decode b_M_make 77 = .ok (.aload_n 0, 1) := by decide +kernel
theorem d_M_make_78 : decode b_M_make 78 = .ok (.getfield 77, 3) := by decide +kernel
theorem d_M_make_81 : decode b_M_make 81 = .ok (.iload_n 1, 1) := by decide +kernel
theorem d_M_make_82 : decode b_M_make 82 = .ok (.iaload, 1) := by decide +kernel
theorem d_M_make_83 : decode b_M_make 83 = .ok (.bipush 7, 2) := by decide +kernel
theorem d_M_make_85 : decode b_M_make 85 = .ok (.if_icmp .lt 124, 3) := by decide +kernel
theorem d_M_make_88 : decode b_M_make 88 = .ok (.aload_n 0, 1) := by decide +kernel
theorem d_M_make_89 : decode b_M_make 89 = .ok (.iload_n 1, 1) := by decide +kernel
theorem d_M_make_90 : decode b_M_make 90 = .ok (.invokevirtual 179, 3) := by decide +kernel
theorem d_M_make_93 : decode b_M_make 93 = .ok (.ifCond .eq 116, 3) := by decide +kernel
theorem d_M_make_96 : decode b_M_make 96 = .ok (.aload_n 0, 1) := by decide +kernel
theorem d_M_make_97 : decode b_M_make 97 = .ok (.getfield 74, 3) := by decide +kernel
theorem d_M_make_100 : decode b_M_make 100 = .ok (.iload_n 1, 1) := by decide +kernel
theorem d_M_make_101 : decode b_M_make 101 = .ok (.iconst 1, 1) := by decide +kernel
theorem d_M_make_102 : decode b_M_make 102 = .ok (.iastore, 1) := by decide +kernel
theorem d_M_make_103 : decode b_M_make 103 = .ok (.aload_n 0, 1) := by decide +kernel
theorem d_M_make_104 : decode b_M_make 104 = .ok (.getfield 77, 3) := by decide +kernel
theorem d_M_make_107 : decode b_M_make 107 = .ok (.iload_n 1, 1) := by decide +kernel
theorem d_M_make_108 : decode b_M_make 108 = .ok (.iconst 0, 1) := by decide +kernel
theorem d_M_make_109 : decode b_M_make 109 = .ok (.iastore, 1) := by decide +kernel
theorem d_M_make_110 : decode b_M_make 110 = .ok (.goto 99, 3) := by decide +kernel
theorem d_M_make_113 : decode b_M_make 113 = .ok (.aload_n 0, 1) := by decide +kernel
theorem d_M_make_114 : decode b_M_make 114 = .ok (.getfield 77, 3) := by decide +kernel
theorem d_M_make_117 : decode b_M_make 117 = .ok (.iload_n 1, 1) := by decide +kernel
theorem d_M_make_118 : decode b_M_make 118 = .ok (.iaload, 1) := by decide +kernel
theorem d_M_make_119 : decode b_M_make 119 = .ok (.bipush 26, 2) := by decide +kernel
theorem d_M_make_121 : decode b_M_make 121 = .ok (.if_icmp .ne 7, 3) := by decide +kernel
theorem d_M_make_124 : decode b_M_make 124 = .ok (.iload_n 2, 1) := by decide +kernel
theorem d_M_make_125 : decode b_M_make 125 = .ok (.ifCond .eq 22, 3) := by decide +kernel
theorem d_M_make_128 : decode b_M_make 128 = .ok (.aload_n 0, 1) := by decide +kernel
theorem d_M_make_129 : decode b_M_make 129 = .ok (.getfield 77, 3) := by decide +kernel
theorem d_M_make_132 : decode b_M_make 132 = .ok (.iload_n 1, 1) := by decide +kernel
theorem d_M_make_133 : decode b_M_make 133 = .ok (.iaload, 1) := by decide +kernel
theorem d_M_make_134 : decode b_M_make 134 = .ok (.bipush 64, 2) := by decide +kernel
theorem d_M_make_136 : decode b_M_make 136 = .ok (.if_icmp .ne 19, 3) := by decide +kernel
theorem d_M_make_139 : decode b_M_make 139 = .ok (.aload_n 0, 1) := by decide +kernel
theorem d_M_make_140 : decode b_M_make 140 = .ok (.iload_n 1, 1) := by decide +kernel
theorem d_M_make_141 : decode b_M_make 141 = .ok (.invokevirtual 179, 3) := by decide +kernel
theorem d_M_make_144 : decode b_M_make 144 = .ok (.ifCond .ne 11, 3) := by decide +kernel
theorem d_M_make_147 : decode b_M_make 147 = .ok (.aload_n 0, 1) := by decide +kernel
theorem d_M_make_148 : decode b_M_make 148 = .ok (.iload_n 1, 1) := by decide +kernel
theorem d_M_make_149 : decode b_M_make 149 = .ok (.invokevirtual 183, 3) := by decide +kernel
theorem d_M_make_152 : decode b_M_make 152 = .ok (.goto 57, 3) := by decide +kernel
theorem d_M_make_155 : decode b_M_make 155 = .ok (.aload_n 0, 1) := by decide +kernel
theorem d_M_make_156 : decode b_M_make 156 = .ok (.getfield 77, 3) := by decide +kernel
theorem d_M_make_159 : decode b_M_make 159 = .ok (.iload_n 1, 1) := by decide +kernel
theorem d_M_make_160 : decode b_M_make 160 = .ok (.iaload, 1) := by decide +kernel
theorem d_M_make_161 : decode b_M_make 161 = .ok (.bipush 64, 2) := by decide +kernel
theorem d_M_make_163 : decode b_M_make 163 = .ok (.if_icmp .ne 46, 3) := by decide +kernel
theorem d_M_make_166 : decode b_M_make 166 = .ok (.aload_n 0, 1) := by decide +kernel
theorem d_M_make_167 : decode b_M_make 167 = .ok (.getfield 74, 3) := by decide +kernel
theorem d_M_make_170 : decode b_M_make 170 = .ok (.iload_n 1, 1) := by decide +kernel
theorem d_M_make_171 : decode b_M_make 171 = .ok (.iconst 2, 1) := by decide +kernel
theorem d_M_make_172 : decode b_M_make 172 = .ok (.iastore, 1) := by decide +kernel
theorem d_M_make_173 : decode b_M_make 173 = .ok (.aload_n 0, 1) := by decide +kernel
theorem d_M_make_174 : decode b_M_make 174 = .ok (.getfield 83, 3) := by decide +kernel
theorem d_M_make_177 : decode b_M_make 177 = .ok (.iload_n 1, 1) := by decide +kernel
theorem d_M_make_178 : decode b_M_make 178 = .ok (.bipush 8, 2) := by decide +kernel
theorem d_M_make_180 : decode b_M_make 180 = .ok (.iastore, 1) := by decide +kernel
theorem d_M_make_181 : decode b_M_make 181 = .ok (.aload_n 0, 1) := by decide +kernel
theorem d_M_make_182 : decode b_M_make 182 = .ok (.getfield 86, 3) := by decide +kernel
theorem d_M_make_185 : decode b_M_make 185 = .ok (.iload_n 1, 1) := by decide +kernel
theorem d_M_make_186 : decode b_M_make 186 = .ok (.iconst 1, 1) := by decide +kernel
theorem d_M_make_187 : decode b_M_make 187 = .ok (.bastore, 1) := by decide +kernel
theorem d_M_make_188 : decode b_M_make 188 = .ok (.aload_n 0, 1) := by decide +kernel
theorem d_M_make_189 : decode b_M_make 189 = .ok (.getfield 89, 3) := by decide +kernel
theorem d_M_make_192 : decode b_M_make 192 = .ok (.iload_n 1, 1) := by decide +kernel
theorem d_M_make_193 : decode b_M_make 193 = .ok (.iconst 0, 1) := by decide +kernel
theorem d_M_make_194 : decode b_M_make 194 = .ok (.iastore, 1) := by decide +kernel
theorem d_M_make_195 : decode b_M_make 195 = .ok (.aload_n 0, 1) := by decide +kernel
theorem d_M_make_196 : decode b_M_make 196 = .ok (.getfield 110, 3) := by decide +kernel
theorem d_M_make_199 : decode b_M_make 199 = .ok (.iload_n 1, 1) := by decide +kernel
theorem d_M_make_200 : decode b_M_make 200 = .ok (.iconst 0, 1) := by decide +kernel
theorem d_M_make_201 : decode b_M_make 201 = .ok (.iastore, 1) := by decide +kernel
theorem d_M_make_202 : decode b_M_make 202 = .ok (.aload_n 0, 1) := by decide +kernel
theorem d_M_make_203 : decode b_M_make 203 = .ok (.getfield 107, 3) := by decide +kernel
theorem d_M_make_206 : decode b_M_make 206 = .ok (.iload_n 1, 1) := by decide +kernel
theorem d_M_make_207 : decode b_M_make 207 = .ok (.iconst 0, 1) := by decide +kernel
theorem d_M_make_208 : decode b_M_make 208 = .ok (.iastore, 1) := by decide +kernel
theorem d_M_make_209 : decode b_M_make 209 = .ok (.return_, 1) := by decide +kernel
theorem d_M_frameBit_0 : decode b_M_frameBit 0 = .ok (.aload_n 0, 1) := by decide +kernel
theorem d_M_frameBit_1 : decode b_M_frameBit 1 = .ok (.getfield 83, 3) := by decide +kernel
theorem d_M_frameBit_4 : decode b_M_frameBit 4 = .ok (.iload_n 1, 1) := by decide +kernel
theorem d_M_frameBit_5 : decode b_M_frameBit 5 = .ok (.aload_n 0, 1) := by decide +kernel
theorem d_M_frameBit_6 : decode b_M_frameBit 6 = .ok (.getfield 83, 3) := by decide +kernel
theorem d_M_frameBit_9 : decode b_M_frameBit 9 = .ok (.iload_n 1, 1) := by decide +kernel
theorem d_M_frameBit_10 : decode b_M_frameBit 10 = .ok (.iaload, 1) := by decide +kernel
theorem d_M_frameBit_11 : decode b_M_frameBit 11 = .ok (.iconst 1, 1) := by decide +kernel
theorem d_M_frameBit_12 : decode b_M_frameBit 12 = .ok (.iadd, 1) := by decide +kernel
theorem d_M_frameBit_13 : decode b_M_frameBit 13 = .ok (.iastore, 1) := by decide +kernel
theorem d_M_frameBit_14 : decode b_M_frameBit 14 = .ok (.aload_n 0, 1) := by decide +kernel
theorem d_M_frameBit_15 : decode b_M_frameBit 15 = .ok (.getfield 83, 3) := by decide +kernel
theorem d_M_frameBit_18 : decode b_M_frameBit 18 = .ok (.iload_n 1, 1) := by decide +kernel
theorem d_M_frameBit_19 : decode b_M_frameBit 19 = .ok (.iaload, 1) := by decide +kernel
theorem d_M_frameBit_20 : decode b_M_frameBit 20 = .ok (.bipush 8, 2) := by decide +kernel
theorem d_M_frameBit_22 : decode b_M_frameBit 22 = .ok (.if_icmp .ne 61, 3) := by decide +kernel
theorem d_M_frameBit_25 : decode b_M_frameBit 25 = .ok (.aload_n 0, 1) := by decide +kernel
theorem d_M_frameBit_26 : decode b_M_frameBit 26 = .ok (.getfield 86, 3) := by decide +kernel
theorem d_M_frameBit_29 : decode b_M_frameBit 29 = .ok (.iload_n 1, 1) := by decide +kernel
theorem d_M_frameBit_30 : decode b_M_frameBit 30 = .ok (.baload, 1) := by decide +kernel
theorem d_M_frameBit_31 : decode b_M_frameBit 31 = .ok (.ifCond .eq 52, 3) := by decide +kernel
theorem d_M_frameBit_34 : decode b_M_frameBit 34 = .ok (.aload_n 0, 1) := by decide +kernel
theorem d_M_frameBit_35 : decode b_M_frameBit 35 = .ok (.getfield 89, 3) := by decide +kernel
theorem d_M_frameBit_38 : decode b_M_frameBit 38 = .ok (.iload_n 1, 1) := by decide +kernel
theorem d_M_frameBit_39 : decode b_M_frameBit 39 = .ok (.aload_n 0, 1) := by decide +kernel
theorem d_M_frameBit_40 : decode b_M_frameBit 40 = .ok (.iload_n 1, 1) := by decide +kernel
theorem d_M_frameBit_41 : decode b_M_frameBit 41 = .ok (.invokevirtual 179, 3) := by decide +kernel
theorem d_M_frameBit_44 : decode b_M_frameBit 44 = .ok (.ifCond .eq 7, 3) := by decide +kernel
theorem d_M_frameBit_47 : decode b_M_frameBit 47 = .ok (.iconst 0, 1) := by decide +kernel
theorem d_M_frameBit_48 : decode b_M_frameBit 48 = .ok (.goto 11, 3) := by decide +kernel
theorem d_M_frameBit_51 : decode b_M_frameBit 51 = .ok (.aload_n 0, 1) := by decide +kernel
theorem d_M_frameBit_52 : decode b_M_frameBit 52 = .ok (.getfield 89, 3) := by decide +kernel
theorem d_M_frameBit_55 : decode b_M_frameBit 55 = .ok (.iload_n 1, 1) := by decide +kernel
theorem d_M_frameBit_56 : decode b_M_frameBit 56 = .ok (.iaload, 1) := by decide +kernel
theorem d_M_frameBit_57 : decode b_M_frameBit 57 = .ok (.iconst 1, 1) := by decide +kernel
theorem d_M_frameBit_58 : decode b_M_frameBit 58 = .ok (.iadd, 1) := by decide +kernel
theorem d_M_frameBit_59 : decode b_M_frameBit 59 = .ok (.iastore, 1) := by decide +kernel
theorem d_M_frameBit_60 : decode b_M_frameBit 60 = .ok (.aload_n 0, 1) := by decide +kernel
theorem d_M_frameBit_61 : decode b_M_frameBit 61 = .ok (.getfield 89, 3) := by decide +kernel
theorem d_M_frameBit_64 : decode b_M_frameBit 64 = .ok (.iload_n 1, 1) := by decide +kernel
theorem d_M_frameBit_65 : decode b_M_frameBit 65 = .ok (.iaload, 1) := by decide +kernel
theorem d_M_frameBit_66 : decode b_M_frameBit 66 = .ok (.iconst 3, 1) := by decide +kernel
theorem d_M_frameBit_67 : decode b_M_frameBit 67 = .ok (.if_icmp .ne 16, 3) := by decide +kernel
theorem d_M_frameBit_70 : decode b_M_frameBit 70 = .ok (.aload_n 0, 1) := by decide +kernel
theorem d_M_frameBit_71 : decode b_M_frameBit 71 = .ok (.iload_n 1, 1) := by decide +kernel
theorem d_M_frameBit_72 : decode b_M_frameBit 72 = .ok (.iconst 1, 1) := by decide +kernel
theorem d_M_frameBit_73 : decode b_M_frameBit 73 = .ok (.iconst 2, 1) := by decide +kernel
theorem d_M_frameBit_74 : decode b_M_frameBit 74 = .ok (.invokevirtual 165, 3) := by decide +kernel
theorem d_M_frameBit_77 : decode b_M_frameBit 77 = .ok (.aload_n 0, 1) := by decide +kernel
theorem d_M_frameBit_78 : decode b_M_frameBit 78 = .ok (.iload_n 1, 1) := by decide +kernel
theorem d_M_frameBit_79 : decode b_M_frameBit 79 = .ok (.invokevirtual 183, 3) := by decide +kernel
theorem d_M_frameBit_82 : decode b_M_frameBit 82 = .ok (.return_, 1) := by decide +kernel
theorem d_M_frameBit_83 : decode b_M_frameBit 83 = .ok (.aload_n 0, 1) := by decide +kernel
theorem d_M_frameBit_84 : decode b_M_frameBit 84 = .ok (.getfield 83, 3) := by decide +kernel
theorem d_M_frameBit_87 : decode b_M_frameBit 87 = .ok (.iload_n 1, 1) := by decide +kernel
theorem d_M_frameBit_88 : decode b_M_frameBit 88 = .ok (.iaload, 1) := by decide +kernel
theorem d_M_frameBit_89 : decode b_M_frameBit 89 = .ok (.bipush 32, 2) := by decide +kernel
theorem d_M_frameBit_91 : decode b_M_frameBit 91 = .ok (.if_icmp .ne 35, 3) := by decide +kernel
theorem d_M_frameBit_94 : decode b_M_frameBit 94 = .ok (.aload_n 0, 1) := by decide +kernel
theorem d_M_frameBit_95 : decode b_M_frameBit 95 = .ok (.iload_n 1, 1) := by decide +kernel
theorem d_M_frameBit_96 : decode b_M_frameBit 96 = .ok (.invokevirtual 186, 3) := by decide +kernel
theorem d_M_frameBit_99 : decode b_M_frameBit 99 = .ok (.aload_n 0, 1) := by decide +kernel
theorem d_M_frameBit_100 : decode b_M_frameBit 100 = .ok (.getfield 83, 3) := by decide +kernel
theorem d_M_frameBit_103 : decode b_M_frameBit 103 = .ok (.iload_n 1, 1) := by decide +kernel
theorem d_M_frameBit_104 : decode b_M_frameBit 104 = .ok (.iconst 0, 1) := by decide +kernel
theorem d_M_frameBit_105 : decode b_M_frameBit 105 = .ok (.iastore, 1) := by decide +kernel
theorem d_M_frameBit_106 : decode b_M_frameBit 106 = .ok (.aload_n 0, 1) := by decide +kernel
theorem d_M_frameBit_107 : decode b_M_frameBit 107 = .ok (.getfield 86, 3) := by decide +kernel
theorem d_M_frameBit_110 : decode b_M_frameBit 110 = .ok (.iload_n 1, 1) := by decide +kernel
theorem d_M_frameBit_111 : decode b_M_frameBit 111 = .ok (.aload_n 0, 1) := by decide +kernel
theorem d_M_frameBit_112 : decode b_M_frameBit 112 = .ok (.getfield 86, 3) := by decide +kernel
theorem d_M_frameBit_115 : decode b_M_frameBit 115 = .ok (.iload_n 1, 1) := by decide +kernel
theorem d_M_frameBit_116 : decode b_M_frameBit 116 = .ok (.baload, 1) := by decide +kernel
theorem d_M_frameBit_117 : decode b_M_frameBit 117 = .ok (.ifCond .ne 7, 3) := by decide +kernel
theorem d_M_frameBit_120 : decode b_M_frameBit 120 = .ok (.iconst 1, 1) := by decide +kernel
theorem d_M_frameBit_121 : decode b_M_frameBit 121 = .ok (.goto 4, 3) := by decide +kernel
theorem d_M_frameBit_124 : decode b_M_frameBit 124 = .ok (.iconst 0, 1) := by decide +kernel
theorem d_M_frameBit_125 : decode b_M_frameBit 125 = .ok (.bastore, 1) := by decide +kernel
theorem d_M_frameBit_126 : decode b_M_frameBit 126 = .ok (.return_, 1) := by decide +kernel
theorem d_M_complete_0 : decode b_M_complete 0 = .ok (.aload_n 0, 1) := by decide +kernel
theorem d_M_complete_1 : decode b_M_complete 1 = .ok (.getfield 80, 3) := by decide +kernel
theorem d_M_complete_4 : decode b_M_complete 4 = .ok (.iload_n 1, 1) := by decide +kernel
theorem d_M_complete_5 : decode b_M_complete 5 = .ok (.iaload, 1) := by decide +kernel
theorem d_M_complete_6 : decode b_M_complete 6 = .ok (.istore_n 2, 1) := by decide +kernel
theorem d_M_complete_7 : decode b_M_complete 7 = .ok (.iload_n 2, 1) := by decide +kernel
theorem d_M_complete_8 : decode b_M_complete 8 = .ok (.bipush 31, 2) := by decide +kernel
theorem d_M_complete_10 : decode b_M_complete 10 = .ok (.ishr, 1) := by decide +kernel
theorem d_M_complete_11 : decode b_M_complete 11 = .ok (.iconst 1, 1) := by decide +kernel
theorem d_M_complete_12 : decode b_M_complete 12 = .ok (.iand, 1) := by decide +kernel
theorem d_M_complete_13 : decode b_M_complete 13 = .ok (.istore_n 3, 1) := by decide +kernel
theorem d_M_complete_14 : decode b_M_complete 14 = .ok (.aload_n 0, 1) := by decide +kernel
theorem d_M_complete_15 : decode b_M_complete 15 = .ok (.getfield 95, 3) := by decide +kernel
theorem d_M_complete_18 : decode b_M_complete 18 = .ok (.iload_n 1, 1) := by decide +kernel
theorem d_M_complete_19 : decode b_M_complete 19 = .ok (.iload_n 2, 1) := by decide +kernel
theorem d_M_complete_20 : decode b_M_complete 20 = .ok (.iastore, 1) := by decide +kernel
theorem d_M_complete_21 : decode b_M_complete 21 = .ok (.aload_n 0, 1) := by decide +kernel
theorem d_M_complete_22 : decode b_M_complete 22 = .ok (.getfield 92, 3) := by decide +kernel
theorem d_M_complete_25 : decode b_M_complete 25 = .ok (.iload_n 1, 1) := by decide +kernel
theorem d_M_complete_26 : decode b_M_complete 26 = .ok (.iconst 1, 1) := by decide +kernel
theorem d_M_complete_27 : decode b_M_complete 27 = .ok (.bastore, 1) := by decide +kernel
theorem d_M_complete_28 : decode b_M_complete 28 = .ok (.aload_n 0, 1) := by decide +kernel
theorem d_M_complete_29 : decode b_M_complete 29 = .ok (.iload_n 1, 1) := by decide +kernel
theorem d_M_complete_30 : decode b_M_complete 30 = .ok (.iconst 1, 1) := by decide +kernel
theorem d_M_complete_31 : decode b_M_complete 31 = .ok (.iconst 0, 1) := by decide +kernel
theorem d_M_complete_32 : decode b_M_complete 32 = .ok (.invokevirtual 165, 3) := by decide +kernel
theorem d_M_complete_35 : decode b_M_complete 35 = .ok (.aload_n 0, 1) := by decide +kernel
theorem d_M_complete_36 : decode b_M_complete 36 = .ok (.getfield 86, 3) := by decide +kernel
theorem d_M_complete_39 : decode b_M_complete 39 = .ok (.iload_n 1, 1) := by decide +kernel
theorem d_M_complete_40 : decode b_M_complete 40 = .ok (.baload, 1) := by decide +kernel
theorem d_M_complete_41 : decode b_M_complete 41 = .ok (.ifCond .ne 73, 3) := by decide +kernel
theorem d_M_complete_44 : decode b_M_complete 44 = .ok (.aload_n 0, 1) := by decide +kernel
theorem d_M_complete_45 : decode b_M_complete 45 = .ok (.getfield 98, 3) := by decide +kernel
theorem d_M_complete_48 : decode b_M_complete 48 = .ok (.iload_n 1, 1) := by decide +kernel
theorem d_M_complete_49 : decode b_M_complete 49 = .ok (.iload_n 2, 1) := by decide +kernel
theorem d_M_complete_50 : decode b_M_complete 50 = .ok (.bipush 29, 2) := by decide +kernel
theorem d_M_complete_52 : decode b_M_complete 52 = .ok (.ishr, 1) := by decide +kernel
theorem d_M_complete_53 : decode b_M_complete 53 = .ok (.iconst 1, 1) := by decide +kernel
theorem d_M_complete_54 : decode b_M_complete 54 = .ok (.iand, 1) := by decide +kernel
theorem d_M_complete_55 : decode b_M_complete 55 = .ok (.iconst 1, 1) := by decide +kernel
theorem d_M_complete_56 : decode b_M_complete 56 = .ok (.if_icmp .ne 7, 3) := by decide +kernel
theorem d_M_complete_59 : decode b_M_complete 59 = .ok (.iconst 1, 1) := by decide +kernel
theorem d_M_complete_60 : decode b_M_complete 60 = .ok (.goto 4, 3) := by decide +kernel
theorem d_M_complete_63 : decode b_M_complete 63 = .ok (.iconst 0, 1) := by decide +kernel
theorem d_M_complete_64 : decode b_M_complete 64 = .ok (.bastore, 1) := by decide +kernel
theorem d_M_complete_65 : decode b_M_complete 65 = .ok (.aload_n 0, 1) := by decide +kernel
theorem d_M_complete_66 : decode b_M_complete 66 = .ok (.getfield 107, 3) := by decide +kernel
theorem d_M_complete_69 : decode b_M_complete 69 = .ok (.iload_n 1, 1) := by decide +kernel
theorem d_M_complete_70 : decode b_M_complete 70 = .ok (.aload_n 0, 1) := by decide +kernel
theorem d_M_complete_71 : decode b_M_complete 71 = .ok (.getfield 107, 3) := by decide +kernel
theorem d_M_complete_74 : decode b_M_complete 74 = .ok (.iload_n 1, 1) := by decide +kernel
theorem d_M_complete_75 : decode b_M_complete 75 = .ok (.iaload, 1) := by decide +kernel
theorem d_M_complete_76 : decode b_M_complete 76 = .ok (.iconst 1, 1) := by decide +kernel
theorem d_M_complete_77 : decode b_M_complete 77 = .ok (.ishl, 1) := by decide +kernel
theorem d_M_complete_78 : decode b_M_complete 78 = .ok (.iload_n 3, 1) := by decide +kernel
theorem d_M_complete_79 : decode b_M_complete 79 = .ok (.ior, 1) := by decide +kernel
theorem d_M_complete_80 : decode b_M_complete 80 = .ok (.bipush 63, 2) := by decide +kernel
theorem d_M_complete_82 : decode b_M_complete 82 = .ok (.iand, 1) := by decide +kernel
theorem d_M_complete_83 : decode b_M_complete 83 = .ok (.iastore, 1) := by decide +kernel
theorem d_M_complete_84 : decode b_M_complete 84 = .ok (.aload_n 0, 1) := by decide +kernel
theorem d_M_complete_85 : decode b_M_complete 85 = .ok (.getfield 110, 3) := by decide +kernel
theorem d_M_complete_88 : decode b_M_complete 88 = .ok (.iload_n 1, 1) := by decide +kernel
theorem d_M_complete_89 : decode b_M_complete 89 = .ok (.aload_n 0, 1) := by decide +kernel
theorem d_M_complete_90 : decode b_M_complete 90 = .ok (.getfield 110, 3) := by decide +kernel
theorem d_M_complete_93 : decode b_M_complete 93 = .ok (.iload_n 1, 1) := by decide +kernel
theorem d_M_complete_94 : decode b_M_complete 94 = .ok (.iaload, 1) := by decide +kernel
theorem d_M_complete_95 : decode b_M_complete 95 = .ok (.bipush 6, 2) := by decide +kernel
theorem d_M_complete_97 : decode b_M_complete 97 = .ok (.if_icmp .ge 14, 3) := by decide +kernel
theorem d_M_complete_100 : decode b_M_complete 100 = .ok (.aload_n 0, 1) := by decide +kernel
theorem d_M_complete_101 : decode b_M_complete 101 = .ok (.getfield 110, 3) := by decide +kernel
theorem d_M_complete_104 : decode b_M_complete 104 = .ok (.iload_n 1, 1) := by decide +kernel
theorem d_M_complete_105 : decode b_M_complete 105 = .ok (.iaload, 1) := by decide +kernel
theorem d_M_complete_106 : decode b_M_complete 106 = .ok (.iconst 1, 1) := by decide +kernel
theorem d_M_complete_107 : decode b_M_complete 107 = .ok (.iadd, 1) := by decide +kernel
theorem d_M_complete_108 : decode b_M_complete 108 = .ok (.goto 5, 3) := by decide +kernel
theorem d_M_complete_111 : decode b_M_complete 111 = .ok (.bipush 6, 2) := by decide +kernel
theorem d_M_complete_113 : decode b_M_complete 113 = .ok (.iastore, 1) := by decide +kernel
theorem d_M_complete_114 : decode b_M_complete 114 = .ok (.aload_n 0, 1) := by decide +kernel
theorem d_M_complete_115 : decode b_M_complete 115 = .ok (.getfield 86, 3) := by decide +kernel
theorem d_M_complete_118 : decode b_M_complete 118 = .ok (.iload_n 1, 1) := by decide +kernel
theorem d_M_complete_119 : decode b_M_complete 119 = .ok (.baload, 1) := by decide +kernel
theorem d_M_complete_120 : decode b_M_complete 120 = .ok (.ifCond .ne 29, 3) := by decide +kernel
theorem d_M_complete_123 : decode b_M_complete 123 = .ok (.aload_n 0, 1) := by decide +kernel
theorem d_M_complete_124 : decode b_M_complete 124 = .ok (.getfield 110, 3) := by decide +kernel
theorem d_M_complete_127 : decode b_M_complete 127 = .ok (.iload_n 1, 1) := by decide +kernel
theorem d_M_complete_128 : decode b_M_complete 128 = .ok (.iaload, 1) := by decide +kernel
theorem d_M_complete_129 : decode b_M_complete 129 = .ok (.bipush 6, 2) := by decide +kernel
theorem d_M_complete_131 : decode b_M_complete 131 = .ok (.if_icmp .ne 18, 3) := by decide +kernel
theorem d_M_complete_134 : decode b_M_complete 134 = .ok (.aload_n 0, 1) := by decide +kernel
theorem d_M_complete_135 : decode b_M_complete 135 = .ok (.getfield 107, 3) := by decide +kernel
theorem d_M_complete_138 : decode b_M_complete 138 = .ok (.iload_n 1, 1) := by decide +kernel
theorem d_M_complete_139 : decode b_M_complete 139 = .ok (.iaload, 1) := by decide +kernel
theorem d_M_complete_140 : decode b_M_complete 140 = .ok (.bipush 11, 2) := by decide +kernel
theorem d_M_complete_142 : decode b_M_complete 142 = .ok (.if_icmp .ne 7, 3) := by decide +kernel
theorem d_M_complete_145 : decode b_M_complete 145 = .ok (.iconst 1, 1) := by decide +kernel
theorem d_M_complete_146 : decode b_M_complete 146 = .ok (.goto 4, 3) := by decide +kernel
theorem d_M_complete_149 : decode b_M_complete 149 = .ok (.iconst 0, 1) := by decide +kernel
theorem d_M_complete_150 : decode b_M_complete 150 = .ok (.istore 4, 2) := by decide +kernel
theorem d_M_complete_152 : decode b_M_complete 152 = .ok (.aload_n 0, 1) := by decide +kernel
theorem d_M_complete_153 : decode b_M_complete 153 = .ok (.getfield 101, 3) := by decide +kernel
theorem d_M_complete_156 : decode b_M_complete 156 = .ok (.iload_n 1, 1) := by decide +kernel
theorem d_M_complete_157 : decode b_M_complete 157 = .ok (.baload, 1) := by decide +kernel
theorem d_M_complete_158 : decode b_M_complete 158 = .ok (.ifCond .ne 27, 3) := by decide +kernel
theorem d_M_complete_161 : decode b_M_complete 161 = .ok (.aload_n 0, 1) := by decide +kernel
theorem d_M_complete_162 : decode b_M_complete 162 = .ok (.getfield 101, 3) := by decide +kernel
theorem d_M_complete_165 : decode b_M_complete 165 = .ok (.iload_n 1, 1) := by decide +kernel
theorem d_M_complete_166 : decode b_M_complete 166 = .ok (.iload 4, 2) := by decide +kernel
theorem d_M_complete_168 : decode b_M_complete 168 = .ok (.bastore, 1) := by decide +kernel
theorem d_M_complete_169 : decode b_M_complete 169 = .ok (.aload_n 0, 1) := by decide +kernel
theorem d_M_complete_170 : decode b_M_complete 170 = .ok (.getfield 104, 3) := by decide +kernel
theorem d_M_complete_173 : decode b_M_complete 173 = .ok (.iload_n 1, 1) := by decide +kernel
theorem d_M_complete_174 : decode b_M_complete 174 = .ok (.bipush 11, 2) := by decide +kernel
theorem d_M_complete_176 : decode b_M_complete 176 = .ok (.iastore, 1) := by decide +kernel
theorem d_M_complete_177 : decode b_M_complete 177 = .ok (.aload_n 0, 1) := by decide +kernel
theorem d_M_complete_178 : decode b_M_complete 178 = .ok (.getfield 113, 3) := by decide +kernel
theorem d_M_complete_181 : decode b_M_complete 181 = .ok (.iload_n 1, 1) := by decide +kernel
theorem d_M_complete_182 : decode b_M_complete 182 = .ok (.iconst 0, 1) := by decide +kernel
theorem d_M_complete_183 : decode b_M_complete 183 = .ok (.iastore, 1) := by decide +kernel
theorem d_M_complete_184 : decode b_M_complete 184 = .ok (.return_, 1) := by decide +kernel
theorem d_M_complete_185 : decode b_M_complete 185 = .ok (.aload_n 0, 1) := by decide +kernel
theorem d_M_complete_186 : decode b_M_complete 186 = .ok (.getfield 104, 3) := by decide +kernel
theorem d_M_complete_189 : decode b_M_complete 189 = .ok (.iload_n 1, 1) := by decide +kernel
theorem d_M_complete_190 : decode b_M_complete 190 = .ok (.aload_n 0, 1) := by decide +kernel
theorem d_M_complete_191 : decode b_M_complete 191 = .ok (.getfield 104, 3) := by decide +kernel
theorem d_M_complete_194 : decode b_M_complete 194 = .ok (.iload_n 1, 1) := by decide +kernel
theorem d_M_complete_195 : decode b_M_complete 195 = .ok (.iaload, 1) := by decide +kernel
theorem d_M_complete_196 : decode b_M_complete 196 = .ok (.iconst 1, 1) := by decide +kernel
theorem d_M_complete_197 : decode b_M_complete 197 = .ok (.iadd, 1) := by decide +kernel
theorem d_M_complete_198 : decode b_M_complete 198 = .ok (.bipush 16, 2) := by decide +kernel
theorem d_M_complete_200 : decode b_M_complete 200 = .ok (.irem, 1) := by decide +kernel
theorem d_M_complete_201 : decode b_M_complete 201 = .ok (.iastore, 1) := by decide +kernel
theorem d_M_complete_202 : decode b_M_complete 202 = .ok (.aload_n 0, 1) := by decide +kernel
theorem d_M_complete_203 : decode b_M_complete 203 = .ok (.getfield 104, 3) := by decide +kernel
theorem d_M_complete_206 : decode b_M_complete 206 = .ok (.iload_n 1, 1) := by decide +kernel
theorem d_M_complete_207 : decode b_M_complete 207 = .ok (.iaload, 1) := by decide +kernel
theorem d_M_complete_208 : decode b_M_complete 208 = .ok (.bipush 11, 2) := by decide +kernel
theorem d_M_complete_210 : decode b_M_complete 210 = .ok (.if_icmp .ne 42, 3) := by decide +kernel
theorem d_M_complete_213 : decode b_M_complete 213 = .ok (.aload_n 0, 1) := by decide +kernel
theorem d_M_complete_214 : decode b_M_complete 214 = .ok (.getfield 113, 3) := by decide +kernel
theorem d_M_complete_217 : decode b_M_complete 217 = .ok (.iload_n 1, 1) := by decide +kernel
theorem d_M_complete_218 : decode b_M_complete 218 = .ok (.iload 4, 2) := by decide +kernel
theorem d_M_complete_220 : decode b_M_complete 220 = .ok (.ifCond .eq 7, 3) := by decide +kernel
theorem d_M_complete_223 : decode b_M_complete 223 = .ok (.iconst 0, 1) := by decide +kernel
theorem d_M_complete_224 : decode b_M_complete 224 = .ok (.goto 11, 3) := by decide +kernel
theorem d_M_complete_227 : decode b_M_complete 227 = .ok (.aload_n 0, 1) := by decide +kernel
theorem d_M_complete_228 : decode b_M_complete 228 = .ok (.getfield 113, 3) := by decide +kernel
theorem d_M_complete_231 : decode b_M_complete 231 = .ok (.iload_n 1, 1) := by decide +kernel
theorem d_M_complete_232 : decode b_M_complete 232 = .ok (.iaload, 1) := by decide +kernel
theorem d_M_complete_233 : decode b_M_complete 233 = .ok (.iconst 1, 1) := by decide +kernel
theorem d_M_complete_234 : decode b_M_complete 234 = .ok (.iadd, 1) := by decide +kernel
theorem d_M_complete_235 : decode b_M_complete 235 = .ok (.iastore, 1) := by decide +kernel
theorem d_M_complete_236 : decode b_M_complete 236 = .ok (.aload_n 0, 1) := by decide +kernel
theorem d_M_complete_237 : decode b_M_complete 237 = .ok (.getfield 113, 3) := by decide +kernel
theorem d_M_complete_240 : decode b_M_complete 240 = .ok (.iload_n 1, 1) := by decide +kernel
theorem d_M_complete_241 : decode b_M_complete 241 = .ok (.iaload, 1) := by decide +kernel
theorem d_M_complete_242 : decode b_M_complete 242 = .ok (.iconst 2, 1) := by decide +kernel
theorem d_M_complete_243 : decode b_M_complete 243 = .ok (.if_icmp .ne 9, 3) := by decide +kernel
theorem d_M_complete_246 : decode b_M_complete 246 = .ok (.aload_n 0, 1) := by decide +kernel
theorem d_M_complete_247 : decode b_M_complete 247 = .ok (.iload_n 1, 1) := by decide +kernel
theorem d_M_complete_248 : decode b_M_complete 248 = .ok (.invokevirtual 173, 3) := by decide +kernel
theorem d_M_complete_251 : decode b_M_complete 251 = .ok (.return_, 1) := by decide +kernel
theorem d_M_complete_252 : decode b_M_complete 252 = .ok (.aload_n 0, 1) := by decide +kernel
theorem d_M_complete_253 : decode b_M_complete 253 = .ok (.iload_n 1, 1) := by decide +kernel
theorem d_M_complete_254 : decode b_M_complete 254 = .ok (.aload_n 0, 1) := by decide +kernel
theorem d_M_complete_255 : decode b_M_complete 255 = .ok (.getfield 104, 3) := by decide +kernel
theorem d_M_complete_258 : decode b_M_complete 258 = .ok (.iload_n 1, 1) := by decide +kernel
theorem d_M_complete_259 : decode b_M_complete 259 = .ok (.iaload, 1) := by decide +kernel
theorem d_M_complete_260 : decode b_M_complete 260 = .ok (.bipush 13, 2) := by decide +kernel
theorem d_M_complete_262 : decode b_M_complete 262 = .ok (.if_icmp .eq 14, 3) := by decide +kernel
theorem d_M_complete_265 : decode b_M_complete 265 = .ok (.aload_n 0, 1) := by decide +kernel
theorem d_M_complete_266 : decode b_M_complete 266 = .ok (.getfield 104, 3) := by decide +kernel
theorem d_M_complete_269 : decode b_M_complete 269 = .ok (.iload_n 1, 1) := by decide +kernel
theorem d_M_complete_270 : decode b_M_complete 270 = .ok (.iaload, 1) := by decide +kernel
theorem d_M_complete_271 : decode b_M_complete 271 = .ok (.bipush 15, 2) := by decide +kernel
theorem d_M_complete_273 : decode b_M_complete 273 = .ok (.if_icmp .ne 11, 3) := by decide +kernel
theorem d_M_complete_276 : decode b_M_complete 276 = .ok (.iload_n 3, 1) := by decide +kernel
theorem d_M_complete_277 : decode b_M_complete 277 = .ok (.ifCond .ne 7, 3) := by decide +kernel
theorem d_M_complete_280 : decode b_M_complete 280 = .ok (.iconst 1, 1) := by decide +kernel
theorem d_M_complete_281 : decode b_M_complete 281 = .ok (.goto 4, 3) := by decide +kernel
theorem d_M_complete_284 : decode b_M_complete 284 = .ok (.iconst 0, 1) := by decide +kernel
theorem d_M_complete_285 : decode b_M_complete 285 = .ok (.iconst 4, 1) := by decide +kernel
theorem d_M_complete_286 : decode b_M_complete 286 = .ok (.invokevirtual 165, 3) := by decide +kernel
theorem d_M_complete_289 : decode b_M_complete 289 = .ok (.aload_n 0, 1) := by decide +kernel
theorem d_M_complete_290 : decode b_M_complete 290 = .ok (.iload_n 1, 1) := by decide +kernel
theorem d_M_complete_291 : decode b_M_complete 291 = .ok (.iload_n 2, 1) := by decide +kernel
theorem d_M_complete_292 : decode b_M_complete 292 = .ok (.iload_n 3, 1) := by decide +kernel
theorem d_M_complete_293 : decode b_M_complete 293 = .ok (.invokevirtual 189, 3) := by decide +kernel
theorem d_M_complete_296 : decode b_M_complete 296 = .ok (.return_, 1) := by decide +kernel
theorem d_M_halves_0 : decode b_M_halves 0 = .ok (.aload_n 0, 1) := by decide +kernel
theorem d_M_halves_1 : decode b_M_halves 1 = .ok (.getfield 104, 3) := by decide +kernel
theorem d_M_halves_4 : decode b_M_halves 4 = .ok (.iload_n 1, 1) := by decide +kernel
theorem d_M_halves_5 : decode b_M_halves 5 = .ok (.iaload, 1) := by decide +kernel
theorem d_M_halves_6 : decode b_M_halves 6 = .ok (.bipush 8, 2) := by decide +kernel
theorem d_M_halves_8 : decode b_M_halves 8 = .ok (.irem, 1) := by decide +kernel
theorem d_M_halves_9 : decode b_M_halves 9 = .ok (.ifCond .ne 24, 3) := by decide +kernel
theorem d_M_halves_12 : decode b_M_halves 12 = .ok (.aload_n 0, 1) := by decide +kernel
theorem d_M_halves_13 : decode b_M_halves 13 = .ok (.getfield 116, 3) := by decide +kernel
theorem d_M_halves_16 : decode b_M_halves 16 = .ok (.iload_n 1, 1) := by decide +kernel
theorem d_M_halves_17 : decode b_M_halves 17 = .ok (.iconst 1, 1) := by decide +kernel
theorem d_M_halves_18 : decode b_M_halves 18 = .ok (.bastore, 1) := by decide +kernel
theorem d_M_halves_19 : decode b_M_halves 19 = .ok (.aload_n 0, 1) := by decide +kernel
theorem d_M_halves_20 : decode b_M_halves 20 = .ok (.getfield 119, 3) := by decide +kernel
theorem d_M_halves_23 : decode b_M_halves 23 = .ok (.iload_n 1, 1) := by decide +kernel
theorem d_M_halves_24 : decode b_M_halves 24 = .ok (.iconst 0, 1) := by decide +kernel
theorem d_M_halves_25 : decode b_M_halves 25 = .ok (.iastore, 1) := by decide +kernel
theorem d_M_halves_26 : decode b_M_halves 26 = .ok (.aload_n 0, 1) := by decide +kernel
theorem d_M_halves_27 : decode b_M_halves 27 = .ok (.getfield 122, 3) := by decide +kernel
theorem d_M_halves_30 : decode b_M_halves 30 = .ok (.iload_n 1, 1) := by decide +kernel
theorem d_M_halves_31 : decode b_M_halves 31 = .ok (.iconst 0, 1) := by decide +kernel
theorem d_M_halves_32 : decode b_M_halves 32 = .ok (.iastore, 1) := by decide +kernel
theorem d_M_halves_33 : decode b_M_halves 33 = .ok (.aload_n 0, 1) := by decide +kernel
theorem d_M_halves_34 : decode b_M_halves 34 = .ok (.getfield 116, 3) := by decide +kernel
theorem d_M_halves_37 : decode b_M_halves 37 = .ok (.iload_n 1, 1) := by decide +kernel
theorem d_M_halves_38 : decode b_M_halves 38 = .ok (.baload, 1) := by decide +kernel
theorem d_M_halves_39 : decode b_M_halves 39 = .ok (.ifCond .ne 4, 3) := by decide +kernel
theorem d_M_halves_42 : decode b_M_halves 42 = .ok (.return_, 1) := by decide +kernel
theorem d_M_halves_43 : decode b_M_halves 43 = .ok (.bipush 31, 2) := by decide +kernel
theorem d_M_halves_45 : decode b_M_halves 45 = .ok (.istore 4, 2) := by decide +kernel
theorem d_M_halves_47 : decode b_M_halves 47 = .ok (.iload 4, 2) := by decide +kernel
theorem d_M_halves_49 : decode b_M_halves 49 = .ok (.ifCond .lt 50, 3) := by decide +kernel
theorem d_M_halves_52 : decode b_M_halves 52 = .ok (.aload_n 0, 1) := by decide +kernel
theorem d_M_halves_53 : decode b_M_halves 53 = .ok (.getfield 119, 3) := by decide +kernel
theorem d_M_halves_56 : decode b_M_halves 56 = .ok (.iload_n 1, 1) := by decide +kernel
theorem d_M_halves_57 : decode b_M_halves 57 = .ok (.aload_n 0, 1) := by decide +kernel
theorem d_M_halves_58 : decode b_M_halves 58 = .ok (.getfield 119, 3) := by decide +kernel
theorem d_M_halves_61 : decode b_M_halves 61 = .ok (.iload_n 1, 1) := by decide +kernel
theorem d_M_halves_62 : decode b_M_halves 62 = .ok (.iaload, 1) := by decide +kernel
theorem d_M_halves_63 : decode b_M_halves 63 = .ok (.iload 4, 2) := by decide +kernel
theorem d_M_halves_65 : decode b_M_halves 65 = .ok (.bipush 31, 2) := by decide +kernel
theorem d_M_halves_67 : decode b_M_halves 67 = .ok (.if_icmp .ne 16, 3) := by decide +kernel
theorem d_M_halves_70 : decode b_M_halves 70 = .ok (.aload_n 0, 1) := by decide +kernel
theorem d_M_halves_71 : decode b_M_halves 71 = .ok (.getfield 86, 3) := by decide +kernel
theorem d_M_halves_74 : decode b_M_halves 74 = .ok (.iload_n 1, 1) := by decide +kernel
theorem d_M_halves_75 : decode b_M_halves 75 = .ok (.baload, 1) := by decide +kernel
theorem d_M_halves_76 : decode b_M_halves 76 = .ok (.ifCond .eq 7, 3) := by decide +kernel
theorem d_M_halves_79 : decode b_M_halves 79 = .ok (.iconst 0, 1) := by decide +kernel
theorem d_M_halves_80 : decode b_M_halves 80 = .ok (.goto 9, 3) := by decide +kernel
theorem d_M_halves_83 : decode b_M_halves 83 = .ok (.iload_n 2, 1) := by decide +kernel
theorem d_M_halves_84 : decode b_M_halves 84 = .ok (.iload 4, 2) := by decide +kernel
theorem d_M_halves_86 : decode b_M_halves 86 = .ok (.ishr, 1) := by decide +kernel
theorem d_M_halves_87 : decode b_M_halves 87 = .ok (.iconst 1, 1) := by decide +kernel
theorem d_M_halves_88 : decode b_M_halves 88 = .ok (.iand, 1) := by decide +kernel
theorem d_M_halves_89 : decode b_M_halves 89 = .ok (.invokestatic 149, 3) := by decide +kernel
theorem d_M_halves_92 : decode b_M_halves 92 = .ok (.iastore, 1) := by decide +kernel
theorem d_M_halves_93 : decode b_M_halves 93 = .ok (.iinc 4 (-1), 3) := by decide +kernel
theorem d_M_halves_96 : decode b_M_halves 96 = .ok (.goto (-49), 3) := by decide +kernel
theorem d_M_halves_99 : decode b_M_halves 99 = .ok (.aload_n 0, 1) := by decide +kernel
theorem d_M_halves_100 : decode b_M_halves 100 = .ok (.getfield 122, 3) := by decide +kernel
theorem d_M_halves_103 : decode b_M_halves 103 = .ok (.iload_n 1, 1) := by decide +kernel
theorem d_M_halves_104 : decode b_M_halves 104 = .ok (.aload_n 0, 1) := by decide +kernel
theorem d_M_halves_105 : decode b_M_halves 105 = .ok (.getfield 86, 3) := by decide +kernel
theorem d_M_halves_108 : decode b_M_halves 108 = .ok (.iload_n 1, 1) := by decide +kernel
theorem d_M_halves_109 : decode b_M_halves 109 = .ok (.baload, 1) := by decide +kernel
theorem d_M_halves_110 : decode b_M_halves 110 = .ok (.ifCond .eq 16, 3) := by decide +kernel
theorem d_M_halves_113 : decode b_M_halves 113 = .ok (.aload_n 0, 1) := by decide +kernel
theorem d_M_halves_114 : decode b_M_halves 114 = .ok (.getfield 122, 3) := by decide +kernel
theorem d_M_halves_117 : decode b_M_halves 117 = .ok (.iload_n 1, 1) := by decide +kernel
theorem d_M_halves_118 : decode b_M_halves 118 = .ok (.iaload, 1) := by decide +kernel
theorem d_M_halves_119 : decode b_M_halves 119 = .ok (.iconst 1, 1) := by decide +kernel
theorem d_M_halves_120 : decode b_M_halves 120 = .ok (.ishl, 1) := by decide +kernel
theorem d_M_halves_121 : decode b_M_halves 121 = .ok (.iload_n 3, 1) := by decide +kernel
theorem d_M_halves_122 : decode b_M_halves 122 = .ok (.ior, 1) := by decide +kernel
theorem d_M_halves_123 : decode b_M_halves 123 = .ok (.goto 9, 3) := by decide +kernel
theorem d_M_halves_126 : decode b_M_halves 126 = .ok (.aload_n 0, 1) := by decide +kernel
theorem d_M_halves_127 : decode b_M_halves 127 = .ok (.getfield 122, 3) := by decide +kernel
theorem d_M_halves_130 : decode b_M_halves 130 = .ok (.iload_n 1, 1) := by decide +kernel
theorem d_M_halves_131 : decode b_M_halves 131 = .ok (.iaload, 1) := by decide +kernel
theorem d_M_halves_132 : decode b_M_halves 132 = .ok (.iastore, 1) := by decide +kernel
theorem d_M_halves_133 : decode b_M_halves 133 = .ok (.aload_n 0, 1) := by decide +kernel
theorem d_M_halves_134 : decode b_M_halves 134 = .ok (.getfield 104, 3) := by decide +kernel
theorem d_M_halves_137 : decode b_M_halves 137 = .ok (.iload_n 1, 1) := by decide +kernel
theorem d_M_halves_138 : decode b_M_halves 138 = .ok (.iaload, 1) := by decide +kernel
theorem d_M_halves_139 : decode b_M_halves 139 = .ok (.bipush 8, 2) := by decide +kernel
theorem d_M_halves_141 : decode b_M_halves 141 = .ok (.irem, 1) := by decide +kernel
theorem d_M_halves_142 : decode b_M_halves 142 = .ok (.bipush 7, 2) := by decide +kernel
theorem d_M_halves_144 : decode b_M_halves 144 = .ok (.if_icmp .ne 88, 3) := by decide +kernel
theorem d_M_halves_147 : decode b_M_halves 147 = .ok (.aload_n 0, 1) := by decide +kernel
theorem d_M_halves_148 : decode b_M_halves 148 = .ok (.getfield 125, 3) := by decide +kernel
theorem d_M_halves_151 : decode b_M_halves 151 = .ok (.iload_n 1, 1) := by decide +kernel
theorem d_M_halves_152 : decode b_M_halves 152 = .ok (.baload, 1) := by decide +kernel
theorem d_M_halves_153 : decode b_M_halves 153 = .ok (.ifCond .eq 60, 3) := by decide +kernel
theorem d_M_halves_156 : decode b_M_halves 156 = .ok (.aload_n 0, 1) := by decide +kernel
theorem d_M_halves_157 : decode b_M_halves 157 = .ok (.getfield 122, 3) := by decide +kernel
theorem d_M_halves_160 : decode b_M_halves 160 = .ok (.iload_n 1, 1) := by decide +kernel
theorem d_M_halves_161 : decode b_M_halves 161 = .ok (.iaload, 1) := by decide +kernel
theorem d_M_halves_162 : decode b_M_halves 162 = .ok (.aload_n 0, 1) := by decide +kernel
theorem d_M_halves_163 : decode b_M_halves 163 = .ok (.getfield 128, 3) := by decide +kernel
theorem d_M_halves_166 : decode b_M_halves 166 = .ok (.iload_n 1, 1) := by decide +kernel
theorem d_M_halves_167 : decode b_M_halves 167 = .ok (.iaload, 1) := by decide +kernel
theorem d_M_halves_168 : decode b_M_halves 168 = .ok (.if_icmp .eq 7, 3) := by decide +kernel
theorem d_M_halves_171 : decode b_M_halves 171 = .ok (.iconst 1, 1) := by decide +kernel
theorem d_M_halves_172 : decode b_M_halves 172 = .ok (.goto 4, 3) := by decide +kernel
theorem d_M_halves_175 : decode b_M_halves 175 = .ok (.iconst 0, 1) := by decide +kernel
theorem d_M_halves_176 : decode b_M_halves 176 = .ok (.istore 4, 2) := by decide +kernel
theorem d_M_halves_178 : decode b_M_halves 178 = .ok (.aload_n 0, 1) := by decide +kernel
theorem d_M_halves_179 : decode b_M_halves 179 = .ok (.iload_n 1, 1) := by decide +kernel
theorem d_M_halves_180 : decode b_M_halves 180 = .ok (.iload 4, 2) := by decide +kernel
theorem d_M_halves_182 : decode b_M_halves 182 = .ok (.iconst 3, 1) := by decide +kernel
theorem d_M_halves_183 : decode b_M_halves 183 = .ok (.invokevirtual 165, 3) := by decide +kernel
theorem d_M_halves_186 : decode b_M_halves 186 = .ok (.aload_n 0, 1) := by decide +kernel
theorem d_M_halves_187 : decode b_M_halves 187 = .ok (.getfield 131, 3) := by decide +kernel
theorem d_M_halves_190 : decode b_M_halves 190 = .ok (.iconst 2, 1) := by decide +kernel
theorem d_M_halves_191 : decode b_M_halves 191 = .ok (.iload_n 1, 1) := by decide +kernel
theorem d_M_halves_192 : decode b_M_halves 192 = .ok (.imul, 1) := by decide +kernel
theorem d_M_halves_193 : decode b_M_halves 193 = .ok (.aload_n 0, 1) := by decide +kernel
theorem d_M_halves_194 : decode b_M_halves 194 = .ok (.getfield 104, 3) := by decide +kernel
theorem d_M_halves_197 : decode b_M_halves 197 = .ok (.iload_n 1, 1) := by decide +kernel
theorem d_M_halves_198 : decode b_M_halves 198 = .ok (.iaload, 1) := by decide +kernel
theorem d_M_halves_199 : decode b_M_halves 199 = .ok (.bipush 15, 2) := by decide +kernel
theorem d_M_halves_201 : decode b_M_halves 201 = .ok (.if_icmp .ne 7, 3) := by decide +kernel
theorem d_M_halves_204 : decode b_M_halves 204 = .ok (.iconst 0, 1) := by decide +kernel
theorem d_M_halves_205 : decode b_M_halves 205 = .ok (.goto 4, 3) := by decide +kernel
theorem d_M_halves_208 : decode b_M_halves 208 = .ok (.iconst 1, 1) := by decide +kernel
theorem d_M_halves_209 : decode b_M_halves 209 = .ok (.iadd, 1) := by decide +kernel
theorem d_M_halves_210 : decode b_M_halves 210 = .ok (.iload 4, 2) := by decide +kernel
theorem d_M_halves_212 : decode b_M_halves 212 = .ok (.bastore, 1) := by decide +kernel
theorem d_M_halves_213 : decode b_M_halves 213 = .ok (.aload_n 0, 1) := by decide +kernel
theorem d_M_halves_214 : decode b_M_halves 214 = .ok (.getfield 125, 3) := by decide +kernel
theorem d_M_halves_217 : decode b_M_halves 217 = .ok (.iload_n 1, 1) := by decide +kernel
theorem d_M_halves_218 : decode b_M_halves 218 = .ok (.iconst 1, 1) := by decide +kernel
theorem d_M_halves_219 : decode b_M_halves 219 = .ok (.bastore, 1) := by decide +kernel
theorem d_M_halves_220 : decode b_M_halves 220 = .ok (.aload_n 0, 1) := by decide +kernel
theorem d_M_halves_221 : decode b_M_halves 221 = .ok (.getfield 128, 3) := by decide +kernel
theorem d_M_halves_224 : decode b_M_halves 224 = .ok (.iload_n 1, 1) := by decide +kernel
theorem d_M_halves_225 : decode b_M_halves 225 = .ok (.aload_n 0, 1) := by decide +kernel
theorem d_M_halves_226 : decode b_M_halves 226 = .ok (.getfield 119, 3) := by decide +kernel
theorem d_M_halves_229 : decode b_M_halves 229 = .ok (.iload_n 1, 1) := by decide +kernel
theorem d_M_halves_230 : decode b_M_halves 230 = .ok (.iaload, 1) := by decide +kernel
theorem d_M_halves_231 : decode b_M_halves 231 = .ok (.iastore, 1) := by decide +kernel
theorem d_M_halves_232 : decode b_M_halves 232 = .ok (.return_, 1) := by decide +kernel
theorem d_M_arrive_0 : decode b_M_arrive 0 = .ok (.aload_n 0, 1) := by decide +kernel
theorem d_M_arrive_1 : decode b_M_arrive 1 = .ok (.iload_n 1, 1) := by decide +kernel
theorem d_M_arrive_2 : decode b_M_arrive 2 = .ok (.iload_n 2, 1) := by decide +kernel
theorem d_M_arrive_3 : decode b_M_arrive 3 = .ok (.invokevirtual 206, 3) := by decide +kernel
theorem d_M_arrive_6 : decode b_M_arrive 6 = .ok (.istore_n 3, 1) := by decide +kernel
theorem d_M_arrive_7 : decode b_M_arrive 7 = .ok (.aload_n 0, 1) := by decide +kernel
theorem d_M_arrive_8 : decode b_M_arrive 8 = .ok (.iload_n 1, 1) := by decide +kernel
theorem d_M_arrive_9 : decode b_M_arrive 9 = .ok (.iload_n 3, 1) := by decide +kernel
theorem d_M_arrive_10 : decode b_M_arrive 10 = .ok (.invokevirtual 209, 3) := by decide +kernel
theorem d_M_arrive_13 : decode b_M_arrive 13 = .ok (.aload_n 0, 1) := by decide +kernel
theorem d_M_arrive_14 : decode b_M_arrive 14 = .ok (.getfield 50, 3) := by decide +kernel
theorem d_M_arrive_17 : decode b_M_arrive 17 = .ok (.iload_n 1, 1) := by decide +kernel
theorem d_M_arrive_18 : decode b_M_arrive 18 = .ok (.baload, 1) := by decide +kernel
theorem d_M_arrive_19 : decode b_M_arrive 19 = .ok (.ifCond .eq 16, 3) := by decide +kernel
theorem d_M_arrive_22 : decode b_M_arrive 22 = .ok (.aload_n 0, 1) := by decide +kernel
theorem d_M_arrive_23 : decode b_M_arrive 23 = .ok (.getfield 50, 3) := by decide +kernel
theorem d_M_arrive_26 : decode b_M_arrive 26 = .ok (.iload_n 1, 1) := by decide +kernel
theorem d_M_arrive_27 : decode b_M_arrive 27 = .ok (.iconst 0, 1) := by decide +kernel
theorem d_M_arrive_28 : decode b_M_arrive 28 = .ok (.bastore, 1) := by decide +kernel
theorem d_M_arrive_29 : decode b_M_arrive 29 = .ok (.aload_n 0, 1) := by decide +kernel
theorem d_M_arrive_30 : decode b_M_arrive 30 = .ok (.iload_n 1, 1) := by decide +kernel
theorem d_M_arrive_31 : decode b_M_arrive 31 = .ok (.iload_n 3, 1) := by decide +kernel
theorem d_M_arrive_32 : decode b_M_arrive 32 = .ok (.invokevirtual 209, 3) := by decide +kernel
theorem d_M_arrive_35 : decode b_M_arrive 35 = .ok (.return_, 1) := by decide +kernel
end
section
theorem tn_nI {w : Nat} (h : w < 2 ^ 31) : tn (nI w) = w := nI_clamp h
theorem co_back {x : Int32} {d : Nat} (h : x = nI (d + 1) - 2 ∧ d + 1 ≤ 33 ∧ 1 ≤ d + 1) (h1 : ¬ x < 0) : x + (-1) = nI d - 2 ∧ d ≤ 33 ∧ 1 ≤ d := by
  obtain ⟨rfl, h2, -⟩ := h
  have key : ∀ d, d < 33 → ¬ (nI (d + 1) - 2 < 0) → nI (d + 1) - 2 + (-1) = nI d - 2 ∧ d ≤ 33 ∧ 1 ≤ d := by decide +kernel
  exact key d (by omega) h1
theorem wl_first {G : Mem} {c k : Nat} (hm : ∃ w : Nat, w ≤ 8 ∧ G c k = nI w) : ∃ j w : Nat, j ≤ w ∧ w ≤ 8 ∧ G c k = nI w ∧ (0 : Int32) = nI j ∧ tn (G c k) + 1 = w - j + 1 := by
  obtain ⟨w, h1, h2⟩ := hm
  exact ⟨0, w, Nat.zero_le _, h1, h2, rfl, by rw [h2, tn_nI (by omega)]; omega⟩
theorem wl_lt {v x : Int32} {j w : Nat} (hw : w ≤ 8) (hj : j ≤ w) (hv : v = nI w) (hx : x = nI j) (h1 : ¬ v ≤ x) : j < w := by
  subst hv; subst hx
  rcases Nat.lt_or_ge j w with h | h
  · exact h
  · exact absurd (nI_le h (by omega)) h1
theorem wl_back {G : Mem} {c k d : Nat} {x : Int32} (h : ∃ j w : Nat, j ≤ w ∧ w ≤ 8 ∧ G c k = nI w ∧ x = nI j ∧ d + 1 = w - j + 1) (h1 : ¬ G c k ≤ x) : ∃ j w : Nat, j ≤ w ∧ w ≤ 8 ∧ G c k = nI w ∧ x + 1 = nI j ∧ d = w - j + 1 := by
  obtain ⟨j, w, a, b, e, f, g⟩ := h
  have hl := wl_lt b a e f h1
  exact ⟨j + 1, w, hl, b, e, by rw [f, nI_1], by omega⟩
theorem pl_in {G : Mem} {c k d : Nat} {x : Int32} (h : ∃ j w : Nat, j ≤ w ∧ w ≤ 8 ∧ G c k = nI w ∧ x = nI j ∧ d + 1 = w - j + 1) (h1 : ¬ G c k ≤ x) : vp_in x 8 := by
  obtain ⟨j, w, a, b, e, f, g⟩ := h
  have hl := wl_lt b a e f h1
  rw [f]
  exact vp_in_nI (by omega) (by omega)
theorem e8_in : ∀ j, j < 8 → vp_in (8 * 0 + nI j) 16 ∧ vp_in (8 * 1 + nI j) 16 := by unfold vp_in; decide +kernel
theorem sd_in {a1 : Int32} {G : Mem} {c k d : Nat} {x : Int32} (he : a1 = 0 ∨ a1 = 1) (h : ∃ j w : Nat, j ≤ w ∧ w ≤ 8 ∧ G c k = nI w ∧ x = nI j ∧ d + 1 = w - j + 1) (h1 : ¬ G c k ≤ x) : vp_in (8 * a1 + x) 16 := by
  obtain ⟨j, w, a, b, e, f, g⟩ := h
  have hl := wl_lt b a e f h1
  rw [f]
  rcases he with rfl | rfl
  · exact (e8_in j (by omega)).1
  · exact (e8_in j (by omega)).2
end
section
def sp_D_takeV (c : Nat) (G0 : Mem) (a1 : Int32) : Mem :=
  (if a1 = (G0 c 2) then (wr (wr (wr G0 c 4 0) c 6 ((G0 c 6) + 1)) c 2 a1) else (wr (wr G0 c 4 0) c 2 a1))
set_option maxHeartbeats 4000000 in
set_option maxRecDepth 100000 in
theorem c_D_takeV (l : Launch) (P : gP) (G0 : Mem) (c : Nat) (a1 : Int32) (hc : kD c) : gMv l y_D_takeV b_D_takeV 2 none ({ frames := 0, cells := 0, slots := 0, locals := 0 }) [.ref (gad P c), .int a1] P G0 (sp_D_takeV c G0 a1) := by
  refine Met.ofW (cc := b_D_takeV) (maxL := 2) (ret := none) (by decide) rfl ?_
  intro p e s m args below meth c0 s₁ B hml hv
  obtain ⟨rfl, hpre⟩ := hv
  obtain ⟨E, hH⟩ := gE_of B hml hpre
  replace E : gE p s m _ meth c0 P "FramedLine$Decoder" b_D_takeV 2 none := E
  have hcU := hc
  unfold kD at hcU
  have hx := E.1
  have hb := E.2.1
  have hl := lv_entry ([.ref (gad P c), .int a1]) (n := 2) (Nat.le_of_ble_eq_true rfl)
  rw [lg_entry_eq]
  generalize (lg_sl ([.ref (gad P c), .int a1]) ++ List.replicate (2 - (lg_sl ([.ref (gad P c), .int a1])).length) Slot.unset).toArray = ls at hl ⊢
  replace hl : lv_has ls 2 [(0, .ref (gad P c)), (1, .int a1)] := hl
  have hsp : sp_D_takeV c G0 a1 = sp_D_takeV c G0 a1 := rfl
  refine lv_aload_n hx hb d_D_takeV_0 rfl (lv_at hl 0 rfl) ?_
  refine lv_iconst (v := 0) hx hb d_D_takeV_1 (by decide) ?_
  refine g_puti E hH (gc_D hc) cl_D ct_D 4 (by decide) lf_D_24 rfl (by decide +kernel) (fun _ _ => rfl) (Nat.le_of_ble_eq_true rfl) d_D_takeV_2 (fun H locs hH => ?_)
  refine lv_iload_n hx hb d_D_takeV_5 rfl (lv_at hl 1 rfl) ?_
  refine lv_aload_n hx hb d_D_takeV_6 rfl (lv_at hl 0 rfl) ?_
  refine g_geti (v := (G0 c 2)) E hH (gc_D hc) cl_D 2 (by decide) lf_D_18 (fun _ => rfl) (wr_k _ _ _ _ (by decide)) d_D_takeV_7 ?_
  refine lv_icmp_ne (tgt := 23) hx hb d_D_takeV_10 (by decide) (fun h1 => ?_) (fun h1 => ?_)
  · refine lv_aload_n hx hb d_D_takeV_23 rfl (lv_at hl 0 rfl) ?_
    refine lv_iload_n hx hb d_D_takeV_24 rfl (lv_at hl 1 rfl) ?_
    refine g_puti E hH (gc_D hc) cl_D ct_D 2 (by decide) lf_D_18 rfl (by decide +kernel) (fun _ _ => rfl) (Nat.le_of_ble_eq_true rfl) d_D_takeV_25 (fun H locs hH => ?_)
    exact g_vret E hH (hsp.trans (by simp only [sp_D_takeV, if_neg h1])) d_D_takeV_28
  · refine lv_aload_n hx hb d_D_takeV_13 rfl (lv_at hl 0 rfl) ?_
    refine lv_dup hx hb d_D_takeV_14 rfl ?_
    refine g_geti (v := (G0 c 6)) E hH (gc_D hc) cl_D 6 (by decide) lf_D_30 (fun _ => rfl) (wr_k _ _ _ _ (by decide)) d_D_takeV_15 ?_
    refine lv_iconst (v := 1) hx hb d_D_takeV_18 (by decide) ?_
    refine lv_iadd hx hb d_D_takeV_19 ?_
    refine g_puti E hH (gc_D hc) cl_D ct_D 6 (by decide) lf_D_30 rfl (by decide +kernel) (fun _ _ => rfl) (Nat.le_of_ble_eq_true rfl) d_D_takeV_20 (fun H locs hH => ?_)
    refine lv_aload_n hx hb d_D_takeV_23 rfl (lv_at hl 0 rfl) ?_
    refine lv_iload_n hx hb d_D_takeV_24 rfl (lv_at hl 1 rfl) ?_
    refine g_puti E hH (gc_D hc) cl_D ct_D 2 (by decide) lf_D_18 rfl (by decide +kernel) (fun _ _ => rfl) (Nat.le_of_ble_eq_true rfl) d_D_takeV_25 (fun H locs hH => ?_)
    exact g_vret E hH (hsp.trans (by simp only [sp_D_takeV, if_pos h1])) d_D_takeV_28

def sp_D_takeZero (c : Nat) (G0 : Mem)  : Mem :=
  (if (G0 c 1) = 0 then (wr (wr G0 c 4 (((G0 c 4) <<< ((1 : Int32) &&& 31)) &&& (15 : Int32))) c 3 ((G0 c 3) + 1)) else (if (((G0 c 3) + 1) &&& (3 : Int32)) = 0 then (wr (wr (wr G0 c 4 (((G0 c 4) <<< ((1 : Int32) &&& 31)) &&& (15 : Int32))) c 3 ((G0 c 3) + 1)) c 6 ((G0 c 6) + 1)) else (wr (wr G0 c 4 (((G0 c 4) <<< ((1 : Int32) &&& 31)) &&& (15 : Int32))) c 3 ((G0 c 3) + 1))))
set_option maxHeartbeats 4000000 in
set_option maxRecDepth 100000 in
theorem c_D_takeZero (l : Launch) (P : gP) (G0 : Mem) (c : Nat)  (hc : kD c) : gMv l y_D_takeZero b_D_takeZero 1 none ({ frames := 0, cells := 0, slots := 0, locals := 0 }) [.ref (gad P c)] P G0 (sp_D_takeZero c G0) := by
  refine Met.ofW (cc := b_D_takeZero) (maxL := 1) (ret := none) (by decide) rfl ?_
  intro p e s m args below meth c0 s₁ B hml hv
  obtain ⟨rfl, hpre⟩ := hv
  obtain ⟨E, hH⟩ := gE_of B hml hpre
  replace E : gE p s m _ meth c0 P "FramedLine$Decoder" b_D_takeZero 1 none := E
  have hcU := hc
  unfold kD at hcU
  have hx := E.1
  have hb := E.2.1
  have hl := lv_entry ([.ref (gad P c)]) (n := 1) (Nat.le_of_ble_eq_true rfl)
  rw [lg_entry_eq]
  generalize (lg_sl ([.ref (gad P c)]) ++ List.replicate (1 - (lg_sl ([.ref (gad P c)])).length) Slot.unset).toArray = ls at hl ⊢
  replace hl : lv_has ls 1 [(0, .ref (gad P c))] := hl
  have hsp : sp_D_takeZero c G0 = sp_D_takeZero c G0 := rfl
  refine lv_aload_n hx hb d_D_takeZero_0 rfl (lv_at hl 0 rfl) ?_
  refine lv_aload_n hx hb d_D_takeZero_1 rfl (lv_at hl 0 rfl) ?_
  refine g_geti (v := (G0 c 4)) E hH (gc_D hc) cl_D 4 (by decide) lf_D_24 (fun _ => rfl) rfl d_D_takeZero_2 ?_
  refine lv_iconst (v := 1) hx hb d_D_takeZero_5 (by decide) ?_
  refine lv_ishl hx hb d_D_takeZero_6 ?_
  refine lv_bipush (v := 15) hx hb d_D_takeZero_7 (by decide) ?_
  refine lv_iand hx hb d_D_takeZero_9 ?_
  refine g_puti E hH (gc_D hc) cl_D ct_D 4 (by decide) lf_D_24 rfl (by decide +kernel) (fun _ _ => rfl) (Nat.le_of_ble_eq_true rfl) d_D_takeZero_10 (fun H locs hH => ?_)
  refine lv_aload_n hx hb d_D_takeZero_13 rfl (lv_at hl 0 rfl) ?_
  refine lv_dup hx hb d_D_takeZero_14 rfl ?_
  refine g_geti (v := (G0 c 3)) E hH (gc_D hc) cl_D 3 (by decide) lf_D_21 (fun _ => rfl) (wr_k _ _ _ _ (by decide)) d_D_takeZero_15 ?_
  refine lv_iconst (v := 1) hx hb d_D_takeZero_18 (by decide) ?_
  refine lv_iadd hx hb d_D_takeZero_19 ?_
  refine g_puti E hH (gc_D hc) cl_D ct_D 3 (by decide) lf_D_21 rfl (by decide +kernel) (fun _ _ => rfl) (Nat.le_of_ble_eq_true rfl) d_D_takeZero_20 (fun H locs hH => ?_)
  refine lv_aload_n hx hb d_D_takeZero_23 rfl (lv_at hl 0 rfl) ?_
  refine g_geti (v := (G0 c 1)) E hH (gc_D hc) cl_D 1 (by decide) lf_D_15 (fun _ => rfl) ((wr_k _ _ _ _ (by decide)).trans (wr_k _ _ _ _ (by decide))) d_D_takeZero_24 ?_
  refine lv_if_eq (tgt := 49) hx hb d_D_takeZero_27 (by decide) (fun h1 => ?_) (fun h1 => ?_)
  · exact g_vret E hH (hsp.trans (by simp only [sp_D_takeZero, if_pos h1])) d_D_takeZero_49
  · refine lv_aload_n hx hb d_D_takeZero_30 rfl (lv_at hl 0 rfl) ?_
    refine g_geti (v := ((G0 c 3) + 1)) E hH (gc_D hc) cl_D 3 (by decide) lf_D_21 (fun _ => rfl) (wr_same _ _ _ _) d_D_takeZero_31 ?_
    refine lv_iconst (v := 3) hx hb d_D_takeZero_34 (by decide) ?_
    refine lv_iand hx hb d_D_takeZero_35 ?_
    refine lv_if_ne (tgt := 49) hx hb d_D_takeZero_36 (by decide) (fun h2 => ?_) (fun h2 => ?_)
    · exact g_vret E hH (hsp.trans (by simp only [sp_D_takeZero, if_neg h1, if_neg h2])) d_D_takeZero_49
    · refine lv_aload_n hx hb d_D_takeZero_39 rfl (lv_at hl 0 rfl) ?_
      refine lv_dup hx hb d_D_takeZero_40 rfl ?_
      refine g_geti (v := (G0 c 6)) E hH (gc_D hc) cl_D 6 (by decide) lf_D_30 (fun _ => rfl) ((wr_k _ _ _ _ (by decide)).trans (wr_k _ _ _ _ (by decide))) d_D_takeZero_41 ?_
      refine lv_iconst (v := 1) hx hb d_D_takeZero_44 (by decide) ?_
      refine lv_iadd hx hb d_D_takeZero_45 ?_
      refine g_puti E hH (gc_D hc) cl_D ct_D 6 (by decide) lf_D_30 rfl (by decide +kernel) (fun _ _ => rfl) (Nat.le_of_ble_eq_true rfl) d_D_takeZero_46 (fun H locs hH => ?_)
      exact g_vret E hH (hsp.trans (by simp only [sp_D_takeZero, if_neg h1, if_pos h2])) d_D_takeZero_49

def sp_D_takePulse (c : Nat) (G0 : Mem) (a1 : Int32) : Mem :=
  (if ((if a1 = (G0 c 1) then 1 else 0) : Int32) = 0 then (wr (wr (wr G0 c 4 ((((G0 c 4) <<< ((1 : Int32) &&& 31)) ||| (1 : Int32)) &&& (15 : Int32))) c 1 a1) c 3 0) else (if (G0 c 3) < 2 then (wr (wr (wr (wr G0 c 4 ((((G0 c 4) <<< ((1 : Int32) &&& 31)) ||| (1 : Int32)) &&& (15 : Int32))) c 6 ((G0 c 6) + 1)) c 1 a1) c 3 0) else (wr (wr (sp_D_takeV c G0 a1) c 1 a1) c 3 0)))
set_option maxHeartbeats 4000000 in
set_option maxRecDepth 100000 in
theorem c_D_takePulse (l : Launch) (P : gP) (G0 : Mem) (c : Nat) (a1 : Int32) (hc : kD c) : gMv l y_D_takePulse b_D_takePulse 3 none ({ frames := 1, cells := 0, slots := 0, locals := 21 }) [.ref (gad P c), .int a1] P G0 (sp_D_takePulse c G0 a1) := by
  refine Met.ofW (cc := b_D_takePulse) (maxL := 3) (ret := none) (by decide) rfl ?_
  intro p e s m args below meth c0 s₁ B hml hv
  obtain ⟨rfl, hpre⟩ := hv
  obtain ⟨E, hH⟩ := gE_of B hml hpre
  replace E : gE p s m _ meth c0 P "FramedLine$Decoder" b_D_takePulse 3 none := E
  have hcU := hc
  unfold kD at hcU
  have hx := E.1
  have hb := E.2.1
  have hl := lv_entry ([.ref (gad P c), .int a1]) (n := 3) (Nat.le_of_ble_eq_true rfl)
  rw [lg_entry_eq]
  generalize (lg_sl ([.ref (gad P c), .int a1]) ++ List.replicate (3 - (lg_sl ([.ref (gad P c), .int a1])).length) Slot.unset).toArray = ls at hl ⊢
  replace hl : lv_has ls 3 [(0, .ref (gad P c)), (1, .int a1)] := hl
  have hsp : sp_D_takePulse c G0 a1 = sp_D_takePulse c G0 a1 := rfl
  refine lv_iload_n hx hb d_D_takePulse_0 rfl (lv_at hl 1 rfl) ?_
  refine lv_aload_n hx hb d_D_takePulse_1 rfl (lv_at hl 0 rfl) ?_
  refine g_geti (v := (G0 c 1)) E hH (gc_D hc) cl_D 1 (by decide) lf_D_15 (fun _ => rfl) rfl d_D_takePulse_2 ?_
  refine jn (α := Int32) (fun z H1 locs1 => z = ((if a1 = (G0 c 1) then 1 else 0) : Int32) ∧ isB z ∧ gH P s G0 H1 locs1) (fun z => F0 m 13 ls (.int z :: [])) (fun z H locs h9 => ?_) (fun hJ => ?_)
  · obtain ⟨rfl, hz13, hH⟩ := h9
    refine lv_istore_n hx hb d_D_takePulse_13 rfl hl (by decide) rfl (fun ls hl => ?_)
    refine lv_iload_n hx hb d_D_takePulse_14 rfl (lv_at hl 0 rfl) ?_
    refine lv_if_eq (tgt := 34) hx hb d_D_takePulse_15 (by decide) (fun h1 => ?_) (fun h1 => ?_)
    · refine lv_aload_n hx hb d_D_takePulse_34 rfl (lv_at hl 1 rfl) ?_
      refine lv_aload_n hx hb d_D_takePulse_35 rfl (lv_at hl 1 rfl) ?_
      refine g_geti (v := (G0 c 4)) E hH (gc_D hc) cl_D 4 (by decide) lf_D_24 (fun _ => rfl) rfl d_D_takePulse_36 ?_
      refine lv_iconst (v := 1) hx hb d_D_takePulse_39 (by decide) ?_
      refine lv_ishl hx hb d_D_takePulse_40 ?_
      refine lv_iconst (v := 1) hx hb d_D_takePulse_41 (by decide) ?_
      refine lv_ior hx hb d_D_takePulse_42 ?_
      refine lv_bipush (v := 15) hx hb d_D_takePulse_43 (by decide) ?_
      refine lv_iand hx hb d_D_takePulse_45 ?_
      refine g_puti E hH (gc_D hc) cl_D ct_D 4 (by decide) lf_D_24 rfl (by decide +kernel) (fun _ _ => rfl) (Nat.le_of_ble_eq_true rfl) d_D_takePulse_46 (fun H locs hH => ?_)
      refine lv_iload_n hx hb d_D_takePulse_49 rfl (lv_at hl 0 rfl) ?_
      refine lv_if_eq (tgt := 63) hx hb d_D_takePulse_50 (by decide) (fun _ => ?_) (fun h0 => absurd h1 h0)
      refine lv_aload_n hx hb d_D_takePulse_63 rfl (lv_at hl 1 rfl) ?_
      refine lv_iload_n hx hb d_D_takePulse_64 rfl (lv_at hl 2 rfl) ?_
      refine g_puti E hH (gc_D hc) cl_D ct_D 1 (by decide) lf_D_15 rfl (by decide +kernel) (fun _ _ => rfl) (Nat.le_of_ble_eq_true rfl) d_D_takePulse_65 (fun H locs hH => ?_)
      refine lv_aload_n hx hb d_D_takePulse_68 rfl (lv_at hl 1 rfl) ?_
      refine lv_iconst (v := 0) hx hb d_D_takePulse_69 (by decide) ?_
      refine g_puti E hH (gc_D hc) cl_D ct_D 3 (by decide) lf_D_21 rfl (by decide +kernel) (fun _ _ => rfl) (Nat.le_of_ble_eq_true rfl) d_D_takePulse_70 (fun H locs hH => ?_)
      exact g_vret E hH (hsp.trans (by simp only [sp_D_takePulse, if_pos h1])) d_D_takePulse_73
    · refine lv_aload_n hx hb d_D_takePulse_18 rfl (lv_at hl 1 rfl) ?_
      refine g_geti (v := (G0 c 3)) E hH (gc_D hc) cl_D 3 (by decide) lf_D_21 (fun _ => rfl) rfl d_D_takePulse_19 ?_
      refine lv_iconst (v := 2) hx hb d_D_takePulse_22 (by decide) ?_
      refine lv_icmp_lt (tgt := 34) hx hb d_D_takePulse_23 (by decide) (fun h2 => ?_) (fun h2 => ?_)
      · refine lv_aload_n hx hb d_D_takePulse_34 rfl (lv_at hl 1 rfl) ?_
        refine lv_aload_n hx hb d_D_takePulse_35 rfl (lv_at hl 1 rfl) ?_
        refine g_geti (v := (G0 c 4)) E hH (gc_D hc) cl_D 4 (by decide) lf_D_24 (fun _ => rfl) rfl d_D_takePulse_36 ?_
        refine lv_iconst (v := 1) hx hb d_D_takePulse_39 (by decide) ?_
        refine lv_ishl hx hb d_D_takePulse_40 ?_
        refine lv_iconst (v := 1) hx hb d_D_takePulse_41 (by decide) ?_
        refine lv_ior hx hb d_D_takePulse_42 ?_
        refine lv_bipush (v := 15) hx hb d_D_takePulse_43 (by decide) ?_
        refine lv_iand hx hb d_D_takePulse_45 ?_
        refine g_puti E hH (gc_D hc) cl_D ct_D 4 (by decide) lf_D_24 rfl (by decide +kernel) (fun _ _ => rfl) (Nat.le_of_ble_eq_true rfl) d_D_takePulse_46 (fun H locs hH => ?_)
        refine lv_iload_n hx hb d_D_takePulse_49 rfl (lv_at hl 0 rfl) ?_
        refine lv_if_eq (tgt := 63) hx hb d_D_takePulse_50 (by decide) (fun h0 => absurd h0 h1) (fun _ => ?_)
        refine lv_aload_n hx hb d_D_takePulse_53 rfl (lv_at hl 1 rfl) ?_
        refine lv_dup hx hb d_D_takePulse_54 rfl ?_
        refine g_geti (v := (G0 c 6)) E hH (gc_D hc) cl_D 6 (by decide) lf_D_30 (fun _ => rfl) (wr_k _ _ _ _ (by decide)) d_D_takePulse_55 ?_
        refine lv_iconst (v := 1) hx hb d_D_takePulse_58 (by decide) ?_
        refine lv_iadd hx hb d_D_takePulse_59 ?_
        refine g_puti E hH (gc_D hc) cl_D ct_D 6 (by decide) lf_D_30 rfl (by decide +kernel) (fun _ _ => rfl) (Nat.le_of_ble_eq_true rfl) d_D_takePulse_60 (fun H locs hH => ?_)
        refine lv_aload_n hx hb d_D_takePulse_63 rfl (lv_at hl 1 rfl) ?_
        refine lv_iload_n hx hb d_D_takePulse_64 rfl (lv_at hl 2 rfl) ?_
        refine g_puti E hH (gc_D hc) cl_D ct_D 1 (by decide) lf_D_15 rfl (by decide +kernel) (fun _ _ => rfl) (Nat.le_of_ble_eq_true rfl) d_D_takePulse_65 (fun H locs hH => ?_)
        refine lv_aload_n hx hb d_D_takePulse_68 rfl (lv_at hl 1 rfl) ?_
        refine lv_iconst (v := 0) hx hb d_D_takePulse_69 (by decide) ?_
        refine g_puti E hH (gc_D hc) cl_D ct_D 3 (by decide) lf_D_21 rfl (by decide +kernel) (fun _ _ => rfl) (Nat.le_of_ble_eq_true rfl) d_D_takePulse_70 (fun H locs hH => ?_)
        exact g_vret E hH (hsp.trans (by simp only [sp_D_takePulse, if_neg h1, if_pos h2])) d_D_takePulse_73
      · refine lv_aload_n hx hb d_D_takePulse_26 rfl (lv_at hl 1 rfl) ?_
        refine lv_iload_n hx hb d_D_takePulse_27 rfl (lv_at hl 2 rfl) ?_
        refine g_callVv (As := [.int _]) E hH hl (c_D_takeV l P _ c _ hc) lm_D_40 (gc_D hc) cl_D (Nat.le_of_ble_eq_true rfl) (Nat.le_of_ble_eq_true rfl) (Nat.le_of_ble_eq_true rfl) (Nat.le_of_ble_eq_true rfl) (Nat.le_of_ble_eq_true rfl) rfl rfl rfl rfl d_D_takePulse_28 (fun H locs hH => ?_)
        refine lv_goto (tgt := 63) hx hb d_D_takePulse_31 (by decide) ?_
        refine lv_aload_n hx hb d_D_takePulse_63 rfl (lv_at hl 1 rfl) ?_
        refine lv_iload_n hx hb d_D_takePulse_64 rfl (lv_at hl 2 rfl) ?_
        refine g_puti E hH (gc_D hc) cl_D ct_D 1 (by decide) lf_D_15 rfl (by decide +kernel) (fun _ _ => rfl) (Nat.le_of_ble_eq_true rfl) d_D_takePulse_65 (fun H locs hH => ?_)
        refine lv_aload_n hx hb d_D_takePulse_68 rfl (lv_at hl 1 rfl) ?_
        refine lv_iconst (v := 0) hx hb d_D_takePulse_69 (by decide) ?_
        refine g_puti E hH (gc_D hc) cl_D ct_D 3 (by decide) lf_D_21 rfl (by decide +kernel) (fun _ _ => rfl) (Nat.le_of_ble_eq_true rfl) d_D_takePulse_70 (fun H locs hH => ?_)
        exact g_vret E hH (hsp.trans (by simp only [sp_D_takePulse, if_neg h1, if_neg h2])) d_D_takePulse_73
  · refine lv_icmp_ne (tgt := 12) hx hb d_D_takePulse_5 (by decide) (fun h3 => ?_) (fun h3 => ?_)
    · refine lv_iconst (v := 0) hx hb d_D_takePulse_12 (by decide) ?_
      exact hJ _ _ _ ⟨by simp only [if_neg h3], isB_0, hH⟩
    · refine lv_iconst (v := 1) hx hb d_D_takePulse_8 (by decide) ?_
      refine lv_goto (tgt := 13) hx hb d_D_takePulse_9 (by decide) ?_
      exact hJ _ _ _ ⟨by simp only [if_pos h3], isB_1, hH⟩

def sp_D_bitBehind (c : Nat) (G0 : Mem) (a1 : Int32) : Int32 × Mem :=
  (if a1 = 0 then (if 3 ≤ ((sp_D_takeZero c (wr G0 c 0 a1)) c 5) then (((((sp_D_takeZero c (wr G0 c 0 a1)) c 4) >>> ((3 : Int32) &&& 31)) &&& (1 : Int32)), (sp_D_takeZero c (wr G0 c 0 a1))) else (((-1) : Int32), (wr (sp_D_takeZero c (wr G0 c 0 a1)) c 5 (((sp_D_takeZero c (wr G0 c 0 a1)) c 5) + 1)))) else (if 3 ≤ ((sp_D_takePulse c (wr G0 c 0 a1) a1) c 5) then (((((sp_D_takePulse c (wr G0 c 0 a1) a1) c 4) >>> ((3 : Int32) &&& 31)) &&& (1 : Int32)), (sp_D_takePulse c (wr G0 c 0 a1) a1)) else (((-1) : Int32), (wr (sp_D_takePulse c (wr G0 c 0 a1) a1) c 5 (((sp_D_takePulse c (wr G0 c 0 a1) a1) c 5) + 1)))))
set_option maxHeartbeats 4000000 in
set_option maxRecDepth 100000 in
theorem c_D_bitBehind (l : Launch) (P : gP) (G0 : Mem) (c : Nat) (a1 : Int32) (hc : kD c) : gMi l y_D_bitBehind b_D_bitBehind 2 (some .int) ({ frames := 2, cells := 0, slots := 0, locals := 43 }) [.ref (gad P c), .int a1] P G0 (sp_D_bitBehind c G0 a1) := by
  refine Met.ofW (cc := b_D_bitBehind) (maxL := 2) (ret := (some .int)) (by decide) rfl ?_
  intro p e s m args below meth c0 s₁ B hml hv
  obtain ⟨rfl, hpre⟩ := hv
  obtain ⟨E, hH⟩ := gE_of B hml hpre
  replace E : gE p s m _ meth c0 P "FramedLine$Decoder" b_D_bitBehind 2 (some .int) := E
  have hcU := hc
  unfold kD at hcU
  have hx := E.1
  have hb := E.2.1
  have hl := lv_entry ([.ref (gad P c), .int a1]) (n := 2) (Nat.le_of_ble_eq_true rfl)
  rw [lg_entry_eq]
  generalize (lg_sl ([.ref (gad P c), .int a1]) ++ List.replicate (2 - (lg_sl ([.ref (gad P c), .int a1])).length) Slot.unset).toArray = ls at hl ⊢
  replace hl : lv_has ls 2 [(0, .ref (gad P c)), (1, .int a1)] := hl
  have hsp : sp_D_bitBehind c G0 a1 = sp_D_bitBehind c G0 a1 := rfl
  refine lv_aload_n hx hb d_D_bitBehind_0 rfl (lv_at hl 0 rfl) ?_
  refine lv_iload_n hx hb d_D_bitBehind_1 rfl (lv_at hl 1 rfl) ?_
  refine g_puti E hH (gc_D hc) cl_D ct_D 0 (by decide) lf_D_9 rfl (by decide +kernel) (fun _ _ => rfl) (Nat.le_of_ble_eq_true rfl) d_D_bitBehind_2 (fun H locs hH => ?_)
  refine lv_iload_n hx hb d_D_bitBehind_5 rfl (lv_at hl 1 rfl) ?_
  refine lv_if_ne (tgt := 16) hx hb d_D_bitBehind_6 (by decide) (fun h1 => ?_) (fun h1 => ?_)
  · refine lv_aload_n hx hb d_D_bitBehind_16 rfl (lv_at hl 0 rfl) ?_
    refine lv_iload_n hx hb d_D_bitBehind_17 rfl (lv_at hl 1 rfl) ?_
    refine g_callVv (As := [.int _]) E hH hl (c_D_takePulse l P _ c _ hc) lm_D_36 (gc_D hc) cl_D (Nat.le_of_ble_eq_true rfl) (Nat.le_of_ble_eq_true rfl) (Nat.le_of_ble_eq_true rfl) (Nat.le_of_ble_eq_true rfl) (Nat.le_of_ble_eq_true rfl) rfl rfl rfl rfl d_D_bitBehind_18 (fun H locs hH => ?_)
    refine lv_aload_n hx hb d_D_bitBehind_21 rfl (lv_at hl 0 rfl) ?_
    refine g_geti (v := ((sp_D_takePulse c (wr G0 c 0 a1) a1) c 5)) E hH (gc_D hc) cl_D 5 (by decide) lf_D_27 (fun _ => rfl) rfl d_D_bitBehind_22 ?_
    refine lv_iconst (v := 3) hx hb d_D_bitBehind_25 (by decide) ?_
    refine lv_icmp_ge (tgt := 41) hx hb d_D_bitBehind_26 (by decide) (fun h2 => ?_) (fun h2 => ?_)
    · refine lv_aload_n hx hb d_D_bitBehind_41 rfl (lv_at hl 0 rfl) ?_
      refine g_geti (v := ((sp_D_takePulse c (wr G0 c 0 a1) a1) c 4)) E hH (gc_D hc) cl_D 4 (by decide) lf_D_24 (fun _ => rfl) rfl d_D_bitBehind_42 ?_
      refine lv_iconst (v := 3) hx hb d_D_bitBehind_45 (by decide) ?_
      refine lv_ishr hx hb d_D_bitBehind_46 ?_
      refine lv_iconst (v := 1) hx hb d_D_bitBehind_47 (by decide) ?_
      refine lv_iand hx hb d_D_bitBehind_48 ?_
      exact g_iret E hH (hsp.trans (by simp only [sp_D_bitBehind, if_neg h1, if_pos h2])) d_D_bitBehind_49
    · refine lv_aload_n hx hb d_D_bitBehind_29 rfl (lv_at hl 0 rfl) ?_
      refine lv_dup hx hb d_D_bitBehind_30 rfl ?_
      refine g_geti (v := ((sp_D_takePulse c (wr G0 c 0 a1) a1) c 5)) E hH (gc_D hc) cl_D 5 (by decide) lf_D_27 (fun _ => rfl) rfl d_D_bitBehind_31 ?_
      refine lv_iconst (v := 1) hx hb d_D_bitBehind_34 (by decide) ?_
      refine lv_iadd hx hb d_D_bitBehind_35 ?_
      refine g_puti E hH (gc_D hc) cl_D ct_D 5 (by decide) lf_D_27 rfl (by decide +kernel) (fun _ _ => rfl) (Nat.le_of_ble_eq_true rfl) d_D_bitBehind_36 (fun H locs hH => ?_)
      refine lv_iconst (v := (-1)) hx hb d_D_bitBehind_39 (by decide) ?_
      exact g_iret E hH (hsp.trans (by simp only [sp_D_bitBehind, if_neg h1, if_neg h2])) d_D_bitBehind_40
  · refine lv_aload_n hx hb d_D_bitBehind_9 rfl (lv_at hl 0 rfl) ?_
    refine g_callVv (As := []) E hH hl (c_D_takeZero l P _ c hc) lm_D_33 (gc_D hc) cl_D (Nat.le_of_ble_eq_true rfl) (Nat.le_of_ble_eq_true rfl) (Nat.le_of_ble_eq_true rfl) (Nat.le_of_ble_eq_true rfl) (Nat.le_of_ble_eq_true rfl) rfl rfl rfl rfl d_D_bitBehind_10 (fun H locs hH => ?_)
    refine lv_goto (tgt := 21) hx hb d_D_bitBehind_13 (by decide) ?_
    refine lv_aload_n hx hb d_D_bitBehind_21 rfl (lv_at hl 0 rfl) ?_
    refine g_geti (v := ((sp_D_takeZero c (wr G0 c 0 a1)) c 5)) E hH (gc_D hc) cl_D 5 (by decide) lf_D_27 (fun _ => rfl) rfl d_D_bitBehind_22 ?_
    refine lv_iconst (v := 3) hx hb d_D_bitBehind_25 (by decide) ?_
    refine lv_icmp_ge (tgt := 41) hx hb d_D_bitBehind_26 (by decide) (fun h3 => ?_) (fun h3 => ?_)
    · refine lv_aload_n hx hb d_D_bitBehind_41 rfl (lv_at hl 0 rfl) ?_
      refine g_geti (v := ((sp_D_takeZero c (wr G0 c 0 a1)) c 4)) E hH (gc_D hc) cl_D 4 (by decide) lf_D_24 (fun _ => rfl) rfl d_D_bitBehind_42 ?_
      refine lv_iconst (v := 3) hx hb d_D_bitBehind_45 (by decide) ?_
      refine lv_ishr hx hb d_D_bitBehind_46 ?_
      refine lv_iconst (v := 1) hx hb d_D_bitBehind_47 (by decide) ?_
      refine lv_iand hx hb d_D_bitBehind_48 ?_
      exact g_iret E hH (hsp.trans (by simp only [sp_D_bitBehind, if_pos h1, if_pos h3])) d_D_bitBehind_49
    · refine lv_aload_n hx hb d_D_bitBehind_29 rfl (lv_at hl 0 rfl) ?_
      refine lv_dup hx hb d_D_bitBehind_30 rfl ?_
      refine g_geti (v := ((sp_D_takeZero c (wr G0 c 0 a1)) c 5)) E hH (gc_D hc) cl_D 5 (by decide) lf_D_27 (fun _ => rfl) rfl d_D_bitBehind_31 ?_
      refine lv_iconst (v := 1) hx hb d_D_bitBehind_34 (by decide) ?_
      refine lv_iadd hx hb d_D_bitBehind_35 ?_
      refine g_puti E hH (gc_D hc) cl_D ct_D 5 (by decide) lf_D_27 rfl (by decide +kernel) (fun _ _ => rfl) (Nat.le_of_ble_eq_true rfl) d_D_bitBehind_36 (fun H locs hH => ?_)
      refine lv_iconst (v := (-1)) hx hb d_D_bitBehind_39 (by decide) ?_
      exact g_iret E hH (hsp.trans (by simp only [sp_D_bitBehind, if_pos h1, if_neg h3])) d_D_bitBehind_40
end
section
def sp_E_pulseOfOne (c : Nat) (G0 : Mem)  : Int32 × Mem :=
  ((-(G0 c 0)), (wr (wr (wr G0 c 2 0) c 1 ((if (zb (G0 c 1)) = 0 then 1 else 0) : Int32)) c 0 (-(G0 c 0))))
set_option maxHeartbeats 4000000 in
set_option maxRecDepth 100000 in
theorem c_E_pulseOfOne (l : Launch) (P : gP) (G0 : Mem) (c : Nat)  (hc : kE c) : gMi l y_E_pulseOfOne b_E_pulseOfOne 1 (some .int) ({ frames := 0, cells := 0, slots := 0, locals := 0 }) [.ref (gad P c)] P G0 (sp_E_pulseOfOne c G0) := by
  refine Met.ofW (cc := b_E_pulseOfOne) (maxL := 1) (ret := (some .int)) (by decide) rfl ?_
  intro p e s m args below meth c0 s₁ B hml hv
  obtain ⟨rfl, hpre⟩ := hv
  obtain ⟨E, hH⟩ := gE_of B hml hpre
  replace E : gE p s m _ meth c0 P "FramedLine$Encoder" b_E_pulseOfOne 1 (some .int) := E
  have hcU := hc
  unfold kE at hcU
  have hx := E.1
  have hb := E.2.1
  have hl := lv_entry ([.ref (gad P c)]) (n := 1) (Nat.le_of_ble_eq_true rfl)
  rw [lg_entry_eq]
  generalize (lg_sl ([.ref (gad P c)]) ++ List.replicate (1 - (lg_sl ([.ref (gad P c)])).length) Slot.unset).toArray = ls at hl ⊢
  replace hl : lv_has ls 1 [(0, .ref (gad P c))] := hl
  have hsp : sp_E_pulseOfOne c G0 = sp_E_pulseOfOne c G0 := rfl
  refine lv_aload_n hx hb d_E_pulseOfOne_0 rfl (lv_at hl 0 rfl) ?_
  refine lv_iconst (v := 0) hx hb d_E_pulseOfOne_1 (by decide) ?_
  refine g_puti E hH (gc_E hc) cl_E ct_E 2 (by decide) lf_E_19 rfl (by decide +kernel) (fun _ _ => rfl) (Nat.le_of_ble_eq_true rfl) d_E_pulseOfOne_2 (fun H locs hH => ?_)
  refine lv_aload_n hx hb d_E_pulseOfOne_5 rfl (lv_at hl 0 rfl) ?_
  refine lv_aload_n hx hb d_E_pulseOfOne_6 rfl (lv_at hl 0 rfl) ?_
  refine g_getz (v := (G0 c 1)) E hH (gc_E hc) cl_E 1 (by decide) lf_E_15 (fun _ => rfl) (wr_k _ _ _ _ (by decide)) d_E_pulseOfOne_7 ?_
  refine jn (α := Int32) (fun z H1 locs1 => z = ((if (zb (G0 c 1)) = 0 then 1 else 0) : Int32) ∧ isB z ∧ gH P s (wr G0 c 2 0) H1 locs1) (fun z => F0 m 18 ls (.int z :: .ref (gad P c) :: [])) (fun z H locs h9 => ?_) (fun hJ => ?_)
  · obtain ⟨rfl, hz18, hH⟩ := h9
    refine g_putz E hH (gc_E hc) cl_E ct_E 1 (by decide) lf_E_15 rfl (by decide +kernel) (set_E1 _ _) hz18 (Nat.le_of_ble_eq_true rfl) d_E_pulseOfOne_18 (fun H locs hH => ?_)
    refine lv_aload_n hx hb d_E_pulseOfOne_21 rfl (lv_at hl 0 rfl) ?_
    refine lv_aload_n hx hb d_E_pulseOfOne_22 rfl (lv_at hl 0 rfl) ?_
    refine g_geti (v := (G0 c 0)) E hH (gc_E hc) cl_E 0 (by decide) lf_E_9 (fun _ => rfl) ((wr_k _ _ _ _ (by decide)).trans (wr_k _ _ _ _ (by decide))) d_E_pulseOfOne_23 ?_
    refine lv_ineg hx hb d_E_pulseOfOne_26 ?_
    refine g_puti E hH (gc_E hc) cl_E ct_E 0 (by decide) lf_E_9 rfl (by decide +kernel) (fun _ _ => rfl) (Nat.le_of_ble_eq_true rfl) d_E_pulseOfOne_27 (fun H locs hH => ?_)
    refine lv_aload_n hx hb d_E_pulseOfOne_30 rfl (lv_at hl 0 rfl) ?_
    refine g_geti (v := (-(G0 c 0))) E hH (gc_E hc) cl_E 0 (by decide) lf_E_9 (fun _ => rfl) (wr_same _ _ _ _) d_E_pulseOfOne_31 ?_
    exact g_iret E hH (hsp.trans (by rw [sp_E_pulseOfOne])) d_E_pulseOfOne_34
  · refine lv_if_ne (tgt := 17) hx hb d_E_pulseOfOne_10 (by decide) (fun h1 => ?_) (fun h1 => ?_)
    · refine lv_iconst (v := 0) hx hb d_E_pulseOfOne_17 (by decide) ?_
      exact hJ _ _ _ ⟨by simp only [if_neg h1], isB_0, hH⟩
    · refine lv_iconst (v := 1) hx hb d_E_pulseOfOne_13 (by decide) ?_
      refine lv_goto (tgt := 18) hx hb d_E_pulseOfOne_14 (by decide) ?_
      exact hJ _ _ _ ⟨by simp only [if_pos h1], isB_1, hH⟩

def sp_E_symbolOfZero (c : Nat) (G0 : Mem)  : Int32 × Mem :=
  (if 3 < ((G0 c 2) + 1) then (if (zb (G0 c 1)) = 0 then ((-(G0 c 0)), (wr (wr (wr (wr (wr G0 c 2 ((G0 c 2) + 1)) c 0 (-(G0 c 0))) c 3 (-(G0 c 0))) c 2 0) c 1 0)) else ((G0 c 0), (wr (wr (wr G0 c 2 ((G0 c 2) + 1)) c 2 0) c 1 0))) else ((0 : Int32), (wr G0 c 2 ((G0 c 2) + 1))))
set_option maxHeartbeats 4000000 in
set_option maxRecDepth 100000 in
theorem c_E_symbolOfZero (l : Launch) (P : gP) (G0 : Mem) (c : Nat)  (hc : kE c) : gMi l y_E_symbolOfZero b_E_symbolOfZero 1 (some .int) ({ frames := 0, cells := 0, slots := 0, locals := 0 }) [.ref (gad P c)] P G0 (sp_E_symbolOfZero c G0) := by
  refine Met.ofW (cc := b_E_symbolOfZero) (maxL := 1) (ret := (some .int)) (by decide) rfl ?_
  intro p e s m args below meth c0 s₁ B hml hv
  obtain ⟨rfl, hpre⟩ := hv
  obtain ⟨E, hH⟩ := gE_of B hml hpre
  replace E : gE p s m _ meth c0 P "FramedLine$Encoder" b_E_symbolOfZero 1 (some .int) := E
  have hcU := hc
  unfold kE at hcU
  have hx := E.1
  have hb := E.2.1
  have hl := lv_entry ([.ref (gad P c)]) (n := 1) (Nat.le_of_ble_eq_true rfl)
  rw [lg_entry_eq]
  generalize (lg_sl ([.ref (gad P c)]) ++ List.replicate (1 - (lg_sl ([.ref (gad P c)])).length) Slot.unset).toArray = ls at hl ⊢
  replace hl : lv_has ls 1 [(0, .ref (gad P c))] := hl
  have hsp : sp_E_symbolOfZero c G0 = sp_E_symbolOfZero c G0 := rfl
  refine lv_aload_n hx hb d_E_symbolOfZero_0 rfl (lv_at hl 0 rfl) ?_
  refine lv_dup hx hb d_E_symbolOfZero_1 rfl ?_
  refine g_geti (v := (G0 c 2)) E hH (gc_E hc) cl_E 2 (by decide) lf_E_19 (fun _ => rfl) rfl d_E_symbolOfZero_2 ?_
  refine lv_iconst (v := 1) hx hb d_E_symbolOfZero_5 (by decide) ?_
  refine lv_iadd hx hb d_E_symbolOfZero_6 ?_
  refine g_puti E hH (gc_E hc) cl_E ct_E 2 (by decide) lf_E_19 rfl (by decide +kernel) (fun _ _ => rfl) (Nat.le_of_ble_eq_true rfl) d_E_symbolOfZero_7 (fun H locs hH => ?_)
  refine lv_aload_n hx hb d_E_symbolOfZero_10 rfl (lv_at hl 0 rfl) ?_
  refine g_geti (v := ((G0 c 2) + 1)) E hH (gc_E hc) cl_E 2 (by decide) lf_E_19 (fun _ => rfl) (wr_same _ _ _ _) d_E_symbolOfZero_11 ?_
  refine lv_iconst (v := 3) hx hb d_E_symbolOfZero_14 (by decide) ?_
  refine lv_icmp_gt (tgt := 20) hx hb d_E_symbolOfZero_15 (by decide) (fun h1 => ?_) (fun h1 => ?_)
  · refine lv_aload_n hx hb d_E_symbolOfZero_20 rfl (lv_at hl 0 rfl) ?_
    refine g_getz (v := (G0 c 1)) E hH (gc_E hc) cl_E 1 (by decide) lf_E_15 (fun _ => rfl) (wr_k _ _ _ _ (by decide)) d_E_symbolOfZero_21 ?_
    refine lv_if_ne (tgt := 44) hx hb d_E_symbolOfZero_24 (by decide) (fun h2 => ?_) (fun h2 => ?_)
    · refine lv_aload_n hx hb d_E_symbolOfZero_44 rfl (lv_at hl 0 rfl) ?_
      refine lv_iconst (v := 0) hx hb d_E_symbolOfZero_45 (by decide) ?_
      refine g_puti E hH (gc_E hc) cl_E ct_E 2 (by decide) lf_E_19 rfl (by decide +kernel) (fun _ _ => rfl) (Nat.le_of_ble_eq_true rfl) d_E_symbolOfZero_46 (fun H locs hH => ?_)
      refine lv_aload_n hx hb d_E_symbolOfZero_49 rfl (lv_at hl 0 rfl) ?_
      refine lv_iconst (v := 0) hx hb d_E_symbolOfZero_50 (by decide) ?_
      refine g_putz E hH (gc_E hc) cl_E ct_E 1 (by decide) lf_E_15 rfl (by decide +kernel) (set_E1 _ _) isB_0 (Nat.le_of_ble_eq_true rfl) d_E_symbolOfZero_51 (fun H locs hH => ?_)
      refine lv_aload_n hx hb d_E_symbolOfZero_54 rfl (lv_at hl 0 rfl) ?_
      refine g_geti (v := (G0 c 0)) E hH (gc_E hc) cl_E 0 (by decide) lf_E_9 (fun _ => rfl) ((wr_k _ _ _ _ (by decide)).trans ((wr_k _ _ _ _ (by decide)).trans (wr_k _ _ _ _ (by decide)))) d_E_symbolOfZero_55 ?_
      exact g_iret E hH (hsp.trans (by simp only [sp_E_symbolOfZero, if_pos h1, if_neg h2])) d_E_symbolOfZero_58
    · refine lv_aload_n hx hb d_E_symbolOfZero_27 rfl (lv_at hl 0 rfl) ?_
      refine lv_aload_n hx hb d_E_symbolOfZero_28 rfl (lv_at hl 0 rfl) ?_
      refine g_geti (v := (G0 c 0)) E hH (gc_E hc) cl_E 0 (by decide) lf_E_9 (fun _ => rfl) (wr_k _ _ _ _ (by decide)) d_E_symbolOfZero_29 ?_
      refine lv_ineg hx hb d_E_symbolOfZero_32 ?_
      refine g_puti E hH (gc_E hc) cl_E ct_E 0 (by decide) lf_E_9 rfl (by decide +kernel) (fun _ _ => rfl) (Nat.le_of_ble_eq_true rfl) d_E_symbolOfZero_33 (fun H locs hH => ?_)
      refine lv_aload_n hx hb d_E_symbolOfZero_36 rfl (lv_at hl 0 rfl) ?_
      refine lv_aload_n hx hb d_E_symbolOfZero_37 rfl (lv_at hl 0 rfl) ?_
      refine g_geti (v := (-(G0 c 0))) E hH (gc_E hc) cl_E 0 (by decide) lf_E_9 (fun _ => rfl) (wr_same _ _ _ _) d_E_symbolOfZero_38 ?_
      refine g_puti E hH (gc_E hc) cl_E ct_E 3 (by decide) lf_E_22 rfl (by decide +kernel) (fun _ _ => rfl) (Nat.le_of_ble_eq_true rfl) d_E_symbolOfZero_41 (fun H locs hH => ?_)
      refine lv_aload_n hx hb d_E_symbolOfZero_44 rfl (lv_at hl 0 rfl) ?_
      refine lv_iconst (v := 0) hx hb d_E_symbolOfZero_45 (by decide) ?_
      refine g_puti E hH (gc_E hc) cl_E ct_E 2 (by decide) lf_E_19 rfl (by decide +kernel) (fun _ _ => rfl) (Nat.le_of_ble_eq_true rfl) d_E_symbolOfZero_46 (fun H locs hH => ?_)
      refine lv_aload_n hx hb d_E_symbolOfZero_49 rfl (lv_at hl 0 rfl) ?_
      refine lv_iconst (v := 0) hx hb d_E_symbolOfZero_50 (by decide) ?_
      refine g_putz E hH (gc_E hc) cl_E ct_E 1 (by decide) lf_E_15 rfl (by decide +kernel) (set_E1 _ _) isB_0 (Nat.le_of_ble_eq_true rfl) d_E_symbolOfZero_51 (fun H locs hH => ?_)
      refine lv_aload_n hx hb d_E_symbolOfZero_54 rfl (lv_at hl 0 rfl) ?_
      refine g_geti (v := (-(G0 c 0))) E hH (gc_E hc) cl_E 0 (by decide) lf_E_9 (fun _ => rfl) ((wr_k _ _ _ _ (by decide)).trans ((wr_k _ _ _ _ (by decide)).trans ((wr_k _ _ _ _ (by decide)).trans (wr_same _ _ _ _)))) d_E_symbolOfZero_55 ?_
      exact g_iret E hH (hsp.trans (by simp only [sp_E_symbolOfZero, if_pos h1, if_pos h2])) d_E_symbolOfZero_58
  · refine lv_iconst (v := 0) hx hb d_E_symbolOfZero_18 (by decide) ?_
    exact g_iret E hH (hsp.trans (by simp only [sp_E_symbolOfZero, if_neg h1])) d_E_symbolOfZero_19

def sp_E_symbolBehind (c : Nat) (G0 : Mem) (a1 : Int32) : Int32 × Mem :=
  (if a1 = 1 then ((((sp_E_pulseOfOne c G0)).2 c 3), (wr (wr (wr ((sp_E_pulseOfOne c G0)).2 c 3 (((sp_E_pulseOfOne c G0)).2 c 4)) c 4 (((sp_E_pulseOfOne c G0)).2 c 5)) c 5 (((sp_E_pulseOfOne c G0)).1))) else ((((sp_E_symbolOfZero c G0)).2 c 3), (wr (wr (wr ((sp_E_symbolOfZero c G0)).2 c 3 (((sp_E_symbolOfZero c G0)).2 c 4)) c 4 (((sp_E_symbolOfZero c G0)).2 c 5)) c 5 (((sp_E_symbolOfZero c G0)).1))))
set_option maxHeartbeats 4000000 in
set_option maxRecDepth 100000 in
theorem c_E_symbolBehind (l : Launch) (P : gP) (G0 : Mem) (c : Nat) (a1 : Int32) (hc : kE c) : gMi l y_E_symbolBehind b_E_symbolBehind 4 (some .int) ({ frames := 1, cells := 0, slots := 0, locals := 20 }) [.ref (gad P c), .int a1] P G0 (sp_E_symbolBehind c G0 a1) := by
  refine Met.ofW (cc := b_E_symbolBehind) (maxL := 4) (ret := (some .int)) (by decide) rfl ?_
  intro p e s m args below meth c0 s₁ B hml hv
  obtain ⟨rfl, hpre⟩ := hv
  obtain ⟨E, hH⟩ := gE_of B hml hpre
  replace E : gE p s m _ meth c0 P "FramedLine$Encoder" b_E_symbolBehind 4 (some .int) := E
  have hcU := hc
  unfold kE at hcU
  have hx := E.1
  have hb := E.2.1
  have hl := lv_entry ([.ref (gad P c), .int a1]) (n := 4) (Nat.le_of_ble_eq_true rfl)
  rw [lg_entry_eq]
  generalize (lg_sl ([.ref (gad P c), .int a1]) ++ List.replicate (4 - (lg_sl ([.ref (gad P c), .int a1])).length) Slot.unset).toArray = ls at hl ⊢
  replace hl : lv_has ls 4 [(0, .ref (gad P c)), (1, .int a1)] := hl
  have hsp : sp_E_symbolBehind c G0 a1 = sp_E_symbolBehind c G0 a1 := rfl
  refine lv_iload_n hx hb d_E_symbolBehind_0 rfl (lv_at hl 1 rfl) ?_
  refine lv_iconst (v := 1) hx hb d_E_symbolBehind_1 (by decide) ?_
  refine lv_icmp_ne (tgt := 12) hx hb d_E_symbolBehind_2 (by decide) (fun h1 => ?_) (fun h1 => ?_)
  · refine lv_aload_n hx hb d_E_symbolBehind_12 rfl (lv_at hl 0 rfl) ?_
    refine g_callVi (As := []) E hH hl (c_E_symbolOfZero l P _ c hc) lm_E_35 (gc_E hc) cl_E (Nat.le_of_ble_eq_true rfl) (Nat.le_of_ble_eq_true rfl) (Nat.le_of_ble_eq_true rfl) (Nat.le_of_ble_eq_true rfl) (Nat.le_of_ble_eq_true rfl) rfl rfl rfl rfl d_E_symbolBehind_13 (fun H locs hH => ?_)
    refine lv_istore_n hx hb d_E_symbolBehind_16 rfl hl (by decide) rfl (fun ls hl => ?_)
    refine lv_aload_n hx hb d_E_symbolBehind_17 rfl (lv_at hl 1 rfl) ?_
    refine g_geti (v := (((sp_E_symbolOfZero c G0)).2 c 3)) E hH (gc_E hc) cl_E 3 (by decide) lf_E_22 (fun _ => rfl) rfl d_E_symbolBehind_18 ?_
    refine lv_istore_n hx hb d_E_symbolBehind_21 rfl hl (by decide) rfl (fun ls hl => ?_)
    refine lv_aload_n hx hb d_E_symbolBehind_22 rfl (lv_at hl 2 rfl) ?_
    refine lv_aload_n hx hb d_E_symbolBehind_23 rfl (lv_at hl 2 rfl) ?_
    refine g_geti (v := (((sp_E_symbolOfZero c G0)).2 c 4)) E hH (gc_E hc) cl_E 4 (by decide) lf_E_25 (fun _ => rfl) rfl d_E_symbolBehind_24 ?_
    refine g_puti E hH (gc_E hc) cl_E ct_E 3 (by decide) lf_E_22 rfl (by decide +kernel) (fun _ _ => rfl) (Nat.le_of_ble_eq_true rfl) d_E_symbolBehind_27 (fun H locs hH => ?_)
    refine lv_aload_n hx hb d_E_symbolBehind_30 rfl (lv_at hl 2 rfl) ?_
    refine lv_aload_n hx hb d_E_symbolBehind_31 rfl (lv_at hl 2 rfl) ?_
    refine g_geti (v := (((sp_E_symbolOfZero c G0)).2 c 5)) E hH (gc_E hc) cl_E 5 (by decide) lf_E_28 (fun _ => rfl) (wr_k _ _ _ _ (by decide)) d_E_symbolBehind_32 ?_
    refine g_puti E hH (gc_E hc) cl_E ct_E 4 (by decide) lf_E_25 rfl (by decide +kernel) (fun _ _ => rfl) (Nat.le_of_ble_eq_true rfl) d_E_symbolBehind_35 (fun H locs hH => ?_)
    refine lv_aload_n hx hb d_E_symbolBehind_38 rfl (lv_at hl 2 rfl) ?_
    refine lv_iload_n hx hb d_E_symbolBehind_39 rfl (lv_at hl 1 rfl) ?_
    refine g_puti E hH (gc_E hc) cl_E ct_E 5 (by decide) lf_E_28 rfl (by decide +kernel) (fun _ _ => rfl) (Nat.le_of_ble_eq_true rfl) d_E_symbolBehind_40 (fun H locs hH => ?_)
    refine lv_iload_n hx hb d_E_symbolBehind_43 rfl (lv_at hl 0 rfl) ?_
    exact g_iret E hH (hsp.trans (by simp only [sp_E_symbolBehind, if_neg h1])) d_E_symbolBehind_44
  · refine lv_aload_n hx hb d_E_symbolBehind_5 rfl (lv_at hl 0 rfl) ?_
    refine g_callVi (As := []) E hH hl (c_E_pulseOfOne l P _ c hc) lm_E_31 (gc_E hc) cl_E (Nat.le_of_ble_eq_true rfl) (Nat.le_of_ble_eq_true rfl) (Nat.le_of_ble_eq_true rfl) (Nat.le_of_ble_eq_true rfl) (Nat.le_of_ble_eq_true rfl) rfl rfl rfl rfl d_E_symbolBehind_6 (fun H locs hH => ?_)
    refine lv_goto (tgt := 16) hx hb d_E_symbolBehind_9 (by decide) ?_
    refine lv_istore_n hx hb d_E_symbolBehind_16 rfl hl (by decide) rfl (fun ls hl => ?_)
    refine lv_aload_n hx hb d_E_symbolBehind_17 rfl (lv_at hl 1 rfl) ?_
    refine g_geti (v := (((sp_E_pulseOfOne c G0)).2 c 3)) E hH (gc_E hc) cl_E 3 (by decide) lf_E_22 (fun _ => rfl) rfl d_E_symbolBehind_18 ?_
    refine lv_istore_n hx hb d_E_symbolBehind_21 rfl hl (by decide) rfl (fun ls hl => ?_)
    refine lv_aload_n hx hb d_E_symbolBehind_22 rfl (lv_at hl 2 rfl) ?_
    refine lv_aload_n hx hb d_E_symbolBehind_23 rfl (lv_at hl 2 rfl) ?_
    refine g_geti (v := (((sp_E_pulseOfOne c G0)).2 c 4)) E hH (gc_E hc) cl_E 4 (by decide) lf_E_25 (fun _ => rfl) rfl d_E_symbolBehind_24 ?_
    refine g_puti E hH (gc_E hc) cl_E ct_E 3 (by decide) lf_E_22 rfl (by decide +kernel) (fun _ _ => rfl) (Nat.le_of_ble_eq_true rfl) d_E_symbolBehind_27 (fun H locs hH => ?_)
    refine lv_aload_n hx hb d_E_symbolBehind_30 rfl (lv_at hl 2 rfl) ?_
    refine lv_aload_n hx hb d_E_symbolBehind_31 rfl (lv_at hl 2 rfl) ?_
    refine g_geti (v := (((sp_E_pulseOfOne c G0)).2 c 5)) E hH (gc_E hc) cl_E 5 (by decide) lf_E_28 (fun _ => rfl) (wr_k _ _ _ _ (by decide)) d_E_symbolBehind_32 ?_
    refine g_puti E hH (gc_E hc) cl_E ct_E 4 (by decide) lf_E_25 rfl (by decide +kernel) (fun _ _ => rfl) (Nat.le_of_ble_eq_true rfl) d_E_symbolBehind_35 (fun H locs hH => ?_)
    refine lv_aload_n hx hb d_E_symbolBehind_38 rfl (lv_at hl 2 rfl) ?_
    refine lv_iload_n hx hb d_E_symbolBehind_39 rfl (lv_at hl 1 rfl) ?_
    refine g_puti E hH (gc_E hc) cl_E ct_E 5 (by decide) lf_E_28 rfl (by decide +kernel) (fun _ _ => rfl) (Nat.le_of_ble_eq_true rfl) d_E_symbolBehind_40 (fun H locs hH => ?_)
    refine lv_iload_n hx hb d_E_symbolBehind_43 rfl (lv_at hl 0 rfl) ?_
    exact g_iret E hH (hsp.trans (by simp only [sp_E_symbolBehind, if_pos h1])) d_E_symbolBehind_44
end
section
def sp_F_endsHalf  (G0 : Mem) (a1 : Int32) : Int32 :=
  ((if a1 = 7 then 1 else (if a1 = 15 then 1 else 0)) : Int32)
set_option maxHeartbeats 4000000 in
set_option maxRecDepth 100000 in
theorem c_F_endsHalf (l : Launch) (P : gP) (G0 : Mem)  (a1 : Int32)  : gMrz l y_F_endsHalf b_F_endsHalf 1 (some .boolean) ({ frames := 0, cells := 0, slots := 0, locals := 0 }) [.int a1] P G0 (sp_F_endsHalf G0 a1) := by
  refine Met.ofW (cc := b_F_endsHalf) (maxL := 1) (ret := (some .boolean)) (by decide) rfl ?_
  intro p e s m args below meth c0 s₁ B hml hv
  obtain ⟨rfl, hpre⟩ := hv
  obtain ⟨E, hH⟩ := gE_of B hml hpre
  replace E : gE p s m _ meth c0 P "FramedLine" b_F_endsHalf 1 (some .boolean) := E
  have hx := E.1
  have hb := E.2.1
  have hl := lv_entry ([.int a1]) (n := 1) (Nat.le_of_ble_eq_true rfl)
  rw [lg_entry_eq]
  generalize (lg_sl ([.int a1]) ++ List.replicate (1 - (lg_sl ([.int a1])).length) Slot.unset).toArray = ls at hl ⊢
  replace hl : lv_has ls 1 [(0, .int a1)] := hl
  have hsp : sp_F_endsHalf G0 a1 = sp_F_endsHalf G0 a1 := rfl
  refine lv_iload_n hx hb d_F_endsHalf_0 rfl (lv_at hl 0 rfl) ?_
  refine lv_bipush (v := 7) hx hb d_F_endsHalf_1 (by decide) ?_
  refine jn (α := Int32) (fun z H1 locs1 => z = ((if a1 = 7 then 1 else (if a1 = 15 then 1 else 0)) : Int32) ∧ isB z ∧ gH P s G0 H1 locs1) (fun z => F0 m 17 ls (.int z :: [])) (fun z H locs h9 => ?_) (fun hJ => ?_)
  · obtain ⟨rfl, hz17, hH⟩ := h9
    exact g_rzret E hH (hsp.trans (by rw [sp_F_endsHalf])) hz17 d_F_endsHalf_17
  · refine lv_icmp_eq (tgt := 12) hx hb d_F_endsHalf_3 (by decide) (fun h1 => ?_) (fun h1 => ?_)
    · refine lv_iconst (v := 1) hx hb d_F_endsHalf_12 (by decide) ?_
      refine lv_goto (tgt := 17) hx hb d_F_endsHalf_13 (by decide) ?_
      exact hJ _ _ _ ⟨by simp only [if_pos h1], isB_1, hH⟩
    · refine lv_iload_n hx hb d_F_endsHalf_6 rfl (lv_at hl 0 rfl) ?_
      refine lv_bipush (v := 15) hx hb d_F_endsHalf_7 (by decide) ?_
      refine lv_icmp_ne (tgt := 16) hx hb d_F_endsHalf_9 (by decide) (fun h2 => ?_) (fun h2 => ?_)
      · refine lv_iconst (v := 0) hx hb d_F_endsHalf_16 (by decide) ?_
        exact hJ _ _ _ ⟨by simp only [if_neg h1, if_neg h2], isB_0, hH⟩
      · refine lv_iconst (v := 1) hx hb d_F_endsHalf_12 (by decide) ?_
        refine lv_goto (tgt := 17) hx hb d_F_endsHalf_13 (by decide) ?_
        exact hJ _ _ _ ⟨by simp only [if_neg h1, if_pos h2], isB_1, hH⟩

def sp_F_checkOver_5 (a1 : Int32) (a2 : Int32) : Nat → Mem → Int32 → Int32 → Int32
 | 0, G0, x2, x3 => 0
  | d + 1, G0, x2, x3 =>
  (if x3 < 0 then x2 else (if (((iu a2 x3) &&& (1 : Int32)) ^^^ (x2 >>> ((3 : Int32) &&& 31))) = 1 then (sp_F_checkOver_5 a1 a2 d G0 (((x2 <<< ((1 : Int32) &&& 31)) &&& (15 : Int32)) ^^^ (3 : Int32)) (x3 + (-1))) else (sp_F_checkOver_5 a1 a2 d G0 ((x2 <<< ((1 : Int32) &&& 31)) &&& (15 : Int32)) (x3 + (-1)))))
def sp_F_checkOver  (G0 : Mem) (a1 : Int32) (a2 : Int32) : Int32 :=
  (sp_F_checkOver_5 a1 a2 33 G0 a1 31)
set_option maxHeartbeats 4000000 in
set_option maxRecDepth 100000 in
theorem c_F_checkOver (l : Launch) (P : gP) (G0 : Mem)  (a1 : Int32) (a2 : Int32)  : gMri l y_F_checkOver b_F_checkOver 5 (some .int) ({ frames := 0, cells := 0, slots := 0, locals := 0 }) [.int a1, .int a2] P G0 (sp_F_checkOver G0 a1 a2) := by
  refine Met.ofW (cc := b_F_checkOver) (maxL := 5) (ret := (some .int)) (by decide) rfl ?_
  intro p e s m args below meth c0 s₁ B hml hv
  obtain ⟨rfl, hpre⟩ := hv
  obtain ⟨E, hH⟩ := gE_of B hml hpre
  replace E : gE p s m _ meth c0 P "FramedLine" b_F_checkOver 5 (some .int) := E
  have hx := E.1
  have hb := E.2.1
  have hl := lv_entry ([.int a1, .int a2]) (n := 5) (Nat.le_of_ble_eq_true rfl)
  rw [lg_entry_eq]
  generalize (lg_sl ([.int a1, .int a2]) ++ List.replicate (5 - (lg_sl ([.int a1, .int a2])).length) Slot.unset).toArray = ls at hl ⊢
  replace hl : lv_has ls 5 [(0, .int a1), (1, .int a2)] := hl
  have hsp : sp_F_checkOver G0 a1 a2 = sp_F_checkOver G0 a1 a2 := rfl
  refine jl (α := Nat × Array Slot × Int32 × Int32) (fun q H1 locs1 => sp_F_checkOver G0 a1 a2 = sp_F_checkOver_5 a1 a2 q.1 G0 q.2.2.1 q.2.2.2 ∧ (q.2.2.2 = nI q.1 - 2 ∧ q.1 ≤ 33 ∧ 1 ≤ q.1) ∧ lv_has q.2.1 5 [(0, .int a1), (1, .int a2), (2, .int q.2.2.1), (3, .int q.2.2.2)] ∧ gH P s G0 H1 locs1) (fun q => F0 m 5 q.2.1 []) (fun q => q.1) (fun q H locs h9 ih5 => ?_) (fun hC5 => ?_)
  · clear hsp hl hH ls
    obtain ⟨n, ls, x2, x3⟩ := q
    obtain ⟨hsp, hinv, hl, hH⟩ := h9
    dsimp only at hinv
    obtain ⟨d, rfl⟩ : ∃ d, n = d + 1 := ⟨n - 1, by omega⟩
    change lv_has ls 5 [(0, .int a1), (1, .int a2), (2, .int x2), (3, .int x3)] at hl
    dsimp only at hsp hH ⊢
    refine lv_iload_n hx hb d_F_checkOver_5 rfl (lv_at hl 3 rfl) ?_
    refine lv_if_lt (tgt := 43) hx hb d_F_checkOver_6 (by decide) (fun h1 => ?_) (fun h1 => ?_)
    · refine lv_iload_n hx hb d_F_checkOver_43 rfl (lv_at hl 2 rfl) ?_
      exact g_riret E hH (hsp.trans (by simp only [sp_F_checkOver_5, if_pos h1])) d_F_checkOver_44
    · refine lv_iload_n hx hb d_F_checkOver_9 rfl (lv_at hl 1 rfl) ?_
      refine lv_iload_n hx hb d_F_checkOver_10 rfl (lv_at hl 3 rfl) ?_
      refine lv_iushr (v := (iu a2 x3)) hx hb d_F_checkOver_11 rfl ?_
      refine lv_iconst (v := 1) hx hb d_F_checkOver_12 (by decide) ?_
      refine lv_iand hx hb d_F_checkOver_13 ?_
      refine lv_iload_n hx hb d_F_checkOver_14 rfl (lv_at hl 2 rfl) ?_
      refine lv_iconst (v := 3) hx hb d_F_checkOver_15 (by decide) ?_
      refine lv_ishr hx hb d_F_checkOver_16 ?_
      refine lv_ixor hx hb d_F_checkOver_17 ?_
      refine lv_istore hx hb d_F_checkOver_18 hl (by decide) rfl (fun ls hl => ?_)
      refine lv_iload_n hx hb d_F_checkOver_20 rfl (lv_at hl 3 rfl) ?_
      refine lv_iconst (v := 1) hx hb d_F_checkOver_21 (by decide) ?_
      refine lv_ishl hx hb d_F_checkOver_22 ?_
      refine lv_bipush (v := 15) hx hb d_F_checkOver_23 (by decide) ?_
      refine lv_iand hx hb d_F_checkOver_25 ?_
      refine lv_istore_n hx hb d_F_checkOver_26 rfl hl (by decide) rfl (fun ls hl => ?_)
      refine lv_iload hx hb d_F_checkOver_27 (lv_at hl 1 rfl) ?_
      refine lv_iconst (v := 1) hx hb d_F_checkOver_29 (by decide) ?_
      refine lv_icmp_ne (tgt := 37) hx hb d_F_checkOver_30 (by decide) (fun h2 => ?_) (fun h2 => ?_)
      · refine lv_iinc (k := 4) (v := (x3 + (-1))) hx hb d_F_checkOver_37 hl rfl rfl (by decide) rfl (fun ls hl => ?_)
        refine lv_goto (tgt := 5) hx hb d_F_checkOver_40 (by decide) ?_
        exact ih5 (d, _, ((x2 <<< ((1 : Int32) &&& 31)) &&& (15 : Int32)), (x3 + (-1))) _ _ (Nat.lt_succ_self _) ⟨hsp.trans (by simp only [sp_F_checkOver_5, if_neg h1, if_neg h2]), (co_back hinv h1), lv_sub hl [3, 4, 1, 0] rfl, hH⟩
      · refine lv_iload_n hx hb d_F_checkOver_33 rfl (lv_at hl 0 rfl) ?_
        refine lv_iconst (v := 3) hx hb d_F_checkOver_34 (by decide) ?_
        refine lv_ixor hx hb d_F_checkOver_35 ?_
        refine lv_istore_n hx hb d_F_checkOver_36 rfl hl (by decide) rfl (fun ls hl => ?_)
        refine lv_iinc (k := 4) (v := (x3 + (-1))) hx hb d_F_checkOver_37 hl rfl rfl (by decide) rfl (fun ls hl => ?_)
        refine lv_goto (tgt := 5) hx hb d_F_checkOver_40 (by decide) ?_
        exact ih5 (d, _, (((x2 <<< ((1 : Int32) &&& 31)) &&& (15 : Int32)) ^^^ (3 : Int32)), (x3 + (-1))) _ _ (Nat.lt_succ_self _) ⟨hsp.trans (by simp only [sp_F_checkOver_5, if_neg h1, if_pos h2]), (co_back hinv h1), lv_sub hl [3, 4, 1, 0] rfl, hH⟩
  refine lv_iload_n hx hb d_F_checkOver_0 rfl (lv_at hl 0 rfl) ?_
  refine lv_istore_n hx hb d_F_checkOver_1 rfl hl (by decide) rfl (fun ls hl => ?_)
  refine lv_bipush (v := 31) hx hb d_F_checkOver_2 (by decide) ?_
  refine lv_istore_n hx hb d_F_checkOver_4 rfl hl (by decide) rfl (fun ls hl => ?_)
  exact hC5 (33, _, a1, 31) _ _ ⟨hsp.trans (by rw [sp_F_checkOver]), (by dsimp only; decide), lv_sub hl [2, 3, 1, 0] rfl, hH⟩

def sp_O_forgetNumber (c : Nat) (G0 : Mem)  : Mem :=
  (wr (wr (wr (wr (wr G0 c 0 (-1)) c 4 0) c 5 0) c 9 0) c 10 0)
set_option maxHeartbeats 4000000 in
set_option maxRecDepth 100000 in
theorem c_O_forgetNumber (l : Launch) (P : gP) (G0 : Mem) (c : Nat)  (hc : kO c) : gMv l y_O_forgetNumber b_O_forgetNumber 1 none ({ frames := 0, cells := 0, slots := 0, locals := 0 }) [.ref (gad P c)] P G0 (sp_O_forgetNumber c G0) := by
  refine Met.ofW (cc := b_O_forgetNumber) (maxL := 1) (ret := none) (by decide) rfl ?_
  intro p e s m args below meth c0 s₁ B hml hv
  obtain ⟨rfl, hpre⟩ := hv
  obtain ⟨E, hH⟩ := gE_of B hml hpre
  replace E : gE p s m _ meth c0 P "FramedLine$Rounds" b_O_forgetNumber 1 none := E
  have hcU := hc
  unfold kO at hcU
  have hx := E.1
  have hb := E.2.1
  have hl := lv_entry ([.ref (gad P c)]) (n := 1) (Nat.le_of_ble_eq_true rfl)
  rw [lg_entry_eq]
  generalize (lg_sl ([.ref (gad P c)]) ++ List.replicate (1 - (lg_sl ([.ref (gad P c)])).length) Slot.unset).toArray = ls at hl ⊢
  replace hl : lv_has ls 1 [(0, .ref (gad P c))] := hl
  have hsp : sp_O_forgetNumber c G0 = sp_O_forgetNumber c G0 := rfl
  refine lv_aload_n hx hb d_O_forgetNumber_0 rfl (lv_at hl 0 rfl) ?_
  refine lv_iconst (v := (-1)) hx hb d_O_forgetNumber_1 (by decide) ?_
  refine g_puti E hH (gc_O hc) cl_O ct_O 0 (by decide) lf_O_9 rfl (by decide +kernel) (fun _ _ => rfl) (Nat.le_of_ble_eq_true rfl) d_O_forgetNumber_2 (fun H locs hH => ?_)
  refine lv_aload_n hx hb d_O_forgetNumber_5 rfl (lv_at hl 0 rfl) ?_
  refine lv_iconst (v := 0) hx hb d_O_forgetNumber_6 (by decide) ?_
  refine g_putz E hH (gc_O hc) cl_O ct_O 4 (by decide) lf_O_24 rfl (by decide +kernel) (set_O4 _ _) isB_0 (Nat.le_of_ble_eq_true rfl) d_O_forgetNumber_7 (fun H locs hH => ?_)
  refine lv_aload_n hx hb d_O_forgetNumber_10 rfl (lv_at hl 0 rfl) ?_
  refine lv_iconst (v := 0) hx hb d_O_forgetNumber_11 (by decide) ?_
  refine g_putz E hH (gc_O hc) cl_O ct_O 5 (by decide) lf_O_28 rfl (by decide +kernel) (set_O5 _ _) isB_0 (Nat.le_of_ble_eq_true rfl) d_O_forgetNumber_12 (fun H locs hH => ?_)
  refine lv_aload_n hx hb d_O_forgetNumber_15 rfl (lv_at hl 0 rfl) ?_
  refine lv_iconst (v := 0) hx hb d_O_forgetNumber_16 (by decide) ?_
  refine g_putz E hH (gc_O hc) cl_O ct_O 9 (by decide) lf_O_40 rfl (by decide +kernel) (set_O9 _ _) isB_0 (Nat.le_of_ble_eq_true rfl) d_O_forgetNumber_17 (fun H locs hH => ?_)
  refine lv_aload_n hx hb d_O_forgetNumber_20 rfl (lv_at hl 0 rfl) ?_
  refine lv_iconst (v := 0) hx hb d_O_forgetNumber_21 (by decide) ?_
  refine g_putz E hH (gc_O hc) cl_O ct_O 10 (by decide) lf_O_43 rfl (by decide +kernel) (set_O10 _ _) isB_0 (Nat.le_of_ble_eq_true rfl) d_O_forgetNumber_22 (fun H locs hH => ?_)
  exact g_vret E hH (hsp.trans (by rw [sp_O_forgetNumber])) d_O_forgetNumber_25

def sp_O_startAnew (c : Nat) (G0 : Mem)  : Mem :=
  (wr (sp_O_forgetNumber c G0) c 1 0)
set_option maxHeartbeats 4000000 in
set_option maxRecDepth 100000 in
theorem c_O_startAnew (l : Launch) (P : gP) (G0 : Mem) (c : Nat)  (hc : kO c) : gMv l y_O_startAnew b_O_startAnew 1 none ({ frames := 1, cells := 0, slots := 0, locals := 20 }) [.ref (gad P c)] P G0 (sp_O_startAnew c G0) := by
  refine Met.ofW (cc := b_O_startAnew) (maxL := 1) (ret := none) (by decide) rfl ?_
  intro p e s m args below meth c0 s₁ B hml hv
  obtain ⟨rfl, hpre⟩ := hv
  obtain ⟨E, hH⟩ := gE_of B hml hpre
  replace E : gE p s m _ meth c0 P "FramedLine$Rounds" b_O_startAnew 1 none := E
  have hcU := hc
  unfold kO at hcU
  have hx := E.1
  have hb := E.2.1
  have hl := lv_entry ([.ref (gad P c)]) (n := 1) (Nat.le_of_ble_eq_true rfl)
  rw [lg_entry_eq]
  generalize (lg_sl ([.ref (gad P c)]) ++ List.replicate (1 - (lg_sl ([.ref (gad P c)])).length) Slot.unset).toArray = ls at hl ⊢
  replace hl : lv_has ls 1 [(0, .ref (gad P c))] := hl
  have hsp : sp_O_startAnew c G0 = sp_O_startAnew c G0 := rfl
  refine lv_aload_n hx hb d_O_startAnew_0 rfl (lv_at hl 0 rfl) ?_
  refine g_callVv (As := []) E hH hl (c_O_forgetNumber l P _ c hc) lm_O_52 (gc_O hc) cl_O (Nat.le_of_ble_eq_true rfl) (Nat.le_of_ble_eq_true rfl) (Nat.le_of_ble_eq_true rfl) (Nat.le_of_ble_eq_true rfl) (Nat.le_of_ble_eq_true rfl) rfl rfl rfl rfl d_O_startAnew_1 (fun H locs hH => ?_)
  refine lv_aload_n hx hb d_O_startAnew_4 rfl (lv_at hl 0 rfl) ?_
  refine lv_iconst (v := 0) hx hb d_O_startAnew_5 (by decide) ?_
  refine g_puti E hH (gc_O hc) cl_O ct_O 1 (by decide) lf_O_15 rfl (by decide +kernel) (fun _ _ => rfl) (Nat.le_of_ble_eq_true rfl) d_O_startAnew_6 (fun H locs hH => ?_)
  exact g_vret E hH (hsp.trans (by rw [sp_O_startAnew])) d_O_startAnew_9

def sp_O_judgeHalfBefore (c : Nat) (G0 : Mem)  : Mem :=
  (if ((if (G0 c 8) = (G0 c 7) then 0 else 1) : Int32) = 0 then (if (G0 c 0) = 15 then (wr G0 c 9 ((if (G0 c 8) = (G0 c 7) then 0 else 1) : Int32)) else (wr G0 c 10 ((if (G0 c 8) = (G0 c 7) then 0 else 1) : Int32))) else (if (G0 c 0) = 15 then (wr (wr G0 c 11 ((G0 c 11) + 1)) c 9 ((if (G0 c 8) = (G0 c 7) then 0 else 1) : Int32)) else (wr (wr G0 c 11 ((G0 c 11) + 1)) c 10 ((if (G0 c 8) = (G0 c 7) then 0 else 1) : Int32))))
set_option maxHeartbeats 4000000 in
set_option maxRecDepth 100000 in
theorem c_O_judgeHalfBefore (l : Launch) (P : gP) (G0 : Mem) (c : Nat)  (hc : kO c) : gMv l y_O_judgeHalfBefore b_O_judgeHalfBefore 2 none ({ frames := 0, cells := 0, slots := 0, locals := 0 }) [.ref (gad P c)] P G0 (sp_O_judgeHalfBefore c G0) := by
  refine Met.ofW (cc := b_O_judgeHalfBefore) (maxL := 2) (ret := none) (by decide) rfl ?_
  intro p e s m args below meth c0 s₁ B hml hv
  obtain ⟨rfl, hpre⟩ := hv
  obtain ⟨E, hH⟩ := gE_of B hml hpre
  replace E : gE p s m _ meth c0 P "FramedLine$Rounds" b_O_judgeHalfBefore 2 none := E
  have hcU := hc
  unfold kO at hcU
  have hx := E.1
  have hb := E.2.1
  have hl := lv_entry ([.ref (gad P c)]) (n := 2) (Nat.le_of_ble_eq_true rfl)
  rw [lg_entry_eq]
  generalize (lg_sl ([.ref (gad P c)]) ++ List.replicate (2 - (lg_sl ([.ref (gad P c)])).length) Slot.unset).toArray = ls at hl ⊢
  replace hl : lv_has ls 2 [(0, .ref (gad P c))] := hl
  have hsp : sp_O_judgeHalfBefore c G0 = sp_O_judgeHalfBefore c G0 := rfl
  refine lv_aload_n hx hb d_O_judgeHalfBefore_0 rfl (lv_at hl 0 rfl) ?_
  refine g_geti (v := (G0 c 8)) E hH (gc_O hc) cl_O 8 (by decide) lf_O_37 (fun _ => rfl) rfl d_O_judgeHalfBefore_1 ?_
  refine lv_aload_n hx hb d_O_judgeHalfBefore_4 rfl (lv_at hl 0 rfl) ?_
  refine g_geti (v := (G0 c 7)) E hH (gc_O hc) cl_O 7 (by decide) lf_O_34 (fun _ => rfl) rfl d_O_judgeHalfBefore_5 ?_
  refine jn (α := Int32) (fun z H1 locs1 => z = ((if (G0 c 8) = (G0 c 7) then 0 else 1) : Int32) ∧ isB z ∧ gH P s G0 H1 locs1) (fun z => F0 m 16 ls (.int z :: [])) (fun z H locs h9 => ?_) (fun hJ => ?_)
  · obtain ⟨rfl, hz16, hH⟩ := h9
    refine lv_istore_n hx hb d_O_judgeHalfBefore_16 rfl hl (by decide) rfl (fun ls hl => ?_)
    refine lv_iload_n hx hb d_O_judgeHalfBefore_17 rfl (lv_at hl 0 rfl) ?_
    refine lv_if_eq (tgt := 31) hx hb d_O_judgeHalfBefore_18 (by decide) (fun h1 => ?_) (fun h1 => ?_)
    · refine lv_aload_n hx hb d_O_judgeHalfBefore_31 rfl (lv_at hl 1 rfl) ?_
      refine g_geti (v := (G0 c 0)) E hH (gc_O hc) cl_O 0 (by decide) lf_O_9 (fun _ => rfl) rfl d_O_judgeHalfBefore_32 ?_
      refine lv_bipush (v := 15) hx hb d_O_judgeHalfBefore_35 (by decide) ?_
      refine lv_icmp_ne (tgt := 48) hx hb d_O_judgeHalfBefore_37 (by decide) (fun h2 => ?_) (fun h2 => ?_)
      · refine lv_aload_n hx hb d_O_judgeHalfBefore_48 rfl (lv_at hl 1 rfl) ?_
        refine lv_iload_n hx hb d_O_judgeHalfBefore_49 rfl (lv_at hl 0 rfl) ?_
        refine g_putz E hH (gc_O hc) cl_O ct_O 10 (by decide) lf_O_43 rfl (by decide +kernel) (set_O10 _ _) hz16 (Nat.le_of_ble_eq_true rfl) d_O_judgeHalfBefore_50 (fun H locs hH => ?_)
        exact g_vret E hH (hsp.trans (by simp only [sp_O_judgeHalfBefore, if_pos h1, if_neg h2])) d_O_judgeHalfBefore_53
      · refine lv_aload_n hx hb d_O_judgeHalfBefore_40 rfl (lv_at hl 1 rfl) ?_
        refine lv_iload_n hx hb d_O_judgeHalfBefore_41 rfl (lv_at hl 0 rfl) ?_
        refine g_putz E hH (gc_O hc) cl_O ct_O 9 (by decide) lf_O_40 rfl (by decide +kernel) (set_O9 _ _) hz16 (Nat.le_of_ble_eq_true rfl) d_O_judgeHalfBefore_42 (fun H locs hH => ?_)
        refine lv_goto (tgt := 53) hx hb d_O_judgeHalfBefore_45 (by decide) ?_
        exact g_vret E hH (hsp.trans (by simp only [sp_O_judgeHalfBefore, if_pos h1, if_pos h2])) d_O_judgeHalfBefore_53
    · refine lv_aload_n hx hb d_O_judgeHalfBefore_21 rfl (lv_at hl 1 rfl) ?_
      refine lv_dup hx hb d_O_judgeHalfBefore_22 rfl ?_
      refine g_geti (v := (G0 c 11)) E hH (gc_O hc) cl_O 11 (by decide) lf_O_46 (fun _ => rfl) rfl d_O_judgeHalfBefore_23 ?_
      refine lv_iconst (v := 1) hx hb d_O_judgeHalfBefore_26 (by decide) ?_
      refine lv_iadd hx hb d_O_judgeHalfBefore_27 ?_
      refine g_puti E hH (gc_O hc) cl_O ct_O 11 (by decide) lf_O_46 rfl (by decide +kernel) (fun _ _ => rfl) (Nat.le_of_ble_eq_true rfl) d_O_judgeHalfBefore_28 (fun H locs hH => ?_)
      refine lv_aload_n hx hb d_O_judgeHalfBefore_31 rfl (lv_at hl 1 rfl) ?_
      refine g_geti (v := (G0 c 0)) E hH (gc_O hc) cl_O 0 (by decide) lf_O_9 (fun _ => rfl) (wr_k _ _ _ _ (by decide)) d_O_judgeHalfBefore_32 ?_
      refine lv_bipush (v := 15) hx hb d_O_judgeHalfBefore_35 (by decide) ?_
      refine lv_icmp_ne (tgt := 48) hx hb d_O_judgeHalfBefore_37 (by decide) (fun h3 => ?_) (fun h3 => ?_)
      · refine lv_aload_n hx hb d_O_judgeHalfBefore_48 rfl (lv_at hl 1 rfl) ?_
        refine lv_iload_n hx hb d_O_judgeHalfBefore_49 rfl (lv_at hl 0 rfl) ?_
        refine g_putz E hH (gc_O hc) cl_O ct_O 10 (by decide) lf_O_43 rfl (by decide +kernel) (set_O10 _ _) hz16 (Nat.le_of_ble_eq_true rfl) d_O_judgeHalfBefore_50 (fun H locs hH => ?_)
        exact g_vret E hH (hsp.trans (by simp only [sp_O_judgeHalfBefore, if_neg h1, if_neg h3])) d_O_judgeHalfBefore_53
      · refine lv_aload_n hx hb d_O_judgeHalfBefore_40 rfl (lv_at hl 1 rfl) ?_
        refine lv_iload_n hx hb d_O_judgeHalfBefore_41 rfl (lv_at hl 0 rfl) ?_
        refine g_putz E hH (gc_O hc) cl_O ct_O 9 (by decide) lf_O_40 rfl (by decide +kernel) (set_O9 _ _) hz16 (Nat.le_of_ble_eq_true rfl) d_O_judgeHalfBefore_42 (fun H locs hH => ?_)
        refine lv_goto (tgt := 53) hx hb d_O_judgeHalfBefore_45 (by decide) ?_
        exact g_vret E hH (hsp.trans (by simp only [sp_O_judgeHalfBefore, if_neg h1, if_pos h3])) d_O_judgeHalfBefore_53
  · refine lv_icmp_eq (tgt := 15) hx hb d_O_judgeHalfBefore_8 (by decide) (fun h4 => ?_) (fun h4 => ?_)
    · refine lv_iconst (v := 0) hx hb d_O_judgeHalfBefore_15 (by decide) ?_
      exact hJ _ _ _ ⟨by simp only [if_pos h4], isB_0, hH⟩
    · refine lv_iconst (v := 1) hx hb d_O_judgeHalfBefore_11 (by decide) ?_
      refine lv_goto (tgt := 16) hx hb d_O_judgeHalfBefore_12 (by decide) ?_
      exact hJ _ _ _ ⟨by simp only [if_neg h4], isB_1, hH⟩

def sp_O_endHalf (c : Nat) (G0 : Mem)  : Mem :=
  (if (zb (G0 c 5)) = 0 then (wr (wr (wr (wr G0 c 5 (zb (G0 c 4))) c 7 (G0 c 6)) c 4 1) c 6 0) else (wr (wr (wr (wr (sp_O_judgeHalfBefore c G0) c 5 (zb ((sp_O_judgeHalfBefore c G0) c 4))) c 7 ((sp_O_judgeHalfBefore c G0) c 6)) c 4 1) c 6 0))
set_option maxHeartbeats 4000000 in
set_option maxRecDepth 100000 in
theorem c_O_endHalf (l : Launch) (P : gP) (G0 : Mem) (c : Nat)  (hc : kO c) : gMv l y_O_endHalf b_O_endHalf 1 none ({ frames := 1, cells := 0, slots := 0, locals := 21 }) [.ref (gad P c)] P G0 (sp_O_endHalf c G0) := by
  refine Met.ofW (cc := b_O_endHalf) (maxL := 1) (ret := none) (by decide) rfl ?_
  intro p e s m args below meth c0 s₁ B hml hv
  obtain ⟨rfl, hpre⟩ := hv
  obtain ⟨E, hH⟩ := gE_of B hml hpre
  replace E : gE p s m _ meth c0 P "FramedLine$Rounds" b_O_endHalf 1 none := E
  have hcU := hc
  unfold kO at hcU
  have hx := E.1
  have hb := E.2.1
  have hl := lv_entry ([.ref (gad P c)]) (n := 1) (Nat.le_of_ble_eq_true rfl)
  rw [lg_entry_eq]
  generalize (lg_sl ([.ref (gad P c)]) ++ List.replicate (1 - (lg_sl ([.ref (gad P c)])).length) Slot.unset).toArray = ls at hl ⊢
  replace hl : lv_has ls 1 [(0, .ref (gad P c))] := hl
  have hsp : sp_O_endHalf c G0 = sp_O_endHalf c G0 := rfl
  refine lv_aload_n hx hb d_O_endHalf_0 rfl (lv_at hl 0 rfl) ?_
  refine g_getz (v := (G0 c 5)) E hH (gc_O hc) cl_O 5 (by decide) lf_O_28 (fun _ => rfl) rfl d_O_endHalf_1 ?_
  refine lv_if_eq (tgt := 11) hx hb d_O_endHalf_4 (by decide) (fun h1 => ?_) (fun h1 => ?_)
  · refine lv_aload_n hx hb d_O_endHalf_11 rfl (lv_at hl 0 rfl) ?_
    refine lv_aload_n hx hb d_O_endHalf_12 rfl (lv_at hl 0 rfl) ?_
    refine g_getz (v := (G0 c 4)) E hH (gc_O hc) cl_O 4 (by decide) lf_O_24 (fun _ => rfl) rfl d_O_endHalf_13 ?_
    refine g_putz E hH (gc_O hc) cl_O ct_O 5 (by decide) lf_O_28 rfl (by decide +kernel) (set_O5 _ _) (isB_zb _) (Nat.le_of_ble_eq_true rfl) d_O_endHalf_16 (fun H locs hH => ?_)
    refine lv_aload_n hx hb d_O_endHalf_19 rfl (lv_at hl 0 rfl) ?_
    refine lv_aload_n hx hb d_O_endHalf_20 rfl (lv_at hl 0 rfl) ?_
    refine g_geti (v := (G0 c 6)) E hH (gc_O hc) cl_O 6 (by decide) lf_O_31 (fun _ => rfl) (wr_k _ _ _ _ (by decide)) d_O_endHalf_21 ?_
    refine g_puti E hH (gc_O hc) cl_O ct_O 7 (by decide) lf_O_34 rfl (by decide +kernel) (fun _ _ => rfl) (Nat.le_of_ble_eq_true rfl) d_O_endHalf_24 (fun H locs hH => ?_)
    refine lv_aload_n hx hb d_O_endHalf_27 rfl (lv_at hl 0 rfl) ?_
    refine lv_iconst (v := 1) hx hb d_O_endHalf_28 (by decide) ?_
    refine g_putz E hH (gc_O hc) cl_O ct_O 4 (by decide) lf_O_24 rfl (by decide +kernel) (set_O4 _ _) isB_1 (Nat.le_of_ble_eq_true rfl) d_O_endHalf_29 (fun H locs hH => ?_)
    refine lv_aload_n hx hb d_O_endHalf_32 rfl (lv_at hl 0 rfl) ?_
    refine lv_iconst (v := 0) hx hb d_O_endHalf_33 (by decide) ?_
    refine g_puti E hH (gc_O hc) cl_O ct_O 6 (by decide) lf_O_31 rfl (by decide +kernel) (fun _ _ => rfl) (Nat.le_of_ble_eq_true rfl) d_O_endHalf_34 (fun H locs hH => ?_)
    exact g_vret E hH (hsp.trans (by simp only [sp_O_endHalf, if_pos h1])) d_O_endHalf_37
  · refine lv_aload_n hx hb d_O_endHalf_7 rfl (lv_at hl 0 rfl) ?_
    refine g_callVv (As := []) E hH hl (c_O_judgeHalfBefore l P _ c hc) lm_O_74 (gc_O hc) cl_O (Nat.le_of_ble_eq_true rfl) (Nat.le_of_ble_eq_true rfl) (Nat.le_of_ble_eq_true rfl) (Nat.le_of_ble_eq_true rfl) (Nat.le_of_ble_eq_true rfl) rfl rfl rfl rfl d_O_endHalf_8 (fun H locs hH => ?_)
    refine lv_aload_n hx hb d_O_endHalf_11 rfl (lv_at hl 0 rfl) ?_
    refine lv_aload_n hx hb d_O_endHalf_12 rfl (lv_at hl 0 rfl) ?_
    refine g_getz (v := ((sp_O_judgeHalfBefore c G0) c 4)) E hH (gc_O hc) cl_O 4 (by decide) lf_O_24 (fun _ => rfl) rfl d_O_endHalf_13 ?_
    refine g_putz E hH (gc_O hc) cl_O ct_O 5 (by decide) lf_O_28 rfl (by decide +kernel) (set_O5 _ _) (isB_zb _) (Nat.le_of_ble_eq_true rfl) d_O_endHalf_16 (fun H locs hH => ?_)
    refine lv_aload_n hx hb d_O_endHalf_19 rfl (lv_at hl 0 rfl) ?_
    refine lv_aload_n hx hb d_O_endHalf_20 rfl (lv_at hl 0 rfl) ?_
    refine g_geti (v := ((sp_O_judgeHalfBefore c G0) c 6)) E hH (gc_O hc) cl_O 6 (by decide) lf_O_31 (fun _ => rfl) (wr_k _ _ _ _ (by decide)) d_O_endHalf_21 ?_
    refine g_puti E hH (gc_O hc) cl_O ct_O 7 (by decide) lf_O_34 rfl (by decide +kernel) (fun _ _ => rfl) (Nat.le_of_ble_eq_true rfl) d_O_endHalf_24 (fun H locs hH => ?_)
    refine lv_aload_n hx hb d_O_endHalf_27 rfl (lv_at hl 0 rfl) ?_
    refine lv_iconst (v := 1) hx hb d_O_endHalf_28 (by decide) ?_
    refine g_putz E hH (gc_O hc) cl_O ct_O 4 (by decide) lf_O_24 rfl (by decide +kernel) (set_O4 _ _) isB_1 (Nat.le_of_ble_eq_true rfl) d_O_endHalf_29 (fun H locs hH => ?_)
    refine lv_aload_n hx hb d_O_endHalf_32 rfl (lv_at hl 0 rfl) ?_
    refine lv_iconst (v := 0) hx hb d_O_endHalf_33 (by decide) ?_
    refine g_puti E hH (gc_O hc) cl_O ct_O 6 (by decide) lf_O_31 rfl (by decide +kernel) (fun _ _ => rfl) (Nat.le_of_ble_eq_true rfl) d_O_endHalf_34 (fun H locs hH => ?_)
    exact g_vret E hH (hsp.trans (by simp only [sp_O_endHalf, if_neg h1])) d_O_endHalf_37

def sp_O_judgeRoundWord (c : Nat) (G0 : Mem)  : Mem :=
  (if ((if (G0 c 2) = 11 then 0 else ((G0 c 3) + 1)) : Int32) = 2 then (sp_O_forgetNumber c (wr G0 c 3 ((if (G0 c 2) = 11 then 0 else ((G0 c 3) + 1)) : Int32))) else (wr G0 c 3 ((if (G0 c 2) = 11 then 0 else ((G0 c 3) + 1)) : Int32)))
set_option maxHeartbeats 4000000 in
set_option maxRecDepth 100000 in
theorem c_O_judgeRoundWord (l : Launch) (P : gP) (G0 : Mem) (c : Nat)  (hc : kO c) : gMv l y_O_judgeRoundWord b_O_judgeRoundWord 1 none ({ frames := 1, cells := 0, slots := 0, locals := 20 }) [.ref (gad P c)] P G0 (sp_O_judgeRoundWord c G0) := by
  refine Met.ofW (cc := b_O_judgeRoundWord) (maxL := 1) (ret := none) (by decide) rfl ?_
  intro p e s m args below meth c0 s₁ B hml hv
  obtain ⟨rfl, hpre⟩ := hv
  obtain ⟨E, hH⟩ := gE_of B hml hpre
  replace E : gE p s m _ meth c0 P "FramedLine$Rounds" b_O_judgeRoundWord 1 none := E
  have hcU := hc
  unfold kO at hcU
  have hx := E.1
  have hb := E.2.1
  have hl := lv_entry ([.ref (gad P c)]) (n := 1) (Nat.le_of_ble_eq_true rfl)
  rw [lg_entry_eq]
  generalize (lg_sl ([.ref (gad P c)]) ++ List.replicate (1 - (lg_sl ([.ref (gad P c)])).length) Slot.unset).toArray = ls at hl ⊢
  replace hl : lv_has ls 1 [(0, .ref (gad P c))] := hl
  have hsp : sp_O_judgeRoundWord c G0 = sp_O_judgeRoundWord c G0 := rfl
  refine lv_aload_n hx hb d_O_judgeRoundWord_0 rfl (lv_at hl 0 rfl) ?_
  refine lv_aload_n hx hb d_O_judgeRoundWord_1 rfl (lv_at hl 0 rfl) ?_
  refine g_geti (v := (G0 c 2)) E hH (gc_O hc) cl_O 2 (by decide) lf_O_18 (fun _ => rfl) rfl d_O_judgeRoundWord_2 ?_
  refine lv_bipush (v := 11) hx hb d_O_judgeRoundWord_5 (by decide) ?_
  refine jn (α := Int32) (fun z H1 locs1 => z = ((if (G0 c 2) = 11 then 0 else ((G0 c 3) + 1)) : Int32) ∧ gH P s G0 H1 locs1) (fun z => F0 m 20 ls (.int z :: .ref (gad P c) :: [])) (fun z H locs h9 => ?_) (fun hJ => ?_)
  · obtain ⟨rfl, hH⟩ := h9
    refine g_puti E hH (gc_O hc) cl_O ct_O 3 (by decide) lf_O_21 rfl (by decide +kernel) (fun _ _ => rfl) (Nat.le_of_ble_eq_true rfl) d_O_judgeRoundWord_20 (fun H locs hH => ?_)
    refine lv_aload_n hx hb d_O_judgeRoundWord_23 rfl (lv_at hl 0 rfl) ?_
    refine g_geti (v := ((if (G0 c 2) = 11 then 0 else ((G0 c 3) + 1)) : Int32)) E hH (gc_O hc) cl_O 3 (by decide) lf_O_21 (fun _ => rfl) (wr_same _ _ _ _) d_O_judgeRoundWord_24 ?_
    refine lv_iconst (v := 2) hx hb d_O_judgeRoundWord_27 (by decide) ?_
    refine lv_icmp_ne (tgt := 35) hx hb d_O_judgeRoundWord_28 (by decide) (fun h1 => ?_) (fun h1 => ?_)
    · exact g_vret E hH (hsp.trans (by simp only [sp_O_judgeRoundWord, if_neg h1])) d_O_judgeRoundWord_35
    · refine lv_aload_n hx hb d_O_judgeRoundWord_31 rfl (lv_at hl 0 rfl) ?_
      refine g_callVv (As := []) E hH hl (c_O_forgetNumber l P _ c hc) lm_O_52 (gc_O hc) cl_O (Nat.le_of_ble_eq_true rfl) (Nat.le_of_ble_eq_true rfl) (Nat.le_of_ble_eq_true rfl) (Nat.le_of_ble_eq_true rfl) (Nat.le_of_ble_eq_true rfl) rfl rfl rfl rfl d_O_judgeRoundWord_32 (fun H locs hH => ?_)
      exact g_vret E hH (hsp.trans (by simp only [sp_O_judgeRoundWord, if_pos h1])) d_O_judgeRoundWord_35
  · refine lv_icmp_ne (tgt := 14) hx hb d_O_judgeRoundWord_7 (by decide) (fun h2 => ?_) (fun h2 => ?_)
    · refine lv_aload_n hx hb d_O_judgeRoundWord_14 rfl (lv_at hl 0 rfl) ?_
      refine g_geti (v := (G0 c 3)) E hH (gc_O hc) cl_O 3 (by decide) lf_O_21 (fun _ => rfl) rfl d_O_judgeRoundWord_15 ?_
      refine lv_iconst (v := 1) hx hb d_O_judgeRoundWord_18 (by decide) ?_
      refine lv_iadd hx hb d_O_judgeRoundWord_19 ?_
      exact hJ _ _ _ ⟨by simp only [if_neg h2], hH⟩
    · refine lv_iconst (v := 0) hx hb d_O_judgeRoundWord_10 (by decide) ?_
      refine lv_goto (tgt := 20) hx hb d_O_judgeRoundWord_11 (by decide) ?_
      exact hJ _ _ _ ⟨by simp only [if_pos h2], hH⟩

def sp_O_findNumber (c : Nat) (G0 : Mem) (a1 : Int32) : Mem :=
  (if a1 = 0 then G0 else (if (G0 c 1) < 6 then G0 else (if (G0 c 2) = 11 then (wr (wr G0 c 0 11) c 3 0) else G0)))
set_option maxHeartbeats 4000000 in
set_option maxRecDepth 100000 in
theorem c_O_findNumber (l : Launch) (P : gP) (G0 : Mem) (c : Nat) (a1 : Int32) (hc : kO c) : gMv l y_O_findNumber b_O_findNumber 2 none ({ frames := 0, cells := 0, slots := 0, locals := 0 }) [.ref (gad P c), .int a1] P G0 (sp_O_findNumber c G0 a1) := by
  refine Met.ofW (cc := b_O_findNumber) (maxL := 2) (ret := none) (by decide) rfl ?_
  intro p e s m args below meth c0 s₁ B hml hv
  obtain ⟨rfl, hpre⟩ := hv
  obtain ⟨E, hH⟩ := gE_of B hml hpre
  replace E : gE p s m _ meth c0 P "FramedLine$Rounds" b_O_findNumber 2 none := E
  have hcU := hc
  unfold kO at hcU
  have hx := E.1
  have hb := E.2.1
  have hl := lv_entry ([.ref (gad P c), .int a1]) (n := 2) (Nat.le_of_ble_eq_true rfl)
  rw [lg_entry_eq]
  generalize (lg_sl ([.ref (gad P c), .int a1]) ++ List.replicate (2 - (lg_sl ([.ref (gad P c), .int a1])).length) Slot.unset).toArray = ls at hl ⊢
  replace hl : lv_has ls 2 [(0, .ref (gad P c)), (1, .int a1)] := hl
  have hsp : sp_O_findNumber c G0 a1 = sp_O_findNumber c G0 a1 := rfl
  refine lv_iload_n hx hb d_O_findNumber_0 rfl (lv_at hl 1 rfl) ?_
  refine lv_if_eq (tgt := 33) hx hb d_O_findNumber_1 (by decide) (fun h1 => ?_) (fun h1 => ?_)
  · exact g_vret E hH (hsp.trans (by simp only [sp_O_findNumber, if_pos h1])) d_O_findNumber_33
  · refine lv_aload_n hx hb d_O_findNumber_4 rfl (lv_at hl 0 rfl) ?_
    refine g_geti (v := (G0 c 1)) E hH (gc_O hc) cl_O 1 (by decide) lf_O_15 (fun _ => rfl) rfl d_O_findNumber_5 ?_
    refine lv_bipush (v := 6) hx hb d_O_findNumber_8 (by decide) ?_
    refine lv_icmp_lt (tgt := 33) hx hb d_O_findNumber_10 (by decide) (fun h2 => ?_) (fun h2 => ?_)
    · exact g_vret E hH (hsp.trans (by simp only [sp_O_findNumber, if_neg h1, if_pos h2])) d_O_findNumber_33
    · refine lv_aload_n hx hb d_O_findNumber_13 rfl (lv_at hl 0 rfl) ?_
      refine g_geti (v := (G0 c 2)) E hH (gc_O hc) cl_O 2 (by decide) lf_O_18 (fun _ => rfl) rfl d_O_findNumber_14 ?_
      refine lv_bipush (v := 11) hx hb d_O_findNumber_17 (by decide) ?_
      refine lv_icmp_ne (tgt := 33) hx hb d_O_findNumber_19 (by decide) (fun h3 => ?_) (fun h3 => ?_)
      · exact g_vret E hH (hsp.trans (by simp only [sp_O_findNumber, if_neg h1, if_neg h2, if_neg h3])) d_O_findNumber_33
      · refine lv_aload_n hx hb d_O_findNumber_22 rfl (lv_at hl 0 rfl) ?_
        refine lv_bipush (v := 11) hx hb d_O_findNumber_23 (by decide) ?_
        refine g_puti E hH (gc_O hc) cl_O ct_O 0 (by decide) lf_O_9 rfl (by decide +kernel) (fun _ _ => rfl) (Nat.le_of_ble_eq_true rfl) d_O_findNumber_25 (fun H locs hH => ?_)
        refine lv_aload_n hx hb d_O_findNumber_28 rfl (lv_at hl 0 rfl) ?_
        refine lv_iconst (v := 0) hx hb d_O_findNumber_29 (by decide) ?_
        refine g_puti E hH (gc_O hc) cl_O ct_O 3 (by decide) lf_O_21 rfl (by decide +kernel) (fun _ _ => rfl) (Nat.le_of_ble_eq_true rfl) d_O_findNumber_30 (fun H locs hH => ?_)
        exact g_vret E hH (hsp.trans (by simp only [sp_O_findNumber, if_neg h1, if_neg h2, if_pos h3])) d_O_findNumber_33

def sp_O_takeFrame (c : Nat) (G0 : Mem) (a1 : Int32) (a2 : Int32) : Mem :=
  (if a2 = 0 then (if (G0 c 0) = (-1) then (sp_O_findNumber c (wr G0 c 8 ((((G0 c 8) <<< ((1 : Int32) &&& 31)) ||| (iu a1 31)) &&& (15 : Int32))) a2) else (if (((G0 c 0) + 1) &&& (15 : Int32)) = 11 then (if ((sp_F_endsHalf (sp_O_judgeRoundWord c (wr (wr (wr G0 c 8 ((((G0 c 8) <<< ((1 : Int32) &&& 31)) ||| (iu a1 31)) &&& (15 : Int32))) c 0 (((G0 c 0) + 1) &&& (15 : Int32))) c 6 ((sp_F_checkOver (wr (wr G0 c 8 ((((G0 c 8) <<< ((1 : Int32) &&& 31)) ||| (iu a1 31)) &&& (15 : Int32))) c 0 (((G0 c 0) + 1) &&& (15 : Int32))) (G0 c 6) (a1 &&& (2147483647 : Int32)))))) ((sp_O_judgeRoundWord c (wr (wr (wr G0 c 8 ((((G0 c 8) <<< ((1 : Int32) &&& 31)) ||| (iu a1 31)) &&& (15 : Int32))) c 0 (((G0 c 0) + 1) &&& (15 : Int32))) c 6 ((sp_F_checkOver (wr (wr G0 c 8 ((((G0 c 8) <<< ((1 : Int32) &&& 31)) ||| (iu a1 31)) &&& (15 : Int32))) c 0 (((G0 c 0) + 1) &&& (15 : Int32))) (G0 c 6) (a1 &&& (2147483647 : Int32)))))) c 0))) = 0 then (sp_O_judgeRoundWord c (wr (wr (wr G0 c 8 ((((G0 c 8) <<< ((1 : Int32) &&& 31)) ||| (iu a1 31)) &&& (15 : Int32))) c 0 (((G0 c 0) + 1) &&& (15 : Int32))) c 6 ((sp_F_checkOver (wr (wr G0 c 8 ((((G0 c 8) <<< ((1 : Int32) &&& 31)) ||| (iu a1 31)) &&& (15 : Int32))) c 0 (((G0 c 0) + 1) &&& (15 : Int32))) (G0 c 6) (a1 &&& (2147483647 : Int32)))))) else (sp_O_endHalf c (sp_O_judgeRoundWord c (wr (wr (wr G0 c 8 ((((G0 c 8) <<< ((1 : Int32) &&& 31)) ||| (iu a1 31)) &&& (15 : Int32))) c 0 (((G0 c 0) + 1) &&& (15 : Int32))) c 6 ((sp_F_checkOver (wr (wr G0 c 8 ((((G0 c 8) <<< ((1 : Int32) &&& 31)) ||| (iu a1 31)) &&& (15 : Int32))) c 0 (((G0 c 0) + 1) &&& (15 : Int32))) (G0 c 6) (a1 &&& (2147483647 : Int32)))))))) else (if (iu a1 31) = 0 then (if (((G0 c 0) + 1) &&& (15 : Int32)) = 13 then (if ((sp_F_endsHalf (wr (wr (wr (wr G0 c 8 ((((G0 c 8) <<< ((1 : Int32) &&& 31)) ||| (iu a1 31)) &&& (15 : Int32))) c 0 (((G0 c 0) + 1) &&& (15 : Int32))) c 6 ((sp_F_checkOver (wr (wr G0 c 8 ((((G0 c 8) <<< ((1 : Int32) &&& 31)) ||| (iu a1 31)) &&& (15 : Int32))) c 0 (((G0 c 0) + 1) &&& (15 : Int32))) (G0 c 6) (a1 &&& (2147483647 : Int32))))) c 12 ((G0 c 12) + 1)) (((G0 c 0) + 1) &&& (15 : Int32)))) = 0 then (wr (wr (wr (wr G0 c 8 ((((G0 c 8) <<< ((1 : Int32) &&& 31)) ||| (iu a1 31)) &&& (15 : Int32))) c 0 (((G0 c 0) + 1) &&& (15 : Int32))) c 6 ((sp_F_checkOver (wr (wr G0 c 8 ((((G0 c 8) <<< ((1 : Int32) &&& 31)) ||| (iu a1 31)) &&& (15 : Int32))) c 0 (((G0 c 0) + 1) &&& (15 : Int32))) (G0 c 6) (a1 &&& (2147483647 : Int32))))) c 12 ((G0 c 12) + 1)) else (sp_O_endHalf c (wr (wr (wr (wr G0 c 8 ((((G0 c 8) <<< ((1 : Int32) &&& 31)) ||| (iu a1 31)) &&& (15 : Int32))) c 0 (((G0 c 0) + 1) &&& (15 : Int32))) c 6 ((sp_F_checkOver (wr (wr G0 c 8 ((((G0 c 8) <<< ((1 : Int32) &&& 31)) ||| (iu a1 31)) &&& (15 : Int32))) c 0 (((G0 c 0) + 1) &&& (15 : Int32))) (G0 c 6) (a1 &&& (2147483647 : Int32))))) c 12 ((G0 c 12) + 1)))) else (if (((G0 c 0) + 1) &&& (15 : Int32)) = 15 then (if ((sp_F_endsHalf (wr (wr (wr (wr G0 c 8 ((((G0 c 8) <<< ((1 : Int32) &&& 31)) ||| (iu a1 31)) &&& (15 : Int32))) c 0 (((G0 c 0) + 1) &&& (15 : Int32))) c 6 ((sp_F_checkOver (wr (wr G0 c 8 ((((G0 c 8) <<< ((1 : Int32) &&& 31)) ||| (iu a1 31)) &&& (15 : Int32))) c 0 (((G0 c 0) + 1) &&& (15 : Int32))) (G0 c 6) (a1 &&& (2147483647 : Int32))))) c 12 ((G0 c 12) + 1)) (((G0 c 0) + 1) &&& (15 : Int32)))) = 0 then (wr (wr (wr (wr G0 c 8 ((((G0 c 8) <<< ((1 : Int32) &&& 31)) ||| (iu a1 31)) &&& (15 : Int32))) c 0 (((G0 c 0) + 1) &&& (15 : Int32))) c 6 ((sp_F_checkOver (wr (wr G0 c 8 ((((G0 c 8) <<< ((1 : Int32) &&& 31)) ||| (iu a1 31)) &&& (15 : Int32))) c 0 (((G0 c 0) + 1) &&& (15 : Int32))) (G0 c 6) (a1 &&& (2147483647 : Int32))))) c 12 ((G0 c 12) + 1)) else (sp_O_endHalf c (wr (wr (wr (wr G0 c 8 ((((G0 c 8) <<< ((1 : Int32) &&& 31)) ||| (iu a1 31)) &&& (15 : Int32))) c 0 (((G0 c 0) + 1) &&& (15 : Int32))) c 6 ((sp_F_checkOver (wr (wr G0 c 8 ((((G0 c 8) <<< ((1 : Int32) &&& 31)) ||| (iu a1 31)) &&& (15 : Int32))) c 0 (((G0 c 0) + 1) &&& (15 : Int32))) (G0 c 6) (a1 &&& (2147483647 : Int32))))) c 12 ((G0 c 12) + 1)))) else (if ((sp_F_endsHalf (wr (wr (wr G0 c 8 ((((G0 c 8) <<< ((1 : Int32) &&& 31)) ||| (iu a1 31)) &&& (15 : Int32))) c 0 (((G0 c 0) + 1) &&& (15 : Int32))) c 6 ((sp_F_checkOver (wr (wr G0 c 8 ((((G0 c 8) <<< ((1 : Int32) &&& 31)) ||| (iu a1 31)) &&& (15 : Int32))) c 0 (((G0 c 0) + 1) &&& (15 : Int32))) (G0 c 6) (a1 &&& (2147483647 : Int32))))) (((G0 c 0) + 1) &&& (15 : Int32)))) = 0 then (wr (wr (wr G0 c 8 ((((G0 c 8) <<< ((1 : Int32) &&& 31)) ||| (iu a1 31)) &&& (15 : Int32))) c 0 (((G0 c 0) + 1) &&& (15 : Int32))) c 6 ((sp_F_checkOver (wr (wr G0 c 8 ((((G0 c 8) <<< ((1 : Int32) &&& 31)) ||| (iu a1 31)) &&& (15 : Int32))) c 0 (((G0 c 0) + 1) &&& (15 : Int32))) (G0 c 6) (a1 &&& (2147483647 : Int32))))) else (sp_O_endHalf c (wr (wr (wr G0 c 8 ((((G0 c 8) <<< ((1 : Int32) &&& 31)) ||| (iu a1 31)) &&& (15 : Int32))) c 0 (((G0 c 0) + 1) &&& (15 : Int32))) c 6 ((sp_F_checkOver (wr (wr G0 c 8 ((((G0 c 8) <<< ((1 : Int32) &&& 31)) ||| (iu a1 31)) &&& (15 : Int32))) c 0 (((G0 c 0) + 1) &&& (15 : Int32))) (G0 c 6) (a1 &&& (2147483647 : Int32))))))))) else (if ((sp_F_endsHalf (wr (wr (wr G0 c 8 ((((G0 c 8) <<< ((1 : Int32) &&& 31)) ||| (iu a1 31)) &&& (15 : Int32))) c 0 (((G0 c 0) + 1) &&& (15 : Int32))) c 6 ((sp_F_checkOver (wr (wr G0 c 8 ((((G0 c 8) <<< ((1 : Int32) &&& 31)) ||| (iu a1 31)) &&& (15 : Int32))) c 0 (((G0 c 0) + 1) &&& (15 : Int32))) (G0 c 6) (a1 &&& (2147483647 : Int32))))) (((G0 c 0) + 1) &&& (15 : Int32)))) = 0 then (wr (wr (wr G0 c 8 ((((G0 c 8) <<< ((1 : Int32) &&& 31)) ||| (iu a1 31)) &&& (15 : Int32))) c 0 (((G0 c 0) + 1) &&& (15 : Int32))) c 6 ((sp_F_checkOver (wr (wr G0 c 8 ((((G0 c 8) <<< ((1 : Int32) &&& 31)) ||| (iu a1 31)) &&& (15 : Int32))) c 0 (((G0 c 0) + 1) &&& (15 : Int32))) (G0 c 6) (a1 &&& (2147483647 : Int32))))) else (sp_O_endHalf c (wr (wr (wr G0 c 8 ((((G0 c 8) <<< ((1 : Int32) &&& 31)) ||| (iu a1 31)) &&& (15 : Int32))) c 0 (((G0 c 0) + 1) &&& (15 : Int32))) c 6 ((sp_F_checkOver (wr (wr G0 c 8 ((((G0 c 8) <<< ((1 : Int32) &&& 31)) ||| (iu a1 31)) &&& (15 : Int32))) c 0 (((G0 c 0) + 1) &&& (15 : Int32))) (G0 c 6) (a1 &&& (2147483647 : Int32)))))))))) else (if (G0 c 0) = (-1) then (sp_O_findNumber c (wr (wr G0 c 1 ((G0 c 1) + 1)) c 2 ((((G0 c 2) <<< ((1 : Int32) &&& 31)) ||| (iu a1 31)) &&& (63 : Int32))) a2) else (if (((G0 c 0) + 1) &&& (15 : Int32)) = 11 then (if ((sp_F_endsHalf (sp_O_judgeRoundWord c (wr (wr (wr (wr G0 c 1 ((G0 c 1) + 1)) c 2 ((((G0 c 2) <<< ((1 : Int32) &&& 31)) ||| (iu a1 31)) &&& (63 : Int32))) c 0 (((G0 c 0) + 1) &&& (15 : Int32))) c 6 ((sp_F_checkOver (wr (wr (wr G0 c 1 ((G0 c 1) + 1)) c 2 ((((G0 c 2) <<< ((1 : Int32) &&& 31)) ||| (iu a1 31)) &&& (63 : Int32))) c 0 (((G0 c 0) + 1) &&& (15 : Int32))) (G0 c 6) a1)))) ((sp_O_judgeRoundWord c (wr (wr (wr (wr G0 c 1 ((G0 c 1) + 1)) c 2 ((((G0 c 2) <<< ((1 : Int32) &&& 31)) ||| (iu a1 31)) &&& (63 : Int32))) c 0 (((G0 c 0) + 1) &&& (15 : Int32))) c 6 ((sp_F_checkOver (wr (wr (wr G0 c 1 ((G0 c 1) + 1)) c 2 ((((G0 c 2) <<< ((1 : Int32) &&& 31)) ||| (iu a1 31)) &&& (63 : Int32))) c 0 (((G0 c 0) + 1) &&& (15 : Int32))) (G0 c 6) a1)))) c 0))) = 0 then (sp_O_judgeRoundWord c (wr (wr (wr (wr G0 c 1 ((G0 c 1) + 1)) c 2 ((((G0 c 2) <<< ((1 : Int32) &&& 31)) ||| (iu a1 31)) &&& (63 : Int32))) c 0 (((G0 c 0) + 1) &&& (15 : Int32))) c 6 ((sp_F_checkOver (wr (wr (wr G0 c 1 ((G0 c 1) + 1)) c 2 ((((G0 c 2) <<< ((1 : Int32) &&& 31)) ||| (iu a1 31)) &&& (63 : Int32))) c 0 (((G0 c 0) + 1) &&& (15 : Int32))) (G0 c 6) a1)))) else (sp_O_endHalf c (sp_O_judgeRoundWord c (wr (wr (wr (wr G0 c 1 ((G0 c 1) + 1)) c 2 ((((G0 c 2) <<< ((1 : Int32) &&& 31)) ||| (iu a1 31)) &&& (63 : Int32))) c 0 (((G0 c 0) + 1) &&& (15 : Int32))) c 6 ((sp_F_checkOver (wr (wr (wr G0 c 1 ((G0 c 1) + 1)) c 2 ((((G0 c 2) <<< ((1 : Int32) &&& 31)) ||| (iu a1 31)) &&& (63 : Int32))) c 0 (((G0 c 0) + 1) &&& (15 : Int32))) (G0 c 6) a1)))))) else (if (iu a1 31) = 0 then (if (((G0 c 0) + 1) &&& (15 : Int32)) = 13 then (if ((sp_F_endsHalf (wr (wr (wr (wr (wr G0 c 1 ((G0 c 1) + 1)) c 2 ((((G0 c 2) <<< ((1 : Int32) &&& 31)) ||| (iu a1 31)) &&& (63 : Int32))) c 0 (((G0 c 0) + 1) &&& (15 : Int32))) c 6 ((sp_F_checkOver (wr (wr (wr G0 c 1 ((G0 c 1) + 1)) c 2 ((((G0 c 2) <<< ((1 : Int32) &&& 31)) ||| (iu a1 31)) &&& (63 : Int32))) c 0 (((G0 c 0) + 1) &&& (15 : Int32))) (G0 c 6) a1))) c 12 ((G0 c 12) + 1)) (((G0 c 0) + 1) &&& (15 : Int32)))) = 0 then (wr (wr (wr (wr (wr G0 c 1 ((G0 c 1) + 1)) c 2 ((((G0 c 2) <<< ((1 : Int32) &&& 31)) ||| (iu a1 31)) &&& (63 : Int32))) c 0 (((G0 c 0) + 1) &&& (15 : Int32))) c 6 ((sp_F_checkOver (wr (wr (wr G0 c 1 ((G0 c 1) + 1)) c 2 ((((G0 c 2) <<< ((1 : Int32) &&& 31)) ||| (iu a1 31)) &&& (63 : Int32))) c 0 (((G0 c 0) + 1) &&& (15 : Int32))) (G0 c 6) a1))) c 12 ((G0 c 12) + 1)) else (sp_O_endHalf c (wr (wr (wr (wr (wr G0 c 1 ((G0 c 1) + 1)) c 2 ((((G0 c 2) <<< ((1 : Int32) &&& 31)) ||| (iu a1 31)) &&& (63 : Int32))) c 0 (((G0 c 0) + 1) &&& (15 : Int32))) c 6 ((sp_F_checkOver (wr (wr (wr G0 c 1 ((G0 c 1) + 1)) c 2 ((((G0 c 2) <<< ((1 : Int32) &&& 31)) ||| (iu a1 31)) &&& (63 : Int32))) c 0 (((G0 c 0) + 1) &&& (15 : Int32))) (G0 c 6) a1))) c 12 ((G0 c 12) + 1)))) else (if (((G0 c 0) + 1) &&& (15 : Int32)) = 15 then (if ((sp_F_endsHalf (wr (wr (wr (wr (wr G0 c 1 ((G0 c 1) + 1)) c 2 ((((G0 c 2) <<< ((1 : Int32) &&& 31)) ||| (iu a1 31)) &&& (63 : Int32))) c 0 (((G0 c 0) + 1) &&& (15 : Int32))) c 6 ((sp_F_checkOver (wr (wr (wr G0 c 1 ((G0 c 1) + 1)) c 2 ((((G0 c 2) <<< ((1 : Int32) &&& 31)) ||| (iu a1 31)) &&& (63 : Int32))) c 0 (((G0 c 0) + 1) &&& (15 : Int32))) (G0 c 6) a1))) c 12 ((G0 c 12) + 1)) (((G0 c 0) + 1) &&& (15 : Int32)))) = 0 then (wr (wr (wr (wr (wr G0 c 1 ((G0 c 1) + 1)) c 2 ((((G0 c 2) <<< ((1 : Int32) &&& 31)) ||| (iu a1 31)) &&& (63 : Int32))) c 0 (((G0 c 0) + 1) &&& (15 : Int32))) c 6 ((sp_F_checkOver (wr (wr (wr G0 c 1 ((G0 c 1) + 1)) c 2 ((((G0 c 2) <<< ((1 : Int32) &&& 31)) ||| (iu a1 31)) &&& (63 : Int32))) c 0 (((G0 c 0) + 1) &&& (15 : Int32))) (G0 c 6) a1))) c 12 ((G0 c 12) + 1)) else (sp_O_endHalf c (wr (wr (wr (wr (wr G0 c 1 ((G0 c 1) + 1)) c 2 ((((G0 c 2) <<< ((1 : Int32) &&& 31)) ||| (iu a1 31)) &&& (63 : Int32))) c 0 (((G0 c 0) + 1) &&& (15 : Int32))) c 6 ((sp_F_checkOver (wr (wr (wr G0 c 1 ((G0 c 1) + 1)) c 2 ((((G0 c 2) <<< ((1 : Int32) &&& 31)) ||| (iu a1 31)) &&& (63 : Int32))) c 0 (((G0 c 0) + 1) &&& (15 : Int32))) (G0 c 6) a1))) c 12 ((G0 c 12) + 1)))) else (if ((sp_F_endsHalf (wr (wr (wr (wr G0 c 1 ((G0 c 1) + 1)) c 2 ((((G0 c 2) <<< ((1 : Int32) &&& 31)) ||| (iu a1 31)) &&& (63 : Int32))) c 0 (((G0 c 0) + 1) &&& (15 : Int32))) c 6 ((sp_F_checkOver (wr (wr (wr G0 c 1 ((G0 c 1) + 1)) c 2 ((((G0 c 2) <<< ((1 : Int32) &&& 31)) ||| (iu a1 31)) &&& (63 : Int32))) c 0 (((G0 c 0) + 1) &&& (15 : Int32))) (G0 c 6) a1))) (((G0 c 0) + 1) &&& (15 : Int32)))) = 0 then (wr (wr (wr (wr G0 c 1 ((G0 c 1) + 1)) c 2 ((((G0 c 2) <<< ((1 : Int32) &&& 31)) ||| (iu a1 31)) &&& (63 : Int32))) c 0 (((G0 c 0) + 1) &&& (15 : Int32))) c 6 ((sp_F_checkOver (wr (wr (wr G0 c 1 ((G0 c 1) + 1)) c 2 ((((G0 c 2) <<< ((1 : Int32) &&& 31)) ||| (iu a1 31)) &&& (63 : Int32))) c 0 (((G0 c 0) + 1) &&& (15 : Int32))) (G0 c 6) a1))) else (sp_O_endHalf c (wr (wr (wr (wr G0 c 1 ((G0 c 1) + 1)) c 2 ((((G0 c 2) <<< ((1 : Int32) &&& 31)) ||| (iu a1 31)) &&& (63 : Int32))) c 0 (((G0 c 0) + 1) &&& (15 : Int32))) c 6 ((sp_F_checkOver (wr (wr (wr G0 c 1 ((G0 c 1) + 1)) c 2 ((((G0 c 2) <<< ((1 : Int32) &&& 31)) ||| (iu a1 31)) &&& (63 : Int32))) c 0 (((G0 c 0) + 1) &&& (15 : Int32))) (G0 c 6) a1))))))) else (if ((sp_F_endsHalf (wr (wr (wr (wr G0 c 1 ((G0 c 1) + 1)) c 2 ((((G0 c 2) <<< ((1 : Int32) &&& 31)) ||| (iu a1 31)) &&& (63 : Int32))) c 0 (((G0 c 0) + 1) &&& (15 : Int32))) c 6 ((sp_F_checkOver (wr (wr (wr G0 c 1 ((G0 c 1) + 1)) c 2 ((((G0 c 2) <<< ((1 : Int32) &&& 31)) ||| (iu a1 31)) &&& (63 : Int32))) c 0 (((G0 c 0) + 1) &&& (15 : Int32))) (G0 c 6) a1))) (((G0 c 0) + 1) &&& (15 : Int32)))) = 0 then (wr (wr (wr (wr G0 c 1 ((G0 c 1) + 1)) c 2 ((((G0 c 2) <<< ((1 : Int32) &&& 31)) ||| (iu a1 31)) &&& (63 : Int32))) c 0 (((G0 c 0) + 1) &&& (15 : Int32))) c 6 ((sp_F_checkOver (wr (wr (wr G0 c 1 ((G0 c 1) + 1)) c 2 ((((G0 c 2) <<< ((1 : Int32) &&& 31)) ||| (iu a1 31)) &&& (63 : Int32))) c 0 (((G0 c 0) + 1) &&& (15 : Int32))) (G0 c 6) a1))) else (sp_O_endHalf c (wr (wr (wr (wr G0 c 1 ((G0 c 1) + 1)) c 2 ((((G0 c 2) <<< ((1 : Int32) &&& 31)) ||| (iu a1 31)) &&& (63 : Int32))) c 0 (((G0 c 0) + 1) &&& (15 : Int32))) c 6 ((sp_F_checkOver (wr (wr (wr G0 c 1 ((G0 c 1) + 1)) c 2 ((((G0 c 2) <<< ((1 : Int32) &&& 31)) ||| (iu a1 31)) &&& (63 : Int32))) c 0 (((G0 c 0) + 1) &&& (15 : Int32))) (G0 c 6) a1)))))))))
set_option maxHeartbeats 4000000 in
set_option maxRecDepth 100000 in
theorem c_O_takeFrame (l : Launch) (P : gP) (G0 : Mem) (c : Nat) (a1 : Int32) (a2 : Int32) (hc : kO c) : gMv l y_O_takeFrame b_O_takeFrame 4 none ({ frames := 2, cells := 0, slots := 0, locals := 41 }) [.ref (gad P c), .int a1, .int a2] P G0 (sp_O_takeFrame c G0 a1 a2) := by
  refine Met.ofW (cc := b_O_takeFrame) (maxL := 4) (ret := none) (by decide) rfl ?_
  intro p e s m args below meth c0 s₁ B hml hv
  obtain ⟨rfl, hpre⟩ := hv
  obtain ⟨E, hH⟩ := gE_of B hml hpre
  replace E : gE p s m _ meth c0 P "FramedLine$Rounds" b_O_takeFrame 4 none := E
  have hcU := hc
  unfold kO at hcU
  have hx := E.1
  have hb := E.2.1
  have hl := lv_entry ([.ref (gad P c), .int a1, .int a2]) (n := 4) (Nat.le_of_ble_eq_true rfl)
  rw [lg_entry_eq]
  generalize (lg_sl ([.ref (gad P c), .int a1, .int a2]) ++ List.replicate (4 - (lg_sl ([.ref (gad P c), .int a1, .int a2])).length) Slot.unset).toArray = ls at hl ⊢
  replace hl : lv_has ls 4 [(0, .ref (gad P c)), (1, .int a1), (2, .int a2)] := hl
  have hsp : sp_O_takeFrame c G0 a1 a2 = sp_O_takeFrame c G0 a1 a2 := rfl
  refine lv_iload_n hx hb d_O_takeFrame_0 rfl (lv_at hl 1 rfl) ?_
  refine lv_bipush (v := 31) hx hb d_O_takeFrame_1 (by decide) ?_
  refine lv_iushr (v := (iu a1 31)) hx hb d_O_takeFrame_3 rfl ?_
  refine lv_istore_n hx hb d_O_takeFrame_4 rfl hl (by decide) rfl (fun ls hl => ?_)
  refine lv_iload_n hx hb d_O_takeFrame_5 rfl (lv_at hl 3 rfl) ?_
  refine lv_if_eq (tgt := 37) hx hb d_O_takeFrame_6 (by decide) (fun h1 => ?_) (fun h1 => ?_)
  · refine lv_aload_n hx hb d_O_takeFrame_37 rfl (lv_at hl 1 rfl) ?_
    refine lv_aload_n hx hb d_O_takeFrame_38 rfl (lv_at hl 1 rfl) ?_
    refine g_geti (v := (G0 c 8)) E hH (gc_O hc) cl_O 8 (by decide) lf_O_37 (fun _ => rfl) rfl d_O_takeFrame_39 ?_
    refine lv_iconst (v := 1) hx hb d_O_takeFrame_42 (by decide) ?_
    refine lv_ishl hx hb d_O_takeFrame_43 ?_
    refine lv_iload_n hx hb d_O_takeFrame_44 rfl (lv_at hl 0 rfl) ?_
    refine lv_ior hx hb d_O_takeFrame_45 ?_
    refine lv_bipush (v := 15) hx hb d_O_takeFrame_46 (by decide) ?_
    refine lv_iand hx hb d_O_takeFrame_48 ?_
    refine g_puti E hH (gc_O hc) cl_O ct_O 8 (by decide) lf_O_37 rfl (by decide +kernel) (fun _ _ => rfl) (Nat.le_of_ble_eq_true rfl) d_O_takeFrame_49 (fun H locs hH => ?_)
    refine lv_aload_n hx hb d_O_takeFrame_52 rfl (lv_at hl 1 rfl) ?_
    refine g_geti (v := (G0 c 0)) E hH (gc_O hc) cl_O 0 (by decide) lf_O_9 (fun _ => rfl) (wr_k _ _ _ _ (by decide)) d_O_takeFrame_53 ?_
    refine lv_iconst (v := (-1)) hx hb d_O_takeFrame_56 (by decide) ?_
    refine lv_icmp_ne (tgt := 66) hx hb d_O_takeFrame_57 (by decide) (fun h2 => ?_) (fun h2 => ?_)
    · refine lv_aload_n hx hb d_O_takeFrame_66 rfl (lv_at hl 1 rfl) ?_
      refine lv_aload_n hx hb d_O_takeFrame_67 rfl (lv_at hl 1 rfl) ?_
      refine g_geti (v := (G0 c 0)) E hH (gc_O hc) cl_O 0 (by decide) lf_O_9 (fun _ => rfl) (wr_k _ _ _ _ (by decide)) d_O_takeFrame_68 ?_
      refine lv_iconst (v := 1) hx hb d_O_takeFrame_71 (by decide) ?_
      refine lv_iadd hx hb d_O_takeFrame_72 ?_
      refine lv_bipush (v := 15) hx hb d_O_takeFrame_73 (by decide) ?_
      refine lv_iand hx hb d_O_takeFrame_75 ?_
      refine g_puti E hH (gc_O hc) cl_O ct_O 0 (by decide) lf_O_9 rfl (by decide +kernel) (fun _ _ => rfl) (Nat.le_of_ble_eq_true rfl) d_O_takeFrame_76 (fun H locs hH => ?_)
      refine lv_aload_n hx hb d_O_takeFrame_79 rfl (lv_at hl 1 rfl) ?_
      refine lv_aload_n hx hb d_O_takeFrame_80 rfl (lv_at hl 1 rfl) ?_
      refine g_geti (v := (G0 c 6)) E hH (gc_O hc) cl_O 6 (by decide) lf_O_31 (fun _ => rfl) ((wr_k _ _ _ _ (by decide)).trans (wr_k _ _ _ _ (by decide))) d_O_takeFrame_81 ?_
      refine lv_iload_n hx hb d_O_takeFrame_84 rfl (lv_at hl 3 rfl) ?_
      refine lv_if_eq (tgt := 92) hx hb d_O_takeFrame_85 (by decide) (fun _ => ?_) (fun h0 => absurd h1 h0)
      refine lv_iload_n hx hb d_O_takeFrame_92 rfl (lv_at hl 2 rfl) ?_
      refine lv_ldc (v := 2147483647) hx hb E.2.2.2.2.1 (E.2.2.2.2.2.1 _ lc_O_59) d_O_takeFrame_93 ?_
      refine lv_iand hx hb d_O_takeFrame_95 ?_
      refine g_callSNri (As := [.int _, .int _]) E hH hl (c_F_checkOver l P _ _ _) lm_O_60 (Nat.le_of_ble_eq_true rfl) (Nat.le_of_ble_eq_true rfl) (Nat.le_of_ble_eq_true rfl) (Nat.le_of_ble_eq_true rfl) (Nat.le_of_ble_eq_true rfl) rfl rfl rfl rfl d_O_takeFrame_96 (fun H locs hH => ?_)
      refine g_puti E hH (gc_O hc) cl_O ct_O 6 (by decide) lf_O_31 rfl (by decide +kernel) (fun _ _ => rfl) (Nat.le_of_ble_eq_true rfl) d_O_takeFrame_99 (fun H locs hH => ?_)
      refine lv_aload_n hx hb d_O_takeFrame_102 rfl (lv_at hl 1 rfl) ?_
      refine g_geti (v := (((G0 c 0) + 1) &&& (15 : Int32))) E hH (gc_O hc) cl_O 0 (by decide) lf_O_9 (fun _ => rfl) ((wr_k _ _ _ _ (by decide)).trans (wr_same _ _ _ _)) d_O_takeFrame_103 ?_
      refine lv_bipush (v := 11) hx hb d_O_takeFrame_106 (by decide) ?_
      refine lv_icmp_ne (tgt := 118) hx hb d_O_takeFrame_108 (by decide) (fun h3 => ?_) (fun h3 => ?_)
      · refine lv_iload_n hx hb d_O_takeFrame_118 rfl (lv_at hl 0 rfl) ?_
        refine lv_if_ne (tgt := 150) hx hb d_O_takeFrame_119 (by decide) (fun h4 => ?_) (fun h4 => ?_)
        · refine lv_aload_n hx hb d_O_takeFrame_150 rfl (lv_at hl 1 rfl) ?_
          refine g_geti (v := (((G0 c 0) + 1) &&& (15 : Int32))) E hH (gc_O hc) cl_O 0 (by decide) lf_O_9 (fun _ => rfl) ((wr_k _ _ _ _ (by decide)).trans (wr_same _ _ _ _)) d_O_takeFrame_151 ?_
          refine g_callSNrz (As := [.int _]) E hH hl (c_F_endsHalf l P _ _) lm_O_67 (Nat.le_of_ble_eq_true rfl) (Nat.le_of_ble_eq_true rfl) (Nat.le_of_ble_eq_true rfl) (Nat.le_of_ble_eq_true rfl) (Nat.le_of_ble_eq_true rfl) rfl rfl rfl rfl d_O_takeFrame_154 (fun H locs hH hz154 => ?_)
          refine lv_if_eq (tgt := 164) hx hb d_O_takeFrame_157 (by decide) (fun h5 => ?_) (fun h5 => ?_)
          · exact g_vret E hH (hsp.trans (by simp only [sp_O_takeFrame, if_pos h1, if_neg h2, if_neg h3, if_neg h4, if_pos h5])) d_O_takeFrame_164
          · refine lv_aload_n hx hb d_O_takeFrame_160 rfl (lv_at hl 1 rfl) ?_
            refine g_callVv (As := []) E hH hl (c_O_endHalf l P _ c hc) lm_O_71 (gc_O hc) cl_O (Nat.le_of_ble_eq_true rfl) (Nat.le_of_ble_eq_true rfl) (Nat.le_of_ble_eq_true rfl) (Nat.le_of_ble_eq_true rfl) (Nat.le_of_ble_eq_true rfl) rfl rfl rfl rfl d_O_takeFrame_161 (fun H locs hH => ?_)
            exact g_vret E hH (hsp.trans (by simp only [sp_O_takeFrame, if_pos h1, if_neg h2, if_neg h3, if_neg h4, if_neg h5])) d_O_takeFrame_164
        · refine lv_aload_n hx hb d_O_takeFrame_122 rfl (lv_at hl 1 rfl) ?_
          refine g_geti (v := (((G0 c 0) + 1) &&& (15 : Int32))) E hH (gc_O hc) cl_O 0 (by decide) lf_O_9 (fun _ => rfl) ((wr_k _ _ _ _ (by decide)).trans (wr_same _ _ _ _)) d_O_takeFrame_123 ?_
          refine lv_bipush (v := 13) hx hb d_O_takeFrame_126 (by decide) ?_
          refine lv_icmp_eq (tgt := 140) hx hb d_O_takeFrame_128 (by decide) (fun h6 => ?_) (fun h6 => ?_)
          · refine lv_aload_n hx hb d_O_takeFrame_140 rfl (lv_at hl 1 rfl) ?_
            refine lv_dup hx hb d_O_takeFrame_141 rfl ?_
            refine g_geti (v := (G0 c 12)) E hH (gc_O hc) cl_O 12 (by decide) lf_O_49 (fun _ => rfl) ((wr_k _ _ _ _ (by decide)).trans ((wr_k _ _ _ _ (by decide)).trans (wr_k _ _ _ _ (by decide)))) d_O_takeFrame_142 ?_
            refine lv_iconst (v := 1) hx hb d_O_takeFrame_145 (by decide) ?_
            refine lv_iadd hx hb d_O_takeFrame_146 ?_
            refine g_puti E hH (gc_O hc) cl_O ct_O 12 (by decide) lf_O_49 rfl (by decide +kernel) (fun _ _ => rfl) (Nat.le_of_ble_eq_true rfl) d_O_takeFrame_147 (fun H locs hH => ?_)
            refine lv_aload_n hx hb d_O_takeFrame_150 rfl (lv_at hl 1 rfl) ?_
            refine g_geti (v := (((G0 c 0) + 1) &&& (15 : Int32))) E hH (gc_O hc) cl_O 0 (by decide) lf_O_9 (fun _ => rfl) ((wr_k _ _ _ _ (by decide)).trans ((wr_k _ _ _ _ (by decide)).trans (wr_same _ _ _ _))) d_O_takeFrame_151 ?_
            refine g_callSNrz (As := [.int _]) E hH hl (c_F_endsHalf l P _ _) lm_O_67 (Nat.le_of_ble_eq_true rfl) (Nat.le_of_ble_eq_true rfl) (Nat.le_of_ble_eq_true rfl) (Nat.le_of_ble_eq_true rfl) (Nat.le_of_ble_eq_true rfl) rfl rfl rfl rfl d_O_takeFrame_154 (fun H locs hH hz154 => ?_)
            refine lv_if_eq (tgt := 164) hx hb d_O_takeFrame_157 (by decide) (fun h7 => ?_) (fun h7 => ?_)
            · exact g_vret E hH (hsp.trans (by simp only [sp_O_takeFrame, if_pos h1, if_neg h2, if_neg h3, if_pos h4, if_pos h6, if_pos h7])) d_O_takeFrame_164
            · refine lv_aload_n hx hb d_O_takeFrame_160 rfl (lv_at hl 1 rfl) ?_
              refine g_callVv (As := []) E hH hl (c_O_endHalf l P _ c hc) lm_O_71 (gc_O hc) cl_O (Nat.le_of_ble_eq_true rfl) (Nat.le_of_ble_eq_true rfl) (Nat.le_of_ble_eq_true rfl) (Nat.le_of_ble_eq_true rfl) (Nat.le_of_ble_eq_true rfl) rfl rfl rfl rfl d_O_takeFrame_161 (fun H locs hH => ?_)
              exact g_vret E hH (hsp.trans (by simp only [sp_O_takeFrame, if_pos h1, if_neg h2, if_neg h3, if_pos h4, if_pos h6, if_neg h7])) d_O_takeFrame_164
          · refine lv_aload_n hx hb d_O_takeFrame_131 rfl (lv_at hl 1 rfl) ?_
            refine g_geti (v := (((G0 c 0) + 1) &&& (15 : Int32))) E hH (gc_O hc) cl_O 0 (by decide) lf_O_9 (fun _ => rfl) ((wr_k _ _ _ _ (by decide)).trans (wr_same _ _ _ _)) d_O_takeFrame_132 ?_
            refine lv_bipush (v := 15) hx hb d_O_takeFrame_135 (by decide) ?_
            refine lv_icmp_ne (tgt := 150) hx hb d_O_takeFrame_137 (by decide) (fun h8 => ?_) (fun h8 => ?_)
            · refine lv_aload_n hx hb d_O_takeFrame_150 rfl (lv_at hl 1 rfl) ?_
              refine g_geti (v := (((G0 c 0) + 1) &&& (15 : Int32))) E hH (gc_O hc) cl_O 0 (by decide) lf_O_9 (fun _ => rfl) ((wr_k _ _ _ _ (by decide)).trans (wr_same _ _ _ _)) d_O_takeFrame_151 ?_
              refine g_callSNrz (As := [.int _]) E hH hl (c_F_endsHalf l P _ _) lm_O_67 (Nat.le_of_ble_eq_true rfl) (Nat.le_of_ble_eq_true rfl) (Nat.le_of_ble_eq_true rfl) (Nat.le_of_ble_eq_true rfl) (Nat.le_of_ble_eq_true rfl) rfl rfl rfl rfl d_O_takeFrame_154 (fun H locs hH hz154 => ?_)
              refine lv_if_eq (tgt := 164) hx hb d_O_takeFrame_157 (by decide) (fun h9 => ?_) (fun h9 => ?_)
              · exact g_vret E hH (hsp.trans (by simp only [sp_O_takeFrame, if_pos h1, if_neg h2, if_neg h3, if_pos h4, if_neg h6, if_neg h8, if_pos h9])) d_O_takeFrame_164
              · refine lv_aload_n hx hb d_O_takeFrame_160 rfl (lv_at hl 1 rfl) ?_
                refine g_callVv (As := []) E hH hl (c_O_endHalf l P _ c hc) lm_O_71 (gc_O hc) cl_O (Nat.le_of_ble_eq_true rfl) (Nat.le_of_ble_eq_true rfl) (Nat.le_of_ble_eq_true rfl) (Nat.le_of_ble_eq_true rfl) (Nat.le_of_ble_eq_true rfl) rfl rfl rfl rfl d_O_takeFrame_161 (fun H locs hH => ?_)
                exact g_vret E hH (hsp.trans (by simp only [sp_O_takeFrame, if_pos h1, if_neg h2, if_neg h3, if_pos h4, if_neg h6, if_neg h8, if_neg h9])) d_O_takeFrame_164
            · refine lv_aload_n hx hb d_O_takeFrame_140 rfl (lv_at hl 1 rfl) ?_
              refine lv_dup hx hb d_O_takeFrame_141 rfl ?_
              refine g_geti (v := (G0 c 12)) E hH (gc_O hc) cl_O 12 (by decide) lf_O_49 (fun _ => rfl) ((wr_k _ _ _ _ (by decide)).trans ((wr_k _ _ _ _ (by decide)).trans (wr_k _ _ _ _ (by decide)))) d_O_takeFrame_142 ?_
              refine lv_iconst (v := 1) hx hb d_O_takeFrame_145 (by decide) ?_
              refine lv_iadd hx hb d_O_takeFrame_146 ?_
              refine g_puti E hH (gc_O hc) cl_O ct_O 12 (by decide) lf_O_49 rfl (by decide +kernel) (fun _ _ => rfl) (Nat.le_of_ble_eq_true rfl) d_O_takeFrame_147 (fun H locs hH => ?_)
              refine lv_aload_n hx hb d_O_takeFrame_150 rfl (lv_at hl 1 rfl) ?_
              refine g_geti (v := (((G0 c 0) + 1) &&& (15 : Int32))) E hH (gc_O hc) cl_O 0 (by decide) lf_O_9 (fun _ => rfl) ((wr_k _ _ _ _ (by decide)).trans ((wr_k _ _ _ _ (by decide)).trans (wr_same _ _ _ _))) d_O_takeFrame_151 ?_
              refine g_callSNrz (As := [.int _]) E hH hl (c_F_endsHalf l P _ _) lm_O_67 (Nat.le_of_ble_eq_true rfl) (Nat.le_of_ble_eq_true rfl) (Nat.le_of_ble_eq_true rfl) (Nat.le_of_ble_eq_true rfl) (Nat.le_of_ble_eq_true rfl) rfl rfl rfl rfl d_O_takeFrame_154 (fun H locs hH hz154 => ?_)
              refine lv_if_eq (tgt := 164) hx hb d_O_takeFrame_157 (by decide) (fun h10 => ?_) (fun h10 => ?_)
              · exact g_vret E hH (hsp.trans (by simp only [sp_O_takeFrame, if_pos h1, if_neg h2, if_neg h3, if_pos h4, if_neg h6, if_pos h8, if_pos h10])) d_O_takeFrame_164
              · refine lv_aload_n hx hb d_O_takeFrame_160 rfl (lv_at hl 1 rfl) ?_
                refine g_callVv (As := []) E hH hl (c_O_endHalf l P _ c hc) lm_O_71 (gc_O hc) cl_O (Nat.le_of_ble_eq_true rfl) (Nat.le_of_ble_eq_true rfl) (Nat.le_of_ble_eq_true rfl) (Nat.le_of_ble_eq_true rfl) (Nat.le_of_ble_eq_true rfl) rfl rfl rfl rfl d_O_takeFrame_161 (fun H locs hH => ?_)
                exact g_vret E hH (hsp.trans (by simp only [sp_O_takeFrame, if_pos h1, if_neg h2, if_neg h3, if_pos h4, if_neg h6, if_pos h8, if_neg h10])) d_O_takeFrame_164
      · refine lv_aload_n hx hb d_O_takeFrame_111 rfl (lv_at hl 1 rfl) ?_
        refine g_callVv (As := []) E hH hl (c_O_judgeRoundWord l P _ c hc) lm_O_64 (gc_O hc) cl_O (Nat.le_of_ble_eq_true rfl) (Nat.le_of_ble_eq_true rfl) (Nat.le_of_ble_eq_true rfl) (Nat.le_of_ble_eq_true rfl) (Nat.le_of_ble_eq_true rfl) rfl rfl rfl rfl d_O_takeFrame_112 (fun H locs hH => ?_)
        refine lv_goto (tgt := 150) hx hb d_O_takeFrame_115 (by decide) ?_
        refine lv_aload_n hx hb d_O_takeFrame_150 rfl (lv_at hl 1 rfl) ?_
        refine g_geti (v := ((sp_O_judgeRoundWord c (wr (wr (wr G0 c 8 ((((G0 c 8) <<< ((1 : Int32) &&& 31)) ||| (iu a1 31)) &&& (15 : Int32))) c 0 (((G0 c 0) + 1) &&& (15 : Int32))) c 6 ((sp_F_checkOver (wr (wr G0 c 8 ((((G0 c 8) <<< ((1 : Int32) &&& 31)) ||| (iu a1 31)) &&& (15 : Int32))) c 0 (((G0 c 0) + 1) &&& (15 : Int32))) (G0 c 6) (a1 &&& (2147483647 : Int32)))))) c 0)) E hH (gc_O hc) cl_O 0 (by decide) lf_O_9 (fun _ => rfl) rfl d_O_takeFrame_151 ?_
        refine g_callSNrz (As := [.int _]) E hH hl (c_F_endsHalf l P _ _) lm_O_67 (Nat.le_of_ble_eq_true rfl) (Nat.le_of_ble_eq_true rfl) (Nat.le_of_ble_eq_true rfl) (Nat.le_of_ble_eq_true rfl) (Nat.le_of_ble_eq_true rfl) rfl rfl rfl rfl d_O_takeFrame_154 (fun H locs hH hz154 => ?_)
        refine lv_if_eq (tgt := 164) hx hb d_O_takeFrame_157 (by decide) (fun h11 => ?_) (fun h11 => ?_)
        · exact g_vret E hH (hsp.trans (by simp only [sp_O_takeFrame, if_pos h1, if_neg h2, if_pos h3, if_pos h11])) d_O_takeFrame_164
        · refine lv_aload_n hx hb d_O_takeFrame_160 rfl (lv_at hl 1 rfl) ?_
          refine g_callVv (As := []) E hH hl (c_O_endHalf l P _ c hc) lm_O_71 (gc_O hc) cl_O (Nat.le_of_ble_eq_true rfl) (Nat.le_of_ble_eq_true rfl) (Nat.le_of_ble_eq_true rfl) (Nat.le_of_ble_eq_true rfl) (Nat.le_of_ble_eq_true rfl) rfl rfl rfl rfl d_O_takeFrame_161 (fun H locs hH => ?_)
          exact g_vret E hH (hsp.trans (by simp only [sp_O_takeFrame, if_pos h1, if_neg h2, if_pos h3, if_neg h11])) d_O_takeFrame_164
    · refine lv_aload_n hx hb d_O_takeFrame_60 rfl (lv_at hl 1 rfl) ?_
      refine lv_iload_n hx hb d_O_takeFrame_61 rfl (lv_at hl 3 rfl) ?_
      refine g_callVv (As := [.int _]) E hH hl (c_O_findNumber l P _ c _ hc) lm_O_55 (gc_O hc) cl_O (Nat.le_of_ble_eq_true rfl) (Nat.le_of_ble_eq_true rfl) (Nat.le_of_ble_eq_true rfl) (Nat.le_of_ble_eq_true rfl) (Nat.le_of_ble_eq_true rfl) rfl rfl rfl rfl d_O_takeFrame_62 (fun H locs hH => ?_)
      exact g_vret E hH (hsp.trans (by simp only [sp_O_takeFrame, if_pos h1, if_pos h2])) d_O_takeFrame_65
  · refine lv_aload_n hx hb d_O_takeFrame_9 rfl (lv_at hl 1 rfl) ?_
    refine lv_dup hx hb d_O_takeFrame_10 rfl ?_
    refine g_geti (v := (G0 c 1)) E hH (gc_O hc) cl_O 1 (by decide) lf_O_15 (fun _ => rfl) rfl d_O_takeFrame_11 ?_
    refine lv_iconst (v := 1) hx hb d_O_takeFrame_14 (by decide) ?_
    refine lv_iadd hx hb d_O_takeFrame_15 ?_
    refine g_puti E hH (gc_O hc) cl_O ct_O 1 (by decide) lf_O_15 rfl (by decide +kernel) (fun _ _ => rfl) (Nat.le_of_ble_eq_true rfl) d_O_takeFrame_16 (fun H locs hH => ?_)
    refine lv_aload_n hx hb d_O_takeFrame_19 rfl (lv_at hl 1 rfl) ?_
    refine lv_aload_n hx hb d_O_takeFrame_20 rfl (lv_at hl 1 rfl) ?_
    refine g_geti (v := (G0 c 2)) E hH (gc_O hc) cl_O 2 (by decide) lf_O_18 (fun _ => rfl) (wr_k _ _ _ _ (by decide)) d_O_takeFrame_21 ?_
    refine lv_iconst (v := 1) hx hb d_O_takeFrame_24 (by decide) ?_
    refine lv_ishl hx hb d_O_takeFrame_25 ?_
    refine lv_iload_n hx hb d_O_takeFrame_26 rfl (lv_at hl 0 rfl) ?_
    refine lv_ior hx hb d_O_takeFrame_27 ?_
    refine lv_bipush (v := 63) hx hb d_O_takeFrame_28 (by decide) ?_
    refine lv_iand hx hb d_O_takeFrame_30 ?_
    refine g_puti E hH (gc_O hc) cl_O ct_O 2 (by decide) lf_O_18 rfl (by decide +kernel) (fun _ _ => rfl) (Nat.le_of_ble_eq_true rfl) d_O_takeFrame_31 (fun H locs hH => ?_)
    refine lv_goto (tgt := 52) hx hb d_O_takeFrame_34 (by decide) ?_
    refine lv_aload_n hx hb d_O_takeFrame_52 rfl (lv_at hl 1 rfl) ?_
    refine g_geti (v := (G0 c 0)) E hH (gc_O hc) cl_O 0 (by decide) lf_O_9 (fun _ => rfl) ((wr_k _ _ _ _ (by decide)).trans (wr_k _ _ _ _ (by decide))) d_O_takeFrame_53 ?_
    refine lv_iconst (v := (-1)) hx hb d_O_takeFrame_56 (by decide) ?_
    refine lv_icmp_ne (tgt := 66) hx hb d_O_takeFrame_57 (by decide) (fun h12 => ?_) (fun h12 => ?_)
    · refine lv_aload_n hx hb d_O_takeFrame_66 rfl (lv_at hl 1 rfl) ?_
      refine lv_aload_n hx hb d_O_takeFrame_67 rfl (lv_at hl 1 rfl) ?_
      refine g_geti (v := (G0 c 0)) E hH (gc_O hc) cl_O 0 (by decide) lf_O_9 (fun _ => rfl) ((wr_k _ _ _ _ (by decide)).trans (wr_k _ _ _ _ (by decide))) d_O_takeFrame_68 ?_
      refine lv_iconst (v := 1) hx hb d_O_takeFrame_71 (by decide) ?_
      refine lv_iadd hx hb d_O_takeFrame_72 ?_
      refine lv_bipush (v := 15) hx hb d_O_takeFrame_73 (by decide) ?_
      refine lv_iand hx hb d_O_takeFrame_75 ?_
      refine g_puti E hH (gc_O hc) cl_O ct_O 0 (by decide) lf_O_9 rfl (by decide +kernel) (fun _ _ => rfl) (Nat.le_of_ble_eq_true rfl) d_O_takeFrame_76 (fun H locs hH => ?_)
      refine lv_aload_n hx hb d_O_takeFrame_79 rfl (lv_at hl 1 rfl) ?_
      refine lv_aload_n hx hb d_O_takeFrame_80 rfl (lv_at hl 1 rfl) ?_
      refine g_geti (v := (G0 c 6)) E hH (gc_O hc) cl_O 6 (by decide) lf_O_31 (fun _ => rfl) ((wr_k _ _ _ _ (by decide)).trans ((wr_k _ _ _ _ (by decide)).trans (wr_k _ _ _ _ (by decide)))) d_O_takeFrame_81 ?_
      refine lv_iload_n hx hb d_O_takeFrame_84 rfl (lv_at hl 3 rfl) ?_
      refine lv_if_eq (tgt := 92) hx hb d_O_takeFrame_85 (by decide) (fun h0 => absurd h0 h1) (fun _ => ?_)
      refine lv_iload_n hx hb d_O_takeFrame_88 rfl (lv_at hl 2 rfl) ?_
      refine lv_goto (tgt := 96) hx hb d_O_takeFrame_89 (by decide) ?_
      refine g_callSNri (As := [.int _, .int _]) E hH hl (c_F_checkOver l P _ _ _) lm_O_60 (Nat.le_of_ble_eq_true rfl) (Nat.le_of_ble_eq_true rfl) (Nat.le_of_ble_eq_true rfl) (Nat.le_of_ble_eq_true rfl) (Nat.le_of_ble_eq_true rfl) rfl rfl rfl rfl d_O_takeFrame_96 (fun H locs hH => ?_)
      refine g_puti E hH (gc_O hc) cl_O ct_O 6 (by decide) lf_O_31 rfl (by decide +kernel) (fun _ _ => rfl) (Nat.le_of_ble_eq_true rfl) d_O_takeFrame_99 (fun H locs hH => ?_)
      refine lv_aload_n hx hb d_O_takeFrame_102 rfl (lv_at hl 1 rfl) ?_
      refine g_geti (v := (((G0 c 0) + 1) &&& (15 : Int32))) E hH (gc_O hc) cl_O 0 (by decide) lf_O_9 (fun _ => rfl) ((wr_k _ _ _ _ (by decide)).trans (wr_same _ _ _ _)) d_O_takeFrame_103 ?_
      refine lv_bipush (v := 11) hx hb d_O_takeFrame_106 (by decide) ?_
      refine lv_icmp_ne (tgt := 118) hx hb d_O_takeFrame_108 (by decide) (fun h13 => ?_) (fun h13 => ?_)
      · refine lv_iload_n hx hb d_O_takeFrame_118 rfl (lv_at hl 0 rfl) ?_
        refine lv_if_ne (tgt := 150) hx hb d_O_takeFrame_119 (by decide) (fun h14 => ?_) (fun h14 => ?_)
        · refine lv_aload_n hx hb d_O_takeFrame_150 rfl (lv_at hl 1 rfl) ?_
          refine g_geti (v := (((G0 c 0) + 1) &&& (15 : Int32))) E hH (gc_O hc) cl_O 0 (by decide) lf_O_9 (fun _ => rfl) ((wr_k _ _ _ _ (by decide)).trans (wr_same _ _ _ _)) d_O_takeFrame_151 ?_
          refine g_callSNrz (As := [.int _]) E hH hl (c_F_endsHalf l P _ _) lm_O_67 (Nat.le_of_ble_eq_true rfl) (Nat.le_of_ble_eq_true rfl) (Nat.le_of_ble_eq_true rfl) (Nat.le_of_ble_eq_true rfl) (Nat.le_of_ble_eq_true rfl) rfl rfl rfl rfl d_O_takeFrame_154 (fun H locs hH hz154 => ?_)
          refine lv_if_eq (tgt := 164) hx hb d_O_takeFrame_157 (by decide) (fun h15 => ?_) (fun h15 => ?_)
          · exact g_vret E hH (hsp.trans (by simp only [sp_O_takeFrame, if_neg h1, if_neg h12, if_neg h13, if_neg h14, if_pos h15])) d_O_takeFrame_164
          · refine lv_aload_n hx hb d_O_takeFrame_160 rfl (lv_at hl 1 rfl) ?_
            refine g_callVv (As := []) E hH hl (c_O_endHalf l P _ c hc) lm_O_71 (gc_O hc) cl_O (Nat.le_of_ble_eq_true rfl) (Nat.le_of_ble_eq_true rfl) (Nat.le_of_ble_eq_true rfl) (Nat.le_of_ble_eq_true rfl) (Nat.le_of_ble_eq_true rfl) rfl rfl rfl rfl d_O_takeFrame_161 (fun H locs hH => ?_)
            exact g_vret E hH (hsp.trans (by simp only [sp_O_takeFrame, if_neg h1, if_neg h12, if_neg h13, if_neg h14, if_neg h15])) d_O_takeFrame_164
        · refine lv_aload_n hx hb d_O_takeFrame_122 rfl (lv_at hl 1 rfl) ?_
          refine g_geti (v := (((G0 c 0) + 1) &&& (15 : Int32))) E hH (gc_O hc) cl_O 0 (by decide) lf_O_9 (fun _ => rfl) ((wr_k _ _ _ _ (by decide)).trans (wr_same _ _ _ _)) d_O_takeFrame_123 ?_
          refine lv_bipush (v := 13) hx hb d_O_takeFrame_126 (by decide) ?_
          refine lv_icmp_eq (tgt := 140) hx hb d_O_takeFrame_128 (by decide) (fun h16 => ?_) (fun h16 => ?_)
          · refine lv_aload_n hx hb d_O_takeFrame_140 rfl (lv_at hl 1 rfl) ?_
            refine lv_dup hx hb d_O_takeFrame_141 rfl ?_
            refine g_geti (v := (G0 c 12)) E hH (gc_O hc) cl_O 12 (by decide) lf_O_49 (fun _ => rfl) ((wr_k _ _ _ _ (by decide)).trans ((wr_k _ _ _ _ (by decide)).trans ((wr_k _ _ _ _ (by decide)).trans (wr_k _ _ _ _ (by decide))))) d_O_takeFrame_142 ?_
            refine lv_iconst (v := 1) hx hb d_O_takeFrame_145 (by decide) ?_
            refine lv_iadd hx hb d_O_takeFrame_146 ?_
            refine g_puti E hH (gc_O hc) cl_O ct_O 12 (by decide) lf_O_49 rfl (by decide +kernel) (fun _ _ => rfl) (Nat.le_of_ble_eq_true rfl) d_O_takeFrame_147 (fun H locs hH => ?_)
            refine lv_aload_n hx hb d_O_takeFrame_150 rfl (lv_at hl 1 rfl) ?_
            refine g_geti (v := (((G0 c 0) + 1) &&& (15 : Int32))) E hH (gc_O hc) cl_O 0 (by decide) lf_O_9 (fun _ => rfl) ((wr_k _ _ _ _ (by decide)).trans ((wr_k _ _ _ _ (by decide)).trans (wr_same _ _ _ _))) d_O_takeFrame_151 ?_
            refine g_callSNrz (As := [.int _]) E hH hl (c_F_endsHalf l P _ _) lm_O_67 (Nat.le_of_ble_eq_true rfl) (Nat.le_of_ble_eq_true rfl) (Nat.le_of_ble_eq_true rfl) (Nat.le_of_ble_eq_true rfl) (Nat.le_of_ble_eq_true rfl) rfl rfl rfl rfl d_O_takeFrame_154 (fun H locs hH hz154 => ?_)
            refine lv_if_eq (tgt := 164) hx hb d_O_takeFrame_157 (by decide) (fun h17 => ?_) (fun h17 => ?_)
            · exact g_vret E hH (hsp.trans (by simp only [sp_O_takeFrame, if_neg h1, if_neg h12, if_neg h13, if_pos h14, if_pos h16, if_pos h17])) d_O_takeFrame_164
            · refine lv_aload_n hx hb d_O_takeFrame_160 rfl (lv_at hl 1 rfl) ?_
              refine g_callVv (As := []) E hH hl (c_O_endHalf l P _ c hc) lm_O_71 (gc_O hc) cl_O (Nat.le_of_ble_eq_true rfl) (Nat.le_of_ble_eq_true rfl) (Nat.le_of_ble_eq_true rfl) (Nat.le_of_ble_eq_true rfl) (Nat.le_of_ble_eq_true rfl) rfl rfl rfl rfl d_O_takeFrame_161 (fun H locs hH => ?_)
              exact g_vret E hH (hsp.trans (by simp only [sp_O_takeFrame, if_neg h1, if_neg h12, if_neg h13, if_pos h14, if_pos h16, if_neg h17])) d_O_takeFrame_164
          · refine lv_aload_n hx hb d_O_takeFrame_131 rfl (lv_at hl 1 rfl) ?_
            refine g_geti (v := (((G0 c 0) + 1) &&& (15 : Int32))) E hH (gc_O hc) cl_O 0 (by decide) lf_O_9 (fun _ => rfl) ((wr_k _ _ _ _ (by decide)).trans (wr_same _ _ _ _)) d_O_takeFrame_132 ?_
            refine lv_bipush (v := 15) hx hb d_O_takeFrame_135 (by decide) ?_
            refine lv_icmp_ne (tgt := 150) hx hb d_O_takeFrame_137 (by decide) (fun h18 => ?_) (fun h18 => ?_)
            · refine lv_aload_n hx hb d_O_takeFrame_150 rfl (lv_at hl 1 rfl) ?_
              refine g_geti (v := (((G0 c 0) + 1) &&& (15 : Int32))) E hH (gc_O hc) cl_O 0 (by decide) lf_O_9 (fun _ => rfl) ((wr_k _ _ _ _ (by decide)).trans (wr_same _ _ _ _)) d_O_takeFrame_151 ?_
              refine g_callSNrz (As := [.int _]) E hH hl (c_F_endsHalf l P _ _) lm_O_67 (Nat.le_of_ble_eq_true rfl) (Nat.le_of_ble_eq_true rfl) (Nat.le_of_ble_eq_true rfl) (Nat.le_of_ble_eq_true rfl) (Nat.le_of_ble_eq_true rfl) rfl rfl rfl rfl d_O_takeFrame_154 (fun H locs hH hz154 => ?_)
              refine lv_if_eq (tgt := 164) hx hb d_O_takeFrame_157 (by decide) (fun h19 => ?_) (fun h19 => ?_)
              · exact g_vret E hH (hsp.trans (by simp only [sp_O_takeFrame, if_neg h1, if_neg h12, if_neg h13, if_pos h14, if_neg h16, if_neg h18, if_pos h19])) d_O_takeFrame_164
              · refine lv_aload_n hx hb d_O_takeFrame_160 rfl (lv_at hl 1 rfl) ?_
                refine g_callVv (As := []) E hH hl (c_O_endHalf l P _ c hc) lm_O_71 (gc_O hc) cl_O (Nat.le_of_ble_eq_true rfl) (Nat.le_of_ble_eq_true rfl) (Nat.le_of_ble_eq_true rfl) (Nat.le_of_ble_eq_true rfl) (Nat.le_of_ble_eq_true rfl) rfl rfl rfl rfl d_O_takeFrame_161 (fun H locs hH => ?_)
                exact g_vret E hH (hsp.trans (by simp only [sp_O_takeFrame, if_neg h1, if_neg h12, if_neg h13, if_pos h14, if_neg h16, if_neg h18, if_neg h19])) d_O_takeFrame_164
            · refine lv_aload_n hx hb d_O_takeFrame_140 rfl (lv_at hl 1 rfl) ?_
              refine lv_dup hx hb d_O_takeFrame_141 rfl ?_
              refine g_geti (v := (G0 c 12)) E hH (gc_O hc) cl_O 12 (by decide) lf_O_49 (fun _ => rfl) ((wr_k _ _ _ _ (by decide)).trans ((wr_k _ _ _ _ (by decide)).trans ((wr_k _ _ _ _ (by decide)).trans (wr_k _ _ _ _ (by decide))))) d_O_takeFrame_142 ?_
              refine lv_iconst (v := 1) hx hb d_O_takeFrame_145 (by decide) ?_
              refine lv_iadd hx hb d_O_takeFrame_146 ?_
              refine g_puti E hH (gc_O hc) cl_O ct_O 12 (by decide) lf_O_49 rfl (by decide +kernel) (fun _ _ => rfl) (Nat.le_of_ble_eq_true rfl) d_O_takeFrame_147 (fun H locs hH => ?_)
              refine lv_aload_n hx hb d_O_takeFrame_150 rfl (lv_at hl 1 rfl) ?_
              refine g_geti (v := (((G0 c 0) + 1) &&& (15 : Int32))) E hH (gc_O hc) cl_O 0 (by decide) lf_O_9 (fun _ => rfl) ((wr_k _ _ _ _ (by decide)).trans ((wr_k _ _ _ _ (by decide)).trans (wr_same _ _ _ _))) d_O_takeFrame_151 ?_
              refine g_callSNrz (As := [.int _]) E hH hl (c_F_endsHalf l P _ _) lm_O_67 (Nat.le_of_ble_eq_true rfl) (Nat.le_of_ble_eq_true rfl) (Nat.le_of_ble_eq_true rfl) (Nat.le_of_ble_eq_true rfl) (Nat.le_of_ble_eq_true rfl) rfl rfl rfl rfl d_O_takeFrame_154 (fun H locs hH hz154 => ?_)
              refine lv_if_eq (tgt := 164) hx hb d_O_takeFrame_157 (by decide) (fun h20 => ?_) (fun h20 => ?_)
              · exact g_vret E hH (hsp.trans (by simp only [sp_O_takeFrame, if_neg h1, if_neg h12, if_neg h13, if_pos h14, if_neg h16, if_pos h18, if_pos h20])) d_O_takeFrame_164
              · refine lv_aload_n hx hb d_O_takeFrame_160 rfl (lv_at hl 1 rfl) ?_
                refine g_callVv (As := []) E hH hl (c_O_endHalf l P _ c hc) lm_O_71 (gc_O hc) cl_O (Nat.le_of_ble_eq_true rfl) (Nat.le_of_ble_eq_true rfl) (Nat.le_of_ble_eq_true rfl) (Nat.le_of_ble_eq_true rfl) (Nat.le_of_ble_eq_true rfl) rfl rfl rfl rfl d_O_takeFrame_161 (fun H locs hH => ?_)
                exact g_vret E hH (hsp.trans (by simp only [sp_O_takeFrame, if_neg h1, if_neg h12, if_neg h13, if_pos h14, if_neg h16, if_pos h18, if_neg h20])) d_O_takeFrame_164
      · refine lv_aload_n hx hb d_O_takeFrame_111 rfl (lv_at hl 1 rfl) ?_
        refine g_callVv (As := []) E hH hl (c_O_judgeRoundWord l P _ c hc) lm_O_64 (gc_O hc) cl_O (Nat.le_of_ble_eq_true rfl) (Nat.le_of_ble_eq_true rfl) (Nat.le_of_ble_eq_true rfl) (Nat.le_of_ble_eq_true rfl) (Nat.le_of_ble_eq_true rfl) rfl rfl rfl rfl d_O_takeFrame_112 (fun H locs hH => ?_)
        refine lv_goto (tgt := 150) hx hb d_O_takeFrame_115 (by decide) ?_
        refine lv_aload_n hx hb d_O_takeFrame_150 rfl (lv_at hl 1 rfl) ?_
        refine g_geti (v := ((sp_O_judgeRoundWord c (wr (wr (wr (wr G0 c 1 ((G0 c 1) + 1)) c 2 ((((G0 c 2) <<< ((1 : Int32) &&& 31)) ||| (iu a1 31)) &&& (63 : Int32))) c 0 (((G0 c 0) + 1) &&& (15 : Int32))) c 6 ((sp_F_checkOver (wr (wr (wr G0 c 1 ((G0 c 1) + 1)) c 2 ((((G0 c 2) <<< ((1 : Int32) &&& 31)) ||| (iu a1 31)) &&& (63 : Int32))) c 0 (((G0 c 0) + 1) &&& (15 : Int32))) (G0 c 6) a1)))) c 0)) E hH (gc_O hc) cl_O 0 (by decide) lf_O_9 (fun _ => rfl) rfl d_O_takeFrame_151 ?_
        refine g_callSNrz (As := [.int _]) E hH hl (c_F_endsHalf l P _ _) lm_O_67 (Nat.le_of_ble_eq_true rfl) (Nat.le_of_ble_eq_true rfl) (Nat.le_of_ble_eq_true rfl) (Nat.le_of_ble_eq_true rfl) (Nat.le_of_ble_eq_true rfl) rfl rfl rfl rfl d_O_takeFrame_154 (fun H locs hH hz154 => ?_)
        refine lv_if_eq (tgt := 164) hx hb d_O_takeFrame_157 (by decide) (fun h21 => ?_) (fun h21 => ?_)
        · exact g_vret E hH (hsp.trans (by simp only [sp_O_takeFrame, if_neg h1, if_neg h12, if_pos h13, if_pos h21])) d_O_takeFrame_164
        · refine lv_aload_n hx hb d_O_takeFrame_160 rfl (lv_at hl 1 rfl) ?_
          refine g_callVv (As := []) E hH hl (c_O_endHalf l P _ c hc) lm_O_71 (gc_O hc) cl_O (Nat.le_of_ble_eq_true rfl) (Nat.le_of_ble_eq_true rfl) (Nat.le_of_ble_eq_true rfl) (Nat.le_of_ble_eq_true rfl) (Nat.le_of_ble_eq_true rfl) rfl rfl rfl rfl d_O_takeFrame_161 (fun H locs hH => ?_)
          exact g_vret E hH (hsp.trans (by simp only [sp_O_takeFrame, if_neg h1, if_neg h12, if_pos h13, if_neg h21])) d_O_takeFrame_164
    · refine lv_aload_n hx hb d_O_takeFrame_60 rfl (lv_at hl 1 rfl) ?_
      refine lv_iload_n hx hb d_O_takeFrame_61 rfl (lv_at hl 3 rfl) ?_
      refine g_callVv (As := [.int _]) E hH hl (c_O_findNumber l P _ c _ hc) lm_O_55 (gc_O hc) cl_O (Nat.le_of_ble_eq_true rfl) (Nat.le_of_ble_eq_true rfl) (Nat.le_of_ble_eq_true rfl) (Nat.le_of_ble_eq_true rfl) (Nat.le_of_ble_eq_true rfl) rfl rfl rfl rfl d_O_takeFrame_62 (fun H locs hH => ?_)
      exact g_vret E hH (hsp.trans (by simp only [sp_O_takeFrame, if_neg h1, if_pos h12])) d_O_takeFrame_65
end
section
def sp_R_isAligned (c : Nat) (G0 : Mem)  : Int32 :=
  ((if n3 (G0 c 1) = n3 2 then 1 else 0) : Int32)
set_option maxHeartbeats 4000000 in
set_option maxRecDepth 100000 in
theorem c_R_isAligned (l : Launch) (P : gP) (G0 : Mem) (c : Nat)  (hc : kR c) : gMrz l y_R_isAligned b_R_isAligned 1 (some .boolean) ({ frames := 0, cells := 0, slots := 0, locals := 0 }) [.ref (gad P c)] P G0 (sp_R_isAligned c G0) := by
  refine Met.ofW (cc := b_R_isAligned) (maxL := 1) (ret := (some .boolean)) (by decide) rfl ?_
  intro p e s m args below meth c0 s₁ B hml hv
  obtain ⟨rfl, hpre⟩ := hv
  obtain ⟨E, hH⟩ := gE_of B hml hpre
  replace E : gE p s m _ meth c0 P "FramedLine$Receiver" b_R_isAligned 1 (some .boolean) := E
  have hcU := hc
  unfold kR at hcU
  have hx := E.1
  have hb := E.2.1
  have hl := lv_entry ([.ref (gad P c)]) (n := 1) (Nat.le_of_ble_eq_true rfl)
  rw [lg_entry_eq]
  generalize (lg_sl ([.ref (gad P c)]) ++ List.replicate (1 - (lg_sl ([.ref (gad P c)])).length) Slot.unset).toArray = ls at hl ⊢
  replace hl : lv_has ls 1 [(0, .ref (gad P c))] := hl
  have hsp : sp_R_isAligned c G0 = sp_R_isAligned c G0 := rfl
  refine lv_aload_n hx hb d_R_isAligned_0 rfl (lv_at hl 0 rfl) ?_
  refine g_gete (v := (G0 c 1)) E hH (gc_R hc) cl_R 1 (by decide) lf_R_24 (fun _ => rfl) rfl d_R_isAligned_1 ?_
  refine g_gets (x := 2) E hH 2 (by decide) (by decide) lf_R_53 d_R_isAligned_4 ?_
  refine jn (α := Int32) (fun z H1 locs1 => z = ((if n3 (G0 c 1) = n3 2 then 1 else 0) : Int32) ∧ isB z ∧ gH P s G0 H1 locs1) (fun z => F0 m 15 ls (.int z :: [])) (fun z H locs h9 => ?_) (fun hJ => ?_)
  · obtain ⟨rfl, hz15, hH⟩ := h9
    exact g_rzret E hH (hsp.trans (by rw [sp_R_isAligned])) hz15 d_R_isAligned_15
  · refine g_acmp_ne (tgt := 14) E hb d_R_isAligned_7 (by decide) (fun h1 => ?_) (fun h1 => ?_)
    · refine lv_iconst (v := 0) hx hb d_R_isAligned_14 (by decide) ?_
      exact hJ _ _ _ ⟨by simp only [if_neg h1], isB_0, hH⟩
    · refine lv_iconst (v := 1) hx hb d_R_isAligned_10 (by decide) ?_
      refine lv_goto (tgt := 15) hx hb d_R_isAligned_11 (by decide) ?_
      exact hJ _ _ _ ⟨by simp only [if_pos h1], isB_1, hH⟩

def sp_R_byteOf (c : Nat) (G0 : Mem) (a1 : Int32) : Int32 :=
  (if (G0 c 7) = 0 then ((-1) : Int32) else ((iu (G0 c 6) (32 - (8 * (a1 + 1)))) &&& (255 : Int32)))
set_option maxHeartbeats 4000000 in
set_option maxRecDepth 100000 in
theorem c_R_byteOf (l : Launch) (P : gP) (G0 : Mem) (c : Nat) (a1 : Int32) (hc : kR c) : gMri l y_R_byteOf b_R_byteOf 2 (some .int) ({ frames := 0, cells := 0, slots := 0, locals := 0 }) [.ref (gad P c), .int a1] P G0 (sp_R_byteOf c G0 a1) := by
  refine Met.ofW (cc := b_R_byteOf) (maxL := 2) (ret := (some .int)) (by decide) rfl ?_
  intro p e s m args below meth c0 s₁ B hml hv
  obtain ⟨rfl, hpre⟩ := hv
  obtain ⟨E, hH⟩ := gE_of B hml hpre
  replace E : gE p s m _ meth c0 P "FramedLine$Receiver" b_R_byteOf 2 (some .int) := E
  have hcU := hc
  unfold kR at hcU
  have hx := E.1
  have hb := E.2.1
  have hl := lv_entry ([.ref (gad P c), .int a1]) (n := 2) (Nat.le_of_ble_eq_true rfl)
  rw [lg_entry_eq]
  generalize (lg_sl ([.ref (gad P c), .int a1]) ++ List.replicate (2 - (lg_sl ([.ref (gad P c), .int a1])).length) Slot.unset).toArray = ls at hl ⊢
  replace hl : lv_has ls 2 [(0, .ref (gad P c)), (1, .int a1)] := hl
  have hsp : sp_R_byteOf c G0 a1 = sp_R_byteOf c G0 a1 := rfl
  refine lv_aload_n hx hb d_R_byteOf_0 rfl (lv_at hl 0 rfl) ?_
  refine g_geti (v := (G0 c 7)) E hH (gc_R hc) cl_R 7 (by decide) lf_R_44 (fun _ => rfl) rfl d_R_byteOf_1 ?_
  refine lv_if_ne (tgt := 9) hx hb d_R_byteOf_4 (by decide) (fun h1 => ?_) (fun h1 => ?_)
  · refine lv_aload_n hx hb d_R_byteOf_9 rfl (lv_at hl 0 rfl) ?_
    refine g_geti (v := (G0 c 6)) E hH (gc_R hc) cl_R 6 (by decide) lf_R_41 (fun _ => rfl) rfl d_R_byteOf_10 ?_
    refine lv_bipush (v := 32) hx hb d_R_byteOf_13 (by decide) ?_
    refine lv_bipush (v := 8) hx hb d_R_byteOf_15 (by decide) ?_
    refine lv_iload_n hx hb d_R_byteOf_17 rfl (lv_at hl 1 rfl) ?_
    refine lv_iconst (v := 1) hx hb d_R_byteOf_18 (by decide) ?_
    refine lv_iadd hx hb d_R_byteOf_19 ?_
    refine lv_imul hx hb d_R_byteOf_20 ?_
    refine lv_isub hx hb d_R_byteOf_21 ?_
    refine lv_iushr (v := (iu (G0 c 6) (32 - (8 * (a1 + 1))))) hx hb d_R_byteOf_22 rfl ?_
    refine lv_sipush (v := 255) hx hb d_R_byteOf_23 (by decide) ?_
    refine lv_iand hx hb d_R_byteOf_26 ?_
    exact g_riret E hH (hsp.trans (by simp only [sp_R_byteOf, if_neg h1])) d_R_byteOf_27
  · refine lv_iconst (v := (-1)) hx hb d_R_byteOf_7 (by decide) ?_
    exact g_riret E hH (hsp.trans (by simp only [sp_R_byteOf, if_pos h1])) d_R_byteOf_8

def sp_R_wordStands (c : Nat) (G0 : Mem)  : Int32 :=
  ((if ((G0 c 2) &&& (127 : Int32)) = 27 then 1 else 0) : Int32)
set_option maxHeartbeats 4000000 in
set_option maxRecDepth 100000 in
theorem c_R_wordStands (l : Launch) (P : gP) (G0 : Mem) (c : Nat)  (hc : kR c) : gMrz l y_R_wordStands b_R_wordStands 1 (some .boolean) ({ frames := 0, cells := 0, slots := 0, locals := 0 }) [.ref (gad P c)] P G0 (sp_R_wordStands c G0) := by
  refine Met.ofW (cc := b_R_wordStands) (maxL := 1) (ret := (some .boolean)) (by decide) rfl ?_
  intro p e s m args below meth c0 s₁ B hml hv
  obtain ⟨rfl, hpre⟩ := hv
  obtain ⟨E, hH⟩ := gE_of B hml hpre
  replace E : gE p s m _ meth c0 P "FramedLine$Receiver" b_R_wordStands 1 (some .boolean) := E
  have hcU := hc
  unfold kR at hcU
  have hx := E.1
  have hb := E.2.1
  have hl := lv_entry ([.ref (gad P c)]) (n := 1) (Nat.le_of_ble_eq_true rfl)
  rw [lg_entry_eq]
  generalize (lg_sl ([.ref (gad P c)]) ++ List.replicate (1 - (lg_sl ([.ref (gad P c)])).length) Slot.unset).toArray = ls at hl ⊢
  replace hl : lv_has ls 1 [(0, .ref (gad P c))] := hl
  have hsp : sp_R_wordStands c G0 = sp_R_wordStands c G0 := rfl
  refine lv_aload_n hx hb d_R_wordStands_0 rfl (lv_at hl 0 rfl) ?_
  refine g_geti (v := (G0 c 2)) E hH (gc_R hc) cl_R 2 (by decide) lf_R_27 (fun _ => rfl) rfl d_R_wordStands_1 ?_
  refine lv_bipush (v := 127) hx hb d_R_wordStands_4 (by decide) ?_
  refine lv_iand hx hb d_R_wordStands_6 ?_
  refine lv_bipush (v := 27) hx hb d_R_wordStands_7 (by decide) ?_
  refine jn (α := Int32) (fun z H1 locs1 => z = ((if ((G0 c 2) &&& (127 : Int32)) = 27 then 1 else 0) : Int32) ∧ isB z ∧ gH P s G0 H1 locs1) (fun z => F0 m 17 ls (.int z :: [])) (fun z H locs h9 => ?_) (fun hJ => ?_)
  · obtain ⟨rfl, hz17, hH⟩ := h9
    exact g_rzret E hH (hsp.trans (by rw [sp_R_wordStands])) hz17 d_R_wordStands_17
  · refine lv_icmp_ne (tgt := 16) hx hb d_R_wordStands_9 (by decide) (fun h1 => ?_) (fun h1 => ?_)
    · refine lv_iconst (v := 0) hx hb d_R_wordStands_16 (by decide) ?_
      exact hJ _ _ _ ⟨by simp only [if_neg h1], isB_0, hH⟩
    · refine lv_iconst (v := 1) hx hb d_R_wordStands_12 (by decide) ?_
      refine lv_goto (tgt := 17) hx hb d_R_wordStands_13 (by decide) ?_
      exact hJ _ _ _ ⟨by simp only [if_pos h1], isB_1, hH⟩

def sp_R_enter (c : Nat) (G0 : Mem) (a1 : Int32) : Mem :=
  (wr (wr G0 c 1 a1) c 3 0)
set_option maxHeartbeats 4000000 in
set_option maxRecDepth 100000 in
theorem c_R_enter (l : Launch) (P : gP) (G0 : Mem) (c : Nat) (a1 : Int32) (hc : kR c) : gMv l y_R_enter b_R_enter 2 none ({ frames := 0, cells := 0, slots := 0, locals := 0 }) [.ref (gad P c), .ref (gae P a1)] P G0 (sp_R_enter c G0 a1) := by
  refine Met.ofW (cc := b_R_enter) (maxL := 2) (ret := none) (by decide) rfl ?_
  intro p e s m args below meth c0 s₁ B hml hv
  obtain ⟨rfl, hpre⟩ := hv
  obtain ⟨E, hH⟩ := gE_of B hml hpre
  replace E : gE p s m _ meth c0 P "FramedLine$Receiver" b_R_enter 2 none := E
  have hcU := hc
  unfold kR at hcU
  have hx := E.1
  have hb := E.2.1
  have hl := lv_entry ([.ref (gad P c), .ref (gae P a1)]) (n := 2) (Nat.le_of_ble_eq_true rfl)
  rw [lg_entry_eq]
  generalize (lg_sl ([.ref (gad P c), .ref (gae P a1)]) ++ List.replicate (2 - (lg_sl ([.ref (gad P c), .ref (gae P a1)])).length) Slot.unset).toArray = ls at hl ⊢
  replace hl : lv_has ls 2 [(0, .ref (gad P c)), (1, .ref (gae P a1))] := hl
  have hsp : sp_R_enter c G0 a1 = sp_R_enter c G0 a1 := rfl
  refine lv_aload_n hx hb d_R_enter_0 rfl (lv_at hl 0 rfl) ?_
  refine lv_aload_n hx hb d_R_enter_1 rfl (lv_at hl 1 rfl) ?_
  refine g_pute E hH (gc_R hc) cl_R ct_R 1 (by decide) lf_R_24 rfl (by decide +kernel) (fun _ _ => rfl) (Nat.le_of_ble_eq_true rfl) d_R_enter_2 (fun H locs hH => ?_)
  refine lv_aload_n hx hb d_R_enter_5 rfl (lv_at hl 0 rfl) ?_
  refine lv_iconst (v := 0) hx hb d_R_enter_6 (by decide) ?_
  refine g_puti E hH (gc_R hc) cl_R ct_R 3 (by decide) lf_R_31 rfl (by decide +kernel) (fun _ _ => rfl) (Nat.le_of_ble_eq_true rfl) d_R_enter_7 (fun H locs hH => ?_)
  exact g_vret E hH (hsp.trans (by rw [sp_R_enter])) d_R_enter_10

def sp_R_search (c : Nat) (G0 : Mem)  : Mem :=
  (if (G0 c 3) < 7 then G0 else (if ((sp_R_wordStands c G0)) = 0 then G0 else (sp_R_enter c G0 1)))
set_option maxHeartbeats 4000000 in
set_option maxRecDepth 100000 in
theorem c_R_search (l : Launch) (P : gP) (G0 : Mem) (c : Nat)  (hc : kR c) : gMv l y_R_search b_R_search 1 none ({ frames := 1, cells := 0, slots := 0, locals := 21 }) [.ref (gad P c)] P G0 (sp_R_search c G0) := by
  refine Met.ofW (cc := b_R_search) (maxL := 1) (ret := none) (by decide) rfl ?_
  intro p e s m args below meth c0 s₁ B hml hv
  obtain ⟨rfl, hpre⟩ := hv
  obtain ⟨E, hH⟩ := gE_of B hml hpre
  replace E : gE p s m _ meth c0 P "FramedLine$Receiver" b_R_search 1 none := E
  have hcU := hc
  unfold kR at hcU
  have hx := E.1
  have hb := E.2.1
  have hl := lv_entry ([.ref (gad P c)]) (n := 1) (Nat.le_of_ble_eq_true rfl)
  rw [lg_entry_eq]
  generalize (lg_sl ([.ref (gad P c)]) ++ List.replicate (1 - (lg_sl ([.ref (gad P c)])).length) Slot.unset).toArray = ls at hl ⊢
  replace hl : lv_has ls 1 [(0, .ref (gad P c))] := hl
  have hsp : sp_R_search c G0 = sp_R_search c G0 := rfl
  refine lv_aload_n hx hb d_R_search_0 rfl (lv_at hl 0 rfl) ?_
  refine g_geti (v := (G0 c 3)) E hH (gc_R hc) cl_R 3 (by decide) lf_R_31 (fun _ => rfl) rfl d_R_search_1 ?_
  refine lv_bipush (v := 7) hx hb d_R_search_4 (by decide) ?_
  refine lv_icmp_lt (tgt := 23) hx hb d_R_search_6 (by decide) (fun h1 => ?_) (fun h1 => ?_)
  · exact g_vret E hH (hsp.trans (by simp only [sp_R_search, if_pos h1])) d_R_search_23
  · refine lv_aload_n hx hb d_R_search_9 rfl (lv_at hl 0 rfl) ?_
    refine g_callVrz (As := []) E hH hl (c_R_wordStands l P _ c hc) lm_R_72 (gc_R hc) cl_R (Nat.le_of_ble_eq_true rfl) (Nat.le_of_ble_eq_true rfl) (Nat.le_of_ble_eq_true rfl) (Nat.le_of_ble_eq_true rfl) (Nat.le_of_ble_eq_true rfl) rfl rfl rfl rfl d_R_search_10 (fun H locs hH hz10 => ?_)
    refine lv_if_eq (tgt := 23) hx hb d_R_search_13 (by decide) (fun h2 => ?_) (fun h2 => ?_)
    · exact g_vret E hH (hsp.trans (by simp only [sp_R_search, if_neg h1, if_pos h2])) d_R_search_23
    · refine lv_aload_n hx hb d_R_search_16 rfl (lv_at hl 0 rfl) ?_
      refine g_gets (x := 1) E hH 1 (by decide) (by decide) lf_R_59 d_R_search_17 ?_
      refine g_callVv (As := [.ref (gae P 1)]) E hH hl (c_R_enter l P _ c _ hc) lm_R_76 (gc_R hc) cl_R (Nat.le_of_ble_eq_true rfl) (Nat.le_of_ble_eq_true rfl) (Nat.le_of_ble_eq_true rfl) (Nat.le_of_ble_eq_true rfl) (Nat.le_of_ble_eq_true rfl) rfl rfl rfl rfl d_R_search_20 (fun H locs hH => ?_)
      exact g_vret E hH (hsp.trans (by simp only [sp_R_search, if_neg h1, if_neg h2])) d_R_search_23

def sp_R_align (c : Nat) (G0 : Mem)  : Mem :=
  (wr (wr (wr (sp_R_enter c G0 2) c 3 8) c 4 0) c 5 0)
set_option maxHeartbeats 4000000 in
set_option maxRecDepth 100000 in
theorem c_R_align (l : Launch) (P : gP) (G0 : Mem) (c : Nat)  (hc : kR c) : gMv l y_R_align b_R_align 1 none ({ frames := 1, cells := 0, slots := 0, locals := 21 }) [.ref (gad P c)] P G0 (sp_R_align c G0) := by
  refine Met.ofW (cc := b_R_align) (maxL := 1) (ret := none) (by decide) rfl ?_
  intro p e s m args below meth c0 s₁ B hml hv
  obtain ⟨rfl, hpre⟩ := hv
  obtain ⟨E, hH⟩ := gE_of B hml hpre
  replace E : gE p s m _ meth c0 P "FramedLine$Receiver" b_R_align 1 none := E
  have hcU := hc
  unfold kR at hcU
  have hx := E.1
  have hb := E.2.1
  have hl := lv_entry ([.ref (gad P c)]) (n := 1) (Nat.le_of_ble_eq_true rfl)
  rw [lg_entry_eq]
  generalize (lg_sl ([.ref (gad P c)]) ++ List.replicate (1 - (lg_sl ([.ref (gad P c)])).length) Slot.unset).toArray = ls at hl ⊢
  replace hl : lv_has ls 1 [(0, .ref (gad P c))] := hl
  have hsp : sp_R_align c G0 = sp_R_align c G0 := rfl
  refine lv_aload_n hx hb d_R_align_0 rfl (lv_at hl 0 rfl) ?_
  refine g_gets (x := 2) E hH 2 (by decide) (by decide) lf_R_53 d_R_align_1 ?_
  refine g_callVv (As := [.ref (gae P 2)]) E hH hl (c_R_enter l P _ c _ hc) lm_R_76 (gc_R hc) cl_R (Nat.le_of_ble_eq_true rfl) (Nat.le_of_ble_eq_true rfl) (Nat.le_of_ble_eq_true rfl) (Nat.le_of_ble_eq_true rfl) (Nat.le_of_ble_eq_true rfl) rfl rfl rfl rfl d_R_align_4 (fun H locs hH => ?_)
  refine lv_aload_n hx hb d_R_align_7 rfl (lv_at hl 0 rfl) ?_
  refine lv_bipush (v := 8) hx hb d_R_align_8 (by decide) ?_
  refine g_puti E hH (gc_R hc) cl_R ct_R 3 (by decide) lf_R_31 rfl (by decide +kernel) (fun _ _ => rfl) (Nat.le_of_ble_eq_true rfl) d_R_align_10 (fun H locs hH => ?_)
  refine lv_aload_n hx hb d_R_align_13 rfl (lv_at hl 0 rfl) ?_
  refine lv_iconst (v := 0) hx hb d_R_align_14 (by decide) ?_
  refine g_putz E hH (gc_R hc) cl_R ct_R 4 (by decide) lf_R_34 rfl (by decide +kernel) (set_R4 _ _) isB_0 (Nat.le_of_ble_eq_true rfl) d_R_align_15 (fun H locs hH => ?_)
  refine lv_aload_n hx hb d_R_align_18 rfl (lv_at hl 0 rfl) ?_
  refine lv_iconst (v := 0) hx hb d_R_align_19 (by decide) ?_
  refine g_puti E hH (gc_R hc) cl_R ct_R 5 (by decide) lf_R_38 rfl (by decide +kernel) (fun _ _ => rfl) (Nat.le_of_ble_eq_true rfl) d_R_align_20 (fun H locs hH => ?_)
  exact g_vret E hH (hsp.trans (by rw [sp_R_align])) d_R_align_23

def sp_R_tryWord (c : Nat) (G0 : Mem) (a1 : Int32) : Mem :=
  (if (G0 c 3) = 26 then (if a1 = 0 then (sp_R_enter c G0 0) else (if (G0 c 3) = 64 then (if ((sp_R_wordStands c G0)) = 0 then (sp_R_enter c G0 0) else (sp_R_align c G0)) else G0)) else (if (G0 c 3) = 64 then (if ((sp_R_wordStands c G0)) = 0 then (sp_R_enter c G0 0) else (sp_R_align c G0)) else G0))
set_option maxHeartbeats 4000000 in
set_option maxRecDepth 100000 in
theorem c_R_tryWord (l : Launch) (P : gP) (G0 : Mem) (c : Nat) (a1 : Int32) (hc : kR c) : gMv l y_R_tryWord b_R_tryWord 2 none ({ frames := 2, cells := 0, slots := 0, locals := 41 }) [.ref (gad P c), .int a1] P G0 (sp_R_tryWord c G0 a1) := by
  refine Met.ofW (cc := b_R_tryWord) (maxL := 2) (ret := none) (by decide) rfl ?_
  intro p e s m args below meth c0 s₁ B hml hv
  obtain ⟨rfl, hpre⟩ := hv
  obtain ⟨E, hH⟩ := gE_of B hml hpre
  replace E : gE p s m _ meth c0 P "FramedLine$Receiver" b_R_tryWord 2 none := E
  have hcU := hc
  unfold kR at hcU
  have hx := E.1
  have hb := E.2.1
  have hl := lv_entry ([.ref (gad P c), .int a1]) (n := 2) (Nat.le_of_ble_eq_true rfl)
  rw [lg_entry_eq]
  generalize (lg_sl ([.ref (gad P c), .int a1]) ++ List.replicate (2 - (lg_sl ([.ref (gad P c), .int a1])).length) Slot.unset).toArray = ls at hl ⊢
  replace hl : lv_has ls 2 [(0, .ref (gad P c)), (1, .int a1)] := hl
  have hsp : sp_R_tryWord c G0 a1 = sp_R_tryWord c G0 a1 := rfl
  refine lv_aload_n hx hb d_R_tryWord_0 rfl (lv_at hl 0 rfl) ?_
  refine g_geti (v := (G0 c 3)) E hH (gc_R hc) cl_R 3 (by decide) lf_R_31 (fun _ => rfl) rfl d_R_tryWord_1 ?_
  refine lv_bipush (v := 26) hx hb d_R_tryWord_4 (by decide) ?_
  refine lv_icmp_ne (tgt := 23) hx hb d_R_tryWord_6 (by decide) (fun h1 => ?_) (fun h1 => ?_)
  · refine lv_aload_n hx hb d_R_tryWord_23 rfl (lv_at hl 0 rfl) ?_
    refine g_geti (v := (G0 c 3)) E hH (gc_R hc) cl_R 3 (by decide) lf_R_31 (fun _ => rfl) rfl d_R_tryWord_24 ?_
    refine lv_bipush (v := 64) hx hb d_R_tryWord_27 (by decide) ?_
    refine lv_icmp_ne (tgt := 53) hx hb d_R_tryWord_29 (by decide) (fun h2 => ?_) (fun h2 => ?_)
    · exact g_vret E hH (hsp.trans (by simp only [sp_R_tryWord, if_neg h1, if_neg h2])) d_R_tryWord_53
    · refine lv_aload_n hx hb d_R_tryWord_32 rfl (lv_at hl 0 rfl) ?_
      refine g_callVrz (As := []) E hH hl (c_R_wordStands l P _ c hc) lm_R_72 (gc_R hc) cl_R (Nat.le_of_ble_eq_true rfl) (Nat.le_of_ble_eq_true rfl) (Nat.le_of_ble_eq_true rfl) (Nat.le_of_ble_eq_true rfl) (Nat.le_of_ble_eq_true rfl) rfl rfl rfl rfl d_R_tryWord_33 (fun H locs hH hz33 => ?_)
      refine lv_if_eq (tgt := 46) hx hb d_R_tryWord_36 (by decide) (fun h3 => ?_) (fun h3 => ?_)
      · refine lv_aload_n hx hb d_R_tryWord_46 rfl (lv_at hl 0 rfl) ?_
        refine g_gets (x := 0) E hH 0 (by decide) (by decide) lf_R_18 d_R_tryWord_47 ?_
        refine g_callVv (As := [.ref (gae P 0)]) E hH hl (c_R_enter l P _ c _ hc) lm_R_76 (gc_R hc) cl_R (Nat.le_of_ble_eq_true rfl) (Nat.le_of_ble_eq_true rfl) (Nat.le_of_ble_eq_true rfl) (Nat.le_of_ble_eq_true rfl) (Nat.le_of_ble_eq_true rfl) rfl rfl rfl rfl d_R_tryWord_50 (fun H locs hH => ?_)
        exact g_vret E hH (hsp.trans (by simp only [sp_R_tryWord, if_neg h1, if_pos h2, if_pos h3])) d_R_tryWord_53
      · refine lv_aload_n hx hb d_R_tryWord_39 rfl (lv_at hl 0 rfl) ?_
        refine g_callVv (As := []) E hH hl (c_R_align l P _ c hc) lm_R_80 (gc_R hc) cl_R (Nat.le_of_ble_eq_true rfl) (Nat.le_of_ble_eq_true rfl) (Nat.le_of_ble_eq_true rfl) (Nat.le_of_ble_eq_true rfl) (Nat.le_of_ble_eq_true rfl) rfl rfl rfl rfl d_R_tryWord_40 (fun H locs hH => ?_)
        refine lv_goto (tgt := 53) hx hb d_R_tryWord_43 (by decide) ?_
        exact g_vret E hH (hsp.trans (by simp only [sp_R_tryWord, if_neg h1, if_pos h2, if_neg h3])) d_R_tryWord_53
  · refine lv_iload_n hx hb d_R_tryWord_9 rfl (lv_at hl 1 rfl) ?_
    refine lv_if_ne (tgt := 23) hx hb d_R_tryWord_10 (by decide) (fun h4 => ?_) (fun h4 => ?_)
    · refine lv_aload_n hx hb d_R_tryWord_23 rfl (lv_at hl 0 rfl) ?_
      refine g_geti (v := (G0 c 3)) E hH (gc_R hc) cl_R 3 (by decide) lf_R_31 (fun _ => rfl) rfl d_R_tryWord_24 ?_
      refine lv_bipush (v := 64) hx hb d_R_tryWord_27 (by decide) ?_
      refine lv_icmp_ne (tgt := 53) hx hb d_R_tryWord_29 (by decide) (fun h5 => ?_) (fun h5 => ?_)
      · exact g_vret E hH (hsp.trans (by simp only [sp_R_tryWord, if_pos h1, if_neg h4, if_neg h5])) d_R_tryWord_53
      · refine lv_aload_n hx hb d_R_tryWord_32 rfl (lv_at hl 0 rfl) ?_
        refine g_callVrz (As := []) E hH hl (c_R_wordStands l P _ c hc) lm_R_72 (gc_R hc) cl_R (Nat.le_of_ble_eq_true rfl) (Nat.le_of_ble_eq_true rfl) (Nat.le_of_ble_eq_true rfl) (Nat.le_of_ble_eq_true rfl) (Nat.le_of_ble_eq_true rfl) rfl rfl rfl rfl d_R_tryWord_33 (fun H locs hH hz33 => ?_)
        refine lv_if_eq (tgt := 46) hx hb d_R_tryWord_36 (by decide) (fun h6 => ?_) (fun h6 => ?_)
        · refine lv_aload_n hx hb d_R_tryWord_46 rfl (lv_at hl 0 rfl) ?_
          refine g_gets (x := 0) E hH 0 (by decide) (by decide) lf_R_18 d_R_tryWord_47 ?_
          refine g_callVv (As := [.ref (gae P 0)]) E hH hl (c_R_enter l P _ c _ hc) lm_R_76 (gc_R hc) cl_R (Nat.le_of_ble_eq_true rfl) (Nat.le_of_ble_eq_true rfl) (Nat.le_of_ble_eq_true rfl) (Nat.le_of_ble_eq_true rfl) (Nat.le_of_ble_eq_true rfl) rfl rfl rfl rfl d_R_tryWord_50 (fun H locs hH => ?_)
          exact g_vret E hH (hsp.trans (by simp only [sp_R_tryWord, if_pos h1, if_neg h4, if_pos h5, if_pos h6])) d_R_tryWord_53
        · refine lv_aload_n hx hb d_R_tryWord_39 rfl (lv_at hl 0 rfl) ?_
          refine g_callVv (As := []) E hH hl (c_R_align l P _ c hc) lm_R_80 (gc_R hc) cl_R (Nat.le_of_ble_eq_true rfl) (Nat.le_of_ble_eq_true rfl) (Nat.le_of_ble_eq_true rfl) (Nat.le_of_ble_eq_true rfl) (Nat.le_of_ble_eq_true rfl) rfl rfl rfl rfl d_R_tryWord_40 (fun H locs hH => ?_)
          refine lv_goto (tgt := 53) hx hb d_R_tryWord_43 (by decide) ?_
          exact g_vret E hH (hsp.trans (by simp only [sp_R_tryWord, if_pos h1, if_neg h4, if_pos h5, if_neg h6])) d_R_tryWord_53
    · refine lv_aload_n hx hb d_R_tryWord_13 rfl (lv_at hl 0 rfl) ?_
      refine g_gets (x := 0) E hH 0 (by decide) (by decide) lf_R_18 d_R_tryWord_14 ?_
      refine g_callVv (As := [.ref (gae P 0)]) E hH hl (c_R_enter l P _ c _ hc) lm_R_76 (gc_R hc) cl_R (Nat.le_of_ble_eq_true rfl) (Nat.le_of_ble_eq_true rfl) (Nat.le_of_ble_eq_true rfl) (Nat.le_of_ble_eq_true rfl) (Nat.le_of_ble_eq_true rfl) rfl rfl rfl rfl d_R_tryWord_17 (fun H locs hH => ?_)
      refine lv_goto (tgt := 53) hx hb d_R_tryWord_20 (by decide) ?_
      exact g_vret E hH (hsp.trans (by simp only [sp_R_tryWord, if_pos h1, if_pos h4])) d_R_tryWord_53

def sp_R_lookAtWord (c : Nat) (G0 : Mem)  : Mem :=
  (if ((if ((sp_R_wordStands c G0)) = 0 then ((G0 c 5) + 1) else 0) : Int32) = 3 then (sp_O_startAnew (c + 1) (sp_R_enter c (wr (wr G0 c 5 ((if ((sp_R_wordStands c G0)) = 0 then ((G0 c 5) + 1) else 0) : Int32)) c 8 ((G0 c 8) + 1)) 0)) else (wr G0 c 5 ((if ((sp_R_wordStands c G0)) = 0 then ((G0 c 5) + 1) else 0) : Int32)))
set_option maxHeartbeats 4000000 in
set_option maxRecDepth 100000 in
theorem c_R_lookAtWord (l : Launch) (P : gP) (G0 : Mem) (c : Nat)  (hc : kR c) : gMv l y_R_lookAtWord b_R_lookAtWord 1 none ({ frames := 2, cells := 0, slots := 0, locals := 40 }) [.ref (gad P c)] P G0 (sp_R_lookAtWord c G0) := by
  refine Met.ofW (cc := b_R_lookAtWord) (maxL := 1) (ret := none) (by decide) rfl ?_
  intro p e s m args below meth c0 s₁ B hml hv
  obtain ⟨rfl, hpre⟩ := hv
  obtain ⟨E, hH⟩ := gE_of B hml hpre
  replace E : gE p s m _ meth c0 P "FramedLine$Receiver" b_R_lookAtWord 1 none := E
  have hcU := hc
  unfold kR at hcU
  have hx := E.1
  have hb := E.2.1
  have hl := lv_entry ([.ref (gad P c)]) (n := 1) (Nat.le_of_ble_eq_true rfl)
  rw [lg_entry_eq]
  generalize (lg_sl ([.ref (gad P c)]) ++ List.replicate (1 - (lg_sl ([.ref (gad P c)])).length) Slot.unset).toArray = ls at hl ⊢
  replace hl : lv_has ls 1 [(0, .ref (gad P c))] := hl
  have hsp : sp_R_lookAtWord c G0 = sp_R_lookAtWord c G0 := rfl
  refine lv_aload_n hx hb d_R_lookAtWord_0 rfl (lv_at hl 0 rfl) ?_
  refine lv_aload_n hx hb d_R_lookAtWord_1 rfl (lv_at hl 0 rfl) ?_
  refine g_callVrz (As := []) E hH hl (c_R_wordStands l P _ c hc) lm_R_72 (gc_R hc) cl_R (Nat.le_of_ble_eq_true rfl) (Nat.le_of_ble_eq_true rfl) (Nat.le_of_ble_eq_true rfl) (Nat.le_of_ble_eq_true rfl) (Nat.le_of_ble_eq_true rfl) rfl rfl rfl rfl d_R_lookAtWord_2 (fun H locs hH hz2 => ?_)
  refine jn (α := Int32) (fun z H1 locs1 => z = ((if ((sp_R_wordStands c G0)) = 0 then ((G0 c 5) + 1) else 0) : Int32) ∧ gH P s G0 H1 locs1) (fun z => F0 m 18 ls (.int z :: .ref (gad P c) :: [])) (fun z H locs h9 => ?_) (fun hJ => ?_)
  · obtain ⟨rfl, hH⟩ := h9
    refine g_puti E hH (gc_R hc) cl_R ct_R 5 (by decide) lf_R_38 rfl (by decide +kernel) (fun _ _ => rfl) (Nat.le_of_ble_eq_true rfl) d_R_lookAtWord_18 (fun H locs hH => ?_)
    refine lv_aload_n hx hb d_R_lookAtWord_21 rfl (lv_at hl 0 rfl) ?_
    refine g_geti (v := ((if ((sp_R_wordStands c G0)) = 0 then ((G0 c 5) + 1) else 0) : Int32)) E hH (gc_R hc) cl_R 5 (by decide) lf_R_38 (fun _ => rfl) (wr_same _ _ _ _) d_R_lookAtWord_22 ?_
    refine lv_iconst (v := 3) hx hb d_R_lookAtWord_25 (by decide) ?_
    refine lv_icmp_ne (tgt := 53) hx hb d_R_lookAtWord_26 (by decide) (fun h1 => ?_) (fun h1 => ?_)
    · exact g_vret E hH (hsp.trans (by simp only [sp_R_lookAtWord, if_neg h1])) d_R_lookAtWord_53
    · refine lv_aload_n hx hb d_R_lookAtWord_29 rfl (lv_at hl 0 rfl) ?_
      refine lv_dup hx hb d_R_lookAtWord_30 rfl ?_
      refine g_geti (v := (G0 c 8)) E hH (gc_R hc) cl_R 8 (by decide) lf_R_47 (fun _ => rfl) (wr_k _ _ _ _ (by decide)) d_R_lookAtWord_31 ?_
      refine lv_iconst (v := 1) hx hb d_R_lookAtWord_34 (by decide) ?_
      refine lv_iadd hx hb d_R_lookAtWord_35 ?_
      refine g_puti E hH (gc_R hc) cl_R ct_R 8 (by decide) lf_R_47 rfl (by decide +kernel) (fun _ _ => rfl) (Nat.le_of_ble_eq_true rfl) d_R_lookAtWord_36 (fun H locs hH => ?_)
      refine lv_aload_n hx hb d_R_lookAtWord_39 rfl (lv_at hl 0 rfl) ?_
      refine g_gets (x := 0) E hH 0 (by decide) (by decide) lf_R_18 d_R_lookAtWord_40 ?_
      refine g_callVv (As := [.ref (gae P 0)]) E hH hl (c_R_enter l P _ c _ hc) lm_R_76 (gc_R hc) cl_R (Nat.le_of_ble_eq_true rfl) (Nat.le_of_ble_eq_true rfl) (Nat.le_of_ble_eq_true rfl) (Nat.le_of_ble_eq_true rfl) (Nat.le_of_ble_eq_true rfl) rfl rfl rfl rfl d_R_lookAtWord_43 (fun H locs hH => ?_)
      refine lv_aload_n hx hb d_R_lookAtWord_46 rfl (lv_at hl 0 rfl) ?_
      refine g_get E hH (gc_R hc) cl_R 0 (by decide) lf_R_12 rfl d_R_lookAtWord_47 ?_
      refine g_callVv (As := []) E hH hl (c_O_startAnew l P _ (c + 1) (kR_rounds hc)) lm_R_83 (gc_O (kR_rounds hc)) cl_O (Nat.le_of_ble_eq_true rfl) (Nat.le_of_ble_eq_true rfl) (Nat.le_of_ble_eq_true rfl) (Nat.le_of_ble_eq_true rfl) (Nat.le_of_ble_eq_true rfl) rfl rfl rfl rfl d_R_lookAtWord_50 (fun H locs hH => ?_)
      exact g_vret E hH (hsp.trans (by simp only [sp_R_lookAtWord, if_pos h1])) d_R_lookAtWord_53
  · refine lv_if_eq (tgt := 12) hx hb d_R_lookAtWord_5 (by decide) (fun h2 => ?_) (fun h2 => ?_)
    · refine lv_aload_n hx hb d_R_lookAtWord_12 rfl (lv_at hl 0 rfl) ?_
      refine g_geti (v := (G0 c 5)) E hH (gc_R hc) cl_R 5 (by decide) lf_R_38 (fun _ => rfl) rfl d_R_lookAtWord_13 ?_
      refine lv_iconst (v := 1) hx hb d_R_lookAtWord_16 (by decide) ?_
      refine lv_iadd hx hb d_R_lookAtWord_17 ?_
      exact hJ _ _ _ ⟨by simp only [if_pos h2], hH⟩
    · refine lv_iconst (v := 0) hx hb d_R_lookAtWord_8 (by decide) ?_
      refine lv_goto (tgt := 18) hx hb d_R_lookAtWord_9 (by decide) ?_
      exact hJ _ _ _ ⟨by simp only [if_neg h2], hH⟩

def sp_R_complete (c : Nat) (G0 : Mem)  : Mem :=
  (if (zb (G0 c 4)) = 0 then (wr (wr (sp_O_takeFrame (c + 1) (wr (wr G0 c 6 (G0 c 2)) c 7 ((G0 c 7) + 1)) (G0 c 2) (zb (G0 c 4))) c 4 ((if (zb ((sp_O_takeFrame (c + 1) (wr (wr G0 c 6 (G0 c 2)) c 7 ((G0 c 7) + 1)) (G0 c 2) (zb (G0 c 4))) c 4)) = 0 then 1 else 0) : Int32)) c 3 0) else (wr (wr (sp_O_takeFrame (c + 1) (wr (wr (wr G0 c 6 (G0 c 2)) c 7 ((G0 c 7) + 1)) c 9 ((if (((sp_R_byteOf c (wr (wr G0 c 6 (G0 c 2)) c 7 ((G0 c 7) + 1)) 0)) &&& (32 : Int32)) = 0 then 0 else 1) : Int32)) (G0 c 2) (zb (G0 c 4))) c 4 ((if (zb ((sp_O_takeFrame (c + 1) (wr (wr (wr G0 c 6 (G0 c 2)) c 7 ((G0 c 7) + 1)) c 9 ((if (((sp_R_byteOf c (wr (wr G0 c 6 (G0 c 2)) c 7 ((G0 c 7) + 1)) 0)) &&& (32 : Int32)) = 0 then 0 else 1) : Int32)) (G0 c 2) (zb (G0 c 4))) c 4)) = 0 then 1 else 0) : Int32)) c 3 0))
set_option maxHeartbeats 4000000 in
set_option maxRecDepth 100000 in
theorem c_R_complete (l : Launch) (P : gP) (G0 : Mem) (c : Nat)  (hc : kR c) : gMv l y_R_complete b_R_complete 1 none ({ frames := 3, cells := 0, slots := 0, locals := 64 }) [.ref (gad P c)] P G0 (sp_R_complete c G0) := by
  refine Met.ofW (cc := b_R_complete) (maxL := 1) (ret := none) (by decide) rfl ?_
  intro p e s m args below meth c0 s₁ B hml hv
  obtain ⟨rfl, hpre⟩ := hv
  obtain ⟨E, hH⟩ := gE_of B hml hpre
  replace E : gE p s m _ meth c0 P "FramedLine$Receiver" b_R_complete 1 none := E
  have hcU := hc
  unfold kR at hcU
  have hx := E.1
  have hb := E.2.1
  have hl := lv_entry ([.ref (gad P c)]) (n := 1) (Nat.le_of_ble_eq_true rfl)
  rw [lg_entry_eq]
  generalize (lg_sl ([.ref (gad P c)]) ++ List.replicate (1 - (lg_sl ([.ref (gad P c)])).length) Slot.unset).toArray = ls at hl ⊢
  replace hl : lv_has ls 1 [(0, .ref (gad P c))] := hl
  have hsp : sp_R_complete c G0 = sp_R_complete c G0 := rfl
  refine lv_aload_n hx hb d_R_complete_0 rfl (lv_at hl 0 rfl) ?_
  refine lv_aload_n hx hb d_R_complete_1 rfl (lv_at hl 0 rfl) ?_
  refine g_geti (v := (G0 c 2)) E hH (gc_R hc) cl_R 2 (by decide) lf_R_27 (fun _ => rfl) rfl d_R_complete_2 ?_
  refine g_puti E hH (gc_R hc) cl_R ct_R 6 (by decide) lf_R_41 rfl (by decide +kernel) (fun _ _ => rfl) (Nat.le_of_ble_eq_true rfl) d_R_complete_5 (fun H locs hH => ?_)
  refine lv_aload_n hx hb d_R_complete_8 rfl (lv_at hl 0 rfl) ?_
  refine lv_dup hx hb d_R_complete_9 rfl ?_
  refine g_geti (v := (G0 c 7)) E hH (gc_R hc) cl_R 7 (by decide) lf_R_44 (fun _ => rfl) (wr_k _ _ _ _ (by decide)) d_R_complete_10 ?_
  refine lv_iconst (v := 1) hx hb d_R_complete_13 (by decide) ?_
  refine lv_iadd hx hb d_R_complete_14 ?_
  refine g_puti E hH (gc_R hc) cl_R ct_R 7 (by decide) lf_R_44 rfl (by decide +kernel) (fun _ _ => rfl) (Nat.le_of_ble_eq_true rfl) d_R_complete_15 (fun H locs hH => ?_)
  refine lv_aload_n hx hb d_R_complete_18 rfl (lv_at hl 0 rfl) ?_
  refine g_getz (v := (G0 c 4)) E hH (gc_R hc) cl_R 4 (by decide) lf_R_34 (fun _ => rfl) ((wr_k _ _ _ _ (by decide)).trans (wr_k _ _ _ _ (by decide))) d_R_complete_19 ?_
  refine lv_if_eq (tgt := 45) hx hb d_R_complete_22 (by decide) (fun h1 => ?_) (fun h1 => ?_)
  · refine lv_aload_n hx hb d_R_complete_45 rfl (lv_at hl 0 rfl) ?_
    refine g_get E hH (gc_R hc) cl_R 0 (by decide) lf_R_12 rfl d_R_complete_46 ?_
    refine lv_aload_n hx hb d_R_complete_49 rfl (lv_at hl 0 rfl) ?_
    refine g_geti (v := (G0 c 2)) E hH (gc_R hc) cl_R 6 (by decide) lf_R_41 (fun _ => rfl) ((wr_k _ _ _ _ (by decide)).trans (wr_same _ _ _ _)) d_R_complete_50 ?_
    refine lv_aload_n hx hb d_R_complete_53 rfl (lv_at hl 0 rfl) ?_
    refine g_getz (v := (G0 c 4)) E hH (gc_R hc) cl_R 4 (by decide) lf_R_34 (fun _ => rfl) ((wr_k _ _ _ _ (by decide)).trans (wr_k _ _ _ _ (by decide))) d_R_complete_54 ?_
    refine g_callVv (As := [.int _, .int _]) E hH hl (c_O_takeFrame l P _ (c + 1) _ _ (kR_rounds hc)) lm_R_90 (gc_O (kR_rounds hc)) cl_O (Nat.le_of_ble_eq_true rfl) (Nat.le_of_ble_eq_true rfl) (Nat.le_of_ble_eq_true rfl) (Nat.le_of_ble_eq_true rfl) (Nat.le_of_ble_eq_true rfl) rfl rfl rfl rfl d_R_complete_57 (fun H locs hH => ?_)
    refine lv_aload_n hx hb d_R_complete_60 rfl (lv_at hl 0 rfl) ?_
    refine lv_aload_n hx hb d_R_complete_61 rfl (lv_at hl 0 rfl) ?_
    refine g_getz (v := ((sp_O_takeFrame (c + 1) (wr (wr G0 c 6 (G0 c 2)) c 7 ((G0 c 7) + 1)) (G0 c 2) (zb (G0 c 4))) c 4)) E hH (gc_R hc) cl_R 4 (by decide) lf_R_34 (fun _ => rfl) rfl d_R_complete_62 ?_
    refine jn (α := Int32) (fun z H1 locs1 => z = ((if (zb ((sp_O_takeFrame (c + 1) (wr (wr G0 c 6 (G0 c 2)) c 7 ((G0 c 7) + 1)) (G0 c 2) (zb (G0 c 4))) c 4)) = 0 then 1 else 0) : Int32) ∧ isB z ∧ gH P s (sp_O_takeFrame (c + 1) (wr (wr G0 c 6 (G0 c 2)) c 7 ((G0 c 7) + 1)) (G0 c 2) (zb (G0 c 4))) H1 locs1) (fun z => F0 m 73 ls (.int z :: .ref (gad P c) :: [])) (fun z H locs h9 => ?_) (fun hJ => ?_)
    · obtain ⟨rfl, hz73, hH⟩ := h9
      refine g_putz E hH (gc_R hc) cl_R ct_R 4 (by decide) lf_R_34 rfl (by decide +kernel) (set_R4 _ _) hz73 (Nat.le_of_ble_eq_true rfl) d_R_complete_73 (fun H locs hH => ?_)
      refine lv_aload_n hx hb d_R_complete_76 rfl (lv_at hl 0 rfl) ?_
      refine lv_iconst (v := 0) hx hb d_R_complete_77 (by decide) ?_
      refine g_puti E hH (gc_R hc) cl_R ct_R 3 (by decide) lf_R_31 rfl (by decide +kernel) (fun _ _ => rfl) (Nat.le_of_ble_eq_true rfl) d_R_complete_78 (fun H locs hH => ?_)
      exact g_vret E hH (hsp.trans (by simp only [sp_R_complete, if_pos h1])) d_R_complete_81
    · refine lv_if_ne (tgt := 72) hx hb d_R_complete_65 (by decide) (fun h2 => ?_) (fun h2 => ?_)
      · refine lv_iconst (v := 0) hx hb d_R_complete_72 (by decide) ?_
        exact hJ _ _ _ ⟨by simp only [if_neg h2], isB_0, hH⟩
      · refine lv_iconst (v := 1) hx hb d_R_complete_68 (by decide) ?_
        refine lv_goto (tgt := 73) hx hb d_R_complete_69 (by decide) ?_
        exact hJ _ _ _ ⟨by simp only [if_pos h2], isB_1, hH⟩
  · refine lv_aload_n hx hb d_R_complete_25 rfl (lv_at hl 0 rfl) ?_
    refine lv_aload_n hx hb d_R_complete_26 rfl (lv_at hl 0 rfl) ?_
    refine lv_iconst (v := 0) hx hb d_R_complete_27 (by decide) ?_
    refine g_callVri (As := [.int _]) E hH hl (c_R_byteOf l P _ c _ hc) lm_R_86 (gc_R hc) cl_R (Nat.le_of_ble_eq_true rfl) (Nat.le_of_ble_eq_true rfl) (Nat.le_of_ble_eq_true rfl) (Nat.le_of_ble_eq_true rfl) (Nat.le_of_ble_eq_true rfl) rfl rfl rfl rfl d_R_complete_28 (fun H locs hH => ?_)
    refine lv_bipush (v := 32) hx hb d_R_complete_31 (by decide) ?_
    refine lv_iand hx hb d_R_complete_33 ?_
    refine jn (α := Int32) (fun z H1 locs1 => z = ((if (((sp_R_byteOf c (wr (wr G0 c 6 (G0 c 2)) c 7 ((G0 c 7) + 1)) 0)) &&& (32 : Int32)) = 0 then 0 else 1) : Int32) ∧ isB z ∧ gH P s (wr (wr G0 c 6 (G0 c 2)) c 7 ((G0 c 7) + 1)) H1 locs1) (fun z => F0 m 42 ls (.int z :: .ref (gad P c) :: [])) (fun z H locs h9 => ?_) (fun hJ => ?_)
    · obtain ⟨rfl, hz42, hH⟩ := h9
      refine g_putz E hH (gc_R hc) cl_R ct_R 9 (by decide) lf_R_50 rfl (by decide +kernel) (set_R9 _ _) hz42 (Nat.le_of_ble_eq_true rfl) d_R_complete_42 (fun H locs hH => ?_)
      refine lv_aload_n hx hb d_R_complete_45 rfl (lv_at hl 0 rfl) ?_
      refine g_get E hH (gc_R hc) cl_R 0 (by decide) lf_R_12 rfl d_R_complete_46 ?_
      refine lv_aload_n hx hb d_R_complete_49 rfl (lv_at hl 0 rfl) ?_
      refine g_geti (v := (G0 c 2)) E hH (gc_R hc) cl_R 6 (by decide) lf_R_41 (fun _ => rfl) ((wr_k _ _ _ _ (by decide)).trans ((wr_k _ _ _ _ (by decide)).trans (wr_same _ _ _ _))) d_R_complete_50 ?_
      refine lv_aload_n hx hb d_R_complete_53 rfl (lv_at hl 0 rfl) ?_
      refine g_getz (v := (G0 c 4)) E hH (gc_R hc) cl_R 4 (by decide) lf_R_34 (fun _ => rfl) ((wr_k _ _ _ _ (by decide)).trans ((wr_k _ _ _ _ (by decide)).trans (wr_k _ _ _ _ (by decide)))) d_R_complete_54 ?_
      refine g_callVv (As := [.int _, .int _]) E hH hl (c_O_takeFrame l P _ (c + 1) _ _ (kR_rounds hc)) lm_R_90 (gc_O (kR_rounds hc)) cl_O (Nat.le_of_ble_eq_true rfl) (Nat.le_of_ble_eq_true rfl) (Nat.le_of_ble_eq_true rfl) (Nat.le_of_ble_eq_true rfl) (Nat.le_of_ble_eq_true rfl) rfl rfl rfl rfl d_R_complete_57 (fun H locs hH => ?_)
      refine lv_aload_n hx hb d_R_complete_60 rfl (lv_at hl 0 rfl) ?_
      refine lv_aload_n hx hb d_R_complete_61 rfl (lv_at hl 0 rfl) ?_
      refine g_getz (v := ((sp_O_takeFrame (c + 1) (wr (wr (wr G0 c 6 (G0 c 2)) c 7 ((G0 c 7) + 1)) c 9 ((if (((sp_R_byteOf c (wr (wr G0 c 6 (G0 c 2)) c 7 ((G0 c 7) + 1)) 0)) &&& (32 : Int32)) = 0 then 0 else 1) : Int32)) (G0 c 2) (zb (G0 c 4))) c 4)) E hH (gc_R hc) cl_R 4 (by decide) lf_R_34 (fun _ => rfl) rfl d_R_complete_62 ?_
      refine jn (α := Int32) (fun z H1 locs1 => z = ((if (zb ((sp_O_takeFrame (c + 1) (wr (wr (wr G0 c 6 (G0 c 2)) c 7 ((G0 c 7) + 1)) c 9 ((if (((sp_R_byteOf c (wr (wr G0 c 6 (G0 c 2)) c 7 ((G0 c 7) + 1)) 0)) &&& (32 : Int32)) = 0 then 0 else 1) : Int32)) (G0 c 2) (zb (G0 c 4))) c 4)) = 0 then 1 else 0) : Int32) ∧ isB z ∧ gH P s (sp_O_takeFrame (c + 1) (wr (wr (wr G0 c 6 (G0 c 2)) c 7 ((G0 c 7) + 1)) c 9 ((if (((sp_R_byteOf c (wr (wr G0 c 6 (G0 c 2)) c 7 ((G0 c 7) + 1)) 0)) &&& (32 : Int32)) = 0 then 0 else 1) : Int32)) (G0 c 2) (zb (G0 c 4))) H1 locs1) (fun z => F0 m 73 ls (.int z :: .ref (gad P c) :: [])) (fun z H locs h9 => ?_) (fun hJ => ?_)
      · obtain ⟨rfl, hz73, hH⟩ := h9
        refine g_putz E hH (gc_R hc) cl_R ct_R 4 (by decide) lf_R_34 rfl (by decide +kernel) (set_R4 _ _) hz73 (Nat.le_of_ble_eq_true rfl) d_R_complete_73 (fun H locs hH => ?_)
        refine lv_aload_n hx hb d_R_complete_76 rfl (lv_at hl 0 rfl) ?_
        refine lv_iconst (v := 0) hx hb d_R_complete_77 (by decide) ?_
        refine g_puti E hH (gc_R hc) cl_R ct_R 3 (by decide) lf_R_31 rfl (by decide +kernel) (fun _ _ => rfl) (Nat.le_of_ble_eq_true rfl) d_R_complete_78 (fun H locs hH => ?_)
        exact g_vret E hH (hsp.trans (by simp only [sp_R_complete, if_neg h1])) d_R_complete_81
      · refine lv_if_ne (tgt := 72) hx hb d_R_complete_65 (by decide) (fun h3 => ?_) (fun h3 => ?_)
        · refine lv_iconst (v := 0) hx hb d_R_complete_72 (by decide) ?_
          exact hJ _ _ _ ⟨by simp only [if_neg h3], isB_0, hH⟩
        · refine lv_iconst (v := 1) hx hb d_R_complete_68 (by decide) ?_
          refine lv_goto (tgt := 73) hx hb d_R_complete_69 (by decide) ?_
          exact hJ _ _ _ ⟨by simp only [if_pos h3], isB_1, hH⟩
    · refine lv_if_eq (tgt := 41) hx hb d_R_complete_34 (by decide) (fun h4 => ?_) (fun h4 => ?_)
      · refine lv_iconst (v := 0) hx hb d_R_complete_41 (by decide) ?_
        exact hJ _ _ _ ⟨by simp only [if_pos h4], isB_0, hH⟩
      · refine lv_iconst (v := 1) hx hb d_R_complete_37 (by decide) ?_
        refine lv_goto (tgt := 42) hx hb d_R_complete_38 (by decide) ?_
        exact hJ _ _ _ ⟨by simp only [if_neg h4], isB_1, hH⟩

def sp_R_takeBit (c : Nat) (G0 : Mem) (a1 : Int32) : Mem :=
  (if n3 (G0 c 1) = n3 0 then (sp_R_search c (wr (wr G0 c 2 (((G0 c 2) <<< ((1 : Int32) &&& 31)) ||| a1)) c 3 ((G0 c 3) + 1))) else (if n3 (G0 c 1) = n3 1 then (sp_R_tryWord c (wr (wr G0 c 2 (((G0 c 2) <<< ((1 : Int32) &&& 31)) ||| a1)) c 3 ((G0 c 3) + 1)) a1) else (if ((G0 c 3) + 1) = 32 then (sp_R_complete c (wr (wr G0 c 2 (((G0 c 2) <<< ((1 : Int32) &&& 31)) ||| a1)) c 3 ((G0 c 3) + 1))) else (if ((G0 c 3) + 1) = 8 then (if (zb (G0 c 4)) = 0 then (sp_R_lookAtWord c (wr (wr G0 c 2 (((G0 c 2) <<< ((1 : Int32) &&& 31)) ||| a1)) c 3 ((G0 c 3) + 1))) else (wr (wr G0 c 2 (((G0 c 2) <<< ((1 : Int32) &&& 31)) ||| a1)) c 3 ((G0 c 3) + 1))) else (wr (wr G0 c 2 (((G0 c 2) <<< ((1 : Int32) &&& 31)) ||| a1)) c 3 ((G0 c 3) + 1))))))
set_option maxHeartbeats 4000000 in
set_option maxRecDepth 100000 in
theorem c_R_takeBit (l : Launch) (P : gP) (G0 : Mem) (c : Nat) (a1 : Int32) (hc : kR c) : gMv l y_R_takeBit b_R_takeBit 2 none ({ frames := 4, cells := 0, slots := 0, locals := 84 }) [.ref (gad P c), .int a1] P G0 (sp_R_takeBit c G0 a1) := by
  refine Met.ofW (cc := b_R_takeBit) (maxL := 2) (ret := none) (by decide) rfl ?_
  intro p e s m args below meth c0 s₁ B hml hv
  obtain ⟨rfl, hpre⟩ := hv
  obtain ⟨E, hH⟩ := gE_of B hml hpre
  replace E : gE p s m _ meth c0 P "FramedLine$Receiver" b_R_takeBit 2 none := E
  have hcU := hc
  unfold kR at hcU
  have hx := E.1
  have hb := E.2.1
  have hl := lv_entry ([.ref (gad P c), .int a1]) (n := 2) (Nat.le_of_ble_eq_true rfl)
  rw [lg_entry_eq]
  generalize (lg_sl ([.ref (gad P c), .int a1]) ++ List.replicate (2 - (lg_sl ([.ref (gad P c), .int a1])).length) Slot.unset).toArray = ls at hl ⊢
  replace hl : lv_has ls 2 [(0, .ref (gad P c)), (1, .int a1)] := hl
  have hsp : sp_R_takeBit c G0 a1 = sp_R_takeBit c G0 a1 := rfl
  refine lv_aload_n hx hb d_R_takeBit_0 rfl (lv_at hl 0 rfl) ?_
  refine lv_aload_n hx hb d_R_takeBit_1 rfl (lv_at hl 0 rfl) ?_
  refine g_geti (v := (G0 c 2)) E hH (gc_R hc) cl_R 2 (by decide) lf_R_27 (fun _ => rfl) rfl d_R_takeBit_2 ?_
  refine lv_iconst (v := 1) hx hb d_R_takeBit_5 (by decide) ?_
  refine lv_ishl hx hb d_R_takeBit_6 ?_
  refine lv_iload_n hx hb d_R_takeBit_7 rfl (lv_at hl 1 rfl) ?_
  refine lv_ior hx hb d_R_takeBit_8 ?_
  refine g_puti E hH (gc_R hc) cl_R ct_R 2 (by decide) lf_R_27 rfl (by decide +kernel) (fun _ _ => rfl) (Nat.le_of_ble_eq_true rfl) d_R_takeBit_9 (fun H locs hH => ?_)
  refine lv_aload_n hx hb d_R_takeBit_12 rfl (lv_at hl 0 rfl) ?_
  refine lv_dup hx hb d_R_takeBit_13 rfl ?_
  refine g_geti (v := (G0 c 3)) E hH (gc_R hc) cl_R 3 (by decide) lf_R_31 (fun _ => rfl) (wr_k _ _ _ _ (by decide)) d_R_takeBit_14 ?_
  refine lv_iconst (v := 1) hx hb d_R_takeBit_17 (by decide) ?_
  refine lv_iadd hx hb d_R_takeBit_18 ?_
  refine g_puti E hH (gc_R hc) cl_R ct_R 3 (by decide) lf_R_31 rfl (by decide +kernel) (fun _ _ => rfl) (Nat.le_of_ble_eq_true rfl) d_R_takeBit_19 (fun H locs hH => ?_)
  refine lv_aload_n hx hb d_R_takeBit_22 rfl (lv_at hl 0 rfl) ?_
  refine g_gete (v := (G0 c 1)) E hH (gc_R hc) cl_R 1 (by decide) lf_R_24 (fun _ => rfl) ((wr_k _ _ _ _ (by decide)).trans (wr_k _ _ _ _ (by decide))) d_R_takeBit_23 ?_
  refine g_gets (x := 0) E hH 0 (by decide) (by decide) lf_R_18 d_R_takeBit_26 ?_
  refine g_acmp_ne (tgt := 39) E hb d_R_takeBit_29 (by decide) (fun h1 => ?_) (fun h1 => ?_)
  · refine lv_aload_n hx hb d_R_takeBit_39 rfl (lv_at hl 0 rfl) ?_
    refine g_gete (v := (G0 c 1)) E hH (gc_R hc) cl_R 1 (by decide) lf_R_24 (fun _ => rfl) ((wr_k _ _ _ _ (by decide)).trans (wr_k _ _ _ _ (by decide))) d_R_takeBit_40 ?_
    refine g_gets (x := 1) E hH 1 (by decide) (by decide) lf_R_59 d_R_takeBit_43 ?_
    refine g_acmp_ne (tgt := 57) E hb d_R_takeBit_46 (by decide) (fun h2 => ?_) (fun h2 => ?_)
    · refine lv_aload_n hx hb d_R_takeBit_57 rfl (lv_at hl 0 rfl) ?_
      refine g_geti (v := ((G0 c 3) + 1)) E hH (gc_R hc) cl_R 3 (by decide) lf_R_31 (fun _ => rfl) (wr_same _ _ _ _) d_R_takeBit_58 ?_
      refine lv_bipush (v := 32) hx hb d_R_takeBit_61 (by decide) ?_
      refine lv_icmp_ne (tgt := 73) hx hb d_R_takeBit_63 (by decide) (fun h3 => ?_) (fun h3 => ?_)
      · refine lv_aload_n hx hb d_R_takeBit_73 rfl (lv_at hl 0 rfl) ?_
        refine g_geti (v := ((G0 c 3) + 1)) E hH (gc_R hc) cl_R 3 (by decide) lf_R_31 (fun _ => rfl) (wr_same _ _ _ _) d_R_takeBit_74 ?_
        refine lv_bipush (v := 8) hx hb d_R_takeBit_77 (by decide) ?_
        refine lv_icmp_ne (tgt := 93) hx hb d_R_takeBit_79 (by decide) (fun h4 => ?_) (fun h4 => ?_)
        · exact g_vret E hH (hsp.trans (by simp only [sp_R_takeBit, if_neg h1, if_neg h2, if_neg h3, if_neg h4])) d_R_takeBit_93
        · refine lv_aload_n hx hb d_R_takeBit_82 rfl (lv_at hl 0 rfl) ?_
          refine g_getz (v := (G0 c 4)) E hH (gc_R hc) cl_R 4 (by decide) lf_R_34 (fun _ => rfl) ((wr_k _ _ _ _ (by decide)).trans (wr_k _ _ _ _ (by decide))) d_R_takeBit_83 ?_
          refine lv_if_ne (tgt := 93) hx hb d_R_takeBit_86 (by decide) (fun h5 => ?_) (fun h5 => ?_)
          · exact g_vret E hH (hsp.trans (by simp only [sp_R_takeBit, if_neg h1, if_neg h2, if_neg h3, if_pos h4, if_neg h5])) d_R_takeBit_93
          · refine lv_aload_n hx hb d_R_takeBit_89 rfl (lv_at hl 0 rfl) ?_
            refine g_callVv (As := []) E hH hl (c_R_lookAtWord l P _ c hc) lm_R_69 (gc_R hc) cl_R (Nat.le_of_ble_eq_true rfl) (Nat.le_of_ble_eq_true rfl) (Nat.le_of_ble_eq_true rfl) (Nat.le_of_ble_eq_true rfl) (Nat.le_of_ble_eq_true rfl) rfl rfl rfl rfl d_R_takeBit_90 (fun H locs hH => ?_)
            exact g_vret E hH (hsp.trans (by simp only [sp_R_takeBit, if_neg h1, if_neg h2, if_neg h3, if_pos h4, if_pos h5])) d_R_takeBit_93
      · refine lv_aload_n hx hb d_R_takeBit_66 rfl (lv_at hl 0 rfl) ?_
        refine g_callVv (As := []) E hH hl (c_R_complete l P _ c hc) lm_R_66 (gc_R hc) cl_R (Nat.le_of_ble_eq_true rfl) (Nat.le_of_ble_eq_true rfl) (Nat.le_of_ble_eq_true rfl) (Nat.le_of_ble_eq_true rfl) (Nat.le_of_ble_eq_true rfl) rfl rfl rfl rfl d_R_takeBit_67 (fun H locs hH => ?_)
        refine lv_goto (tgt := 93) hx hb d_R_takeBit_70 (by decide) ?_
        exact g_vret E hH (hsp.trans (by simp only [sp_R_takeBit, if_neg h1, if_neg h2, if_pos h3])) d_R_takeBit_93
    · refine lv_aload_n hx hb d_R_takeBit_49 rfl (lv_at hl 0 rfl) ?_
      refine lv_iload_n hx hb d_R_takeBit_50 rfl (lv_at hl 1 rfl) ?_
      refine g_callVv (As := [.int _]) E hH hl (c_R_tryWord l P _ c _ hc) lm_R_62 (gc_R hc) cl_R (Nat.le_of_ble_eq_true rfl) (Nat.le_of_ble_eq_true rfl) (Nat.le_of_ble_eq_true rfl) (Nat.le_of_ble_eq_true rfl) (Nat.le_of_ble_eq_true rfl) rfl rfl rfl rfl d_R_takeBit_51 (fun H locs hH => ?_)
      refine lv_goto (tgt := 93) hx hb d_R_takeBit_54 (by decide) ?_
      exact g_vret E hH (hsp.trans (by simp only [sp_R_takeBit, if_neg h1, if_pos h2])) d_R_takeBit_93
  · refine lv_aload_n hx hb d_R_takeBit_32 rfl (lv_at hl 0 rfl) ?_
    refine g_callVv (As := []) E hH hl (c_R_search l P _ c hc) lm_R_56 (gc_R hc) cl_R (Nat.le_of_ble_eq_true rfl) (Nat.le_of_ble_eq_true rfl) (Nat.le_of_ble_eq_true rfl) (Nat.le_of_ble_eq_true rfl) (Nat.le_of_ble_eq_true rfl) rfl rfl rfl rfl d_R_takeBit_33 (fun H locs hH => ?_)
    refine lv_goto (tgt := 93) hx hb d_R_takeBit_36 (by decide) ?_
    exact g_vret E hH (hsp.trans (by simp only [sp_R_takeBit, if_pos h1])) d_R_takeBit_93
end
section
def sp_S_exchange (c : Nat) (G0 : Mem) (a1 : Int32) (a2 : Int32) : Int32 × Mem :=
  ((G0 (c + 1) (tn a1)), (wr G0 (c + 1) (tn a1) a2))
set_option maxHeartbeats 4000000 in
set_option maxRecDepth 100000 in
theorem c_S_exchange (l : Launch) (P : gP) (G0 : Mem) (c : Nat) (a1 : Int32) (a2 : Int32) (hc : kS c) (hi : vp_in a1 4) : gMi l y_S_exchange b_S_exchange 4 (some .int) ({ frames := 0, cells := 0, slots := 0, locals := 0 }) [.ref (gad P c), .int a1, .int a2] P G0 (sp_S_exchange c G0 a1 a2) := by
  refine Met.ofW (cc := b_S_exchange) (maxL := 4) (ret := (some .int)) (by decide) rfl ?_
  intro p e s m args below meth c0 s₁ B hml hv
  obtain ⟨rfl, hpre⟩ := hv
  obtain ⟨E, hH⟩ := gE_of B hml hpre
  replace E : gE p s m _ meth c0 P "FramedLine$Sender" b_S_exchange 4 (some .int) := E
  have hcU := hc
  unfold kS at hcU
  have hx := E.1
  have hb := E.2.1
  have hl := lv_entry ([.ref (gad P c), .int a1, .int a2]) (n := 4) (Nat.le_of_ble_eq_true rfl)
  rw [lg_entry_eq]
  generalize (lg_sl ([.ref (gad P c), .int a1, .int a2]) ++ List.replicate (4 - (lg_sl ([.ref (gad P c), .int a1, .int a2])).length) Slot.unset).toArray = ls at hl ⊢
  replace hl : lv_has ls 4 [(0, .ref (gad P c)), (1, .int a1), (2, .int a2)] := hl
  have hsp : sp_S_exchange c G0 a1 a2 = sp_S_exchange c G0 a1 a2 := rfl
  refine lv_aload_n hx hb d_S_exchange_0 rfl (lv_at hl 0 rfl) ?_
  refine g_get E hH (gc_S hc) cl_S 0 (by decide) lf_S_9 rfl d_S_exchange_1 ?_
  refine lv_iload_n hx hb d_S_exchange_4 rfl (lv_at hl 1 rfl) ?_
  refine g_iaload (k := (tn a1)) (v := (G0 (c + 1) (tn a1))) E hH (ga_I4 (kS_loaded hc)) hi rfl rfl d_S_exchange_5 ?_
  refine lv_istore_n hx hb d_S_exchange_6 rfl hl (by decide) rfl (fun ls hl => ?_)
  refine lv_aload_n hx hb d_S_exchange_7 rfl (lv_at hl 1 rfl) ?_
  refine g_get E hH (gc_S hc) cl_S 0 (by decide) lf_S_9 rfl d_S_exchange_8 ?_
  refine lv_iload_n hx hb d_S_exchange_11 rfl (lv_at hl 2 rfl) ?_
  refine lv_iload_n hx hb d_S_exchange_12 rfl (lv_at hl 3 rfl) ?_
  refine g_iastore (k := (tn a1)) E hH (ga_I4 (kS_loaded hc)) hi rfl d_S_exchange_13 (fun H locs hH => ?_)
  refine lv_iload_n hx hb d_S_exchange_14 rfl (lv_at hl 0 rfl) ?_
  exact g_iret E hH (hsp.trans (by rw [sp_S_exchange])) d_S_exchange_15

def sp_S_isBetweenFrames (c : Nat) (G0 : Mem)  : Int32 :=
  ((if (G0 c 3) = 32 then 1 else 0) : Int32)
set_option maxHeartbeats 4000000 in
set_option maxRecDepth 100000 in
theorem c_S_isBetweenFrames (l : Launch) (P : gP) (G0 : Mem) (c : Nat)  (hc : kS c) : gMrz l y_S_isBetweenFrames b_S_isBetweenFrames 1 (some .boolean) ({ frames := 0, cells := 0, slots := 0, locals := 0 }) [.ref (gad P c)] P G0 (sp_S_isBetweenFrames c G0) := by
  refine Met.ofW (cc := b_S_isBetweenFrames) (maxL := 1) (ret := (some .boolean)) (by decide) rfl ?_
  intro p e s m args below meth c0 s₁ B hml hv
  obtain ⟨rfl, hpre⟩ := hv
  obtain ⟨E, hH⟩ := gE_of B hml hpre
  replace E : gE p s m _ meth c0 P "FramedLine$Sender" b_S_isBetweenFrames 1 (some .boolean) := E
  have hcU := hc
  unfold kS at hcU
  have hx := E.1
  have hb := E.2.1
  have hl := lv_entry ([.ref (gad P c)]) (n := 1) (Nat.le_of_ble_eq_true rfl)
  rw [lg_entry_eq]
  generalize (lg_sl ([.ref (gad P c)]) ++ List.replicate (1 - (lg_sl ([.ref (gad P c)])).length) Slot.unset).toArray = ls at hl ⊢
  replace hl : lv_has ls 1 [(0, .ref (gad P c))] := hl
  have hsp : sp_S_isBetweenFrames c G0 = sp_S_isBetweenFrames c G0 := rfl
  refine lv_aload_n hx hb d_S_isBetweenFrames_0 rfl (lv_at hl 0 rfl) ?_
  refine g_geti (v := (G0 c 3)) E hH (gc_S hc) cl_S 3 (by decide) lf_S_22 (fun _ => rfl) rfl d_S_isBetweenFrames_1 ?_
  refine lv_bipush (v := 32) hx hb d_S_isBetweenFrames_4 (by decide) ?_
  refine jn (α := Int32) (fun z H1 locs1 => z = ((if (G0 c 3) = 32 then 1 else 0) : Int32) ∧ isB z ∧ gH P s G0 H1 locs1) (fun z => F0 m 14 ls (.int z :: [])) (fun z H locs h9 => ?_) (fun hJ => ?_)
  · obtain ⟨rfl, hz14, hH⟩ := h9
    exact g_rzret E hH (hsp.trans (by rw [sp_S_isBetweenFrames])) hz14 d_S_isBetweenFrames_14
  · refine lv_icmp_ne (tgt := 13) hx hb d_S_isBetweenFrames_6 (by decide) (fun h1 => ?_) (fun h1 => ?_)
    · refine lv_iconst (v := 0) hx hb d_S_isBetweenFrames_13 (by decide) ?_
      exact hJ _ _ _ ⟨by simp only [if_neg h1], isB_0, hH⟩
    · refine lv_iconst (v := 1) hx hb d_S_isBetweenFrames_9 (by decide) ?_
      refine lv_goto (tgt := 14) hx hb d_S_isBetweenFrames_10 (by decide) ?_
      exact hJ _ _ _ ⟨by simp only [if_pos h1], isB_1, hH⟩

def sp_S_nextBit (c : Nat) (G0 : Mem)  : Int32 × Mem :=
  (((iu (G0 c 2) (32 - ((G0 c 3) + 1))) &&& (1 : Int32)), (wr G0 c 3 ((G0 c 3) + 1)))
set_option maxHeartbeats 4000000 in
set_option maxRecDepth 100000 in
theorem c_S_nextBit (l : Launch) (P : gP) (G0 : Mem) (c : Nat)  (hc : kS c) : gMi l y_S_nextBit b_S_nextBit 1 (some .int) ({ frames := 0, cells := 0, slots := 0, locals := 0 }) [.ref (gad P c)] P G0 (sp_S_nextBit c G0) := by
  refine Met.ofW (cc := b_S_nextBit) (maxL := 1) (ret := (some .int)) (by decide) rfl ?_
  intro p e s m args below meth c0 s₁ B hml hv
  obtain ⟨rfl, hpre⟩ := hv
  obtain ⟨E, hH⟩ := gE_of B hml hpre
  replace E : gE p s m _ meth c0 P "FramedLine$Sender" b_S_nextBit 1 (some .int) := E
  have hcU := hc
  unfold kS at hcU
  have hx := E.1
  have hb := E.2.1
  have hl := lv_entry ([.ref (gad P c)]) (n := 1) (Nat.le_of_ble_eq_true rfl)
  rw [lg_entry_eq]
  generalize (lg_sl ([.ref (gad P c)]) ++ List.replicate (1 - (lg_sl ([.ref (gad P c)])).length) Slot.unset).toArray = ls at hl ⊢
  replace hl : lv_has ls 1 [(0, .ref (gad P c))] := hl
  have hsp : sp_S_nextBit c G0 = sp_S_nextBit c G0 := rfl
  refine lv_aload_n hx hb d_S_nextBit_0 rfl (lv_at hl 0 rfl) ?_
  refine lv_dup hx hb d_S_nextBit_1 rfl ?_
  refine g_geti (v := (G0 c 3)) E hH (gc_S hc) cl_S 3 (by decide) lf_S_22 (fun _ => rfl) rfl d_S_nextBit_2 ?_
  refine lv_iconst (v := 1) hx hb d_S_nextBit_5 (by decide) ?_
  refine lv_iadd hx hb d_S_nextBit_6 ?_
  refine g_puti E hH (gc_S hc) cl_S ct_S 3 (by decide) lf_S_22 rfl (by decide +kernel) (fun _ _ => rfl) (Nat.le_of_ble_eq_true rfl) d_S_nextBit_7 (fun H locs hH => ?_)
  refine lv_aload_n hx hb d_S_nextBit_10 rfl (lv_at hl 0 rfl) ?_
  refine g_geti (v := (G0 c 2)) E hH (gc_S hc) cl_S 2 (by decide) lf_S_19 (fun _ => rfl) (wr_k _ _ _ _ (by decide)) d_S_nextBit_11 ?_
  refine lv_bipush (v := 32) hx hb d_S_nextBit_14 (by decide) ?_
  refine lv_aload_n hx hb d_S_nextBit_16 rfl (lv_at hl 0 rfl) ?_
  refine g_geti (v := ((G0 c 3) + 1)) E hH (gc_S hc) cl_S 3 (by decide) lf_S_22 (fun _ => rfl) (wr_same _ _ _ _) d_S_nextBit_17 ?_
  refine lv_isub hx hb d_S_nextBit_20 ?_
  refine lv_iushr (v := (iu (G0 c 2) (32 - ((G0 c 3) + 1)))) hx hb d_S_nextBit_21 rfl ?_
  refine lv_iconst (v := 1) hx hb d_S_nextBit_22 (by decide) ?_
  refine lv_iand hx hb d_S_nextBit_23 ?_
  exact g_iret E hH (hsp.trans (by rw [sp_S_nextBit])) d_S_nextBit_24

def sp_S_evenSlotZero (c : Nat) (G0 : Mem)  : Int32 :=
  (((((G0 c 5) >>> ((3 - (((G0 c 1) >>> ((1 : Int32) &&& 31)) &&& (3 : Int32))) &&& 31)) &&& (1 : Int32)) <<< ((7 : Int32) &&& 31)) ||| (27 : Int32))
set_option maxHeartbeats 4000000 in
set_option maxRecDepth 100000 in
theorem c_S_evenSlotZero (l : Launch) (P : gP) (G0 : Mem) (c : Nat)  (hc : kS c) : gMri l y_S_evenSlotZero b_S_evenSlotZero 3 (some .int) ({ frames := 0, cells := 0, slots := 0, locals := 0 }) [.ref (gad P c)] P G0 (sp_S_evenSlotZero c G0) := by
  refine Met.ofW (cc := b_S_evenSlotZero) (maxL := 3) (ret := (some .int)) (by decide) rfl ?_
  intro p e s m args below meth c0 s₁ B hml hv
  obtain ⟨rfl, hpre⟩ := hv
  obtain ⟨E, hH⟩ := gE_of B hml hpre
  replace E : gE p s m _ meth c0 P "FramedLine$Sender" b_S_evenSlotZero 3 (some .int) := E
  have hcU := hc
  unfold kS at hcU
  have hx := E.1
  have hb := E.2.1
  have hl := lv_entry ([.ref (gad P c)]) (n := 3) (Nat.le_of_ble_eq_true rfl)
  rw [lg_entry_eq]
  generalize (lg_sl ([.ref (gad P c)]) ++ List.replicate (3 - (lg_sl ([.ref (gad P c)])).length) Slot.unset).toArray = ls at hl ⊢
  replace hl : lv_has ls 3 [(0, .ref (gad P c))] := hl
  have hsp : sp_S_evenSlotZero c G0 = sp_S_evenSlotZero c G0 := rfl
  refine lv_aload_n hx hb d_S_evenSlotZero_0 rfl (lv_at hl 0 rfl) ?_
  refine g_geti (v := (G0 c 1)) E hH (gc_S hc) cl_S 1 (by decide) lf_S_15 (fun _ => rfl) rfl d_S_evenSlotZero_1 ?_
  refine lv_iconst (v := 1) hx hb d_S_evenSlotZero_4 (by decide) ?_
  refine lv_ishr hx hb d_S_evenSlotZero_5 ?_
  refine lv_iconst (v := 3) hx hb d_S_evenSlotZero_6 (by decide) ?_
  refine lv_iand hx hb d_S_evenSlotZero_7 ?_
  refine lv_istore_n hx hb d_S_evenSlotZero_8 rfl hl (by decide) rfl (fun ls hl => ?_)
  refine lv_aload_n hx hb d_S_evenSlotZero_9 rfl (lv_at hl 1 rfl) ?_
  refine g_geti (v := (G0 c 5)) E hH (gc_S hc) cl_S 5 (by decide) lf_S_28 (fun _ => rfl) rfl d_S_evenSlotZero_10 ?_
  refine lv_iconst (v := 3) hx hb d_S_evenSlotZero_13 (by decide) ?_
  refine lv_iload_n hx hb d_S_evenSlotZero_14 rfl (lv_at hl 0 rfl) ?_
  refine lv_isub hx hb d_S_evenSlotZero_15 ?_
  refine lv_ishr hx hb d_S_evenSlotZero_16 ?_
  refine lv_iconst (v := 1) hx hb d_S_evenSlotZero_17 (by decide) ?_
  refine lv_iand hx hb d_S_evenSlotZero_18 ?_
  refine lv_istore_n hx hb d_S_evenSlotZero_19 rfl hl (by decide) rfl (fun ls hl => ?_)
  refine lv_iload_n hx hb d_S_evenSlotZero_20 rfl (lv_at hl 0 rfl) ?_
  refine lv_bipush (v := 7) hx hb d_S_evenSlotZero_21 (by decide) ?_
  refine lv_ishl hx hb d_S_evenSlotZero_23 ?_
  refine lv_bipush (v := 27) hx hb d_S_evenSlotZero_24 (by decide) ?_
  refine lv_ior hx hb d_S_evenSlotZero_26 ?_
  exact g_riret E hH (hsp.trans (by rw [sp_S_evenSlotZero])) d_S_evenSlotZero_27

def sp_S_firstBitOfOdd (c : Nat) (c2 : Nat) (G0 : Mem)  : Int32 :=
  (if 11 < (G0 c 1) then ((if ((if (G0 c 1) = 13 then (zb (G0 c2 9)) else (zb (G0 c2 10))) : Int32) = 0 then 1 else 0) : Int32) else (((11 : Int32) >>> ((5 - ((G0 c 1) >>> ((1 : Int32) &&& 31))) &&& 31)) &&& (1 : Int32)))
set_option maxHeartbeats 4000000 in
set_option maxRecDepth 100000 in
theorem c_S_firstBitOfOdd (l : Launch) (P : gP) (G0 : Mem) (c : Nat) (c2 : Nat)  (hc : kS c) (hc2 : kO c2) : gMri l y_S_firstBitOfOdd b_S_firstBitOfOdd 3 (some .int) ({ frames := 0, cells := 0, slots := 0, locals := 0 }) [.ref (gad P c), .ref (gad P c2)] P G0 (sp_S_firstBitOfOdd c c2 G0) := by
  refine Met.ofW (cc := b_S_firstBitOfOdd) (maxL := 3) (ret := (some .int)) (by decide) rfl ?_
  intro p e s m args below meth c0 s₁ B hml hv
  obtain ⟨rfl, hpre⟩ := hv
  obtain ⟨E, hH⟩ := gE_of B hml hpre
  replace E : gE p s m _ meth c0 P "FramedLine$Sender" b_S_firstBitOfOdd 3 (some .int) := E
  have hcU := hc
  unfold kS at hcU
  have hc2U := hc2
  unfold kO at hc2U
  have hx := E.1
  have hb := E.2.1
  have hl := lv_entry ([.ref (gad P c), .ref (gad P c2)]) (n := 3) (Nat.le_of_ble_eq_true rfl)
  rw [lg_entry_eq]
  generalize (lg_sl ([.ref (gad P c), .ref (gad P c2)]) ++ List.replicate (3 - (lg_sl ([.ref (gad P c), .ref (gad P c2)])).length) Slot.unset).toArray = ls at hl ⊢
  replace hl : lv_has ls 3 [(0, .ref (gad P c)), (1, .ref (gad P c2))] := hl
  have hsp : sp_S_firstBitOfOdd c c2 G0 = sp_S_firstBitOfOdd c c2 G0 := rfl
  refine lv_aload_n hx hb d_S_firstBitOfOdd_0 rfl (lv_at hl 0 rfl) ?_
  refine g_geti (v := (G0 c 1)) E hH (gc_S hc) cl_S 1 (by decide) lf_S_15 (fun _ => rfl) rfl d_S_firstBitOfOdd_1 ?_
  refine lv_bipush (v := 11) hx hb d_S_firstBitOfOdd_4 (by decide) ?_
  refine lv_icmp_gt (tgt := 23) hx hb d_S_firstBitOfOdd_6 (by decide) (fun h1 => ?_) (fun h1 => ?_)
  · refine lv_aload_n hx hb d_S_firstBitOfOdd_23 rfl (lv_at hl 0 rfl) ?_
    refine g_geti (v := (G0 c 1)) E hH (gc_S hc) cl_S 1 (by decide) lf_S_15 (fun _ => rfl) rfl d_S_firstBitOfOdd_24 ?_
    refine lv_bipush (v := 13) hx hb d_S_firstBitOfOdd_27 (by decide) ?_
    refine jn (α := Int32) (fun z H1 locs1 => z = ((if (G0 c 1) = 13 then (zb (G0 c2 9)) else (zb (G0 c2 10))) : Int32) ∧ isB z ∧ gH P s G0 H1 locs1) (fun z => F0 m 43 ls (.int z :: [])) (fun z H locs h9 => ?_) (fun hJ => ?_)
    · obtain ⟨rfl, hz43, hH⟩ := h9
      refine lv_istore_n hx hb d_S_firstBitOfOdd_43 rfl hl (by decide) rfl (fun ls hl => ?_)
      refine lv_iload_n hx hb d_S_firstBitOfOdd_44 rfl (lv_at hl 0 rfl) ?_
      refine jn (α := Int32) (fun z H1 locs1 => z = ((if ((if (G0 c 1) = 13 then (zb (G0 c2 9)) else (zb (G0 c2 10))) : Int32) = 0 then 1 else 0) : Int32) ∧ isB z ∧ gH P s G0 H1 locs1) (fun z => F0 m 53 ls (.int z :: [])) (fun z H locs h9 => ?_) (fun hJ => ?_)
      · obtain ⟨rfl, hz53, hH⟩ := h9
        exact g_riret E hH (hsp.trans (by simp only [sp_S_firstBitOfOdd, if_pos h1])) d_S_firstBitOfOdd_53
      · refine lv_if_eq (tgt := 52) hx hb d_S_firstBitOfOdd_45 (by decide) (fun h2 => ?_) (fun h2 => ?_)
        · refine lv_iconst (v := 1) hx hb d_S_firstBitOfOdd_52 (by decide) ?_
          exact hJ _ _ _ ⟨by simp only [if_pos h2], isB_1, hH⟩
        · refine lv_iconst (v := 0) hx hb d_S_firstBitOfOdd_48 (by decide) ?_
          refine lv_goto (tgt := 53) hx hb d_S_firstBitOfOdd_49 (by decide) ?_
          exact hJ _ _ _ ⟨by simp only [if_neg h2], isB_0, hH⟩
    · refine lv_icmp_ne (tgt := 39) hx hb d_S_firstBitOfOdd_29 (by decide) (fun h3 => ?_) (fun h3 => ?_)
      · refine lv_aload_n hx hb d_S_firstBitOfOdd_39 rfl (lv_at hl 1 rfl) ?_
        refine g_getzN (v := (G0 c2 10)) E hH (gc_O hc2) cl_O 10 (by decide) lf_S_68 (fun _ => rfl) rfl d_S_firstBitOfOdd_40 ?_
        exact hJ _ _ _ ⟨by simp only [if_neg h3], (isB_zb _), hH⟩
      · refine lv_aload_n hx hb d_S_firstBitOfOdd_32 rfl (lv_at hl 1 rfl) ?_
        refine g_getzN (v := (G0 c2 9)) E hH (gc_O hc2) cl_O 9 (by decide) lf_S_62 (fun _ => rfl) rfl d_S_firstBitOfOdd_33 ?_
        refine lv_goto (tgt := 43) hx hb d_S_firstBitOfOdd_36 (by decide) ?_
        exact hJ _ _ _ ⟨by simp only [if_pos h3], (isB_zb _), hH⟩
  · refine lv_bipush (v := 11) hx hb d_S_firstBitOfOdd_9 (by decide) ?_
    refine lv_iconst (v := 5) hx hb d_S_firstBitOfOdd_11 (by decide) ?_
    refine lv_aload_n hx hb d_S_firstBitOfOdd_12 rfl (lv_at hl 0 rfl) ?_
    refine g_geti (v := (G0 c 1)) E hH (gc_S hc) cl_S 1 (by decide) lf_S_15 (fun _ => rfl) rfl d_S_firstBitOfOdd_13 ?_
    refine lv_iconst (v := 1) hx hb d_S_firstBitOfOdd_16 (by decide) ?_
    refine lv_ishr hx hb d_S_firstBitOfOdd_17 ?_
    refine lv_isub hx hb d_S_firstBitOfOdd_18 ?_
    refine lv_ishr hx hb d_S_firstBitOfOdd_19 ?_
    refine lv_iconst (v := 1) hx hb d_S_firstBitOfOdd_20 (by decide) ?_
    refine lv_iand hx hb d_S_firstBitOfOdd_21 ?_
    exact g_riret E hH (hsp.trans (by simp only [sp_S_firstBitOfOdd, if_neg h1])) d_S_firstBitOfOdd_22

def sp_S_oddSlotZero (c : Nat) (c2 : Nat) (G0 : Mem)  : Int32 :=
  (((((sp_S_firstBitOfOdd c (c2 + 1) G0)) <<< ((7 : Int32) &&& 31)) ||| (95 : Int32)) ||| ((if ((sp_R_isAligned c2 G0)) = 0 then 32 else 0) : Int32))
set_option maxHeartbeats 4000000 in
set_option maxRecDepth 100000 in
theorem c_S_oddSlotZero (l : Launch) (P : gP) (G0 : Mem) (c : Nat) (c2 : Nat)  (hc : kS c) (hc2 : kR c2) : gMri l y_S_oddSlotZero b_S_oddSlotZero 3 (some .int) ({ frames := 1, cells := 0, slots := 0, locals := 22 }) [.ref (gad P c), .ref (gad P c2)] P G0 (sp_S_oddSlotZero c c2 G0) := by
  refine Met.ofW (cc := b_S_oddSlotZero) (maxL := 3) (ret := (some .int)) (by decide) rfl ?_
  intro p e s m args below meth c0 s₁ B hml hv
  obtain ⟨rfl, hpre⟩ := hv
  obtain ⟨E, hH⟩ := gE_of B hml hpre
  replace E : gE p s m _ meth c0 P "FramedLine$Sender" b_S_oddSlotZero 3 (some .int) := E
  have hcU := hc
  unfold kS at hcU
  have hc2U := hc2
  unfold kR at hc2U
  have hx := E.1
  have hb := E.2.1
  have hl := lv_entry ([.ref (gad P c), .ref (gad P c2)]) (n := 3) (Nat.le_of_ble_eq_true rfl)
  rw [lg_entry_eq]
  generalize (lg_sl ([.ref (gad P c), .ref (gad P c2)]) ++ List.replicate (3 - (lg_sl ([.ref (gad P c), .ref (gad P c2)])).length) Slot.unset).toArray = ls at hl ⊢
  replace hl : lv_has ls 3 [(0, .ref (gad P c)), (1, .ref (gad P c2))] := hl
  have hsp : sp_S_oddSlotZero c c2 G0 = sp_S_oddSlotZero c c2 G0 := rfl
  refine lv_aload_n hx hb d_S_oddSlotZero_0 rfl (lv_at hl 1 rfl) ?_
  refine g_callVrz (As := []) E hH hl (c_R_isAligned l P _ c2 hc2) lm_S_48 (gc_R hc2) cl_R (Nat.le_of_ble_eq_true rfl) (Nat.le_of_ble_eq_true rfl) (Nat.le_of_ble_eq_true rfl) (Nat.le_of_ble_eq_true rfl) (Nat.le_of_ble_eq_true rfl) rfl rfl rfl rfl d_S_oddSlotZero_1 (fun H locs hH hz1 => ?_)
  refine jn (α := Int32) (fun z H1 locs1 => z = ((if ((sp_R_isAligned c2 G0)) = 0 then 32 else 0) : Int32) ∧ gH P s G0 H1 locs1) (fun z => F0 m 13 ls (.int z :: [])) (fun z H locs h9 => ?_) (fun hJ => ?_)
  · obtain ⟨rfl, hH⟩ := h9
    refine lv_istore_n hx hb d_S_oddSlotZero_13 rfl hl (by decide) rfl (fun ls hl => ?_)
    refine lv_aload_n hx hb d_S_oddSlotZero_14 rfl (lv_at hl 1 rfl) ?_
    refine lv_aload_n hx hb d_S_oddSlotZero_15 rfl (lv_at hl 2 rfl) ?_
    refine g_getN E hH (gc_R hc2) cl_R 0 (by decide) lf_S_54 rfl d_S_oddSlotZero_16 ?_
    refine g_callVri (As := [.ref (gad P (c2 + 1))]) E hH hl (c_S_firstBitOfOdd l P _ c (c2 + 1) hc (kR_rounds hc2)) lm_S_58 (gc_S hc) cl_S (Nat.le_of_ble_eq_true rfl) (Nat.le_of_ble_eq_true rfl) (Nat.le_of_ble_eq_true rfl) (Nat.le_of_ble_eq_true rfl) (Nat.le_of_ble_eq_true rfl) rfl rfl rfl rfl d_S_oddSlotZero_19 (fun H locs hH => ?_)
    refine lv_bipush (v := 7) hx hb d_S_oddSlotZero_22 (by decide) ?_
    refine lv_ishl hx hb d_S_oddSlotZero_24 ?_
    refine lv_bipush (v := 95) hx hb d_S_oddSlotZero_25 (by decide) ?_
    refine lv_ior hx hb d_S_oddSlotZero_27 ?_
    refine lv_iload_n hx hb d_S_oddSlotZero_28 rfl (lv_at hl 0 rfl) ?_
    refine lv_ior hx hb d_S_oddSlotZero_29 ?_
    exact g_riret E hH (hsp.trans (by rw [sp_S_oddSlotZero])) d_S_oddSlotZero_30
  · refine lv_if_eq (tgt := 11) hx hb d_S_oddSlotZero_4 (by decide) (fun h1 => ?_) (fun h1 => ?_)
    · refine lv_bipush (v := 32) hx hb d_S_oddSlotZero_11 (by decide) ?_
      exact hJ _ _ _ ⟨by simp only [if_pos h1], hH⟩
    · refine lv_iconst (v := 0) hx hb d_S_oddSlotZero_7 (by decide) ?_
      refine lv_goto (tgt := 13) hx hb d_S_oddSlotZero_8 (by decide) ?_
      exact hJ _ _ _ ⟨by simp only [if_neg h1], hH⟩

def sp_S_beginFrame (c : Nat) (c2 : Nat) (G0 : Mem)  : Mem :=
  (if ((sp_F_endsHalf (wr (wr (wr G0 c 2 ((((((if ((if ((G0 c 1) &&& (1 : Int32)) = 1 then 1 else 0) : Int32) = 0 then ((sp_S_evenSlotZero c G0)) else ((sp_S_oddSlotZero c c2 G0))) : Int32) <<< ((24 : Int32) &&& 31)) ||| ((G0 (c + 1) 1) <<< ((16 : Int32) &&& 31))) ||| ((G0 (c + 1) 2) <<< ((8 : Int32) &&& 31))) ||| (G0 (c + 1) 3))) c 4 ((sp_F_checkOver (wr G0 c 2 ((((((if ((if ((G0 c 1) &&& (1 : Int32)) = 1 then 1 else 0) : Int32) = 0 then ((sp_S_evenSlotZero c G0)) else ((sp_S_oddSlotZero c c2 G0))) : Int32) <<< ((24 : Int32) &&& 31)) ||| ((G0 (c + 1) 1) <<< ((16 : Int32) &&& 31))) ||| ((G0 (c + 1) 2) <<< ((8 : Int32) &&& 31))) ||| (G0 (c + 1) 3))) (G0 c 4) ((if ((if ((G0 c 1) &&& (1 : Int32)) = 1 then 1 else 0) : Int32) = 0 then (((((((if ((if ((G0 c 1) &&& (1 : Int32)) = 1 then 1 else 0) : Int32) = 0 then ((sp_S_evenSlotZero c G0)) else ((sp_S_oddSlotZero c c2 G0))) : Int32) <<< ((24 : Int32) &&& 31)) ||| ((G0 (c + 1) 1) <<< ((16 : Int32) &&& 31))) ||| ((G0 (c + 1) 2) <<< ((8 : Int32) &&& 31))) ||| (G0 (c + 1) 3)) &&& (2147483647 : Int32)) else ((((((if ((if ((G0 c 1) &&& (1 : Int32)) = 1 then 1 else 0) : Int32) = 0 then ((sp_S_evenSlotZero c G0)) else ((sp_S_oddSlotZero c c2 G0))) : Int32) <<< ((24 : Int32) &&& 31)) ||| ((G0 (c + 1) 1) <<< ((16 : Int32) &&& 31))) ||| ((G0 (c + 1) 2) <<< ((8 : Int32) &&& 31))) ||| (G0 (c + 1) 3))) : Int32)))) c 3 0) (G0 c 1))) = 0 then (wr (wr (wr (wr G0 c 2 ((((((if ((if ((G0 c 1) &&& (1 : Int32)) = 1 then 1 else 0) : Int32) = 0 then ((sp_S_evenSlotZero c G0)) else ((sp_S_oddSlotZero c c2 G0))) : Int32) <<< ((24 : Int32) &&& 31)) ||| ((G0 (c + 1) 1) <<< ((16 : Int32) &&& 31))) ||| ((G0 (c + 1) 2) <<< ((8 : Int32) &&& 31))) ||| (G0 (c + 1) 3))) c 4 ((sp_F_checkOver (wr G0 c 2 ((((((if ((if ((G0 c 1) &&& (1 : Int32)) = 1 then 1 else 0) : Int32) = 0 then ((sp_S_evenSlotZero c G0)) else ((sp_S_oddSlotZero c c2 G0))) : Int32) <<< ((24 : Int32) &&& 31)) ||| ((G0 (c + 1) 1) <<< ((16 : Int32) &&& 31))) ||| ((G0 (c + 1) 2) <<< ((8 : Int32) &&& 31))) ||| (G0 (c + 1) 3))) (G0 c 4) ((if ((if ((G0 c 1) &&& (1 : Int32)) = 1 then 1 else 0) : Int32) = 0 then (((((((if ((if ((G0 c 1) &&& (1 : Int32)) = 1 then 1 else 0) : Int32) = 0 then ((sp_S_evenSlotZero c G0)) else ((sp_S_oddSlotZero c c2 G0))) : Int32) <<< ((24 : Int32) &&& 31)) ||| ((G0 (c + 1) 1) <<< ((16 : Int32) &&& 31))) ||| ((G0 (c + 1) 2) <<< ((8 : Int32) &&& 31))) ||| (G0 (c + 1) 3)) &&& (2147483647 : Int32)) else ((((((if ((if ((G0 c 1) &&& (1 : Int32)) = 1 then 1 else 0) : Int32) = 0 then ((sp_S_evenSlotZero c G0)) else ((sp_S_oddSlotZero c c2 G0))) : Int32) <<< ((24 : Int32) &&& 31)) ||| ((G0 (c + 1) 1) <<< ((16 : Int32) &&& 31))) ||| ((G0 (c + 1) 2) <<< ((8 : Int32) &&& 31))) ||| (G0 (c + 1) 3))) : Int32)))) c 3 0) c 1 (((G0 c 1) + 1) &&& (15 : Int32))) else (wr (wr (wr (wr (wr (wr G0 c 2 ((((((if ((if ((G0 c 1) &&& (1 : Int32)) = 1 then 1 else 0) : Int32) = 0 then ((sp_S_evenSlotZero c G0)) else ((sp_S_oddSlotZero c c2 G0))) : Int32) <<< ((24 : Int32) &&& 31)) ||| ((G0 (c + 1) 1) <<< ((16 : Int32) &&& 31))) ||| ((G0 (c + 1) 2) <<< ((8 : Int32) &&& 31))) ||| (G0 (c + 1) 3))) c 4 ((sp_F_checkOver (wr G0 c 2 ((((((if ((if ((G0 c 1) &&& (1 : Int32)) = 1 then 1 else 0) : Int32) = 0 then ((sp_S_evenSlotZero c G0)) else ((sp_S_oddSlotZero c c2 G0))) : Int32) <<< ((24 : Int32) &&& 31)) ||| ((G0 (c + 1) 1) <<< ((16 : Int32) &&& 31))) ||| ((G0 (c + 1) 2) <<< ((8 : Int32) &&& 31))) ||| (G0 (c + 1) 3))) (G0 c 4) ((if ((if ((G0 c 1) &&& (1 : Int32)) = 1 then 1 else 0) : Int32) = 0 then (((((((if ((if ((G0 c 1) &&& (1 : Int32)) = 1 then 1 else 0) : Int32) = 0 then ((sp_S_evenSlotZero c G0)) else ((sp_S_oddSlotZero c c2 G0))) : Int32) <<< ((24 : Int32) &&& 31)) ||| ((G0 (c + 1) 1) <<< ((16 : Int32) &&& 31))) ||| ((G0 (c + 1) 2) <<< ((8 : Int32) &&& 31))) ||| (G0 (c + 1) 3)) &&& (2147483647 : Int32)) else ((((((if ((if ((G0 c 1) &&& (1 : Int32)) = 1 then 1 else 0) : Int32) = 0 then ((sp_S_evenSlotZero c G0)) else ((sp_S_oddSlotZero c c2 G0))) : Int32) <<< ((24 : Int32) &&& 31)) ||| ((G0 (c + 1) 1) <<< ((16 : Int32) &&& 31))) ||| ((G0 (c + 1) 2) <<< ((8 : Int32) &&& 31))) ||| (G0 (c + 1) 3))) : Int32)))) c 3 0) c 5 ((sp_F_checkOver (wr G0 c 2 ((((((if ((if ((G0 c 1) &&& (1 : Int32)) = 1 then 1 else 0) : Int32) = 0 then ((sp_S_evenSlotZero c G0)) else ((sp_S_oddSlotZero c c2 G0))) : Int32) <<< ((24 : Int32) &&& 31)) ||| ((G0 (c + 1) 1) <<< ((16 : Int32) &&& 31))) ||| ((G0 (c + 1) 2) <<< ((8 : Int32) &&& 31))) ||| (G0 (c + 1) 3))) (G0 c 4) ((if ((if ((G0 c 1) &&& (1 : Int32)) = 1 then 1 else 0) : Int32) = 0 then (((((((if ((if ((G0 c 1) &&& (1 : Int32)) = 1 then 1 else 0) : Int32) = 0 then ((sp_S_evenSlotZero c G0)) else ((sp_S_oddSlotZero c c2 G0))) : Int32) <<< ((24 : Int32) &&& 31)) ||| ((G0 (c + 1) 1) <<< ((16 : Int32) &&& 31))) ||| ((G0 (c + 1) 2) <<< ((8 : Int32) &&& 31))) ||| (G0 (c + 1) 3)) &&& (2147483647 : Int32)) else ((((((if ((if ((G0 c 1) &&& (1 : Int32)) = 1 then 1 else 0) : Int32) = 0 then ((sp_S_evenSlotZero c G0)) else ((sp_S_oddSlotZero c c2 G0))) : Int32) <<< ((24 : Int32) &&& 31)) ||| ((G0 (c + 1) 1) <<< ((16 : Int32) &&& 31))) ||| ((G0 (c + 1) 2) <<< ((8 : Int32) &&& 31))) ||| (G0 (c + 1) 3))) : Int32)))) c 4 0) c 1 (((G0 c 1) + 1) &&& (15 : Int32))))
set_option maxHeartbeats 4000000 in
set_option maxRecDepth 100000 in
theorem c_S_beginFrame (l : Launch) (P : gP) (G0 : Mem) (c : Nat) (c2 : Nat)  (hc : kS c) (hc2 : kR c2) : gMv l y_S_beginFrame b_S_beginFrame 4 none ({ frames := 2, cells := 0, slots := 0, locals := 44 }) [.ref (gad P c), .ref (gad P c2)] P G0 (sp_S_beginFrame c c2 G0) := by
  refine Met.ofW (cc := b_S_beginFrame) (maxL := 4) (ret := none) (by decide) rfl ?_
  intro p e s m args below meth c0 s₁ B hml hv
  obtain ⟨rfl, hpre⟩ := hv
  obtain ⟨E, hH⟩ := gE_of B hml hpre
  replace E : gE p s m _ meth c0 P "FramedLine$Sender" b_S_beginFrame 4 none := E
  have hcU := hc
  unfold kS at hcU
  have hc2U := hc2
  unfold kR at hc2U
  have hx := E.1
  have hb := E.2.1
  have hl := lv_entry ([.ref (gad P c), .ref (gad P c2)]) (n := 4) (Nat.le_of_ble_eq_true rfl)
  rw [lg_entry_eq]
  generalize (lg_sl ([.ref (gad P c), .ref (gad P c2)]) ++ List.replicate (4 - (lg_sl ([.ref (gad P c), .ref (gad P c2)])).length) Slot.unset).toArray = ls at hl ⊢
  replace hl : lv_has ls 4 [(0, .ref (gad P c)), (1, .ref (gad P c2))] := hl
  have hsp : sp_S_beginFrame c c2 G0 = sp_S_beginFrame c c2 G0 := rfl
  refine lv_aload_n hx hb d_S_beginFrame_0 rfl (lv_at hl 0 rfl) ?_
  refine g_geti (v := (G0 c 1)) E hH (gc_S hc) cl_S 1 (by decide) lf_S_15 (fun _ => rfl) rfl d_S_beginFrame_1 ?_
  refine lv_iconst (v := 1) hx hb d_S_beginFrame_4 (by decide) ?_
  refine lv_iand hx hb d_S_beginFrame_5 ?_
  refine lv_iconst (v := 1) hx hb d_S_beginFrame_6 (by decide) ?_
  refine jn (α := Int32) (fun z H1 locs1 => z = ((if ((G0 c 1) &&& (1 : Int32)) = 1 then 1 else 0) : Int32) ∧ isB z ∧ gH P s G0 H1 locs1) (fun z => F0 m 15 ls (.int z :: [])) (fun z H locs h9 => ?_) (fun hJ => ?_)
  · obtain ⟨rfl, hz15, hH⟩ := h9
    refine lv_istore_n hx hb d_S_beginFrame_15 rfl hl (by decide) rfl (fun ls hl => ?_)
    refine lv_iload_n hx hb d_S_beginFrame_16 rfl (lv_at hl 0 rfl) ?_
    refine jn (α := Int32) (fun z H1 locs1 => z = ((if ((if ((G0 c 1) &&& (1 : Int32)) = 1 then 1 else 0) : Int32) = 0 then ((sp_S_evenSlotZero c G0)) else ((sp_S_oddSlotZero c c2 G0))) : Int32) ∧ gH P s G0 H1 locs1) (fun z => F0 m 32 ls (.int z :: [])) (fun z H locs h9 => ?_) (fun hJ => ?_)
    · obtain ⟨rfl, hH⟩ := h9
      refine lv_istore_n hx hb d_S_beginFrame_32 rfl hl (by decide) rfl (fun ls hl => ?_)
      refine lv_aload_n hx hb d_S_beginFrame_33 rfl (lv_at hl 2 rfl) ?_
      refine lv_iload_n hx hb d_S_beginFrame_34 rfl (lv_at hl 0 rfl) ?_
      refine lv_bipush (v := 24) hx hb d_S_beginFrame_35 (by decide) ?_
      refine lv_ishl hx hb d_S_beginFrame_37 ?_
      refine lv_aload_n hx hb d_S_beginFrame_38 rfl (lv_at hl 2 rfl) ?_
      refine g_get E hH (gc_S hc) cl_S 0 (by decide) lf_S_9 rfl d_S_beginFrame_39 ?_
      refine lv_iconst (v := 1) hx hb d_S_beginFrame_42 (by decide) ?_
      refine g_iaload (k := 1) (v := (G0 (c + 1) 1)) E hH (ga_I4 (kS_loaded hc)) (by unfold vp_in; decide) (by decide) rfl d_S_beginFrame_43 ?_
      refine lv_bipush (v := 16) hx hb d_S_beginFrame_44 (by decide) ?_
      refine lv_ishl hx hb d_S_beginFrame_46 ?_
      refine lv_ior hx hb d_S_beginFrame_47 ?_
      refine lv_aload_n hx hb d_S_beginFrame_48 rfl (lv_at hl 2 rfl) ?_
      refine g_get E hH (gc_S hc) cl_S 0 (by decide) lf_S_9 rfl d_S_beginFrame_49 ?_
      refine lv_iconst (v := 2) hx hb d_S_beginFrame_52 (by decide) ?_
      refine g_iaload (k := 2) (v := (G0 (c + 1) 2)) E hH (ga_I4 (kS_loaded hc)) (by unfold vp_in; decide) (by decide) rfl d_S_beginFrame_53 ?_
      refine lv_bipush (v := 8) hx hb d_S_beginFrame_54 (by decide) ?_
      refine lv_ishl hx hb d_S_beginFrame_56 ?_
      refine lv_ior hx hb d_S_beginFrame_57 ?_
      refine lv_aload_n hx hb d_S_beginFrame_58 rfl (lv_at hl 2 rfl) ?_
      refine g_get E hH (gc_S hc) cl_S 0 (by decide) lf_S_9 rfl d_S_beginFrame_59 ?_
      refine lv_iconst (v := 3) hx hb d_S_beginFrame_62 (by decide) ?_
      refine g_iaload (k := 3) (v := (G0 (c + 1) 3)) E hH (ga_I4 (kS_loaded hc)) (by unfold vp_in; decide) (by decide) rfl d_S_beginFrame_63 ?_
      refine lv_ior hx hb d_S_beginFrame_64 ?_
      refine g_puti E hH (gc_S hc) cl_S ct_S 2 (by decide) lf_S_19 rfl (by decide +kernel) (fun _ _ => rfl) (Nat.le_of_ble_eq_true rfl) d_S_beginFrame_65 (fun H locs hH => ?_)
      refine lv_aload_n hx hb d_S_beginFrame_68 rfl (lv_at hl 2 rfl) ?_
      refine lv_aload_n hx hb d_S_beginFrame_69 rfl (lv_at hl 2 rfl) ?_
      refine g_geti (v := (G0 c 4)) E hH (gc_S hc) cl_S 4 (by decide) lf_S_25 (fun _ => rfl) (wr_k _ _ _ _ (by decide)) d_S_beginFrame_70 ?_
      refine lv_iload_n hx hb d_S_beginFrame_73 rfl (lv_at hl 1 rfl) ?_
      refine jn (α := Int32) (fun z H1 locs1 => z = ((if ((if ((G0 c 1) &&& (1 : Int32)) = 1 then 1 else 0) : Int32) = 0 then (((((((if ((if ((G0 c 1) &&& (1 : Int32)) = 1 then 1 else 0) : Int32) = 0 then ((sp_S_evenSlotZero c G0)) else ((sp_S_oddSlotZero c c2 G0))) : Int32) <<< ((24 : Int32) &&& 31)) ||| ((G0 (c + 1) 1) <<< ((16 : Int32) &&& 31))) ||| ((G0 (c + 1) 2) <<< ((8 : Int32) &&& 31))) ||| (G0 (c + 1) 3)) &&& (2147483647 : Int32)) else ((((((if ((if ((G0 c 1) &&& (1 : Int32)) = 1 then 1 else 0) : Int32) = 0 then ((sp_S_evenSlotZero c G0)) else ((sp_S_oddSlotZero c c2 G0))) : Int32) <<< ((24 : Int32) &&& 31)) ||| ((G0 (c + 1) 1) <<< ((16 : Int32) &&& 31))) ||| ((G0 (c + 1) 2) <<< ((8 : Int32) &&& 31))) ||| (G0 (c + 1) 3))) : Int32) ∧ gH P s (wr G0 c 2 ((((((if ((if ((G0 c 1) &&& (1 : Int32)) = 1 then 1 else 0) : Int32) = 0 then ((sp_S_evenSlotZero c G0)) else ((sp_S_oddSlotZero c c2 G0))) : Int32) <<< ((24 : Int32) &&& 31)) ||| ((G0 (c + 1) 1) <<< ((16 : Int32) &&& 31))) ||| ((G0 (c + 1) 2) <<< ((8 : Int32) &&& 31))) ||| (G0 (c + 1) 3))) H1 locs1) (fun z => F0 m 91 ls (.int z :: .int (G0 c 4) :: .ref (gad P c) :: [])) (fun z H locs h9 => ?_) (fun hJ => ?_)
      · obtain ⟨rfl, hH⟩ := h9
        refine g_callSNri (As := [.int _, .int _]) E hH hl (c_F_checkOver l P _ _ _) lm_S_40 (Nat.le_of_ble_eq_true rfl) (Nat.le_of_ble_eq_true rfl) (Nat.le_of_ble_eq_true rfl) (Nat.le_of_ble_eq_true rfl) (Nat.le_of_ble_eq_true rfl) rfl rfl rfl rfl d_S_beginFrame_91 (fun H locs hH => ?_)
        refine g_puti E hH (gc_S hc) cl_S ct_S 4 (by decide) lf_S_25 rfl (by decide +kernel) (fun _ _ => rfl) (Nat.le_of_ble_eq_true rfl) d_S_beginFrame_94 (fun H locs hH => ?_)
        refine lv_aload_n hx hb d_S_beginFrame_97 rfl (lv_at hl 2 rfl) ?_
        refine lv_iconst (v := 0) hx hb d_S_beginFrame_98 (by decide) ?_
        refine g_puti E hH (gc_S hc) cl_S ct_S 3 (by decide) lf_S_22 rfl (by decide +kernel) (fun _ _ => rfl) (Nat.le_of_ble_eq_true rfl) d_S_beginFrame_99 (fun H locs hH => ?_)
        refine lv_aload_n hx hb d_S_beginFrame_102 rfl (lv_at hl 2 rfl) ?_
        refine g_geti (v := (G0 c 1)) E hH (gc_S hc) cl_S 1 (by decide) lf_S_15 (fun _ => rfl) ((wr_k _ _ _ _ (by decide)).trans ((wr_k _ _ _ _ (by decide)).trans (wr_k _ _ _ _ (by decide)))) d_S_beginFrame_103 ?_
        refine g_callSNrz (As := [.int _]) E hH hl (c_F_endsHalf l P _ _) lm_S_44 (Nat.le_of_ble_eq_true rfl) (Nat.le_of_ble_eq_true rfl) (Nat.le_of_ble_eq_true rfl) (Nat.le_of_ble_eq_true rfl) (Nat.le_of_ble_eq_true rfl) rfl rfl rfl rfl d_S_beginFrame_106 (fun H locs hH hz106 => ?_)
        refine lv_if_eq (tgt := 125) hx hb d_S_beginFrame_109 (by decide) (fun h1 => ?_) (fun h1 => ?_)
        · refine lv_aload_n hx hb d_S_beginFrame_125 rfl (lv_at hl 2 rfl) ?_
          refine lv_aload_n hx hb d_S_beginFrame_126 rfl (lv_at hl 2 rfl) ?_
          refine g_geti (v := (G0 c 1)) E hH (gc_S hc) cl_S 1 (by decide) lf_S_15 (fun _ => rfl) ((wr_k _ _ _ _ (by decide)).trans ((wr_k _ _ _ _ (by decide)).trans (wr_k _ _ _ _ (by decide)))) d_S_beginFrame_127 ?_
          refine lv_iconst (v := 1) hx hb d_S_beginFrame_130 (by decide) ?_
          refine lv_iadd hx hb d_S_beginFrame_131 ?_
          refine lv_bipush (v := 15) hx hb d_S_beginFrame_132 (by decide) ?_
          refine lv_iand hx hb d_S_beginFrame_134 ?_
          refine g_puti E hH (gc_S hc) cl_S ct_S 1 (by decide) lf_S_15 rfl (by decide +kernel) (fun _ _ => rfl) (Nat.le_of_ble_eq_true rfl) d_S_beginFrame_135 (fun H locs hH => ?_)
          exact g_vret E hH (hsp.trans (by simp only [sp_S_beginFrame, if_pos h1])) d_S_beginFrame_138
        · refine lv_aload_n hx hb d_S_beginFrame_112 rfl (lv_at hl 2 rfl) ?_
          refine lv_aload_n hx hb d_S_beginFrame_113 rfl (lv_at hl 2 rfl) ?_
          refine g_geti (v := ((sp_F_checkOver (wr G0 c 2 ((((((if ((if ((G0 c 1) &&& (1 : Int32)) = 1 then 1 else 0) : Int32) = 0 then ((sp_S_evenSlotZero c G0)) else ((sp_S_oddSlotZero c c2 G0))) : Int32) <<< ((24 : Int32) &&& 31)) ||| ((G0 (c + 1) 1) <<< ((16 : Int32) &&& 31))) ||| ((G0 (c + 1) 2) <<< ((8 : Int32) &&& 31))) ||| (G0 (c + 1) 3))) (G0 c 4) ((if ((if ((G0 c 1) &&& (1 : Int32)) = 1 then 1 else 0) : Int32) = 0 then (((((((if ((if ((G0 c 1) &&& (1 : Int32)) = 1 then 1 else 0) : Int32) = 0 then ((sp_S_evenSlotZero c G0)) else ((sp_S_oddSlotZero c c2 G0))) : Int32) <<< ((24 : Int32) &&& 31)) ||| ((G0 (c + 1) 1) <<< ((16 : Int32) &&& 31))) ||| ((G0 (c + 1) 2) <<< ((8 : Int32) &&& 31))) ||| (G0 (c + 1) 3)) &&& (2147483647 : Int32)) else ((((((if ((if ((G0 c 1) &&& (1 : Int32)) = 1 then 1 else 0) : Int32) = 0 then ((sp_S_evenSlotZero c G0)) else ((sp_S_oddSlotZero c c2 G0))) : Int32) <<< ((24 : Int32) &&& 31)) ||| ((G0 (c + 1) 1) <<< ((16 : Int32) &&& 31))) ||| ((G0 (c + 1) 2) <<< ((8 : Int32) &&& 31))) ||| (G0 (c + 1) 3))) : Int32)))) E hH (gc_S hc) cl_S 4 (by decide) lf_S_25 (fun _ => rfl) ((wr_k _ _ _ _ (by decide)).trans (wr_same _ _ _ _)) d_S_beginFrame_114 ?_
          refine g_puti E hH (gc_S hc) cl_S ct_S 5 (by decide) lf_S_28 rfl (by decide +kernel) (fun _ _ => rfl) (Nat.le_of_ble_eq_true rfl) d_S_beginFrame_117 (fun H locs hH => ?_)
          refine lv_aload_n hx hb d_S_beginFrame_120 rfl (lv_at hl 2 rfl) ?_
          refine lv_iconst (v := 0) hx hb d_S_beginFrame_121 (by decide) ?_
          refine g_puti E hH (gc_S hc) cl_S ct_S 4 (by decide) lf_S_25 rfl (by decide +kernel) (fun _ _ => rfl) (Nat.le_of_ble_eq_true rfl) d_S_beginFrame_122 (fun H locs hH => ?_)
          refine lv_aload_n hx hb d_S_beginFrame_125 rfl (lv_at hl 2 rfl) ?_
          refine lv_aload_n hx hb d_S_beginFrame_126 rfl (lv_at hl 2 rfl) ?_
          refine g_geti (v := (G0 c 1)) E hH (gc_S hc) cl_S 1 (by decide) lf_S_15 (fun _ => rfl) ((wr_k _ _ _ _ (by decide)).trans ((wr_k _ _ _ _ (by decide)).trans ((wr_k _ _ _ _ (by decide)).trans ((wr_k _ _ _ _ (by decide)).trans (wr_k _ _ _ _ (by decide)))))) d_S_beginFrame_127 ?_
          refine lv_iconst (v := 1) hx hb d_S_beginFrame_130 (by decide) ?_
          refine lv_iadd hx hb d_S_beginFrame_131 ?_
          refine lv_bipush (v := 15) hx hb d_S_beginFrame_132 (by decide) ?_
          refine lv_iand hx hb d_S_beginFrame_134 ?_
          refine g_puti E hH (gc_S hc) cl_S ct_S 1 (by decide) lf_S_15 rfl (by decide +kernel) (fun _ _ => rfl) (Nat.le_of_ble_eq_true rfl) d_S_beginFrame_135 (fun H locs hH => ?_)
          exact g_vret E hH (hsp.trans (by simp only [sp_S_beginFrame, if_neg h1])) d_S_beginFrame_138
      · refine lv_if_eq (tgt := 84) hx hb d_S_beginFrame_74 (by decide) (fun h2 => ?_) (fun h2 => ?_)
        · refine lv_aload_n hx hb d_S_beginFrame_84 rfl (lv_at hl 2 rfl) ?_
          refine g_geti (v := ((((((if ((if ((G0 c 1) &&& (1 : Int32)) = 1 then 1 else 0) : Int32) = 0 then ((sp_S_evenSlotZero c G0)) else ((sp_S_oddSlotZero c c2 G0))) : Int32) <<< ((24 : Int32) &&& 31)) ||| ((G0 (c + 1) 1) <<< ((16 : Int32) &&& 31))) ||| ((G0 (c + 1) 2) <<< ((8 : Int32) &&& 31))) ||| (G0 (c + 1) 3))) E hH (gc_S hc) cl_S 2 (by decide) lf_S_19 (fun _ => rfl) (wr_same _ _ _ _) d_S_beginFrame_85 ?_
          refine lv_ldc (v := 2147483647) hx hb E.2.2.2.2.1 (E.2.2.2.2.2.1 _ lc_S_39) d_S_beginFrame_88 ?_
          refine lv_iand hx hb d_S_beginFrame_90 ?_
          exact hJ _ _ _ ⟨by simp only [if_pos h2], hH⟩
        · refine lv_aload_n hx hb d_S_beginFrame_77 rfl (lv_at hl 2 rfl) ?_
          refine g_geti (v := ((((((if ((if ((G0 c 1) &&& (1 : Int32)) = 1 then 1 else 0) : Int32) = 0 then ((sp_S_evenSlotZero c G0)) else ((sp_S_oddSlotZero c c2 G0))) : Int32) <<< ((24 : Int32) &&& 31)) ||| ((G0 (c + 1) 1) <<< ((16 : Int32) &&& 31))) ||| ((G0 (c + 1) 2) <<< ((8 : Int32) &&& 31))) ||| (G0 (c + 1) 3))) E hH (gc_S hc) cl_S 2 (by decide) lf_S_19 (fun _ => rfl) (wr_same _ _ _ _) d_S_beginFrame_78 ?_
          refine lv_goto (tgt := 91) hx hb d_S_beginFrame_81 (by decide) ?_
          exact hJ _ _ _ ⟨by simp only [if_neg h2], hH⟩
    · refine lv_if_eq (tgt := 28) hx hb d_S_beginFrame_17 (by decide) (fun h3 => ?_) (fun h3 => ?_)
      · refine lv_aload_n hx hb d_S_beginFrame_28 rfl (lv_at hl 1 rfl) ?_
        refine g_callVri (As := []) E hH hl (c_S_evenSlotZero l P _ c hc) lm_S_35 (gc_S hc) cl_S (Nat.le_of_ble_eq_true rfl) (Nat.le_of_ble_eq_true rfl) (Nat.le_of_ble_eq_true rfl) (Nat.le_of_ble_eq_true rfl) (Nat.le_of_ble_eq_true rfl) rfl rfl rfl rfl d_S_beginFrame_29 (fun H locs hH => ?_)
        exact hJ _ _ _ ⟨by simp only [if_pos h3], hH⟩
      · refine lv_aload_n hx hb d_S_beginFrame_20 rfl (lv_at hl 1 rfl) ?_
        refine lv_aload_n hx hb d_S_beginFrame_21 rfl (lv_at hl 2 rfl) ?_
        refine g_callVri (As := [.ref (gad P c2)]) E hH hl (c_S_oddSlotZero l P _ c c2 hc hc2) lm_S_31 (gc_S hc) cl_S (Nat.le_of_ble_eq_true rfl) (Nat.le_of_ble_eq_true rfl) (Nat.le_of_ble_eq_true rfl) (Nat.le_of_ble_eq_true rfl) (Nat.le_of_ble_eq_true rfl) rfl rfl rfl rfl d_S_beginFrame_22 (fun H locs hH => ?_)
        refine lv_goto (tgt := 32) hx hb d_S_beginFrame_25 (by decide) ?_
        exact hJ _ _ _ ⟨by simp only [if_neg h3], hH⟩
  · refine lv_icmp_ne (tgt := 14) hx hb d_S_beginFrame_7 (by decide) (fun h4 => ?_) (fun h4 => ?_)
    · refine lv_iconst (v := 0) hx hb d_S_beginFrame_14 (by decide) ?_
      exact hJ _ _ _ ⟨by simp only [if_neg h4], isB_0, hH⟩
    · refine lv_iconst (v := 1) hx hb d_S_beginFrame_10 (by decide) ?_
      refine lv_goto (tgt := 15) hx hb d_S_beginFrame_11 (by decide) ?_
      exact hJ _ _ _ ⟨by simp only [if_pos h4], isB_1, hH⟩

def sp_N_send (c : Nat) (G0 : Mem)  : Int32 × Mem :=
  (if ((sp_S_isBetweenFrames (c + 1) G0)) = 0 then (((sp_E_symbolBehind (c + 3) (((sp_S_nextBit (c + 1) G0)).2) (((sp_S_nextBit (c + 1) G0)).1))).1, ((sp_E_symbolBehind (c + 3) (((sp_S_nextBit (c + 1) G0)).2) (((sp_S_nextBit (c + 1) G0)).1))).2) else (((sp_E_symbolBehind (c + 3) (((sp_S_nextBit (c + 1) (sp_S_beginFrame (c + 1) (c + 8) G0))).2) (((sp_S_nextBit (c + 1) (sp_S_beginFrame (c + 1) (c + 8) G0))).1))).1, ((sp_E_symbolBehind (c + 3) (((sp_S_nextBit (c + 1) (sp_S_beginFrame (c + 1) (c + 8) G0))).2) (((sp_S_nextBit (c + 1) (sp_S_beginFrame (c + 1) (c + 8) G0))).1))).2))
set_option maxHeartbeats 4000000 in
set_option maxRecDepth 100000 in
theorem c_N_send (l : Launch) (P : gP) (G0 : Mem) (c : Nat)  (hc : kN c) : gMi l y_N_send b_N_send 1 (some .int) ({ frames := 3, cells := 0, slots := 0, locals := 67 }) [.ref (gad P c)] P G0 (sp_N_send c G0) := by
  refine Met.ofW (cc := b_N_send) (maxL := 1) (ret := (some .int)) (by decide) rfl ?_
  intro p e s m args below meth c0 s₁ B hml hv
  obtain ⟨rfl, hpre⟩ := hv
  obtain ⟨E, hH⟩ := gE_of B hml hpre
  replace E : gE p s m _ meth c0 P "FramedLine$End" b_N_send 1 (some .int) := E
  have hcU := hc
  unfold kN at hcU
  have hx := E.1
  have hb := E.2.1
  have hl := lv_entry ([.ref (gad P c)]) (n := 1) (Nat.le_of_ble_eq_true rfl)
  rw [lg_entry_eq]
  generalize (lg_sl ([.ref (gad P c)]) ++ List.replicate (1 - (lg_sl ([.ref (gad P c)])).length) Slot.unset).toArray = ls at hl ⊢
  replace hl : lv_has ls 1 [(0, .ref (gad P c))] := hl
  have hsp : sp_N_send c G0 = sp_N_send c G0 := rfl
  refine lv_aload_n hx hb d_N_send_0 rfl (lv_at hl 0 rfl) ?_
  refine g_get E hH (gc_N hc) cl_N 0 (by decide) lf_N_12 rfl d_N_send_1 ?_
  refine g_callVrz (As := []) E hH hl (c_S_isBetweenFrames l P _ (c + 1) (kN_sender hc)) lm_N_46 (gc_S (kN_sender hc)) cl_S (Nat.le_of_ble_eq_true rfl) (Nat.le_of_ble_eq_true rfl) (Nat.le_of_ble_eq_true rfl) (Nat.le_of_ble_eq_true rfl) (Nat.le_of_ble_eq_true rfl) rfl rfl rfl rfl d_N_send_4 (fun H locs hH hz4 => ?_)
  refine lv_if_eq (tgt := 21) hx hb d_N_send_7 (by decide) (fun h1 => ?_) (fun h1 => ?_)
  · refine lv_aload_n hx hb d_N_send_21 rfl (lv_at hl 0 rfl) ?_
    refine g_get E hH (gc_N hc) cl_N 1 (by decide) lf_N_21 rfl d_N_send_22 ?_
    refine lv_aload_n hx hb d_N_send_25 rfl (lv_at hl 0 rfl) ?_
    refine g_get E hH (gc_N hc) cl_N 0 (by decide) lf_N_12 rfl d_N_send_26 ?_
    refine g_callVi (As := []) E hH hl (c_S_nextBit l P _ (c + 1) (kN_sender hc)) lm_N_54 (gc_S (kN_sender hc)) cl_S (Nat.le_of_ble_eq_true rfl) (Nat.le_of_ble_eq_true rfl) (Nat.le_of_ble_eq_true rfl) (Nat.le_of_ble_eq_true rfl) (Nat.le_of_ble_eq_true rfl) rfl rfl rfl rfl d_N_send_29 (fun H locs hH => ?_)
    refine g_callVi (As := [.int _]) E hH hl (c_E_symbolBehind l P _ (c + 3) _ (kN_encoder hc)) lm_N_58 (gc_E (kN_encoder hc)) cl_E (Nat.le_of_ble_eq_true rfl) (Nat.le_of_ble_eq_true rfl) (Nat.le_of_ble_eq_true rfl) (Nat.le_of_ble_eq_true rfl) (Nat.le_of_ble_eq_true rfl) rfl rfl rfl rfl d_N_send_32 (fun H locs hH => ?_)
    exact g_iret E hH (hsp.trans (by simp only [sp_N_send, if_pos h1])) d_N_send_35
  · refine lv_aload_n hx hb d_N_send_10 rfl (lv_at hl 0 rfl) ?_
    refine g_get E hH (gc_N hc) cl_N 0 (by decide) lf_N_12 rfl d_N_send_11 ?_
    refine lv_aload_n hx hb d_N_send_14 rfl (lv_at hl 0 rfl) ?_
    refine g_get E hH (gc_N hc) cl_N 4 (by decide) lf_N_42 rfl d_N_send_15 ?_
    refine g_callVv (As := [.ref (gad P (c + 8))]) E hH hl (c_S_beginFrame l P _ (c + 1) (c + 8) (kN_sender hc) (kN_receiver hc)) lm_N_50 (gc_S (kN_sender hc)) cl_S (Nat.le_of_ble_eq_true rfl) (Nat.le_of_ble_eq_true rfl) (Nat.le_of_ble_eq_true rfl) (Nat.le_of_ble_eq_true rfl) (Nat.le_of_ble_eq_true rfl) rfl rfl rfl rfl d_N_send_18 (fun H locs hH => ?_)
    refine lv_aload_n hx hb d_N_send_21 rfl (lv_at hl 0 rfl) ?_
    refine g_get E hH (gc_N hc) cl_N 1 (by decide) lf_N_21 rfl d_N_send_22 ?_
    refine lv_aload_n hx hb d_N_send_25 rfl (lv_at hl 0 rfl) ?_
    refine g_get E hH (gc_N hc) cl_N 0 (by decide) lf_N_12 rfl d_N_send_26 ?_
    refine g_callVi (As := []) E hH hl (c_S_nextBit l P _ (c + 1) (kN_sender hc)) lm_N_54 (gc_S (kN_sender hc)) cl_S (Nat.le_of_ble_eq_true rfl) (Nat.le_of_ble_eq_true rfl) (Nat.le_of_ble_eq_true rfl) (Nat.le_of_ble_eq_true rfl) (Nat.le_of_ble_eq_true rfl) rfl rfl rfl rfl d_N_send_29 (fun H locs hH => ?_)
    refine g_callVi (As := [.int _]) E hH hl (c_E_symbolBehind l P _ (c + 3) _ (kN_encoder hc)) lm_N_58 (gc_E (kN_encoder hc)) cl_E (Nat.le_of_ble_eq_true rfl) (Nat.le_of_ble_eq_true rfl) (Nat.le_of_ble_eq_true rfl) (Nat.le_of_ble_eq_true rfl) (Nat.le_of_ble_eq_true rfl) rfl rfl rfl rfl d_N_send_32 (fun H locs hH => ?_)
    exact g_iret E hH (hsp.trans (by simp only [sp_N_send, if_neg h1])) d_N_send_35

def sp_A_doubleNext (c : Nat) (G0 : Mem)  : Int32 × Mem :=
  (((if (zb (G0 c 3)) = 0 then 1 else 0) : Int32), (wr G0 c 3 1))
set_option maxHeartbeats 4000000 in
set_option maxRecDepth 100000 in
theorem c_A_doubleNext (l : Launch) (P : gP) (G0 : Mem) (c : Nat)  (hc : kA c) : gMz l y_A_doubleNext b_A_doubleNext 2 (some .boolean) ({ frames := 0, cells := 0, slots := 0, locals := 0 }) [.ref (gad P c)] P G0 (sp_A_doubleNext c G0) := by
  refine Met.ofW (cc := b_A_doubleNext) (maxL := 2) (ret := (some .boolean)) (by decide) rfl ?_
  intro p e s m args below meth c0 s₁ B hml hv
  obtain ⟨rfl, hpre⟩ := hv
  obtain ⟨E, hH⟩ := gE_of B hml hpre
  replace E : gE p s m _ meth c0 P "FramedLine$Arrivals" b_A_doubleNext 2 (some .boolean) := E
  have hcU := hc
  unfold kA at hcU
  have hx := E.1
  have hb := E.2.1
  have hl := lv_entry ([.ref (gad P c)]) (n := 2) (Nat.le_of_ble_eq_true rfl)
  rw [lg_entry_eq]
  generalize (lg_sl ([.ref (gad P c)]) ++ List.replicate (2 - (lg_sl ([.ref (gad P c)])).length) Slot.unset).toArray = ls at hl ⊢
  replace hl : lv_has ls 2 [(0, .ref (gad P c))] := hl
  have hsp : sp_A_doubleNext c G0 = sp_A_doubleNext c G0 := rfl
  refine lv_aload_n hx hb d_A_doubleNext_0 rfl (lv_at hl 0 rfl) ?_
  refine g_getz (v := (G0 c 3)) E hH (gc_A hc) cl_A 3 (by decide) lf_A_22 (fun _ => rfl) rfl d_A_doubleNext_1 ?_
  refine jn (α := Int32) (fun z H1 locs1 => z = ((if (zb (G0 c 3)) = 0 then 1 else 0) : Int32) ∧ isB z ∧ gH P s G0 H1 locs1) (fun z => F0 m 12 ls (.int z :: [])) (fun z H locs h9 => ?_) (fun hJ => ?_)
  · obtain ⟨rfl, hz12, hH⟩ := h9
    refine lv_istore_n hx hb d_A_doubleNext_12 rfl hl (by decide) rfl (fun ls hl => ?_)
    refine lv_aload_n hx hb d_A_doubleNext_13 rfl (lv_at hl 1 rfl) ?_
    refine lv_iconst (v := 1) hx hb d_A_doubleNext_14 (by decide) ?_
    refine g_putz E hH (gc_A hc) cl_A ct_A 3 (by decide) lf_A_22 rfl (by decide +kernel) (set_A3 _ _) isB_1 (Nat.le_of_ble_eq_true rfl) d_A_doubleNext_15 (fun H locs hH => ?_)
    refine lv_iload_n hx hb d_A_doubleNext_18 rfl (lv_at hl 0 rfl) ?_
    exact g_zret E hH (hsp.trans (by rw [sp_A_doubleNext])) hz12 d_A_doubleNext_19
  · refine lv_if_ne (tgt := 11) hx hb d_A_doubleNext_4 (by decide) (fun h1 => ?_) (fun h1 => ?_)
    · refine lv_iconst (v := 0) hx hb d_A_doubleNext_11 (by decide) ?_
      exact hJ _ _ _ ⟨by simp only [if_neg h1], isB_0, hH⟩
    · refine lv_iconst (v := 1) hx hb d_A_doubleNext_7 (by decide) ?_
      refine lv_goto (tgt := 12) hx hb d_A_doubleNext_8 (by decide) ?_
      exact hJ _ _ _ ⟨by simp only [if_pos h1], isB_1, hH⟩

def sp_A_comings (c : Nat) (G0 : Mem)  : Int32 × Mem :=
  (((if (zb (G0 c 3)) = 0 then 1 else 2) : Int32), (wr G0 c 3 0))
set_option maxHeartbeats 4000000 in
set_option maxRecDepth 100000 in
theorem c_A_comings (l : Launch) (P : gP) (G0 : Mem) (c : Nat)  (hc : kA c) : gMi l y_A_comings b_A_comings 2 (some .int) ({ frames := 0, cells := 0, slots := 0, locals := 0 }) [.ref (gad P c)] P G0 (sp_A_comings c G0) := by
  refine Met.ofW (cc := b_A_comings) (maxL := 2) (ret := (some .int)) (by decide) rfl ?_
  intro p e s m args below meth c0 s₁ B hml hv
  obtain ⟨rfl, hpre⟩ := hv
  obtain ⟨E, hH⟩ := gE_of B hml hpre
  replace E : gE p s m _ meth c0 P "FramedLine$Arrivals" b_A_comings 2 (some .int) := E
  have hcU := hc
  unfold kA at hcU
  have hx := E.1
  have hb := E.2.1
  have hl := lv_entry ([.ref (gad P c)]) (n := 2) (Nat.le_of_ble_eq_true rfl)
  rw [lg_entry_eq]
  generalize (lg_sl ([.ref (gad P c)]) ++ List.replicate (2 - (lg_sl ([.ref (gad P c)])).length) Slot.unset).toArray = ls at hl ⊢
  replace hl : lv_has ls 2 [(0, .ref (gad P c))] := hl
  have hsp : sp_A_comings c G0 = sp_A_comings c G0 := rfl
  refine lv_aload_n hx hb d_A_comings_0 rfl (lv_at hl 0 rfl) ?_
  refine g_getz (v := (G0 c 3)) E hH (gc_A hc) cl_A 3 (by decide) lf_A_22 (fun _ => rfl) rfl d_A_comings_1 ?_
  refine jn (α := Int32) (fun z H1 locs1 => z = ((if (zb (G0 c 3)) = 0 then 1 else 2) : Int32) ∧ gH P s G0 H1 locs1) (fun z => F0 m 12 ls (.int z :: [])) (fun z H locs h9 => ?_) (fun hJ => ?_)
  · obtain ⟨rfl, hH⟩ := h9
    refine lv_istore_n hx hb d_A_comings_12 rfl hl (by decide) rfl (fun ls hl => ?_)
    refine lv_aload_n hx hb d_A_comings_13 rfl (lv_at hl 1 rfl) ?_
    refine lv_iconst (v := 0) hx hb d_A_comings_14 (by decide) ?_
    refine g_putz E hH (gc_A hc) cl_A ct_A 3 (by decide) lf_A_22 rfl (by decide +kernel) (set_A3 _ _) isB_0 (Nat.le_of_ble_eq_true rfl) d_A_comings_15 (fun H locs hH => ?_)
    refine lv_iload_n hx hb d_A_comings_18 rfl (lv_at hl 0 rfl) ?_
    exact g_iret E hH (hsp.trans (by rw [sp_A_comings])) d_A_comings_19
  · refine lv_if_eq (tgt := 11) hx hb d_A_comings_4 (by decide) (fun h1 => ?_) (fun h1 => ?_)
    · refine lv_iconst (v := 1) hx hb d_A_comings_11 (by decide) ?_
      exact hJ _ _ _ ⟨by simp only [if_pos h1], hH⟩
    · refine lv_iconst (v := 2) hx hb d_A_comings_7 (by decide) ?_
      refine lv_goto (tgt := 12) hx hb d_A_comings_8 (by decide) ?_
      exact hJ _ _ _ ⟨by simp only [if_neg h1], hH⟩
end
section
def sp_A_placeOf_2 (c : Nat) (a1 : Int32) : Nat → Mem → Int32 → Int32
 | 0, G0, x2 => 0
  | d + 1, G0, x2 =>
  (if (G0 c 2) ≤ x2 then x2 else (if (G0 (c + 1) (tn x2)) = a1 then x2 else (sp_A_placeOf_2 c a1 d G0 (x2 + 1))))
def sp_A_placeOf (c : Nat) (G0 : Mem) (a1 : Int32) : Int32 :=
  (sp_A_placeOf_2 c a1 (tn (G0 c 2) + 1) G0 0)
set_option maxHeartbeats 4000000 in
set_option maxRecDepth 100000 in
theorem c_A_placeOf (l : Launch) (P : gP) (G0 : Mem) (c : Nat) (a1 : Int32) (hc : kA c) (hm : ∃ w : Nat, w ≤ 8 ∧ G0 c 2 = nI w) : gMri l y_A_placeOf b_A_placeOf 3 (some .int) ({ frames := 0, cells := 0, slots := 0, locals := 0 }) [.ref (gad P c), .int a1] P G0 (sp_A_placeOf c G0 a1) := by
  refine Met.ofW (cc := b_A_placeOf) (maxL := 3) (ret := (some .int)) (by decide) rfl ?_
  intro p e s m args below meth c0 s₁ B hml hv
  obtain ⟨rfl, hpre⟩ := hv
  obtain ⟨E, hH⟩ := gE_of B hml hpre
  replace E : gE p s m _ meth c0 P "FramedLine$Arrivals" b_A_placeOf 3 (some .int) := E
  have hcU := hc
  unfold kA at hcU
  have hx := E.1
  have hb := E.2.1
  have hl := lv_entry ([.ref (gad P c), .int a1]) (n := 3) (Nat.le_of_ble_eq_true rfl)
  rw [lg_entry_eq]
  generalize (lg_sl ([.ref (gad P c), .int a1]) ++ List.replicate (3 - (lg_sl ([.ref (gad P c), .int a1])).length) Slot.unset).toArray = ls at hl ⊢
  replace hl : lv_has ls 3 [(0, .ref (gad P c)), (1, .int a1)] := hl
  have hsp : sp_A_placeOf c G0 a1 = sp_A_placeOf c G0 a1 := rfl
  refine jl (α := Nat × Array Slot × Int32) (fun q H1 locs1 => sp_A_placeOf c G0 a1 = sp_A_placeOf_2 c a1 q.1 G0 q.2.2 ∧ (∃ j w : Nat, j ≤ w ∧ w ≤ 8 ∧ G0 c 2 = nI w ∧ q.2.2 = nI j ∧ q.1 = w - j + 1) ∧ lv_has q.2.1 3 [(0, .ref (gad P c)), (1, .int a1), (2, .int q.2.2)] ∧ gH P s G0 H1 locs1) (fun q => F0 m 2 q.2.1 []) (fun q => q.1) (fun q H locs h9 ih2 => ?_) (fun hC2 => ?_)
  · clear hsp hl hH ls
    obtain ⟨n, ls, x2⟩ := q
    obtain ⟨hsp, hinv, hl, hH⟩ := h9
    dsimp only at hinv
    obtain ⟨d, rfl⟩ : ∃ d, n = d + 1 := by obtain ⟨j, w, -, -, -, -, h⟩ := hinv; exact ⟨n - 1, by omega⟩
    change lv_has ls 3 [(0, .ref (gad P c)), (1, .int a1), (2, .int x2)] at hl
    dsimp only at hsp hH ⊢
    refine lv_iload_n hx hb d_A_placeOf_2 rfl (lv_at hl 2 rfl) ?_
    refine lv_aload_n hx hb d_A_placeOf_3 rfl (lv_at hl 0 rfl) ?_
    refine g_geti (v := (G0 c 2)) E hH (gc_A hc) cl_A 2 (by decide) lf_A_18 (fun _ => rfl) rfl d_A_placeOf_4 ?_
    refine lv_icmp_ge (tgt := 26) hx hb d_A_placeOf_7 (by decide) (fun h1 => ?_) (fun h1 => ?_)
    · refine lv_iload_n hx hb d_A_placeOf_26 rfl (lv_at hl 2 rfl) ?_
      exact g_riret E hH (hsp.trans (by simp only [sp_A_placeOf_2, if_pos h1])) d_A_placeOf_27
    · refine lv_aload_n hx hb d_A_placeOf_10 rfl (lv_at hl 0 rfl) ?_
      refine g_get E hH (gc_A hc) cl_A 0 (by decide) lf_A_9 rfl d_A_placeOf_11 ?_
      refine lv_iload_n hx hb d_A_placeOf_14 rfl (lv_at hl 2 rfl) ?_
      refine g_iaload (k := (tn x2)) (v := (G0 (c + 1) (tn x2))) E hH (ga_I8 (kA_times hc)) (pl_in hinv h1) rfl rfl d_A_placeOf_15 ?_
      refine lv_iload_n hx hb d_A_placeOf_16 rfl (lv_at hl 1 rfl) ?_
      refine lv_icmp_eq (tgt := 26) hx hb d_A_placeOf_17 (by decide) (fun h2 => ?_) (fun h2 => ?_)
      · refine lv_iload_n hx hb d_A_placeOf_26 rfl (lv_at hl 2 rfl) ?_
        exact g_riret E hH (hsp.trans (by simp only [sp_A_placeOf_2, if_neg h1, if_pos h2])) d_A_placeOf_27
      · refine lv_iinc (k := 2) (v := (x2 + 1)) hx hb d_A_placeOf_20 hl rfl rfl (by decide) rfl (fun ls hl => ?_)
        refine lv_goto (tgt := 2) hx hb d_A_placeOf_23 (by decide) ?_
        exact ih2 (d, _, (x2 + 1)) _ _ (Nat.lt_succ_self _) ⟨hsp.trans (by simp only [sp_A_placeOf_2, if_neg h1, if_neg h2]), (wl_back hinv h1), lv_sub hl [1, 2, 0] rfl, hH⟩
  refine lv_iconst (v := 0) hx hb d_A_placeOf_0 (by decide) ?_
  refine lv_istore_n hx hb d_A_placeOf_1 rfl hl (by decide) rfl (fun ls hl => ?_)
  exact hC2 ((tn (G0 c 2) + 1), _, 0) _ _ ⟨hsp.trans (by rw [sp_A_placeOf]), (wl_first hm), lv_sub hl [1, 2, 0] rfl, hH⟩
end
section
def sp_M_within  (G0 : Mem) (a1 : Int32) (a2 : Int32) (a3 : Int32) : Int32 :=
  ((if a1 < a2 then 0 else (if a3 < a1 then 0 else 1)) : Int32)
set_option maxHeartbeats 4000000 in
set_option maxRecDepth 100000 in
theorem c_M_within (l : Launch) (P : gP) (G0 : Mem)  (a1 : Int32) (a2 : Int32) (a3 : Int32)  : gMrz l y_M_within b_M_within 3 (some .boolean) ({ frames := 0, cells := 0, slots := 0, locals := 0 }) [.int a1, .int a2, .int a3] P G0 (sp_M_within G0 a1 a2 a3) := by
  refine Met.ofW (cc := b_M_within) (maxL := 3) (ret := (some .boolean)) (by decide) rfl ?_
  intro p e s m args below meth c0 s₁ B hml hv
  obtain ⟨rfl, hpre⟩ := hv
  obtain ⟨E, hH⟩ := gE_of B hml hpre
  replace E : gE p s m _ meth c0 P "FramedLineModel" b_M_within 3 (some .boolean) := E
  have hx := E.1
  have hb := E.2.1
  have hl := lv_entry ([.int a1, .int a2, .int a3]) (n := 3) (Nat.le_of_ble_eq_true rfl)
  rw [lg_entry_eq]
  generalize (lg_sl ([.int a1, .int a2, .int a3]) ++ List.replicate (3 - (lg_sl ([.int a1, .int a2, .int a3])).length) Slot.unset).toArray = ls at hl ⊢
  replace hl : lv_has ls 3 [(0, .int a1), (1, .int a2), (2, .int a3)] := hl
  have hsp : sp_M_within G0 a1 a2 a3 = sp_M_within G0 a1 a2 a3 := rfl
  refine lv_iload_n hx hb d_M_within_0 rfl (lv_at hl 0 rfl) ?_
  refine lv_iload_n hx hb d_M_within_1 rfl (lv_at hl 1 rfl) ?_
  refine jn (α := Int32) (fun z H1 locs1 => z = ((if a1 < a2 then 0 else (if a3 < a1 then 0 else 1)) : Int32) ∧ isB z ∧ gH P s G0 H1 locs1) (fun z => F0 m 15 ls (.int z :: [])) (fun z H locs h9 => ?_) (fun hJ => ?_)
  · obtain ⟨rfl, hz15, hH⟩ := h9
    exact g_rzret E hH (hsp.trans (by rw [sp_M_within])) hz15 d_M_within_15
  · refine lv_icmp_lt (tgt := 14) hx hb d_M_within_2 (by decide) (fun h1 => ?_) (fun h1 => ?_)
    · refine lv_iconst (v := 0) hx hb d_M_within_14 (by decide) ?_
      exact hJ _ _ _ ⟨by simp only [if_pos h1], isB_0, hH⟩
    · refine lv_iload_n hx hb d_M_within_5 rfl (lv_at hl 0 rfl) ?_
      refine lv_iload_n hx hb d_M_within_6 rfl (lv_at hl 2 rfl) ?_
      refine lv_icmp_gt (tgt := 14) hx hb d_M_within_7 (by decide) (fun h2 => ?_) (fun h2 => ?_)
      · refine lv_iconst (v := 0) hx hb d_M_within_14 (by decide) ?_
        exact hJ _ _ _ ⟨by simp only [if_neg h1, if_pos h2], isB_0, hH⟩
      · refine lv_iconst (v := 1) hx hb d_M_within_10 (by decide) ?_
        refine lv_goto (tgt := 15) hx hb d_M_within_11 (by decide) ?_
        exact hJ _ _ _ ⟨by simp only [if_neg h1, if_neg h2], isB_1, hH⟩

def sp_M_isEnd  (G0 : Mem) (a1 : Int32) : Int32 :=
  ((if a1 = 0 then 1 else (if a1 = 1 then 1 else 0)) : Int32)
set_option maxHeartbeats 4000000 in
set_option maxRecDepth 100000 in
theorem c_M_isEnd (l : Launch) (P : gP) (G0 : Mem)  (a1 : Int32)  : gMrz l y_M_isEnd b_M_isEnd 1 (some .boolean) ({ frames := 0, cells := 0, slots := 0, locals := 0 }) [.int a1] P G0 (sp_M_isEnd G0 a1) := by
  refine Met.ofW (cc := b_M_isEnd) (maxL := 1) (ret := (some .boolean)) (by decide) rfl ?_
  intro p e s m args below meth c0 s₁ B hml hv
  obtain ⟨rfl, hpre⟩ := hv
  obtain ⟨E, hH⟩ := gE_of B hml hpre
  replace E : gE p s m _ meth c0 P "FramedLineModel" b_M_isEnd 1 (some .boolean) := E
  have hx := E.1
  have hb := E.2.1
  have hl := lv_entry ([.int a1]) (n := 1) (Nat.le_of_ble_eq_true rfl)
  rw [lg_entry_eq]
  generalize (lg_sl ([.int a1]) ++ List.replicate (1 - (lg_sl ([.int a1])).length) Slot.unset).toArray = ls at hl ⊢
  replace hl : lv_has ls 1 [(0, .int a1)] := hl
  have hsp : sp_M_isEnd G0 a1 = sp_M_isEnd G0 a1 := rfl
  refine lv_iload_n hx hb d_M_isEnd_0 rfl (lv_at hl 0 rfl) ?_
  refine jn (α := Int32) (fun z H1 locs1 => z = ((if a1 = 0 then 1 else (if a1 = 1 then 1 else 0)) : Int32) ∧ isB z ∧ gH P s G0 H1 locs1) (fun z => F0 m 14 ls (.int z :: [])) (fun z H locs h9 => ?_) (fun hJ => ?_)
  · obtain ⟨rfl, hz14, hH⟩ := h9
    exact g_rzret E hH (hsp.trans (by rw [sp_M_isEnd])) hz14 d_M_isEnd_14
  · refine lv_if_eq (tgt := 9) hx hb d_M_isEnd_1 (by decide) (fun h1 => ?_) (fun h1 => ?_)
    · refine lv_iconst (v := 1) hx hb d_M_isEnd_9 (by decide) ?_
      refine lv_goto (tgt := 14) hx hb d_M_isEnd_10 (by decide) ?_
      exact hJ _ _ _ ⟨by simp only [if_pos h1], isB_1, hH⟩
    · refine lv_iload_n hx hb d_M_isEnd_4 rfl (lv_at hl 0 rfl) ?_
      refine lv_iconst (v := 1) hx hb d_M_isEnd_5 (by decide) ?_
      refine lv_icmp_ne (tgt := 13) hx hb d_M_isEnd_6 (by decide) (fun h2 => ?_) (fun h2 => ?_)
      · refine lv_iconst (v := 0) hx hb d_M_isEnd_13 (by decide) ?_
        exact hJ _ _ _ ⟨by simp only [if_neg h1, if_neg h2], isB_0, hH⟩
      · refine lv_iconst (v := 1) hx hb d_M_isEnd_9 (by decide) ?_
        refine lv_goto (tgt := 14) hx hb d_M_isEnd_10 (by decide) ?_
        exact hJ _ _ _ ⟨by simp only [if_neg h1, if_pos h2], isB_1, hH⟩

def sp_M_with  (G0 : Mem) (a1 : Int32) (a2 : Int32) : Int32 :=
  ((if (a2 ^^^ (a1 >>> ((3 : Int32) &&& 31))) = 1 then (((a1 <<< ((1 : Int32) &&& 31)) &&& (15 : Int32)) ^^^ (3 : Int32)) else ((a1 <<< ((1 : Int32) &&& 31)) &&& (15 : Int32))) : Int32)
set_option maxHeartbeats 4000000 in
set_option maxRecDepth 100000 in
theorem c_M_with (l : Launch) (P : gP) (G0 : Mem)  (a1 : Int32) (a2 : Int32)  : gMri l y_M_with b_M_with 4 (some .int) ({ frames := 0, cells := 0, slots := 0, locals := 0 }) [.int a1, .int a2] P G0 (sp_M_with G0 a1 a2) := by
  refine Met.ofW (cc := b_M_with) (maxL := 4) (ret := (some .int)) (by decide) rfl ?_
  intro p e s m args below meth c0 s₁ B hml hv
  obtain ⟨rfl, hpre⟩ := hv
  obtain ⟨E, hH⟩ := gE_of B hml hpre
  replace E : gE p s m _ meth c0 P "FramedLineModel" b_M_with 4 (some .int) := E
  have hx := E.1
  have hb := E.2.1
  have hl := lv_entry ([.int a1, .int a2]) (n := 4) (Nat.le_of_ble_eq_true rfl)
  rw [lg_entry_eq]
  generalize (lg_sl ([.int a1, .int a2]) ++ List.replicate (4 - (lg_sl ([.int a1, .int a2])).length) Slot.unset).toArray = ls at hl ⊢
  replace hl : lv_has ls 4 [(0, .int a1), (1, .int a2)] := hl
  have hsp : sp_M_with G0 a1 a2 = sp_M_with G0 a1 a2 := rfl
  refine lv_iload_n hx hb d_M_with_0 rfl (lv_at hl 1 rfl) ?_
  refine lv_iload_n hx hb d_M_with_1 rfl (lv_at hl 0 rfl) ?_
  refine lv_iconst (v := 3) hx hb d_M_with_2 (by decide) ?_
  refine lv_ishr hx hb d_M_with_3 ?_
  refine lv_ixor hx hb d_M_with_4 ?_
  refine lv_istore_n hx hb d_M_with_5 rfl hl (by decide) rfl (fun ls hl => ?_)
  refine lv_iload_n hx hb d_M_with_6 rfl (lv_at hl 1 rfl) ?_
  refine lv_iconst (v := 1) hx hb d_M_with_7 (by decide) ?_
  refine lv_ishl hx hb d_M_with_8 ?_
  refine lv_bipush (v := 15) hx hb d_M_with_9 (by decide) ?_
  refine lv_iand hx hb d_M_with_11 ?_
  refine lv_istore_n hx hb d_M_with_12 rfl hl (by decide) rfl (fun ls hl => ?_)
  refine lv_iload_n hx hb d_M_with_13 rfl (lv_at hl 1 rfl) ?_
  refine lv_iconst (v := 1) hx hb d_M_with_14 (by decide) ?_
  refine jn (α := Int32) (fun z H1 locs1 => z = ((if (a2 ^^^ (a1 >>> ((3 : Int32) &&& 31))) = 1 then (((a1 <<< ((1 : Int32) &&& 31)) &&& (15 : Int32)) ^^^ (3 : Int32)) else ((a1 <<< ((1 : Int32) &&& 31)) &&& (15 : Int32))) : Int32) ∧ gH P s G0 H1 locs1) (fun z => F0 m 25 ls (.int z :: [])) (fun z H locs h9 => ?_) (fun hJ => ?_)
  · obtain ⟨rfl, hH⟩ := h9
    exact g_riret E hH (hsp.trans (by rw [sp_M_with])) d_M_with_25
  · refine lv_icmp_ne (tgt := 24) hx hb d_M_with_15 (by decide) (fun h1 => ?_) (fun h1 => ?_)
    · refine lv_iload_n hx hb d_M_with_24 rfl (lv_at hl 0 rfl) ?_
      exact hJ _ _ _ ⟨by simp only [if_neg h1], hH⟩
    · refine lv_iload_n hx hb d_M_with_18 rfl (lv_at hl 0 rfl) ?_
      refine lv_iconst (v := 3) hx hb d_M_with_19 (by decide) ?_
      refine lv_ixor hx hb d_M_with_20 ?_
      refine lv_goto (tgt := 25) hx hb d_M_with_21 (by decide) ?_
      exact hJ _ _ _ ⟨by simp only [if_pos h1], hH⟩

def sp_M_thrown  (G0 : Mem)  : Int32 :=
  (G0 21 0)
set_option maxHeartbeats 4000000 in
set_option maxRecDepth 100000 in
theorem c_M_thrown (l : Launch) (P : gP) (G0 : Mem)    : gMri l y_M_thrown b_M_thrown 1 (some .int) ({ frames := 0, cells := 0, slots := 0, locals := 0 }) [.ref (gad P 21)] P G0 (sp_M_thrown G0) := by
  refine Met.ofW (cc := b_M_thrown) (maxL := 1) (ret := (some .int)) (by decide) rfl ?_
  intro p e s m args below meth c0 s₁ B hml hv
  obtain ⟨rfl, hpre⟩ := hv
  obtain ⟨E, hH⟩ := gE_of B hml hpre
  replace E : gE p s m _ meth c0 P "FramedLineModel" b_M_thrown 1 (some .int) := E
  have hx := E.1
  have hb := E.2.1
  have hl := lv_entry ([.ref (gad P 21)]) (n := 1) (Nat.le_of_ble_eq_true rfl)
  rw [lg_entry_eq]
  generalize (lg_sl ([.ref (gad P 21)]) ++ List.replicate (1 - (lg_sl ([.ref (gad P 21)])).length) Slot.unset).toArray = ls at hl ⊢
  replace hl : lv_has ls 1 [(0, .ref (gad P 21))] := hl
  have hsp : sp_M_thrown G0 = sp_M_thrown G0 := rfl
  refine lv_aload_n hx hb d_M_thrown_0 rfl (lv_at hl 0 rfl) ?_
  refine g_geti (v := (G0 21 0)) E hH (gc_M rfl) cl_M 0 (by decide) lf_M_137 (fun _ => rfl) rfl d_M_thrown_1 ?_
  exact g_riret E hH (hsp.trans (by rw [sp_M_thrown])) d_M_thrown_4

def sp_M_mark  (G0 : Mem) (a1 : Int32) (a2 : Int32) : Int32 :=
  (if a2 ≤ 11 then ((if a2 = 5 then 1 else (if a2 ≤ 8 then 0 else 1)) : Int32) else ((if (G0 62 (tn ((2 * a1) + ((if a2 = 13 then 0 else 1) : Int32)))) = 0 then 1 else 0) : Int32))
set_option maxHeartbeats 4000000 in
set_option maxRecDepth 100000 in
theorem c_M_mark (l : Launch) (P : gP) (G0 : Mem)  (a1 : Int32) (a2 : Int32) (he : a1 = 0 ∨ a1 = 1) : gMri l y_M_mark b_M_mark 3 (some .int) ({ frames := 0, cells := 0, slots := 0, locals := 0 }) [.ref (gad P 21), .int a1, .int a2] P G0 (sp_M_mark G0 a1 a2) := by
  refine Met.ofW (cc := b_M_mark) (maxL := 3) (ret := (some .int)) (by decide) rfl ?_
  intro p e s m args below meth c0 s₁ B hml hv
  obtain ⟨rfl, hpre⟩ := hv
  obtain ⟨E, hH⟩ := gE_of B hml hpre
  replace E : gE p s m _ meth c0 P "FramedLineModel" b_M_mark 3 (some .int) := E
  have hx := E.1
  have hb := E.2.1
  have hl := lv_entry ([.ref (gad P 21), .int a1, .int a2]) (n := 3) (Nat.le_of_ble_eq_true rfl)
  rw [lg_entry_eq]
  generalize (lg_sl ([.ref (gad P 21), .int a1, .int a2]) ++ List.replicate (3 - (lg_sl ([.ref (gad P 21), .int a1, .int a2])).length) Slot.unset).toArray = ls at hl ⊢
  replace hl : lv_has ls 3 [(0, .ref (gad P 21)), (1, .int a1), (2, .int a2)] := hl
  have hsp : sp_M_mark G0 a1 a2 = sp_M_mark G0 a1 a2 := rfl
  refine lv_iload_n hx hb d_M_mark_0 rfl (lv_at hl 2 rfl) ?_
  refine lv_bipush (v := 11) hx hb d_M_mark_1 (by decide) ?_
  refine lv_icmp_le (tgt := 35) hx hb d_M_mark_3 (by decide) (fun h1 => ?_) (fun h1 => ?_)
  · refine lv_iload_n hx hb d_M_mark_35 rfl (lv_at hl 2 rfl) ?_
    refine lv_iconst (v := 5) hx hb d_M_mark_36 (by decide) ?_
    refine jn (α := Int32) (fun z H1 locs1 => z = ((if a2 = 5 then 1 else (if a2 ≤ 8 then 0 else 1)) : Int32) ∧ isB z ∧ gH P s G0 H1 locs1) (fun z => F0 m 51 ls (.int z :: [])) (fun z H locs h9 => ?_) (fun hJ => ?_)
    · obtain ⟨rfl, hz51, hH⟩ := h9
      exact g_riret E hH (hsp.trans (by simp only [sp_M_mark, if_pos h1])) d_M_mark_51
    · refine lv_icmp_eq (tgt := 46) hx hb d_M_mark_37 (by decide) (fun h2 => ?_) (fun h2 => ?_)
      · refine lv_iconst (v := 1) hx hb d_M_mark_46 (by decide) ?_
        refine lv_goto (tgt := 51) hx hb d_M_mark_47 (by decide) ?_
        exact hJ _ _ _ ⟨by simp only [if_pos h2], isB_1, hH⟩
      · refine lv_iload_n hx hb d_M_mark_40 rfl (lv_at hl 2 rfl) ?_
        refine lv_bipush (v := 8) hx hb d_M_mark_41 (by decide) ?_
        refine lv_icmp_le (tgt := 50) hx hb d_M_mark_43 (by decide) (fun h3 => ?_) (fun h3 => ?_)
        · refine lv_iconst (v := 0) hx hb d_M_mark_50 (by decide) ?_
          exact hJ _ _ _ ⟨by simp only [if_neg h2, if_pos h3], isB_0, hH⟩
        · refine lv_iconst (v := 1) hx hb d_M_mark_46 (by decide) ?_
          refine lv_goto (tgt := 51) hx hb d_M_mark_47 (by decide) ?_
          exact hJ _ _ _ ⟨by simp only [if_neg h2, if_neg h3], isB_1, hH⟩
  · refine lv_aload_n hx hb d_M_mark_6 rfl (lv_at hl 0 rfl) ?_
    refine g_get E hH (gc_M rfl) cl_M 42 (by decide) lf_M_131 rfl d_M_mark_7 ?_
    refine lv_iconst (v := 2) hx hb d_M_mark_10 (by decide) ?_
    refine lv_iload_n hx hb d_M_mark_11 rfl (lv_at hl 1 rfl) ?_
    refine lv_imul hx hb d_M_mark_12 ?_
    refine lv_iload_n hx hb d_M_mark_13 rfl (lv_at hl 2 rfl) ?_
    refine lv_bipush (v := 13) hx hb d_M_mark_14 (by decide) ?_
    refine jn (α := Int32) (fun z H1 locs1 => z = ((if a2 = 13 then 0 else 1) : Int32) ∧ isB z ∧ gH P s G0 H1 locs1) (fun z => F0 m 24 ls (.int z :: .int (2 * a1) :: .ref (gad P 62) :: [])) (fun z H locs h9 => ?_) (fun hJ => ?_)
    · obtain ⟨rfl, hz24, hH⟩ := h9
      refine lv_iadd hx hb d_M_mark_24 ?_
      refine g_baload (k := (tn ((2 * a1) + ((if a2 = 13 then 0 else 1) : Int32)))) (v := (G0 62 (tn ((2 * a1) + ((if a2 = 13 then 0 else 1) : Int32))))) E hH ⟨by decide, fun _ => rfl⟩ (by rcases he with rfl | rfl <;> (unfold vp_in; first | decide | (split <;> decide))) rfl rfl d_M_mark_25 ?_
      refine jn (α := Int32) (fun z H1 locs1 => z = ((if (G0 62 (tn ((2 * a1) + ((if a2 = 13 then 0 else 1) : Int32)))) = 0 then 1 else 0) : Int32) ∧ isB z ∧ gH P s G0 H1 locs1) (fun z => F0 m 34 ls (.int z :: [])) (fun z H locs h9 => ?_) (fun hJ => ?_)
      · obtain ⟨rfl, hz34, hH⟩ := h9
        exact g_riret E hH (hsp.trans (by simp only [sp_M_mark, if_neg h1])) d_M_mark_34
      · refine lv_if_eq (tgt := 33) hx hb d_M_mark_26 (by decide) (fun h4 => ?_) (fun h4 => ?_)
        · refine lv_iconst (v := 1) hx hb d_M_mark_33 (by decide) ?_
          exact hJ _ _ _ ⟨by simp only [if_pos h4], isB_1, hH⟩
        · refine lv_iconst (v := 0) hx hb d_M_mark_29 (by decide) ?_
          refine lv_goto (tgt := 34) hx hb d_M_mark_30 (by decide) ?_
          exact hJ _ _ _ ⟨by simp only [if_neg h4], isB_0, hH⟩
    · refine lv_icmp_ne (tgt := 23) hx hb d_M_mark_16 (by decide) (fun h5 => ?_) (fun h5 => ?_)
      · refine lv_iconst (v := 1) hx hb d_M_mark_23 (by decide) ?_
        exact hJ _ _ _ ⟨by simp only [if_neg h5], isB_1, hH⟩
      · refine lv_iconst (v := 0) hx hb d_M_mark_19 (by decide) ?_
        refine lv_goto (tgt := 24) hx hb d_M_mark_20 (by decide) ?_
        exact hJ _ _ _ ⟨by simp only [if_pos h5], isB_0, hH⟩

def sp_M_fault  (G0 : Mem) (a1 : Int32) (a2 : Int32) (a3 : Int32) : Mem :=
  (wr G0 63 (tn ((5 * a1) + a3)) ((if a2 = 0 then (G0 63 (tn ((5 * a1) + a3))) else ((G0 63 (tn ((5 * a1) + a3))) + 1)) : Int32))
set_option maxHeartbeats 4000000 in
set_option maxRecDepth 100000 in
theorem c_M_fault (l : Launch) (P : gP) (G0 : Mem)  (a1 : Int32) (a2 : Int32) (a3 : Int32) (he : a1 = 0 ∨ a1 = 1) (hk : a3 = 0 ∨ a3 = 1 ∨ a3 = 2 ∨ a3 = 3 ∨ a3 = 4) : gMv l y_M_fault b_M_fault 4 none ({ frames := 0, cells := 0, slots := 0, locals := 0 }) [.ref (gad P 21), .int a1, .int a2, .int a3] P G0 (sp_M_fault G0 a1 a2 a3) := by
  refine Met.ofW (cc := b_M_fault) (maxL := 4) (ret := none) (by decide) rfl ?_
  intro p e s m args below meth c0 s₁ B hml hv
  obtain ⟨rfl, hpre⟩ := hv
  obtain ⟨E, hH⟩ := gE_of B hml hpre
  replace E : gE p s m _ meth c0 P "FramedLineModel" b_M_fault 4 none := E
  have hx := E.1
  have hb := E.2.1
  have hl := lv_entry ([.ref (gad P 21), .int a1, .int a2, .int a3]) (n := 4) (Nat.le_of_ble_eq_true rfl)
  rw [lg_entry_eq]
  generalize (lg_sl ([.ref (gad P 21), .int a1, .int a2, .int a3]) ++ List.replicate (4 - (lg_sl ([.ref (gad P 21), .int a1, .int a2, .int a3])).length) Slot.unset).toArray = ls at hl ⊢
  replace hl : lv_has ls 4 [(0, .ref (gad P 21)), (1, .int a1), (2, .int a2), (3, .int a3)] := hl
  have hsp : sp_M_fault G0 a1 a2 a3 = sp_M_fault G0 a1 a2 a3 := rfl
  refine lv_aload_n hx hb d_M_fault_0 rfl (lv_at hl 0 rfl) ?_
  refine g_get E hH (gc_M rfl) cl_M 43 (by decide) lf_M_134 rfl d_M_fault_1 ?_
  refine lv_iconst (v := 5) hx hb d_M_fault_4 (by decide) ?_
  refine lv_iload_n hx hb d_M_fault_5 rfl (lv_at hl 1 rfl) ?_
  refine lv_imul hx hb d_M_fault_6 ?_
  refine lv_iload_n hx hb d_M_fault_7 rfl (lv_at hl 3 rfl) ?_
  refine lv_iadd hx hb d_M_fault_8 ?_
  refine lv_iload_n hx hb d_M_fault_9 rfl (lv_at hl 2 rfl) ?_
  refine jn (α := Int32) (fun z H1 locs1 => z = ((if a2 = 0 then (G0 63 (tn ((5 * a1) + a3))) else ((G0 63 (tn ((5 * a1) + a3))) + 1)) : Int32) ∧ gH P s G0 H1 locs1) (fun z => F0 m 38 ls (.int z :: .int ((5 * a1) + a3) :: .ref (gad P 63) :: [])) (fun z H locs h9 => ?_) (fun hJ => ?_)
  · obtain ⟨rfl, hH⟩ := h9
    refine g_iastore (k := (tn ((5 * a1) + a3))) E hH ⟨by decide, fun _ => rfl⟩ (by rcases he with rfl | rfl <;> rcases hk with rfl | rfl | rfl | rfl | rfl <;> (unfold vp_in; decide)) rfl d_M_fault_38 (fun H locs hH => ?_)
    exact g_vret E hH (hsp.trans (by rw [sp_M_fault])) d_M_fault_39
  · refine lv_if_eq (tgt := 28) hx hb d_M_fault_10 (by decide) (fun h1 => ?_) (fun h1 => ?_)
    · refine lv_aload_n hx hb d_M_fault_28 rfl (lv_at hl 0 rfl) ?_
      refine g_get E hH (gc_M rfl) cl_M 43 (by decide) lf_M_134 rfl d_M_fault_29 ?_
      refine lv_iconst (v := 5) hx hb d_M_fault_32 (by decide) ?_
      refine lv_iload_n hx hb d_M_fault_33 rfl (lv_at hl 1 rfl) ?_
      refine lv_imul hx hb d_M_fault_34 ?_
      refine lv_iload_n hx hb d_M_fault_35 rfl (lv_at hl 3 rfl) ?_
      refine lv_iadd hx hb d_M_fault_36 ?_
      refine g_iaload (k := (tn ((5 * a1) + a3))) (v := (G0 63 (tn ((5 * a1) + a3)))) E hH ⟨by decide, fun _ => rfl⟩ (by rcases he with rfl | rfl <;> rcases hk with rfl | rfl | rfl | rfl | rfl <;> (unfold vp_in; decide)) rfl rfl d_M_fault_37 ?_
      exact hJ _ _ _ ⟨by simp only [if_pos h1], hH⟩
    · refine lv_aload_n hx hb d_M_fault_13 rfl (lv_at hl 0 rfl) ?_
      refine g_get E hH (gc_M rfl) cl_M 43 (by decide) lf_M_134 rfl d_M_fault_14 ?_
      refine lv_iconst (v := 5) hx hb d_M_fault_17 (by decide) ?_
      refine lv_iload_n hx hb d_M_fault_18 rfl (lv_at hl 1 rfl) ?_
      refine lv_imul hx hb d_M_fault_19 ?_
      refine lv_iload_n hx hb d_M_fault_20 rfl (lv_at hl 3 rfl) ?_
      refine lv_iadd hx hb d_M_fault_21 ?_
      refine g_iaload (k := (tn ((5 * a1) + a3))) (v := (G0 63 (tn ((5 * a1) + a3)))) E hH ⟨by decide, fun _ => rfl⟩ (by rcases he with rfl | rfl <;> rcases hk with rfl | rfl | rfl | rfl | rfl <;> (unfold vp_in; decide)) rfl rfl d_M_fault_22 ?_
      refine lv_iconst (v := 1) hx hb d_M_fault_23 (by decide) ?_
      refine lv_iadd hx hb d_M_fault_24 ?_
      refine lv_goto (tgt := 38) hx hb d_M_fault_25 (by decide) ?_
      exact hJ _ _ _ ⟨by simp only [if_neg h1], hH⟩

def sp_M_forget  (G0 : Mem) (a1 : Int32) : Mem :=
  (wr (wr (wr (wr (wr G0 52 (tn a1) (zb 0)) 57 (tn a1) (zb 0)) 60 (tn a1) (zb 0)) 62 (tn (2 * a1)) (zb 0)) 62 (tn ((2 * a1) + 1)) (zb 0))
set_option maxHeartbeats 4000000 in
set_option maxRecDepth 100000 in
theorem c_M_forget (l : Launch) (P : gP) (G0 : Mem)  (a1 : Int32) (he : a1 = 0 ∨ a1 = 1) : gMv l y_M_forget b_M_forget 2 none ({ frames := 0, cells := 0, slots := 0, locals := 0 }) [.ref (gad P 21), .int a1] P G0 (sp_M_forget G0 a1) := by
  refine Met.ofW (cc := b_M_forget) (maxL := 2) (ret := none) (by decide) rfl ?_
  intro p e s m args below meth c0 s₁ B hml hv
  obtain ⟨rfl, hpre⟩ := hv
  obtain ⟨E, hH⟩ := gE_of B hml hpre
  replace E : gE p s m _ meth c0 P "FramedLineModel" b_M_forget 2 none := E
  have hx := E.1
  have hb := E.2.1
  have hl := lv_entry ([.ref (gad P 21), .int a1]) (n := 2) (Nat.le_of_ble_eq_true rfl)
  rw [lg_entry_eq]
  generalize (lg_sl ([.ref (gad P 21), .int a1]) ++ List.replicate (2 - (lg_sl ([.ref (gad P 21), .int a1])).length) Slot.unset).toArray = ls at hl ⊢
  replace hl : lv_has ls 2 [(0, .ref (gad P 21)), (1, .int a1)] := hl
  have hsp : sp_M_forget G0 a1 = sp_M_forget G0 a1 := rfl
  refine lv_aload_n hx hb d_M_forget_0 rfl (lv_at hl 0 rfl) ?_
  refine g_get E hH (gc_M rfl) cl_M 32 (by decide) lf_M_101 rfl d_M_forget_1 ?_
  refine lv_iload_n hx hb d_M_forget_4 rfl (lv_at hl 1 rfl) ?_
  refine lv_iconst (v := 0) hx hb d_M_forget_5 (by decide) ?_
  refine g_bastore (k := (tn a1)) E hH ⟨by decide, fun _ => rfl⟩ (by rcases he with rfl | rfl <;> (unfold vp_in; first | decide | (split <;> decide))) rfl d_M_forget_6 (fun H locs hH => ?_)
  refine lv_aload_n hx hb d_M_forget_7 rfl (lv_at hl 0 rfl) ?_
  refine g_get E hH (gc_M rfl) cl_M 37 (by decide) lf_M_116 rfl d_M_forget_8 ?_
  refine lv_iload_n hx hb d_M_forget_11 rfl (lv_at hl 1 rfl) ?_
  refine lv_iconst (v := 0) hx hb d_M_forget_12 (by decide) ?_
  refine g_bastore (k := (tn a1)) E hH ⟨by decide, fun _ => rfl⟩ (by rcases he with rfl | rfl <;> (unfold vp_in; first | decide | (split <;> decide))) rfl d_M_forget_13 (fun H locs hH => ?_)
  refine lv_aload_n hx hb d_M_forget_14 rfl (lv_at hl 0 rfl) ?_
  refine g_get E hH (gc_M rfl) cl_M 40 (by decide) lf_M_125 rfl d_M_forget_15 ?_
  refine lv_iload_n hx hb d_M_forget_18 rfl (lv_at hl 1 rfl) ?_
  refine lv_iconst (v := 0) hx hb d_M_forget_19 (by decide) ?_
  refine g_bastore (k := (tn a1)) E hH ⟨by decide, fun _ => rfl⟩ (by rcases he with rfl | rfl <;> (unfold vp_in; first | decide | (split <;> decide))) rfl d_M_forget_20 (fun H locs hH => ?_)
  refine lv_aload_n hx hb d_M_forget_21 rfl (lv_at hl 0 rfl) ?_
  refine g_get E hH (gc_M rfl) cl_M 42 (by decide) lf_M_131 rfl d_M_forget_22 ?_
  refine lv_iconst (v := 2) hx hb d_M_forget_25 (by decide) ?_
  refine lv_iload_n hx hb d_M_forget_26 rfl (lv_at hl 1 rfl) ?_
  refine lv_imul hx hb d_M_forget_27 ?_
  refine lv_iconst (v := 0) hx hb d_M_forget_28 (by decide) ?_
  refine g_bastore (k := (tn (2 * a1))) E hH ⟨by decide, fun _ => rfl⟩ (by rcases he with rfl | rfl <;> (unfold vp_in; first | decide | (split <;> decide))) rfl d_M_forget_29 (fun H locs hH => ?_)
  refine lv_aload_n hx hb d_M_forget_30 rfl (lv_at hl 0 rfl) ?_
  refine g_get E hH (gc_M rfl) cl_M 42 (by decide) lf_M_131 rfl d_M_forget_31 ?_
  refine lv_iconst (v := 2) hx hb d_M_forget_34 (by decide) ?_
  refine lv_iload_n hx hb d_M_forget_35 rfl (lv_at hl 1 rfl) ?_
  refine lv_imul hx hb d_M_forget_36 ?_
  refine lv_iconst (v := 1) hx hb d_M_forget_37 (by decide) ?_
  refine lv_iadd hx hb d_M_forget_38 ?_
  refine lv_iconst (v := 0) hx hb d_M_forget_39 (by decide) ?_
  refine g_bastore (k := (tn ((2 * a1) + 1))) E hH ⟨by decide, fun _ => rfl⟩ (by rcases he with rfl | rfl <;> (unfold vp_in; first | decide | (split <;> decide))) rfl d_M_forget_40 (fun H locs hH => ?_)
  exact g_vret E hH (hsp.trans (by rw [sp_M_forget])) d_M_forget_41

def sp_M_isWord  (G0 : Mem) (a1 : Int32) : Int32 :=
  ((if ((G0 45 (tn a1)) &&& (127 : Int32)) = 27 then 1 else 0) : Int32)
set_option maxHeartbeats 4000000 in
set_option maxRecDepth 100000 in
theorem c_M_isWord (l : Launch) (P : gP) (G0 : Mem)  (a1 : Int32) (he : a1 = 0 ∨ a1 = 1) : gMrz l y_M_isWord b_M_isWord 2 (some .boolean) ({ frames := 0, cells := 0, slots := 0, locals := 0 }) [.ref (gad P 21), .int a1] P G0 (sp_M_isWord G0 a1) := by
  refine Met.ofW (cc := b_M_isWord) (maxL := 2) (ret := (some .boolean)) (by decide) rfl ?_
  intro p e s m args below meth c0 s₁ B hml hv
  obtain ⟨rfl, hpre⟩ := hv
  obtain ⟨E, hH⟩ := gE_of B hml hpre
  replace E : gE p s m _ meth c0 P "FramedLineModel" b_M_isWord 2 (some .boolean) := E
  have hx := E.1
  have hb := E.2.1
  have hl := lv_entry ([.ref (gad P 21), .int a1]) (n := 2) (Nat.le_of_ble_eq_true rfl)
  rw [lg_entry_eq]
  generalize (lg_sl ([.ref (gad P 21), .int a1]) ++ List.replicate (2 - (lg_sl ([.ref (gad P 21), .int a1])).length) Slot.unset).toArray = ls at hl ⊢
  replace hl : lv_has ls 2 [(0, .ref (gad P 21)), (1, .int a1)] := hl
  have hsp : sp_M_isWord G0 a1 = sp_M_isWord G0 a1 := rfl
  refine lv_aload_n hx hb d_M_isWord_0 rfl (lv_at hl 0 rfl) ?_
  refine g_get E hH (gc_M rfl) cl_M 25 (by decide) lf_M_80 rfl d_M_isWord_1 ?_
  refine lv_iload_n hx hb d_M_isWord_4 rfl (lv_at hl 1 rfl) ?_
  refine g_iaload (k := (tn a1)) (v := (G0 45 (tn a1))) E hH ⟨by decide, fun _ => rfl⟩ (by rcases he with rfl | rfl <;> (unfold vp_in; first | decide | (split <;> decide))) rfl rfl d_M_isWord_5 ?_
  refine lv_bipush (v := 127) hx hb d_M_isWord_6 (by decide) ?_
  refine lv_iand hx hb d_M_isWord_8 ?_
  refine lv_bipush (v := 27) hx hb d_M_isWord_9 (by decide) ?_
  refine jn (α := Int32) (fun z H1 locs1 => z = ((if ((G0 45 (tn a1)) &&& (127 : Int32)) = 27 then 1 else 0) : Int32) ∧ isB z ∧ gH P s G0 H1 locs1) (fun z => F0 m 19 ls (.int z :: [])) (fun z H locs h9 => ?_) (fun hJ => ?_)
  · obtain ⟨rfl, hz19, hH⟩ := h9
    exact g_rzret E hH (hsp.trans (by rw [sp_M_isWord])) hz19 d_M_isWord_19
  · refine lv_icmp_ne (tgt := 18) hx hb d_M_isWord_11 (by decide) (fun h1 => ?_) (fun h1 => ?_)
    · refine lv_iconst (v := 0) hx hb d_M_isWord_18 (by decide) ?_
      exact hJ _ _ _ ⟨by simp only [if_neg h1], isB_0, hH⟩
    · refine lv_iconst (v := 1) hx hb d_M_isWord_14 (by decide) ?_
      refine lv_goto (tgt := 19) hx hb d_M_isWord_15 (by decide) ?_
      exact hJ _ _ _ ⟨by simp only [if_pos h1], isB_1, hH⟩

def sp_M_search  (G0 : Mem) (a1 : Int32) : Mem :=
  (sp_M_forget (wr (wr G0 43 (tn a1) 0) 44 (tn a1) 0) a1)
set_option maxHeartbeats 4000000 in
set_option maxRecDepth 100000 in
theorem c_M_search (l : Launch) (P : gP) (G0 : Mem)  (a1 : Int32) (he : a1 = 0 ∨ a1 = 1) : gMv l y_M_search b_M_search 2 none ({ frames := 1, cells := 0, slots := 0, locals := 21 }) [.ref (gad P 21), .int a1] P G0 (sp_M_search G0 a1) := by
  refine Met.ofW (cc := b_M_search) (maxL := 2) (ret := none) (by decide) rfl ?_
  intro p e s m args below meth c0 s₁ B hml hv
  obtain ⟨rfl, hpre⟩ := hv
  obtain ⟨E, hH⟩ := gE_of B hml hpre
  replace E : gE p s m _ meth c0 P "FramedLineModel" b_M_search 2 none := E
  have hx := E.1
  have hb := E.2.1
  have hl := lv_entry ([.ref (gad P 21), .int a1]) (n := 2) (Nat.le_of_ble_eq_true rfl)
  rw [lg_entry_eq]
  generalize (lg_sl ([.ref (gad P 21), .int a1]) ++ List.replicate (2 - (lg_sl ([.ref (gad P 21), .int a1])).length) Slot.unset).toArray = ls at hl ⊢
  replace hl : lv_has ls 2 [(0, .ref (gad P 21)), (1, .int a1)] := hl
  have hsp : sp_M_search G0 a1 = sp_M_search G0 a1 := rfl
  refine lv_aload_n hx hb d_M_search_0 rfl (lv_at hl 0 rfl) ?_
  refine g_get E hH (gc_M rfl) cl_M 23 (by decide) lf_M_74 rfl d_M_search_1 ?_
  refine lv_iload_n hx hb d_M_search_4 rfl (lv_at hl 1 rfl) ?_
  refine lv_iconst (v := 0) hx hb d_M_search_5 (by decide) ?_
  refine g_iastore (k := (tn a1)) E hH ⟨by decide, fun _ => rfl⟩ (by rcases he with rfl | rfl <;> (unfold vp_in; first | decide | (split <;> decide))) rfl d_M_search_6 (fun H locs hH => ?_)
  refine lv_aload_n hx hb d_M_search_7 rfl (lv_at hl 0 rfl) ?_
  refine g_get E hH (gc_M rfl) cl_M 24 (by decide) lf_M_77 rfl d_M_search_8 ?_
  refine lv_iload_n hx hb d_M_search_11 rfl (lv_at hl 1 rfl) ?_
  refine lv_iconst (v := 0) hx hb d_M_search_12 (by decide) ?_
  refine g_iastore (k := (tn a1)) E hH ⟨by decide, fun _ => rfl⟩ (by rcases he with rfl | rfl <;> (unfold vp_in; first | decide | (split <;> decide))) rfl d_M_search_13 (fun H locs hH => ?_)
  refine lv_aload_n hx hb d_M_search_14 rfl (lv_at hl 0 rfl) ?_
  refine lv_iload_n hx hb d_M_search_15 rfl (lv_at hl 1 rfl) ?_
  refine g_callVv (As := [.int _]) E hH hl (c_M_forget l P _ _ he) lm_M_173 (gc_M rfl) cl_M (Nat.le_of_ble_eq_true rfl) (Nat.le_of_ble_eq_true rfl) (Nat.le_of_ble_eq_true rfl) (Nat.le_of_ble_eq_true rfl) (Nat.le_of_ble_eq_true rfl) rfl rfl rfl rfl d_M_search_16 (fun H locs hH => ?_)
  exact g_vret E hH (hsp.trans (by rw [sp_M_search])) d_M_search_19

def sp_M_turned  (G0 : Mem) (a1 : Int32) : Int32 × Mem :=
  (((if (G0 30 (tn a1)) = 0 then 1 else (-(G0 30 (tn a1)))) : Int32), (wr G0 30 (tn a1) ((if (G0 30 (tn a1)) = 0 then 1 else (-(G0 30 (tn a1)))) : Int32)))
set_option maxHeartbeats 4000000 in
set_option maxRecDepth 100000 in
theorem c_M_turned (l : Launch) (P : gP) (G0 : Mem)  (a1 : Int32) (he : a1 = 0 ∨ a1 = 1) : gMi l y_M_turned b_M_turned 2 (some .int) ({ frames := 0, cells := 0, slots := 0, locals := 0 }) [.ref (gad P 21), .int a1] P G0 (sp_M_turned G0 a1) := by
  refine Met.ofW (cc := b_M_turned) (maxL := 2) (ret := (some .int)) (by decide) rfl ?_
  intro p e s m args below meth c0 s₁ B hml hv
  obtain ⟨rfl, hpre⟩ := hv
  obtain ⟨E, hH⟩ := gE_of B hml hpre
  replace E : gE p s m _ meth c0 P "FramedLineModel" b_M_turned 2 (some .int) := E
  have hx := E.1
  have hb := E.2.1
  have hl := lv_entry ([.ref (gad P 21), .int a1]) (n := 2) (Nat.le_of_ble_eq_true rfl)
  rw [lg_entry_eq]
  generalize (lg_sl ([.ref (gad P 21), .int a1]) ++ List.replicate (2 - (lg_sl ([.ref (gad P 21), .int a1])).length) Slot.unset).toArray = ls at hl ⊢
  replace hl : lv_has ls 2 [(0, .ref (gad P 21)), (1, .int a1)] := hl
  have hsp : sp_M_turned G0 a1 = sp_M_turned G0 a1 := rfl
  refine lv_aload_n hx hb d_M_turned_0 rfl (lv_at hl 0 rfl) ?_
  refine g_get E hH (gc_M rfl) cl_M 10 (by decide) lf_M_34 rfl d_M_turned_1 ?_
  refine lv_iload_n hx hb d_M_turned_4 rfl (lv_at hl 1 rfl) ?_
  refine lv_aload_n hx hb d_M_turned_5 rfl (lv_at hl 0 rfl) ?_
  refine g_get E hH (gc_M rfl) cl_M 10 (by decide) lf_M_34 rfl d_M_turned_6 ?_
  refine lv_iload_n hx hb d_M_turned_9 rfl (lv_at hl 1 rfl) ?_
  refine g_iaload (k := (tn a1)) (v := (G0 30 (tn a1))) E hH ⟨by decide, fun _ => rfl⟩ (by rcases he with rfl | rfl <;> (unfold vp_in; first | decide | (split <;> decide))) rfl rfl d_M_turned_10 ?_
  refine jn (α := Int32) (fun z H1 locs1 => z = ((if (G0 30 (tn a1)) = 0 then 1 else (-(G0 30 (tn a1)))) : Int32) ∧ gH P s G0 H1 locs1) (fun z => F0 m 25 ls (.int z :: .int a1 :: .ref (gad P 30) :: [])) (fun z H locs h9 => ?_) (fun hJ => ?_)
  · obtain ⟨rfl, hH⟩ := h9
    refine g_iastore (k := (tn a1)) E hH ⟨by decide, fun _ => rfl⟩ (by rcases he with rfl | rfl <;> (unfold vp_in; first | decide | (split <;> decide))) rfl d_M_turned_25 (fun H locs hH => ?_)
    refine lv_aload_n hx hb d_M_turned_26 rfl (lv_at hl 0 rfl) ?_
    refine g_get E hH (gc_M rfl) cl_M 10 (by decide) lf_M_34 rfl d_M_turned_27 ?_
    refine lv_iload_n hx hb d_M_turned_30 rfl (lv_at hl 1 rfl) ?_
    refine g_iaload (k := (tn a1)) (v := ((if (G0 30 (tn a1)) = 0 then 1 else (-(G0 30 (tn a1)))) : Int32)) E hH ⟨by decide, fun _ => rfl⟩ (by rcases he with rfl | rfl <;> (unfold vp_in; first | decide | (split <;> decide))) rfl (wr_same _ _ _ _) d_M_turned_31 ?_
    exact g_iret E hH (hsp.trans (by rw [sp_M_turned])) d_M_turned_32
  · refine lv_if_ne (tgt := 18) hx hb d_M_turned_11 (by decide) (fun h1 => ?_) (fun h1 => ?_)
    · refine lv_aload_n hx hb d_M_turned_18 rfl (lv_at hl 0 rfl) ?_
      refine g_get E hH (gc_M rfl) cl_M 10 (by decide) lf_M_34 rfl d_M_turned_19 ?_
      refine lv_iload_n hx hb d_M_turned_22 rfl (lv_at hl 1 rfl) ?_
      refine g_iaload (k := (tn a1)) (v := (G0 30 (tn a1))) E hH ⟨by decide, fun _ => rfl⟩ (by rcases he with rfl | rfl <;> (unfold vp_in; first | decide | (split <;> decide))) rfl rfl d_M_turned_23 ?_
      refine lv_ineg hx hb d_M_turned_24 ?_
      exact hJ _ _ _ ⟨by simp only [if_neg h1], hH⟩
    · refine lv_iconst (v := 1) hx hb d_M_turned_14 (by decide) ?_
      refine lv_goto (tgt := 25) hx hb d_M_turned_15 (by decide) ?_
      exact hJ _ _ _ ⟨by simp only [if_pos h1], hH⟩

def sp_M_said_5 (a1 : Int32) (a2 : Int32) : Nat → Mem → Int32 → Int32 → Int32
 | 0, G0, x3, x4 => 0
  | d + 1, G0, x3, x4 =>
  (if (G0 32 (tn a1)) ≤ x4 then x3 else (sp_M_said_5 a1 a2 d G0 ((if (G0 33 (tn ((8 * a1) + x4))) = a2 then x4 else x3) : Int32) (x4 + 1)))
def sp_M_said  (G0 : Mem) (a1 : Int32) (a2 : Int32) : Int32 :=
  (sp_M_said_5 a1 a2 (tn (G0 32 (tn a1)) + 1) G0 (-1) 0)
set_option maxHeartbeats 4000000 in
set_option maxRecDepth 100000 in
theorem c_M_said (l : Launch) (P : gP) (G0 : Mem)  (a1 : Int32) (a2 : Int32) (he : a1 = 0 ∨ a1 = 1) (hm : ∃ w : Nat, w ≤ 8 ∧ G0 32 (tn a1) = nI w) : gMri l y_M_said b_M_said 5 (some .int) ({ frames := 0, cells := 0, slots := 0, locals := 0 }) [.ref (gad P 21), .int a1, .int a2] P G0 (sp_M_said G0 a1 a2) := by
  refine Met.ofW (cc := b_M_said) (maxL := 5) (ret := (some .int)) (by decide) rfl ?_
  intro p e s m args below meth c0 s₁ B hml hv
  obtain ⟨rfl, hpre⟩ := hv
  obtain ⟨E, hH⟩ := gE_of B hml hpre
  replace E : gE p s m _ meth c0 P "FramedLineModel" b_M_said 5 (some .int) := E
  have hx := E.1
  have hb := E.2.1
  have hl := lv_entry ([.ref (gad P 21), .int a1, .int a2]) (n := 5) (Nat.le_of_ble_eq_true rfl)
  rw [lg_entry_eq]
  generalize (lg_sl ([.ref (gad P 21), .int a1, .int a2]) ++ List.replicate (5 - (lg_sl ([.ref (gad P 21), .int a1, .int a2])).length) Slot.unset).toArray = ls at hl ⊢
  replace hl : lv_has ls 5 [(0, .ref (gad P 21)), (1, .int a1), (2, .int a2)] := hl
  have hsp : sp_M_said G0 a1 a2 = sp_M_said G0 a1 a2 := rfl
  refine jl (α := Nat × Array Slot × Int32 × Int32) (fun q H1 locs1 => sp_M_said G0 a1 a2 = sp_M_said_5 a1 a2 q.1 G0 q.2.2.1 q.2.2.2 ∧ (∃ j w : Nat, j ≤ w ∧ w ≤ 8 ∧ G0 32 (tn a1) = nI w ∧ q.2.2.2 = nI j ∧ q.1 = w - j + 1) ∧ lv_has q.2.1 5 [(0, .ref (gad P 21)), (1, .int a1), (2, .int a2), (3, .int q.2.2.1), (4, .int q.2.2.2)] ∧ gH P s G0 H1 locs1) (fun q => F0 m 5 q.2.1 []) (fun q => q.1) (fun q H locs h9 ih5 => ?_) (fun hC5 => ?_)
  · clear hsp hl hH ls
    obtain ⟨n, ls, x3, x4⟩ := q
    obtain ⟨hsp, hinv, hl, hH⟩ := h9
    dsimp only at hinv
    obtain ⟨d, rfl⟩ : ∃ d, n = d + 1 := by obtain ⟨j, w, -, -, -, -, h⟩ := hinv; exact ⟨n - 1, by omega⟩
    change lv_has ls 5 [(0, .ref (gad P 21)), (1, .int a1), (2, .int a2), (3, .int x3), (4, .int x4)] at hl
    dsimp only at hsp hH ⊢
    refine lv_iload hx hb d_M_said_5 (lv_at hl 4 rfl) ?_
    refine lv_aload_n hx hb d_M_said_7 rfl (lv_at hl 0 rfl) ?_
    refine g_get E hH (gc_M rfl) cl_M 12 (by decide) lf_M_41 rfl d_M_said_8 ?_
    refine lv_iload_n hx hb d_M_said_11 rfl (lv_at hl 1 rfl) ?_
    refine g_iaload (k := (tn a1)) (v := (G0 32 (tn a1))) E hH ⟨by decide, fun _ => rfl⟩ (by rcases he with rfl | rfl <;> (unfold vp_in; first | decide | (split <;> decide))) rfl rfl d_M_said_12 ?_
    refine lv_icmp_ge (tgt := 45) hx hb d_M_said_13 (by decide) (fun h1 => ?_) (fun h1 => ?_)
    · refine lv_iload_n hx hb d_M_said_45 rfl (lv_at hl 3 rfl) ?_
      exact g_riret E hH (hsp.trans (by simp only [sp_M_said_5, if_pos h1])) d_M_said_46
    · refine lv_aload_n hx hb d_M_said_16 rfl (lv_at hl 0 rfl) ?_
      refine g_get E hH (gc_M rfl) cl_M 13 (by decide) lf_M_44 rfl d_M_said_17 ?_
      refine lv_bipush (v := 8) hx hb d_M_said_20 (by decide) ?_
      refine lv_iload_n hx hb d_M_said_22 rfl (lv_at hl 1 rfl) ?_
      refine lv_imul hx hb d_M_said_23 ?_
      refine lv_iload hx hb d_M_said_24 (lv_at hl 4 rfl) ?_
      refine lv_iadd hx hb d_M_said_26 ?_
      refine g_iaload (k := (tn ((8 * a1) + x4))) (v := (G0 33 (tn ((8 * a1) + x4)))) E hH ⟨by decide, fun _ => rfl⟩ (sd_in he hinv h1) rfl rfl d_M_said_27 ?_
      refine lv_iload_n hx hb d_M_said_28 rfl (lv_at hl 2 rfl) ?_
      refine jn (α := Int32) (fun z H1 locs1 => z = ((if (G0 33 (tn ((8 * a1) + x4))) = a2 then x4 else x3) : Int32) ∧ gH P s G0 H1 locs1) (fun z => F0 m 38 ls (.int z :: [])) (fun z H locs h9 => ?_) (fun hJ => ?_)
      · obtain ⟨rfl, hH⟩ := h9
        refine lv_istore_n hx hb d_M_said_38 rfl hl (by decide) rfl (fun ls hl => ?_)
        refine lv_iinc (k := 4) (v := (x4 + 1)) hx hb d_M_said_39 hl rfl rfl (by decide) rfl (fun ls hl => ?_)
        refine lv_goto (tgt := 5) hx hb d_M_said_42 (by decide) ?_
        exact ih5 (d, _, ((if (G0 33 (tn ((8 * a1) + x4))) = a2 then x4 else x3) : Int32), (x4 + 1)) _ _ (Nat.lt_succ_self _) ⟨hsp.trans (by simp only [sp_M_said_5, if_neg h1]), (wl_back hinv h1), lv_sub hl [2, 3, 4, 1, 0] rfl, hH⟩
      · refine lv_icmp_ne (tgt := 37) hx hb d_M_said_29 (by decide) (fun h2 => ?_) (fun h2 => ?_)
        · refine lv_iload_n hx hb d_M_said_37 rfl (lv_at hl 3 rfl) ?_
          exact hJ _ _ _ ⟨by simp only [if_neg h2], hH⟩
        · refine lv_iload hx hb d_M_said_32 (lv_at hl 4 rfl) ?_
          refine lv_goto (tgt := 38) hx hb d_M_said_34 (by decide) ?_
          exact hJ _ _ _ ⟨by simp only [if_pos h2], hH⟩
  refine lv_iconst (v := (-1)) hx hb d_M_said_0 (by decide) ?_
  refine lv_istore_n hx hb d_M_said_1 rfl hl (by decide) rfl (fun ls hl => ?_)
  refine lv_iconst (v := 0) hx hb d_M_said_2 (by decide) ?_
  refine lv_istore hx hb d_M_said_3 hl (by decide) rfl (fun ls hl => ?_)
  exact hC5 ((tn (G0 32 (tn a1)) + 1), _, (-1), 0) _ _ ⟨hsp.trans (by rw [sp_M_said]), (wl_first hm), lv_sub hl [2, 3, 4, 1, 0] rfl, hH⟩
end
section
def sp_M_beginFrame  (G0 : Mem) (a1 : Int32) : Mem :=
  (if ((G0 24 (tn a1)) - (G0 24 (tn a1)) / 2 * 2) = 0 then (wr G0 23 (tn a1) (((((((((G0 27 (tn a1)) >>> ((3 - (((G0 24 (tn a1)) - (G0 24 (tn a1)) / 8 * 8) / 2)) &&& 31)) &&& (1 : Int32)) * 128) + 27) <<< ((24 : Int32) &&& 31)) ||| ((G0 22 (tn ((4 * a1) + 1))) <<< ((16 : Int32) &&& 31))) ||| ((G0 22 (tn ((4 * a1) + 2))) <<< ((8 : Int32) &&& 31))) ||| (G0 22 (tn ((4 * a1) + 3))))) else (wr G0 23 (tn a1) ((((((((((sp_M_mark G0 a1 (G0 24 (tn a1)))) * 128) + 64) + ((if (G0 43 (tn a1)) = 2 then 0 else 32) : Int32)) + 31) <<< ((24 : Int32) &&& 31)) ||| ((G0 22 (tn ((4 * a1) + 1))) <<< ((16 : Int32) &&& 31))) ||| ((G0 22 (tn ((4 * a1) + 2))) <<< ((8 : Int32) &&& 31))) ||| (G0 22 (tn ((4 * a1) + 3))))))
set_option maxHeartbeats 4000000 in
set_option maxRecDepth 100000 in
theorem c_M_beginFrame (l : Launch) (P : gP) (G0 : Mem)  (a1 : Int32) (he : a1 = 0 ∨ a1 = 1) : gMv l y_M_beginFrame b_M_beginFrame 4 none ({ frames := 1, cells := 0, slots := 0, locals := 22 }) [.ref (gad P 21), .int a1] P G0 (sp_M_beginFrame G0 a1) := by
  refine Met.ofW (cc := b_M_beginFrame) (maxL := 4) (ret := none) (by decide) rfl ?_
  intro p e s m args below meth c0 s₁ B hml hv
  obtain ⟨rfl, hpre⟩ := hv
  obtain ⟨E, hH⟩ := gE_of B hml hpre
  replace E : gE p s m _ meth c0 P "FramedLineModel" b_M_beginFrame 4 none := E
  have hx := E.1
  have hb := E.2.1
  have hl := lv_entry ([.ref (gad P 21), .int a1]) (n := 4) (Nat.le_of_ble_eq_true rfl)
  rw [lg_entry_eq]
  generalize (lg_sl ([.ref (gad P 21), .int a1]) ++ List.replicate (4 - (lg_sl ([.ref (gad P 21), .int a1])).length) Slot.unset).toArray = ls at hl ⊢
  replace hl : lv_has ls 4 [(0, .ref (gad P 21)), (1, .int a1)] := hl
  have hsp : sp_M_beginFrame G0 a1 = sp_M_beginFrame G0 a1 := rfl
  refine lv_aload_n hx hb d_M_beginFrame_0 rfl (lv_at hl 0 rfl) ?_
  refine g_get E hH (gc_M rfl) cl_M 4 (by decide) lf_M_16 rfl d_M_beginFrame_1 ?_
  refine lv_iload_n hx hb d_M_beginFrame_4 rfl (lv_at hl 1 rfl) ?_
  refine g_iaload (k := (tn a1)) (v := (G0 24 (tn a1))) E hH ⟨by decide, fun _ => rfl⟩ (by rcases he with rfl | rfl <;> (unfold vp_in; first | decide | (split <;> decide))) rfl rfl d_M_beginFrame_5 ?_
  refine lv_istore_n hx hb d_M_beginFrame_6 rfl hl (by decide) rfl (fun ls hl => ?_)
  refine lv_iconst (v := 0) hx hb d_M_beginFrame_7 (by decide) ?_
  refine lv_istore_n hx hb d_M_beginFrame_8 rfl hl (by decide) rfl (fun ls hl => ?_)
  refine lv_iload_n hx hb d_M_beginFrame_9 rfl (lv_at hl 1 rfl) ?_
  refine lv_iconst (v := 2) hx hb d_M_beginFrame_10 (by decide) ?_
  refine lv_irem hx hb d_M_beginFrame_11 (by decide) ?_
  refine lv_if_ne (tgt := 43) hx hb d_M_beginFrame_12 (by decide) (fun h1 => ?_) (fun h1 => ?_)
  · refine lv_aload_n hx hb d_M_beginFrame_43 rfl (lv_at hl 2 rfl) ?_
    refine lv_iload_n hx hb d_M_beginFrame_44 rfl (lv_at hl 3 rfl) ?_
    refine lv_iload_n hx hb d_M_beginFrame_45 rfl (lv_at hl 1 rfl) ?_
    refine g_callVri (As := [.int _, .int _]) E hH hl (c_M_mark l P _ _ _ he) lm_M_141 (gc_M rfl) cl_M (Nat.le_of_ble_eq_true rfl) (Nat.le_of_ble_eq_true rfl) (Nat.le_of_ble_eq_true rfl) (Nat.le_of_ble_eq_true rfl) (Nat.le_of_ble_eq_true rfl) rfl rfl rfl rfl d_M_beginFrame_46 (fun H locs hH => ?_)
    refine lv_sipush (v := 128) hx hb d_M_beginFrame_49 (by decide) ?_
    refine lv_imul hx hb d_M_beginFrame_52 ?_
    refine lv_bipush (v := 64) hx hb d_M_beginFrame_53 (by decide) ?_
    refine lv_iadd hx hb d_M_beginFrame_55 ?_
    refine lv_aload_n hx hb d_M_beginFrame_56 rfl (lv_at hl 2 rfl) ?_
    refine g_get E hH (gc_M rfl) cl_M 23 (by decide) lf_M_74 rfl d_M_beginFrame_57 ?_
    refine lv_iload_n hx hb d_M_beginFrame_60 rfl (lv_at hl 3 rfl) ?_
    refine g_iaload (k := (tn a1)) (v := (G0 43 (tn a1))) E hH ⟨by decide, fun _ => rfl⟩ (by rcases he with rfl | rfl <;> (unfold vp_in; first | decide | (split <;> decide))) rfl rfl d_M_beginFrame_61 ?_
    refine lv_iconst (v := 2) hx hb d_M_beginFrame_62 (by decide) ?_
    refine jn (α := Int32) (fun z H1 locs1 => z = ((if (G0 43 (tn a1)) = 2 then 0 else 32) : Int32) ∧ gH P s G0 H1 locs1) (fun z => F0 m 72 ls (.int z :: .int ((((sp_M_mark G0 a1 (G0 24 (tn a1)))) * 128) + 64) :: [])) (fun z H locs h9 => ?_) (fun hJ => ?_)
    · obtain ⟨rfl, hH⟩ := h9
      refine lv_iadd hx hb d_M_beginFrame_72 ?_
      refine lv_bipush (v := 31) hx hb d_M_beginFrame_73 (by decide) ?_
      refine lv_iadd hx hb d_M_beginFrame_75 ?_
      refine lv_istore_n hx hb d_M_beginFrame_76 rfl hl (by decide) rfl (fun ls hl => ?_)
      refine lv_aload_n hx hb d_M_beginFrame_77 rfl (lv_at hl 2 rfl) ?_
      refine g_get E hH (gc_M rfl) cl_M 3 (by decide) lf_M_13 rfl d_M_beginFrame_78 ?_
      refine lv_iload_n hx hb d_M_beginFrame_81 rfl (lv_at hl 3 rfl) ?_
      refine lv_iload_n hx hb d_M_beginFrame_82 rfl (lv_at hl 0 rfl) ?_
      refine lv_bipush (v := 24) hx hb d_M_beginFrame_83 (by decide) ?_
      refine lv_ishl hx hb d_M_beginFrame_85 ?_
      refine lv_aload_n hx hb d_M_beginFrame_86 rfl (lv_at hl 2 rfl) ?_
      refine g_get E hH (gc_M rfl) cl_M 2 (by decide) lf_M_7 rfl d_M_beginFrame_87 ?_
      refine lv_iconst (v := 4) hx hb d_M_beginFrame_90 (by decide) ?_
      refine lv_iload_n hx hb d_M_beginFrame_91 rfl (lv_at hl 3 rfl) ?_
      refine lv_imul hx hb d_M_beginFrame_92 ?_
      refine lv_iconst (v := 1) hx hb d_M_beginFrame_93 (by decide) ?_
      refine lv_iadd hx hb d_M_beginFrame_94 ?_
      refine g_iaload (k := (tn ((4 * a1) + 1))) (v := (G0 22 (tn ((4 * a1) + 1)))) E hH ⟨by decide, fun _ => rfl⟩ (by rcases he with rfl | rfl <;> (unfold vp_in; first | decide | (split <;> decide))) rfl rfl d_M_beginFrame_95 ?_
      refine lv_bipush (v := 16) hx hb d_M_beginFrame_96 (by decide) ?_
      refine lv_ishl hx hb d_M_beginFrame_98 ?_
      refine lv_ior hx hb d_M_beginFrame_99 ?_
      refine lv_aload_n hx hb d_M_beginFrame_100 rfl (lv_at hl 2 rfl) ?_
      refine g_get E hH (gc_M rfl) cl_M 2 (by decide) lf_M_7 rfl d_M_beginFrame_101 ?_
      refine lv_iconst (v := 4) hx hb d_M_beginFrame_104 (by decide) ?_
      refine lv_iload_n hx hb d_M_beginFrame_105 rfl (lv_at hl 3 rfl) ?_
      refine lv_imul hx hb d_M_beginFrame_106 ?_
      refine lv_iconst (v := 2) hx hb d_M_beginFrame_107 (by decide) ?_
      refine lv_iadd hx hb d_M_beginFrame_108 ?_
      refine g_iaload (k := (tn ((4 * a1) + 2))) (v := (G0 22 (tn ((4 * a1) + 2)))) E hH ⟨by decide, fun _ => rfl⟩ (by rcases he with rfl | rfl <;> (unfold vp_in; first | decide | (split <;> decide))) rfl rfl d_M_beginFrame_109 ?_
      refine lv_bipush (v := 8) hx hb d_M_beginFrame_110 (by decide) ?_
      refine lv_ishl hx hb d_M_beginFrame_112 ?_
      refine lv_ior hx hb d_M_beginFrame_113 ?_
      refine lv_aload_n hx hb d_M_beginFrame_114 rfl (lv_at hl 2 rfl) ?_
      refine g_get E hH (gc_M rfl) cl_M 2 (by decide) lf_M_7 rfl d_M_beginFrame_115 ?_
      refine lv_iconst (v := 4) hx hb d_M_beginFrame_118 (by decide) ?_
      refine lv_iload_n hx hb d_M_beginFrame_119 rfl (lv_at hl 3 rfl) ?_
      refine lv_imul hx hb d_M_beginFrame_120 ?_
      refine lv_iconst (v := 3) hx hb d_M_beginFrame_121 (by decide) ?_
      refine lv_iadd hx hb d_M_beginFrame_122 ?_
      refine g_iaload (k := (tn ((4 * a1) + 3))) (v := (G0 22 (tn ((4 * a1) + 3)))) E hH ⟨by decide, fun _ => rfl⟩ (by rcases he with rfl | rfl <;> (unfold vp_in; first | decide | (split <;> decide))) rfl rfl d_M_beginFrame_123 ?_
      refine lv_ior hx hb d_M_beginFrame_124 ?_
      refine g_iastore (k := (tn a1)) E hH ⟨by decide, fun _ => rfl⟩ (by rcases he with rfl | rfl <;> (unfold vp_in; first | decide | (split <;> decide))) rfl d_M_beginFrame_125 (fun H locs hH => ?_)
      exact g_vret E hH (hsp.trans (by simp only [sp_M_beginFrame, if_neg h1])) d_M_beginFrame_126
    · refine lv_icmp_ne (tgt := 70) hx hb d_M_beginFrame_63 (by decide) (fun h2 => ?_) (fun h2 => ?_)
      · refine lv_bipush (v := 32) hx hb d_M_beginFrame_70 (by decide) ?_
        exact hJ _ _ _ ⟨by simp only [if_neg h2], hH⟩
      · refine lv_iconst (v := 0) hx hb d_M_beginFrame_66 (by decide) ?_
        refine lv_goto (tgt := 72) hx hb d_M_beginFrame_67 (by decide) ?_
        exact hJ _ _ _ ⟨by simp only [if_pos h2], hH⟩
  · refine lv_aload_n hx hb d_M_beginFrame_15 rfl (lv_at hl 2 rfl) ?_
    refine g_get E hH (gc_M rfl) cl_M 7 (by decide) lf_M_25 rfl d_M_beginFrame_16 ?_
    refine lv_iload_n hx hb d_M_beginFrame_19 rfl (lv_at hl 3 rfl) ?_
    refine g_iaload (k := (tn a1)) (v := (G0 27 (tn a1))) E hH ⟨by decide, fun _ => rfl⟩ (by rcases he with rfl | rfl <;> (unfold vp_in; first | decide | (split <;> decide))) rfl rfl d_M_beginFrame_20 ?_
    refine lv_iconst (v := 3) hx hb d_M_beginFrame_21 (by decide) ?_
    refine lv_iload_n hx hb d_M_beginFrame_22 rfl (lv_at hl 1 rfl) ?_
    refine lv_bipush (v := 8) hx hb d_M_beginFrame_23 (by decide) ?_
    refine lv_irem hx hb d_M_beginFrame_25 (by decide) ?_
    refine lv_iconst (v := 2) hx hb d_M_beginFrame_26 (by decide) ?_
    refine lv_idiv hx hb d_M_beginFrame_27 (by decide) ?_
    refine lv_isub hx hb d_M_beginFrame_28 ?_
    refine lv_ishr hx hb d_M_beginFrame_29 ?_
    refine lv_iconst (v := 1) hx hb d_M_beginFrame_30 (by decide) ?_
    refine lv_iand hx hb d_M_beginFrame_31 ?_
    refine lv_sipush (v := 128) hx hb d_M_beginFrame_32 (by decide) ?_
    refine lv_imul hx hb d_M_beginFrame_35 ?_
    refine lv_bipush (v := 27) hx hb d_M_beginFrame_36 (by decide) ?_
    refine lv_iadd hx hb d_M_beginFrame_38 ?_
    refine lv_istore_n hx hb d_M_beginFrame_39 rfl hl (by decide) rfl (fun ls hl => ?_)
    refine lv_goto (tgt := 77) hx hb d_M_beginFrame_40 (by decide) ?_
    refine lv_aload_n hx hb d_M_beginFrame_77 rfl (lv_at hl 2 rfl) ?_
    refine g_get E hH (gc_M rfl) cl_M 3 (by decide) lf_M_13 rfl d_M_beginFrame_78 ?_
    refine lv_iload_n hx hb d_M_beginFrame_81 rfl (lv_at hl 3 rfl) ?_
    refine lv_iload_n hx hb d_M_beginFrame_82 rfl (lv_at hl 0 rfl) ?_
    refine lv_bipush (v := 24) hx hb d_M_beginFrame_83 (by decide) ?_
    refine lv_ishl hx hb d_M_beginFrame_85 ?_
    refine lv_aload_n hx hb d_M_beginFrame_86 rfl (lv_at hl 2 rfl) ?_
    refine g_get E hH (gc_M rfl) cl_M 2 (by decide) lf_M_7 rfl d_M_beginFrame_87 ?_
    refine lv_iconst (v := 4) hx hb d_M_beginFrame_90 (by decide) ?_
    refine lv_iload_n hx hb d_M_beginFrame_91 rfl (lv_at hl 3 rfl) ?_
    refine lv_imul hx hb d_M_beginFrame_92 ?_
    refine lv_iconst (v := 1) hx hb d_M_beginFrame_93 (by decide) ?_
    refine lv_iadd hx hb d_M_beginFrame_94 ?_
    refine g_iaload (k := (tn ((4 * a1) + 1))) (v := (G0 22 (tn ((4 * a1) + 1)))) E hH ⟨by decide, fun _ => rfl⟩ (by rcases he with rfl | rfl <;> (unfold vp_in; first | decide | (split <;> decide))) rfl rfl d_M_beginFrame_95 ?_
    refine lv_bipush (v := 16) hx hb d_M_beginFrame_96 (by decide) ?_
    refine lv_ishl hx hb d_M_beginFrame_98 ?_
    refine lv_ior hx hb d_M_beginFrame_99 ?_
    refine lv_aload_n hx hb d_M_beginFrame_100 rfl (lv_at hl 2 rfl) ?_
    refine g_get E hH (gc_M rfl) cl_M 2 (by decide) lf_M_7 rfl d_M_beginFrame_101 ?_
    refine lv_iconst (v := 4) hx hb d_M_beginFrame_104 (by decide) ?_
    refine lv_iload_n hx hb d_M_beginFrame_105 rfl (lv_at hl 3 rfl) ?_
    refine lv_imul hx hb d_M_beginFrame_106 ?_
    refine lv_iconst (v := 2) hx hb d_M_beginFrame_107 (by decide) ?_
    refine lv_iadd hx hb d_M_beginFrame_108 ?_
    refine g_iaload (k := (tn ((4 * a1) + 2))) (v := (G0 22 (tn ((4 * a1) + 2)))) E hH ⟨by decide, fun _ => rfl⟩ (by rcases he with rfl | rfl <;> (unfold vp_in; first | decide | (split <;> decide))) rfl rfl d_M_beginFrame_109 ?_
    refine lv_bipush (v := 8) hx hb d_M_beginFrame_110 (by decide) ?_
    refine lv_ishl hx hb d_M_beginFrame_112 ?_
    refine lv_ior hx hb d_M_beginFrame_113 ?_
    refine lv_aload_n hx hb d_M_beginFrame_114 rfl (lv_at hl 2 rfl) ?_
    refine g_get E hH (gc_M rfl) cl_M 2 (by decide) lf_M_7 rfl d_M_beginFrame_115 ?_
    refine lv_iconst (v := 4) hx hb d_M_beginFrame_118 (by decide) ?_
    refine lv_iload_n hx hb d_M_beginFrame_119 rfl (lv_at hl 3 rfl) ?_
    refine lv_imul hx hb d_M_beginFrame_120 ?_
    refine lv_iconst (v := 3) hx hb d_M_beginFrame_121 (by decide) ?_
    refine lv_iadd hx hb d_M_beginFrame_122 ?_
    refine g_iaload (k := (tn ((4 * a1) + 3))) (v := (G0 22 (tn ((4 * a1) + 3)))) E hH ⟨by decide, fun _ => rfl⟩ (by rcases he with rfl | rfl <;> (unfold vp_in; first | decide | (split <;> decide))) rfl rfl d_M_beginFrame_123 ?_
    refine lv_ior hx hb d_M_beginFrame_124 ?_
    refine g_iastore (k := (tn a1)) E hH ⟨by decide, fun _ => rfl⟩ (by rcases he with rfl | rfl <;> (unfold vp_in; first | decide | (split <;> decide))) rfl d_M_beginFrame_125 (fun H locs hH => ?_)
    exact g_vret E hH (hsp.trans (by simp only [sp_M_beginFrame, if_pos h1])) d_M_beginFrame_126

def sp_M_nextBit  (G0 : Mem) (a1 : Int32) : Int32 × Mem :=
  (if (G0 25 (tn a1)) = 0 then (if (((sp_M_beginFrame G0 a1) 25 (tn a1)) + 1) = 32 then (if (((((sp_M_beginFrame G0 a1) 24 (tn a1)) + 1) - (((sp_M_beginFrame G0 a1) 24 (tn a1)) + 1) / 16 * 16) - ((((sp_M_beginFrame G0 a1) 24 (tn a1)) + 1) - (((sp_M_beginFrame G0 a1) 24 (tn a1)) + 1) / 16 * 16) / 8 * 8) = 0 then (((((sp_M_beginFrame G0 a1) 23 (tn a1)) >>> ((31 - ((sp_M_beginFrame G0 a1) 25 (tn a1))) &&& 31)) &&& (1 : Int32)), (wr (wr (wr (wr (wr (wr (sp_M_beginFrame G0 a1) 26 (tn a1) ((sp_M_with (sp_M_beginFrame G0 a1) ((sp_M_beginFrame G0 a1) 26 (tn a1)) ((if ((sp_M_beginFrame G0 a1) 25 (tn a1)) = 0 then (if (((sp_M_beginFrame G0 a1) 24 (tn a1)) - ((sp_M_beginFrame G0 a1) 24 (tn a1)) / 2 * 2) = 0 then 0 else ((((sp_M_beginFrame G0 a1) 23 (tn a1)) >>> ((31 - ((sp_M_beginFrame G0 a1) 25 (tn a1))) &&& 31)) &&& (1 : Int32))) else ((((sp_M_beginFrame G0 a1) 23 (tn a1)) >>> ((31 - ((sp_M_beginFrame G0 a1) 25 (tn a1))) &&& 31)) &&& (1 : Int32))) : Int32)))) 25 (tn a1) (((sp_M_beginFrame G0 a1) 25 (tn a1)) + 1)) 25 (tn a1) 0) 24 (tn a1) ((((sp_M_beginFrame G0 a1) 24 (tn a1)) + 1) - (((sp_M_beginFrame G0 a1) 24 (tn a1)) + 1) / 16 * 16)) 27 (tn a1) ((sp_M_with (sp_M_beginFrame G0 a1) ((sp_M_beginFrame G0 a1) 26 (tn a1)) ((if ((sp_M_beginFrame G0 a1) 25 (tn a1)) = 0 then (if (((sp_M_beginFrame G0 a1) 24 (tn a1)) - ((sp_M_beginFrame G0 a1) 24 (tn a1)) / 2 * 2) = 0 then 0 else ((((sp_M_beginFrame G0 a1) 23 (tn a1)) >>> ((31 - ((sp_M_beginFrame G0 a1) 25 (tn a1))) &&& 31)) &&& (1 : Int32))) else ((((sp_M_beginFrame G0 a1) 23 (tn a1)) >>> ((31 - ((sp_M_beginFrame G0 a1) 25 (tn a1))) &&& 31)) &&& (1 : Int32))) : Int32)))) 26 (tn a1) 0)) else (((((sp_M_beginFrame G0 a1) 23 (tn a1)) >>> ((31 - ((sp_M_beginFrame G0 a1) 25 (tn a1))) &&& 31)) &&& (1 : Int32)), (wr (wr (wr (wr (sp_M_beginFrame G0 a1) 26 (tn a1) ((sp_M_with (sp_M_beginFrame G0 a1) ((sp_M_beginFrame G0 a1) 26 (tn a1)) ((if ((sp_M_beginFrame G0 a1) 25 (tn a1)) = 0 then (if (((sp_M_beginFrame G0 a1) 24 (tn a1)) - ((sp_M_beginFrame G0 a1) 24 (tn a1)) / 2 * 2) = 0 then 0 else ((((sp_M_beginFrame G0 a1) 23 (tn a1)) >>> ((31 - ((sp_M_beginFrame G0 a1) 25 (tn a1))) &&& 31)) &&& (1 : Int32))) else ((((sp_M_beginFrame G0 a1) 23 (tn a1)) >>> ((31 - ((sp_M_beginFrame G0 a1) 25 (tn a1))) &&& 31)) &&& (1 : Int32))) : Int32)))) 25 (tn a1) (((sp_M_beginFrame G0 a1) 25 (tn a1)) + 1)) 25 (tn a1) 0) 24 (tn a1) ((((sp_M_beginFrame G0 a1) 24 (tn a1)) + 1) - (((sp_M_beginFrame G0 a1) 24 (tn a1)) + 1) / 16 * 16)))) else (((((sp_M_beginFrame G0 a1) 23 (tn a1)) >>> ((31 - ((sp_M_beginFrame G0 a1) 25 (tn a1))) &&& 31)) &&& (1 : Int32)), (wr (wr (sp_M_beginFrame G0 a1) 26 (tn a1) ((sp_M_with (sp_M_beginFrame G0 a1) ((sp_M_beginFrame G0 a1) 26 (tn a1)) ((if ((sp_M_beginFrame G0 a1) 25 (tn a1)) = 0 then (if (((sp_M_beginFrame G0 a1) 24 (tn a1)) - ((sp_M_beginFrame G0 a1) 24 (tn a1)) / 2 * 2) = 0 then 0 else ((((sp_M_beginFrame G0 a1) 23 (tn a1)) >>> ((31 - ((sp_M_beginFrame G0 a1) 25 (tn a1))) &&& 31)) &&& (1 : Int32))) else ((((sp_M_beginFrame G0 a1) 23 (tn a1)) >>> ((31 - ((sp_M_beginFrame G0 a1) 25 (tn a1))) &&& 31)) &&& (1 : Int32))) : Int32)))) 25 (tn a1) (((sp_M_beginFrame G0 a1) 25 (tn a1)) + 1)))) else (if ((G0 25 (tn a1)) + 1) = 32 then (if ((((G0 24 (tn a1)) + 1) - ((G0 24 (tn a1)) + 1) / 16 * 16) - (((G0 24 (tn a1)) + 1) - ((G0 24 (tn a1)) + 1) / 16 * 16) / 8 * 8) = 0 then ((((G0 23 (tn a1)) >>> ((31 - (G0 25 (tn a1))) &&& 31)) &&& (1 : Int32)), (wr (wr (wr (wr (wr (wr G0 26 (tn a1) ((sp_M_with G0 (G0 26 (tn a1)) (((G0 23 (tn a1)) >>> ((31 - (G0 25 (tn a1))) &&& 31)) &&& (1 : Int32))))) 25 (tn a1) ((G0 25 (tn a1)) + 1)) 25 (tn a1) 0) 24 (tn a1) (((G0 24 (tn a1)) + 1) - ((G0 24 (tn a1)) + 1) / 16 * 16)) 27 (tn a1) ((sp_M_with G0 (G0 26 (tn a1)) (((G0 23 (tn a1)) >>> ((31 - (G0 25 (tn a1))) &&& 31)) &&& (1 : Int32))))) 26 (tn a1) 0)) else ((((G0 23 (tn a1)) >>> ((31 - (G0 25 (tn a1))) &&& 31)) &&& (1 : Int32)), (wr (wr (wr (wr G0 26 (tn a1) ((sp_M_with G0 (G0 26 (tn a1)) (((G0 23 (tn a1)) >>> ((31 - (G0 25 (tn a1))) &&& 31)) &&& (1 : Int32))))) 25 (tn a1) ((G0 25 (tn a1)) + 1)) 25 (tn a1) 0) 24 (tn a1) (((G0 24 (tn a1)) + 1) - ((G0 24 (tn a1)) + 1) / 16 * 16)))) else ((((G0 23 (tn a1)) >>> ((31 - (G0 25 (tn a1))) &&& 31)) &&& (1 : Int32)), (wr (wr G0 26 (tn a1) ((sp_M_with G0 (G0 26 (tn a1)) (((G0 23 (tn a1)) >>> ((31 - (G0 25 (tn a1))) &&& 31)) &&& (1 : Int32))))) 25 (tn a1) ((G0 25 (tn a1)) + 1)))))
set_option maxHeartbeats 4000000 in
set_option maxRecDepth 100000 in
theorem c_M_nextBit (l : Launch) (P : gP) (G0 : Mem)  (a1 : Int32) (he : a1 = 0 ∨ a1 = 1) : gMi l y_M_nextBit b_M_nextBit 3 (some .int) ({ frames := 2, cells := 0, slots := 0, locals := 45 }) [.ref (gad P 21), .int a1] P G0 (sp_M_nextBit G0 a1) := by
  refine Met.ofW (cc := b_M_nextBit) (maxL := 3) (ret := (some .int)) (by decide) rfl ?_
  intro p e s m args below meth c0 s₁ B hml hv
  obtain ⟨rfl, hpre⟩ := hv
  obtain ⟨E, hH⟩ := gE_of B hml hpre
  replace E : gE p s m _ meth c0 P "FramedLineModel" b_M_nextBit 3 (some .int) := E
  have hx := E.1
  have hb := E.2.1
  have hl := lv_entry ([.ref (gad P 21), .int a1]) (n := 3) (Nat.le_of_ble_eq_true rfl)
  rw [lg_entry_eq]
  generalize (lg_sl ([.ref (gad P 21), .int a1]) ++ List.replicate (3 - (lg_sl ([.ref (gad P 21), .int a1])).length) Slot.unset).toArray = ls at hl ⊢
  replace hl : lv_has ls 3 [(0, .ref (gad P 21)), (1, .int a1)] := hl
  have hsp : sp_M_nextBit G0 a1 = sp_M_nextBit G0 a1 := rfl
  refine lv_aload_n hx hb d_M_nextBit_0 rfl (lv_at hl 0 rfl) ?_
  refine g_get E hH (gc_M rfl) cl_M 5 (by decide) lf_M_19 rfl d_M_nextBit_1 ?_
  refine lv_iload_n hx hb d_M_nextBit_4 rfl (lv_at hl 1 rfl) ?_
  refine g_iaload (k := (tn a1)) (v := (G0 25 (tn a1))) E hH ⟨by decide, fun _ => rfl⟩ (by rcases he with rfl | rfl <;> (unfold vp_in; first | decide | (split <;> decide))) rfl rfl d_M_nextBit_5 ?_
  refine lv_if_ne (tgt := 14) hx hb d_M_nextBit_6 (by decide) (fun h1 => ?_) (fun h1 => ?_)
  · refine lv_aload_n hx hb d_M_nextBit_14 rfl (lv_at hl 0 rfl) ?_
    refine g_get E hH (gc_M rfl) cl_M 3 (by decide) lf_M_13 rfl d_M_nextBit_15 ?_
    refine lv_iload_n hx hb d_M_nextBit_18 rfl (lv_at hl 1 rfl) ?_
    refine g_iaload (k := (tn a1)) (v := (G0 23 (tn a1))) E hH ⟨by decide, fun _ => rfl⟩ (by rcases he with rfl | rfl <;> (unfold vp_in; first | decide | (split <;> decide))) rfl rfl d_M_nextBit_19 ?_
    refine lv_bipush (v := 31) hx hb d_M_nextBit_20 (by decide) ?_
    refine lv_aload_n hx hb d_M_nextBit_22 rfl (lv_at hl 0 rfl) ?_
    refine g_get E hH (gc_M rfl) cl_M 5 (by decide) lf_M_19 rfl d_M_nextBit_23 ?_
    refine lv_iload_n hx hb d_M_nextBit_26 rfl (lv_at hl 1 rfl) ?_
    refine g_iaload (k := (tn a1)) (v := (G0 25 (tn a1))) E hH ⟨by decide, fun _ => rfl⟩ (by rcases he with rfl | rfl <;> (unfold vp_in; first | decide | (split <;> decide))) rfl rfl d_M_nextBit_27 ?_
    refine lv_isub hx hb d_M_nextBit_28 ?_
    refine lv_ishr hx hb d_M_nextBit_29 ?_
    refine lv_iconst (v := 1) hx hb d_M_nextBit_30 (by decide) ?_
    refine lv_iand hx hb d_M_nextBit_31 ?_
    refine lv_istore_n hx hb d_M_nextBit_32 rfl hl (by decide) rfl (fun ls hl => ?_)
    refine lv_aload_n hx hb d_M_nextBit_33 rfl (lv_at hl 1 rfl) ?_
    refine g_get E hH (gc_M rfl) cl_M 6 (by decide) lf_M_22 rfl d_M_nextBit_34 ?_
    refine lv_iload_n hx hb d_M_nextBit_37 rfl (lv_at hl 2 rfl) ?_
    refine lv_aload_n hx hb d_M_nextBit_38 rfl (lv_at hl 1 rfl) ?_
    refine g_get E hH (gc_M rfl) cl_M 6 (by decide) lf_M_22 rfl d_M_nextBit_39 ?_
    refine lv_iload_n hx hb d_M_nextBit_42 rfl (lv_at hl 2 rfl) ?_
    refine g_iaload (k := (tn a1)) (v := (G0 26 (tn a1))) E hH ⟨by decide, fun _ => rfl⟩ (by rcases he with rfl | rfl <;> (unfold vp_in; first | decide | (split <;> decide))) rfl rfl d_M_nextBit_43 ?_
    refine lv_aload_n hx hb d_M_nextBit_44 rfl (lv_at hl 1 rfl) ?_
    refine g_get E hH (gc_M rfl) cl_M 5 (by decide) lf_M_19 rfl d_M_nextBit_45 ?_
    refine lv_iload_n hx hb d_M_nextBit_48 rfl (lv_at hl 2 rfl) ?_
    refine g_iaload (k := (tn a1)) (v := (G0 25 (tn a1))) E hH ⟨by decide, fun _ => rfl⟩ (by rcases he with rfl | rfl <;> (unfold vp_in; first | decide | (split <;> decide))) rfl rfl d_M_nextBit_49 ?_
    refine lv_if_ne (tgt := 68) hx hb d_M_nextBit_50 (by decide) (fun _ => ?_) (fun h0 => absurd h0 h1)
    refine lv_iload_n hx hb d_M_nextBit_68 rfl (lv_at hl 0 rfl) ?_
    refine g_callSri (As := [.int _, .int _]) E hH hl (c_M_with l P _ _ _) lm_M_149 (Nat.le_of_ble_eq_true rfl) (Nat.le_of_ble_eq_true rfl) (Nat.le_of_ble_eq_true rfl) (Nat.le_of_ble_eq_true rfl) (Nat.le_of_ble_eq_true rfl) rfl rfl rfl rfl d_M_nextBit_69 (fun H locs hH => ?_)
    refine g_iastore (k := (tn a1)) E hH ⟨by decide, fun _ => rfl⟩ (by rcases he with rfl | rfl <;> (unfold vp_in; first | decide | (split <;> decide))) rfl d_M_nextBit_72 (fun H locs hH => ?_)
    refine lv_aload_n hx hb d_M_nextBit_73 rfl (lv_at hl 1 rfl) ?_
    refine g_get E hH (gc_M rfl) cl_M 5 (by decide) lf_M_19 rfl d_M_nextBit_74 ?_
    refine lv_iload_n hx hb d_M_nextBit_77 rfl (lv_at hl 2 rfl) ?_
    refine lv_aload_n hx hb d_M_nextBit_78 rfl (lv_at hl 1 rfl) ?_
    refine g_get E hH (gc_M rfl) cl_M 5 (by decide) lf_M_19 rfl d_M_nextBit_79 ?_
    refine lv_iload_n hx hb d_M_nextBit_82 rfl (lv_at hl 2 rfl) ?_
    refine g_iaload (k := (tn a1)) (v := (G0 25 (tn a1))) E hH ⟨by decide, fun _ => rfl⟩ (by rcases he with rfl | rfl <;> (unfold vp_in; first | decide | (split <;> decide))) rfl (wr_ck _ _ _ _ (by decide)) d_M_nextBit_83 ?_
    refine lv_iconst (v := 1) hx hb d_M_nextBit_84 (by decide) ?_
    refine lv_iadd hx hb d_M_nextBit_85 ?_
    refine g_iastore (k := (tn a1)) E hH ⟨by decide, fun _ => rfl⟩ (by rcases he with rfl | rfl <;> (unfold vp_in; first | decide | (split <;> decide))) rfl d_M_nextBit_86 (fun H locs hH => ?_)
    refine lv_aload_n hx hb d_M_nextBit_87 rfl (lv_at hl 1 rfl) ?_
    refine g_get E hH (gc_M rfl) cl_M 5 (by decide) lf_M_19 rfl d_M_nextBit_88 ?_
    refine lv_iload_n hx hb d_M_nextBit_91 rfl (lv_at hl 2 rfl) ?_
    refine g_iaload (k := (tn a1)) (v := ((G0 25 (tn a1)) + 1)) E hH ⟨by decide, fun _ => rfl⟩ (by rcases he with rfl | rfl <;> (unfold vp_in; first | decide | (split <;> decide))) rfl (wr_same _ _ _ _) d_M_nextBit_92 ?_
    refine lv_bipush (v := 32) hx hb d_M_nextBit_93 (by decide) ?_
    refine lv_icmp_ne (tgt := 153) hx hb d_M_nextBit_95 (by decide) (fun h2 => ?_) (fun h2 => ?_)
    · refine lv_iload_n hx hb d_M_nextBit_153 rfl (lv_at hl 0 rfl) ?_
      exact g_iret E hH (hsp.trans (by simp only [sp_M_nextBit, if_neg h1, if_neg h2])) d_M_nextBit_154
    · refine lv_aload_n hx hb d_M_nextBit_98 rfl (lv_at hl 1 rfl) ?_
      refine g_get E hH (gc_M rfl) cl_M 5 (by decide) lf_M_19 rfl d_M_nextBit_99 ?_
      refine lv_iload_n hx hb d_M_nextBit_102 rfl (lv_at hl 2 rfl) ?_
      refine lv_iconst (v := 0) hx hb d_M_nextBit_103 (by decide) ?_
      refine g_iastore (k := (tn a1)) E hH ⟨by decide, fun _ => rfl⟩ (by rcases he with rfl | rfl <;> (unfold vp_in; first | decide | (split <;> decide))) rfl d_M_nextBit_104 (fun H locs hH => ?_)
      refine lv_aload_n hx hb d_M_nextBit_105 rfl (lv_at hl 1 rfl) ?_
      refine g_get E hH (gc_M rfl) cl_M 4 (by decide) lf_M_16 rfl d_M_nextBit_106 ?_
      refine lv_iload_n hx hb d_M_nextBit_109 rfl (lv_at hl 2 rfl) ?_
      refine lv_aload_n hx hb d_M_nextBit_110 rfl (lv_at hl 1 rfl) ?_
      refine g_get E hH (gc_M rfl) cl_M 4 (by decide) lf_M_16 rfl d_M_nextBit_111 ?_
      refine lv_iload_n hx hb d_M_nextBit_114 rfl (lv_at hl 2 rfl) ?_
      refine g_iaload (k := (tn a1)) (v := (G0 24 (tn a1))) E hH ⟨by decide, fun _ => rfl⟩ (by rcases he with rfl | rfl <;> (unfold vp_in; first | decide | (split <;> decide))) rfl ((wr_ck _ _ _ _ (by decide)).trans ((wr_ck _ _ _ _ (by decide)).trans (wr_ck _ _ _ _ (by decide)))) d_M_nextBit_115 ?_
      refine lv_iconst (v := 1) hx hb d_M_nextBit_116 (by decide) ?_
      refine lv_iadd hx hb d_M_nextBit_117 ?_
      refine lv_bipush (v := 16) hx hb d_M_nextBit_118 (by decide) ?_
      refine lv_irem hx hb d_M_nextBit_120 (by decide) ?_
      refine g_iastore (k := (tn a1)) E hH ⟨by decide, fun _ => rfl⟩ (by rcases he with rfl | rfl <;> (unfold vp_in; first | decide | (split <;> decide))) rfl d_M_nextBit_121 (fun H locs hH => ?_)
      refine lv_aload_n hx hb d_M_nextBit_122 rfl (lv_at hl 1 rfl) ?_
      refine g_get E hH (gc_M rfl) cl_M 4 (by decide) lf_M_16 rfl d_M_nextBit_123 ?_
      refine lv_iload_n hx hb d_M_nextBit_126 rfl (lv_at hl 2 rfl) ?_
      refine g_iaload (k := (tn a1)) (v := (((G0 24 (tn a1)) + 1) - ((G0 24 (tn a1)) + 1) / 16 * 16)) E hH ⟨by decide, fun _ => rfl⟩ (by rcases he with rfl | rfl <;> (unfold vp_in; first | decide | (split <;> decide))) rfl (wr_same _ _ _ _) d_M_nextBit_127 ?_
      refine lv_bipush (v := 8) hx hb d_M_nextBit_128 (by decide) ?_
      refine lv_irem hx hb d_M_nextBit_130 (by decide) ?_
      refine lv_if_ne (tgt := 153) hx hb d_M_nextBit_131 (by decide) (fun h3 => ?_) (fun h3 => ?_)
      · refine lv_iload_n hx hb d_M_nextBit_153 rfl (lv_at hl 0 rfl) ?_
        exact g_iret E hH (hsp.trans (by simp only [sp_M_nextBit, if_neg h1, if_pos h2, if_neg h3])) d_M_nextBit_154
      · refine lv_aload_n hx hb d_M_nextBit_134 rfl (lv_at hl 1 rfl) ?_
        refine g_get E hH (gc_M rfl) cl_M 7 (by decide) lf_M_25 rfl d_M_nextBit_135 ?_
        refine lv_iload_n hx hb d_M_nextBit_138 rfl (lv_at hl 2 rfl) ?_
        refine lv_aload_n hx hb d_M_nextBit_139 rfl (lv_at hl 1 rfl) ?_
        refine g_get E hH (gc_M rfl) cl_M 6 (by decide) lf_M_22 rfl d_M_nextBit_140 ?_
        refine lv_iload_n hx hb d_M_nextBit_143 rfl (lv_at hl 2 rfl) ?_
        refine g_iaload (k := (tn a1)) (v := ((sp_M_with G0 (G0 26 (tn a1)) (((G0 23 (tn a1)) >>> ((31 - (G0 25 (tn a1))) &&& 31)) &&& (1 : Int32))))) E hH ⟨by decide, fun _ => rfl⟩ (by rcases he with rfl | rfl <;> (unfold vp_in; first | decide | (split <;> decide))) rfl ((wr_ck _ _ _ _ (by decide)).trans ((wr_ck _ _ _ _ (by decide)).trans ((wr_ck _ _ _ _ (by decide)).trans (wr_same _ _ _ _)))) d_M_nextBit_144 ?_
        refine g_iastore (k := (tn a1)) E hH ⟨by decide, fun _ => rfl⟩ (by rcases he with rfl | rfl <;> (unfold vp_in; first | decide | (split <;> decide))) rfl d_M_nextBit_145 (fun H locs hH => ?_)
        refine lv_aload_n hx hb d_M_nextBit_146 rfl (lv_at hl 1 rfl) ?_
        refine g_get E hH (gc_M rfl) cl_M 6 (by decide) lf_M_22 rfl d_M_nextBit_147 ?_
        refine lv_iload_n hx hb d_M_nextBit_150 rfl (lv_at hl 2 rfl) ?_
        refine lv_iconst (v := 0) hx hb d_M_nextBit_151 (by decide) ?_
        refine g_iastore (k := (tn a1)) E hH ⟨by decide, fun _ => rfl⟩ (by rcases he with rfl | rfl <;> (unfold vp_in; first | decide | (split <;> decide))) rfl d_M_nextBit_152 (fun H locs hH => ?_)
        refine lv_iload_n hx hb d_M_nextBit_153 rfl (lv_at hl 0 rfl) ?_
        exact g_iret E hH (hsp.trans (by simp only [sp_M_nextBit, if_neg h1, if_pos h2, if_pos h3])) d_M_nextBit_154
  · refine lv_aload_n hx hb d_M_nextBit_9 rfl (lv_at hl 0 rfl) ?_
    refine lv_iload_n hx hb d_M_nextBit_10 rfl (lv_at hl 1 rfl) ?_
    refine g_callVv (As := [.int _]) E hH hl (c_M_beginFrame l P _ _ he) lm_M_145 (gc_M rfl) cl_M (Nat.le_of_ble_eq_true rfl) (Nat.le_of_ble_eq_true rfl) (Nat.le_of_ble_eq_true rfl) (Nat.le_of_ble_eq_true rfl) (Nat.le_of_ble_eq_true rfl) rfl rfl rfl rfl d_M_nextBit_11 (fun H locs hH => ?_)
    refine lv_aload_n hx hb d_M_nextBit_14 rfl (lv_at hl 0 rfl) ?_
    refine g_get E hH (gc_M rfl) cl_M 3 (by decide) lf_M_13 rfl d_M_nextBit_15 ?_
    refine lv_iload_n hx hb d_M_nextBit_18 rfl (lv_at hl 1 rfl) ?_
    refine g_iaload (k := (tn a1)) (v := ((sp_M_beginFrame G0 a1) 23 (tn a1))) E hH ⟨by decide, fun _ => rfl⟩ (by rcases he with rfl | rfl <;> (unfold vp_in; first | decide | (split <;> decide))) rfl rfl d_M_nextBit_19 ?_
    refine lv_bipush (v := 31) hx hb d_M_nextBit_20 (by decide) ?_
    refine lv_aload_n hx hb d_M_nextBit_22 rfl (lv_at hl 0 rfl) ?_
    refine g_get E hH (gc_M rfl) cl_M 5 (by decide) lf_M_19 rfl d_M_nextBit_23 ?_
    refine lv_iload_n hx hb d_M_nextBit_26 rfl (lv_at hl 1 rfl) ?_
    refine g_iaload (k := (tn a1)) (v := ((sp_M_beginFrame G0 a1) 25 (tn a1))) E hH ⟨by decide, fun _ => rfl⟩ (by rcases he with rfl | rfl <;> (unfold vp_in; first | decide | (split <;> decide))) rfl rfl d_M_nextBit_27 ?_
    refine lv_isub hx hb d_M_nextBit_28 ?_
    refine lv_ishr hx hb d_M_nextBit_29 ?_
    refine lv_iconst (v := 1) hx hb d_M_nextBit_30 (by decide) ?_
    refine lv_iand hx hb d_M_nextBit_31 ?_
    refine lv_istore_n hx hb d_M_nextBit_32 rfl hl (by decide) rfl (fun ls hl => ?_)
    refine lv_aload_n hx hb d_M_nextBit_33 rfl (lv_at hl 1 rfl) ?_
    refine g_get E hH (gc_M rfl) cl_M 6 (by decide) lf_M_22 rfl d_M_nextBit_34 ?_
    refine lv_iload_n hx hb d_M_nextBit_37 rfl (lv_at hl 2 rfl) ?_
    refine lv_aload_n hx hb d_M_nextBit_38 rfl (lv_at hl 1 rfl) ?_
    refine g_get E hH (gc_M rfl) cl_M 6 (by decide) lf_M_22 rfl d_M_nextBit_39 ?_
    refine lv_iload_n hx hb d_M_nextBit_42 rfl (lv_at hl 2 rfl) ?_
    refine g_iaload (k := (tn a1)) (v := ((sp_M_beginFrame G0 a1) 26 (tn a1))) E hH ⟨by decide, fun _ => rfl⟩ (by rcases he with rfl | rfl <;> (unfold vp_in; first | decide | (split <;> decide))) rfl rfl d_M_nextBit_43 ?_
    refine lv_aload_n hx hb d_M_nextBit_44 rfl (lv_at hl 1 rfl) ?_
    refine g_get E hH (gc_M rfl) cl_M 5 (by decide) lf_M_19 rfl d_M_nextBit_45 ?_
    refine lv_iload_n hx hb d_M_nextBit_48 rfl (lv_at hl 2 rfl) ?_
    refine g_iaload (k := (tn a1)) (v := ((sp_M_beginFrame G0 a1) 25 (tn a1))) E hH ⟨by decide, fun _ => rfl⟩ (by rcases he with rfl | rfl <;> (unfold vp_in; first | decide | (split <;> decide))) rfl rfl d_M_nextBit_49 ?_
    refine jn (α := Int32) (fun z H1 locs1 => z = ((if ((sp_M_beginFrame G0 a1) 25 (tn a1)) = 0 then (if (((sp_M_beginFrame G0 a1) 24 (tn a1)) - ((sp_M_beginFrame G0 a1) 24 (tn a1)) / 2 * 2) = 0 then 0 else ((((sp_M_beginFrame G0 a1) 23 (tn a1)) >>> ((31 - ((sp_M_beginFrame G0 a1) 25 (tn a1))) &&& 31)) &&& (1 : Int32))) else ((((sp_M_beginFrame G0 a1) 23 (tn a1)) >>> ((31 - ((sp_M_beginFrame G0 a1) 25 (tn a1))) &&& 31)) &&& (1 : Int32))) : Int32) ∧ gH P s (sp_M_beginFrame G0 a1) H1 locs1) (fun z => F0 m 69 ls (.int z :: .int ((sp_M_beginFrame G0 a1) 26 (tn a1)) :: .int a1 :: .ref (gad P 26) :: [])) (fun z H locs h9 => ?_) (fun hJ => ?_)
    · obtain ⟨rfl, hH⟩ := h9
      refine g_callSri (As := [.int _, .int _]) E hH hl (c_M_with l P _ _ _) lm_M_149 (Nat.le_of_ble_eq_true rfl) (Nat.le_of_ble_eq_true rfl) (Nat.le_of_ble_eq_true rfl) (Nat.le_of_ble_eq_true rfl) (Nat.le_of_ble_eq_true rfl) rfl rfl rfl rfl d_M_nextBit_69 (fun H locs hH => ?_)
      refine g_iastore (k := (tn a1)) E hH ⟨by decide, fun _ => rfl⟩ (by rcases he with rfl | rfl <;> (unfold vp_in; first | decide | (split <;> decide))) rfl d_M_nextBit_72 (fun H locs hH => ?_)
      refine lv_aload_n hx hb d_M_nextBit_73 rfl (lv_at hl 1 rfl) ?_
      refine g_get E hH (gc_M rfl) cl_M 5 (by decide) lf_M_19 rfl d_M_nextBit_74 ?_
      refine lv_iload_n hx hb d_M_nextBit_77 rfl (lv_at hl 2 rfl) ?_
      refine lv_aload_n hx hb d_M_nextBit_78 rfl (lv_at hl 1 rfl) ?_
      refine g_get E hH (gc_M rfl) cl_M 5 (by decide) lf_M_19 rfl d_M_nextBit_79 ?_
      refine lv_iload_n hx hb d_M_nextBit_82 rfl (lv_at hl 2 rfl) ?_
      refine g_iaload (k := (tn a1)) (v := ((sp_M_beginFrame G0 a1) 25 (tn a1))) E hH ⟨by decide, fun _ => rfl⟩ (by rcases he with rfl | rfl <;> (unfold vp_in; first | decide | (split <;> decide))) rfl (wr_ck _ _ _ _ (by decide)) d_M_nextBit_83 ?_
      refine lv_iconst (v := 1) hx hb d_M_nextBit_84 (by decide) ?_
      refine lv_iadd hx hb d_M_nextBit_85 ?_
      refine g_iastore (k := (tn a1)) E hH ⟨by decide, fun _ => rfl⟩ (by rcases he with rfl | rfl <;> (unfold vp_in; first | decide | (split <;> decide))) rfl d_M_nextBit_86 (fun H locs hH => ?_)
      refine lv_aload_n hx hb d_M_nextBit_87 rfl (lv_at hl 1 rfl) ?_
      refine g_get E hH (gc_M rfl) cl_M 5 (by decide) lf_M_19 rfl d_M_nextBit_88 ?_
      refine lv_iload_n hx hb d_M_nextBit_91 rfl (lv_at hl 2 rfl) ?_
      refine g_iaload (k := (tn a1)) (v := (((sp_M_beginFrame G0 a1) 25 (tn a1)) + 1)) E hH ⟨by decide, fun _ => rfl⟩ (by rcases he with rfl | rfl <;> (unfold vp_in; first | decide | (split <;> decide))) rfl (wr_same _ _ _ _) d_M_nextBit_92 ?_
      refine lv_bipush (v := 32) hx hb d_M_nextBit_93 (by decide) ?_
      refine lv_icmp_ne (tgt := 153) hx hb d_M_nextBit_95 (by decide) (fun h4 => ?_) (fun h4 => ?_)
      · refine lv_iload_n hx hb d_M_nextBit_153 rfl (lv_at hl 0 rfl) ?_
        exact g_iret E hH (hsp.trans (by simp only [sp_M_nextBit, if_pos h1, if_neg h4])) d_M_nextBit_154
      · refine lv_aload_n hx hb d_M_nextBit_98 rfl (lv_at hl 1 rfl) ?_
        refine g_get E hH (gc_M rfl) cl_M 5 (by decide) lf_M_19 rfl d_M_nextBit_99 ?_
        refine lv_iload_n hx hb d_M_nextBit_102 rfl (lv_at hl 2 rfl) ?_
        refine lv_iconst (v := 0) hx hb d_M_nextBit_103 (by decide) ?_
        refine g_iastore (k := (tn a1)) E hH ⟨by decide, fun _ => rfl⟩ (by rcases he with rfl | rfl <;> (unfold vp_in; first | decide | (split <;> decide))) rfl d_M_nextBit_104 (fun H locs hH => ?_)
        refine lv_aload_n hx hb d_M_nextBit_105 rfl (lv_at hl 1 rfl) ?_
        refine g_get E hH (gc_M rfl) cl_M 4 (by decide) lf_M_16 rfl d_M_nextBit_106 ?_
        refine lv_iload_n hx hb d_M_nextBit_109 rfl (lv_at hl 2 rfl) ?_
        refine lv_aload_n hx hb d_M_nextBit_110 rfl (lv_at hl 1 rfl) ?_
        refine g_get E hH (gc_M rfl) cl_M 4 (by decide) lf_M_16 rfl d_M_nextBit_111 ?_
        refine lv_iload_n hx hb d_M_nextBit_114 rfl (lv_at hl 2 rfl) ?_
        refine g_iaload (k := (tn a1)) (v := ((sp_M_beginFrame G0 a1) 24 (tn a1))) E hH ⟨by decide, fun _ => rfl⟩ (by rcases he with rfl | rfl <;> (unfold vp_in; first | decide | (split <;> decide))) rfl ((wr_ck _ _ _ _ (by decide)).trans ((wr_ck _ _ _ _ (by decide)).trans (wr_ck _ _ _ _ (by decide)))) d_M_nextBit_115 ?_
        refine lv_iconst (v := 1) hx hb d_M_nextBit_116 (by decide) ?_
        refine lv_iadd hx hb d_M_nextBit_117 ?_
        refine lv_bipush (v := 16) hx hb d_M_nextBit_118 (by decide) ?_
        refine lv_irem hx hb d_M_nextBit_120 (by decide) ?_
        refine g_iastore (k := (tn a1)) E hH ⟨by decide, fun _ => rfl⟩ (by rcases he with rfl | rfl <;> (unfold vp_in; first | decide | (split <;> decide))) rfl d_M_nextBit_121 (fun H locs hH => ?_)
        refine lv_aload_n hx hb d_M_nextBit_122 rfl (lv_at hl 1 rfl) ?_
        refine g_get E hH (gc_M rfl) cl_M 4 (by decide) lf_M_16 rfl d_M_nextBit_123 ?_
        refine lv_iload_n hx hb d_M_nextBit_126 rfl (lv_at hl 2 rfl) ?_
        refine g_iaload (k := (tn a1)) (v := ((((sp_M_beginFrame G0 a1) 24 (tn a1)) + 1) - (((sp_M_beginFrame G0 a1) 24 (tn a1)) + 1) / 16 * 16)) E hH ⟨by decide, fun _ => rfl⟩ (by rcases he with rfl | rfl <;> (unfold vp_in; first | decide | (split <;> decide))) rfl (wr_same _ _ _ _) d_M_nextBit_127 ?_
        refine lv_bipush (v := 8) hx hb d_M_nextBit_128 (by decide) ?_
        refine lv_irem hx hb d_M_nextBit_130 (by decide) ?_
        refine lv_if_ne (tgt := 153) hx hb d_M_nextBit_131 (by decide) (fun h5 => ?_) (fun h5 => ?_)
        · refine lv_iload_n hx hb d_M_nextBit_153 rfl (lv_at hl 0 rfl) ?_
          exact g_iret E hH (hsp.trans (by simp only [sp_M_nextBit, if_pos h1, if_pos h4, if_neg h5])) d_M_nextBit_154
        · refine lv_aload_n hx hb d_M_nextBit_134 rfl (lv_at hl 1 rfl) ?_
          refine g_get E hH (gc_M rfl) cl_M 7 (by decide) lf_M_25 rfl d_M_nextBit_135 ?_
          refine lv_iload_n hx hb d_M_nextBit_138 rfl (lv_at hl 2 rfl) ?_
          refine lv_aload_n hx hb d_M_nextBit_139 rfl (lv_at hl 1 rfl) ?_
          refine g_get E hH (gc_M rfl) cl_M 6 (by decide) lf_M_22 rfl d_M_nextBit_140 ?_
          refine lv_iload_n hx hb d_M_nextBit_143 rfl (lv_at hl 2 rfl) ?_
          refine g_iaload (k := (tn a1)) (v := ((sp_M_with (sp_M_beginFrame G0 a1) ((sp_M_beginFrame G0 a1) 26 (tn a1)) ((if ((sp_M_beginFrame G0 a1) 25 (tn a1)) = 0 then (if (((sp_M_beginFrame G0 a1) 24 (tn a1)) - ((sp_M_beginFrame G0 a1) 24 (tn a1)) / 2 * 2) = 0 then 0 else ((((sp_M_beginFrame G0 a1) 23 (tn a1)) >>> ((31 - ((sp_M_beginFrame G0 a1) 25 (tn a1))) &&& 31)) &&& (1 : Int32))) else ((((sp_M_beginFrame G0 a1) 23 (tn a1)) >>> ((31 - ((sp_M_beginFrame G0 a1) 25 (tn a1))) &&& 31)) &&& (1 : Int32))) : Int32)))) E hH ⟨by decide, fun _ => rfl⟩ (by rcases he with rfl | rfl <;> (unfold vp_in; first | decide | (split <;> decide))) rfl ((wr_ck _ _ _ _ (by decide)).trans ((wr_ck _ _ _ _ (by decide)).trans ((wr_ck _ _ _ _ (by decide)).trans (wr_same _ _ _ _)))) d_M_nextBit_144 ?_
          refine g_iastore (k := (tn a1)) E hH ⟨by decide, fun _ => rfl⟩ (by rcases he with rfl | rfl <;> (unfold vp_in; first | decide | (split <;> decide))) rfl d_M_nextBit_145 (fun H locs hH => ?_)
          refine lv_aload_n hx hb d_M_nextBit_146 rfl (lv_at hl 1 rfl) ?_
          refine g_get E hH (gc_M rfl) cl_M 6 (by decide) lf_M_22 rfl d_M_nextBit_147 ?_
          refine lv_iload_n hx hb d_M_nextBit_150 rfl (lv_at hl 2 rfl) ?_
          refine lv_iconst (v := 0) hx hb d_M_nextBit_151 (by decide) ?_
          refine g_iastore (k := (tn a1)) E hH ⟨by decide, fun _ => rfl⟩ (by rcases he with rfl | rfl <;> (unfold vp_in; first | decide | (split <;> decide))) rfl d_M_nextBit_152 (fun H locs hH => ?_)
          refine lv_iload_n hx hb d_M_nextBit_153 rfl (lv_at hl 0 rfl) ?_
          exact g_iret E hH (hsp.trans (by simp only [sp_M_nextBit, if_pos h1, if_pos h4, if_pos h5])) d_M_nextBit_154
    · refine lv_if_ne (tgt := 68) hx hb d_M_nextBit_50 (by decide) (fun h6 => ?_) (fun h6 => ?_)
      · refine lv_iload_n hx hb d_M_nextBit_68 rfl (lv_at hl 0 rfl) ?_
        exact hJ _ _ _ ⟨by simp only [if_neg h6], hH⟩
      · refine lv_aload_n hx hb d_M_nextBit_53 rfl (lv_at hl 1 rfl) ?_
        refine g_get E hH (gc_M rfl) cl_M 4 (by decide) lf_M_16 rfl d_M_nextBit_54 ?_
        refine lv_iload_n hx hb d_M_nextBit_57 rfl (lv_at hl 2 rfl) ?_
        refine g_iaload (k := (tn a1)) (v := ((sp_M_beginFrame G0 a1) 24 (tn a1))) E hH ⟨by decide, fun _ => rfl⟩ (by rcases he with rfl | rfl <;> (unfold vp_in; first | decide | (split <;> decide))) rfl rfl d_M_nextBit_58 ?_
        refine lv_iconst (v := 2) hx hb d_M_nextBit_59 (by decide) ?_
        refine lv_irem hx hb d_M_nextBit_60 (by decide) ?_
        refine lv_if_ne (tgt := 68) hx hb d_M_nextBit_61 (by decide) (fun h7 => ?_) (fun h7 => ?_)
        · refine lv_iload_n hx hb d_M_nextBit_68 rfl (lv_at hl 0 rfl) ?_
          exact hJ _ _ _ ⟨by simp only [if_pos h6, if_neg h7], hH⟩
        · refine lv_iconst (v := 0) hx hb d_M_nextBit_64 (by decide) ?_
          refine lv_goto (tgt := 69) hx hb d_M_nextBit_65 (by decide) ?_
          exact hJ _ _ _ ⟨by simp only [if_pos h6, if_pos h7], hH⟩

def sp_M_send  (G0 : Mem) (a1 : Int32) : Int32 × Mem :=
  (if 4 ≤ (((sp_M_nextBit G0 a1)).2 21 1) then (if (((sp_M_nextBit G0 a1)).2 29 (tn a1)) ≤ 0 then (if ((((G0 28 (tn a1)) <<< ((1 : Int32) &&& 31)) ||| ((sp_M_nextBit G0 a1)).1) &&& (15 : Int32)) = 0 then (if (((sp_M_nextBit G0 a1)).2 31 (tn a1)) = 0 then (((sp_M_turned (wr (wr ((sp_M_nextBit G0 a1)).2 28 (tn a1) ((((G0 28 (tn a1)) <<< ((1 : Int32) &&& 31)) ||| ((sp_M_nextBit G0 a1)).1) &&& (15 : Int32))) 29 (tn a1) 3) a1)).1, ((sp_M_turned (wr (wr ((sp_M_nextBit G0 a1)).2 28 (tn a1) ((((G0 28 (tn a1)) <<< ((1 : Int32) &&& 31)) ||| ((sp_M_nextBit G0 a1)).1) &&& (15 : Int32))) 29 (tn a1) 3) a1)).2) else ((0 : Int32), (wr (wr ((sp_M_nextBit G0 a1)).2 28 (tn a1) ((((G0 28 (tn a1)) <<< ((1 : Int32) &&& 31)) ||| ((sp_M_nextBit G0 a1)).1) &&& (15 : Int32))) 29 (tn a1) 3))) else (if 8 ≤ ((((G0 28 (tn a1)) <<< ((1 : Int32) &&& 31)) ||| ((sp_M_nextBit G0 a1)).1) &&& (15 : Int32)) then (((sp_M_turned (wr (wr ((sp_M_nextBit G0 a1)).2 28 (tn a1) ((((G0 28 (tn a1)) <<< ((1 : Int32) &&& 31)) ||| ((sp_M_nextBit G0 a1)).1) &&& (15 : Int32))) 31 (tn a1) (zb ((if (((sp_M_nextBit G0 a1)).2 31 (tn a1)) = 0 then 1 else 0) : Int32))) a1)).1, ((sp_M_turned (wr (wr ((sp_M_nextBit G0 a1)).2 28 (tn a1) ((((G0 28 (tn a1)) <<< ((1 : Int32) &&& 31)) ||| ((sp_M_nextBit G0 a1)).1) &&& (15 : Int32))) 31 (tn a1) (zb ((if (((sp_M_nextBit G0 a1)).2 31 (tn a1)) = 0 then 1 else 0) : Int32))) a1)).2) else ((0 : Int32), (wr ((sp_M_nextBit G0 a1)).2 28 (tn a1) ((((G0 28 (tn a1)) <<< ((1 : Int32) &&& 31)) ||| ((sp_M_nextBit G0 a1)).1) &&& (15 : Int32)))))) else (((if ((((sp_M_nextBit G0 a1)).2 29 (tn a1)) - 1) = 0 then (((sp_M_nextBit G0 a1)).2 30 (tn a1)) else 0) : Int32), (wr (wr (wr ((sp_M_nextBit G0 a1)).2 28 (tn a1) ((((G0 28 (tn a1)) <<< ((1 : Int32) &&& 31)) ||| ((sp_M_nextBit G0 a1)).1) &&& (15 : Int32))) 29 (tn a1) ((((sp_M_nextBit G0 a1)).2 29 (tn a1)) - 1)) 31 (tn a1) (zb ((if ((((sp_M_nextBit G0 a1)).2 29 (tn a1)) - 1) ≤ 0 then 0 else (if (((sp_M_nextBit G0 a1)).2 31 (tn a1)) = 0 then 0 else 1)) : Int32))))) else ((0 : Int32), (wr ((sp_M_nextBit G0 a1)).2 28 (tn a1) ((((G0 28 (tn a1)) <<< ((1 : Int32) &&& 31)) ||| ((sp_M_nextBit G0 a1)).1) &&& (15 : Int32)))))
set_option maxHeartbeats 4000000 in
set_option maxRecDepth 100000 in
theorem c_M_send (l : Launch) (P : gP) (G0 : Mem)  (a1 : Int32) (he : a1 = 0 ∨ a1 = 1) : gMi l y_M_send b_M_send 2 (some .int) ({ frames := 3, cells := 0, slots := 0, locals := 67 }) [.ref (gad P 21), .int a1] P G0 (sp_M_send G0 a1) := by
  refine Met.ofW (cc := b_M_send) (maxL := 2) (ret := (some .int)) (by decide) rfl ?_
  intro p e s m args below meth c0 s₁ B hml hv
  obtain ⟨rfl, hpre⟩ := hv
  obtain ⟨E, hH⟩ := gE_of B hml hpre
  replace E : gE p s m _ meth c0 P "FramedLineModel" b_M_send 2 (some .int) := E
  have hx := E.1
  have hb := E.2.1
  have hl := lv_entry ([.ref (gad P 21), .int a1]) (n := 2) (Nat.le_of_ble_eq_true rfl)
  rw [lg_entry_eq]
  generalize (lg_sl ([.ref (gad P 21), .int a1]) ++ List.replicate (2 - (lg_sl ([.ref (gad P 21), .int a1])).length) Slot.unset).toArray = ls at hl ⊢
  replace hl : lv_has ls 2 [(0, .ref (gad P 21)), (1, .int a1)] := hl
  have hsp : sp_M_send G0 a1 = sp_M_send G0 a1 := rfl
  refine lv_aload_n hx hb d_M_send_0 rfl (lv_at hl 0 rfl) ?_
  refine g_get E hH (gc_M rfl) cl_M 8 (by decide) lf_M_28 rfl d_M_send_1 ?_
  refine lv_iload_n hx hb d_M_send_4 rfl (lv_at hl 1 rfl) ?_
  refine lv_aload_n hx hb d_M_send_5 rfl (lv_at hl 0 rfl) ?_
  refine g_get E hH (gc_M rfl) cl_M 8 (by decide) lf_M_28 rfl d_M_send_6 ?_
  refine lv_iload_n hx hb d_M_send_9 rfl (lv_at hl 1 rfl) ?_
  refine g_iaload (k := (tn a1)) (v := (G0 28 (tn a1))) E hH ⟨by decide, fun _ => rfl⟩ (by rcases he with rfl | rfl <;> (unfold vp_in; first | decide | (split <;> decide))) rfl rfl d_M_send_10 ?_
  refine lv_iconst (v := 1) hx hb d_M_send_11 (by decide) ?_
  refine lv_ishl hx hb d_M_send_12 ?_
  refine lv_aload_n hx hb d_M_send_13 rfl (lv_at hl 0 rfl) ?_
  refine lv_iload_n hx hb d_M_send_14 rfl (lv_at hl 1 rfl) ?_
  refine g_callVi (As := [.int _]) E hH hl (c_M_nextBit l P _ _ he) lm_M_152 (gc_M rfl) cl_M (Nat.le_of_ble_eq_true rfl) (Nat.le_of_ble_eq_true rfl) (Nat.le_of_ble_eq_true rfl) (Nat.le_of_ble_eq_true rfl) (Nat.le_of_ble_eq_true rfl) rfl rfl rfl rfl d_M_send_15 (fun H locs hH => ?_)
  refine lv_ior hx hb d_M_send_18 ?_
  refine lv_bipush (v := 15) hx hb d_M_send_19 (by decide) ?_
  refine lv_iand hx hb d_M_send_21 ?_
  refine g_iastore (k := (tn a1)) E hH ⟨by decide, fun _ => rfl⟩ (by rcases he with rfl | rfl <;> (unfold vp_in; first | decide | (split <;> decide))) rfl d_M_send_22 (fun H locs hH => ?_)
  refine lv_aload_n hx hb d_M_send_23 rfl (lv_at hl 0 rfl) ?_
  refine g_geti (v := (((sp_M_nextBit G0 a1)).2 21 1)) E hH (gc_M rfl) cl_M 1 (by decide) lf_M_156 (fun _ => rfl) (wr_ck _ _ _ _ (by decide)) d_M_send_24 ?_
  refine lv_iconst (v := 4) hx hb d_M_send_27 (by decide) ?_
  refine lv_icmp_ge (tgt := 33) hx hb d_M_send_28 (by decide) (fun h1 => ?_) (fun h1 => ?_)
  · refine lv_aload_n hx hb d_M_send_33 rfl (lv_at hl 0 rfl) ?_
    refine g_get E hH (gc_M rfl) cl_M 9 (by decide) lf_M_31 rfl d_M_send_34 ?_
    refine lv_iload_n hx hb d_M_send_37 rfl (lv_at hl 1 rfl) ?_
    refine g_iaload (k := (tn a1)) (v := (((sp_M_nextBit G0 a1)).2 29 (tn a1))) E hH ⟨by decide, fun _ => rfl⟩ (by rcases he with rfl | rfl <;> (unfold vp_in; first | decide | (split <;> decide))) rfl (wr_ck _ _ _ _ (by decide)) d_M_send_38 ?_
    refine lv_if_le (tgt := 105) hx hb d_M_send_39 (by decide) (fun h2 => ?_) (fun h2 => ?_)
    · refine lv_aload_n hx hb d_M_send_105 rfl (lv_at hl 0 rfl) ?_
      refine g_get E hH (gc_M rfl) cl_M 8 (by decide) lf_M_28 rfl d_M_send_106 ?_
      refine lv_iload_n hx hb d_M_send_109 rfl (lv_at hl 1 rfl) ?_
      refine g_iaload (k := (tn a1)) (v := ((((G0 28 (tn a1)) <<< ((1 : Int32) &&& 31)) ||| ((sp_M_nextBit G0 a1)).1) &&& (15 : Int32))) E hH ⟨by decide, fun _ => rfl⟩ (by rcases he with rfl | rfl <;> (unfold vp_in; first | decide | (split <;> decide))) rfl (wr_same _ _ _ _) d_M_send_110 ?_
      refine lv_if_ne (tgt := 140) hx hb d_M_send_111 (by decide) (fun h3 => ?_) (fun h3 => ?_)
      · refine lv_aload_n hx hb d_M_send_140 rfl (lv_at hl 0 rfl) ?_
        refine g_get E hH (gc_M rfl) cl_M 8 (by decide) lf_M_28 rfl d_M_send_141 ?_
        refine lv_iload_n hx hb d_M_send_144 rfl (lv_at hl 1 rfl) ?_
        refine g_iaload (k := (tn a1)) (v := ((((G0 28 (tn a1)) <<< ((1 : Int32) &&& 31)) ||| ((sp_M_nextBit G0 a1)).1) &&& (15 : Int32))) E hH ⟨by decide, fun _ => rfl⟩ (by rcases he with rfl | rfl <;> (unfold vp_in; first | decide | (split <;> decide))) rfl (wr_same _ _ _ _) d_M_send_145 ?_
        refine lv_bipush (v := 8) hx hb d_M_send_146 (by decide) ?_
        refine lv_icmp_ge (tgt := 153) hx hb d_M_send_148 (by decide) (fun h4 => ?_) (fun h4 => ?_)
        · refine lv_aload_n hx hb d_M_send_153 rfl (lv_at hl 0 rfl) ?_
          refine g_get E hH (gc_M rfl) cl_M 11 (by decide) lf_M_37 rfl d_M_send_154 ?_
          refine lv_iload_n hx hb d_M_send_157 rfl (lv_at hl 1 rfl) ?_
          refine lv_aload_n hx hb d_M_send_158 rfl (lv_at hl 0 rfl) ?_
          refine g_get E hH (gc_M rfl) cl_M 11 (by decide) lf_M_37 rfl d_M_send_159 ?_
          refine lv_iload_n hx hb d_M_send_162 rfl (lv_at hl 1 rfl) ?_
          refine g_baload (k := (tn a1)) (v := (((sp_M_nextBit G0 a1)).2 31 (tn a1))) E hH ⟨by decide, fun _ => rfl⟩ (by rcases he with rfl | rfl <;> (unfold vp_in; first | decide | (split <;> decide))) rfl (wr_ck _ _ _ _ (by decide)) d_M_send_163 ?_
          refine jn (α := Int32) (fun z H1 locs1 => z = ((if (((sp_M_nextBit G0 a1)).2 31 (tn a1)) = 0 then 1 else 0) : Int32) ∧ isB z ∧ gH P s (wr ((sp_M_nextBit G0 a1)).2 28 (tn a1) ((((G0 28 (tn a1)) <<< ((1 : Int32) &&& 31)) ||| ((sp_M_nextBit G0 a1)).1) &&& (15 : Int32))) H1 locs1) (fun z => F0 m 172 ls (.int z :: .int a1 :: .ref (gad P 31) :: [])) (fun z H locs h9 => ?_) (fun hJ => ?_)
          · obtain ⟨rfl, hz172, hH⟩ := h9
            refine g_bastore (k := (tn a1)) E hH ⟨by decide, fun _ => rfl⟩ (by rcases he with rfl | rfl <;> (unfold vp_in; first | decide | (split <;> decide))) rfl d_M_send_172 (fun H locs hH => ?_)
            refine lv_aload_n hx hb d_M_send_173 rfl (lv_at hl 0 rfl) ?_
            refine lv_iload_n hx hb d_M_send_174 rfl (lv_at hl 1 rfl) ?_
            refine g_callVi (As := [.int _]) E hH hl (c_M_turned l P _ _ he) lm_M_159 (gc_M rfl) cl_M (Nat.le_of_ble_eq_true rfl) (Nat.le_of_ble_eq_true rfl) (Nat.le_of_ble_eq_true rfl) (Nat.le_of_ble_eq_true rfl) (Nat.le_of_ble_eq_true rfl) rfl rfl rfl rfl d_M_send_175 (fun H locs hH => ?_)
            exact g_iret E hH (hsp.trans (by simp only [sp_M_send, if_pos h1, if_pos h2, if_neg h3, if_pos h4])) d_M_send_178
          · refine lv_if_ne (tgt := 171) hx hb d_M_send_164 (by decide) (fun h5 => ?_) (fun h5 => ?_)
            · refine lv_iconst (v := 0) hx hb d_M_send_171 (by decide) ?_
              exact hJ _ _ _ ⟨by simp only [if_neg h5], isB_0, hH⟩
            · refine lv_iconst (v := 1) hx hb d_M_send_167 (by decide) ?_
              refine lv_goto (tgt := 172) hx hb d_M_send_168 (by decide) ?_
              exact hJ _ _ _ ⟨by simp only [if_pos h5], isB_1, hH⟩
        · refine lv_iconst (v := 0) hx hb d_M_send_151 (by decide) ?_
          exact g_iret E hH (hsp.trans (by simp only [sp_M_send, if_pos h1, if_pos h2, if_neg h3, if_neg h4])) d_M_send_152
      · refine lv_aload_n hx hb d_M_send_114 rfl (lv_at hl 0 rfl) ?_
        refine g_get E hH (gc_M rfl) cl_M 9 (by decide) lf_M_31 rfl d_M_send_115 ?_
        refine lv_iload_n hx hb d_M_send_118 rfl (lv_at hl 1 rfl) ?_
        refine lv_iconst (v := 3) hx hb d_M_send_119 (by decide) ?_
        refine g_iastore (k := (tn a1)) E hH ⟨by decide, fun _ => rfl⟩ (by rcases he with rfl | rfl <;> (unfold vp_in; first | decide | (split <;> decide))) rfl d_M_send_120 (fun H locs hH => ?_)
        refine lv_aload_n hx hb d_M_send_121 rfl (lv_at hl 0 rfl) ?_
        refine g_get E hH (gc_M rfl) cl_M 11 (by decide) lf_M_37 rfl d_M_send_122 ?_
        refine lv_iload_n hx hb d_M_send_125 rfl (lv_at hl 1 rfl) ?_
        refine g_baload (k := (tn a1)) (v := (((sp_M_nextBit G0 a1)).2 31 (tn a1))) E hH ⟨by decide, fun _ => rfl⟩ (by rcases he with rfl | rfl <;> (unfold vp_in; first | decide | (split <;> decide))) rfl ((wr_ck _ _ _ _ (by decide)).trans (wr_ck _ _ _ _ (by decide))) d_M_send_126 ?_
        refine lv_if_eq (tgt := 134) hx hb d_M_send_127 (by decide) (fun h6 => ?_) (fun h6 => ?_)
        · refine lv_aload_n hx hb d_M_send_134 rfl (lv_at hl 0 rfl) ?_
          refine lv_iload_n hx hb d_M_send_135 rfl (lv_at hl 1 rfl) ?_
          refine g_callVi (As := [.int _]) E hH hl (c_M_turned l P _ _ he) lm_M_159 (gc_M rfl) cl_M (Nat.le_of_ble_eq_true rfl) (Nat.le_of_ble_eq_true rfl) (Nat.le_of_ble_eq_true rfl) (Nat.le_of_ble_eq_true rfl) (Nat.le_of_ble_eq_true rfl) rfl rfl rfl rfl d_M_send_136 (fun H locs hH => ?_)
          exact g_iret E hH (hsp.trans (by simp only [sp_M_send, if_pos h1, if_pos h2, if_pos h3, if_pos h6])) d_M_send_139
        · refine lv_iconst (v := 0) hx hb d_M_send_130 (by decide) ?_
          refine lv_goto (tgt := 139) hx hb d_M_send_131 (by decide) ?_
          exact g_iret E hH (hsp.trans (by simp only [sp_M_send, if_pos h1, if_pos h2, if_pos h3, if_neg h6])) d_M_send_139
    · refine lv_aload_n hx hb d_M_send_42 rfl (lv_at hl 0 rfl) ?_
      refine g_get E hH (gc_M rfl) cl_M 9 (by decide) lf_M_31 rfl d_M_send_43 ?_
      refine lv_iload_n hx hb d_M_send_46 rfl (lv_at hl 1 rfl) ?_
      refine lv_aload_n hx hb d_M_send_47 rfl (lv_at hl 0 rfl) ?_
      refine g_get E hH (gc_M rfl) cl_M 9 (by decide) lf_M_31 rfl d_M_send_48 ?_
      refine lv_iload_n hx hb d_M_send_51 rfl (lv_at hl 1 rfl) ?_
      refine g_iaload (k := (tn a1)) (v := (((sp_M_nextBit G0 a1)).2 29 (tn a1))) E hH ⟨by decide, fun _ => rfl⟩ (by rcases he with rfl | rfl <;> (unfold vp_in; first | decide | (split <;> decide))) rfl (wr_ck _ _ _ _ (by decide)) d_M_send_52 ?_
      refine lv_iconst (v := 1) hx hb d_M_send_53 (by decide) ?_
      refine lv_isub hx hb d_M_send_54 ?_
      refine g_iastore (k := (tn a1)) E hH ⟨by decide, fun _ => rfl⟩ (by rcases he with rfl | rfl <;> (unfold vp_in; first | decide | (split <;> decide))) rfl d_M_send_55 (fun H locs hH => ?_)
      refine lv_aload_n hx hb d_M_send_56 rfl (lv_at hl 0 rfl) ?_
      refine g_get E hH (gc_M rfl) cl_M 11 (by decide) lf_M_37 rfl d_M_send_57 ?_
      refine lv_iload_n hx hb d_M_send_60 rfl (lv_at hl 1 rfl) ?_
      refine lv_aload_n hx hb d_M_send_61 rfl (lv_at hl 0 rfl) ?_
      refine g_get E hH (gc_M rfl) cl_M 9 (by decide) lf_M_31 rfl d_M_send_62 ?_
      refine lv_iload_n hx hb d_M_send_65 rfl (lv_at hl 1 rfl) ?_
      refine g_iaload (k := (tn a1)) (v := ((((sp_M_nextBit G0 a1)).2 29 (tn a1)) - 1)) E hH ⟨by decide, fun _ => rfl⟩ (by rcases he with rfl | rfl <;> (unfold vp_in; first | decide | (split <;> decide))) rfl (wr_same _ _ _ _) d_M_send_66 ?_
      refine jn (α := Int32) (fun z H1 locs1 => z = ((if ((((sp_M_nextBit G0 a1)).2 29 (tn a1)) - 1) ≤ 0 then 0 else (if (((sp_M_nextBit G0 a1)).2 31 (tn a1)) = 0 then 0 else 1)) : Int32) ∧ isB z ∧ gH P s (wr (wr ((sp_M_nextBit G0 a1)).2 28 (tn a1) ((((G0 28 (tn a1)) <<< ((1 : Int32) &&& 31)) ||| ((sp_M_nextBit G0 a1)).1) &&& (15 : Int32))) 29 (tn a1) ((((sp_M_nextBit G0 a1)).2 29 (tn a1)) - 1)) H1 locs1) (fun z => F0 m 84 ls (.int z :: .int a1 :: .ref (gad P 31) :: [])) (fun z H locs h9 => ?_) (fun hJ => ?_)
      · obtain ⟨rfl, hz84, hH⟩ := h9
        refine g_bastore (k := (tn a1)) E hH ⟨by decide, fun _ => rfl⟩ (by rcases he with rfl | rfl <;> (unfold vp_in; first | decide | (split <;> decide))) rfl d_M_send_84 (fun H locs hH => ?_)
        refine lv_aload_n hx hb d_M_send_85 rfl (lv_at hl 0 rfl) ?_
        refine g_get E hH (gc_M rfl) cl_M 9 (by decide) lf_M_31 rfl d_M_send_86 ?_
        refine lv_iload_n hx hb d_M_send_89 rfl (lv_at hl 1 rfl) ?_
        refine g_iaload (k := (tn a1)) (v := ((((sp_M_nextBit G0 a1)).2 29 (tn a1)) - 1)) E hH ⟨by decide, fun _ => rfl⟩ (by rcases he with rfl | rfl <;> (unfold vp_in; first | decide | (split <;> decide))) rfl ((wr_ck _ _ _ _ (by decide)).trans (wr_same _ _ _ _)) d_M_send_90 ?_
        refine jn (α := Int32) (fun z H1 locs1 => z = ((if ((((sp_M_nextBit G0 a1)).2 29 (tn a1)) - 1) = 0 then (((sp_M_nextBit G0 a1)).2 30 (tn a1)) else 0) : Int32) ∧ gH P s (wr (wr (wr ((sp_M_nextBit G0 a1)).2 28 (tn a1) ((((G0 28 (tn a1)) <<< ((1 : Int32) &&& 31)) ||| ((sp_M_nextBit G0 a1)).1) &&& (15 : Int32))) 29 (tn a1) ((((sp_M_nextBit G0 a1)).2 29 (tn a1)) - 1)) 31 (tn a1) (zb ((if ((((sp_M_nextBit G0 a1)).2 29 (tn a1)) - 1) ≤ 0 then 0 else (if (((sp_M_nextBit G0 a1)).2 31 (tn a1)) = 0 then 0 else 1)) : Int32))) H1 locs1) (fun z => F0 m 104 ls (.int z :: [])) (fun z H locs h9 => ?_) (fun hJ => ?_)
        · obtain ⟨rfl, hH⟩ := h9
          exact g_iret E hH (hsp.trans (by simp only [sp_M_send, if_pos h1, if_neg h2])) d_M_send_104
        · refine lv_if_ne (tgt := 103) hx hb d_M_send_91 (by decide) (fun h7 => ?_) (fun h7 => ?_)
          · refine lv_iconst (v := 0) hx hb d_M_send_103 (by decide) ?_
            exact hJ _ _ _ ⟨by simp only [if_neg h7], hH⟩
          · refine lv_aload_n hx hb d_M_send_94 rfl (lv_at hl 0 rfl) ?_
            refine g_get E hH (gc_M rfl) cl_M 10 (by decide) lf_M_34 rfl d_M_send_95 ?_
            refine lv_iload_n hx hb d_M_send_98 rfl (lv_at hl 1 rfl) ?_
            refine g_iaload (k := (tn a1)) (v := (((sp_M_nextBit G0 a1)).2 30 (tn a1))) E hH ⟨by decide, fun _ => rfl⟩ (by rcases he with rfl | rfl <;> (unfold vp_in; first | decide | (split <;> decide))) rfl ((wr_ck _ _ _ _ (by decide)).trans ((wr_ck _ _ _ _ (by decide)).trans (wr_ck _ _ _ _ (by decide)))) d_M_send_99 ?_
            refine lv_goto (tgt := 104) hx hb d_M_send_100 (by decide) ?_
            exact hJ _ _ _ ⟨by simp only [if_pos h7], hH⟩
      · refine lv_if_le (tgt := 83) hx hb d_M_send_67 (by decide) (fun h8 => ?_) (fun h8 => ?_)
        · refine lv_iconst (v := 0) hx hb d_M_send_83 (by decide) ?_
          exact hJ _ _ _ ⟨by simp only [if_pos h8], isB_0, hH⟩
        · refine lv_aload_n hx hb d_M_send_70 rfl (lv_at hl 0 rfl) ?_
          refine g_get E hH (gc_M rfl) cl_M 11 (by decide) lf_M_37 rfl d_M_send_71 ?_
          refine lv_iload_n hx hb d_M_send_74 rfl (lv_at hl 1 rfl) ?_
          refine g_baload (k := (tn a1)) (v := (((sp_M_nextBit G0 a1)).2 31 (tn a1))) E hH ⟨by decide, fun _ => rfl⟩ (by rcases he with rfl | rfl <;> (unfold vp_in; first | decide | (split <;> decide))) rfl ((wr_ck _ _ _ _ (by decide)).trans (wr_ck _ _ _ _ (by decide))) d_M_send_75 ?_
          refine lv_if_eq (tgt := 83) hx hb d_M_send_76 (by decide) (fun h9 => ?_) (fun h9 => ?_)
          · refine lv_iconst (v := 0) hx hb d_M_send_83 (by decide) ?_
            exact hJ _ _ _ ⟨by simp only [if_neg h8, if_pos h9], isB_0, hH⟩
          · refine lv_iconst (v := 1) hx hb d_M_send_79 (by decide) ?_
            refine lv_goto (tgt := 84) hx hb d_M_send_80 (by decide) ?_
            exact hJ _ _ _ ⟨by simp only [if_neg h8, if_neg h9], isB_1, hH⟩
  · refine lv_iconst (v := 0) hx hb d_M_send_31 (by decide) ?_
    exact g_iret E hH (hsp.trans (by simp only [sp_M_send, if_neg h1])) d_M_send_32
end
section
theorem i2_in {a1 : Int32} {p : Prop} [Decidable p] (he : a1 = 0 ∨ a1 = 1) : vp_in (2 * a1 + (if p then 0 else 1)) 4 := by
  by_cases h : p
  · rw [if_pos h]
    rcases he with rfl | rfl <;> (unfold vp_in; decide)
  · rw [if_neg h]
    rcases he with rfl | rfl <;> (unfold vp_in; decide)

def sp_M_halves_213 (a1 : Int32) (a2 : Int32) (a3 : Int32) (G : Mem)  : Mem :=
  (wr (wr G 60 (tn a1) (zb 1)) 61 (tn a1) (G 58 (tn a1)))
def sp_M_halves_99 (a1 : Int32) (a2 : Int32) (a3 : Int32) (G : Mem)  : Mem :=
  (if ((G 53 (tn a1)) - (G 53 (tn a1)) / 8 * 8) = 7 then (if (G 60 (tn a1)) = 0 then (sp_M_halves_213 a1 a2 a3 (wr G 59 (tn a1) ((if (G 47 (tn a1)) = 0 then (G 59 (tn a1)) else (((G 59 (tn a1)) <<< ((1 : Int32) &&& 31)) ||| a3)) : Int32))) else (sp_M_halves_213 a1 a2 a3 (wr (sp_M_fault (wr G 59 (tn a1) ((if (G 47 (tn a1)) = 0 then (G 59 (tn a1)) else (((G 59 (tn a1)) <<< ((1 : Int32) &&& 31)) ||| a3)) : Int32)) a1 ((if ((if (G 47 (tn a1)) = 0 then (G 59 (tn a1)) else (((G 59 (tn a1)) <<< ((1 : Int32) &&& 31)) ||| a3)) : Int32) = (G 61 (tn a1)) then 0 else 1) : Int32) 3) 62 (tn ((2 * a1) + ((if ((sp_M_fault (wr G 59 (tn a1) ((if (G 47 (tn a1)) = 0 then (G 59 (tn a1)) else (((G 59 (tn a1)) <<< ((1 : Int32) &&& 31)) ||| a3)) : Int32)) a1 ((if ((if (G 47 (tn a1)) = 0 then (G 59 (tn a1)) else (((G 59 (tn a1)) <<< ((1 : Int32) &&& 31)) ||| a3)) : Int32) = (G 61 (tn a1)) then 0 else 1) : Int32) 3) 53 (tn a1)) = 15 then 0 else 1) : Int32))) (zb ((if ((if (G 47 (tn a1)) = 0 then (G 59 (tn a1)) else (((G 59 (tn a1)) <<< ((1 : Int32) &&& 31)) ||| a3)) : Int32) = (G 61 (tn a1)) then 0 else 1) : Int32))))) else (wr G 59 (tn a1) ((if (G 47 (tn a1)) = 0 then (G 59 (tn a1)) else (((G 59 (tn a1)) <<< ((1 : Int32) &&& 31)) ||| a3)) : Int32)))
def sp_M_halves_47 (a1 : Int32) (a2 : Int32) (a3 : Int32) : Nat → Mem → Int32 → Mem
 | 0, G, x4 => G
  | d + 1, G, x4 =>
  (if x4 < 0 then (sp_M_halves_99 a1 a2 a3 G) else (sp_M_halves_47 a1 a2 a3 d (wr G 58 (tn a1) ((sp_M_with G (G 58 (tn a1)) ((if x4 = 31 then (if (G 47 (tn a1)) = 0 then ((a2 >>> (x4 &&& 31)) &&& (1 : Int32)) else 0) else ((a2 >>> (x4 &&& 31)) &&& (1 : Int32))) : Int32)))) (x4 + (-1))))
def sp_M_halves_33 (a1 : Int32) (a2 : Int32) (a3 : Int32) (G : Mem)  : Mem :=
  (if (G 57 (tn a1)) = 0 then G else (sp_M_halves_47 a1 a2 a3 33 G 31))
def sp_M_halves  (G0 : Mem) (a1 : Int32) (a2 : Int32) (a3 : Int32) : Mem :=
  (if ((G0 53 (tn a1)) - (G0 53 (tn a1)) / 8 * 8) = 0 then (sp_M_halves_33 a1 a2 a3 (wr (wr (wr G0 57 (tn a1) (zb 1)) 58 (tn a1) 0) 59 (tn a1) 0)) else (sp_M_halves_33 a1 a2 a3 G0))
set_option maxHeartbeats 4000000 in
set_option maxRecDepth 100000 in
theorem c_M_halves (l : Launch) (P : gP) (G0 : Mem)  (a1 : Int32) (a2 : Int32) (a3 : Int32) (he : a1 = 0 ∨ a1 = 1) : gMv l y_M_halves b_M_halves 5 none ({ frames := 1, cells := 0, slots := 0, locals := 23 }) [.ref (gad P 21), .int a1, .int a2, .int a3] P G0 (sp_M_halves G0 a1 a2 a3) := by
  refine Met.ofW (cc := b_M_halves) (maxL := 5) (ret := none) (by decide) rfl ?_
  intro p e s m args below meth c0 s₁ B hml hv
  obtain ⟨rfl, hpre⟩ := hv
  obtain ⟨E, hH⟩ := gE_of B hml hpre
  replace E : gE p s m _ meth c0 P "FramedLineModel" b_M_halves 5 none := E
  have hx := E.1
  have hb := E.2.1
  have hl := lv_entry ([.ref (gad P 21), .int a1, .int a2, .int a3]) (n := 5) (Nat.le_of_ble_eq_true rfl)
  rw [lg_entry_eq]
  generalize (lg_sl ([.ref (gad P 21), .int a1, .int a2, .int a3]) ++ List.replicate (5 - (lg_sl ([.ref (gad P 21), .int a1, .int a2, .int a3])).length) Slot.unset).toArray = ls at hl ⊢
  replace hl : lv_has ls 5 [(0, .ref (gad P 21)), (1, .int a1), (2, .int a2), (3, .int a3)] := hl
  have hsp : sp_M_halves G0 a1 a2 a3 = sp_M_halves G0 a1 a2 a3 := rfl
  refine jn (α := Mem × Array Slot) (fun q H1 locs1 => sp_M_halves G0 a1 a2 a3 = sp_M_halves_213 a1 a2 a3 q.1 ∧ lv_has q.2 5 [(0, .ref (gad P 21)), (1, .int a1), (2, .int a2), (3, .int a3)] ∧ gH P s q.1 H1 locs1) (fun q => F0 m 213 q.2 []) (fun q H locs h9 => ?_) (fun hC213 => ?_)
  · clear hsp hl hH ls
    obtain ⟨G, ls⟩ := q
    obtain ⟨hsp, hl, hH⟩ := h9
    change lv_has ls 5 [(0, .ref (gad P 21)), (1, .int a1), (2, .int a2), (3, .int a3)] at hl
    dsimp only at hsp hH ⊢
    refine lv_aload_n hx hb d_M_halves_213 rfl (lv_at hl 0 rfl) ?_
    refine g_get E hH (gc_M rfl) cl_M 40 (by decide) lf_M_125 rfl d_M_halves_214 ?_
    refine lv_iload_n hx hb d_M_halves_217 rfl (lv_at hl 1 rfl) ?_
    refine lv_iconst (v := 1) hx hb d_M_halves_218 (by decide) ?_
    refine g_bastore (k := (tn a1)) E hH ⟨by decide, fun _ => rfl⟩ (by rcases he with rfl | rfl <;> (unfold vp_in; first | decide | (split <;> decide))) rfl d_M_halves_219 (fun H locs hH => ?_)
    refine lv_aload_n hx hb d_M_halves_220 rfl (lv_at hl 0 rfl) ?_
    refine g_get E hH (gc_M rfl) cl_M 41 (by decide) lf_M_128 rfl d_M_halves_221 ?_
    refine lv_iload_n hx hb d_M_halves_224 rfl (lv_at hl 1 rfl) ?_
    refine lv_aload_n hx hb d_M_halves_225 rfl (lv_at hl 0 rfl) ?_
    refine g_get E hH (gc_M rfl) cl_M 38 (by decide) lf_M_119 rfl d_M_halves_226 ?_
    refine lv_iload_n hx hb d_M_halves_229 rfl (lv_at hl 1 rfl) ?_
    refine g_iaload (k := (tn a1)) (v := (G 58 (tn a1))) E hH ⟨by decide, fun _ => rfl⟩ (by rcases he with rfl | rfl <;> (unfold vp_in; first | decide | (split <;> decide))) rfl (wr_ck _ _ _ _ (by decide)) d_M_halves_230 ?_
    refine g_iastore (k := (tn a1)) E hH ⟨by decide, fun _ => rfl⟩ (by rcases he with rfl | rfl <;> (unfold vp_in; first | decide | (split <;> decide))) rfl d_M_halves_231 (fun H locs hH => ?_)
    exact g_vret E hH (hsp.trans (by rw [sp_M_halves_213])) d_M_halves_232
  refine jn (α := Mem × Array Slot) (fun q H1 locs1 => sp_M_halves G0 a1 a2 a3 = sp_M_halves_99 a1 a2 a3 q.1 ∧ lv_has q.2 5 [(0, .ref (gad P 21)), (1, .int a1), (2, .int a2), (3, .int a3)] ∧ gH P s q.1 H1 locs1) (fun q => F0 m 99 q.2 []) (fun q H locs h9 => ?_) (fun hC99 => ?_)
  · clear hsp hl hH ls
    obtain ⟨G, ls⟩ := q
    obtain ⟨hsp, hl, hH⟩ := h9
    change lv_has ls 5 [(0, .ref (gad P 21)), (1, .int a1), (2, .int a2), (3, .int a3)] at hl
    dsimp only at hsp hH ⊢
    refine lv_aload_n hx hb d_M_halves_99 rfl (lv_at hl 0 rfl) ?_
    refine g_get E hH (gc_M rfl) cl_M 39 (by decide) lf_M_122 rfl d_M_halves_100 ?_
    refine lv_iload_n hx hb d_M_halves_103 rfl (lv_at hl 1 rfl) ?_
    refine lv_aload_n hx hb d_M_halves_104 rfl (lv_at hl 0 rfl) ?_
    refine g_get E hH (gc_M rfl) cl_M 27 (by decide) lf_M_86 rfl d_M_halves_105 ?_
    refine lv_iload_n hx hb d_M_halves_108 rfl (lv_at hl 1 rfl) ?_
    refine g_baload (k := (tn a1)) (v := (G 47 (tn a1))) E hH ⟨by decide, fun _ => rfl⟩ (by rcases he with rfl | rfl <;> (unfold vp_in; first | decide | (split <;> decide))) rfl rfl d_M_halves_109 ?_
    refine jn (α := Int32) (fun z H1 locs1 => z = ((if (G 47 (tn a1)) = 0 then (G 59 (tn a1)) else (((G 59 (tn a1)) <<< ((1 : Int32) &&& 31)) ||| a3)) : Int32) ∧ gH P s G H1 locs1) (fun z => F0 m 132 ls (.int z :: .int a1 :: .ref (gad P 59) :: [])) (fun z H locs h9 => ?_) (fun hJ => ?_)
    · obtain ⟨rfl, hH⟩ := h9
      refine g_iastore (k := (tn a1)) E hH ⟨by decide, fun _ => rfl⟩ (by rcases he with rfl | rfl <;> (unfold vp_in; first | decide | (split <;> decide))) rfl d_M_halves_132 (fun H locs hH => ?_)
      refine lv_aload_n hx hb d_M_halves_133 rfl (lv_at hl 0 rfl) ?_
      refine g_get E hH (gc_M rfl) cl_M 33 (by decide) lf_M_104 rfl d_M_halves_134 ?_
      refine lv_iload_n hx hb d_M_halves_137 rfl (lv_at hl 1 rfl) ?_
      refine g_iaload (k := (tn a1)) (v := (G 53 (tn a1))) E hH ⟨by decide, fun _ => rfl⟩ (by rcases he with rfl | rfl <;> (unfold vp_in; first | decide | (split <;> decide))) rfl (wr_ck _ _ _ _ (by decide)) d_M_halves_138 ?_
      refine lv_bipush (v := 8) hx hb d_M_halves_139 (by decide) ?_
      refine lv_irem hx hb d_M_halves_141 (by decide) ?_
      refine lv_bipush (v := 7) hx hb d_M_halves_142 (by decide) ?_
      refine lv_icmp_ne (tgt := 232) hx hb d_M_halves_144 (by decide) (fun h1 => ?_) (fun h1 => ?_)
      · exact g_vret E hH (hsp.trans (by simp only [sp_M_halves_99, if_neg h1])) d_M_halves_232
      · refine lv_aload_n hx hb d_M_halves_147 rfl (lv_at hl 0 rfl) ?_
        refine g_get E hH (gc_M rfl) cl_M 40 (by decide) lf_M_125 rfl d_M_halves_148 ?_
        refine lv_iload_n hx hb d_M_halves_151 rfl (lv_at hl 1 rfl) ?_
        refine g_baload (k := (tn a1)) (v := (G 60 (tn a1))) E hH ⟨by decide, fun _ => rfl⟩ (by rcases he with rfl | rfl <;> (unfold vp_in; first | decide | (split <;> decide))) rfl (wr_ck _ _ _ _ (by decide)) d_M_halves_152 ?_
        refine lv_if_eq (tgt := 213) hx hb d_M_halves_153 (by decide) (fun h2 => ?_) (fun h2 => ?_)
        · exact hC213 ((wr G 59 (tn a1) ((if (G 47 (tn a1)) = 0 then (G 59 (tn a1)) else (((G 59 (tn a1)) <<< ((1 : Int32) &&& 31)) ||| a3)) : Int32)), _) _ _ ⟨hsp.trans (by simp only [sp_M_halves_99, if_pos h1, if_pos h2]), lv_sub hl [0, 1, 2, 3] rfl, hH⟩
        · refine lv_aload_n hx hb d_M_halves_156 rfl (lv_at hl 0 rfl) ?_
          refine g_get E hH (gc_M rfl) cl_M 39 (by decide) lf_M_122 rfl d_M_halves_157 ?_
          refine lv_iload_n hx hb d_M_halves_160 rfl (lv_at hl 1 rfl) ?_
          refine g_iaload (k := (tn a1)) (v := ((if (G 47 (tn a1)) = 0 then (G 59 (tn a1)) else (((G 59 (tn a1)) <<< ((1 : Int32) &&& 31)) ||| a3)) : Int32)) E hH ⟨by decide, fun _ => rfl⟩ (by rcases he with rfl | rfl <;> (unfold vp_in; first | decide | (split <;> decide))) rfl (wr_same _ _ _ _) d_M_halves_161 ?_
          refine lv_aload_n hx hb d_M_halves_162 rfl (lv_at hl 0 rfl) ?_
          refine g_get E hH (gc_M rfl) cl_M 41 (by decide) lf_M_128 rfl d_M_halves_163 ?_
          refine lv_iload_n hx hb d_M_halves_166 rfl (lv_at hl 1 rfl) ?_
          refine g_iaload (k := (tn a1)) (v := (G 61 (tn a1))) E hH ⟨by decide, fun _ => rfl⟩ (by rcases he with rfl | rfl <;> (unfold vp_in; first | decide | (split <;> decide))) rfl (wr_ck _ _ _ _ (by decide)) d_M_halves_167 ?_
          refine jn (α := Int32) (fun z H1 locs1 => z = ((if ((if (G 47 (tn a1)) = 0 then (G 59 (tn a1)) else (((G 59 (tn a1)) <<< ((1 : Int32) &&& 31)) ||| a3)) : Int32) = (G 61 (tn a1)) then 0 else 1) : Int32) ∧ isB z ∧ gH P s (wr G 59 (tn a1) ((if (G 47 (tn a1)) = 0 then (G 59 (tn a1)) else (((G 59 (tn a1)) <<< ((1 : Int32) &&& 31)) ||| a3)) : Int32)) H1 locs1) (fun z => F0 m 176 ls (.int z :: [])) (fun z H locs h9 => ?_) (fun hJ => ?_)
          · obtain ⟨rfl, hz176, hH⟩ := h9
            refine lv_istore hx hb d_M_halves_176 hl (by decide) rfl (fun ls hl => ?_)
            refine lv_aload_n hx hb d_M_halves_178 rfl (lv_at hl 1 rfl) ?_
            refine lv_iload_n hx hb d_M_halves_179 rfl (lv_at hl 2 rfl) ?_
            refine lv_iload hx hb d_M_halves_180 (lv_at hl 0 rfl) ?_
            refine lv_iconst (v := 3) hx hb d_M_halves_182 (by decide) ?_
            refine g_callVv (As := [.int _, .int _, .int _]) E hH hl (c_M_fault l P _ _ _ _ he (Or.inr (Or.inr (Or.inr (Or.inl rfl))))) lm_M_165 (gc_M rfl) cl_M (Nat.le_of_ble_eq_true rfl) (Nat.le_of_ble_eq_true rfl) (Nat.le_of_ble_eq_true rfl) (Nat.le_of_ble_eq_true rfl) (Nat.le_of_ble_eq_true rfl) rfl rfl rfl rfl d_M_halves_183 (fun H locs hH => ?_)
            refine lv_aload_n hx hb d_M_halves_186 rfl (lv_at hl 1 rfl) ?_
            refine g_get E hH (gc_M rfl) cl_M 42 (by decide) lf_M_131 rfl d_M_halves_187 ?_
            refine lv_iconst (v := 2) hx hb d_M_halves_190 (by decide) ?_
            refine lv_iload_n hx hb d_M_halves_191 rfl (lv_at hl 2 rfl) ?_
            refine lv_imul hx hb d_M_halves_192 ?_
            refine lv_aload_n hx hb d_M_halves_193 rfl (lv_at hl 1 rfl) ?_
            refine g_get E hH (gc_M rfl) cl_M 33 (by decide) lf_M_104 rfl d_M_halves_194 ?_
            refine lv_iload_n hx hb d_M_halves_197 rfl (lv_at hl 2 rfl) ?_
            refine g_iaload (k := (tn a1)) (v := ((sp_M_fault (wr G 59 (tn a1) ((if (G 47 (tn a1)) = 0 then (G 59 (tn a1)) else (((G 59 (tn a1)) <<< ((1 : Int32) &&& 31)) ||| a3)) : Int32)) a1 ((if ((if (G 47 (tn a1)) = 0 then (G 59 (tn a1)) else (((G 59 (tn a1)) <<< ((1 : Int32) &&& 31)) ||| a3)) : Int32) = (G 61 (tn a1)) then 0 else 1) : Int32) 3) 53 (tn a1))) E hH ⟨by decide, fun _ => rfl⟩ (by rcases he with rfl | rfl <;> (unfold vp_in; first | decide | (split <;> decide))) rfl rfl d_M_halves_198 ?_
            refine lv_bipush (v := 15) hx hb d_M_halves_199 (by decide) ?_
            refine jn (α := Int32) (fun z H1 locs1 => z = ((if ((sp_M_fault (wr G 59 (tn a1) ((if (G 47 (tn a1)) = 0 then (G 59 (tn a1)) else (((G 59 (tn a1)) <<< ((1 : Int32) &&& 31)) ||| a3)) : Int32)) a1 ((if ((if (G 47 (tn a1)) = 0 then (G 59 (tn a1)) else (((G 59 (tn a1)) <<< ((1 : Int32) &&& 31)) ||| a3)) : Int32) = (G 61 (tn a1)) then 0 else 1) : Int32) 3) 53 (tn a1)) = 15 then 0 else 1) : Int32) ∧ isB z ∧ gH P s (sp_M_fault (wr G 59 (tn a1) ((if (G 47 (tn a1)) = 0 then (G 59 (tn a1)) else (((G 59 (tn a1)) <<< ((1 : Int32) &&& 31)) ||| a3)) : Int32)) a1 ((if ((if (G 47 (tn a1)) = 0 then (G 59 (tn a1)) else (((G 59 (tn a1)) <<< ((1 : Int32) &&& 31)) ||| a3)) : Int32) = (G 61 (tn a1)) then 0 else 1) : Int32) 3) H1 locs1) (fun z => F0 m 209 ls (.int z :: .int (2 * a1) :: .ref (gad P 62) :: [])) (fun z H locs h9 => ?_) (fun hJ => ?_)
            · obtain ⟨rfl, hz209, hH⟩ := h9
              refine lv_iadd hx hb d_M_halves_209 ?_
              refine lv_iload hx hb d_M_halves_210 (lv_at hl 0 rfl) ?_
              refine g_bastore (k := (tn ((2 * a1) + ((if ((sp_M_fault (wr G 59 (tn a1) ((if (G 47 (tn a1)) = 0 then (G 59 (tn a1)) else (((G 59 (tn a1)) <<< ((1 : Int32) &&& 31)) ||| a3)) : Int32)) a1 ((if ((if (G 47 (tn a1)) = 0 then (G 59 (tn a1)) else (((G 59 (tn a1)) <<< ((1 : Int32) &&& 31)) ||| a3)) : Int32) = (G 61 (tn a1)) then 0 else 1) : Int32) 3) 53 (tn a1)) = 15 then 0 else 1) : Int32)))) E hH ⟨by decide, fun _ => rfl⟩ (i2_in he) rfl d_M_halves_212 (fun H locs hH => ?_)
              exact hC213 ((wr (sp_M_fault (wr G 59 (tn a1) ((if (G 47 (tn a1)) = 0 then (G 59 (tn a1)) else (((G 59 (tn a1)) <<< ((1 : Int32) &&& 31)) ||| a3)) : Int32)) a1 ((if ((if (G 47 (tn a1)) = 0 then (G 59 (tn a1)) else (((G 59 (tn a1)) <<< ((1 : Int32) &&& 31)) ||| a3)) : Int32) = (G 61 (tn a1)) then 0 else 1) : Int32) 3) 62 (tn ((2 * a1) + ((if ((sp_M_fault (wr G 59 (tn a1) ((if (G 47 (tn a1)) = 0 then (G 59 (tn a1)) else (((G 59 (tn a1)) <<< ((1 : Int32) &&& 31)) ||| a3)) : Int32)) a1 ((if ((if (G 47 (tn a1)) = 0 then (G 59 (tn a1)) else (((G 59 (tn a1)) <<< ((1 : Int32) &&& 31)) ||| a3)) : Int32) = (G 61 (tn a1)) then 0 else 1) : Int32) 3) 53 (tn a1)) = 15 then 0 else 1) : Int32))) (zb ((if ((if (G 47 (tn a1)) = 0 then (G 59 (tn a1)) else (((G 59 (tn a1)) <<< ((1 : Int32) &&& 31)) ||| a3)) : Int32) = (G 61 (tn a1)) then 0 else 1) : Int32))), _) _ _ ⟨hsp.trans (by simp only [sp_M_halves_99, if_pos h1, if_neg h2]), lv_sub hl [1, 2, 3, 4] rfl, hH⟩
            · refine lv_icmp_ne (tgt := 208) hx hb d_M_halves_201 (by decide) (fun h3 => ?_) (fun h3 => ?_)
              · refine lv_iconst (v := 1) hx hb d_M_halves_208 (by decide) ?_
                exact hJ _ _ _ ⟨by simp only [if_neg h3], isB_1, hH⟩
              · refine lv_iconst (v := 0) hx hb d_M_halves_204 (by decide) ?_
                refine lv_goto (tgt := 209) hx hb d_M_halves_205 (by decide) ?_
                exact hJ _ _ _ ⟨by simp only [if_pos h3], isB_0, hH⟩
          · refine lv_icmp_eq (tgt := 175) hx hb d_M_halves_168 (by decide) (fun h4 => ?_) (fun h4 => ?_)
            · refine lv_iconst (v := 0) hx hb d_M_halves_175 (by decide) ?_
              exact hJ _ _ _ ⟨by simp only [if_pos h4], isB_0, hH⟩
            · refine lv_iconst (v := 1) hx hb d_M_halves_171 (by decide) ?_
              refine lv_goto (tgt := 176) hx hb d_M_halves_172 (by decide) ?_
              exact hJ _ _ _ ⟨by simp only [if_neg h4], isB_1, hH⟩
    · refine lv_if_eq (tgt := 126) hx hb d_M_halves_110 (by decide) (fun h5 => ?_) (fun h5 => ?_)
      · refine lv_aload_n hx hb d_M_halves_126 rfl (lv_at hl 0 rfl) ?_
        refine g_get E hH (gc_M rfl) cl_M 39 (by decide) lf_M_122 rfl d_M_halves_127 ?_
        refine lv_iload_n hx hb d_M_halves_130 rfl (lv_at hl 1 rfl) ?_
        refine g_iaload (k := (tn a1)) (v := (G 59 (tn a1))) E hH ⟨by decide, fun _ => rfl⟩ (by rcases he with rfl | rfl <;> (unfold vp_in; first | decide | (split <;> decide))) rfl rfl d_M_halves_131 ?_
        exact hJ _ _ _ ⟨by simp only [if_pos h5], hH⟩
      · refine lv_aload_n hx hb d_M_halves_113 rfl (lv_at hl 0 rfl) ?_
        refine g_get E hH (gc_M rfl) cl_M 39 (by decide) lf_M_122 rfl d_M_halves_114 ?_
        refine lv_iload_n hx hb d_M_halves_117 rfl (lv_at hl 1 rfl) ?_
        refine g_iaload (k := (tn a1)) (v := (G 59 (tn a1))) E hH ⟨by decide, fun _ => rfl⟩ (by rcases he with rfl | rfl <;> (unfold vp_in; first | decide | (split <;> decide))) rfl rfl d_M_halves_118 ?_
        refine lv_iconst (v := 1) hx hb d_M_halves_119 (by decide) ?_
        refine lv_ishl hx hb d_M_halves_120 ?_
        refine lv_iload_n hx hb d_M_halves_121 rfl (lv_at hl 3 rfl) ?_
        refine lv_ior hx hb d_M_halves_122 ?_
        refine lv_goto (tgt := 132) hx hb d_M_halves_123 (by decide) ?_
        exact hJ _ _ _ ⟨by simp only [if_neg h5], hH⟩
  refine jl (α := Nat × Mem × Array Slot × Int32) (fun q H1 locs1 => sp_M_halves G0 a1 a2 a3 = sp_M_halves_47 a1 a2 a3 q.1 q.2.1 q.2.2.2 ∧ (q.2.2.2 = nI q.1 - 2 ∧ q.1 ≤ 33 ∧ 1 ≤ q.1) ∧ lv_has q.2.2.1 5 [(0, .ref (gad P 21)), (1, .int a1), (2, .int a2), (3, .int a3), (4, .int q.2.2.2)] ∧ gH P s q.2.1 H1 locs1) (fun q => F0 m 47 q.2.2.1 []) (fun q => q.1) (fun q H locs h9 ih47 => ?_) (fun hC47 => ?_)
  · clear hsp hl hH ls
    obtain ⟨n, G, ls, x4⟩ := q
    obtain ⟨hsp, hinv, hl, hH⟩ := h9
    dsimp only at hinv
    obtain ⟨d, rfl⟩ : ∃ d, n = d + 1 := ⟨n - 1, by omega⟩
    change lv_has ls 5 [(0, .ref (gad P 21)), (1, .int a1), (2, .int a2), (3, .int a3), (4, .int x4)] at hl
    dsimp only at hsp hH ⊢
    refine lv_iload hx hb d_M_halves_47 (lv_at hl 4 rfl) ?_
    refine lv_if_lt (tgt := 99) hx hb d_M_halves_49 (by decide) (fun h6 => ?_) (fun h6 => ?_)
    · exact hC99 (G, _) _ _ ⟨hsp.trans (by simp only [sp_M_halves_47, if_pos h6]), lv_sub hl [0, 1, 2, 3] rfl, hH⟩
    · refine lv_aload_n hx hb d_M_halves_52 rfl (lv_at hl 0 rfl) ?_
      refine g_get E hH (gc_M rfl) cl_M 38 (by decide) lf_M_119 rfl d_M_halves_53 ?_
      refine lv_iload_n hx hb d_M_halves_56 rfl (lv_at hl 1 rfl) ?_
      refine lv_aload_n hx hb d_M_halves_57 rfl (lv_at hl 0 rfl) ?_
      refine g_get E hH (gc_M rfl) cl_M 38 (by decide) lf_M_119 rfl d_M_halves_58 ?_
      refine lv_iload_n hx hb d_M_halves_61 rfl (lv_at hl 1 rfl) ?_
      refine g_iaload (k := (tn a1)) (v := (G 58 (tn a1))) E hH ⟨by decide, fun _ => rfl⟩ (by rcases he with rfl | rfl <;> (unfold vp_in; first | decide | (split <;> decide))) rfl rfl d_M_halves_62 ?_
      refine lv_iload hx hb d_M_halves_63 (lv_at hl 4 rfl) ?_
      refine lv_bipush (v := 31) hx hb d_M_halves_65 (by decide) ?_
      refine jn (α := Int32) (fun z H1 locs1 => z = ((if x4 = 31 then (if (G 47 (tn a1)) = 0 then ((a2 >>> (x4 &&& 31)) &&& (1 : Int32)) else 0) else ((a2 >>> (x4 &&& 31)) &&& (1 : Int32))) : Int32) ∧ gH P s G H1 locs1) (fun z => F0 m 89 ls (.int z :: .int (G 58 (tn a1)) :: .int a1 :: .ref (gad P 58) :: [])) (fun z H locs h9 => ?_) (fun hJ => ?_)
      · obtain ⟨rfl, hH⟩ := h9
        refine g_callSri (As := [.int _, .int _]) E hH hl (c_M_with l P _ _ _) lm_M_149 (Nat.le_of_ble_eq_true rfl) (Nat.le_of_ble_eq_true rfl) (Nat.le_of_ble_eq_true rfl) (Nat.le_of_ble_eq_true rfl) (Nat.le_of_ble_eq_true rfl) rfl rfl rfl rfl d_M_halves_89 (fun H locs hH => ?_)
        refine g_iastore (k := (tn a1)) E hH ⟨by decide, fun _ => rfl⟩ (by rcases he with rfl | rfl <;> (unfold vp_in; first | decide | (split <;> decide))) rfl d_M_halves_92 (fun H locs hH => ?_)
        refine lv_iinc (k := 4) (v := (x4 + (-1))) hx hb d_M_halves_93 hl rfl rfl (by decide) rfl (fun ls hl => ?_)
        refine lv_goto (tgt := 47) hx hb d_M_halves_96 (by decide) ?_
        exact ih47 (d, (wr G 58 (tn a1) ((sp_M_with G (G 58 (tn a1)) ((if x4 = 31 then (if (G 47 (tn a1)) = 0 then ((a2 >>> (x4 &&& 31)) &&& (1 : Int32)) else 0) else ((a2 >>> (x4 &&& 31)) &&& (1 : Int32))) : Int32)))), _, (x4 + (-1))) _ _ (Nat.lt_succ_self _) ⟨hsp.trans (by simp only [sp_M_halves_47, if_neg h6]), (co_back hinv h6), lv_sub hl [1, 2, 3, 4, 0] rfl, hH⟩
      · refine lv_icmp_ne (tgt := 83) hx hb d_M_halves_67 (by decide) (fun h7 => ?_) (fun h7 => ?_)
        · refine lv_iload_n hx hb d_M_halves_83 rfl (lv_at hl 2 rfl) ?_
          refine lv_iload hx hb d_M_halves_84 (lv_at hl 4 rfl) ?_
          refine lv_ishr hx hb d_M_halves_86 ?_
          refine lv_iconst (v := 1) hx hb d_M_halves_87 (by decide) ?_
          refine lv_iand hx hb d_M_halves_88 ?_
          exact hJ _ _ _ ⟨by simp only [if_neg h7], hH⟩
        · refine lv_aload_n hx hb d_M_halves_70 rfl (lv_at hl 0 rfl) ?_
          refine g_get E hH (gc_M rfl) cl_M 27 (by decide) lf_M_86 rfl d_M_halves_71 ?_
          refine lv_iload_n hx hb d_M_halves_74 rfl (lv_at hl 1 rfl) ?_
          refine g_baload (k := (tn a1)) (v := (G 47 (tn a1))) E hH ⟨by decide, fun _ => rfl⟩ (by rcases he with rfl | rfl <;> (unfold vp_in; first | decide | (split <;> decide))) rfl rfl d_M_halves_75 ?_
          refine lv_if_eq (tgt := 83) hx hb d_M_halves_76 (by decide) (fun h8 => ?_) (fun h8 => ?_)
          · refine lv_iload_n hx hb d_M_halves_83 rfl (lv_at hl 2 rfl) ?_
            refine lv_iload hx hb d_M_halves_84 (lv_at hl 4 rfl) ?_
            refine lv_ishr hx hb d_M_halves_86 ?_
            refine lv_iconst (v := 1) hx hb d_M_halves_87 (by decide) ?_
            refine lv_iand hx hb d_M_halves_88 ?_
            exact hJ _ _ _ ⟨by simp only [if_pos h7, if_pos h8], hH⟩
          · refine lv_iconst (v := 0) hx hb d_M_halves_79 (by decide) ?_
            refine lv_goto (tgt := 89) hx hb d_M_halves_80 (by decide) ?_
            exact hJ _ _ _ ⟨by simp only [if_pos h7, if_neg h8], hH⟩
  refine jn (α := Mem × Array Slot) (fun q H1 locs1 => sp_M_halves G0 a1 a2 a3 = sp_M_halves_33 a1 a2 a3 q.1 ∧ lv_has q.2 5 [(0, .ref (gad P 21)), (1, .int a1), (2, .int a2), (3, .int a3)] ∧ gH P s q.1 H1 locs1) (fun q => F0 m 33 q.2 []) (fun q H locs h9 => ?_) (fun hC33 => ?_)
  · clear hsp hl hH ls
    obtain ⟨G, ls⟩ := q
    obtain ⟨hsp, hl, hH⟩ := h9
    change lv_has ls 5 [(0, .ref (gad P 21)), (1, .int a1), (2, .int a2), (3, .int a3)] at hl
    dsimp only at hsp hH ⊢
    refine lv_aload_n hx hb d_M_halves_33 rfl (lv_at hl 0 rfl) ?_
    refine g_get E hH (gc_M rfl) cl_M 37 (by decide) lf_M_116 rfl d_M_halves_34 ?_
    refine lv_iload_n hx hb d_M_halves_37 rfl (lv_at hl 1 rfl) ?_
    refine g_baload (k := (tn a1)) (v := (G 57 (tn a1))) E hH ⟨by decide, fun _ => rfl⟩ (by rcases he with rfl | rfl <;> (unfold vp_in; first | decide | (split <;> decide))) rfl rfl d_M_halves_38 ?_
    refine lv_if_ne (tgt := 43) hx hb d_M_halves_39 (by decide) (fun h9 => ?_) (fun h9 => ?_)
    · refine lv_bipush (v := 31) hx hb d_M_halves_43 (by decide) ?_
      refine lv_istore hx hb d_M_halves_45 hl (by decide) rfl (fun ls hl => ?_)
      exact hC47 (33, G, _, 31) _ _ ⟨hsp.trans (by simp only [sp_M_halves_33, if_neg h9]), (by dsimp only; decide), lv_sub hl [1, 2, 3, 4, 0] rfl, hH⟩
    · exact g_vret E hH (hsp.trans (by simp only [sp_M_halves_33, if_pos h9])) d_M_halves_42
  refine lv_aload_n hx hb d_M_halves_0 rfl (lv_at hl 0 rfl) ?_
  refine g_get E hH (gc_M rfl) cl_M 33 (by decide) lf_M_104 rfl d_M_halves_1 ?_
  refine lv_iload_n hx hb d_M_halves_4 rfl (lv_at hl 1 rfl) ?_
  refine g_iaload (k := (tn a1)) (v := (G0 53 (tn a1))) E hH ⟨by decide, fun _ => rfl⟩ (by rcases he with rfl | rfl <;> (unfold vp_in; first | decide | (split <;> decide))) rfl rfl d_M_halves_5 ?_
  refine lv_bipush (v := 8) hx hb d_M_halves_6 (by decide) ?_
  refine lv_irem hx hb d_M_halves_8 (by decide) ?_
  refine lv_if_ne (tgt := 33) hx hb d_M_halves_9 (by decide) (fun h10 => ?_) (fun h10 => ?_)
  · exact hC33 (G0, _) _ _ ⟨hsp.trans (by simp only [sp_M_halves, if_neg h10]), lv_sub hl [0, 1, 2, 3] rfl, hH⟩
  · refine lv_aload_n hx hb d_M_halves_12 rfl (lv_at hl 0 rfl) ?_
    refine g_get E hH (gc_M rfl) cl_M 37 (by decide) lf_M_116 rfl d_M_halves_13 ?_
    refine lv_iload_n hx hb d_M_halves_16 rfl (lv_at hl 1 rfl) ?_
    refine lv_iconst (v := 1) hx hb d_M_halves_17 (by decide) ?_
    refine g_bastore (k := (tn a1)) E hH ⟨by decide, fun _ => rfl⟩ (by rcases he with rfl | rfl <;> (unfold vp_in; first | decide | (split <;> decide))) rfl d_M_halves_18 (fun H locs hH => ?_)
    refine lv_aload_n hx hb d_M_halves_19 rfl (lv_at hl 0 rfl) ?_
    refine g_get E hH (gc_M rfl) cl_M 38 (by decide) lf_M_119 rfl d_M_halves_20 ?_
    refine lv_iload_n hx hb d_M_halves_23 rfl (lv_at hl 1 rfl) ?_
    refine lv_iconst (v := 0) hx hb d_M_halves_24 (by decide) ?_
    refine g_iastore (k := (tn a1)) E hH ⟨by decide, fun _ => rfl⟩ (by rcases he with rfl | rfl <;> (unfold vp_in; first | decide | (split <;> decide))) rfl d_M_halves_25 (fun H locs hH => ?_)
    refine lv_aload_n hx hb d_M_halves_26 rfl (lv_at hl 0 rfl) ?_
    refine g_get E hH (gc_M rfl) cl_M 39 (by decide) lf_M_122 rfl d_M_halves_27 ?_
    refine lv_iload_n hx hb d_M_halves_30 rfl (lv_at hl 1 rfl) ?_
    refine lv_iconst (v := 0) hx hb d_M_halves_31 (by decide) ?_
    refine g_iastore (k := (tn a1)) E hH ⟨by decide, fun _ => rfl⟩ (by rcases he with rfl | rfl <;> (unfold vp_in; first | decide | (split <;> decide))) rfl d_M_halves_32 (fun H locs hH => ?_)
    exact hC33 ((wr (wr (wr G0 57 (tn a1) (zb 1)) 58 (tn a1) 0) 59 (tn a1) 0), _) _ _ ⟨hsp.trans (by simp only [sp_M_halves, if_pos h10]), lv_sub hl [0, 1, 2, 3] rfl, hH⟩

def sp_M_complete_252 (a1 : Int32) (G : Mem) (x2 : Int32) (x3 : Int32) : Mem :=
  (sp_M_halves (sp_M_fault G a1 ((if (G 53 (tn a1)) = 13 then (if x3 = 0 then 1 else 0) else (if (G 53 (tn a1)) = 15 then (if x3 = 0 then 1 else 0) else 0)) : Int32) 4) a1 x2 x3)
def sp_M_complete_152 (a1 : Int32) (G : Mem) (x2 : Int32) (x3 : Int32) (x4 : Int32) : Mem :=
  (if (G 52 (tn a1)) = 0 then (wr (wr (wr G 52 (tn a1) (zb x4)) 53 (tn a1) 11) 56 (tn a1) 0) else (if (((G 53 (tn a1)) + 1) - ((G 53 (tn a1)) + 1) / 16 * 16) = 11 then (if ((if x4 = 0 then ((G 56 (tn a1)) + 1) else 0) : Int32) = 2 then (sp_M_forget (wr (wr G 53 (tn a1) (((G 53 (tn a1)) + 1) - ((G 53 (tn a1)) + 1) / 16 * 16)) 56 (tn a1) ((if x4 = 0 then ((G 56 (tn a1)) + 1) else 0) : Int32)) a1) else (sp_M_complete_252 a1 (wr (wr G 53 (tn a1) (((G 53 (tn a1)) + 1) - ((G 53 (tn a1)) + 1) / 16 * 16)) 56 (tn a1) ((if x4 = 0 then ((G 56 (tn a1)) + 1) else 0) : Int32)) x2 x3)) else (sp_M_complete_252 a1 (wr G 53 (tn a1) (((G 53 (tn a1)) + 1) - ((G 53 (tn a1)) + 1) / 16 * 16)) x2 x3)))
def sp_M_complete_114 (a1 : Int32) (G : Mem) (x2 : Int32) (x3 : Int32) : Mem :=
  (sp_M_complete_152 a1 G x2 x3 ((if (G 47 (tn a1)) = 0 then (if (G 55 (tn a1)) = 6 then (if (G 54 (tn a1)) = 11 then 1 else 0) else 0) else 0) : Int32))
def sp_M_complete_35 (a1 : Int32) (G : Mem) (x2 : Int32) (x3 : Int32) : Mem :=
  (if (G 47 (tn a1)) = 0 then (sp_M_complete_114 a1 (wr (wr (wr G 51 (tn a1) (zb ((if ((x2 >>> ((29 : Int32) &&& 31)) &&& (1 : Int32)) = 1 then 1 else 0) : Int32))) 54 (tn a1) ((((G 54 (tn a1)) <<< ((1 : Int32) &&& 31)) ||| x3) &&& (63 : Int32))) 55 (tn a1) ((if 6 ≤ (G 55 (tn a1)) then 6 else ((G 55 (tn a1)) + 1)) : Int32)) x2 x3) else (sp_M_complete_114 a1 G x2 x3))
def sp_M_complete  (G0 : Mem) (a1 : Int32) : Mem :=
  (sp_M_complete_35 a1 (sp_M_fault (wr (wr G0 50 (tn a1) (G0 45 (tn a1))) 49 (tn a1) (zb 1)) a1 1 0) (G0 45 (tn a1)) (((G0 45 (tn a1)) >>> ((31 : Int32) &&& 31)) &&& (1 : Int32)))
set_option maxHeartbeats 4000000 in
set_option maxRecDepth 100000 in
theorem c_M_complete (l : Launch) (P : gP) (G0 : Mem)  (a1 : Int32) (he : a1 = 0 ∨ a1 = 1) : gMv l y_M_complete b_M_complete 5 none ({ frames := 2, cells := 0, slots := 0, locals := 47 }) [.ref (gad P 21), .int a1] P G0 (sp_M_complete G0 a1) := by
  refine Met.ofW (cc := b_M_complete) (maxL := 5) (ret := none) (by decide) rfl ?_
  intro p e s m args below meth c0 s₁ B hml hv
  obtain ⟨rfl, hpre⟩ := hv
  obtain ⟨E, hH⟩ := gE_of B hml hpre
  replace E : gE p s m _ meth c0 P "FramedLineModel" b_M_complete 5 none := E
  have hx := E.1
  have hb := E.2.1
  have hl := lv_entry ([.ref (gad P 21), .int a1]) (n := 5) (Nat.le_of_ble_eq_true rfl)
  rw [lg_entry_eq]
  generalize (lg_sl ([.ref (gad P 21), .int a1]) ++ List.replicate (5 - (lg_sl ([.ref (gad P 21), .int a1])).length) Slot.unset).toArray = ls at hl ⊢
  replace hl : lv_has ls 5 [(0, .ref (gad P 21)), (1, .int a1)] := hl
  have hsp : sp_M_complete G0 a1 = sp_M_complete G0 a1 := rfl
  refine jn (α := Mem × Array Slot × Int32 × Int32) (fun q H1 locs1 => sp_M_complete G0 a1 = sp_M_complete_252 a1 q.1 q.2.2.1 q.2.2.2 ∧ lv_has q.2.1 5 [(0, .ref (gad P 21)), (1, .int a1), (2, .int q.2.2.1), (3, .int q.2.2.2)] ∧ gH P s q.1 H1 locs1) (fun q => F0 m 252 q.2.1 []) (fun q H locs h9 => ?_) (fun hC252 => ?_)
  · clear hsp hl hH ls
    obtain ⟨G, ls, x2, x3⟩ := q
    obtain ⟨hsp, hl, hH⟩ := h9
    change lv_has ls 5 [(0, .ref (gad P 21)), (1, .int a1), (2, .int x2), (3, .int x3)] at hl
    dsimp only at hsp hH ⊢
    refine lv_aload_n hx hb d_M_complete_252 rfl (lv_at hl 0 rfl) ?_
    refine lv_iload_n hx hb d_M_complete_253 rfl (lv_at hl 1 rfl) ?_
    refine lv_aload_n hx hb d_M_complete_254 rfl (lv_at hl 0 rfl) ?_
    refine g_get E hH (gc_M rfl) cl_M 33 (by decide) lf_M_104 rfl d_M_complete_255 ?_
    refine lv_iload_n hx hb d_M_complete_258 rfl (lv_at hl 1 rfl) ?_
    refine g_iaload (k := (tn a1)) (v := (G 53 (tn a1))) E hH ⟨by decide, fun _ => rfl⟩ (by rcases he with rfl | rfl <;> (unfold vp_in; first | decide | (split <;> decide))) rfl rfl d_M_complete_259 ?_
    refine lv_bipush (v := 13) hx hb d_M_complete_260 (by decide) ?_
    refine jn (α := Int32) (fun z H1 locs1 => z = ((if (G 53 (tn a1)) = 13 then (if x3 = 0 then 1 else 0) else (if (G 53 (tn a1)) = 15 then (if x3 = 0 then 1 else 0) else 0)) : Int32) ∧ isB z ∧ gH P s G H1 locs1) (fun z => F0 m 285 ls (.int z :: .int a1 :: .ref (gad P 21) :: [])) (fun z H locs h9 => ?_) (fun hJ => ?_)
    · obtain ⟨rfl, hz285, hH⟩ := h9
      refine lv_iconst (v := 4) hx hb d_M_complete_285 (by decide) ?_
      refine g_callVv (As := [.int _, .int _, .int _]) E hH hl (c_M_fault l P _ _ _ _ he (Or.inr (Or.inr (Or.inr (Or.inr rfl))))) lm_M_165 (gc_M rfl) cl_M (Nat.le_of_ble_eq_true rfl) (Nat.le_of_ble_eq_true rfl) (Nat.le_of_ble_eq_true rfl) (Nat.le_of_ble_eq_true rfl) (Nat.le_of_ble_eq_true rfl) rfl rfl rfl rfl d_M_complete_286 (fun H locs hH => ?_)
      refine lv_aload_n hx hb d_M_complete_289 rfl (lv_at hl 0 rfl) ?_
      refine lv_iload_n hx hb d_M_complete_290 rfl (lv_at hl 1 rfl) ?_
      refine lv_iload_n hx hb d_M_complete_291 rfl (lv_at hl 2 rfl) ?_
      refine lv_iload_n hx hb d_M_complete_292 rfl (lv_at hl 3 rfl) ?_
      refine g_callVv (As := [.int _, .int _, .int _]) E hH hl (c_M_halves l P _ _ _ _ he) lm_M_189 (gc_M rfl) cl_M (Nat.le_of_ble_eq_true rfl) (Nat.le_of_ble_eq_true rfl) (Nat.le_of_ble_eq_true rfl) (Nat.le_of_ble_eq_true rfl) (Nat.le_of_ble_eq_true rfl) rfl rfl rfl rfl d_M_complete_293 (fun H locs hH => ?_)
      exact g_vret E hH (hsp.trans (by rw [sp_M_complete_252])) d_M_complete_296
    · refine lv_icmp_eq (tgt := 276) hx hb d_M_complete_262 (by decide) (fun h1 => ?_) (fun h1 => ?_)
      · refine lv_iload_n hx hb d_M_complete_276 rfl (lv_at hl 3 rfl) ?_
        refine lv_if_ne (tgt := 284) hx hb d_M_complete_277 (by decide) (fun h2 => ?_) (fun h2 => ?_)
        · refine lv_iconst (v := 0) hx hb d_M_complete_284 (by decide) ?_
          exact hJ _ _ _ ⟨by simp only [if_pos h1, if_neg h2], isB_0, hH⟩
        · refine lv_iconst (v := 1) hx hb d_M_complete_280 (by decide) ?_
          refine lv_goto (tgt := 285) hx hb d_M_complete_281 (by decide) ?_
          exact hJ _ _ _ ⟨by simp only [if_pos h1, if_pos h2], isB_1, hH⟩
      · refine lv_aload_n hx hb d_M_complete_265 rfl (lv_at hl 0 rfl) ?_
        refine g_get E hH (gc_M rfl) cl_M 33 (by decide) lf_M_104 rfl d_M_complete_266 ?_
        refine lv_iload_n hx hb d_M_complete_269 rfl (lv_at hl 1 rfl) ?_
        refine g_iaload (k := (tn a1)) (v := (G 53 (tn a1))) E hH ⟨by decide, fun _ => rfl⟩ (by rcases he with rfl | rfl <;> (unfold vp_in; first | decide | (split <;> decide))) rfl rfl d_M_complete_270 ?_
        refine lv_bipush (v := 15) hx hb d_M_complete_271 (by decide) ?_
        refine lv_icmp_ne (tgt := 284) hx hb d_M_complete_273 (by decide) (fun h3 => ?_) (fun h3 => ?_)
        · refine lv_iconst (v := 0) hx hb d_M_complete_284 (by decide) ?_
          exact hJ _ _ _ ⟨by simp only [if_neg h1, if_neg h3], isB_0, hH⟩
        · refine lv_iload_n hx hb d_M_complete_276 rfl (lv_at hl 3 rfl) ?_
          refine lv_if_ne (tgt := 284) hx hb d_M_complete_277 (by decide) (fun h4 => ?_) (fun h4 => ?_)
          · refine lv_iconst (v := 0) hx hb d_M_complete_284 (by decide) ?_
            exact hJ _ _ _ ⟨by simp only [if_neg h1, if_pos h3, if_neg h4], isB_0, hH⟩
          · refine lv_iconst (v := 1) hx hb d_M_complete_280 (by decide) ?_
            refine lv_goto (tgt := 285) hx hb d_M_complete_281 (by decide) ?_
            exact hJ _ _ _ ⟨by simp only [if_neg h1, if_pos h3, if_pos h4], isB_1, hH⟩
  refine jn (α := Mem × Array Slot × Int32 × Int32 × Int32) (fun q H1 locs1 => sp_M_complete G0 a1 = sp_M_complete_152 a1 q.1 q.2.2.1 q.2.2.2.1 q.2.2.2.2 ∧ lv_has q.2.1 5 [(0, .ref (gad P 21)), (1, .int a1), (2, .int q.2.2.1), (3, .int q.2.2.2.1), (4, .int q.2.2.2.2)] ∧ gH P s q.1 H1 locs1) (fun q => F0 m 152 q.2.1 []) (fun q H locs h9 => ?_) (fun hC152 => ?_)
  · clear hsp hl hH ls
    obtain ⟨G, ls, x2, x3, x4⟩ := q
    obtain ⟨hsp, hl, hH⟩ := h9
    change lv_has ls 5 [(0, .ref (gad P 21)), (1, .int a1), (2, .int x2), (3, .int x3), (4, .int x4)] at hl
    dsimp only at hsp hH ⊢
    refine lv_aload_n hx hb d_M_complete_152 rfl (lv_at hl 0 rfl) ?_
    refine g_get E hH (gc_M rfl) cl_M 32 (by decide) lf_M_101 rfl d_M_complete_153 ?_
    refine lv_iload_n hx hb d_M_complete_156 rfl (lv_at hl 1 rfl) ?_
    refine g_baload (k := (tn a1)) (v := (G 52 (tn a1))) E hH ⟨by decide, fun _ => rfl⟩ (by rcases he with rfl | rfl <;> (unfold vp_in; first | decide | (split <;> decide))) rfl rfl d_M_complete_157 ?_
    refine lv_if_ne (tgt := 185) hx hb d_M_complete_158 (by decide) (fun h5 => ?_) (fun h5 => ?_)
    · refine lv_aload_n hx hb d_M_complete_185 rfl (lv_at hl 0 rfl) ?_
      refine g_get E hH (gc_M rfl) cl_M 33 (by decide) lf_M_104 rfl d_M_complete_186 ?_
      refine lv_iload_n hx hb d_M_complete_189 rfl (lv_at hl 1 rfl) ?_
      refine lv_aload_n hx hb d_M_complete_190 rfl (lv_at hl 0 rfl) ?_
      refine g_get E hH (gc_M rfl) cl_M 33 (by decide) lf_M_104 rfl d_M_complete_191 ?_
      refine lv_iload_n hx hb d_M_complete_194 rfl (lv_at hl 1 rfl) ?_
      refine g_iaload (k := (tn a1)) (v := (G 53 (tn a1))) E hH ⟨by decide, fun _ => rfl⟩ (by rcases he with rfl | rfl <;> (unfold vp_in; first | decide | (split <;> decide))) rfl rfl d_M_complete_195 ?_
      refine lv_iconst (v := 1) hx hb d_M_complete_196 (by decide) ?_
      refine lv_iadd hx hb d_M_complete_197 ?_
      refine lv_bipush (v := 16) hx hb d_M_complete_198 (by decide) ?_
      refine lv_irem hx hb d_M_complete_200 (by decide) ?_
      refine g_iastore (k := (tn a1)) E hH ⟨by decide, fun _ => rfl⟩ (by rcases he with rfl | rfl <;> (unfold vp_in; first | decide | (split <;> decide))) rfl d_M_complete_201 (fun H locs hH => ?_)
      refine lv_aload_n hx hb d_M_complete_202 rfl (lv_at hl 0 rfl) ?_
      refine g_get E hH (gc_M rfl) cl_M 33 (by decide) lf_M_104 rfl d_M_complete_203 ?_
      refine lv_iload_n hx hb d_M_complete_206 rfl (lv_at hl 1 rfl) ?_
      refine g_iaload (k := (tn a1)) (v := (((G 53 (tn a1)) + 1) - ((G 53 (tn a1)) + 1) / 16 * 16)) E hH ⟨by decide, fun _ => rfl⟩ (by rcases he with rfl | rfl <;> (unfold vp_in; first | decide | (split <;> decide))) rfl (wr_same _ _ _ _) d_M_complete_207 ?_
      refine lv_bipush (v := 11) hx hb d_M_complete_208 (by decide) ?_
      refine lv_icmp_ne (tgt := 252) hx hb d_M_complete_210 (by decide) (fun h6 => ?_) (fun h6 => ?_)
      · exact hC252 ((wr G 53 (tn a1) (((G 53 (tn a1)) + 1) - ((G 53 (tn a1)) + 1) / 16 * 16)), _, x2, x3) _ _ ⟨hsp.trans (by simp only [sp_M_complete_152, if_neg h5, if_neg h6]), lv_sub hl [0, 1, 2, 3] rfl, hH⟩
      · refine lv_aload_n hx hb d_M_complete_213 rfl (lv_at hl 0 rfl) ?_
        refine g_get E hH (gc_M rfl) cl_M 36 (by decide) lf_M_113 rfl d_M_complete_214 ?_
        refine lv_iload_n hx hb d_M_complete_217 rfl (lv_at hl 1 rfl) ?_
        refine lv_iload hx hb d_M_complete_218 (lv_at hl 4 rfl) ?_
        refine jn (α := Int32) (fun z H1 locs1 => z = ((if x4 = 0 then ((G 56 (tn a1)) + 1) else 0) : Int32) ∧ gH P s (wr G 53 (tn a1) (((G 53 (tn a1)) + 1) - ((G 53 (tn a1)) + 1) / 16 * 16)) H1 locs1) (fun z => F0 m 235 ls (.int z :: .int a1 :: .ref (gad P 56) :: [])) (fun z H locs h9 => ?_) (fun hJ => ?_)
        · obtain ⟨rfl, hH⟩ := h9
          refine g_iastore (k := (tn a1)) E hH ⟨by decide, fun _ => rfl⟩ (by rcases he with rfl | rfl <;> (unfold vp_in; first | decide | (split <;> decide))) rfl d_M_complete_235 (fun H locs hH => ?_)
          refine lv_aload_n hx hb d_M_complete_236 rfl (lv_at hl 0 rfl) ?_
          refine g_get E hH (gc_M rfl) cl_M 36 (by decide) lf_M_113 rfl d_M_complete_237 ?_
          refine lv_iload_n hx hb d_M_complete_240 rfl (lv_at hl 1 rfl) ?_
          refine g_iaload (k := (tn a1)) (v := ((if x4 = 0 then ((G 56 (tn a1)) + 1) else 0) : Int32)) E hH ⟨by decide, fun _ => rfl⟩ (by rcases he with rfl | rfl <;> (unfold vp_in; first | decide | (split <;> decide))) rfl (wr_same _ _ _ _) d_M_complete_241 ?_
          refine lv_iconst (v := 2) hx hb d_M_complete_242 (by decide) ?_
          refine lv_icmp_ne (tgt := 252) hx hb d_M_complete_243 (by decide) (fun h7 => ?_) (fun h7 => ?_)
          · exact hC252 ((wr (wr G 53 (tn a1) (((G 53 (tn a1)) + 1) - ((G 53 (tn a1)) + 1) / 16 * 16)) 56 (tn a1) ((if x4 = 0 then ((G 56 (tn a1)) + 1) else 0) : Int32)), _, x2, x3) _ _ ⟨hsp.trans (by simp only [sp_M_complete_152, if_neg h5, if_pos h6, if_neg h7]), lv_sub hl [0, 1, 2, 3] rfl, hH⟩
          · refine lv_aload_n hx hb d_M_complete_246 rfl (lv_at hl 0 rfl) ?_
            refine lv_iload_n hx hb d_M_complete_247 rfl (lv_at hl 1 rfl) ?_
            refine g_callVv (As := [.int _]) E hH hl (c_M_forget l P _ _ he) lm_M_173 (gc_M rfl) cl_M (Nat.le_of_ble_eq_true rfl) (Nat.le_of_ble_eq_true rfl) (Nat.le_of_ble_eq_true rfl) (Nat.le_of_ble_eq_true rfl) (Nat.le_of_ble_eq_true rfl) rfl rfl rfl rfl d_M_complete_248 (fun H locs hH => ?_)
            exact g_vret E hH (hsp.trans (by simp only [sp_M_complete_152, if_neg h5, if_pos h6, if_pos h7])) d_M_complete_251
        · refine lv_if_eq (tgt := 227) hx hb d_M_complete_220 (by decide) (fun h8 => ?_) (fun h8 => ?_)
          · refine lv_aload_n hx hb d_M_complete_227 rfl (lv_at hl 0 rfl) ?_
            refine g_get E hH (gc_M rfl) cl_M 36 (by decide) lf_M_113 rfl d_M_complete_228 ?_
            refine lv_iload_n hx hb d_M_complete_231 rfl (lv_at hl 1 rfl) ?_
            refine g_iaload (k := (tn a1)) (v := (G 56 (tn a1))) E hH ⟨by decide, fun _ => rfl⟩ (by rcases he with rfl | rfl <;> (unfold vp_in; first | decide | (split <;> decide))) rfl (wr_ck _ _ _ _ (by decide)) d_M_complete_232 ?_
            refine lv_iconst (v := 1) hx hb d_M_complete_233 (by decide) ?_
            refine lv_iadd hx hb d_M_complete_234 ?_
            exact hJ _ _ _ ⟨by simp only [if_pos h8], hH⟩
          · refine lv_iconst (v := 0) hx hb d_M_complete_223 (by decide) ?_
            refine lv_goto (tgt := 235) hx hb d_M_complete_224 (by decide) ?_
            exact hJ _ _ _ ⟨by simp only [if_neg h8], hH⟩
    · refine lv_aload_n hx hb d_M_complete_161 rfl (lv_at hl 0 rfl) ?_
      refine g_get E hH (gc_M rfl) cl_M 32 (by decide) lf_M_101 rfl d_M_complete_162 ?_
      refine lv_iload_n hx hb d_M_complete_165 rfl (lv_at hl 1 rfl) ?_
      refine lv_iload hx hb d_M_complete_166 (lv_at hl 4 rfl) ?_
      refine g_bastore (k := (tn a1)) E hH ⟨by decide, fun _ => rfl⟩ (by rcases he with rfl | rfl <;> (unfold vp_in; first | decide | (split <;> decide))) rfl d_M_complete_168 (fun H locs hH => ?_)
      refine lv_aload_n hx hb d_M_complete_169 rfl (lv_at hl 0 rfl) ?_
      refine g_get E hH (gc_M rfl) cl_M 33 (by decide) lf_M_104 rfl d_M_complete_170 ?_
      refine lv_iload_n hx hb d_M_complete_173 rfl (lv_at hl 1 rfl) ?_
      refine lv_bipush (v := 11) hx hb d_M_complete_174 (by decide) ?_
      refine g_iastore (k := (tn a1)) E hH ⟨by decide, fun _ => rfl⟩ (by rcases he with rfl | rfl <;> (unfold vp_in; first | decide | (split <;> decide))) rfl d_M_complete_176 (fun H locs hH => ?_)
      refine lv_aload_n hx hb d_M_complete_177 rfl (lv_at hl 0 rfl) ?_
      refine g_get E hH (gc_M rfl) cl_M 36 (by decide) lf_M_113 rfl d_M_complete_178 ?_
      refine lv_iload_n hx hb d_M_complete_181 rfl (lv_at hl 1 rfl) ?_
      refine lv_iconst (v := 0) hx hb d_M_complete_182 (by decide) ?_
      refine g_iastore (k := (tn a1)) E hH ⟨by decide, fun _ => rfl⟩ (by rcases he with rfl | rfl <;> (unfold vp_in; first | decide | (split <;> decide))) rfl d_M_complete_183 (fun H locs hH => ?_)
      exact g_vret E hH (hsp.trans (by simp only [sp_M_complete_152, if_pos h5])) d_M_complete_184
  refine jn (α := Mem × Array Slot × Int32 × Int32) (fun q H1 locs1 => sp_M_complete G0 a1 = sp_M_complete_114 a1 q.1 q.2.2.1 q.2.2.2 ∧ lv_has q.2.1 5 [(0, .ref (gad P 21)), (1, .int a1), (2, .int q.2.2.1), (3, .int q.2.2.2)] ∧ gH P s q.1 H1 locs1) (fun q => F0 m 114 q.2.1 []) (fun q H locs h9 => ?_) (fun hC114 => ?_)
  · clear hsp hl hH ls
    obtain ⟨G, ls, x2, x3⟩ := q
    obtain ⟨hsp, hl, hH⟩ := h9
    change lv_has ls 5 [(0, .ref (gad P 21)), (1, .int a1), (2, .int x2), (3, .int x3)] at hl
    dsimp only at hsp hH ⊢
    refine lv_aload_n hx hb d_M_complete_114 rfl (lv_at hl 0 rfl) ?_
    refine g_get E hH (gc_M rfl) cl_M 27 (by decide) lf_M_86 rfl d_M_complete_115 ?_
    refine lv_iload_n hx hb d_M_complete_118 rfl (lv_at hl 1 rfl) ?_
    refine g_baload (k := (tn a1)) (v := (G 47 (tn a1))) E hH ⟨by decide, fun _ => rfl⟩ (by rcases he with rfl | rfl <;> (unfold vp_in; first | decide | (split <;> decide))) rfl rfl d_M_complete_119 ?_
    refine jn (α := Int32) (fun z H1 locs1 => z = ((if (G 47 (tn a1)) = 0 then (if (G 55 (tn a1)) = 6 then (if (G 54 (tn a1)) = 11 then 1 else 0) else 0) else 0) : Int32) ∧ isB z ∧ gH P s G H1 locs1) (fun z => F0 m 150 ls (.int z :: [])) (fun z H locs h9 => ?_) (fun hJ => ?_)
    · obtain ⟨rfl, hz150, hH⟩ := h9
      refine lv_istore hx hb d_M_complete_150 hl (by decide) rfl (fun ls hl => ?_)
      exact hC152 (G, _, x2, x3, ((if (G 47 (tn a1)) = 0 then (if (G 55 (tn a1)) = 6 then (if (G 54 (tn a1)) = 11 then 1 else 0) else 0) else 0) : Int32)) _ _ ⟨hsp.trans (by rw [sp_M_complete_114]), lv_sub hl [1, 2, 3, 4, 0] rfl, hH⟩
    · refine lv_if_ne (tgt := 149) hx hb d_M_complete_120 (by decide) (fun h9 => ?_) (fun h9 => ?_)
      · refine lv_iconst (v := 0) hx hb d_M_complete_149 (by decide) ?_
        exact hJ _ _ _ ⟨by simp only [if_neg h9], isB_0, hH⟩
      · refine lv_aload_n hx hb d_M_complete_123 rfl (lv_at hl 0 rfl) ?_
        refine g_get E hH (gc_M rfl) cl_M 35 (by decide) lf_M_110 rfl d_M_complete_124 ?_
        refine lv_iload_n hx hb d_M_complete_127 rfl (lv_at hl 1 rfl) ?_
        refine g_iaload (k := (tn a1)) (v := (G 55 (tn a1))) E hH ⟨by decide, fun _ => rfl⟩ (by rcases he with rfl | rfl <;> (unfold vp_in; first | decide | (split <;> decide))) rfl rfl d_M_complete_128 ?_
        refine lv_bipush (v := 6) hx hb d_M_complete_129 (by decide) ?_
        refine lv_icmp_ne (tgt := 149) hx hb d_M_complete_131 (by decide) (fun h10 => ?_) (fun h10 => ?_)
        · refine lv_iconst (v := 0) hx hb d_M_complete_149 (by decide) ?_
          exact hJ _ _ _ ⟨by simp only [if_pos h9, if_neg h10], isB_0, hH⟩
        · refine lv_aload_n hx hb d_M_complete_134 rfl (lv_at hl 0 rfl) ?_
          refine g_get E hH (gc_M rfl) cl_M 34 (by decide) lf_M_107 rfl d_M_complete_135 ?_
          refine lv_iload_n hx hb d_M_complete_138 rfl (lv_at hl 1 rfl) ?_
          refine g_iaload (k := (tn a1)) (v := (G 54 (tn a1))) E hH ⟨by decide, fun _ => rfl⟩ (by rcases he with rfl | rfl <;> (unfold vp_in; first | decide | (split <;> decide))) rfl rfl d_M_complete_139 ?_
          refine lv_bipush (v := 11) hx hb d_M_complete_140 (by decide) ?_
          refine lv_icmp_ne (tgt := 149) hx hb d_M_complete_142 (by decide) (fun h11 => ?_) (fun h11 => ?_)
          · refine lv_iconst (v := 0) hx hb d_M_complete_149 (by decide) ?_
            exact hJ _ _ _ ⟨by simp only [if_pos h9, if_pos h10, if_neg h11], isB_0, hH⟩
          · refine lv_iconst (v := 1) hx hb d_M_complete_145 (by decide) ?_
            refine lv_goto (tgt := 150) hx hb d_M_complete_146 (by decide) ?_
            exact hJ _ _ _ ⟨by simp only [if_pos h9, if_pos h10, if_pos h11], isB_1, hH⟩
  refine jn (α := Mem × Array Slot × Int32 × Int32) (fun q H1 locs1 => sp_M_complete G0 a1 = sp_M_complete_35 a1 q.1 q.2.2.1 q.2.2.2 ∧ lv_has q.2.1 5 [(0, .ref (gad P 21)), (1, .int a1), (2, .int q.2.2.1), (3, .int q.2.2.2)] ∧ gH P s q.1 H1 locs1) (fun q => F0 m 35 q.2.1 []) (fun q H locs h9 => ?_) (fun hC35 => ?_)
  · clear hsp hl hH ls
    obtain ⟨G, ls, x2, x3⟩ := q
    obtain ⟨hsp, hl, hH⟩ := h9
    change lv_has ls 5 [(0, .ref (gad P 21)), (1, .int a1), (2, .int x2), (3, .int x3)] at hl
    dsimp only at hsp hH ⊢
    refine lv_aload_n hx hb d_M_complete_35 rfl (lv_at hl 0 rfl) ?_
    refine g_get E hH (gc_M rfl) cl_M 27 (by decide) lf_M_86 rfl d_M_complete_36 ?_
    refine lv_iload_n hx hb d_M_complete_39 rfl (lv_at hl 1 rfl) ?_
    refine g_baload (k := (tn a1)) (v := (G 47 (tn a1))) E hH ⟨by decide, fun _ => rfl⟩ (by rcases he with rfl | rfl <;> (unfold vp_in; first | decide | (split <;> decide))) rfl rfl d_M_complete_40 ?_
    refine lv_if_ne (tgt := 114) hx hb d_M_complete_41 (by decide) (fun h12 => ?_) (fun h12 => ?_)
    · exact hC114 (G, _, x2, x3) _ _ ⟨hsp.trans (by simp only [sp_M_complete_35, if_neg h12]), lv_sub hl [0, 1, 2, 3] rfl, hH⟩
    · refine lv_aload_n hx hb d_M_complete_44 rfl (lv_at hl 0 rfl) ?_
      refine g_get E hH (gc_M rfl) cl_M 31 (by decide) lf_M_98 rfl d_M_complete_45 ?_
      refine lv_iload_n hx hb d_M_complete_48 rfl (lv_at hl 1 rfl) ?_
      refine lv_iload_n hx hb d_M_complete_49 rfl (lv_at hl 2 rfl) ?_
      refine lv_bipush (v := 29) hx hb d_M_complete_50 (by decide) ?_
      refine lv_ishr hx hb d_M_complete_52 ?_
      refine lv_iconst (v := 1) hx hb d_M_complete_53 (by decide) ?_
      refine lv_iand hx hb d_M_complete_54 ?_
      refine lv_iconst (v := 1) hx hb d_M_complete_55 (by decide) ?_
      refine jn (α := Int32) (fun z H1 locs1 => z = ((if ((x2 >>> ((29 : Int32) &&& 31)) &&& (1 : Int32)) = 1 then 1 else 0) : Int32) ∧ isB z ∧ gH P s G H1 locs1) (fun z => F0 m 64 ls (.int z :: .int a1 :: .ref (gad P 51) :: [])) (fun z H locs h9 => ?_) (fun hJ => ?_)
      · obtain ⟨rfl, hz64, hH⟩ := h9
        refine g_bastore (k := (tn a1)) E hH ⟨by decide, fun _ => rfl⟩ (by rcases he with rfl | rfl <;> (unfold vp_in; first | decide | (split <;> decide))) rfl d_M_complete_64 (fun H locs hH => ?_)
        refine lv_aload_n hx hb d_M_complete_65 rfl (lv_at hl 0 rfl) ?_
        refine g_get E hH (gc_M rfl) cl_M 34 (by decide) lf_M_107 rfl d_M_complete_66 ?_
        refine lv_iload_n hx hb d_M_complete_69 rfl (lv_at hl 1 rfl) ?_
        refine lv_aload_n hx hb d_M_complete_70 rfl (lv_at hl 0 rfl) ?_
        refine g_get E hH (gc_M rfl) cl_M 34 (by decide) lf_M_107 rfl d_M_complete_71 ?_
        refine lv_iload_n hx hb d_M_complete_74 rfl (lv_at hl 1 rfl) ?_
        refine g_iaload (k := (tn a1)) (v := (G 54 (tn a1))) E hH ⟨by decide, fun _ => rfl⟩ (by rcases he with rfl | rfl <;> (unfold vp_in; first | decide | (split <;> decide))) rfl (wr_ck _ _ _ _ (by decide)) d_M_complete_75 ?_
        refine lv_iconst (v := 1) hx hb d_M_complete_76 (by decide) ?_
        refine lv_ishl hx hb d_M_complete_77 ?_
        refine lv_iload_n hx hb d_M_complete_78 rfl (lv_at hl 3 rfl) ?_
        refine lv_ior hx hb d_M_complete_79 ?_
        refine lv_bipush (v := 63) hx hb d_M_complete_80 (by decide) ?_
        refine lv_iand hx hb d_M_complete_82 ?_
        refine g_iastore (k := (tn a1)) E hH ⟨by decide, fun _ => rfl⟩ (by rcases he with rfl | rfl <;> (unfold vp_in; first | decide | (split <;> decide))) rfl d_M_complete_83 (fun H locs hH => ?_)
        refine lv_aload_n hx hb d_M_complete_84 rfl (lv_at hl 0 rfl) ?_
        refine g_get E hH (gc_M rfl) cl_M 35 (by decide) lf_M_110 rfl d_M_complete_85 ?_
        refine lv_iload_n hx hb d_M_complete_88 rfl (lv_at hl 1 rfl) ?_
        refine lv_aload_n hx hb d_M_complete_89 rfl (lv_at hl 0 rfl) ?_
        refine g_get E hH (gc_M rfl) cl_M 35 (by decide) lf_M_110 rfl d_M_complete_90 ?_
        refine lv_iload_n hx hb d_M_complete_93 rfl (lv_at hl 1 rfl) ?_
        refine g_iaload (k := (tn a1)) (v := (G 55 (tn a1))) E hH ⟨by decide, fun _ => rfl⟩ (by rcases he with rfl | rfl <;> (unfold vp_in; first | decide | (split <;> decide))) rfl ((wr_ck _ _ _ _ (by decide)).trans (wr_ck _ _ _ _ (by decide))) d_M_complete_94 ?_
        refine lv_bipush (v := 6) hx hb d_M_complete_95 (by decide) ?_
        refine jn (α := Int32) (fun z H1 locs1 => z = ((if 6 ≤ (G 55 (tn a1)) then 6 else ((G 55 (tn a1)) + 1)) : Int32) ∧ gH P s (wr (wr G 51 (tn a1) (zb ((if ((x2 >>> ((29 : Int32) &&& 31)) &&& (1 : Int32)) = 1 then 1 else 0) : Int32))) 54 (tn a1) ((((G 54 (tn a1)) <<< ((1 : Int32) &&& 31)) ||| x3) &&& (63 : Int32))) H1 locs1) (fun z => F0 m 113 ls (.int z :: .int a1 :: .ref (gad P 55) :: [])) (fun z H locs h9 => ?_) (fun hJ => ?_)
        · obtain ⟨rfl, hH⟩ := h9
          refine g_iastore (k := (tn a1)) E hH ⟨by decide, fun _ => rfl⟩ (by rcases he with rfl | rfl <;> (unfold vp_in; first | decide | (split <;> decide))) rfl d_M_complete_113 (fun H locs hH => ?_)
          exact hC114 ((wr (wr (wr G 51 (tn a1) (zb ((if ((x2 >>> ((29 : Int32) &&& 31)) &&& (1 : Int32)) = 1 then 1 else 0) : Int32))) 54 (tn a1) ((((G 54 (tn a1)) <<< ((1 : Int32) &&& 31)) ||| x3) &&& (63 : Int32))) 55 (tn a1) ((if 6 ≤ (G 55 (tn a1)) then 6 else ((G 55 (tn a1)) + 1)) : Int32)), _, x2, x3) _ _ ⟨hsp.trans (by simp only [sp_M_complete_35, if_pos h12]), lv_sub hl [0, 1, 2, 3] rfl, hH⟩
        · refine lv_icmp_ge (tgt := 111) hx hb d_M_complete_97 (by decide) (fun h13 => ?_) (fun h13 => ?_)
          · refine lv_bipush (v := 6) hx hb d_M_complete_111 (by decide) ?_
            exact hJ _ _ _ ⟨by simp only [if_pos h13], hH⟩
          · refine lv_aload_n hx hb d_M_complete_100 rfl (lv_at hl 0 rfl) ?_
            refine g_get E hH (gc_M rfl) cl_M 35 (by decide) lf_M_110 rfl d_M_complete_101 ?_
            refine lv_iload_n hx hb d_M_complete_104 rfl (lv_at hl 1 rfl) ?_
            refine g_iaload (k := (tn a1)) (v := (G 55 (tn a1))) E hH ⟨by decide, fun _ => rfl⟩ (by rcases he with rfl | rfl <;> (unfold vp_in; first | decide | (split <;> decide))) rfl ((wr_ck _ _ _ _ (by decide)).trans (wr_ck _ _ _ _ (by decide))) d_M_complete_105 ?_
            refine lv_iconst (v := 1) hx hb d_M_complete_106 (by decide) ?_
            refine lv_iadd hx hb d_M_complete_107 ?_
            refine lv_goto (tgt := 113) hx hb d_M_complete_108 (by decide) ?_
            exact hJ _ _ _ ⟨by simp only [if_neg h13], hH⟩
      · refine lv_icmp_ne (tgt := 63) hx hb d_M_complete_56 (by decide) (fun h14 => ?_) (fun h14 => ?_)
        · refine lv_iconst (v := 0) hx hb d_M_complete_63 (by decide) ?_
          exact hJ _ _ _ ⟨by simp only [if_neg h14], isB_0, hH⟩
        · refine lv_iconst (v := 1) hx hb d_M_complete_59 (by decide) ?_
          refine lv_goto (tgt := 64) hx hb d_M_complete_60 (by decide) ?_
          exact hJ _ _ _ ⟨by simp only [if_pos h14], isB_1, hH⟩
  refine lv_aload_n hx hb d_M_complete_0 rfl (lv_at hl 0 rfl) ?_
  refine g_get E hH (gc_M rfl) cl_M 25 (by decide) lf_M_80 rfl d_M_complete_1 ?_
  refine lv_iload_n hx hb d_M_complete_4 rfl (lv_at hl 1 rfl) ?_
  refine g_iaload (k := (tn a1)) (v := (G0 45 (tn a1))) E hH ⟨by decide, fun _ => rfl⟩ (by rcases he with rfl | rfl <;> (unfold vp_in; first | decide | (split <;> decide))) rfl rfl d_M_complete_5 ?_
  refine lv_istore_n hx hb d_M_complete_6 rfl hl (by decide) rfl (fun ls hl => ?_)
  refine lv_iload_n hx hb d_M_complete_7 rfl (lv_at hl 0 rfl) ?_
  refine lv_bipush (v := 31) hx hb d_M_complete_8 (by decide) ?_
  refine lv_ishr hx hb d_M_complete_10 ?_
  refine lv_iconst (v := 1) hx hb d_M_complete_11 (by decide) ?_
  refine lv_iand hx hb d_M_complete_12 ?_
  refine lv_istore_n hx hb d_M_complete_13 rfl hl (by decide) rfl (fun ls hl => ?_)
  refine lv_aload_n hx hb d_M_complete_14 rfl (lv_at hl 2 rfl) ?_
  refine g_get E hH (gc_M rfl) cl_M 30 (by decide) lf_M_95 rfl d_M_complete_15 ?_
  refine lv_iload_n hx hb d_M_complete_18 rfl (lv_at hl 3 rfl) ?_
  refine lv_iload_n hx hb d_M_complete_19 rfl (lv_at hl 1 rfl) ?_
  refine g_iastore (k := (tn a1)) E hH ⟨by decide, fun _ => rfl⟩ (by rcases he with rfl | rfl <;> (unfold vp_in; first | decide | (split <;> decide))) rfl d_M_complete_20 (fun H locs hH => ?_)
  refine lv_aload_n hx hb d_M_complete_21 rfl (lv_at hl 2 rfl) ?_
  refine g_get E hH (gc_M rfl) cl_M 29 (by decide) lf_M_92 rfl d_M_complete_22 ?_
  refine lv_iload_n hx hb d_M_complete_25 rfl (lv_at hl 3 rfl) ?_
  refine lv_iconst (v := 1) hx hb d_M_complete_26 (by decide) ?_
  refine g_bastore (k := (tn a1)) E hH ⟨by decide, fun _ => rfl⟩ (by rcases he with rfl | rfl <;> (unfold vp_in; first | decide | (split <;> decide))) rfl d_M_complete_27 (fun H locs hH => ?_)
  refine lv_aload_n hx hb d_M_complete_28 rfl (lv_at hl 2 rfl) ?_
  refine lv_iload_n hx hb d_M_complete_29 rfl (lv_at hl 3 rfl) ?_
  refine lv_iconst (v := 1) hx hb d_M_complete_30 (by decide) ?_
  refine lv_iconst (v := 0) hx hb d_M_complete_31 (by decide) ?_
  refine g_callVv (As := [.int _, .int _, .int _]) E hH hl (c_M_fault l P _ _ _ _ he (Or.inl rfl)) lm_M_165 (gc_M rfl) cl_M (Nat.le_of_ble_eq_true rfl) (Nat.le_of_ble_eq_true rfl) (Nat.le_of_ble_eq_true rfl) (Nat.le_of_ble_eq_true rfl) (Nat.le_of_ble_eq_true rfl) rfl rfl rfl rfl d_M_complete_32 (fun H locs hH => ?_)
  exact hC35 ((sp_M_fault (wr (wr G0 50 (tn a1) (G0 45 (tn a1))) 49 (tn a1) (zb 1)) a1 1 0), _, (G0 45 (tn a1)), (((G0 45 (tn a1)) >>> ((31 : Int32) &&& 31)) &&& (1 : Int32))) _ _ ⟨hsp.trans (by rw [sp_M_complete]), lv_sub hl [2, 3, 1, 0] rfl, hH⟩

def sp_M_frameBit  (G0 : Mem) (a1 : Int32) : Mem :=
  (if ((G0 46 (tn a1)) + 1) = 8 then (if (G0 47 (tn a1)) = 0 then (if ((G0 46 (tn a1)) + 1) = 32 then (wr (wr (sp_M_complete (wr G0 46 (tn a1) ((G0 46 (tn a1)) + 1)) a1) 46 (tn a1) 0) 47 (tn a1) (zb ((if ((sp_M_complete (wr G0 46 (tn a1) ((G0 46 (tn a1)) + 1)) a1) 47 (tn a1)) = 0 then 1 else 0) : Int32))) else (wr G0 46 (tn a1) ((G0 46 (tn a1)) + 1))) else (if ((if ((sp_M_isWord (wr G0 46 (tn a1) ((G0 46 (tn a1)) + 1)) a1)) = 0 then ((G0 48 (tn a1)) + 1) else 0) : Int32) = 3 then (sp_M_search (sp_M_fault (wr (wr G0 46 (tn a1) ((G0 46 (tn a1)) + 1)) 48 (tn a1) ((if ((sp_M_isWord (wr G0 46 (tn a1) ((G0 46 (tn a1)) + 1)) a1)) = 0 then ((G0 48 (tn a1)) + 1) else 0) : Int32)) a1 1 2) a1) else (if ((G0 46 (tn a1)) + 1) = 32 then (wr (wr (sp_M_complete (wr (wr G0 46 (tn a1) ((G0 46 (tn a1)) + 1)) 48 (tn a1) ((if ((sp_M_isWord (wr G0 46 (tn a1) ((G0 46 (tn a1)) + 1)) a1)) = 0 then ((G0 48 (tn a1)) + 1) else 0) : Int32)) a1) 46 (tn a1) 0) 47 (tn a1) (zb ((if ((sp_M_complete (wr (wr G0 46 (tn a1) ((G0 46 (tn a1)) + 1)) 48 (tn a1) ((if ((sp_M_isWord (wr G0 46 (tn a1) ((G0 46 (tn a1)) + 1)) a1)) = 0 then ((G0 48 (tn a1)) + 1) else 0) : Int32)) a1) 47 (tn a1)) = 0 then 1 else 0) : Int32))) else (wr (wr G0 46 (tn a1) ((G0 46 (tn a1)) + 1)) 48 (tn a1) ((if ((sp_M_isWord (wr G0 46 (tn a1) ((G0 46 (tn a1)) + 1)) a1)) = 0 then ((G0 48 (tn a1)) + 1) else 0) : Int32))))) else (if ((G0 46 (tn a1)) + 1) = 32 then (wr (wr (sp_M_complete (wr G0 46 (tn a1) ((G0 46 (tn a1)) + 1)) a1) 46 (tn a1) 0) 47 (tn a1) (zb ((if ((sp_M_complete (wr G0 46 (tn a1) ((G0 46 (tn a1)) + 1)) a1) 47 (tn a1)) = 0 then 1 else 0) : Int32))) else (wr G0 46 (tn a1) ((G0 46 (tn a1)) + 1))))
set_option maxHeartbeats 4000000 in
set_option maxRecDepth 100000 in
theorem c_M_frameBit (l : Launch) (P : gP) (G0 : Mem)  (a1 : Int32) (he : a1 = 0 ∨ a1 = 1) : gMv l y_M_frameBit b_M_frameBit 2 none ({ frames := 3, cells := 0, slots := 0, locals := 71 }) [.ref (gad P 21), .int a1] P G0 (sp_M_frameBit G0 a1) := by
  refine Met.ofW (cc := b_M_frameBit) (maxL := 2) (ret := none) (by decide) rfl ?_
  intro p e s m args below meth c0 s₁ B hml hv
  obtain ⟨rfl, hpre⟩ := hv
  obtain ⟨E, hH⟩ := gE_of B hml hpre
  replace E : gE p s m _ meth c0 P "FramedLineModel" b_M_frameBit 2 none := E
  have hx := E.1
  have hb := E.2.1
  have hl := lv_entry ([.ref (gad P 21), .int a1]) (n := 2) (Nat.le_of_ble_eq_true rfl)
  rw [lg_entry_eq]
  generalize (lg_sl ([.ref (gad P 21), .int a1]) ++ List.replicate (2 - (lg_sl ([.ref (gad P 21), .int a1])).length) Slot.unset).toArray = ls at hl ⊢
  replace hl : lv_has ls 2 [(0, .ref (gad P 21)), (1, .int a1)] := hl
  have hsp : sp_M_frameBit G0 a1 = sp_M_frameBit G0 a1 := rfl
  refine lv_aload_n hx hb d_M_frameBit_0 rfl (lv_at hl 0 rfl) ?_
  refine g_get E hH (gc_M rfl) cl_M 26 (by decide) lf_M_83 rfl d_M_frameBit_1 ?_
  refine lv_iload_n hx hb d_M_frameBit_4 rfl (lv_at hl 1 rfl) ?_
  refine lv_aload_n hx hb d_M_frameBit_5 rfl (lv_at hl 0 rfl) ?_
  refine g_get E hH (gc_M rfl) cl_M 26 (by decide) lf_M_83 rfl d_M_frameBit_6 ?_
  refine lv_iload_n hx hb d_M_frameBit_9 rfl (lv_at hl 1 rfl) ?_
  refine g_iaload (k := (tn a1)) (v := (G0 46 (tn a1))) E hH ⟨by decide, fun _ => rfl⟩ (by rcases he with rfl | rfl <;> (unfold vp_in; first | decide | (split <;> decide))) rfl rfl d_M_frameBit_10 ?_
  refine lv_iconst (v := 1) hx hb d_M_frameBit_11 (by decide) ?_
  refine lv_iadd hx hb d_M_frameBit_12 ?_
  refine g_iastore (k := (tn a1)) E hH ⟨by decide, fun _ => rfl⟩ (by rcases he with rfl | rfl <;> (unfold vp_in; first | decide | (split <;> decide))) rfl d_M_frameBit_13 (fun H locs hH => ?_)
  refine lv_aload_n hx hb d_M_frameBit_14 rfl (lv_at hl 0 rfl) ?_
  refine g_get E hH (gc_M rfl) cl_M 26 (by decide) lf_M_83 rfl d_M_frameBit_15 ?_
  refine lv_iload_n hx hb d_M_frameBit_18 rfl (lv_at hl 1 rfl) ?_
  refine g_iaload (k := (tn a1)) (v := ((G0 46 (tn a1)) + 1)) E hH ⟨by decide, fun _ => rfl⟩ (by rcases he with rfl | rfl <;> (unfold vp_in; first | decide | (split <;> decide))) rfl (wr_same _ _ _ _) d_M_frameBit_19 ?_
  refine lv_bipush (v := 8) hx hb d_M_frameBit_20 (by decide) ?_
  refine lv_icmp_ne (tgt := 83) hx hb d_M_frameBit_22 (by decide) (fun h1 => ?_) (fun h1 => ?_)
  · refine lv_aload_n hx hb d_M_frameBit_83 rfl (lv_at hl 0 rfl) ?_
    refine g_get E hH (gc_M rfl) cl_M 26 (by decide) lf_M_83 rfl d_M_frameBit_84 ?_
    refine lv_iload_n hx hb d_M_frameBit_87 rfl (lv_at hl 1 rfl) ?_
    refine g_iaload (k := (tn a1)) (v := ((G0 46 (tn a1)) + 1)) E hH ⟨by decide, fun _ => rfl⟩ (by rcases he with rfl | rfl <;> (unfold vp_in; first | decide | (split <;> decide))) rfl (wr_same _ _ _ _) d_M_frameBit_88 ?_
    refine lv_bipush (v := 32) hx hb d_M_frameBit_89 (by decide) ?_
    refine lv_icmp_ne (tgt := 126) hx hb d_M_frameBit_91 (by decide) (fun h2 => ?_) (fun h2 => ?_)
    · exact g_vret E hH (hsp.trans (by simp only [sp_M_frameBit, if_neg h1, if_neg h2])) d_M_frameBit_126
    · refine lv_aload_n hx hb d_M_frameBit_94 rfl (lv_at hl 0 rfl) ?_
      refine lv_iload_n hx hb d_M_frameBit_95 rfl (lv_at hl 1 rfl) ?_
      refine g_callVv (As := [.int _]) E hH hl (c_M_complete l P _ _ he) lm_M_186 (gc_M rfl) cl_M (Nat.le_of_ble_eq_true rfl) (Nat.le_of_ble_eq_true rfl) (Nat.le_of_ble_eq_true rfl) (Nat.le_of_ble_eq_true rfl) (Nat.le_of_ble_eq_true rfl) rfl rfl rfl rfl d_M_frameBit_96 (fun H locs hH => ?_)
      refine lv_aload_n hx hb d_M_frameBit_99 rfl (lv_at hl 0 rfl) ?_
      refine g_get E hH (gc_M rfl) cl_M 26 (by decide) lf_M_83 rfl d_M_frameBit_100 ?_
      refine lv_iload_n hx hb d_M_frameBit_103 rfl (lv_at hl 1 rfl) ?_
      refine lv_iconst (v := 0) hx hb d_M_frameBit_104 (by decide) ?_
      refine g_iastore (k := (tn a1)) E hH ⟨by decide, fun _ => rfl⟩ (by rcases he with rfl | rfl <;> (unfold vp_in; first | decide | (split <;> decide))) rfl d_M_frameBit_105 (fun H locs hH => ?_)
      refine lv_aload_n hx hb d_M_frameBit_106 rfl (lv_at hl 0 rfl) ?_
      refine g_get E hH (gc_M rfl) cl_M 27 (by decide) lf_M_86 rfl d_M_frameBit_107 ?_
      refine lv_iload_n hx hb d_M_frameBit_110 rfl (lv_at hl 1 rfl) ?_
      refine lv_aload_n hx hb d_M_frameBit_111 rfl (lv_at hl 0 rfl) ?_
      refine g_get E hH (gc_M rfl) cl_M 27 (by decide) lf_M_86 rfl d_M_frameBit_112 ?_
      refine lv_iload_n hx hb d_M_frameBit_115 rfl (lv_at hl 1 rfl) ?_
      refine g_baload (k := (tn a1)) (v := ((sp_M_complete (wr G0 46 (tn a1) ((G0 46 (tn a1)) + 1)) a1) 47 (tn a1))) E hH ⟨by decide, fun _ => rfl⟩ (by rcases he with rfl | rfl <;> (unfold vp_in; first | decide | (split <;> decide))) rfl (wr_ck _ _ _ _ (by decide)) d_M_frameBit_116 ?_
      refine jn (α := Int32) (fun z H1 locs1 => z = ((if ((sp_M_complete (wr G0 46 (tn a1) ((G0 46 (tn a1)) + 1)) a1) 47 (tn a1)) = 0 then 1 else 0) : Int32) ∧ isB z ∧ gH P s (wr (sp_M_complete (wr G0 46 (tn a1) ((G0 46 (tn a1)) + 1)) a1) 46 (tn a1) 0) H1 locs1) (fun z => F0 m 125 ls (.int z :: .int a1 :: .ref (gad P 47) :: [])) (fun z H locs h9 => ?_) (fun hJ => ?_)
      · obtain ⟨rfl, hz125, hH⟩ := h9
        refine g_bastore (k := (tn a1)) E hH ⟨by decide, fun _ => rfl⟩ (by rcases he with rfl | rfl <;> (unfold vp_in; first | decide | (split <;> decide))) rfl d_M_frameBit_125 (fun H locs hH => ?_)
        exact g_vret E hH (hsp.trans (by simp only [sp_M_frameBit, if_neg h1, if_pos h2])) d_M_frameBit_126
      · refine lv_if_ne (tgt := 124) hx hb d_M_frameBit_117 (by decide) (fun h3 => ?_) (fun h3 => ?_)
        · refine lv_iconst (v := 0) hx hb d_M_frameBit_124 (by decide) ?_
          exact hJ _ _ _ ⟨by simp only [if_neg h3], isB_0, hH⟩
        · refine lv_iconst (v := 1) hx hb d_M_frameBit_120 (by decide) ?_
          refine lv_goto (tgt := 125) hx hb d_M_frameBit_121 (by decide) ?_
          exact hJ _ _ _ ⟨by simp only [if_pos h3], isB_1, hH⟩
  · refine lv_aload_n hx hb d_M_frameBit_25 rfl (lv_at hl 0 rfl) ?_
    refine g_get E hH (gc_M rfl) cl_M 27 (by decide) lf_M_86 rfl d_M_frameBit_26 ?_
    refine lv_iload_n hx hb d_M_frameBit_29 rfl (lv_at hl 1 rfl) ?_
    refine g_baload (k := (tn a1)) (v := (G0 47 (tn a1))) E hH ⟨by decide, fun _ => rfl⟩ (by rcases he with rfl | rfl <;> (unfold vp_in; first | decide | (split <;> decide))) rfl (wr_ck _ _ _ _ (by decide)) d_M_frameBit_30 ?_
    refine lv_if_eq (tgt := 83) hx hb d_M_frameBit_31 (by decide) (fun h4 => ?_) (fun h4 => ?_)
    · refine lv_aload_n hx hb d_M_frameBit_83 rfl (lv_at hl 0 rfl) ?_
      refine g_get E hH (gc_M rfl) cl_M 26 (by decide) lf_M_83 rfl d_M_frameBit_84 ?_
      refine lv_iload_n hx hb d_M_frameBit_87 rfl (lv_at hl 1 rfl) ?_
      refine g_iaload (k := (tn a1)) (v := ((G0 46 (tn a1)) + 1)) E hH ⟨by decide, fun _ => rfl⟩ (by rcases he with rfl | rfl <;> (unfold vp_in; first | decide | (split <;> decide))) rfl (wr_same _ _ _ _) d_M_frameBit_88 ?_
      refine lv_bipush (v := 32) hx hb d_M_frameBit_89 (by decide) ?_
      refine lv_icmp_ne (tgt := 126) hx hb d_M_frameBit_91 (by decide) (fun h5 => ?_) (fun h5 => ?_)
      · exact g_vret E hH (hsp.trans (by simp only [sp_M_frameBit, if_pos h1, if_pos h4, if_neg h5])) d_M_frameBit_126
      · refine lv_aload_n hx hb d_M_frameBit_94 rfl (lv_at hl 0 rfl) ?_
        refine lv_iload_n hx hb d_M_frameBit_95 rfl (lv_at hl 1 rfl) ?_
        refine g_callVv (As := [.int _]) E hH hl (c_M_complete l P _ _ he) lm_M_186 (gc_M rfl) cl_M (Nat.le_of_ble_eq_true rfl) (Nat.le_of_ble_eq_true rfl) (Nat.le_of_ble_eq_true rfl) (Nat.le_of_ble_eq_true rfl) (Nat.le_of_ble_eq_true rfl) rfl rfl rfl rfl d_M_frameBit_96 (fun H locs hH => ?_)
        refine lv_aload_n hx hb d_M_frameBit_99 rfl (lv_at hl 0 rfl) ?_
        refine g_get E hH (gc_M rfl) cl_M 26 (by decide) lf_M_83 rfl d_M_frameBit_100 ?_
        refine lv_iload_n hx hb d_M_frameBit_103 rfl (lv_at hl 1 rfl) ?_
        refine lv_iconst (v := 0) hx hb d_M_frameBit_104 (by decide) ?_
        refine g_iastore (k := (tn a1)) E hH ⟨by decide, fun _ => rfl⟩ (by rcases he with rfl | rfl <;> (unfold vp_in; first | decide | (split <;> decide))) rfl d_M_frameBit_105 (fun H locs hH => ?_)
        refine lv_aload_n hx hb d_M_frameBit_106 rfl (lv_at hl 0 rfl) ?_
        refine g_get E hH (gc_M rfl) cl_M 27 (by decide) lf_M_86 rfl d_M_frameBit_107 ?_
        refine lv_iload_n hx hb d_M_frameBit_110 rfl (lv_at hl 1 rfl) ?_
        refine lv_aload_n hx hb d_M_frameBit_111 rfl (lv_at hl 0 rfl) ?_
        refine g_get E hH (gc_M rfl) cl_M 27 (by decide) lf_M_86 rfl d_M_frameBit_112 ?_
        refine lv_iload_n hx hb d_M_frameBit_115 rfl (lv_at hl 1 rfl) ?_
        refine g_baload (k := (tn a1)) (v := ((sp_M_complete (wr G0 46 (tn a1) ((G0 46 (tn a1)) + 1)) a1) 47 (tn a1))) E hH ⟨by decide, fun _ => rfl⟩ (by rcases he with rfl | rfl <;> (unfold vp_in; first | decide | (split <;> decide))) rfl (wr_ck _ _ _ _ (by decide)) d_M_frameBit_116 ?_
        refine jn (α := Int32) (fun z H1 locs1 => z = ((if ((sp_M_complete (wr G0 46 (tn a1) ((G0 46 (tn a1)) + 1)) a1) 47 (tn a1)) = 0 then 1 else 0) : Int32) ∧ isB z ∧ gH P s (wr (sp_M_complete (wr G0 46 (tn a1) ((G0 46 (tn a1)) + 1)) a1) 46 (tn a1) 0) H1 locs1) (fun z => F0 m 125 ls (.int z :: .int a1 :: .ref (gad P 47) :: [])) (fun z H locs h9 => ?_) (fun hJ => ?_)
        · obtain ⟨rfl, hz125, hH⟩ := h9
          refine g_bastore (k := (tn a1)) E hH ⟨by decide, fun _ => rfl⟩ (by rcases he with rfl | rfl <;> (unfold vp_in; first | decide | (split <;> decide))) rfl d_M_frameBit_125 (fun H locs hH => ?_)
          exact g_vret E hH (hsp.trans (by simp only [sp_M_frameBit, if_pos h1, if_pos h4, if_pos h5])) d_M_frameBit_126
        · refine lv_if_ne (tgt := 124) hx hb d_M_frameBit_117 (by decide) (fun h6 => ?_) (fun h6 => ?_)
          · refine lv_iconst (v := 0) hx hb d_M_frameBit_124 (by decide) ?_
            exact hJ _ _ _ ⟨by simp only [if_neg h6], isB_0, hH⟩
          · refine lv_iconst (v := 1) hx hb d_M_frameBit_120 (by decide) ?_
            refine lv_goto (tgt := 125) hx hb d_M_frameBit_121 (by decide) ?_
            exact hJ _ _ _ ⟨by simp only [if_pos h6], isB_1, hH⟩
    · refine lv_aload_n hx hb d_M_frameBit_34 rfl (lv_at hl 0 rfl) ?_
      refine g_get E hH (gc_M rfl) cl_M 28 (by decide) lf_M_89 rfl d_M_frameBit_35 ?_
      refine lv_iload_n hx hb d_M_frameBit_38 rfl (lv_at hl 1 rfl) ?_
      refine lv_aload_n hx hb d_M_frameBit_39 rfl (lv_at hl 0 rfl) ?_
      refine lv_iload_n hx hb d_M_frameBit_40 rfl (lv_at hl 1 rfl) ?_
      refine g_callVrz (As := [.int _]) E hH hl (c_M_isWord l P _ _ he) lm_M_179 (gc_M rfl) cl_M (Nat.le_of_ble_eq_true rfl) (Nat.le_of_ble_eq_true rfl) (Nat.le_of_ble_eq_true rfl) (Nat.le_of_ble_eq_true rfl) (Nat.le_of_ble_eq_true rfl) rfl rfl rfl rfl d_M_frameBit_41 (fun H locs hH hz41 => ?_)
      refine jn (α := Int32) (fun z H1 locs1 => z = ((if ((sp_M_isWord (wr G0 46 (tn a1) ((G0 46 (tn a1)) + 1)) a1)) = 0 then ((G0 48 (tn a1)) + 1) else 0) : Int32) ∧ gH P s (wr G0 46 (tn a1) ((G0 46 (tn a1)) + 1)) H1 locs1) (fun z => F0 m 59 ls (.int z :: .int a1 :: .ref (gad P 48) :: [])) (fun z H locs h9 => ?_) (fun hJ => ?_)
      · obtain ⟨rfl, hH⟩ := h9
        refine g_iastore (k := (tn a1)) E hH ⟨by decide, fun _ => rfl⟩ (by rcases he with rfl | rfl <;> (unfold vp_in; first | decide | (split <;> decide))) rfl d_M_frameBit_59 (fun H locs hH => ?_)
        refine lv_aload_n hx hb d_M_frameBit_60 rfl (lv_at hl 0 rfl) ?_
        refine g_get E hH (gc_M rfl) cl_M 28 (by decide) lf_M_89 rfl d_M_frameBit_61 ?_
        refine lv_iload_n hx hb d_M_frameBit_64 rfl (lv_at hl 1 rfl) ?_
        refine g_iaload (k := (tn a1)) (v := ((if ((sp_M_isWord (wr G0 46 (tn a1) ((G0 46 (tn a1)) + 1)) a1)) = 0 then ((G0 48 (tn a1)) + 1) else 0) : Int32)) E hH ⟨by decide, fun _ => rfl⟩ (by rcases he with rfl | rfl <;> (unfold vp_in; first | decide | (split <;> decide))) rfl (wr_same _ _ _ _) d_M_frameBit_65 ?_
        refine lv_iconst (v := 3) hx hb d_M_frameBit_66 (by decide) ?_
        refine lv_icmp_ne (tgt := 83) hx hb d_M_frameBit_67 (by decide) (fun h7 => ?_) (fun h7 => ?_)
        · refine lv_aload_n hx hb d_M_frameBit_83 rfl (lv_at hl 0 rfl) ?_
          refine g_get E hH (gc_M rfl) cl_M 26 (by decide) lf_M_83 rfl d_M_frameBit_84 ?_
          refine lv_iload_n hx hb d_M_frameBit_87 rfl (lv_at hl 1 rfl) ?_
          refine g_iaload (k := (tn a1)) (v := ((G0 46 (tn a1)) + 1)) E hH ⟨by decide, fun _ => rfl⟩ (by rcases he with rfl | rfl <;> (unfold vp_in; first | decide | (split <;> decide))) rfl ((wr_ck _ _ _ _ (by decide)).trans (wr_same _ _ _ _)) d_M_frameBit_88 ?_
          refine lv_bipush (v := 32) hx hb d_M_frameBit_89 (by decide) ?_
          refine lv_icmp_ne (tgt := 126) hx hb d_M_frameBit_91 (by decide) (fun h8 => ?_) (fun h8 => ?_)
          · exact g_vret E hH (hsp.trans (by simp only [sp_M_frameBit, if_pos h1, if_neg h4, if_neg h7, if_neg h8])) d_M_frameBit_126
          · refine lv_aload_n hx hb d_M_frameBit_94 rfl (lv_at hl 0 rfl) ?_
            refine lv_iload_n hx hb d_M_frameBit_95 rfl (lv_at hl 1 rfl) ?_
            refine g_callVv (As := [.int _]) E hH hl (c_M_complete l P _ _ he) lm_M_186 (gc_M rfl) cl_M (Nat.le_of_ble_eq_true rfl) (Nat.le_of_ble_eq_true rfl) (Nat.le_of_ble_eq_true rfl) (Nat.le_of_ble_eq_true rfl) (Nat.le_of_ble_eq_true rfl) rfl rfl rfl rfl d_M_frameBit_96 (fun H locs hH => ?_)
            refine lv_aload_n hx hb d_M_frameBit_99 rfl (lv_at hl 0 rfl) ?_
            refine g_get E hH (gc_M rfl) cl_M 26 (by decide) lf_M_83 rfl d_M_frameBit_100 ?_
            refine lv_iload_n hx hb d_M_frameBit_103 rfl (lv_at hl 1 rfl) ?_
            refine lv_iconst (v := 0) hx hb d_M_frameBit_104 (by decide) ?_
            refine g_iastore (k := (tn a1)) E hH ⟨by decide, fun _ => rfl⟩ (by rcases he with rfl | rfl <;> (unfold vp_in; first | decide | (split <;> decide))) rfl d_M_frameBit_105 (fun H locs hH => ?_)
            refine lv_aload_n hx hb d_M_frameBit_106 rfl (lv_at hl 0 rfl) ?_
            refine g_get E hH (gc_M rfl) cl_M 27 (by decide) lf_M_86 rfl d_M_frameBit_107 ?_
            refine lv_iload_n hx hb d_M_frameBit_110 rfl (lv_at hl 1 rfl) ?_
            refine lv_aload_n hx hb d_M_frameBit_111 rfl (lv_at hl 0 rfl) ?_
            refine g_get E hH (gc_M rfl) cl_M 27 (by decide) lf_M_86 rfl d_M_frameBit_112 ?_
            refine lv_iload_n hx hb d_M_frameBit_115 rfl (lv_at hl 1 rfl) ?_
            refine g_baload (k := (tn a1)) (v := ((sp_M_complete (wr (wr G0 46 (tn a1) ((G0 46 (tn a1)) + 1)) 48 (tn a1) ((if ((sp_M_isWord (wr G0 46 (tn a1) ((G0 46 (tn a1)) + 1)) a1)) = 0 then ((G0 48 (tn a1)) + 1) else 0) : Int32)) a1) 47 (tn a1))) E hH ⟨by decide, fun _ => rfl⟩ (by rcases he with rfl | rfl <;> (unfold vp_in; first | decide | (split <;> decide))) rfl (wr_ck _ _ _ _ (by decide)) d_M_frameBit_116 ?_
            refine jn (α := Int32) (fun z H1 locs1 => z = ((if ((sp_M_complete (wr (wr G0 46 (tn a1) ((G0 46 (tn a1)) + 1)) 48 (tn a1) ((if ((sp_M_isWord (wr G0 46 (tn a1) ((G0 46 (tn a1)) + 1)) a1)) = 0 then ((G0 48 (tn a1)) + 1) else 0) : Int32)) a1) 47 (tn a1)) = 0 then 1 else 0) : Int32) ∧ isB z ∧ gH P s (wr (sp_M_complete (wr (wr G0 46 (tn a1) ((G0 46 (tn a1)) + 1)) 48 (tn a1) ((if ((sp_M_isWord (wr G0 46 (tn a1) ((G0 46 (tn a1)) + 1)) a1)) = 0 then ((G0 48 (tn a1)) + 1) else 0) : Int32)) a1) 46 (tn a1) 0) H1 locs1) (fun z => F0 m 125 ls (.int z :: .int a1 :: .ref (gad P 47) :: [])) (fun z H locs h9 => ?_) (fun hJ => ?_)
            · obtain ⟨rfl, hz125, hH⟩ := h9
              refine g_bastore (k := (tn a1)) E hH ⟨by decide, fun _ => rfl⟩ (by rcases he with rfl | rfl <;> (unfold vp_in; first | decide | (split <;> decide))) rfl d_M_frameBit_125 (fun H locs hH => ?_)
              exact g_vret E hH (hsp.trans (by simp only [sp_M_frameBit, if_pos h1, if_neg h4, if_neg h7, if_pos h8])) d_M_frameBit_126
            · refine lv_if_ne (tgt := 124) hx hb d_M_frameBit_117 (by decide) (fun h9 => ?_) (fun h9 => ?_)
              · refine lv_iconst (v := 0) hx hb d_M_frameBit_124 (by decide) ?_
                exact hJ _ _ _ ⟨by simp only [if_neg h9], isB_0, hH⟩
              · refine lv_iconst (v := 1) hx hb d_M_frameBit_120 (by decide) ?_
                refine lv_goto (tgt := 125) hx hb d_M_frameBit_121 (by decide) ?_
                exact hJ _ _ _ ⟨by simp only [if_pos h9], isB_1, hH⟩
        · refine lv_aload_n hx hb d_M_frameBit_70 rfl (lv_at hl 0 rfl) ?_
          refine lv_iload_n hx hb d_M_frameBit_71 rfl (lv_at hl 1 rfl) ?_
          refine lv_iconst (v := 1) hx hb d_M_frameBit_72 (by decide) ?_
          refine lv_iconst (v := 2) hx hb d_M_frameBit_73 (by decide) ?_
          refine g_callVv (As := [.int _, .int _, .int _]) E hH hl (c_M_fault l P _ _ _ _ he (Or.inr (Or.inr (Or.inl rfl)))) lm_M_165 (gc_M rfl) cl_M (Nat.le_of_ble_eq_true rfl) (Nat.le_of_ble_eq_true rfl) (Nat.le_of_ble_eq_true rfl) (Nat.le_of_ble_eq_true rfl) (Nat.le_of_ble_eq_true rfl) rfl rfl rfl rfl d_M_frameBit_74 (fun H locs hH => ?_)
          refine lv_aload_n hx hb d_M_frameBit_77 rfl (lv_at hl 0 rfl) ?_
          refine lv_iload_n hx hb d_M_frameBit_78 rfl (lv_at hl 1 rfl) ?_
          refine g_callVv (As := [.int _]) E hH hl (c_M_search l P _ _ he) lm_M_183 (gc_M rfl) cl_M (Nat.le_of_ble_eq_true rfl) (Nat.le_of_ble_eq_true rfl) (Nat.le_of_ble_eq_true rfl) (Nat.le_of_ble_eq_true rfl) (Nat.le_of_ble_eq_true rfl) rfl rfl rfl rfl d_M_frameBit_79 (fun H locs hH => ?_)
          exact g_vret E hH (hsp.trans (by simp only [sp_M_frameBit, if_pos h1, if_neg h4, if_pos h7])) d_M_frameBit_82
      · refine lv_if_eq (tgt := 51) hx hb d_M_frameBit_44 (by decide) (fun h10 => ?_) (fun h10 => ?_)
        · refine lv_aload_n hx hb d_M_frameBit_51 rfl (lv_at hl 0 rfl) ?_
          refine g_get E hH (gc_M rfl) cl_M 28 (by decide) lf_M_89 rfl d_M_frameBit_52 ?_
          refine lv_iload_n hx hb d_M_frameBit_55 rfl (lv_at hl 1 rfl) ?_
          refine g_iaload (k := (tn a1)) (v := (G0 48 (tn a1))) E hH ⟨by decide, fun _ => rfl⟩ (by rcases he with rfl | rfl <;> (unfold vp_in; first | decide | (split <;> decide))) rfl (wr_ck _ _ _ _ (by decide)) d_M_frameBit_56 ?_
          refine lv_iconst (v := 1) hx hb d_M_frameBit_57 (by decide) ?_
          refine lv_iadd hx hb d_M_frameBit_58 ?_
          exact hJ _ _ _ ⟨by simp only [if_pos h10], hH⟩
        · refine lv_iconst (v := 0) hx hb d_M_frameBit_47 (by decide) ?_
          refine lv_goto (tgt := 59) hx hb d_M_frameBit_48 (by decide) ?_
          exact hJ _ _ _ ⟨by simp only [if_neg h10], hH⟩

def sp_M_make  (G0 : Mem) (a1 : Int32) (a2 : Int32) : Mem :=
  (if (G0 43 (tn a1)) = 2 then (sp_M_frameBit (wr (wr G0 45 (tn a1) (((G0 45 (tn a1)) <<< ((1 : Int32) &&& 31)) ||| a2)) 44 (tn a1) ((if 100 ≤ (G0 44 (tn a1)) then (G0 44 (tn a1)) else ((G0 44 (tn a1)) + 1)) : Int32)) a1) else (if (G0 43 (tn a1)) = 0 then (if ((if 100 ≤ (G0 44 (tn a1)) then (G0 44 (tn a1)) else ((G0 44 (tn a1)) + 1)) : Int32) < 7 then (wr (wr G0 45 (tn a1) (((G0 45 (tn a1)) <<< ((1 : Int32) &&& 31)) ||| a2)) 44 (tn a1) ((if 100 ≤ (G0 44 (tn a1)) then (G0 44 (tn a1)) else ((G0 44 (tn a1)) + 1)) : Int32)) else (if ((sp_M_isWord (wr (wr G0 45 (tn a1) (((G0 45 (tn a1)) <<< ((1 : Int32) &&& 31)) ||| a2)) 44 (tn a1) ((if 100 ≤ (G0 44 (tn a1)) then (G0 44 (tn a1)) else ((G0 44 (tn a1)) + 1)) : Int32)) a1)) = 0 then (wr (wr G0 45 (tn a1) (((G0 45 (tn a1)) <<< ((1 : Int32) &&& 31)) ||| a2)) 44 (tn a1) ((if 100 ≤ (G0 44 (tn a1)) then (G0 44 (tn a1)) else ((G0 44 (tn a1)) + 1)) : Int32)) else (wr (wr (wr (wr G0 45 (tn a1) (((G0 45 (tn a1)) <<< ((1 : Int32) &&& 31)) ||| a2)) 44 (tn a1) ((if 100 ≤ (G0 44 (tn a1)) then (G0 44 (tn a1)) else ((G0 44 (tn a1)) + 1)) : Int32)) 43 (tn a1) 1) 44 (tn a1) 0))) else (if ((if 100 ≤ (G0 44 (tn a1)) then (G0 44 (tn a1)) else ((G0 44 (tn a1)) + 1)) : Int32) = 26 then (if a2 = 0 then (sp_M_search (wr (wr G0 45 (tn a1) (((G0 45 (tn a1)) <<< ((1 : Int32) &&& 31)) ||| a2)) 44 (tn a1) ((if 100 ≤ (G0 44 (tn a1)) then (G0 44 (tn a1)) else ((G0 44 (tn a1)) + 1)) : Int32)) a1) else (if ((if 100 ≤ (G0 44 (tn a1)) then (G0 44 (tn a1)) else ((G0 44 (tn a1)) + 1)) : Int32) = 64 then (if ((sp_M_isWord (wr (wr G0 45 (tn a1) (((G0 45 (tn a1)) <<< ((1 : Int32) &&& 31)) ||| a2)) 44 (tn a1) ((if 100 ≤ (G0 44 (tn a1)) then (G0 44 (tn a1)) else ((G0 44 (tn a1)) + 1)) : Int32)) a1)) = 0 then (sp_M_search (wr (wr G0 45 (tn a1) (((G0 45 (tn a1)) <<< ((1 : Int32) &&& 31)) ||| a2)) 44 (tn a1) ((if 100 ≤ (G0 44 (tn a1)) then (G0 44 (tn a1)) else ((G0 44 (tn a1)) + 1)) : Int32)) a1) else (wr (wr (wr (wr (wr (wr (wr (wr G0 45 (tn a1) (((G0 45 (tn a1)) <<< ((1 : Int32) &&& 31)) ||| a2)) 44 (tn a1) ((if 100 ≤ (G0 44 (tn a1)) then (G0 44 (tn a1)) else ((G0 44 (tn a1)) + 1)) : Int32)) 43 (tn a1) 2) 46 (tn a1) 8) 47 (tn a1) (zb 1)) 48 (tn a1) 0) 55 (tn a1) 0) 54 (tn a1) 0)) else (wr (wr G0 45 (tn a1) (((G0 45 (tn a1)) <<< ((1 : Int32) &&& 31)) ||| a2)) 44 (tn a1) ((if 100 ≤ (G0 44 (tn a1)) then (G0 44 (tn a1)) else ((G0 44 (tn a1)) + 1)) : Int32)))) else (if ((if 100 ≤ (G0 44 (tn a1)) then (G0 44 (tn a1)) else ((G0 44 (tn a1)) + 1)) : Int32) = 64 then (if ((sp_M_isWord (wr (wr G0 45 (tn a1) (((G0 45 (tn a1)) <<< ((1 : Int32) &&& 31)) ||| a2)) 44 (tn a1) ((if 100 ≤ (G0 44 (tn a1)) then (G0 44 (tn a1)) else ((G0 44 (tn a1)) + 1)) : Int32)) a1)) = 0 then (sp_M_search (wr (wr G0 45 (tn a1) (((G0 45 (tn a1)) <<< ((1 : Int32) &&& 31)) ||| a2)) 44 (tn a1) ((if 100 ≤ (G0 44 (tn a1)) then (G0 44 (tn a1)) else ((G0 44 (tn a1)) + 1)) : Int32)) a1) else (wr (wr (wr (wr (wr (wr (wr (wr G0 45 (tn a1) (((G0 45 (tn a1)) <<< ((1 : Int32) &&& 31)) ||| a2)) 44 (tn a1) ((if 100 ≤ (G0 44 (tn a1)) then (G0 44 (tn a1)) else ((G0 44 (tn a1)) + 1)) : Int32)) 43 (tn a1) 2) 46 (tn a1) 8) 47 (tn a1) (zb 1)) 48 (tn a1) 0) 55 (tn a1) 0) 54 (tn a1) 0)) else (wr (wr G0 45 (tn a1) (((G0 45 (tn a1)) <<< ((1 : Int32) &&& 31)) ||| a2)) 44 (tn a1) ((if 100 ≤ (G0 44 (tn a1)) then (G0 44 (tn a1)) else ((G0 44 (tn a1)) + 1)) : Int32))))))
set_option maxHeartbeats 4000000 in
set_option maxRecDepth 100000 in
theorem c_M_make (l : Launch) (P : gP) (G0 : Mem)  (a1 : Int32) (a2 : Int32) (he : a1 = 0 ∨ a1 = 1) : gMv l y_M_make b_M_make 3 none ({ frames := 4, cells := 0, slots := 0, locals := 92 }) [.ref (gad P 21), .int a1, .int a2] P G0 (sp_M_make G0 a1 a2) := by
  refine Met.ofW (cc := b_M_make) (maxL := 3) (ret := none) (by decide) rfl ?_
  intro p e s m args below meth c0 s₁ B hml hv
  obtain ⟨rfl, hpre⟩ := hv
  obtain ⟨E, hH⟩ := gE_of B hml hpre
  replace E : gE p s m _ meth c0 P "FramedLineModel" b_M_make 3 none := E
  have hx := E.1
  have hb := E.2.1
  have hl := lv_entry ([.ref (gad P 21), .int a1, .int a2]) (n := 3) (Nat.le_of_ble_eq_true rfl)
  rw [lg_entry_eq]
  generalize (lg_sl ([.ref (gad P 21), .int a1, .int a2]) ++ List.replicate (3 - (lg_sl ([.ref (gad P 21), .int a1, .int a2])).length) Slot.unset).toArray = ls at hl ⊢
  replace hl : lv_has ls 3 [(0, .ref (gad P 21)), (1, .int a1), (2, .int a2)] := hl
  have hsp : sp_M_make G0 a1 a2 = sp_M_make G0 a1 a2 := rfl
  refine lv_aload_n hx hb d_M_make_0 rfl (lv_at hl 0 rfl) ?_
  refine g_get E hH (gc_M rfl) cl_M 25 (by decide) lf_M_80 rfl d_M_make_1 ?_
  refine lv_iload_n hx hb d_M_make_4 rfl (lv_at hl 1 rfl) ?_
  refine lv_aload_n hx hb d_M_make_5 rfl (lv_at hl 0 rfl) ?_
  refine g_get E hH (gc_M rfl) cl_M 25 (by decide) lf_M_80 rfl d_M_make_6 ?_
  refine lv_iload_n hx hb d_M_make_9 rfl (lv_at hl 1 rfl) ?_
  refine g_iaload (k := (tn a1)) (v := (G0 45 (tn a1))) E hH ⟨by decide, fun _ => rfl⟩ (by rcases he with rfl | rfl <;> (unfold vp_in; first | decide | (split <;> decide))) rfl rfl d_M_make_10 ?_
  refine lv_iconst (v := 1) hx hb d_M_make_11 (by decide) ?_
  refine lv_ishl hx hb d_M_make_12 ?_
  refine lv_iload_n hx hb d_M_make_13 rfl (lv_at hl 2 rfl) ?_
  refine lv_ior hx hb d_M_make_14 ?_
  refine g_iastore (k := (tn a1)) E hH ⟨by decide, fun _ => rfl⟩ (by rcases he with rfl | rfl <;> (unfold vp_in; first | decide | (split <;> decide))) rfl d_M_make_15 (fun H locs hH => ?_)
  refine lv_aload_n hx hb d_M_make_16 rfl (lv_at hl 0 rfl) ?_
  refine g_get E hH (gc_M rfl) cl_M 24 (by decide) lf_M_77 rfl d_M_make_17 ?_
  refine lv_iload_n hx hb d_M_make_20 rfl (lv_at hl 1 rfl) ?_
  refine lv_aload_n hx hb d_M_make_21 rfl (lv_at hl 0 rfl) ?_
  refine g_get E hH (gc_M rfl) cl_M 24 (by decide) lf_M_77 rfl d_M_make_22 ?_
  refine lv_iload_n hx hb d_M_make_25 rfl (lv_at hl 1 rfl) ?_
  refine g_iaload (k := (tn a1)) (v := (G0 44 (tn a1))) E hH ⟨by decide, fun _ => rfl⟩ (by rcases he with rfl | rfl <;> (unfold vp_in; first | decide | (split <;> decide))) rfl (wr_ck _ _ _ _ (by decide)) d_M_make_26 ?_
  refine lv_bipush (v := 100) hx hb d_M_make_27 (by decide) ?_
  refine jn (α := Int32) (fun z H1 locs1 => z = ((if 100 ≤ (G0 44 (tn a1)) then (G0 44 (tn a1)) else ((G0 44 (tn a1)) + 1)) : Int32) ∧ gH P s (wr G0 45 (tn a1) (((G0 45 (tn a1)) <<< ((1 : Int32) &&& 31)) ||| a2)) H1 locs1) (fun z => F0 m 49 ls (.int z :: .int a1 :: .ref (gad P 44) :: [])) (fun z H locs h9 => ?_) (fun hJ => ?_)
  · obtain ⟨rfl, hH⟩ := h9
    refine g_iastore (k := (tn a1)) E hH ⟨by decide, fun _ => rfl⟩ (by rcases he with rfl | rfl <;> (unfold vp_in; first | decide | (split <;> decide))) rfl d_M_make_49 (fun H locs hH => ?_)
    refine lv_aload_n hx hb d_M_make_50 rfl (lv_at hl 0 rfl) ?_
    refine g_get E hH (gc_M rfl) cl_M 23 (by decide) lf_M_74 rfl d_M_make_51 ?_
    refine lv_iload_n hx hb d_M_make_54 rfl (lv_at hl 1 rfl) ?_
    refine g_iaload (k := (tn a1)) (v := (G0 43 (tn a1))) E hH ⟨by decide, fun _ => rfl⟩ (by rcases he with rfl | rfl <;> (unfold vp_in; first | decide | (split <;> decide))) rfl ((wr_ck _ _ _ _ (by decide)).trans (wr_ck _ _ _ _ (by decide))) d_M_make_55 ?_
    refine lv_iconst (v := 2) hx hb d_M_make_56 (by decide) ?_
    refine lv_icmp_ne (tgt := 68) hx hb d_M_make_57 (by decide) (fun h1 => ?_) (fun h1 => ?_)
    · refine lv_aload_n hx hb d_M_make_68 rfl (lv_at hl 0 rfl) ?_
      refine g_get E hH (gc_M rfl) cl_M 23 (by decide) lf_M_74 rfl d_M_make_69 ?_
      refine lv_iload_n hx hb d_M_make_72 rfl (lv_at hl 1 rfl) ?_
      refine g_iaload (k := (tn a1)) (v := (G0 43 (tn a1))) E hH ⟨by decide, fun _ => rfl⟩ (by rcases he with rfl | rfl <;> (unfold vp_in; first | decide | (split <;> decide))) rfl ((wr_ck _ _ _ _ (by decide)).trans (wr_ck _ _ _ _ (by decide))) d_M_make_73 ?_
      refine lv_if_ne (tgt := 113) hx hb d_M_make_74 (by decide) (fun h2 => ?_) (fun h2 => ?_)
      · refine lv_aload_n hx hb d_M_make_113 rfl (lv_at hl 0 rfl) ?_
        refine g_get E hH (gc_M rfl) cl_M 24 (by decide) lf_M_77 rfl d_M_make_114 ?_
        refine lv_iload_n hx hb d_M_make_117 rfl (lv_at hl 1 rfl) ?_
        refine g_iaload (k := (tn a1)) (v := ((if 100 ≤ (G0 44 (tn a1)) then (G0 44 (tn a1)) else ((G0 44 (tn a1)) + 1)) : Int32)) E hH ⟨by decide, fun _ => rfl⟩ (by rcases he with rfl | rfl <;> (unfold vp_in; first | decide | (split <;> decide))) rfl (wr_same _ _ _ _) d_M_make_118 ?_
        refine lv_bipush (v := 26) hx hb d_M_make_119 (by decide) ?_
        refine lv_icmp_ne (tgt := 128) hx hb d_M_make_121 (by decide) (fun h3 => ?_) (fun h3 => ?_)
        · refine lv_aload_n hx hb d_M_make_128 rfl (lv_at hl 0 rfl) ?_
          refine g_get E hH (gc_M rfl) cl_M 24 (by decide) lf_M_77 rfl d_M_make_129 ?_
          refine lv_iload_n hx hb d_M_make_132 rfl (lv_at hl 1 rfl) ?_
          refine g_iaload (k := (tn a1)) (v := ((if 100 ≤ (G0 44 (tn a1)) then (G0 44 (tn a1)) else ((G0 44 (tn a1)) + 1)) : Int32)) E hH ⟨by decide, fun _ => rfl⟩ (by rcases he with rfl | rfl <;> (unfold vp_in; first | decide | (split <;> decide))) rfl (wr_same _ _ _ _) d_M_make_133 ?_
          refine lv_bipush (v := 64) hx hb d_M_make_134 (by decide) ?_
          refine lv_icmp_ne (tgt := 155) hx hb d_M_make_136 (by decide) (fun h4 => ?_) (fun h4 => ?_)
          · refine lv_aload_n hx hb d_M_make_155 rfl (lv_at hl 0 rfl) ?_
            refine g_get E hH (gc_M rfl) cl_M 24 (by decide) lf_M_77 rfl d_M_make_156 ?_
            refine lv_iload_n hx hb d_M_make_159 rfl (lv_at hl 1 rfl) ?_
            refine g_iaload (k := (tn a1)) (v := ((if 100 ≤ (G0 44 (tn a1)) then (G0 44 (tn a1)) else ((G0 44 (tn a1)) + 1)) : Int32)) E hH ⟨by decide, fun _ => rfl⟩ (by rcases he with rfl | rfl <;> (unfold vp_in; first | decide | (split <;> decide))) rfl (wr_same _ _ _ _) d_M_make_160 ?_
            refine lv_bipush (v := 64) hx hb d_M_make_161 (by decide) ?_
            refine lv_icmp_ne (tgt := 209) hx hb d_M_make_163 (by decide) (fun _ => ?_) (fun h0 => absurd h0 h4)
            exact g_vret E hH (hsp.trans (by simp only [sp_M_make, if_neg h1, if_neg h2, if_neg h3, if_neg h4])) d_M_make_209
          · refine lv_aload_n hx hb d_M_make_139 rfl (lv_at hl 0 rfl) ?_
            refine lv_iload_n hx hb d_M_make_140 rfl (lv_at hl 1 rfl) ?_
            refine g_callVrz (As := [.int _]) E hH hl (c_M_isWord l P _ _ he) lm_M_179 (gc_M rfl) cl_M (Nat.le_of_ble_eq_true rfl) (Nat.le_of_ble_eq_true rfl) (Nat.le_of_ble_eq_true rfl) (Nat.le_of_ble_eq_true rfl) (Nat.le_of_ble_eq_true rfl) rfl rfl rfl rfl d_M_make_141 (fun H locs hH hz141 => ?_)
            refine lv_if_ne (tgt := 155) hx hb d_M_make_144 (by decide) (fun h5 => ?_) (fun h5 => ?_)
            · refine lv_aload_n hx hb d_M_make_155 rfl (lv_at hl 0 rfl) ?_
              refine g_get E hH (gc_M rfl) cl_M 24 (by decide) lf_M_77 rfl d_M_make_156 ?_
              refine lv_iload_n hx hb d_M_make_159 rfl (lv_at hl 1 rfl) ?_
              refine g_iaload (k := (tn a1)) (v := ((if 100 ≤ (G0 44 (tn a1)) then (G0 44 (tn a1)) else ((G0 44 (tn a1)) + 1)) : Int32)) E hH ⟨by decide, fun _ => rfl⟩ (by rcases he with rfl | rfl <;> (unfold vp_in; first | decide | (split <;> decide))) rfl (wr_same _ _ _ _) d_M_make_160 ?_
              refine lv_bipush (v := 64) hx hb d_M_make_161 (by decide) ?_
              refine lv_icmp_ne (tgt := 209) hx hb d_M_make_163 (by decide) (fun h0 => absurd h4 h0) (fun _ => ?_)
              refine lv_aload_n hx hb d_M_make_166 rfl (lv_at hl 0 rfl) ?_
              refine g_get E hH (gc_M rfl) cl_M 23 (by decide) lf_M_74 rfl d_M_make_167 ?_
              refine lv_iload_n hx hb d_M_make_170 rfl (lv_at hl 1 rfl) ?_
              refine lv_iconst (v := 2) hx hb d_M_make_171 (by decide) ?_
              refine g_iastore (k := (tn a1)) E hH ⟨by decide, fun _ => rfl⟩ (by rcases he with rfl | rfl <;> (unfold vp_in; first | decide | (split <;> decide))) rfl d_M_make_172 (fun H locs hH => ?_)
              refine lv_aload_n hx hb d_M_make_173 rfl (lv_at hl 0 rfl) ?_
              refine g_get E hH (gc_M rfl) cl_M 26 (by decide) lf_M_83 rfl d_M_make_174 ?_
              refine lv_iload_n hx hb d_M_make_177 rfl (lv_at hl 1 rfl) ?_
              refine lv_bipush (v := 8) hx hb d_M_make_178 (by decide) ?_
              refine g_iastore (k := (tn a1)) E hH ⟨by decide, fun _ => rfl⟩ (by rcases he with rfl | rfl <;> (unfold vp_in; first | decide | (split <;> decide))) rfl d_M_make_180 (fun H locs hH => ?_)
              refine lv_aload_n hx hb d_M_make_181 rfl (lv_at hl 0 rfl) ?_
              refine g_get E hH (gc_M rfl) cl_M 27 (by decide) lf_M_86 rfl d_M_make_182 ?_
              refine lv_iload_n hx hb d_M_make_185 rfl (lv_at hl 1 rfl) ?_
              refine lv_iconst (v := 1) hx hb d_M_make_186 (by decide) ?_
              refine g_bastore (k := (tn a1)) E hH ⟨by decide, fun _ => rfl⟩ (by rcases he with rfl | rfl <;> (unfold vp_in; first | decide | (split <;> decide))) rfl d_M_make_187 (fun H locs hH => ?_)
              refine lv_aload_n hx hb d_M_make_188 rfl (lv_at hl 0 rfl) ?_
              refine g_get E hH (gc_M rfl) cl_M 28 (by decide) lf_M_89 rfl d_M_make_189 ?_
              refine lv_iload_n hx hb d_M_make_192 rfl (lv_at hl 1 rfl) ?_
              refine lv_iconst (v := 0) hx hb d_M_make_193 (by decide) ?_
              refine g_iastore (k := (tn a1)) E hH ⟨by decide, fun _ => rfl⟩ (by rcases he with rfl | rfl <;> (unfold vp_in; first | decide | (split <;> decide))) rfl d_M_make_194 (fun H locs hH => ?_)
              refine lv_aload_n hx hb d_M_make_195 rfl (lv_at hl 0 rfl) ?_
              refine g_get E hH (gc_M rfl) cl_M 35 (by decide) lf_M_110 rfl d_M_make_196 ?_
              refine lv_iload_n hx hb d_M_make_199 rfl (lv_at hl 1 rfl) ?_
              refine lv_iconst (v := 0) hx hb d_M_make_200 (by decide) ?_
              refine g_iastore (k := (tn a1)) E hH ⟨by decide, fun _ => rfl⟩ (by rcases he with rfl | rfl <;> (unfold vp_in; first | decide | (split <;> decide))) rfl d_M_make_201 (fun H locs hH => ?_)
              refine lv_aload_n hx hb d_M_make_202 rfl (lv_at hl 0 rfl) ?_
              refine g_get E hH (gc_M rfl) cl_M 34 (by decide) lf_M_107 rfl d_M_make_203 ?_
              refine lv_iload_n hx hb d_M_make_206 rfl (lv_at hl 1 rfl) ?_
              refine lv_iconst (v := 0) hx hb d_M_make_207 (by decide) ?_
              refine g_iastore (k := (tn a1)) E hH ⟨by decide, fun _ => rfl⟩ (by rcases he with rfl | rfl <;> (unfold vp_in; first | decide | (split <;> decide))) rfl d_M_make_208 (fun H locs hH => ?_)
              exact g_vret E hH (hsp.trans (by simp only [sp_M_make, if_neg h1, if_neg h2, if_neg h3, if_pos h4, if_neg h5])) d_M_make_209
            · refine lv_aload_n hx hb d_M_make_147 rfl (lv_at hl 0 rfl) ?_
              refine lv_iload_n hx hb d_M_make_148 rfl (lv_at hl 1 rfl) ?_
              refine g_callVv (As := [.int _]) E hH hl (c_M_search l P _ _ he) lm_M_183 (gc_M rfl) cl_M (Nat.le_of_ble_eq_true rfl) (Nat.le_of_ble_eq_true rfl) (Nat.le_of_ble_eq_true rfl) (Nat.le_of_ble_eq_true rfl) (Nat.le_of_ble_eq_true rfl) rfl rfl rfl rfl d_M_make_149 (fun H locs hH => ?_)
              refine lv_goto (tgt := 209) hx hb d_M_make_152 (by decide) ?_
              exact g_vret E hH (hsp.trans (by simp only [sp_M_make, if_neg h1, if_neg h2, if_neg h3, if_pos h4, if_pos h5])) d_M_make_209
        · refine lv_iload_n hx hb d_M_make_124 rfl (lv_at hl 2 rfl) ?_
          refine lv_if_eq (tgt := 147) hx hb d_M_make_125 (by decide) (fun h6 => ?_) (fun h6 => ?_)
          · refine lv_aload_n hx hb d_M_make_147 rfl (lv_at hl 0 rfl) ?_
            refine lv_iload_n hx hb d_M_make_148 rfl (lv_at hl 1 rfl) ?_
            refine g_callVv (As := [.int _]) E hH hl (c_M_search l P _ _ he) lm_M_183 (gc_M rfl) cl_M (Nat.le_of_ble_eq_true rfl) (Nat.le_of_ble_eq_true rfl) (Nat.le_of_ble_eq_true rfl) (Nat.le_of_ble_eq_true rfl) (Nat.le_of_ble_eq_true rfl) rfl rfl rfl rfl d_M_make_149 (fun H locs hH => ?_)
            refine lv_goto (tgt := 209) hx hb d_M_make_152 (by decide) ?_
            exact g_vret E hH (hsp.trans (by simp only [sp_M_make, if_neg h1, if_neg h2, if_pos h3, if_pos h6])) d_M_make_209
          · refine lv_aload_n hx hb d_M_make_128 rfl (lv_at hl 0 rfl) ?_
            refine g_get E hH (gc_M rfl) cl_M 24 (by decide) lf_M_77 rfl d_M_make_129 ?_
            refine lv_iload_n hx hb d_M_make_132 rfl (lv_at hl 1 rfl) ?_
            refine g_iaload (k := (tn a1)) (v := ((if 100 ≤ (G0 44 (tn a1)) then (G0 44 (tn a1)) else ((G0 44 (tn a1)) + 1)) : Int32)) E hH ⟨by decide, fun _ => rfl⟩ (by rcases he with rfl | rfl <;> (unfold vp_in; first | decide | (split <;> decide))) rfl (wr_same _ _ _ _) d_M_make_133 ?_
            refine lv_bipush (v := 64) hx hb d_M_make_134 (by decide) ?_
            refine lv_icmp_ne (tgt := 155) hx hb d_M_make_136 (by decide) (fun h7 => ?_) (fun h7 => ?_)
            · refine lv_aload_n hx hb d_M_make_155 rfl (lv_at hl 0 rfl) ?_
              refine g_get E hH (gc_M rfl) cl_M 24 (by decide) lf_M_77 rfl d_M_make_156 ?_
              refine lv_iload_n hx hb d_M_make_159 rfl (lv_at hl 1 rfl) ?_
              refine g_iaload (k := (tn a1)) (v := ((if 100 ≤ (G0 44 (tn a1)) then (G0 44 (tn a1)) else ((G0 44 (tn a1)) + 1)) : Int32)) E hH ⟨by decide, fun _ => rfl⟩ (by rcases he with rfl | rfl <;> (unfold vp_in; first | decide | (split <;> decide))) rfl (wr_same _ _ _ _) d_M_make_160 ?_
              refine lv_bipush (v := 64) hx hb d_M_make_161 (by decide) ?_
              refine lv_icmp_ne (tgt := 209) hx hb d_M_make_163 (by decide) (fun _ => ?_) (fun h0 => absurd h0 h7)
              exact g_vret E hH (hsp.trans (by simp only [sp_M_make, if_neg h1, if_neg h2, if_pos h3, if_neg h6, if_neg h7])) d_M_make_209
            · refine lv_aload_n hx hb d_M_make_139 rfl (lv_at hl 0 rfl) ?_
              refine lv_iload_n hx hb d_M_make_140 rfl (lv_at hl 1 rfl) ?_
              refine g_callVrz (As := [.int _]) E hH hl (c_M_isWord l P _ _ he) lm_M_179 (gc_M rfl) cl_M (Nat.le_of_ble_eq_true rfl) (Nat.le_of_ble_eq_true rfl) (Nat.le_of_ble_eq_true rfl) (Nat.le_of_ble_eq_true rfl) (Nat.le_of_ble_eq_true rfl) rfl rfl rfl rfl d_M_make_141 (fun H locs hH hz141 => ?_)
              refine lv_if_ne (tgt := 155) hx hb d_M_make_144 (by decide) (fun h8 => ?_) (fun h8 => ?_)
              · refine lv_aload_n hx hb d_M_make_155 rfl (lv_at hl 0 rfl) ?_
                refine g_get E hH (gc_M rfl) cl_M 24 (by decide) lf_M_77 rfl d_M_make_156 ?_
                refine lv_iload_n hx hb d_M_make_159 rfl (lv_at hl 1 rfl) ?_
                refine g_iaload (k := (tn a1)) (v := ((if 100 ≤ (G0 44 (tn a1)) then (G0 44 (tn a1)) else ((G0 44 (tn a1)) + 1)) : Int32)) E hH ⟨by decide, fun _ => rfl⟩ (by rcases he with rfl | rfl <;> (unfold vp_in; first | decide | (split <;> decide))) rfl (wr_same _ _ _ _) d_M_make_160 ?_
                refine lv_bipush (v := 64) hx hb d_M_make_161 (by decide) ?_
                refine lv_icmp_ne (tgt := 209) hx hb d_M_make_163 (by decide) (fun h0 => absurd h7 h0) (fun _ => ?_)
                refine lv_aload_n hx hb d_M_make_166 rfl (lv_at hl 0 rfl) ?_
                refine g_get E hH (gc_M rfl) cl_M 23 (by decide) lf_M_74 rfl d_M_make_167 ?_
                refine lv_iload_n hx hb d_M_make_170 rfl (lv_at hl 1 rfl) ?_
                refine lv_iconst (v := 2) hx hb d_M_make_171 (by decide) ?_
                refine g_iastore (k := (tn a1)) E hH ⟨by decide, fun _ => rfl⟩ (by rcases he with rfl | rfl <;> (unfold vp_in; first | decide | (split <;> decide))) rfl d_M_make_172 (fun H locs hH => ?_)
                refine lv_aload_n hx hb d_M_make_173 rfl (lv_at hl 0 rfl) ?_
                refine g_get E hH (gc_M rfl) cl_M 26 (by decide) lf_M_83 rfl d_M_make_174 ?_
                refine lv_iload_n hx hb d_M_make_177 rfl (lv_at hl 1 rfl) ?_
                refine lv_bipush (v := 8) hx hb d_M_make_178 (by decide) ?_
                refine g_iastore (k := (tn a1)) E hH ⟨by decide, fun _ => rfl⟩ (by rcases he with rfl | rfl <;> (unfold vp_in; first | decide | (split <;> decide))) rfl d_M_make_180 (fun H locs hH => ?_)
                refine lv_aload_n hx hb d_M_make_181 rfl (lv_at hl 0 rfl) ?_
                refine g_get E hH (gc_M rfl) cl_M 27 (by decide) lf_M_86 rfl d_M_make_182 ?_
                refine lv_iload_n hx hb d_M_make_185 rfl (lv_at hl 1 rfl) ?_
                refine lv_iconst (v := 1) hx hb d_M_make_186 (by decide) ?_
                refine g_bastore (k := (tn a1)) E hH ⟨by decide, fun _ => rfl⟩ (by rcases he with rfl | rfl <;> (unfold vp_in; first | decide | (split <;> decide))) rfl d_M_make_187 (fun H locs hH => ?_)
                refine lv_aload_n hx hb d_M_make_188 rfl (lv_at hl 0 rfl) ?_
                refine g_get E hH (gc_M rfl) cl_M 28 (by decide) lf_M_89 rfl d_M_make_189 ?_
                refine lv_iload_n hx hb d_M_make_192 rfl (lv_at hl 1 rfl) ?_
                refine lv_iconst (v := 0) hx hb d_M_make_193 (by decide) ?_
                refine g_iastore (k := (tn a1)) E hH ⟨by decide, fun _ => rfl⟩ (by rcases he with rfl | rfl <;> (unfold vp_in; first | decide | (split <;> decide))) rfl d_M_make_194 (fun H locs hH => ?_)
                refine lv_aload_n hx hb d_M_make_195 rfl (lv_at hl 0 rfl) ?_
                refine g_get E hH (gc_M rfl) cl_M 35 (by decide) lf_M_110 rfl d_M_make_196 ?_
                refine lv_iload_n hx hb d_M_make_199 rfl (lv_at hl 1 rfl) ?_
                refine lv_iconst (v := 0) hx hb d_M_make_200 (by decide) ?_
                refine g_iastore (k := (tn a1)) E hH ⟨by decide, fun _ => rfl⟩ (by rcases he with rfl | rfl <;> (unfold vp_in; first | decide | (split <;> decide))) rfl d_M_make_201 (fun H locs hH => ?_)
                refine lv_aload_n hx hb d_M_make_202 rfl (lv_at hl 0 rfl) ?_
                refine g_get E hH (gc_M rfl) cl_M 34 (by decide) lf_M_107 rfl d_M_make_203 ?_
                refine lv_iload_n hx hb d_M_make_206 rfl (lv_at hl 1 rfl) ?_
                refine lv_iconst (v := 0) hx hb d_M_make_207 (by decide) ?_
                refine g_iastore (k := (tn a1)) E hH ⟨by decide, fun _ => rfl⟩ (by rcases he with rfl | rfl <;> (unfold vp_in; first | decide | (split <;> decide))) rfl d_M_make_208 (fun H locs hH => ?_)
                exact g_vret E hH (hsp.trans (by simp only [sp_M_make, if_neg h1, if_neg h2, if_pos h3, if_neg h6, if_pos h7, if_neg h8])) d_M_make_209
              · refine lv_aload_n hx hb d_M_make_147 rfl (lv_at hl 0 rfl) ?_
                refine lv_iload_n hx hb d_M_make_148 rfl (lv_at hl 1 rfl) ?_
                refine g_callVv (As := [.int _]) E hH hl (c_M_search l P _ _ he) lm_M_183 (gc_M rfl) cl_M (Nat.le_of_ble_eq_true rfl) (Nat.le_of_ble_eq_true rfl) (Nat.le_of_ble_eq_true rfl) (Nat.le_of_ble_eq_true rfl) (Nat.le_of_ble_eq_true rfl) rfl rfl rfl rfl d_M_make_149 (fun H locs hH => ?_)
                refine lv_goto (tgt := 209) hx hb d_M_make_152 (by decide) ?_
                exact g_vret E hH (hsp.trans (by simp only [sp_M_make, if_neg h1, if_neg h2, if_pos h3, if_neg h6, if_pos h7, if_pos h8])) d_M_make_209
      · refine lv_aload_n hx hb d_M_make_77 rfl (lv_at hl 0 rfl) ?_
        refine g_get E hH (gc_M rfl) cl_M 24 (by decide) lf_M_77 rfl d_M_make_78 ?_
        refine lv_iload_n hx hb d_M_make_81 rfl (lv_at hl 1 rfl) ?_
        refine g_iaload (k := (tn a1)) (v := ((if 100 ≤ (G0 44 (tn a1)) then (G0 44 (tn a1)) else ((G0 44 (tn a1)) + 1)) : Int32)) E hH ⟨by decide, fun _ => rfl⟩ (by rcases he with rfl | rfl <;> (unfold vp_in; first | decide | (split <;> decide))) rfl (wr_same _ _ _ _) d_M_make_82 ?_
        refine lv_bipush (v := 7) hx hb d_M_make_83 (by decide) ?_
        refine lv_icmp_lt (tgt := 209) hx hb d_M_make_85 (by decide) (fun h9 => ?_) (fun h9 => ?_)
        · exact g_vret E hH (hsp.trans (by simp only [sp_M_make, if_neg h1, if_pos h2, if_pos h9])) d_M_make_209
        · refine lv_aload_n hx hb d_M_make_88 rfl (lv_at hl 0 rfl) ?_
          refine lv_iload_n hx hb d_M_make_89 rfl (lv_at hl 1 rfl) ?_
          refine g_callVrz (As := [.int _]) E hH hl (c_M_isWord l P _ _ he) lm_M_179 (gc_M rfl) cl_M (Nat.le_of_ble_eq_true rfl) (Nat.le_of_ble_eq_true rfl) (Nat.le_of_ble_eq_true rfl) (Nat.le_of_ble_eq_true rfl) (Nat.le_of_ble_eq_true rfl) rfl rfl rfl rfl d_M_make_90 (fun H locs hH hz90 => ?_)
          refine lv_if_eq (tgt := 209) hx hb d_M_make_93 (by decide) (fun h10 => ?_) (fun h10 => ?_)
          · exact g_vret E hH (hsp.trans (by simp only [sp_M_make, if_neg h1, if_pos h2, if_neg h9, if_pos h10])) d_M_make_209
          · refine lv_aload_n hx hb d_M_make_96 rfl (lv_at hl 0 rfl) ?_
            refine g_get E hH (gc_M rfl) cl_M 23 (by decide) lf_M_74 rfl d_M_make_97 ?_
            refine lv_iload_n hx hb d_M_make_100 rfl (lv_at hl 1 rfl) ?_
            refine lv_iconst (v := 1) hx hb d_M_make_101 (by decide) ?_
            refine g_iastore (k := (tn a1)) E hH ⟨by decide, fun _ => rfl⟩ (by rcases he with rfl | rfl <;> (unfold vp_in; first | decide | (split <;> decide))) rfl d_M_make_102 (fun H locs hH => ?_)
            refine lv_aload_n hx hb d_M_make_103 rfl (lv_at hl 0 rfl) ?_
            refine g_get E hH (gc_M rfl) cl_M 24 (by decide) lf_M_77 rfl d_M_make_104 ?_
            refine lv_iload_n hx hb d_M_make_107 rfl (lv_at hl 1 rfl) ?_
            refine lv_iconst (v := 0) hx hb d_M_make_108 (by decide) ?_
            refine g_iastore (k := (tn a1)) E hH ⟨by decide, fun _ => rfl⟩ (by rcases he with rfl | rfl <;> (unfold vp_in; first | decide | (split <;> decide))) rfl d_M_make_109 (fun H locs hH => ?_)
            refine lv_goto (tgt := 209) hx hb d_M_make_110 (by decide) ?_
            exact g_vret E hH (hsp.trans (by simp only [sp_M_make, if_neg h1, if_pos h2, if_neg h9, if_neg h10])) d_M_make_209
    · refine lv_aload_n hx hb d_M_make_60 rfl (lv_at hl 0 rfl) ?_
      refine lv_iload_n hx hb d_M_make_61 rfl (lv_at hl 1 rfl) ?_
      refine g_callVv (As := [.int _]) E hH hl (c_M_frameBit l P _ _ he) lm_M_176 (gc_M rfl) cl_M (Nat.le_of_ble_eq_true rfl) (Nat.le_of_ble_eq_true rfl) (Nat.le_of_ble_eq_true rfl) (Nat.le_of_ble_eq_true rfl) (Nat.le_of_ble_eq_true rfl) rfl rfl rfl rfl d_M_make_62 (fun H locs hH => ?_)
      refine lv_goto (tgt := 209) hx hb d_M_make_65 (by decide) ?_
      exact g_vret E hH (hsp.trans (by simp only [sp_M_make, if_pos h1])) d_M_make_209
  · refine lv_icmp_ge (tgt := 43) hx hb d_M_make_29 (by decide) (fun h11 => ?_) (fun h11 => ?_)
    · refine lv_aload_n hx hb d_M_make_43 rfl (lv_at hl 0 rfl) ?_
      refine g_get E hH (gc_M rfl) cl_M 24 (by decide) lf_M_77 rfl d_M_make_44 ?_
      refine lv_iload_n hx hb d_M_make_47 rfl (lv_at hl 1 rfl) ?_
      refine g_iaload (k := (tn a1)) (v := (G0 44 (tn a1))) E hH ⟨by decide, fun _ => rfl⟩ (by rcases he with rfl | rfl <;> (unfold vp_in; first | decide | (split <;> decide))) rfl (wr_ck _ _ _ _ (by decide)) d_M_make_48 ?_
      exact hJ _ _ _ ⟨by simp only [if_pos h11], hH⟩
    · refine lv_aload_n hx hb d_M_make_32 rfl (lv_at hl 0 rfl) ?_
      refine g_get E hH (gc_M rfl) cl_M 24 (by decide) lf_M_77 rfl d_M_make_33 ?_
      refine lv_iload_n hx hb d_M_make_36 rfl (lv_at hl 1 rfl) ?_
      refine g_iaload (k := (tn a1)) (v := (G0 44 (tn a1))) E hH ⟨by decide, fun _ => rfl⟩ (by rcases he with rfl | rfl <;> (unfold vp_in; first | decide | (split <;> decide))) rfl (wr_ck _ _ _ _ (by decide)) d_M_make_37 ?_
      refine lv_iconst (v := 1) hx hb d_M_make_38 (by decide) ?_
      refine lv_iadd hx hb d_M_make_39 ?_
      refine lv_goto (tgt := 49) hx hb d_M_make_40 (by decide) ?_
      exact hJ _ _ _ ⟨by simp only [if_neg h11], hH⟩
end
section
def sp_M_take_280 (a1 : Int32) (a2 : Int32) (G : Mem) (x5 : Int32) (x6 : Int32) : Mem :=
  (if (G 36 (tn a1)) = 4 then (sp_M_make (wr (wr (wr (wr (wr (wr G 38 (tn ((3 * a1) + 2)) (G 38 (tn (((3 * a1) + 2) - 1)))) 39 (tn ((3 * a1) + 2)) (zb (G 39 (tn (((3 * a1) + 2) - 1))))) 38 (tn ((3 * a1) + 1)) (G 38 (tn (((3 * a1) + 1) - 1)))) 39 (tn ((3 * a1) + 1)) (zb (G 39 (tn (((3 * a1) + 1) - 1))))) 38 (tn (3 * a1)) a2) 39 (tn (3 * a1)) (zb x5)) a1 x6) else (wr (wr (wr (wr (wr (wr G 38 (tn ((3 * a1) + 2)) (G 38 (tn (((3 * a1) + 2) - 1)))) 39 (tn ((3 * a1) + 2)) (zb (G 39 (tn (((3 * a1) + 2) - 1))))) 38 (tn ((3 * a1) + 1)) (G 38 (tn (((3 * a1) + 1) - 1)))) 39 (tn ((3 * a1) + 1)) (zb (G 39 (tn (((3 * a1) + 1) - 1))))) 38 (tn (3 * a1)) a2) 39 (tn (3 * a1)) (zb x5)))
def sp_M_take_212 (a1 : Int32) (a2 : Int32) (G : Mem) (x5 : Int32) : Mem :=
  (sp_M_take_280 a1 a2 (wr (wr G 42 (tn a1) ((G 42 (tn a1)) - (G 42 (tn a1)) / 4 * 4)) 40 (tn a1) ((if a2 = 0 then (G 40 (tn a1)) else a2) : Int32)) x5 ((if (G 38 (tn ((3 * a1) + 2))) = 0 then 0 else (if (G 39 (tn ((3 * a1) + 2))) = 0 then (if x5 = 0 then 1 else 0) else 0)) : Int32))
def sp_M_take_139 (a1 : Int32) (a2 : Int32) (G : Mem) (x5 : Int32) : Mem :=
  (sp_M_take_212 a1 a2 (sp_M_fault (wr (wr G 41 (tn a1) ((if x5 = 0 then (G 41 (tn a1)) else a2) : Int32)) 42 (tn a1) ((if a2 = 0 then (if (G 40 (tn a1)) = 0 then 0 else ((G 42 (tn a1)) + 1)) else 0) : Int32)) a1 ((if ((if a2 = 0 then (if (G 40 (tn a1)) = 0 then 0 else ((G 42 (tn a1)) + 1)) else 0) : Int32) = 4 then 1 else 0) : Int32) 1) x5)
def sp_M_take_92 (a1 : Int32) (a2 : Int32) (G : Mem) (x4 : Int32) (x5 : Int32) : Mem :=
  (sp_M_take_139 a1 a2 (sp_M_fault (sp_M_fault G a1 ((if x4 = 0 then 0 else (if x5 = 0 then 1 else 0)) : Int32) 1) a1 ((if x5 = 0 then 0 else (if ((sp_M_fault G a1 ((if x4 = 0 then 0 else (if x5 = 0 then 1 else 0)) : Int32) 1) 41 (tn a1)) = a2 then 1 else 0)) : Int32) 1) x5)
def sp_M_take  (G0 : Mem) (a1 : Int32) (a2 : Int32) : Mem :=
  (sp_M_take_92 a1 a2 (wr (wr G0 37 (tn a1) a2) 36 (tn a1) ((if 4 ≤ (G0 36 (tn a1)) then 4 else ((G0 36 (tn a1)) + 1)) : Int32)) ((if a2 = 0 then 0 else (if a2 = (G0 40 (tn a1)) then 1 else 0)) : Int32) ((if ((if a2 = 0 then 0 else (if a2 = (G0 40 (tn a1)) then 1 else 0)) : Int32) = 0 then 0 else (if (G0 38 (tn (3 * a1))) = 0 then (if (G0 38 (tn ((3 * a1) + 1))) = 0 then 1 else 0) else 0)) : Int32))
set_option maxHeartbeats 4000000 in
set_option maxRecDepth 100000 in
theorem c_M_take (l : Launch) (P : gP) (G0 : Mem)  (a1 : Int32) (a2 : Int32) (he : a1 = 0 ∨ a1 = 1) : gMv l y_M_take b_M_take 8 none ({ frames := 5, cells := 0, slots := 0, locals := 114 }) [.ref (gad P 21), .int a1, .int a2] P G0 (sp_M_take G0 a1 a2) := by
  refine Met.ofW (cc := b_M_take) (maxL := 8) (ret := none) (by decide) rfl ?_
  intro p e s m args below meth c0 s₁ B hml hv
  obtain ⟨rfl, hpre⟩ := hv
  obtain ⟨E, hH⟩ := gE_of B hml hpre
  replace E : gE p s m _ meth c0 P "FramedLineModel" b_M_take 8 none := E
  have hx := E.1
  have hb := E.2.1
  have hl := lv_entry ([.ref (gad P 21), .int a1, .int a2]) (n := 8) (Nat.le_of_ble_eq_true rfl)
  rw [lg_entry_eq]
  generalize (lg_sl ([.ref (gad P 21), .int a1, .int a2]) ++ List.replicate (8 - (lg_sl ([.ref (gad P 21), .int a1, .int a2])).length) Slot.unset).toArray = ls at hl ⊢
  replace hl : lv_has ls 8 [(0, .ref (gad P 21)), (1, .int a1), (2, .int a2)] := hl
  have hsp : sp_M_take G0 a1 a2 = sp_M_take G0 a1 a2 := rfl
  refine jn (α := Mem × Array Slot × Int32 × Int32) (fun q H1 locs1 => sp_M_take G0 a1 a2 = sp_M_take_280 a1 a2 q.1 q.2.2.1 q.2.2.2 ∧ lv_has q.2.1 8 [(0, .ref (gad P 21)), (1, .int a1), (2, .int a2), (3, .int (3 * a1)), (5, .int q.2.2.1), (6, .int q.2.2.2)] ∧ gH P s q.1 H1 locs1) (fun q => F0 m 280 q.2.1 []) (fun q H locs h9 => ?_) (fun hC280 => ?_)
  · clear hsp hl hH ls
    obtain ⟨G, ls, x5, x6⟩ := q
    obtain ⟨hsp, hl, hH⟩ := h9
    change lv_has ls 8 [(0, .ref (gad P 21)), (1, .int a1), (2, .int a2), (3, .int (3 * a1)), (5, .int x5), (6, .int x6)] at hl
    dsimp only at hsp hH ⊢
    refine lv_iconst (v := 2) hx hb d_M_take_280 (by decide) ?_
    refine lv_istore hx hb d_M_take_281 hl (by decide) rfl (fun ls hl => ?_)
    refine lv_iload hx hb d_M_take_283 (lv_at hl 0 rfl) ?_
    refine lv_if_le (tgt := 334) hx hb d_M_take_285 (by decide) (fun h0 => absurd h0 (by decide)) (fun _ => ?_)
    refine lv_aload_n hx hb d_M_take_288 rfl (lv_at hl 1 rfl) ?_
    refine g_get E hH (gc_M rfl) cl_M 18 (by decide) lf_M_59 rfl d_M_take_289 ?_
    refine lv_iload_n hx hb d_M_take_292 rfl (lv_at hl 4 rfl) ?_
    refine lv_iload hx hb d_M_take_293 (lv_at hl 0 rfl) ?_
    refine lv_iadd hx hb d_M_take_295 ?_
    refine lv_aload_n hx hb d_M_take_296 rfl (lv_at hl 1 rfl) ?_
    refine g_get E hH (gc_M rfl) cl_M 18 (by decide) lf_M_59 rfl d_M_take_297 ?_
    refine lv_iload_n hx hb d_M_take_300 rfl (lv_at hl 4 rfl) ?_
    refine lv_iload hx hb d_M_take_301 (lv_at hl 0 rfl) ?_
    refine lv_iadd hx hb d_M_take_303 ?_
    refine lv_iconst (v := 1) hx hb d_M_take_304 (by decide) ?_
    refine lv_isub hx hb d_M_take_305 ?_
    refine g_iaload (k := (tn (((3 * a1) + 2) - 1))) (v := (G 38 (tn (((3 * a1) + 2) - 1)))) E hH ⟨by decide, fun _ => rfl⟩ (by rcases he with rfl | rfl <;> (unfold vp_in; first | decide | (split <;> decide))) rfl rfl d_M_take_306 ?_
    refine g_iastore (k := (tn ((3 * a1) + 2))) E hH ⟨by decide, fun _ => rfl⟩ (by rcases he with rfl | rfl <;> (unfold vp_in; first | decide | (split <;> decide))) rfl d_M_take_307 (fun H locs hH => ?_)
    refine lv_aload_n hx hb d_M_take_308 rfl (lv_at hl 1 rfl) ?_
    refine g_get E hH (gc_M rfl) cl_M 19 (by decide) lf_M_62 rfl d_M_take_309 ?_
    refine lv_iload_n hx hb d_M_take_312 rfl (lv_at hl 4 rfl) ?_
    refine lv_iload hx hb d_M_take_313 (lv_at hl 0 rfl) ?_
    refine lv_iadd hx hb d_M_take_315 ?_
    refine lv_aload_n hx hb d_M_take_316 rfl (lv_at hl 1 rfl) ?_
    refine g_get E hH (gc_M rfl) cl_M 19 (by decide) lf_M_62 rfl d_M_take_317 ?_
    refine lv_iload_n hx hb d_M_take_320 rfl (lv_at hl 4 rfl) ?_
    refine lv_iload hx hb d_M_take_321 (lv_at hl 0 rfl) ?_
    refine lv_iadd hx hb d_M_take_323 ?_
    refine lv_iconst (v := 1) hx hb d_M_take_324 (by decide) ?_
    refine lv_isub hx hb d_M_take_325 ?_
    refine g_baload (k := (tn (((3 * a1) + 2) - 1))) (v := (G 39 (tn (((3 * a1) + 2) - 1)))) E hH ⟨by decide, fun _ => rfl⟩ (by rcases he with rfl | rfl <;> (unfold vp_in; first | decide | (split <;> decide))) rfl (wr_ck _ _ _ _ (by decide)) d_M_take_326 ?_
    refine g_bastore (k := (tn ((3 * a1) + 2))) E hH ⟨by decide, fun _ => rfl⟩ (by rcases he with rfl | rfl <;> (unfold vp_in; first | decide | (split <;> decide))) rfl d_M_take_327 (fun H locs hH => ?_)
    refine lv_iinc (k := 0) (v := 1) hx hb d_M_take_328 hl rfl (by decide) (by decide) rfl (fun ls hl => ?_)
    refine lv_goto (tgt := 283) hx hb d_M_take_331 (by decide) ?_
    refine lv_iload hx hb d_M_take_283 (lv_at hl 0 rfl) ?_
    refine lv_if_le (tgt := 334) hx hb d_M_take_285 (by decide) (fun h0 => absurd h0 (by decide)) (fun _ => ?_)
    refine lv_aload_n hx hb d_M_take_288 rfl (lv_at hl 1 rfl) ?_
    refine g_get E hH (gc_M rfl) cl_M 18 (by decide) lf_M_59 rfl d_M_take_289 ?_
    refine lv_iload_n hx hb d_M_take_292 rfl (lv_at hl 4 rfl) ?_
    refine lv_iload hx hb d_M_take_293 (lv_at hl 0 rfl) ?_
    refine lv_iadd hx hb d_M_take_295 ?_
    refine lv_aload_n hx hb d_M_take_296 rfl (lv_at hl 1 rfl) ?_
    refine g_get E hH (gc_M rfl) cl_M 18 (by decide) lf_M_59 rfl d_M_take_297 ?_
    refine lv_iload_n hx hb d_M_take_300 rfl (lv_at hl 4 rfl) ?_
    refine lv_iload hx hb d_M_take_301 (lv_at hl 0 rfl) ?_
    refine lv_iadd hx hb d_M_take_303 ?_
    refine lv_iconst (v := 1) hx hb d_M_take_304 (by decide) ?_
    refine lv_isub hx hb d_M_take_305 ?_
    refine g_iaload (k := (tn (((3 * a1) + 1) - 1))) (v := (G 38 (tn (((3 * a1) + 1) - 1)))) E hH ⟨by decide, fun _ => rfl⟩ (by rcases he with rfl | rfl <;> (unfold vp_in; first | decide | (split <;> decide))) rfl ((wr_ck _ _ _ _ (by decide)).trans (wr_k _ _ _ _ (by rcases he with rfl | rfl <;> decide))) d_M_take_306 ?_
    refine g_iastore (k := (tn ((3 * a1) + 1))) E hH ⟨by decide, fun _ => rfl⟩ (by rcases he with rfl | rfl <;> (unfold vp_in; first | decide | (split <;> decide))) rfl d_M_take_307 (fun H locs hH => ?_)
    refine lv_aload_n hx hb d_M_take_308 rfl (lv_at hl 1 rfl) ?_
    refine g_get E hH (gc_M rfl) cl_M 19 (by decide) lf_M_62 rfl d_M_take_309 ?_
    refine lv_iload_n hx hb d_M_take_312 rfl (lv_at hl 4 rfl) ?_
    refine lv_iload hx hb d_M_take_313 (lv_at hl 0 rfl) ?_
    refine lv_iadd hx hb d_M_take_315 ?_
    refine lv_aload_n hx hb d_M_take_316 rfl (lv_at hl 1 rfl) ?_
    refine g_get E hH (gc_M rfl) cl_M 19 (by decide) lf_M_62 rfl d_M_take_317 ?_
    refine lv_iload_n hx hb d_M_take_320 rfl (lv_at hl 4 rfl) ?_
    refine lv_iload hx hb d_M_take_321 (lv_at hl 0 rfl) ?_
    refine lv_iadd hx hb d_M_take_323 ?_
    refine lv_iconst (v := 1) hx hb d_M_take_324 (by decide) ?_
    refine lv_isub hx hb d_M_take_325 ?_
    refine g_baload (k := (tn (((3 * a1) + 1) - 1))) (v := (G 39 (tn (((3 * a1) + 1) - 1)))) E hH ⟨by decide, fun _ => rfl⟩ (by rcases he with rfl | rfl <;> (unfold vp_in; first | decide | (split <;> decide))) rfl ((wr_ck _ _ _ _ (by decide)).trans ((wr_k _ _ _ _ (by rcases he with rfl | rfl <;> decide)).trans (wr_ck _ _ _ _ (by decide)))) d_M_take_326 ?_
    refine g_bastore (k := (tn ((3 * a1) + 1))) E hH ⟨by decide, fun _ => rfl⟩ (by rcases he with rfl | rfl <;> (unfold vp_in; first | decide | (split <;> decide))) rfl d_M_take_327 (fun H locs hH => ?_)
    refine lv_iinc (k := 0) (v := 0) hx hb d_M_take_328 hl rfl (by decide) (by decide) rfl (fun ls hl => ?_)
    refine lv_goto (tgt := 283) hx hb d_M_take_331 (by decide) ?_
    refine lv_iload hx hb d_M_take_283 (lv_at hl 0 rfl) ?_
    refine lv_if_le (tgt := 334) hx hb d_M_take_285 (by decide) (fun _ => ?_) (fun h0 => absurd h0 (by decide))
    refine lv_aload_n hx hb d_M_take_334 rfl (lv_at hl 1 rfl) ?_
    refine g_get E hH (gc_M rfl) cl_M 18 (by decide) lf_M_59 rfl d_M_take_335 ?_
    refine lv_iload_n hx hb d_M_take_338 rfl (lv_at hl 4 rfl) ?_
    refine lv_iload_n hx hb d_M_take_339 rfl (lv_at hl 3 rfl) ?_
    refine g_iastore (k := (tn (3 * a1))) E hH ⟨by decide, fun _ => rfl⟩ (by rcases he with rfl | rfl <;> (unfold vp_in; first | decide | (split <;> decide))) rfl d_M_take_340 (fun H locs hH => ?_)
    refine lv_aload_n hx hb d_M_take_341 rfl (lv_at hl 1 rfl) ?_
    refine g_get E hH (gc_M rfl) cl_M 19 (by decide) lf_M_62 rfl d_M_take_342 ?_
    refine lv_iload_n hx hb d_M_take_345 rfl (lv_at hl 4 rfl) ?_
    refine lv_iload hx hb d_M_take_346 (lv_at hl 5 rfl) ?_
    refine g_bastore (k := (tn (3 * a1))) E hH ⟨by decide, fun _ => rfl⟩ (by rcases he with rfl | rfl <;> (unfold vp_in; first | decide | (split <;> decide))) rfl d_M_take_348 (fun H locs hH => ?_)
    refine lv_aload_n hx hb d_M_take_349 rfl (lv_at hl 1 rfl) ?_
    refine g_get E hH (gc_M rfl) cl_M 16 (by decide) lf_M_53 rfl d_M_take_350 ?_
    refine lv_iload_n hx hb d_M_take_353 rfl (lv_at hl 2 rfl) ?_
    refine g_iaload (k := (tn a1)) (v := (G 36 (tn a1))) E hH ⟨by decide, fun _ => rfl⟩ (by rcases he with rfl | rfl <;> (unfold vp_in; first | decide | (split <;> decide))) rfl ((wr_ck _ _ _ _ (by decide)).trans ((wr_ck _ _ _ _ (by decide)).trans ((wr_ck _ _ _ _ (by decide)).trans ((wr_ck _ _ _ _ (by decide)).trans ((wr_ck _ _ _ _ (by decide)).trans (wr_ck _ _ _ _ (by decide))))))) d_M_take_354 ?_
    refine lv_iconst (v := 4) hx hb d_M_take_355 (by decide) ?_
    refine lv_icmp_ne (tgt := 366) hx hb d_M_take_356 (by decide) (fun h1 => ?_) (fun h1 => ?_)
    · exact g_vret E hH (hsp.trans (by simp only [sp_M_take_280, if_neg h1])) d_M_take_366
    · refine lv_aload_n hx hb d_M_take_359 rfl (lv_at hl 1 rfl) ?_
      refine lv_iload_n hx hb d_M_take_360 rfl (lv_at hl 2 rfl) ?_
      refine lv_iload hx hb d_M_take_361 (lv_at hl 6 rfl) ?_
      refine g_callVv (As := [.int _, .int _]) E hH hl (c_M_make l P _ _ _ he) lm_M_169 (gc_M rfl) cl_M (Nat.le_of_ble_eq_true rfl) (Nat.le_of_ble_eq_true rfl) (Nat.le_of_ble_eq_true rfl) (Nat.le_of_ble_eq_true rfl) (Nat.le_of_ble_eq_true rfl) rfl rfl rfl rfl d_M_take_363 (fun H locs hH => ?_)
      exact g_vret E hH (hsp.trans (by simp only [sp_M_take_280, if_pos h1])) d_M_take_366
  refine jn (α := Mem × Array Slot × Int32) (fun q H1 locs1 => sp_M_take G0 a1 a2 = sp_M_take_212 a1 a2 q.1 q.2.2 ∧ lv_has q.2.1 8 [(0, .ref (gad P 21)), (1, .int a1), (2, .int a2), (3, .int (3 * a1)), (5, .int q.2.2)] ∧ gH P s q.1 H1 locs1) (fun q => F0 m 212 q.2.1 []) (fun q H locs h9 => ?_) (fun hC212 => ?_)
  · clear hsp hl hH ls
    obtain ⟨G, ls, x5⟩ := q
    obtain ⟨hsp, hl, hH⟩ := h9
    change lv_has ls 8 [(0, .ref (gad P 21)), (1, .int a1), (2, .int a2), (3, .int (3 * a1)), (5, .int x5)] at hl
    dsimp only at hsp hH ⊢
    refine lv_aload_n hx hb d_M_take_212 rfl (lv_at hl 0 rfl) ?_
    refine g_get E hH (gc_M rfl) cl_M 22 (by decide) lf_M_71 rfl d_M_take_213 ?_
    refine lv_iload_n hx hb d_M_take_216 rfl (lv_at hl 1 rfl) ?_
    refine lv_aload_n hx hb d_M_take_217 rfl (lv_at hl 0 rfl) ?_
    refine g_get E hH (gc_M rfl) cl_M 22 (by decide) lf_M_71 rfl d_M_take_218 ?_
    refine lv_iload_n hx hb d_M_take_221 rfl (lv_at hl 1 rfl) ?_
    refine g_iaload (k := (tn a1)) (v := (G 42 (tn a1))) E hH ⟨by decide, fun _ => rfl⟩ (by rcases he with rfl | rfl <;> (unfold vp_in; first | decide | (split <;> decide))) rfl rfl d_M_take_222 ?_
    refine lv_iconst (v := 4) hx hb d_M_take_223 (by decide) ?_
    refine lv_irem hx hb d_M_take_224 (by decide) ?_
    refine g_iastore (k := (tn a1)) E hH ⟨by decide, fun _ => rfl⟩ (by rcases he with rfl | rfl <;> (unfold vp_in; first | decide | (split <;> decide))) rfl d_M_take_225 (fun H locs hH => ?_)
    refine lv_aload_n hx hb d_M_take_226 rfl (lv_at hl 0 rfl) ?_
    refine g_get E hH (gc_M rfl) cl_M 20 (by decide) lf_M_65 rfl d_M_take_227 ?_
    refine lv_iload_n hx hb d_M_take_230 rfl (lv_at hl 1 rfl) ?_
    refine lv_iload_n hx hb d_M_take_231 rfl (lv_at hl 2 rfl) ?_
    refine jn (α := Int32) (fun z H1 locs1 => z = ((if a2 = 0 then (G 40 (tn a1)) else a2) : Int32) ∧ gH P s (wr G 42 (tn a1) ((G 42 (tn a1)) - (G 42 (tn a1)) / 4 * 4)) H1 locs1) (fun z => F0 m 245 ls (.int z :: .int a1 :: .ref (gad P 40) :: [])) (fun z H locs h9 => ?_) (fun hJ => ?_)
    · obtain ⟨rfl, hH⟩ := h9
      refine g_iastore (k := (tn a1)) E hH ⟨by decide, fun _ => rfl⟩ (by rcases he with rfl | rfl <;> (unfold vp_in; first | decide | (split <;> decide))) rfl d_M_take_245 (fun H locs hH => ?_)
      refine lv_aload_n hx hb d_M_take_246 rfl (lv_at hl 0 rfl) ?_
      refine g_get E hH (gc_M rfl) cl_M 18 (by decide) lf_M_59 rfl d_M_take_247 ?_
      refine lv_iload_n hx hb d_M_take_250 rfl (lv_at hl 3 rfl) ?_
      refine lv_iconst (v := 2) hx hb d_M_take_251 (by decide) ?_
      refine lv_iadd hx hb d_M_take_252 ?_
      refine g_iaload (k := (tn ((3 * a1) + 2))) (v := (G 38 (tn ((3 * a1) + 2)))) E hH ⟨by decide, fun _ => rfl⟩ (by rcases he with rfl | rfl <;> (unfold vp_in; first | decide | (split <;> decide))) rfl ((wr_ck _ _ _ _ (by decide)).trans (wr_ck _ _ _ _ (by decide))) d_M_take_253 ?_
      refine jn (α := Int32) (fun z H1 locs1 => z = ((if (G 38 (tn ((3 * a1) + 2))) = 0 then 0 else (if (G 39 (tn ((3 * a1) + 2))) = 0 then (if x5 = 0 then 1 else 0) else 0)) : Int32) ∧ isB z ∧ gH P s (wr (wr G 42 (tn a1) ((G 42 (tn a1)) - (G 42 (tn a1)) / 4 * 4)) 40 (tn a1) ((if a2 = 0 then (G 40 (tn a1)) else a2) : Int32)) H1 locs1) (fun z => F0 m 278 ls (.int z :: [])) (fun z H locs h9 => ?_) (fun hJ => ?_)
      · obtain ⟨rfl, hz278, hH⟩ := h9
        refine lv_istore hx hb d_M_take_278 hl (by decide) rfl (fun ls hl => ?_)
        exact hC280 ((wr (wr G 42 (tn a1) ((G 42 (tn a1)) - (G 42 (tn a1)) / 4 * 4)) 40 (tn a1) ((if a2 = 0 then (G 40 (tn a1)) else a2) : Int32)), _, x5, ((if (G 38 (tn ((3 * a1) + 2))) = 0 then 0 else (if (G 39 (tn ((3 * a1) + 2))) = 0 then (if x5 = 0 then 1 else 0) else 0)) : Int32)) _ _ ⟨hsp.trans (by rw [sp_M_take_212]), lv_sub hl [1, 2, 3, 4, 5, 0] rfl, hH⟩
      · refine lv_if_eq (tgt := 277) hx hb d_M_take_254 (by decide) (fun h2 => ?_) (fun h2 => ?_)
        · refine lv_iconst (v := 0) hx hb d_M_take_277 (by decide) ?_
          exact hJ _ _ _ ⟨Eq.symm (if_pos h2), isB_0, hH⟩
        · refine lv_aload_n hx hb d_M_take_257 rfl (lv_at hl 0 rfl) ?_
          refine g_get E hH (gc_M rfl) cl_M 19 (by decide) lf_M_62 rfl d_M_take_258 ?_
          refine lv_iload_n hx hb d_M_take_261 rfl (lv_at hl 3 rfl) ?_
          refine lv_iconst (v := 2) hx hb d_M_take_262 (by decide) ?_
          refine lv_iadd hx hb d_M_take_263 ?_
          refine g_baload (k := (tn ((3 * a1) + 2))) (v := (G 39 (tn ((3 * a1) + 2)))) E hH ⟨by decide, fun _ => rfl⟩ (by rcases he with rfl | rfl <;> (unfold vp_in; first | decide | (split <;> decide))) rfl ((wr_ck _ _ _ _ (by decide)).trans (wr_ck _ _ _ _ (by decide))) d_M_take_264 ?_
          refine lv_if_ne (tgt := 277) hx hb d_M_take_265 (by decide) (fun h3 => ?_) (fun h3 => ?_)
          · refine lv_iconst (v := 0) hx hb d_M_take_277 (by decide) ?_
            exact hJ _ _ _ ⟨Eq.symm ((if_neg h2).trans (if_neg h3)), isB_0, hH⟩
          · refine lv_iload hx hb d_M_take_268 (lv_at hl 4 rfl) ?_
            refine lv_if_ne (tgt := 277) hx hb d_M_take_270 (by decide) (fun h4 => ?_) (fun h4 => ?_)
            · refine lv_iconst (v := 0) hx hb d_M_take_277 (by decide) ?_
              exact hJ _ _ _ ⟨Eq.symm ((if_neg h2).trans ((if_pos h3).trans (if_neg h4))), isB_0, hH⟩
            · refine lv_iconst (v := 1) hx hb d_M_take_273 (by decide) ?_
              refine lv_goto (tgt := 278) hx hb d_M_take_274 (by decide) ?_
              exact hJ _ _ _ ⟨Eq.symm ((if_neg h2).trans ((if_pos h3).trans (if_pos h4))), isB_1, hH⟩
    · refine lv_if_ne (tgt := 244) hx hb d_M_take_232 (by decide) (fun h5 => ?_) (fun h5 => ?_)
      · refine lv_iload_n hx hb d_M_take_244 rfl (lv_at hl 2 rfl) ?_
        exact hJ _ _ _ ⟨Eq.symm (if_neg h5), hH⟩
      · refine lv_aload_n hx hb d_M_take_235 rfl (lv_at hl 0 rfl) ?_
        refine g_get E hH (gc_M rfl) cl_M 20 (by decide) lf_M_65 rfl d_M_take_236 ?_
        refine lv_iload_n hx hb d_M_take_239 rfl (lv_at hl 1 rfl) ?_
        refine g_iaload (k := (tn a1)) (v := (G 40 (tn a1))) E hH ⟨by decide, fun _ => rfl⟩ (by rcases he with rfl | rfl <;> (unfold vp_in; first | decide | (split <;> decide))) rfl (wr_ck _ _ _ _ (by decide)) d_M_take_240 ?_
        refine lv_goto (tgt := 245) hx hb d_M_take_241 (by decide) ?_
        exact hJ _ _ _ ⟨Eq.symm (if_pos h5), hH⟩
  refine jn (α := Mem × Array Slot × Int32) (fun q H1 locs1 => sp_M_take G0 a1 a2 = sp_M_take_139 a1 a2 q.1 q.2.2 ∧ lv_has q.2.1 8 [(0, .ref (gad P 21)), (1, .int a1), (2, .int a2), (3, .int (3 * a1)), (5, .int q.2.2)] ∧ gH P s q.1 H1 locs1) (fun q => F0 m 139 q.2.1 []) (fun q H locs h9 => ?_) (fun hC139 => ?_)
  · clear hsp hl hH ls
    obtain ⟨G, ls, x5⟩ := q
    obtain ⟨hsp, hl, hH⟩ := h9
    change lv_has ls 8 [(0, .ref (gad P 21)), (1, .int a1), (2, .int a2), (3, .int (3 * a1)), (5, .int x5)] at hl
    dsimp only at hsp hH ⊢
    refine lv_aload_n hx hb d_M_take_139 rfl (lv_at hl 0 rfl) ?_
    refine g_get E hH (gc_M rfl) cl_M 21 (by decide) lf_M_68 rfl d_M_take_140 ?_
    refine lv_iload_n hx hb d_M_take_143 rfl (lv_at hl 1 rfl) ?_
    refine lv_iload hx hb d_M_take_144 (lv_at hl 4 rfl) ?_
    refine jn (α := Int32) (fun z H1 locs1 => z = ((if x5 = 0 then (G 41 (tn a1)) else a2) : Int32) ∧ gH P s G H1 locs1) (fun z => F0 m 159 ls (.int z :: .int a1 :: .ref (gad P 41) :: [])) (fun z H locs h9 => ?_) (fun hJ => ?_)
    · obtain ⟨rfl, hH⟩ := h9
      refine g_iastore (k := (tn a1)) E hH ⟨by decide, fun _ => rfl⟩ (by rcases he with rfl | rfl <;> (unfold vp_in; first | decide | (split <;> decide))) rfl d_M_take_159 (fun H locs hH => ?_)
      refine lv_aload_n hx hb d_M_take_160 rfl (lv_at hl 0 rfl) ?_
      refine g_get E hH (gc_M rfl) cl_M 22 (by decide) lf_M_71 rfl d_M_take_161 ?_
      refine lv_iload_n hx hb d_M_take_164 rfl (lv_at hl 1 rfl) ?_
      refine lv_iload_n hx hb d_M_take_165 rfl (lv_at hl 2 rfl) ?_
      refine jn (α := Int32) (fun z H1 locs1 => z = ((if a2 = 0 then (if (G 40 (tn a1)) = 0 then 0 else ((G 42 (tn a1)) + 1)) else 0) : Int32) ∧ gH P s (wr G 41 (tn a1) ((if x5 = 0 then (G 41 (tn a1)) else a2) : Int32)) H1 locs1) (fun z => F0 m 190 ls (.int z :: .int a1 :: .ref (gad P 42) :: [])) (fun z H locs h9 => ?_) (fun hJ => ?_)
      · obtain ⟨rfl, hH⟩ := h9
        refine g_iastore (k := (tn a1)) E hH ⟨by decide, fun _ => rfl⟩ (by rcases he with rfl | rfl <;> (unfold vp_in; first | decide | (split <;> decide))) rfl d_M_take_190 (fun H locs hH => ?_)
        refine lv_aload_n hx hb d_M_take_191 rfl (lv_at hl 0 rfl) ?_
        refine lv_iload_n hx hb d_M_take_192 rfl (lv_at hl 1 rfl) ?_
        refine lv_aload_n hx hb d_M_take_193 rfl (lv_at hl 0 rfl) ?_
        refine g_get E hH (gc_M rfl) cl_M 22 (by decide) lf_M_71 rfl d_M_take_194 ?_
        refine lv_iload_n hx hb d_M_take_197 rfl (lv_at hl 1 rfl) ?_
        refine g_iaload (k := (tn a1)) (v := ((if a2 = 0 then (if (G 40 (tn a1)) = 0 then 0 else ((G 42 (tn a1)) + 1)) else 0) : Int32)) E hH ⟨by decide, fun _ => rfl⟩ (by rcases he with rfl | rfl <;> (unfold vp_in; first | decide | (split <;> decide))) rfl (wr_same _ _ _ _) d_M_take_198 ?_
        refine lv_iconst (v := 4) hx hb d_M_take_199 (by decide) ?_
        refine jn (α := Int32) (fun z H1 locs1 => z = ((if ((if a2 = 0 then (if (G 40 (tn a1)) = 0 then 0 else ((G 42 (tn a1)) + 1)) else 0) : Int32) = 4 then 1 else 0) : Int32) ∧ isB z ∧ gH P s (wr (wr G 41 (tn a1) ((if x5 = 0 then (G 41 (tn a1)) else a2) : Int32)) 42 (tn a1) ((if a2 = 0 then (if (G 40 (tn a1)) = 0 then 0 else ((G 42 (tn a1)) + 1)) else 0) : Int32)) H1 locs1) (fun z => F0 m 208 ls (.int z :: .int a1 :: .ref (gad P 21) :: [])) (fun z H locs h9 => ?_) (fun hJ => ?_)
        · obtain ⟨rfl, hz208, hH⟩ := h9
          refine lv_iconst (v := 1) hx hb d_M_take_208 (by decide) ?_
          refine g_callVv (As := [.int _, .int _, .int _]) E hH hl (c_M_fault l P _ _ _ _ he (Or.inr (Or.inl rfl))) lm_M_165 (gc_M rfl) cl_M (Nat.le_of_ble_eq_true rfl) (Nat.le_of_ble_eq_true rfl) (Nat.le_of_ble_eq_true rfl) (Nat.le_of_ble_eq_true rfl) (Nat.le_of_ble_eq_true rfl) rfl rfl rfl rfl d_M_take_209 (fun H locs hH => ?_)
          exact hC212 ((sp_M_fault (wr (wr G 41 (tn a1) ((if x5 = 0 then (G 41 (tn a1)) else a2) : Int32)) 42 (tn a1) ((if a2 = 0 then (if (G 40 (tn a1)) = 0 then 0 else ((G 42 (tn a1)) + 1)) else 0) : Int32)) a1 ((if ((if a2 = 0 then (if (G 40 (tn a1)) = 0 then 0 else ((G 42 (tn a1)) + 1)) else 0) : Int32) = 4 then 1 else 0) : Int32) 1), _, x5) _ _ ⟨hsp.trans (by rw [sp_M_take_139]), lv_sub hl [0, 1, 2, 3, 4] rfl, hH⟩
        · refine lv_icmp_ne (tgt := 207) hx hb d_M_take_200 (by decide) (fun h6 => ?_) (fun h6 => ?_)
          · refine lv_iconst (v := 0) hx hb d_M_take_207 (by decide) ?_
            exact hJ _ _ _ ⟨Eq.symm (if_neg h6), isB_0, hH⟩
          · refine lv_iconst (v := 1) hx hb d_M_take_203 (by decide) ?_
            refine lv_goto (tgt := 208) hx hb d_M_take_204 (by decide) ?_
            exact hJ _ _ _ ⟨Eq.symm (if_pos h6), isB_1, hH⟩
      · refine lv_if_ne (tgt := 189) hx hb d_M_take_166 (by decide) (fun h7 => ?_) (fun h7 => ?_)
        · refine lv_iconst (v := 0) hx hb d_M_take_189 (by decide) ?_
          exact hJ _ _ _ ⟨Eq.symm (if_neg h7), hH⟩
        · refine lv_aload_n hx hb d_M_take_169 rfl (lv_at hl 0 rfl) ?_
          refine g_get E hH (gc_M rfl) cl_M 20 (by decide) lf_M_65 rfl d_M_take_170 ?_
          refine lv_iload_n hx hb d_M_take_173 rfl (lv_at hl 1 rfl) ?_
          refine g_iaload (k := (tn a1)) (v := (G 40 (tn a1))) E hH ⟨by decide, fun _ => rfl⟩ (by rcases he with rfl | rfl <;> (unfold vp_in; first | decide | (split <;> decide))) rfl (wr_ck _ _ _ _ (by decide)) d_M_take_174 ?_
          refine lv_if_eq (tgt := 189) hx hb d_M_take_175 (by decide) (fun h8 => ?_) (fun h8 => ?_)
          · refine lv_iconst (v := 0) hx hb d_M_take_189 (by decide) ?_
            exact hJ _ _ _ ⟨Eq.symm ((if_pos h7).trans (if_pos h8)), hH⟩
          · refine lv_aload_n hx hb d_M_take_178 rfl (lv_at hl 0 rfl) ?_
            refine g_get E hH (gc_M rfl) cl_M 22 (by decide) lf_M_71 rfl d_M_take_179 ?_
            refine lv_iload_n hx hb d_M_take_182 rfl (lv_at hl 1 rfl) ?_
            refine g_iaload (k := (tn a1)) (v := (G 42 (tn a1))) E hH ⟨by decide, fun _ => rfl⟩ (by rcases he with rfl | rfl <;> (unfold vp_in; first | decide | (split <;> decide))) rfl (wr_ck _ _ _ _ (by decide)) d_M_take_183 ?_
            refine lv_iconst (v := 1) hx hb d_M_take_184 (by decide) ?_
            refine lv_iadd hx hb d_M_take_185 ?_
            refine lv_goto (tgt := 190) hx hb d_M_take_186 (by decide) ?_
            exact hJ _ _ _ ⟨Eq.symm ((if_pos h7).trans (if_neg h8)), hH⟩
    · refine lv_if_eq (tgt := 153) hx hb d_M_take_146 (by decide) (fun h9 => ?_) (fun h9 => ?_)
      · refine lv_aload_n hx hb d_M_take_153 rfl (lv_at hl 0 rfl) ?_
        refine g_get E hH (gc_M rfl) cl_M 21 (by decide) lf_M_68 rfl d_M_take_154 ?_
        refine lv_iload_n hx hb d_M_take_157 rfl (lv_at hl 1 rfl) ?_
        refine g_iaload (k := (tn a1)) (v := (G 41 (tn a1))) E hH ⟨by decide, fun _ => rfl⟩ (by rcases he with rfl | rfl <;> (unfold vp_in; first | decide | (split <;> decide))) rfl rfl d_M_take_158 ?_
        exact hJ _ _ _ ⟨Eq.symm (if_pos h9), hH⟩
      · refine lv_iload_n hx hb d_M_take_149 rfl (lv_at hl 2 rfl) ?_
        refine lv_goto (tgt := 159) hx hb d_M_take_150 (by decide) ?_
        exact hJ _ _ _ ⟨Eq.symm (if_neg h9), hH⟩
  refine jn (α := Mem × Array Slot × Int32 × Int32) (fun q H1 locs1 => sp_M_take G0 a1 a2 = sp_M_take_92 a1 a2 q.1 q.2.2.1 q.2.2.2 ∧ lv_has q.2.1 8 [(0, .ref (gad P 21)), (1, .int a1), (2, .int a2), (3, .int (3 * a1)), (4, .int q.2.2.1), (5, .int q.2.2.2)] ∧ gH P s q.1 H1 locs1) (fun q => F0 m 92 q.2.1 []) (fun q H locs h9 => ?_) (fun hC92 => ?_)
  · clear hsp hl hH ls
    obtain ⟨G, ls, x4, x5⟩ := q
    obtain ⟨hsp, hl, hH⟩ := h9
    change lv_has ls 8 [(0, .ref (gad P 21)), (1, .int a1), (2, .int a2), (3, .int (3 * a1)), (4, .int x4), (5, .int x5)] at hl
    dsimp only at hsp hH ⊢
    refine lv_aload_n hx hb d_M_take_92 rfl (lv_at hl 0 rfl) ?_
    refine lv_iload_n hx hb d_M_take_93 rfl (lv_at hl 1 rfl) ?_
    refine lv_iload hx hb d_M_take_94 (lv_at hl 4 rfl) ?_
    refine jn (α := Int32) (fun z H1 locs1 => z = ((if x4 = 0 then 0 else (if x5 = 0 then 1 else 0)) : Int32) ∧ isB z ∧ gH P s G H1 locs1) (fun z => F0 m 109 ls (.int z :: .int a1 :: .ref (gad P 21) :: [])) (fun z H locs h9 => ?_) (fun hJ => ?_)
    · obtain ⟨rfl, hz109, hH⟩ := h9
      refine lv_iconst (v := 1) hx hb d_M_take_109 (by decide) ?_
      refine g_callVv (As := [.int _, .int _, .int _]) E hH hl (c_M_fault l P _ _ _ _ he (Or.inr (Or.inl rfl))) lm_M_165 (gc_M rfl) cl_M (Nat.le_of_ble_eq_true rfl) (Nat.le_of_ble_eq_true rfl) (Nat.le_of_ble_eq_true rfl) (Nat.le_of_ble_eq_true rfl) (Nat.le_of_ble_eq_true rfl) rfl rfl rfl rfl d_M_take_110 (fun H locs hH => ?_)
      refine lv_aload_n hx hb d_M_take_113 rfl (lv_at hl 0 rfl) ?_
      refine lv_iload_n hx hb d_M_take_114 rfl (lv_at hl 1 rfl) ?_
      refine lv_iload hx hb d_M_take_115 (lv_at hl 5 rfl) ?_
      refine jn (α := Int32) (fun z H1 locs1 => z = ((if x5 = 0 then 0 else (if ((sp_M_fault G a1 ((if x4 = 0 then 0 else (if x5 = 0 then 1 else 0)) : Int32) 1) 41 (tn a1)) = a2 then 1 else 0)) : Int32) ∧ isB z ∧ gH P s (sp_M_fault G a1 ((if x4 = 0 then 0 else (if x5 = 0 then 1 else 0)) : Int32) 1) H1 locs1) (fun z => F0 m 135 ls (.int z :: .int a1 :: .ref (gad P 21) :: [])) (fun z H locs h9 => ?_) (fun hJ => ?_)
      · obtain ⟨rfl, hz135, hH⟩ := h9
        refine lv_iconst (v := 1) hx hb d_M_take_135 (by decide) ?_
        refine g_callVv (As := [.int _, .int _, .int _]) E hH hl (c_M_fault l P _ _ _ _ he (Or.inr (Or.inl rfl))) lm_M_165 (gc_M rfl) cl_M (Nat.le_of_ble_eq_true rfl) (Nat.le_of_ble_eq_true rfl) (Nat.le_of_ble_eq_true rfl) (Nat.le_of_ble_eq_true rfl) (Nat.le_of_ble_eq_true rfl) rfl rfl rfl rfl d_M_take_136 (fun H locs hH => ?_)
        exact hC139 ((sp_M_fault (sp_M_fault G a1 ((if x4 = 0 then 0 else (if x5 = 0 then 1 else 0)) : Int32) 1) a1 ((if x5 = 0 then 0 else (if ((sp_M_fault G a1 ((if x4 = 0 then 0 else (if x5 = 0 then 1 else 0)) : Int32) 1) 41 (tn a1)) = a2 then 1 else 0)) : Int32) 1), _, x5) _ _ ⟨hsp.trans (by rw [sp_M_take_92]), lv_sub hl [0, 1, 2, 3, 5] rfl, hH⟩
      · refine lv_if_eq (tgt := 134) hx hb d_M_take_117 (by decide) (fun h10 => ?_) (fun h10 => ?_)
        · refine lv_iconst (v := 0) hx hb d_M_take_134 (by decide) ?_
          exact hJ _ _ _ ⟨Eq.symm (if_pos h10), isB_0, hH⟩
        · refine lv_aload_n hx hb d_M_take_120 rfl (lv_at hl 0 rfl) ?_
          refine g_get E hH (gc_M rfl) cl_M 21 (by decide) lf_M_68 rfl d_M_take_121 ?_
          refine lv_iload_n hx hb d_M_take_124 rfl (lv_at hl 1 rfl) ?_
          refine g_iaload (k := (tn a1)) (v := ((sp_M_fault G a1 ((if x4 = 0 then 0 else (if x5 = 0 then 1 else 0)) : Int32) 1) 41 (tn a1))) E hH ⟨by decide, fun _ => rfl⟩ (by rcases he with rfl | rfl <;> (unfold vp_in; first | decide | (split <;> decide))) rfl rfl d_M_take_125 ?_
          refine lv_iload_n hx hb d_M_take_126 rfl (lv_at hl 2 rfl) ?_
          refine lv_icmp_ne (tgt := 134) hx hb d_M_take_127 (by decide) (fun h11 => ?_) (fun h11 => ?_)
          · refine lv_iconst (v := 0) hx hb d_M_take_134 (by decide) ?_
            exact hJ _ _ _ ⟨Eq.symm ((if_neg h10).trans (if_neg h11)), isB_0, hH⟩
          · refine lv_iconst (v := 1) hx hb d_M_take_130 (by decide) ?_
            refine lv_goto (tgt := 135) hx hb d_M_take_131 (by decide) ?_
            exact hJ _ _ _ ⟨Eq.symm ((if_neg h10).trans (if_pos h11)), isB_1, hH⟩
    · refine lv_if_eq (tgt := 108) hx hb d_M_take_96 (by decide) (fun h12 => ?_) (fun h12 => ?_)
      · refine lv_iconst (v := 0) hx hb d_M_take_108 (by decide) ?_
        exact hJ _ _ _ ⟨Eq.symm (if_pos h12), isB_0, hH⟩
      · refine lv_iload hx hb d_M_take_99 (lv_at hl 5 rfl) ?_
        refine lv_if_ne (tgt := 108) hx hb d_M_take_101 (by decide) (fun h13 => ?_) (fun h13 => ?_)
        · refine lv_iconst (v := 0) hx hb d_M_take_108 (by decide) ?_
          exact hJ _ _ _ ⟨Eq.symm ((if_neg h12).trans (if_neg h13)), isB_0, hH⟩
        · refine lv_iconst (v := 1) hx hb d_M_take_104 (by decide) ?_
          refine lv_goto (tgt := 109) hx hb d_M_take_105 (by decide) ?_
          exact hJ _ _ _ ⟨Eq.symm ((if_neg h12).trans (if_pos h13)), isB_1, hH⟩
  refine lv_iconst (v := 3) hx hb d_M_take_0 (by decide) ?_
  refine lv_iload_n hx hb d_M_take_1 rfl (lv_at hl 1 rfl) ?_
  refine lv_imul hx hb d_M_take_2 ?_
  refine lv_istore_n hx hb d_M_take_3 rfl hl (by decide) rfl (fun ls hl => ?_)
  refine lv_aload_n hx hb d_M_take_4 rfl (lv_at hl 1 rfl) ?_
  refine g_get E hH (gc_M rfl) cl_M 17 (by decide) lf_M_56 rfl d_M_take_5 ?_
  refine lv_iload_n hx hb d_M_take_8 rfl (lv_at hl 2 rfl) ?_
  refine lv_iload_n hx hb d_M_take_9 rfl (lv_at hl 3 rfl) ?_
  refine g_iastore (k := (tn a1)) E hH ⟨by decide, fun _ => rfl⟩ (by rcases he with rfl | rfl <;> (unfold vp_in; first | decide | (split <;> decide))) rfl d_M_take_10 (fun H locs hH => ?_)
  refine lv_aload_n hx hb d_M_take_11 rfl (lv_at hl 1 rfl) ?_
  refine g_get E hH (gc_M rfl) cl_M 16 (by decide) lf_M_53 rfl d_M_take_12 ?_
  refine lv_iload_n hx hb d_M_take_15 rfl (lv_at hl 2 rfl) ?_
  refine lv_aload_n hx hb d_M_take_16 rfl (lv_at hl 1 rfl) ?_
  refine g_get E hH (gc_M rfl) cl_M 16 (by decide) lf_M_53 rfl d_M_take_17 ?_
  refine lv_iload_n hx hb d_M_take_20 rfl (lv_at hl 2 rfl) ?_
  refine g_iaload (k := (tn a1)) (v := (G0 36 (tn a1))) E hH ⟨by decide, fun _ => rfl⟩ (by rcases he with rfl | rfl <;> (unfold vp_in; first | decide | (split <;> decide))) rfl (wr_ck _ _ _ _ (by decide)) d_M_take_21 ?_
  refine lv_iconst (v := 4) hx hb d_M_take_22 (by decide) ?_
  refine jn (α := Int32) (fun z H1 locs1 => z = ((if 4 ≤ (G0 36 (tn a1)) then 4 else ((G0 36 (tn a1)) + 1)) : Int32) ∧ gH P s (wr G0 37 (tn a1) a2) H1 locs1) (fun z => F0 m 38 ls (.int z :: .int a1 :: .ref (gad P 36) :: [])) (fun z H locs h9 => ?_) (fun hJ => ?_)
  · obtain ⟨rfl, hH⟩ := h9
    refine g_iastore (k := (tn a1)) E hH ⟨by decide, fun _ => rfl⟩ (by rcases he with rfl | rfl <;> (unfold vp_in; first | decide | (split <;> decide))) rfl d_M_take_38 (fun H locs hH => ?_)
    refine lv_iload_n hx hb d_M_take_39 rfl (lv_at hl 3 rfl) ?_
    refine jn (α := Int32) (fun z H1 locs1 => z = ((if a2 = 0 then 0 else (if a2 = (G0 40 (tn a1)) then 1 else 0)) : Int32) ∧ isB z ∧ gH P s (wr (wr G0 37 (tn a1) a2) 36 (tn a1) ((if 4 ≤ (G0 36 (tn a1)) then 4 else ((G0 36 (tn a1)) + 1)) : Int32)) H1 locs1) (fun z => F0 m 58 ls (.int z :: [])) (fun z H locs h9 => ?_) (fun hJ => ?_)
    · obtain ⟨rfl, hz58, hH⟩ := h9
      refine lv_istore hx hb d_M_take_58 hl (by decide) rfl (fun ls hl => ?_)
      refine lv_iload hx hb d_M_take_60 (lv_at hl 0 rfl) ?_
      refine jn (α := Int32) (fun z H1 locs1 => z = ((if ((if a2 = 0 then 0 else (if a2 = (G0 40 (tn a1)) then 1 else 0)) : Int32) = 0 then 0 else (if (G0 38 (tn (3 * a1))) = 0 then (if (G0 38 (tn ((3 * a1) + 1))) = 0 then 1 else 0) else 0)) : Int32) ∧ isB z ∧ gH P s (wr (wr G0 37 (tn a1) a2) 36 (tn a1) ((if 4 ≤ (G0 36 (tn a1)) then 4 else ((G0 36 (tn a1)) + 1)) : Int32)) H1 locs1) (fun z => F0 m 90 ls (.int z :: [])) (fun z H locs h9 => ?_) (fun hJ => ?_)
      · obtain ⟨rfl, hz90, hH⟩ := h9
        refine lv_istore hx hb d_M_take_90 hl (by decide) rfl (fun ls hl => ?_)
        exact hC92 ((wr (wr G0 37 (tn a1) a2) 36 (tn a1) ((if 4 ≤ (G0 36 (tn a1)) then 4 else ((G0 36 (tn a1)) + 1)) : Int32)), _, ((if a2 = 0 then 0 else (if a2 = (G0 40 (tn a1)) then 1 else 0)) : Int32), ((if ((if a2 = 0 then 0 else (if a2 = (G0 40 (tn a1)) then 1 else 0)) : Int32) = 0 then 0 else (if (G0 38 (tn (3 * a1))) = 0 then (if (G0 38 (tn ((3 * a1) + 1))) = 0 then 1 else 0) else 0)) : Int32)) _ _ ⟨hsp.trans (by rw [sp_M_take]), lv_sub hl [3, 4, 5, 2, 1, 0] rfl, hH⟩
      · refine lv_if_eq (tgt := 89) hx hb d_M_take_62 (by decide) (fun h14 => ?_) (fun h14 => ?_)
        · refine lv_iconst (v := 0) hx hb d_M_take_89 (by decide) ?_
          exact hJ _ _ _ ⟨Eq.symm (if_pos h14), isB_0, hH⟩
        · refine lv_aload_n hx hb d_M_take_65 rfl (lv_at hl 2 rfl) ?_
          refine g_get E hH (gc_M rfl) cl_M 18 (by decide) lf_M_59 rfl d_M_take_66 ?_
          refine lv_iload_n hx hb d_M_take_69 rfl (lv_at hl 1 rfl) ?_
          refine g_iaload (k := (tn (3 * a1))) (v := (G0 38 (tn (3 * a1)))) E hH ⟨by decide, fun _ => rfl⟩ (by rcases he with rfl | rfl <;> (unfold vp_in; first | decide | (split <;> decide))) rfl ((wr_ck _ _ _ _ (by decide)).trans (wr_ck _ _ _ _ (by decide))) d_M_take_70 ?_
          refine lv_if_ne (tgt := 89) hx hb d_M_take_71 (by decide) (fun h15 => ?_) (fun h15 => ?_)
          · refine lv_iconst (v := 0) hx hb d_M_take_89 (by decide) ?_
            exact hJ _ _ _ ⟨Eq.symm ((if_neg h14).trans (if_neg h15)), isB_0, hH⟩
          · refine lv_aload_n hx hb d_M_take_74 rfl (lv_at hl 2 rfl) ?_
            refine g_get E hH (gc_M rfl) cl_M 18 (by decide) lf_M_59 rfl d_M_take_75 ?_
            refine lv_iload_n hx hb d_M_take_78 rfl (lv_at hl 1 rfl) ?_
            refine lv_iconst (v := 1) hx hb d_M_take_79 (by decide) ?_
            refine lv_iadd hx hb d_M_take_80 ?_
            refine g_iaload (k := (tn ((3 * a1) + 1))) (v := (G0 38 (tn ((3 * a1) + 1)))) E hH ⟨by decide, fun _ => rfl⟩ (by rcases he with rfl | rfl <;> (unfold vp_in; first | decide | (split <;> decide))) rfl ((wr_ck _ _ _ _ (by decide)).trans (wr_ck _ _ _ _ (by decide))) d_M_take_81 ?_
            refine lv_if_ne (tgt := 89) hx hb d_M_take_82 (by decide) (fun h16 => ?_) (fun h16 => ?_)
            · refine lv_iconst (v := 0) hx hb d_M_take_89 (by decide) ?_
              exact hJ _ _ _ ⟨Eq.symm ((if_neg h14).trans ((if_pos h15).trans (if_neg h16))), isB_0, hH⟩
            · refine lv_iconst (v := 1) hx hb d_M_take_85 (by decide) ?_
              refine lv_goto (tgt := 90) hx hb d_M_take_86 (by decide) ?_
              exact hJ _ _ _ ⟨Eq.symm ((if_neg h14).trans ((if_pos h15).trans (if_pos h16))), isB_1, hH⟩
    · refine lv_if_eq (tgt := 57) hx hb d_M_take_40 (by decide) (fun h17 => ?_) (fun h17 => ?_)
      · refine lv_iconst (v := 0) hx hb d_M_take_57 (by decide) ?_
        exact hJ _ _ _ ⟨Eq.symm (if_pos h17), isB_0, hH⟩
      · refine lv_iload_n hx hb d_M_take_43 rfl (lv_at hl 3 rfl) ?_
        refine lv_aload_n hx hb d_M_take_44 rfl (lv_at hl 1 rfl) ?_
        refine g_get E hH (gc_M rfl) cl_M 20 (by decide) lf_M_65 rfl d_M_take_45 ?_
        refine lv_iload_n hx hb d_M_take_48 rfl (lv_at hl 2 rfl) ?_
        refine g_iaload (k := (tn a1)) (v := (G0 40 (tn a1))) E hH ⟨by decide, fun _ => rfl⟩ (by rcases he with rfl | rfl <;> (unfold vp_in; first | decide | (split <;> decide))) rfl ((wr_ck _ _ _ _ (by decide)).trans (wr_ck _ _ _ _ (by decide))) d_M_take_49 ?_
        refine lv_icmp_ne (tgt := 57) hx hb d_M_take_50 (by decide) (fun h18 => ?_) (fun h18 => ?_)
        · refine lv_iconst (v := 0) hx hb d_M_take_57 (by decide) ?_
          exact hJ _ _ _ ⟨Eq.symm ((if_neg h17).trans (if_neg h18)), isB_0, hH⟩
        · refine lv_iconst (v := 1) hx hb d_M_take_53 (by decide) ?_
          refine lv_goto (tgt := 58) hx hb d_M_take_54 (by decide) ?_
          exact hJ _ _ _ ⟨Eq.symm ((if_neg h17).trans (if_pos h18)), isB_1, hH⟩
  · refine lv_icmp_ge (tgt := 37) hx hb d_M_take_23 (by decide) (fun h19 => ?_) (fun h19 => ?_)
    · refine lv_iconst (v := 4) hx hb d_M_take_37 (by decide) ?_
      exact hJ _ _ _ ⟨Eq.symm (if_pos h19), hH⟩
    · refine lv_aload_n hx hb d_M_take_26 rfl (lv_at hl 1 rfl) ?_
      refine g_get E hH (gc_M rfl) cl_M 16 (by decide) lf_M_53 rfl d_M_take_27 ?_
      refine lv_iload_n hx hb d_M_take_30 rfl (lv_at hl 2 rfl) ?_
      refine g_iaload (k := (tn a1)) (v := (G0 36 (tn a1))) E hH ⟨by decide, fun _ => rfl⟩ (by rcases he with rfl | rfl <;> (unfold vp_in; first | decide | (split <;> decide))) rfl (wr_ck _ _ _ _ (by decide)) d_M_take_31 ?_
      refine lv_iconst (v := 1) hx hb d_M_take_32 (by decide) ?_
      refine lv_iadd hx hb d_M_take_33 ?_
      refine lv_goto (tgt := 38) hx hb d_M_take_34 (by decide) ?_
      exact hJ _ _ _ ⟨Eq.symm (if_neg h19), hH⟩
end
section
theorem pl_spec (c : Nat) (a1 : Int32) (G : Mem) {w : Nat} (hw : w ≤ 8) (hG : G c 2 = nI w) : ∀ (d j : Nat), j ≤ w → d = w - j + 1 → ∃ k, j ≤ k ∧ k ≤ w ∧ sp_A_placeOf_2 c a1 d G (nI j) = nI k ∧ (k < w → G (c + 1) k = a1) ∧ ∀ i, j ≤ i → i < k → G (c + 1) i ≠ a1 := by
  intro d
  induction d with
  | zero => intro j hj hd; omega
  | succ d ih =>
    intro j hj hd
    rw [sp_A_placeOf_2, hG]
    by_cases h : j = w
    · subst h
      exact ⟨j, Nat.le_refl _, Nat.le_refl _, if_pos (nI_le (Nat.le_refl _) (by omega)), fun h => by omega, fun i a b => by omega⟩
    · have hlt : j < w := by omega
      rw [if_neg (nI_ge hlt (by omega)), tn_nI (by omega)]
      by_cases h2 : G (c + 1) j = a1
      · exact ⟨j, Nat.le_refl _, hj, if_pos h2, fun _ => h2, fun i a b => by omega⟩
      · rw [if_neg h2, nI_1]
        obtain ⟨k, h3, h4, h5, h6, h7⟩ := ih (j + 1) (by omega) (by omega)
        refine ⟨k, by omega, h4, h5, h6, fun i a b => ?_⟩
        by_cases hi : i = j
        · subst hi; exact h2
        · exact h7 i (by omega) b
theorem place_spec {c : Nat} {G : Mem} (hm : ∃ w : Nat, w ≤ 8 ∧ G c 2 = nI w) (a1 : Int32) : ∃ w k : Nat, w ≤ 8 ∧ G c 2 = nI w ∧ k ≤ w ∧ sp_A_placeOf c G a1 = nI k ∧ (k < w → G (c + 1) k = a1) ∧ ∀ i, i < k → G (c + 1) i ≠ a1 := by
  obtain ⟨w, hw, hG⟩ := hm
  obtain ⟨k, -, h4, h5, h6, h7⟩ := pl_spec c a1 G hw hG (w + 1) 0 (Nat.zero_le _) (by omega)
  refine ⟨w, k, hw, hG, h4, ?_, h6, fun i h => h7 i (Nat.zero_le _) h⟩
  rw [sp_A_placeOf, hG, tn_nI (by omega)]
  exact h5
theorem ch_in {c : Nat} {G : Mem} {a1 : Int32} (hm : ∃ w : Nat, w ≤ 8 ∧ G c 2 = nI w) (h1 : sp_A_placeOf c G a1 < 8) : vp_in (sp_A_placeOf c G a1) 8 := by
  obtain ⟨w, k, hw, -, hk, e, -, -⟩ := place_spec hm a1
  rw [e] at h1 ⊢
  have : k < 8 := (nI_ltI (b := 8) (by omega) (by omega)).mp h1
  exact vp_in_nI this (by omega)
theorem ac_in {c : Nat} {G : Mem} {a1 : Int32} (hm : ∃ w : Nat, w ≤ 8 ∧ G c 2 = nI w) (h1 : sp_A_placeOf c G a1 < G c 2) : vp_in (sp_A_placeOf c G a1) 8 := by
  obtain ⟨w, k, hw, hG, hk, e, -, -⟩ := place_spec hm a1
  rw [e, hG] at h1
  rw [e]
  have : k < w := (nI_ltI (by omega) (by omega)).mp h1
  exact vp_in_nI (by omega) (by omega)
theorem ac_in2 {c : Nat} {G : Mem} {a1 : Int32} (hm : ∃ w : Nat, w ≤ 8 ∧ G c 2 = nI w) (h1 : sp_A_placeOf c G a1 < G c 2) : vp_in (G c 2 - 1) 8 := by
  obtain ⟨w, k, hw, hG, hk, e, -, -⟩ := place_spec hm a1
  rw [e, hG] at h1
  rw [hG]
  have : k < w := (nI_ltI (by omega) (by omega)).mp h1
  obtain ⟨v, rfl⟩ : ∃ v, w = v + 1 := ⟨w - 1, by omega⟩
  rw [nI_pred]
  exact vp_in_nI (by omega) (by omega)
theorem sd_spec (a1 a2 : Int32) (G : Mem) {w : Nat} (hw : w ≤ 8) (hG : G 32 (tn a1) = nI w) : ∀ (d j : Nat) (x3 : Int32), j ≤ w → d = w - j + 1 → (sp_M_said_5 a1 a2 d G x3 (nI j) = x3 ∧ ∀ i, j ≤ i → i < w → G 33 (tn (8 * a1 + nI i)) ≠ a2) ∨ ∃ k, j ≤ k ∧ k < w ∧ sp_M_said_5 a1 a2 d G x3 (nI j) = nI k ∧ G 33 (tn (8 * a1 + nI k)) = a2 ∧ ∀ i, k < i → i < w → G 33 (tn (8 * a1 + nI i)) ≠ a2 := by
  intro d
  induction d with
  | zero => intro j x3 hj hd; omega
  | succ d ih =>
    intro j x3 hj hd
    rw [sp_M_said_5, hG]
    by_cases h : j = w
    · subst h
      exact Or.inl ⟨if_pos (nI_le (Nat.le_refl _) (by omega)), fun i a b => by omega⟩
    · have hlt : j < w := by omega
      rw [if_neg (nI_ge hlt (by omega)), nI_1]
      rcases ih (j + 1) (if G 33 (tn (8 * a1 + nI j)) = a2 then nI j else x3) (by omega) (by omega) with ⟨h1, h2⟩ | ⟨k, h1, h2, h3, h4, h5⟩
      · by_cases h3 : G 33 (tn (8 * a1 + nI j)) = a2
        · refine Or.inr ⟨j, Nat.le_refl _, hlt, h1.trans (if_pos h3), h3, fun i a b => h2 i (by omega) b⟩
        · refine Or.inl ⟨h1.trans (if_neg h3), fun i a b => ?_⟩
          by_cases hi : i = j
          · subst hi; exact h3
          · exact h2 i (by omega) b
      · exact Or.inr ⟨k, by omega, h2, h3, h4, h5⟩
theorem said_spec {G : Mem} {a1 : Int32} (hm : ∃ w : Nat, w ≤ 8 ∧ G 32 (tn a1) = nI w) (a2 : Int32) : ∃ w : Nat, w ≤ 8 ∧ G 32 (tn a1) = nI w ∧ ((sp_M_said G a1 a2 = -1 ∧ ∀ i, i < w → G 33 (tn (8 * a1 + nI i)) ≠ a2) ∨ ∃ k, k < w ∧ sp_M_said G a1 a2 = nI k ∧ G 33 (tn (8 * a1 + nI k)) = a2 ∧ ∀ i, k < i → i < w → G 33 (tn (8 * a1 + nI i)) ≠ a2) := by
  obtain ⟨w, hw, hG⟩ := hm
  refine ⟨w, hw, hG, ?_⟩
  rw [sp_M_said, hG, tn_nI (by omega)]
  rcases sd_spec a1 a2 G hw hG (w + 1) 0 (-1) (Nat.zero_le _) (by omega) with ⟨h1, h2⟩ | ⟨k, -, h2, h3, h4, h5⟩
  · exact Or.inl ⟨h1, fun i h => h2 i (Nat.zero_le _) h⟩
  · exact Or.inr ⟨k, h2, h3, h4, h5⟩
theorem said_pos {G : Mem} {a1 a2 : Int32} (hm : ∃ w : Nat, w ≤ 8 ∧ G 32 (tn a1) = nI w) (h1 : 0 ≤ sp_M_said G a1 a2) : ∃ w k : Nat, w ≤ 8 ∧ G 32 (tn a1) = nI w ∧ k < w ∧ sp_M_said G a1 a2 = nI k := by
  obtain ⟨w, hw, hG, ⟨e, -⟩ | ⟨k, hk, e, -, -⟩⟩ := said_spec hm a2
  · rw [e] at h1
    exact absurd h1 (by decide)
  · exact ⟨w, k, hw, hG, hk, e⟩
theorem cm_in {G : Mem} {a1 a2 : Int32} (he : a1 = 0 ∨ a1 = 1) (hm : ∃ w : Nat, w ≤ 8 ∧ G 32 (tn a1) = nI w) (h1 : 0 ≤ sp_M_said G a1 a2) : vp_in (8 * a1 + sp_M_said G a1 a2) 16 := by
  obtain ⟨w, k, hw, -, hk, e⟩ := said_pos hm h1
  rw [e]
  rcases he with rfl | rfl
  · exact (e8_in k (by omega)).1
  · exact (e8_in k (by omega)).2
theorem cm_in2 {G : Mem} {a1 a2 : Int32} (he : a1 = 0 ∨ a1 = 1) (hm : ∃ w : Nat, w ≤ 8 ∧ G 32 (tn a1) = nI w) (h1 : 0 ≤ sp_M_said G a1 a2) : vp_in (8 * a1 + (G 32 (tn a1) - 1)) 16 := by
  obtain ⟨w, k, hw, hG, hk, e⟩ := said_pos hm h1
  obtain ⟨v, rfl⟩ : ∃ v, w = v + 1 := ⟨w - 1, by omega⟩
  rw [hG, nI_pred]
  rcases he with rfl | rfl
  · exact (e8_in v (by omega)).1
  · exact (e8_in v (by omega)).2
theorem rc_first (c : Nat) (G : Mem) : ∃ j w : Nat, j ≤ w ∧ w ≤ 2 ∧ (sp_A_comings c G).1 = nI w ∧ (0 : Int32) = nI j ∧ tn (sp_A_comings c G).1 + 1 = w - j + 1 := by
  unfold sp_A_comings
  by_cases h : zb (G c 3) = 0
  · exact ⟨0, 1, by omega, by omega, if_pos h, rfl, by dsimp only; rw [if_pos h]; rfl⟩
  · exact ⟨0, 2, by omega, by omega, if_neg h, rfl, by dsimp only; rw [if_neg h]; rfl⟩
theorem rc_back {x4 x5 : Int32} {d : Nat} (h : ∃ j w : Nat, j ≤ w ∧ w ≤ 2 ∧ x4 = nI w ∧ x5 = nI j ∧ d + 1 = w - j + 1) (h1 : ¬ x4 ≤ x5) : ∃ j w : Nat, j ≤ w ∧ w ≤ 2 ∧ x4 = nI w ∧ x5 + 1 = nI j ∧ d = w - j + 1 := by
  obtain ⟨j, w, a, b, e, f, g⟩ := h
  have hl : j < w := by
    rcases Nat.lt_or_ge j w with h | h
    · exact h
    · exact absurd (by rw [e, f]; exact nI_le h (by omega)) h1
  exact ⟨j + 1, w, hl, b, e, by rw [f, nI_1], by omega⟩
end
section
def sp_A_change (c : Nat) (G0 : Mem) (a1 : Int32) (a2 : Int32) : Int32 × Mem :=
  (if ((sp_A_placeOf c G0 a1)) < 8 then (if ((sp_A_placeOf c G0 a1)) = (G0 c 2) then ((1 : Int32), (wr (wr (wr G0 c 2 ((G0 c 2) + 1)) (c + 1) (tn ((sp_A_placeOf c G0 a1))) a1) (c + 2) (tn ((sp_A_placeOf c G0 a1))) a2)) else ((1 : Int32), (wr (wr G0 (c + 1) (tn ((sp_A_placeOf c G0 a1))) a1) (c + 2) (tn ((sp_A_placeOf c G0 a1))) a2))) else ((0 : Int32), G0))
set_option maxHeartbeats 4000000 in
set_option maxRecDepth 100000 in
theorem c_A_change (l : Launch) (P : gP) (G0 : Mem) (c : Nat) (a1 : Int32) (a2 : Int32) (hc : kA c) (hm : ∃ w : Nat, w ≤ 8 ∧ G0 c 2 = nI w) : gMz l y_A_change b_A_change 4 (some .boolean) ({ frames := 1, cells := 0, slots := 0, locals := 22 }) [.ref (gad P c), .int a1, .int a2] P G0 (sp_A_change c G0 a1 a2) := by
  refine Met.ofW (cc := b_A_change) (maxL := 4) (ret := (some .boolean)) (by decide) rfl ?_
  intro p e s m args below meth c0 s₁ B hml hv
  obtain ⟨rfl, hpre⟩ := hv
  obtain ⟨E, hH⟩ := gE_of B hml hpre
  replace E : gE p s m _ meth c0 P "FramedLine$Arrivals" b_A_change 4 (some .boolean) := E
  have hcU := hc
  unfold kA at hcU
  have hx := E.1
  have hb := E.2.1
  have hl := lv_entry ([.ref (gad P c), .int a1, .int a2]) (n := 4) (Nat.le_of_ble_eq_true rfl)
  rw [lg_entry_eq]
  generalize (lg_sl ([.ref (gad P c), .int a1, .int a2]) ++ List.replicate (4 - (lg_sl ([.ref (gad P c), .int a1, .int a2])).length) Slot.unset).toArray = ls at hl ⊢
  replace hl : lv_has ls 4 [(0, .ref (gad P c)), (1, .int a1), (2, .int a2)] := hl
  have hsp : sp_A_change c G0 a1 a2 = sp_A_change c G0 a1 a2 := rfl
  refine lv_aload_n hx hb d_A_change_0 rfl (lv_at hl 0 rfl) ?_
  refine lv_iload_n hx hb d_A_change_1 rfl (lv_at hl 1 rfl) ?_
  refine g_callVri (As := [.int _]) E hH hl (c_A_placeOf l P _ c _ hc hm) lm_A_26 (gc_A hc) cl_A (Nat.le_of_ble_eq_true rfl) (Nat.le_of_ble_eq_true rfl) (Nat.le_of_ble_eq_true rfl) (Nat.le_of_ble_eq_true rfl) (Nat.le_of_ble_eq_true rfl) rfl rfl rfl rfl d_A_change_2 (fun H locs hH => ?_)
  refine lv_istore_n hx hb d_A_change_5 rfl hl (by decide) rfl (fun ls hl => ?_)
  refine lv_iload_n hx hb d_A_change_6 rfl (lv_at hl 0 rfl) ?_
  refine lv_bipush (v := 8) hx hb d_A_change_7 (by decide) ?_
  refine lv_icmp_lt (tgt := 14) hx hb d_A_change_9 (by decide) (fun h1 => ?_) (fun h1 => ?_)
  · refine lv_iload_n hx hb d_A_change_14 rfl (lv_at hl 0 rfl) ?_
    refine lv_aload_n hx hb d_A_change_15 rfl (lv_at hl 1 rfl) ?_
    refine g_geti (v := (G0 c 2)) E hH (gc_A hc) cl_A 2 (by decide) lf_A_18 (fun _ => rfl) rfl d_A_change_16 ?_
    refine lv_icmp_ne (tgt := 32) hx hb d_A_change_19 (by decide) (fun h2 => ?_) (fun h2 => ?_)
    · refine lv_aload_n hx hb d_A_change_32 rfl (lv_at hl 1 rfl) ?_
      refine g_get E hH (gc_A hc) cl_A 0 (by decide) lf_A_9 rfl d_A_change_33 ?_
      refine lv_iload_n hx hb d_A_change_36 rfl (lv_at hl 0 rfl) ?_
      refine lv_iload_n hx hb d_A_change_37 rfl (lv_at hl 2 rfl) ?_
      refine g_iastore (k := (tn ((sp_A_placeOf c G0 a1)))) E hH (ga_I8 (kA_times hc)) (ch_in hm h1) rfl d_A_change_38 (fun H locs hH => ?_)
      refine lv_aload_n hx hb d_A_change_39 rfl (lv_at hl 1 rfl) ?_
      refine g_get E hH (gc_A hc) cl_A 1 (by decide) lf_A_15 rfl d_A_change_40 ?_
      refine lv_iload_n hx hb d_A_change_43 rfl (lv_at hl 0 rfl) ?_
      refine lv_iload_n hx hb d_A_change_44 rfl (lv_at hl 3 rfl) ?_
      refine g_iastore (k := (tn ((sp_A_placeOf c G0 a1)))) E hH (ga_I8 (kA_symbols hc)) (ch_in hm h1) rfl d_A_change_45 (fun H locs hH => ?_)
      refine lv_iconst (v := 1) hx hb d_A_change_46 (by decide) ?_
      exact g_zret E hH (hsp.trans (by simp only [sp_A_change, if_pos h1, if_neg h2])) isB_1 d_A_change_47
    · refine lv_aload_n hx hb d_A_change_22 rfl (lv_at hl 1 rfl) ?_
      refine lv_dup hx hb d_A_change_23 rfl ?_
      refine g_geti (v := (G0 c 2)) E hH (gc_A hc) cl_A 2 (by decide) lf_A_18 (fun _ => rfl) rfl d_A_change_24 ?_
      refine lv_iconst (v := 1) hx hb d_A_change_27 (by decide) ?_
      refine lv_iadd hx hb d_A_change_28 ?_
      refine g_puti E hH (gc_A hc) cl_A ct_A 2 (by decide) lf_A_18 rfl (by decide +kernel) (fun _ _ => rfl) (Nat.le_of_ble_eq_true rfl) d_A_change_29 (fun H locs hH => ?_)
      refine lv_aload_n hx hb d_A_change_32 rfl (lv_at hl 1 rfl) ?_
      refine g_get E hH (gc_A hc) cl_A 0 (by decide) lf_A_9 rfl d_A_change_33 ?_
      refine lv_iload_n hx hb d_A_change_36 rfl (lv_at hl 0 rfl) ?_
      refine lv_iload_n hx hb d_A_change_37 rfl (lv_at hl 2 rfl) ?_
      refine g_iastore (k := (tn ((sp_A_placeOf c G0 a1)))) E hH (ga_I8 (kA_times hc)) (ch_in hm h1) rfl d_A_change_38 (fun H locs hH => ?_)
      refine lv_aload_n hx hb d_A_change_39 rfl (lv_at hl 1 rfl) ?_
      refine g_get E hH (gc_A hc) cl_A 1 (by decide) lf_A_15 rfl d_A_change_40 ?_
      refine lv_iload_n hx hb d_A_change_43 rfl (lv_at hl 0 rfl) ?_
      refine lv_iload_n hx hb d_A_change_44 rfl (lv_at hl 3 rfl) ?_
      refine g_iastore (k := (tn ((sp_A_placeOf c G0 a1)))) E hH (ga_I8 (kA_symbols hc)) (ch_in hm h1) rfl d_A_change_45 (fun H locs hH => ?_)
      refine lv_iconst (v := 1) hx hb d_A_change_46 (by decide) ?_
      exact g_zret E hH (hsp.trans (by simp only [sp_A_change, if_pos h1, if_pos h2])) isB_1 d_A_change_47
  · refine lv_iconst (v := 0) hx hb d_A_change_12 (by decide) ?_
    exact g_zret E hH (hsp.trans (by simp only [sp_A_change, if_neg h1])) isB_0 d_A_change_13

def sp_A_asItComes (c : Nat) (G0 : Mem) (a1 : Int32) (a2 : Int32) : Int32 × Mem :=
  (if ((sp_A_placeOf c G0 a1)) < (G0 c 2) then ((G0 (c + 2) (tn ((sp_A_placeOf c G0 a1)))), (wr (wr (wr G0 c 2 ((G0 c 2) - 1)) (c + 1) (tn ((sp_A_placeOf c G0 a1))) (G0 (c + 1) (tn ((G0 c 2) - 1)))) (c + 2) (tn ((sp_A_placeOf c G0 a1))) (G0 (c + 2) (tn ((G0 c 2) - 1))))) else (a2, G0))
set_option maxHeartbeats 4000000 in
set_option maxRecDepth 100000 in
theorem c_A_asItComes (l : Launch) (P : gP) (G0 : Mem) (c : Nat) (a1 : Int32) (a2 : Int32) (hc : kA c) (hm : ∃ w : Nat, w ≤ 8 ∧ G0 c 2 = nI w) : gMi l y_A_asItComes b_A_asItComes 5 (some .int) ({ frames := 1, cells := 0, slots := 0, locals := 22 }) [.ref (gad P c), .int a1, .int a2] P G0 (sp_A_asItComes c G0 a1 a2) := by
  refine Met.ofW (cc := b_A_asItComes) (maxL := 5) (ret := (some .int)) (by decide) rfl ?_
  intro p e s m args below meth c0 s₁ B hml hv
  obtain ⟨rfl, hpre⟩ := hv
  obtain ⟨E, hH⟩ := gE_of B hml hpre
  replace E : gE p s m _ meth c0 P "FramedLine$Arrivals" b_A_asItComes 5 (some .int) := E
  have hcU := hc
  unfold kA at hcU
  have hx := E.1
  have hb := E.2.1
  have hl := lv_entry ([.ref (gad P c), .int a1, .int a2]) (n := 5) (Nat.le_of_ble_eq_true rfl)
  rw [lg_entry_eq]
  generalize (lg_sl ([.ref (gad P c), .int a1, .int a2]) ++ List.replicate (5 - (lg_sl ([.ref (gad P c), .int a1, .int a2])).length) Slot.unset).toArray = ls at hl ⊢
  replace hl : lv_has ls 5 [(0, .ref (gad P c)), (1, .int a1), (2, .int a2)] := hl
  have hsp : sp_A_asItComes c G0 a1 a2 = sp_A_asItComes c G0 a1 a2 := rfl
  refine lv_aload_n hx hb d_A_asItComes_0 rfl (lv_at hl 0 rfl) ?_
  refine lv_iload_n hx hb d_A_asItComes_1 rfl (lv_at hl 1 rfl) ?_
  refine g_callVri (As := [.int _]) E hH hl (c_A_placeOf l P _ c _ hc hm) lm_A_26 (gc_A hc) cl_A (Nat.le_of_ble_eq_true rfl) (Nat.le_of_ble_eq_true rfl) (Nat.le_of_ble_eq_true rfl) (Nat.le_of_ble_eq_true rfl) (Nat.le_of_ble_eq_true rfl) rfl rfl rfl rfl d_A_asItComes_2 (fun H locs hH => ?_)
  refine lv_istore_n hx hb d_A_asItComes_5 rfl hl (by decide) rfl (fun ls hl => ?_)
  refine lv_iload_n hx hb d_A_asItComes_6 rfl (lv_at hl 0 rfl) ?_
  refine lv_aload_n hx hb d_A_asItComes_7 rfl (lv_at hl 1 rfl) ?_
  refine g_geti (v := (G0 c 2)) E hH (gc_A hc) cl_A 2 (by decide) lf_A_18 (fun _ => rfl) rfl d_A_asItComes_8 ?_
  refine lv_icmp_lt (tgt := 16) hx hb d_A_asItComes_11 (by decide) (fun h1 => ?_) (fun h1 => ?_)
  · refine lv_aload_n hx hb d_A_asItComes_16 rfl (lv_at hl 1 rfl) ?_
    refine g_get E hH (gc_A hc) cl_A 1 (by decide) lf_A_15 rfl d_A_asItComes_17 ?_
    refine lv_iload_n hx hb d_A_asItComes_20 rfl (lv_at hl 0 rfl) ?_
    refine g_iaload (k := (tn ((sp_A_placeOf c G0 a1)))) (v := (G0 (c + 2) (tn ((sp_A_placeOf c G0 a1))))) E hH (ga_I8 (kA_symbols hc)) (ac_in hm h1) rfl rfl d_A_asItComes_21 ?_
    refine lv_istore hx hb d_A_asItComes_22 hl (by decide) rfl (fun ls hl => ?_)
    refine lv_aload_n hx hb d_A_asItComes_24 rfl (lv_at hl 2 rfl) ?_
    refine lv_dup hx hb d_A_asItComes_25 rfl ?_
    refine g_geti (v := (G0 c 2)) E hH (gc_A hc) cl_A 2 (by decide) lf_A_18 (fun _ => rfl) rfl d_A_asItComes_26 ?_
    refine lv_iconst (v := 1) hx hb d_A_asItComes_29 (by decide) ?_
    refine lv_isub hx hb d_A_asItComes_30 ?_
    refine g_puti E hH (gc_A hc) cl_A ct_A 2 (by decide) lf_A_18 rfl (by decide +kernel) (fun _ _ => rfl) (Nat.le_of_ble_eq_true rfl) d_A_asItComes_31 (fun H locs hH => ?_)
    refine lv_aload_n hx hb d_A_asItComes_34 rfl (lv_at hl 2 rfl) ?_
    refine g_get E hH (gc_A hc) cl_A 0 (by decide) lf_A_9 rfl d_A_asItComes_35 ?_
    refine lv_iload_n hx hb d_A_asItComes_38 rfl (lv_at hl 1 rfl) ?_
    refine lv_aload_n hx hb d_A_asItComes_39 rfl (lv_at hl 2 rfl) ?_
    refine g_get E hH (gc_A hc) cl_A 0 (by decide) lf_A_9 rfl d_A_asItComes_40 ?_
    refine lv_aload_n hx hb d_A_asItComes_43 rfl (lv_at hl 2 rfl) ?_
    refine g_geti (v := ((G0 c 2) - 1)) E hH (gc_A hc) cl_A 2 (by decide) lf_A_18 (fun _ => rfl) (wr_same _ _ _ _) d_A_asItComes_44 ?_
    refine g_iaload (k := (tn ((G0 c 2) - 1))) (v := (G0 (c + 1) (tn ((G0 c 2) - 1)))) E hH (ga_I8 (kA_times hc)) (ac_in2 hm h1) rfl (wr_ck _ _ _ _ (by omega)) d_A_asItComes_47 ?_
    refine g_iastore (k := (tn ((sp_A_placeOf c G0 a1)))) E hH (ga_I8 (kA_times hc)) (ac_in hm h1) rfl d_A_asItComes_48 (fun H locs hH => ?_)
    refine lv_aload_n hx hb d_A_asItComes_49 rfl (lv_at hl 2 rfl) ?_
    refine g_get E hH (gc_A hc) cl_A 1 (by decide) lf_A_15 rfl d_A_asItComes_50 ?_
    refine lv_iload_n hx hb d_A_asItComes_53 rfl (lv_at hl 1 rfl) ?_
    refine lv_aload_n hx hb d_A_asItComes_54 rfl (lv_at hl 2 rfl) ?_
    refine g_get E hH (gc_A hc) cl_A 1 (by decide) lf_A_15 rfl d_A_asItComes_55 ?_
    refine lv_aload_n hx hb d_A_asItComes_58 rfl (lv_at hl 2 rfl) ?_
    refine g_geti (v := ((G0 c 2) - 1)) E hH (gc_A hc) cl_A 2 (by decide) lf_A_18 (fun _ => rfl) ((wr_ck _ _ _ _ (by omega)).trans (wr_same _ _ _ _)) d_A_asItComes_59 ?_
    refine g_iaload (k := (tn ((G0 c 2) - 1))) (v := (G0 (c + 2) (tn ((G0 c 2) - 1)))) E hH (ga_I8 (kA_symbols hc)) (ac_in2 hm h1) rfl ((wr_ck _ _ _ _ (by omega)).trans (wr_ck _ _ _ _ (by omega))) d_A_asItComes_62 ?_
    refine g_iastore (k := (tn ((sp_A_placeOf c G0 a1)))) E hH (ga_I8 (kA_symbols hc)) (ac_in hm h1) rfl d_A_asItComes_63 (fun H locs hH => ?_)
    refine lv_iload hx hb d_A_asItComes_64 (lv_at hl 0 rfl) ?_
    exact g_iret E hH (hsp.trans (by simp only [sp_A_asItComes, if_pos h1])) d_A_asItComes_66
  · refine lv_iload_n hx hb d_A_asItComes_14 rfl (lv_at hl 3 rfl) ?_
    exact g_iret E hH (hsp.trans (by simp only [sp_A_asItComes, if_neg h1])) d_A_asItComes_15

def sp_N_receive_22 (c : Nat) (a1 : Int32) (a2 : Int32) : Nat → Mem → Int32 → Int32 → Int32 → Mem
 | 0, G, x3, x4, x5 => G
  | d + 1, G, x3, x4, x5 =>
  (if x4 ≤ x5 then G else (if ((sp_D_bitBehind (c + 7) G x3)).1 = (-1) then (sp_N_receive_22 c a1 a2 d (((sp_D_bitBehind (c + 7) G x3)).2) x3 x4 (x5 + 1)) else (sp_N_receive_22 c a1 a2 d (sp_R_takeBit (c + 8) (((sp_D_bitBehind (c + 7) G x3)).2) (((sp_D_bitBehind (c + 7) G x3)).1)) x3 x4 (x5 + 1))))
def sp_N_receive (c : Nat) (G0 : Mem) (a1 : Int32) (a2 : Int32) : Mem :=
  (sp_N_receive_22 c a1 a2 (tn (((sp_A_comings (c + 4) (((sp_A_asItComes (c + 4) G0 a1 a2)).2))).1) + 1) (((sp_A_comings (c + 4) (((sp_A_asItComes (c + 4) G0 a1 a2)).2))).2) (((sp_A_asItComes (c + 4) G0 a1 a2)).1) (((sp_A_comings (c + 4) (((sp_A_asItComes (c + 4) G0 a1 a2)).2))).1) 0)
set_option maxHeartbeats 4000000 in
set_option maxRecDepth 100000 in
theorem c_N_receive (l : Launch) (P : gP) (G0 : Mem) (c : Nat) (a1 : Int32) (a2 : Int32) (hc : kN c) (hm : ∃ w : Nat, w ≤ 8 ∧ G0 (c + 4) 2 = nI w) : gMv l y_N_receive b_N_receive 7 none ({ frames := 5, cells := 0, slots := 0, locals := 105 }) [.ref (gad P c), .int a1, .int a2] P G0 (sp_N_receive c G0 a1 a2) := by
  refine Met.ofW (cc := b_N_receive) (maxL := 7) (ret := none) (by decide) rfl ?_
  intro p e s m args below meth c0 s₁ B hml hv
  obtain ⟨rfl, hpre⟩ := hv
  obtain ⟨E, hH⟩ := gE_of B hml hpre
  replace E : gE p s m _ meth c0 P "FramedLine$End" b_N_receive 7 none := E
  have hcU := hc
  unfold kN at hcU
  have hx := E.1
  have hb := E.2.1
  have hl := lv_entry ([.ref (gad P c), .int a1, .int a2]) (n := 7) (Nat.le_of_ble_eq_true rfl)
  rw [lg_entry_eq]
  generalize (lg_sl ([.ref (gad P c), .int a1, .int a2]) ++ List.replicate (7 - (lg_sl ([.ref (gad P c), .int a1, .int a2])).length) Slot.unset).toArray = ls at hl ⊢
  replace hl : lv_has ls 7 [(0, .ref (gad P c)), (1, .int a1), (2, .int a2)] := hl
  have hsp : sp_N_receive c G0 a1 a2 = sp_N_receive c G0 a1 a2 := rfl
  refine jl (α := Nat × Mem × Array Slot × Int32 × Int32 × Int32) (fun q H1 locs1 => sp_N_receive c G0 a1 a2 = sp_N_receive_22 c a1 a2 q.1 q.2.1 q.2.2.2.1 q.2.2.2.2.1 q.2.2.2.2.2 ∧ (∃ j w : Nat, j ≤ w ∧ w ≤ 2 ∧ q.2.2.2.2.1 = nI w ∧ q.2.2.2.2.2 = nI j ∧ q.1 = w - j + 1) ∧ lv_has q.2.2.1 7 [(0, .ref (gad P c)), (1, .int a1), (2, .int a2), (3, .int q.2.2.2.1), (4, .int q.2.2.2.2.1), (5, .int q.2.2.2.2.2)] ∧ gH P s q.2.1 H1 locs1) (fun q => F0 m 22 q.2.2.1 []) (fun q => q.1) (fun q H locs h9 ih22 => ?_) (fun hC22 => ?_)
  · clear hsp hl hH ls
    obtain ⟨n, G, ls, x3, x4, x5⟩ := q
    obtain ⟨hsp, hinv, hl, hH⟩ := h9
    dsimp only at hinv
    obtain ⟨d, rfl⟩ : ∃ d, n = d + 1 := by obtain ⟨j, w, -, -, -, -, h⟩ := hinv; exact ⟨n - 1, by omega⟩
    change lv_has ls 7 [(0, .ref (gad P c)), (1, .int a1), (2, .int a2), (3, .int x3), (4, .int x4), (5, .int x5)] at hl
    dsimp only at hsp hH ⊢
    refine lv_iload hx hb d_N_receive_22 (lv_at hl 5 rfl) ?_
    refine lv_iload hx hb d_N_receive_24 (lv_at hl 4 rfl) ?_
    refine lv_icmp_ge (tgt := 60) hx hb d_N_receive_26 (by decide) (fun h1 => ?_) (fun h1 => ?_)
    · exact g_vret E hH (hsp.trans (by simp only [sp_N_receive_22, if_pos h1])) d_N_receive_60
    · refine lv_aload_n hx hb d_N_receive_29 rfl (lv_at hl 0 rfl) ?_
      refine g_get E hH (gc_N hc) cl_N 3 (by decide) lf_N_35 rfl d_N_receive_30 ?_
      refine lv_iload_n hx hb d_N_receive_33 rfl (lv_at hl 3 rfl) ?_
      refine g_callVi (As := [.int _]) E hH hl (c_D_bitBehind l P _ (c + 7) _ (kN_decoder hc)) lm_N_69 (gc_D (kN_decoder hc)) cl_D (Nat.le_of_ble_eq_true rfl) (Nat.le_of_ble_eq_true rfl) (Nat.le_of_ble_eq_true rfl) (Nat.le_of_ble_eq_true rfl) (Nat.le_of_ble_eq_true rfl) rfl rfl rfl rfl d_N_receive_34 (fun H locs hH => ?_)
      refine lv_istore hx hb d_N_receive_37 hl (by decide) rfl (fun ls hl => ?_)
      refine lv_iload hx hb d_N_receive_39 (lv_at hl 0 rfl) ?_
      refine lv_iconst (v := (-1)) hx hb d_N_receive_41 (by decide) ?_
      refine lv_icmp_eq (tgt := 54) hx hb d_N_receive_42 (by decide) (fun h2 => ?_) (fun h2 => ?_)
      · refine lv_iinc (k := 6) (v := (x5 + 1)) hx hb d_N_receive_54 hl rfl rfl (by decide) rfl (fun ls hl => ?_)
        refine lv_goto (tgt := 22) hx hb d_N_receive_57 (by decide) ?_
        exact ih22 (d, ((sp_D_bitBehind (c + 7) G x3)).2, _, x3, x4, (x5 + 1)) _ _ (Nat.lt_succ_self _) ⟨hsp.trans (by simp only [sp_N_receive_22, if_neg h1, if_pos h2]), (rc_back hinv h1), lv_sub hl [2, 3, 4, 5, 6, 0] rfl, hH⟩
      · refine lv_aload_n hx hb d_N_receive_45 rfl (lv_at hl 1 rfl) ?_
        refine g_get E hH (gc_N hc) cl_N 4 (by decide) lf_N_42 rfl d_N_receive_46 ?_
        refine lv_iload hx hb d_N_receive_49 (lv_at hl 0 rfl) ?_
        refine g_callVv (As := [.int _]) E hH hl (c_R_takeBit l P _ (c + 8) _ (kN_receiver hc)) lm_N_72 (gc_R (kN_receiver hc)) cl_R (Nat.le_of_ble_eq_true rfl) (Nat.le_of_ble_eq_true rfl) (Nat.le_of_ble_eq_true rfl) (Nat.le_of_ble_eq_true rfl) (Nat.le_of_ble_eq_true rfl) rfl rfl rfl rfl d_N_receive_51 (fun H locs hH => ?_)
        refine lv_iinc (k := 6) (v := (x5 + 1)) hx hb d_N_receive_54 hl rfl rfl (by decide) rfl (fun ls hl => ?_)
        refine lv_goto (tgt := 22) hx hb d_N_receive_57 (by decide) ?_
        exact ih22 (d, (sp_R_takeBit (c + 8) (((sp_D_bitBehind (c + 7) G x3)).2) (((sp_D_bitBehind (c + 7) G x3)).1)), _, x3, x4, (x5 + 1)) _ _ (Nat.lt_succ_self _) ⟨hsp.trans (by simp only [sp_N_receive_22, if_neg h1, if_neg h2]), (rc_back hinv h1), lv_sub hl [2, 3, 4, 5, 6, 0] rfl, hH⟩
  refine lv_aload_n hx hb d_N_receive_0 rfl (lv_at hl 0 rfl) ?_
  refine g_get E hH (gc_N hc) cl_N 2 (by decide) lf_N_28 rfl d_N_receive_1 ?_
  refine lv_iload_n hx hb d_N_receive_4 rfl (lv_at hl 1 rfl) ?_
  refine lv_iload_n hx hb d_N_receive_5 rfl (lv_at hl 2 rfl) ?_
  refine g_callVi (As := [.int _, .int _]) E hH hl (c_A_asItComes l P _ (c + 4) _ _ (kN_arrivals hc) hm) lm_N_62 (gc_A (kN_arrivals hc)) cl_A (Nat.le_of_ble_eq_true rfl) (Nat.le_of_ble_eq_true rfl) (Nat.le_of_ble_eq_true rfl) (Nat.le_of_ble_eq_true rfl) (Nat.le_of_ble_eq_true rfl) rfl rfl rfl rfl d_N_receive_6 (fun H locs hH => ?_)
  refine lv_istore_n hx hb d_N_receive_9 rfl hl (by decide) rfl (fun ls hl => ?_)
  refine lv_aload_n hx hb d_N_receive_10 rfl (lv_at hl 1 rfl) ?_
  refine g_get E hH (gc_N hc) cl_N 2 (by decide) lf_N_28 rfl d_N_receive_11 ?_
  refine g_callVi (As := []) E hH hl (c_A_comings l P _ (c + 4) (kN_arrivals hc)) lm_N_66 (gc_A (kN_arrivals hc)) cl_A (Nat.le_of_ble_eq_true rfl) (Nat.le_of_ble_eq_true rfl) (Nat.le_of_ble_eq_true rfl) (Nat.le_of_ble_eq_true rfl) (Nat.le_of_ble_eq_true rfl) rfl rfl rfl rfl d_N_receive_14 (fun H locs hH => ?_)
  refine lv_istore hx hb d_N_receive_17 hl (by decide) rfl (fun ls hl => ?_)
  refine lv_iconst (v := 0) hx hb d_N_receive_19 (by decide) ?_
  refine lv_istore hx hb d_N_receive_20 hl (by decide) rfl (fun ls hl => ?_)
  exact hC22 ((tn (((sp_A_comings (c + 4) (((sp_A_asItComes (c + 4) G0 a1 a2)).2))).1) + 1), ((sp_A_comings (c + 4) (((sp_A_asItComes (c + 4) G0 a1 a2)).2))).2, _, (((sp_A_asItComes (c + 4) G0 a1 a2)).1), (((sp_A_comings (c + 4) (((sp_A_asItComes (c + 4) G0 a1 a2)).2))).1), 0) _ _ ⟨hsp.trans (by rw [sp_N_receive]), (rc_first _ _), lv_sub hl [3, 4, 5, 2, 1, 0] rfl, hH⟩

def sp_M_coming  (G0 : Mem) (a1 : Int32) (a2 : Int32) : Int32 × Mem :=
  (if 0 ≤ ((sp_M_said G0 a1 (G0 21 1))) then ((G0 34 (tn ((8 * a1) + ((sp_M_said G0 a1 (G0 21 1)))))), (wr (wr (wr G0 32 (tn a1) ((G0 32 (tn a1)) - 1)) 33 (tn ((8 * a1) + ((sp_M_said G0 a1 (G0 21 1))))) (G0 33 (tn ((8 * a1) + ((G0 32 (tn a1)) - 1))))) 34 (tn ((8 * a1) + ((sp_M_said G0 a1 (G0 21 1))))) (G0 34 (tn ((8 * a1) + ((G0 32 (tn a1)) - 1)))))) else (a2, G0))
set_option maxHeartbeats 4000000 in
set_option maxRecDepth 100000 in
theorem c_M_coming (l : Launch) (P : gP) (G0 : Mem)  (a1 : Int32) (a2 : Int32) (he : a1 = 0 ∨ a1 = 1) (hm : ∃ w : Nat, w ≤ 8 ∧ G0 32 (tn a1) = nI w) : gMi l y_M_coming b_M_coming 5 (some .int) ({ frames := 1, cells := 0, slots := 0, locals := 24 }) [.ref (gad P 21), .int a1, .int a2] P G0 (sp_M_coming G0 a1 a2) := by
  refine Met.ofW (cc := b_M_coming) (maxL := 5) (ret := (some .int)) (by decide) rfl ?_
  intro p e s m args below meth c0 s₁ B hml hv
  obtain ⟨rfl, hpre⟩ := hv
  obtain ⟨E, hH⟩ := gE_of B hml hpre
  replace E : gE p s m _ meth c0 P "FramedLineModel" b_M_coming 5 (some .int) := E
  have hx := E.1
  have hb := E.2.1
  have hl := lv_entry ([.ref (gad P 21), .int a1, .int a2]) (n := 5) (Nat.le_of_ble_eq_true rfl)
  rw [lg_entry_eq]
  generalize (lg_sl ([.ref (gad P 21), .int a1, .int a2]) ++ List.replicate (5 - (lg_sl ([.ref (gad P 21), .int a1, .int a2])).length) Slot.unset).toArray = ls at hl ⊢
  replace hl : lv_has ls 5 [(0, .ref (gad P 21)), (1, .int a1), (2, .int a2)] := hl
  have hsp : sp_M_coming G0 a1 a2 = sp_M_coming G0 a1 a2 := rfl
  refine lv_aload_n hx hb d_M_coming_0 rfl (lv_at hl 0 rfl) ?_
  refine lv_iload_n hx hb d_M_coming_1 rfl (lv_at hl 1 rfl) ?_
  refine lv_aload_n hx hb d_M_coming_2 rfl (lv_at hl 0 rfl) ?_
  refine g_geti (v := (G0 21 1)) E hH (gc_M rfl) cl_M 1 (by decide) lf_M_156 (fun _ => rfl) rfl d_M_coming_3 ?_
  refine g_callVri (As := [.int _, .int _]) E hH hl (c_M_said l P _ _ _ he hm) lm_M_162 (gc_M rfl) cl_M (Nat.le_of_ble_eq_true rfl) (Nat.le_of_ble_eq_true rfl) (Nat.le_of_ble_eq_true rfl) (Nat.le_of_ble_eq_true rfl) (Nat.le_of_ble_eq_true rfl) rfl rfl rfl rfl d_M_coming_6 (fun H locs hH => ?_)
  refine lv_istore_n hx hb d_M_coming_9 rfl hl (by decide) rfl (fun ls hl => ?_)
  refine lv_iload_n hx hb d_M_coming_10 rfl (lv_at hl 0 rfl) ?_
  refine lv_if_ge (tgt := 16) hx hb d_M_coming_11 (by decide) (fun h1 => ?_) (fun h1 => ?_)
  · refine lv_aload_n hx hb d_M_coming_16 rfl (lv_at hl 1 rfl) ?_
    refine g_get E hH (gc_M rfl) cl_M 14 (by decide) lf_M_47 rfl d_M_coming_17 ?_
    refine lv_bipush (v := 8) hx hb d_M_coming_20 (by decide) ?_
    refine lv_iload_n hx hb d_M_coming_22 rfl (lv_at hl 2 rfl) ?_
    refine lv_imul hx hb d_M_coming_23 ?_
    refine lv_iload_n hx hb d_M_coming_24 rfl (lv_at hl 0 rfl) ?_
    refine lv_iadd hx hb d_M_coming_25 ?_
    refine g_iaload (k := (tn ((8 * a1) + ((sp_M_said G0 a1 (G0 21 1)))))) (v := (G0 34 (tn ((8 * a1) + ((sp_M_said G0 a1 (G0 21 1))))))) E hH ⟨by decide, fun _ => rfl⟩ (cm_in he hm h1) rfl rfl d_M_coming_26 ?_
    refine lv_istore hx hb d_M_coming_27 hl (by decide) rfl (fun ls hl => ?_)
    refine lv_aload_n hx hb d_M_coming_29 rfl (lv_at hl 2 rfl) ?_
    refine g_get E hH (gc_M rfl) cl_M 12 (by decide) lf_M_41 rfl d_M_coming_30 ?_
    refine lv_iload_n hx hb d_M_coming_33 rfl (lv_at hl 3 rfl) ?_
    refine lv_aload_n hx hb d_M_coming_34 rfl (lv_at hl 2 rfl) ?_
    refine g_get E hH (gc_M rfl) cl_M 12 (by decide) lf_M_41 rfl d_M_coming_35 ?_
    refine lv_iload_n hx hb d_M_coming_38 rfl (lv_at hl 3 rfl) ?_
    refine g_iaload (k := (tn a1)) (v := (G0 32 (tn a1))) E hH ⟨by decide, fun _ => rfl⟩ (by rcases he with rfl | rfl <;> (unfold vp_in; first | decide | (split <;> decide))) rfl rfl d_M_coming_39 ?_
    refine lv_iconst (v := 1) hx hb d_M_coming_40 (by decide) ?_
    refine lv_isub hx hb d_M_coming_41 ?_
    refine g_iastore (k := (tn a1)) E hH ⟨by decide, fun _ => rfl⟩ (by rcases he with rfl | rfl <;> (unfold vp_in; first | decide | (split <;> decide))) rfl d_M_coming_42 (fun H locs hH => ?_)
    refine lv_aload_n hx hb d_M_coming_43 rfl (lv_at hl 2 rfl) ?_
    refine g_get E hH (gc_M rfl) cl_M 13 (by decide) lf_M_44 rfl d_M_coming_44 ?_
    refine lv_bipush (v := 8) hx hb d_M_coming_47 (by decide) ?_
    refine lv_iload_n hx hb d_M_coming_49 rfl (lv_at hl 3 rfl) ?_
    refine lv_imul hx hb d_M_coming_50 ?_
    refine lv_iload_n hx hb d_M_coming_51 rfl (lv_at hl 1 rfl) ?_
    refine lv_iadd hx hb d_M_coming_52 ?_
    refine lv_aload_n hx hb d_M_coming_53 rfl (lv_at hl 2 rfl) ?_
    refine g_get E hH (gc_M rfl) cl_M 13 (by decide) lf_M_44 rfl d_M_coming_54 ?_
    refine lv_bipush (v := 8) hx hb d_M_coming_57 (by decide) ?_
    refine lv_iload_n hx hb d_M_coming_59 rfl (lv_at hl 3 rfl) ?_
    refine lv_imul hx hb d_M_coming_60 ?_
    refine lv_aload_n hx hb d_M_coming_61 rfl (lv_at hl 2 rfl) ?_
    refine g_get E hH (gc_M rfl) cl_M 12 (by decide) lf_M_41 rfl d_M_coming_62 ?_
    refine lv_iload_n hx hb d_M_coming_65 rfl (lv_at hl 3 rfl) ?_
    refine g_iaload (k := (tn a1)) (v := ((G0 32 (tn a1)) - 1)) E hH ⟨by decide, fun _ => rfl⟩ (by rcases he with rfl | rfl <;> (unfold vp_in; first | decide | (split <;> decide))) rfl (wr_same _ _ _ _) d_M_coming_66 ?_
    refine lv_iadd hx hb d_M_coming_67 ?_
    refine g_iaload (k := (tn ((8 * a1) + ((G0 32 (tn a1)) - 1)))) (v := (G0 33 (tn ((8 * a1) + ((G0 32 (tn a1)) - 1))))) E hH ⟨by decide, fun _ => rfl⟩ (cm_in2 he hm h1) rfl (wr_ck _ _ _ _ (by decide)) d_M_coming_68 ?_
    refine g_iastore (k := (tn ((8 * a1) + ((sp_M_said G0 a1 (G0 21 1)))))) E hH ⟨by decide, fun _ => rfl⟩ (cm_in he hm h1) rfl d_M_coming_69 (fun H locs hH => ?_)
    refine lv_aload_n hx hb d_M_coming_70 rfl (lv_at hl 2 rfl) ?_
    refine g_get E hH (gc_M rfl) cl_M 14 (by decide) lf_M_47 rfl d_M_coming_71 ?_
    refine lv_bipush (v := 8) hx hb d_M_coming_74 (by decide) ?_
    refine lv_iload_n hx hb d_M_coming_76 rfl (lv_at hl 3 rfl) ?_
    refine lv_imul hx hb d_M_coming_77 ?_
    refine lv_iload_n hx hb d_M_coming_78 rfl (lv_at hl 1 rfl) ?_
    refine lv_iadd hx hb d_M_coming_79 ?_
    refine lv_aload_n hx hb d_M_coming_80 rfl (lv_at hl 2 rfl) ?_
    refine g_get E hH (gc_M rfl) cl_M 14 (by decide) lf_M_47 rfl d_M_coming_81 ?_
    refine lv_bipush (v := 8) hx hb d_M_coming_84 (by decide) ?_
    refine lv_iload_n hx hb d_M_coming_86 rfl (lv_at hl 3 rfl) ?_
    refine lv_imul hx hb d_M_coming_87 ?_
    refine lv_aload_n hx hb d_M_coming_88 rfl (lv_at hl 2 rfl) ?_
    refine g_get E hH (gc_M rfl) cl_M 12 (by decide) lf_M_41 rfl d_M_coming_89 ?_
    refine lv_iload_n hx hb d_M_coming_92 rfl (lv_at hl 3 rfl) ?_
    refine g_iaload (k := (tn a1)) (v := ((G0 32 (tn a1)) - 1)) E hH ⟨by decide, fun _ => rfl⟩ (by rcases he with rfl | rfl <;> (unfold vp_in; first | decide | (split <;> decide))) rfl ((wr_ck _ _ _ _ (by decide)).trans (wr_same _ _ _ _)) d_M_coming_93 ?_
    refine lv_iadd hx hb d_M_coming_94 ?_
    refine g_iaload (k := (tn ((8 * a1) + ((G0 32 (tn a1)) - 1)))) (v := (G0 34 (tn ((8 * a1) + ((G0 32 (tn a1)) - 1))))) E hH ⟨by decide, fun _ => rfl⟩ (cm_in2 he hm h1) rfl ((wr_ck _ _ _ _ (by decide)).trans (wr_ck _ _ _ _ (by decide))) d_M_coming_95 ?_
    refine g_iastore (k := (tn ((8 * a1) + ((sp_M_said G0 a1 (G0 21 1)))))) E hH ⟨by decide, fun _ => rfl⟩ (cm_in he hm h1) rfl d_M_coming_96 (fun H locs hH => ?_)
    refine lv_iload hx hb d_M_coming_97 (lv_at hl 0 rfl) ?_
    exact g_iret E hH (hsp.trans (by simp only [sp_M_coming, if_pos h1])) d_M_coming_99
  · refine lv_iload_n hx hb d_M_coming_14 rfl (lv_at hl 3 rfl) ?_
    exact g_iret E hH (hsp.trans (by simp only [sp_M_coming, if_neg h1])) d_M_coming_15

def sp_M_arrive  (G0 : Mem) (a1 : Int32) (a2 : Int32) : Mem :=
  (if ((sp_M_take (((sp_M_coming G0 a1 a2)).2) a1 (((sp_M_coming G0 a1 a2)).1)) 35 (tn a1)) = 0 then (sp_M_take (((sp_M_coming G0 a1 a2)).2) a1 (((sp_M_coming G0 a1 a2)).1)) else (sp_M_take (wr (sp_M_take (((sp_M_coming G0 a1 a2)).2) a1 (((sp_M_coming G0 a1 a2)).1)) 35 (tn a1) (zb 0)) a1 (((sp_M_coming G0 a1 a2)).1)))
set_option maxHeartbeats 4000000 in
set_option maxRecDepth 100000 in
theorem c_M_arrive (l : Launch) (P : gP) (G0 : Mem)  (a1 : Int32) (a2 : Int32) (he : a1 = 0 ∨ a1 = 1) (hm : ∃ w : Nat, w ≤ 8 ∧ G0 32 (tn a1) = nI w) : gMv l y_M_arrive b_M_arrive 4 none ({ frames := 6, cells := 0, slots := 0, locals := 141 }) [.ref (gad P 21), .int a1, .int a2] P G0 (sp_M_arrive G0 a1 a2) := by
  refine Met.ofW (cc := b_M_arrive) (maxL := 4) (ret := none) (by decide) rfl ?_
  intro p e s m args below meth c0 s₁ B hml hv
  obtain ⟨rfl, hpre⟩ := hv
  obtain ⟨E, hH⟩ := gE_of B hml hpre
  replace E : gE p s m _ meth c0 P "FramedLineModel" b_M_arrive 4 none := E
  have hx := E.1
  have hb := E.2.1
  have hl := lv_entry ([.ref (gad P 21), .int a1, .int a2]) (n := 4) (Nat.le_of_ble_eq_true rfl)
  rw [lg_entry_eq]
  generalize (lg_sl ([.ref (gad P 21), .int a1, .int a2]) ++ List.replicate (4 - (lg_sl ([.ref (gad P 21), .int a1, .int a2])).length) Slot.unset).toArray = ls at hl ⊢
  replace hl : lv_has ls 4 [(0, .ref (gad P 21)), (1, .int a1), (2, .int a2)] := hl
  have hsp : sp_M_arrive G0 a1 a2 = sp_M_arrive G0 a1 a2 := rfl
  refine lv_aload_n hx hb d_M_arrive_0 rfl (lv_at hl 0 rfl) ?_
  refine lv_iload_n hx hb d_M_arrive_1 rfl (lv_at hl 1 rfl) ?_
  refine lv_iload_n hx hb d_M_arrive_2 rfl (lv_at hl 2 rfl) ?_
  refine g_callVi (As := [.int _, .int _]) E hH hl (c_M_coming l P _ _ _ he hm) lm_M_206 (gc_M rfl) cl_M (Nat.le_of_ble_eq_true rfl) (Nat.le_of_ble_eq_true rfl) (Nat.le_of_ble_eq_true rfl) (Nat.le_of_ble_eq_true rfl) (Nat.le_of_ble_eq_true rfl) rfl rfl rfl rfl d_M_arrive_3 (fun H locs hH => ?_)
  refine lv_istore_n hx hb d_M_arrive_6 rfl hl (by decide) rfl (fun ls hl => ?_)
  refine lv_aload_n hx hb d_M_arrive_7 rfl (lv_at hl 1 rfl) ?_
  refine lv_iload_n hx hb d_M_arrive_8 rfl (lv_at hl 2 rfl) ?_
  refine lv_iload_n hx hb d_M_arrive_9 rfl (lv_at hl 0 rfl) ?_
  refine g_callVv (As := [.int _, .int _]) E hH hl (c_M_take l P _ _ _ he) lm_M_209 (gc_M rfl) cl_M (Nat.le_of_ble_eq_true rfl) (Nat.le_of_ble_eq_true rfl) (Nat.le_of_ble_eq_true rfl) (Nat.le_of_ble_eq_true rfl) (Nat.le_of_ble_eq_true rfl) rfl rfl rfl rfl d_M_arrive_10 (fun H locs hH => ?_)
  refine lv_aload_n hx hb d_M_arrive_13 rfl (lv_at hl 1 rfl) ?_
  refine g_get E hH (gc_M rfl) cl_M 15 (by decide) lf_M_50 rfl d_M_arrive_14 ?_
  refine lv_iload_n hx hb d_M_arrive_17 rfl (lv_at hl 2 rfl) ?_
  refine g_baload (k := (tn a1)) (v := ((sp_M_take (((sp_M_coming G0 a1 a2)).2) a1 (((sp_M_coming G0 a1 a2)).1)) 35 (tn a1))) E hH ⟨by decide, fun _ => rfl⟩ (by rcases he with rfl | rfl <;> (unfold vp_in; first | decide | (split <;> decide))) rfl rfl d_M_arrive_18 ?_
  refine lv_if_eq (tgt := 35) hx hb d_M_arrive_19 (by decide) (fun h1 => ?_) (fun h1 => ?_)
  · exact g_vret E hH (hsp.trans (by simp only [sp_M_arrive, if_pos h1])) d_M_arrive_35
  · refine lv_aload_n hx hb d_M_arrive_22 rfl (lv_at hl 1 rfl) ?_
    refine g_get E hH (gc_M rfl) cl_M 15 (by decide) lf_M_50 rfl d_M_arrive_23 ?_
    refine lv_iload_n hx hb d_M_arrive_26 rfl (lv_at hl 2 rfl) ?_
    refine lv_iconst (v := 0) hx hb d_M_arrive_27 (by decide) ?_
    refine g_bastore (k := (tn a1)) E hH ⟨by decide, fun _ => rfl⟩ (by rcases he with rfl | rfl <;> (unfold vp_in; first | decide | (split <;> decide))) rfl d_M_arrive_28 (fun H locs hH => ?_)
    refine lv_aload_n hx hb d_M_arrive_29 rfl (lv_at hl 1 rfl) ?_
    refine lv_iload_n hx hb d_M_arrive_30 rfl (lv_at hl 2 rfl) ?_
    refine lv_iload_n hx hb d_M_arrive_31 rfl (lv_at hl 0 rfl) ?_
    refine g_callVv (As := [.int _, .int _]) E hH hl (c_M_take l P _ _ _ he) lm_M_209 (gc_M rfl) cl_M (Nat.le_of_ble_eq_true rfl) (Nat.le_of_ble_eq_true rfl) (Nat.le_of_ble_eq_true rfl) (Nat.le_of_ble_eq_true rfl) (Nat.le_of_ble_eq_true rfl) rfl rfl rfl rfl d_M_arrive_32 (fun H locs hH => ?_)
    exact g_vret E hH (hsp.trans (by simp only [sp_M_arrive, if_neg h1])) d_M_arrive_35
end
section
theorem mc_M_isEnd : Cond.code y_M_isEnd b_M_isEnd 1 (some .boolean) ∈ GW ∧ Cond.initialized (y_M_isEnd).cls ∈ GW ∧ ((y_M_isEnd).cls ≠ "java/lang/invoke/MethodHandle" ∧ (y_M_isEnd).cls ≠ "java/lang/invoke/VarHandle" ∧ (parseMethodDescriptor (y_M_isEnd).desc).map (fun d => d.parameters.length) = some 1) := ⟨GW_at 778 (by decide +kernel) (by decide +kernel), GW_at 51 (by decide +kernel) (by decide +kernel), by decide +kernel⟩
theorem lm_M_193 : gLS "FramedLineModel" 193 y_M_isEnd b_M_isEnd 1 (some .boolean) 1 := ⟨mc_M_isEnd, GW_at 776 (by decide +kernel) (by decide +kernel), GW_at 777 (by decide +kernel) (by decide +kernel)⟩
theorem mc_M_within : Cond.code y_M_within b_M_within 3 (some .boolean) ∈ GW ∧ Cond.initialized (y_M_within).cls ∈ GW ∧ ((y_M_within).cls ≠ "java/lang/invoke/MethodHandle" ∧ (y_M_within).cls ≠ "java/lang/invoke/VarHandle" ∧ (parseMethodDescriptor (y_M_within).desc).map (fun d => d.parameters.length) = some 3) := ⟨GW_at 781 (by decide +kernel) (by decide +kernel), GW_at 51 (by decide +kernel) (by decide +kernel), by decide +kernel⟩
theorem lm_M_196 : gLS "FramedLineModel" 196 y_M_within b_M_within 3 (some .boolean) 3 := ⟨mc_M_within, GW_at 779 (by decide +kernel) (by decide +kernel), GW_at 780 (by decide +kernel) (by decide +kernel)⟩
theorem d_M_load_0 : decode b_M_load 0 = .ok (.aload_n 0, 1) := by decide +kernel
theorem d_M_load_1 : decode b_M_load 1 = .ok (.iload_n 1, 1) := by decide +kernel
theorem d_M_load_2 : decode b_M_load 2 = .ok (.invokestatic 193, 3) := by decide +kernel
theorem d_M_load_5 : decode b_M_load 5 = .ok (.ifCond .eq 27, 3) := by decide +kernel
theorem d_M_load_8 : decode b_M_load 8 = .ok (.iload_n 2, 1) := by decide +kernel
theorem d_M_load_9 : decode b_M_load 9 = .ok (.iconst 1, 1) := by decide +kernel
theorem d_M_load_10 : decode b_M_load 10 = .ok (.iconst 3, 1) := by decide +kernel
theorem d_M_load_11 : decode b_M_load 11 = .ok (.invokestatic 196, 3) := by decide +kernel
theorem d_M_load_14 : decode b_M_load 14 = .ok (.ifCond .eq 18, 3) := by decide +kernel
theorem d_M_load_17 : decode b_M_load 17 = .ok (.iload_n 3, 1) := by decide +kernel
theorem d_M_load_18 : decode b_M_load 18 = .ok (.iconst 0, 1) := by decide +kernel
theorem d_M_load_19 : decode b_M_load 19 = .ok (.sipush 255, 3) := by decide +kernel
theorem d_M_load_22 : decode b_M_load 22 = .ok (.invokestatic 196, 3) := by decide +kernel
theorem d_M_load_25 : decode b_M_load 25 = .ok (.ifCond .eq 7, 3) := by decide +kernel
theorem d_M_load_28 : decode b_M_load 28 = .ok (.iconst 0, 1) := by decide +kernel
theorem d_M_load_29 : decode b_M_load 29 = .ok (.goto 4, 3) := by decide +kernel
theorem d_M_load_32 : decode b_M_load 32 = .ok (.iconst 1, 1) := by decide +kernel
theorem d_M_load_33 : decode b_M_load 33 = .ok (.putfield 137, 3) := by decide +kernel
theorem d_M_load_36 : decode b_M_load 36 = .ok (.aload_n 0, 1) := by decide +kernel
theorem d_M_load_37 : decode b_M_load 37 = .ok (.getfield 137, 3) := by decide +kernel
theorem d_M_load_40 : decode b_M_load 40 = .ok (.ifCond .le 5, 3) := by decide +kernel
theorem d_M_load_43 : decode b_M_load 43 = .ok (.iconst 0, 1) := by decide +kernel
theorem d_M_load_44 : decode b_M_load 44 = .ok (.ireturn, 1) := by decide +kernel
theorem d_M_load_45 : decode b_M_load 45 = .ok (.aload_n 0, 1) := by decide +kernel
theorem d_M_load_46 : decode b_M_load 46 = .ok (.getfield 7, 3) := by decide +kernel
theorem d_M_load_49 : decode b_M_load 49 = .ok (.iconst 4, 1) := by decide +kernel
theorem d_M_load_50 : decode b_M_load 50 = .ok (.iload_n 1, 1) := by decide +kernel
theorem d_M_load_51 : decode b_M_load 51 = .ok (.imul, 1) := by decide +kernel
theorem d_M_load_52 : decode b_M_load 52 = .ok (.iload_n 2, 1) := by decide +kernel
theorem d_M_load_53 : decode b_M_load 53 = .ok (.iadd, 1) := by decide +kernel
theorem d_M_load_54 : decode b_M_load 54 = .ok (.iaload, 1) := by decide +kernel
theorem d_M_load_55 : decode b_M_load 55 = .ok (.istore 4, 2) := by decide +kernel
theorem d_M_load_57 : decode b_M_load 57 = .ok (.aload_n 0, 1) := by decide +kernel
theorem d_M_load_58 : decode b_M_load 58 = .ok (.getfield 7, 3) := by decide +kernel
theorem d_M_load_61 : decode b_M_load 61 = .ok (.iconst 4, 1) := by decide +kernel
theorem d_M_load_62 : decode b_M_load 62 = .ok (.iload_n 1, 1) := by decide +kernel
theorem d_M_load_63 : decode b_M_load 63 = .ok (.imul, 1) := by decide +kernel
theorem d_M_load_64 : decode b_M_load 64 = .ok (.iload_n 2, 1) := by decide +kernel
theorem d_M_load_65 : decode b_M_load 65 = .ok (.iadd, 1) := by decide +kernel
theorem d_M_load_66 : decode b_M_load 66 = .ok (.iload_n 3, 1) := by decide +kernel
theorem d_M_load_67 : decode b_M_load 67 = .ok (.iastore, 1) := by decide +kernel
theorem d_M_load_68 : decode b_M_load 68 = .ok (.iload 4, 2) := by decide +kernel
theorem d_M_load_70 : decode b_M_load 70 = .ok (.ireturn, 1) := by decide +kernel
theorem d_M_slip_0 : decode b_M_slip 0 = .ok (.aload_n 0, 1) := by decide +kernel
theorem d_M_slip_1 : decode b_M_slip 1 = .ok (.iload_n 1, 1) := by decide +kernel
theorem d_M_slip_2 : decode b_M_slip 2 = .ok (.invokestatic 193, 3) := by decide +kernel
theorem d_M_slip_5 : decode b_M_slip 5 = .ok (.ifCond .eq 7, 3) := by decide +kernel
theorem d_M_slip_8 : decode b_M_slip 8 = .ok (.iconst 0, 1) := by decide +kernel
theorem d_M_slip_9 : decode b_M_slip 9 = .ok (.goto 4, 3) := by decide +kernel
theorem d_M_slip_12 : decode b_M_slip 12 = .ok (.iconst 1, 1) := by decide +kernel
theorem d_M_slip_13 : decode b_M_slip 13 = .ok (.putfield 137, 3) := by decide +kernel
theorem d_M_slip_16 : decode b_M_slip 16 = .ok (.aload_n 0, 1) := by decide +kernel
theorem d_M_slip_17 : decode b_M_slip 17 = .ok (.getfield 137, 3) := by decide +kernel
theorem d_M_slip_20 : decode b_M_slip 20 = .ok (.ifCond .le 5, 3) := by decide +kernel
theorem d_M_slip_23 : decode b_M_slip 23 = .ok (.iconst 0, 1) := by decide +kernel
theorem d_M_slip_24 : decode b_M_slip 24 = .ok (.ireturn, 1) := by decide +kernel
theorem d_M_slip_25 : decode b_M_slip 25 = .ok (.aload_n 0, 1) := by decide +kernel
theorem d_M_slip_26 : decode b_M_slip 26 = .ok (.getfield 50, 3) := by decide +kernel
theorem d_M_slip_29 : decode b_M_slip 29 = .ok (.iload_n 1, 1) := by decide +kernel
theorem d_M_slip_30 : decode b_M_slip 30 = .ok (.baload, 1) := by decide +kernel
theorem d_M_slip_31 : decode b_M_slip 31 = .ok (.ifCond .ne 7, 3) := by decide +kernel
theorem d_M_slip_34 : decode b_M_slip 34 = .ok (.iconst 1, 1) := by decide +kernel
theorem d_M_slip_35 : decode b_M_slip 35 = .ok (.goto 4, 3) := by decide +kernel
theorem d_M_slip_38 : decode b_M_slip 38 = .ok (.iconst 0, 1) := by decide +kernel
theorem d_M_slip_39 : decode b_M_slip 39 = .ok (.istore_n 2, 1) := by decide +kernel
theorem d_M_slip_40 : decode b_M_slip 40 = .ok (.aload_n 0, 1) := by decide +kernel
theorem d_M_slip_41 : decode b_M_slip 41 = .ok (.getfield 50, 3) := by decide +kernel
theorem d_M_slip_44 : decode b_M_slip 44 = .ok (.iload_n 1, 1) := by decide +kernel
theorem d_M_slip_45 : decode b_M_slip 45 = .ok (.iconst 1, 1) := by decide +kernel
theorem d_M_slip_46 : decode b_M_slip 46 = .ok (.bastore, 1) := by decide +kernel
theorem d_M_slip_47 : decode b_M_slip 47 = .ok (.iload_n 2, 1) := by decide +kernel
theorem d_M_slip_48 : decode b_M_slip 48 = .ok (.ireturn, 1) := by decide +kernel
theorem d_M_symbol_0 : decode b_M_symbol 0 = .ok (.aload_n 0, 1) := by decide +kernel
theorem d_M_symbol_1 : decode b_M_symbol 1 = .ok (.iload_n 1, 1) := by decide +kernel
theorem d_M_symbol_2 : decode b_M_symbol 2 = .ok (.invokestatic 193, 3) := by decide +kernel
theorem d_M_symbol_5 : decode b_M_symbol 5 = .ok (.ifCond .eq 7, 3) := by decide +kernel
theorem d_M_symbol_8 : decode b_M_symbol 8 = .ok (.iconst 0, 1) := by decide +kernel
theorem d_M_symbol_9 : decode b_M_symbol 9 = .ok (.goto 4, 3) := by decide +kernel
theorem d_M_symbol_12 : decode b_M_symbol 12 = .ok (.iconst 1, 1) := by decide +kernel
theorem d_M_symbol_13 : decode b_M_symbol 13 = .ok (.putfield 137, 3) := by decide +kernel
theorem d_M_symbol_16 : decode b_M_symbol 16 = .ok (.aload_n 0, 1) := by decide +kernel
theorem d_M_symbol_17 : decode b_M_symbol 17 = .ok (.getfield 137, 3) := by decide +kernel
theorem d_M_symbol_20 : decode b_M_symbol 20 = .ok (.ifCond .le 7, 3) := by decide +kernel
theorem d_M_symbol_23 : decode b_M_symbol 23 = .ok (.iconst 0, 1) := by decide +kernel
theorem d_M_symbol_24 : decode b_M_symbol 24 = .ok (.goto 9, 3) := by decide +kernel
theorem d_M_symbol_27 : decode b_M_symbol 27 = .ok (.aload_n 0, 1) := by decide +kernel
theorem d_M_symbol_28 : decode b_M_symbol 28 = .ok (.getfield 56, 3) := by decide +kernel
theorem d_M_symbol_31 : decode b_M_symbol 31 = .ok (.iload_n 1, 1) := by decide +kernel
theorem d_M_symbol_32 : decode b_M_symbol 32 = .ok (.iaload, 1) := by decide +kernel
theorem d_M_symbol_33 : decode b_M_symbol 33 = .ok (.ireturn, 1) := by decide +kernel
theorem d_M_aligned_0 : decode b_M_aligned 0 = .ok (.aload_n 0, 1) := by decide +kernel
theorem d_M_aligned_1 : decode b_M_aligned 1 = .ok (.iload_n 1, 1) := by decide +kernel
theorem d_M_aligned_2 : decode b_M_aligned 2 = .ok (.invokestatic 193, 3) := by decide +kernel
theorem d_M_aligned_5 : decode b_M_aligned 5 = .ok (.ifCond .eq 7, 3) := by decide +kernel
theorem d_M_aligned_8 : decode b_M_aligned 8 = .ok (.iconst 0, 1) := by decide +kernel
theorem d_M_aligned_9 : decode b_M_aligned 9 = .ok (.goto 4, 3) := by decide +kernel
theorem d_M_aligned_12 : decode b_M_aligned 12 = .ok (.iconst 1, 1) := by decide +kernel
theorem d_M_aligned_13 : decode b_M_aligned 13 = .ok (.putfield 137, 3) := by decide +kernel
theorem d_M_aligned_16 : decode b_M_aligned 16 = .ok (.aload_n 0, 1) := by decide +kernel
theorem d_M_aligned_17 : decode b_M_aligned 17 = .ok (.getfield 137, 3) := by decide +kernel
theorem d_M_aligned_20 : decode b_M_aligned 20 = .ok (.ifCond .ne 17, 3) := by decide +kernel
theorem d_M_aligned_23 : decode b_M_aligned 23 = .ok (.aload_n 0, 1) := by decide +kernel
theorem d_M_aligned_24 : decode b_M_aligned 24 = .ok (.getfield 74, 3) := by decide +kernel
theorem d_M_aligned_27 : decode b_M_aligned 27 = .ok (.iload_n 1, 1) := by decide +kernel
theorem d_M_aligned_28 : decode b_M_aligned 28 = .ok (.iaload, 1) := by decide +kernel
theorem d_M_aligned_29 : decode b_M_aligned 29 = .ok (.iconst 2, 1) := by decide +kernel
theorem d_M_aligned_30 : decode b_M_aligned 30 = .ok (.if_icmp .ne 7, 3) := by decide +kernel
theorem d_M_aligned_33 : decode b_M_aligned 33 = .ok (.iconst 1, 1) := by decide +kernel
theorem d_M_aligned_34 : decode b_M_aligned 34 = .ok (.goto 4, 3) := by decide +kernel
theorem d_M_aligned_37 : decode b_M_aligned 37 = .ok (.iconst 0, 1) := by decide +kernel
theorem d_M_aligned_38 : decode b_M_aligned 38 = .ok (.ireturn, 1) := by decide +kernel
theorem d_M_frame_0 : decode b_M_frame 0 = .ok (.aload_n 0, 1) := by decide +kernel
theorem d_M_frame_1 : decode b_M_frame 1 = .ok (.iload_n 1, 1) := by decide +kernel
theorem d_M_frame_2 : decode b_M_frame 2 = .ok (.invokestatic 193, 3) := by decide +kernel
theorem d_M_frame_5 : decode b_M_frame 5 = .ok (.ifCond .eq 7, 3) := by decide +kernel
theorem d_M_frame_8 : decode b_M_frame 8 = .ok (.iconst 0, 1) := by decide +kernel
theorem d_M_frame_9 : decode b_M_frame 9 = .ok (.goto 4, 3) := by decide +kernel
theorem d_M_frame_12 : decode b_M_frame 12 = .ok (.iconst 1, 1) := by decide +kernel
theorem d_M_frame_13 : decode b_M_frame 13 = .ok (.putfield 137, 3) := by decide +kernel
theorem d_M_frame_16 : decode b_M_frame 16 = .ok (.aload_n 0, 1) := by decide +kernel
theorem d_M_frame_17 : decode b_M_frame 17 = .ok (.getfield 137, 3) := by decide +kernel
theorem d_M_frame_20 : decode b_M_frame 20 = .ok (.ifCond .le 7, 3) := by decide +kernel
theorem d_M_frame_23 : decode b_M_frame 23 = .ok (.iconst 0, 1) := by decide +kernel
theorem d_M_frame_24 : decode b_M_frame 24 = .ok (.goto 22, 3) := by decide +kernel
theorem d_M_frame_27 : decode b_M_frame 27 = .ok (.aload_n 0, 1) := by decide +kernel
theorem d_M_frame_28 : decode b_M_frame 28 = .ok (.getfield 101, 3) := by decide +kernel
theorem d_M_frame_31 : decode b_M_frame 31 = .ok (.iload_n 1, 1) := by decide +kernel
theorem d_M_frame_32 : decode b_M_frame 32 = .ok (.baload, 1) := by decide +kernel
theorem d_M_frame_33 : decode b_M_frame 33 = .ok (.ifCond .eq 12, 3) := by decide +kernel
theorem d_M_frame_36 : decode b_M_frame 36 = .ok (.aload_n 0, 1) := by decide +kernel
theorem d_M_frame_37 : decode b_M_frame 37 = .ok (.getfield 104, 3) := by decide +kernel
theorem d_M_frame_40 : decode b_M_frame 40 = .ok (.iload_n 1, 1) := by decide +kernel
theorem d_M_frame_41 : decode b_M_frame 41 = .ok (.iaload, 1) := by decide +kernel
theorem d_M_frame_42 : decode b_M_frame 42 = .ok (.goto 4, 3) := by decide +kernel
theorem d_M_frame_45 : decode b_M_frame 45 = .ok (.iconst (-1), 1) := by decide +kernel
theorem d_M_frame_46 : decode b_M_frame 46 = .ok (.ireturn, 1) := by decide +kernel
theorem d_M_slot_0 : decode b_M_slot 0 = .ok (.aload_n 0, 1) := by decide +kernel
theorem d_M_slot_1 : decode b_M_slot 1 = .ok (.iload_n 1, 1) := by decide +kernel
theorem d_M_slot_2 : decode b_M_slot 2 = .ok (.invokestatic 193, 3) := by decide +kernel
theorem d_M_slot_5 : decode b_M_slot 5 = .ok (.ifCond .eq 16, 3) := by decide +kernel
theorem d_M_slot_8 : decode b_M_slot 8 = .ok (.iload_n 2, 1) := by decide +kernel
theorem d_M_slot_9 : decode b_M_slot 9 = .ok (.iconst 0, 1) := by decide +kernel
theorem d_M_slot_10 : decode b_M_slot 10 = .ok (.iconst 3, 1) := by decide +kernel
theorem d_M_slot_11 : decode b_M_slot 11 = .ok (.invokestatic 196, 3) := by decide +kernel
theorem d_M_slot_14 : decode b_M_slot 14 = .ok (.ifCond .eq 7, 3) := by decide +kernel
theorem d_M_slot_17 : decode b_M_slot 17 = .ok (.iconst 0, 1) := by decide +kernel
theorem d_M_slot_18 : decode b_M_slot 18 = .ok (.goto 4, 3) := by decide +kernel
theorem d_M_slot_21 : decode b_M_slot 21 = .ok (.iconst 1, 1) := by decide +kernel
theorem d_M_slot_22 : decode b_M_slot 22 = .ok (.putfield 137, 3) := by decide +kernel
theorem d_M_slot_25 : decode b_M_slot 25 = .ok (.aload_n 0, 1) := by decide +kernel
theorem d_M_slot_26 : decode b_M_slot 26 = .ok (.getfield 137, 3) := by decide +kernel
theorem d_M_slot_29 : decode b_M_slot 29 = .ok (.ifCond .le 7, 3) := by decide +kernel
theorem d_M_slot_32 : decode b_M_slot 32 = .ok (.iconst 0, 1) := by decide +kernel
theorem d_M_slot_33 : decode b_M_slot 33 = .ok (.goto 34, 3) := by decide +kernel
theorem d_M_slot_36 : decode b_M_slot 36 = .ok (.aload_n 0, 1) := by decide +kernel
theorem d_M_slot_37 : decode b_M_slot 37 = .ok (.getfield 92, 3) := by decide +kernel
theorem d_M_slot_40 : decode b_M_slot 40 = .ok (.iload_n 1, 1) := by decide +kernel
theorem d_M_slot_41 : decode b_M_slot 41 = .ok (.baload, 1) := by decide +kernel
theorem d_M_slot_42 : decode b_M_slot 42 = .ok (.ifCond .eq 24, 3) := by decide +kernel
theorem d_M_slot_45 : decode b_M_slot 45 = .ok (.aload_n 0, 1) := by decide +kernel
theorem d_M_slot_46 : decode b_M_slot 46 = .ok (.getfield 95, 3) := by decide +kernel
theorem d_M_slot_49 : decode b_M_slot 49 = .ok (.iload_n 1, 1) := by decide +kernel
theorem d_M_slot_50 : decode b_M_slot 50 = .ok (.iaload, 1) := by decide +kernel
theorem d_M_slot_51 : decode b_M_slot 51 = .ok (.bipush 24, 2) := by decide +kernel
theorem d_M_slot_53 : decode b_M_slot 53 = .ok (.bipush 8, 2) := by decide +kernel
theorem d_M_slot_55 : decode b_M_slot 55 = .ok (.iload_n 2, 1) := by decide +kernel
theorem d_M_slot_56 : decode b_M_slot 56 = .ok (.imul, 1) := by decide +kernel
theorem d_M_slot_57 : decode b_M_slot 57 = .ok (.isub, 1) := by decide +kernel
theorem d_M_slot_58 : decode b_M_slot 58 = .ok (.ishr, 1) := by decide +kernel
theorem d_M_slot_59 : decode b_M_slot 59 = .ok (.sipush 255, 3) := by decide +kernel
theorem d_M_slot_62 : decode b_M_slot 62 = .ok (.iand, 1) := by decide +kernel
theorem d_M_slot_63 : decode b_M_slot 63 = .ok (.goto 4, 3) := by decide +kernel
theorem d_M_slot_66 : decode b_M_slot 66 = .ok (.iconst (-1), 1) := by decide +kernel
theorem d_M_slot_67 : decode b_M_slot 67 = .ok (.ireturn, 1) := by decide +kernel
theorem d_M_alarm_0 : decode b_M_alarm 0 = .ok (.aload_n 0, 1) := by decide +kernel
theorem d_M_alarm_1 : decode b_M_alarm 1 = .ok (.iload_n 1, 1) := by decide +kernel
theorem d_M_alarm_2 : decode b_M_alarm 2 = .ok (.invokestatic 193, 3) := by decide +kernel
theorem d_M_alarm_5 : decode b_M_alarm 5 = .ok (.ifCond .eq 7, 3) := by decide +kernel
theorem d_M_alarm_8 : decode b_M_alarm 8 = .ok (.iconst 0, 1) := by decide +kernel
theorem d_M_alarm_9 : decode b_M_alarm 9 = .ok (.goto 4, 3) := by decide +kernel
theorem d_M_alarm_12 : decode b_M_alarm 12 = .ok (.iconst 1, 1) := by decide +kernel
theorem d_M_alarm_13 : decode b_M_alarm 13 = .ok (.putfield 137, 3) := by decide +kernel
theorem d_M_alarm_16 : decode b_M_alarm 16 = .ok (.aload_n 0, 1) := by decide +kernel
theorem d_M_alarm_17 : decode b_M_alarm 17 = .ok (.getfield 137, 3) := by decide +kernel
theorem d_M_alarm_20 : decode b_M_alarm 20 = .ok (.ifCond .ne 16, 3) := by decide +kernel
theorem d_M_alarm_23 : decode b_M_alarm 23 = .ok (.aload_n 0, 1) := by decide +kernel
theorem d_M_alarm_24 : decode b_M_alarm 24 = .ok (.getfield 98, 3) := by decide +kernel
theorem d_M_alarm_27 : decode b_M_alarm 27 = .ok (.iload_n 1, 1) := by decide +kernel
theorem d_M_alarm_28 : decode b_M_alarm 28 = .ok (.baload, 1) := by decide +kernel
theorem d_M_alarm_29 : decode b_M_alarm 29 = .ok (.ifCond .eq 7, 3) := by decide +kernel
theorem d_M_alarm_32 : decode b_M_alarm 32 = .ok (.iconst 1, 1) := by decide +kernel
theorem d_M_alarm_33 : decode b_M_alarm 33 = .ok (.goto 4, 3) := by decide +kernel
theorem d_M_alarm_36 : decode b_M_alarm 36 = .ok (.iconst 0, 1) := by decide +kernel
theorem d_M_alarm_37 : decode b_M_alarm 37 = .ok (.ireturn, 1) := by decide +kernel
theorem d_M_count_0 : decode b_M_count 0 = .ok (.aload_n 0, 1) := by decide +kernel
theorem d_M_count_1 : decode b_M_count 1 = .ok (.iload_n 1, 1) := by decide +kernel
theorem d_M_count_2 : decode b_M_count 2 = .ok (.invokestatic 193, 3) := by decide +kernel
theorem d_M_count_5 : decode b_M_count 5 = .ok (.ifCond .eq 16, 3) := by decide +kernel
theorem d_M_count_8 : decode b_M_count 8 = .ok (.iload_n 2, 1) := by decide +kernel
theorem d_M_count_9 : decode b_M_count 9 = .ok (.iconst 0, 1) := by decide +kernel
theorem d_M_count_10 : decode b_M_count 10 = .ok (.iconst 4, 1) := by decide +kernel
theorem d_M_count_11 : decode b_M_count 11 = .ok (.invokestatic 196, 3) := by decide +kernel
theorem d_M_count_14 : decode b_M_count 14 = .ok (.ifCond .eq 7, 3) := by decide +kernel
theorem d_M_count_17 : decode b_M_count 17 = .ok (.iconst 0, 1) := by decide +kernel
theorem d_M_count_18 : decode b_M_count 18 = .ok (.goto 4, 3) := by decide +kernel
theorem d_M_count_21 : decode b_M_count 21 = .ok (.iconst 1, 1) := by decide +kernel
theorem d_M_count_22 : decode b_M_count 22 = .ok (.putfield 137, 3) := by decide +kernel
theorem d_M_count_25 : decode b_M_count 25 = .ok (.aload_n 0, 1) := by decide +kernel
theorem d_M_count_26 : decode b_M_count 26 = .ok (.getfield 137, 3) := by decide +kernel
theorem d_M_count_29 : decode b_M_count 29 = .ok (.ifCond .le 7, 3) := by decide +kernel
theorem d_M_count_32 : decode b_M_count 32 = .ok (.iconst 0, 1) := by decide +kernel
theorem d_M_count_33 : decode b_M_count 33 = .ok (.goto 13, 3) := by decide +kernel
theorem d_M_count_36 : decode b_M_count 36 = .ok (.aload_n 0, 1) := by decide +kernel
theorem d_M_count_37 : decode b_M_count 37 = .ok (.getfield 134, 3) := by decide +kernel
theorem d_M_count_40 : decode b_M_count 40 = .ok (.iconst 5, 1) := by decide +kernel
theorem d_M_count_41 : decode b_M_count 41 = .ok (.iload_n 1, 1) := by decide +kernel
theorem d_M_count_42 : decode b_M_count 42 = .ok (.imul, 1) := by decide +kernel
theorem d_M_count_43 : decode b_M_count 43 = .ok (.iload_n 2, 1) := by decide +kernel
theorem d_M_count_44 : decode b_M_count 44 = .ok (.iadd, 1) := by decide +kernel
theorem d_M_count_45 : decode b_M_count 45 = .ok (.iaload, 1) := by decide +kernel
theorem d_M_count_46 : decode b_M_count 46 = .ok (.ireturn, 1) := by decide +kernel
end
section
theorem isEnd_ok {G : Mem} {a : Int32} (h : ¬ sp_M_isEnd G a = 0) : a = 0 ∨ a = 1 := by
  unfold sp_M_isEnd at h
  by_cases h0 : a = 0
  · exact Or.inl h0
  · by_cases h1 : a = 1
    · exact Or.inr h1
    · exact absurd (by simp [h0, h1]) h
theorem within_ok {G : Mem} {v lo hi : Int32} (h : ¬ sp_M_within G v lo hi = 0) : lo ≤ v ∧ v ≤ hi := by
  unfold sp_M_within at h
  by_cases h0 : v < lo
  · exact absurd (by simp [h0]) h
  · by_cases h1 : hi < v
    · exact absurd (by simp [h0, h1]) h
    · exact ⟨Int32.not_lt.mp h0, Int32.not_lt.mp h1⟩
theorem ite_le0 {p : Prop} [Decidable p] {x : Int32} (h : (if p then 1 else x) ≤ 0) : ¬ p ∧ x ≤ 0 := by
  by_cases hp : p
  · rw [if_pos hp] at h
    exact absurd h (by decide)
  · rw [if_neg hp] at h
    exact ⟨hp, h⟩
theorem ite_eq0 {p : Prop} [Decidable p] {x : Int32} (h : (if p then 1 else x) = 0) : ¬ p ∧ x = 0 := by
  by_cases hp : p
  · rw [if_pos hp] at h
    exact absurd h (by decide)
  · rw [if_neg hp] at h
    exact ⟨hp, h⟩
theorem e_in {a : Int32} (h : a = 0 ∨ a = 1) : vp_in a 2 := by rcases h with rfl | rfl <;> (unfold vp_in; decide)
theorem ok1 {G : Mem} {a x : Int32} (h : (if sp_M_isEnd G a = 0 then 1 else x) ≤ 0) : a = 0 ∨ a = 1 := isEnd_ok (ite_le0 h).1
theorem ok1e {G : Mem} {a x : Int32} (h : (if sp_M_isEnd G a = 0 then 1 else x) = 0) : a = 0 ∨ a = 1 := isEnd_ok (ite_eq0 h).1
theorem ok2 {G : Mem} {a v lo hi x : Int32} (h : (if sp_M_isEnd G a = 0 then 1 else (if sp_M_within G v lo hi = 0 then 1 else x)) ≤ 0) : lo ≤ v ∧ v ≤ hi := within_ok (ite_le0 (ite_le0 h).2).1
theorem bd_nat {v : Int32} {n : Nat} (hn : n < 2 ^ 31) (h0 : 0 ≤ v) (h1 : v ≤ nI n) : ∃ j : Nat, j ≤ n ∧ v = nI j := nI_of2 (M := nI n) (nI_toInt hn) (Int32.not_lt.mpr h0) h1
theorem count_in {a v : Int32} (he : a = 0 ∨ a = 1) (h : 0 ≤ v ∧ v ≤ 4) : vp_in (5 * a + v) 10 := by
  obtain ⟨j, hj, rfl⟩ := bd_nat (n := 4) (by decide) h.1 h.2
  have key : ∀ j, j < 5 → vp_in (5 * 0 + nI j) 10 ∧ vp_in (5 * 1 + nI j) 10 := by unfold vp_in; decide +kernel
  rcases he with rfl | rfl
  · exact (key j (by omega)).1
  · exact (key j (by omega)).2
theorem load_in {a v : Int32} (he : a = 0 ∨ a = 1) (h : 1 ≤ v ∧ v ≤ 3) : vp_in (4 * a + v) 8 := by
  obtain ⟨j, hj, rfl⟩ := bd_nat (n := 3) (by decide) (Int32.le_trans (by decide : (0 : Int32) ≤ 1) h.1) h.2
  have key : ∀ j, j < 4 → vp_in (4 * 0 + nI j) 8 ∧ vp_in (4 * 1 + nI j) 8 := by unfold vp_in; decide +kernel
  rcases he with rfl | rfl
  · exact (key j (by omega)).1
  · exact (key j (by omega)).2
end
section
def sp_M_symbol  (G0 : Mem) (a1 : Int32) : Int32 × Mem :=
  (((if ((if ((sp_M_isEnd G0 a1)) = 0 then 1 else 0) : Int32) ≤ 0 then (G0 37 (tn a1)) else 0) : Int32), (wr G0 21 0 ((if ((sp_M_isEnd G0 a1)) = 0 then 1 else 0) : Int32)))
set_option maxHeartbeats 4000000 in
set_option maxRecDepth 100000 in
theorem c_M_symbol (l : Launch) (P : gP) (G0 : Mem)  (a1 : Int32)  : gMi l y_M_symbol b_M_symbol 2 (some .int) ({ frames := 1, cells := 0, slots := 0, locals := 20 }) [.ref (gad P 21), .int a1] P G0 (sp_M_symbol G0 a1) := by
  refine Met.ofW (cc := b_M_symbol) (maxL := 2) (ret := (some .int)) (by decide) rfl ?_
  intro p e s m args below meth c0 s₁ B hml hv
  obtain ⟨rfl, hpre⟩ := hv
  obtain ⟨E, hH⟩ := gE_of B hml hpre
  replace E : gE p s m _ meth c0 P "FramedLineModel" b_M_symbol 2 (some .int) := E
  have hx := E.1
  have hb := E.2.1
  have hl := lv_entry ([.ref (gad P 21), .int a1]) (n := 2) (Nat.le_of_ble_eq_true rfl)
  rw [lg_entry_eq]
  generalize (lg_sl ([.ref (gad P 21), .int a1]) ++ List.replicate (2 - (lg_sl ([.ref (gad P 21), .int a1])).length) Slot.unset).toArray = ls at hl ⊢
  replace hl : lv_has ls 2 [(0, .ref (gad P 21)), (1, .int a1)] := hl
  have hsp : sp_M_symbol G0 a1 = sp_M_symbol G0 a1 := rfl
  refine lv_aload_n hx hb d_M_symbol_0 rfl (lv_at hl 0 rfl) ?_
  refine lv_iload_n hx hb d_M_symbol_1 rfl (lv_at hl 1 rfl) ?_
  refine g_callSrz (As := [.int _]) E hH hl (c_M_isEnd l P _ _) lm_M_193 (Nat.le_of_ble_eq_true rfl) (Nat.le_of_ble_eq_true rfl) (Nat.le_of_ble_eq_true rfl) (Nat.le_of_ble_eq_true rfl) (Nat.le_of_ble_eq_true rfl) rfl rfl rfl rfl d_M_symbol_2 (fun H locs hH hz2 => ?_)
  refine jn (α := Int32) (fun z H1 locs1 => z = ((if ((sp_M_isEnd G0 a1)) = 0 then 1 else 0) : Int32) ∧ isB z ∧ gH P s G0 H1 locs1) (fun z => F0 m 13 ls (.int z :: .ref (gad P 21) :: [])) (fun z H locs h9 => ?_) (fun hJ => ?_)
  · obtain ⟨rfl, hz13, hH⟩ := h9
    refine g_puti E hH (gc_M rfl) cl_M ct_M 0 (by decide) lf_M_137 rfl (by decide +kernel) (fun _ _ => rfl) (Nat.le_of_ble_eq_true rfl) d_M_symbol_13 (fun H locs hH => ?_)
    refine lv_aload_n hx hb d_M_symbol_16 rfl (lv_at hl 0 rfl) ?_
    refine g_geti (v := ((if ((sp_M_isEnd G0 a1)) = 0 then 1 else 0) : Int32)) E hH (gc_M rfl) cl_M 0 (by decide) lf_M_137 (fun _ => rfl) (wr_same _ _ _ _) d_M_symbol_17 ?_
    refine jn (α := Int32) (fun z H1 locs1 => z = ((if ((if ((sp_M_isEnd G0 a1)) = 0 then 1 else 0) : Int32) ≤ 0 then (G0 37 (tn a1)) else 0) : Int32) ∧ gH P s (wr G0 21 0 ((if ((sp_M_isEnd G0 a1)) = 0 then 1 else 0) : Int32)) H1 locs1) (fun z => F0 m 33 ls (.int z :: [])) (fun z H locs h9 => ?_) (fun hJ => ?_)
    · obtain ⟨rfl, hH⟩ := h9
      exact g_iret E hH (hsp.trans (by rw [sp_M_symbol])) d_M_symbol_33
    · refine lv_if_le (tgt := 27) hx hb d_M_symbol_20 (by decide) (fun h1 => ?_) (fun h1 => ?_)
      · refine lv_aload_n hx hb d_M_symbol_27 rfl (lv_at hl 0 rfl) ?_
        refine g_get E hH (gc_M rfl) cl_M 17 (by decide) lf_M_56 rfl d_M_symbol_28 ?_
        refine lv_iload_n hx hb d_M_symbol_31 rfl (lv_at hl 1 rfl) ?_
        refine g_iaload (k := (tn a1)) (v := (G0 37 (tn a1))) E hH ⟨by decide, fun _ => rfl⟩ (e_in (ok1 h1)) rfl (wr_ck _ _ _ _ (by decide)) d_M_symbol_32 ?_
        exact hJ _ _ _ ⟨by simp only [if_pos h1], hH⟩
      · refine lv_iconst (v := 0) hx hb d_M_symbol_23 (by decide) ?_
        refine lv_goto (tgt := 33) hx hb d_M_symbol_24 (by decide) ?_
        exact hJ _ _ _ ⟨by simp only [if_neg h1], hH⟩
  · refine lv_if_eq (tgt := 12) hx hb d_M_symbol_5 (by decide) (fun h2 => ?_) (fun h2 => ?_)
    · refine lv_iconst (v := 1) hx hb d_M_symbol_12 (by decide) ?_
      exact hJ _ _ _ ⟨by simp only [if_pos h2], isB_1, hH⟩
    · refine lv_iconst (v := 0) hx hb d_M_symbol_8 (by decide) ?_
      refine lv_goto (tgt := 13) hx hb d_M_symbol_9 (by decide) ?_
      exact hJ _ _ _ ⟨by simp only [if_neg h2], isB_0, hH⟩

def sp_M_frame  (G0 : Mem) (a1 : Int32) : Int32 × Mem :=
  (((if ((if ((sp_M_isEnd G0 a1)) = 0 then 1 else 0) : Int32) ≤ 0 then (if (G0 52 (tn a1)) = 0 then (-1) else (G0 53 (tn a1))) else 0) : Int32), (wr G0 21 0 ((if ((sp_M_isEnd G0 a1)) = 0 then 1 else 0) : Int32)))
set_option maxHeartbeats 4000000 in
set_option maxRecDepth 100000 in
theorem c_M_frame (l : Launch) (P : gP) (G0 : Mem)  (a1 : Int32)  : gMi l y_M_frame b_M_frame 2 (some .int) ({ frames := 1, cells := 0, slots := 0, locals := 20 }) [.ref (gad P 21), .int a1] P G0 (sp_M_frame G0 a1) := by
  refine Met.ofW (cc := b_M_frame) (maxL := 2) (ret := (some .int)) (by decide) rfl ?_
  intro p e s m args below meth c0 s₁ B hml hv
  obtain ⟨rfl, hpre⟩ := hv
  obtain ⟨E, hH⟩ := gE_of B hml hpre
  replace E : gE p s m _ meth c0 P "FramedLineModel" b_M_frame 2 (some .int) := E
  have hx := E.1
  have hb := E.2.1
  have hl := lv_entry ([.ref (gad P 21), .int a1]) (n := 2) (Nat.le_of_ble_eq_true rfl)
  rw [lg_entry_eq]
  generalize (lg_sl ([.ref (gad P 21), .int a1]) ++ List.replicate (2 - (lg_sl ([.ref (gad P 21), .int a1])).length) Slot.unset).toArray = ls at hl ⊢
  replace hl : lv_has ls 2 [(0, .ref (gad P 21)), (1, .int a1)] := hl
  have hsp : sp_M_frame G0 a1 = sp_M_frame G0 a1 := rfl
  refine lv_aload_n hx hb d_M_frame_0 rfl (lv_at hl 0 rfl) ?_
  refine lv_iload_n hx hb d_M_frame_1 rfl (lv_at hl 1 rfl) ?_
  refine g_callSrz (As := [.int _]) E hH hl (c_M_isEnd l P _ _) lm_M_193 (Nat.le_of_ble_eq_true rfl) (Nat.le_of_ble_eq_true rfl) (Nat.le_of_ble_eq_true rfl) (Nat.le_of_ble_eq_true rfl) (Nat.le_of_ble_eq_true rfl) rfl rfl rfl rfl d_M_frame_2 (fun H locs hH hz2 => ?_)
  refine jn (α := Int32) (fun z H1 locs1 => z = ((if ((sp_M_isEnd G0 a1)) = 0 then 1 else 0) : Int32) ∧ isB z ∧ gH P s G0 H1 locs1) (fun z => F0 m 13 ls (.int z :: .ref (gad P 21) :: [])) (fun z H locs h9 => ?_) (fun hJ => ?_)
  · obtain ⟨rfl, hz13, hH⟩ := h9
    refine g_puti E hH (gc_M rfl) cl_M ct_M 0 (by decide) lf_M_137 rfl (by decide +kernel) (fun _ _ => rfl) (Nat.le_of_ble_eq_true rfl) d_M_frame_13 (fun H locs hH => ?_)
    refine lv_aload_n hx hb d_M_frame_16 rfl (lv_at hl 0 rfl) ?_
    refine g_geti (v := ((if ((sp_M_isEnd G0 a1)) = 0 then 1 else 0) : Int32)) E hH (gc_M rfl) cl_M 0 (by decide) lf_M_137 (fun _ => rfl) (wr_same _ _ _ _) d_M_frame_17 ?_
    refine jn (α := Int32) (fun z H1 locs1 => z = ((if ((if ((sp_M_isEnd G0 a1)) = 0 then 1 else 0) : Int32) ≤ 0 then (if (G0 52 (tn a1)) = 0 then (-1) else (G0 53 (tn a1))) else 0) : Int32) ∧ gH P s (wr G0 21 0 ((if ((sp_M_isEnd G0 a1)) = 0 then 1 else 0) : Int32)) H1 locs1) (fun z => F0 m 46 ls (.int z :: [])) (fun z H locs h9 => ?_) (fun hJ => ?_)
    · obtain ⟨rfl, hH⟩ := h9
      exact g_iret E hH (hsp.trans (by rw [sp_M_frame])) d_M_frame_46
    · refine lv_if_le (tgt := 27) hx hb d_M_frame_20 (by decide) (fun h1 => ?_) (fun h1 => ?_)
      · refine lv_aload_n hx hb d_M_frame_27 rfl (lv_at hl 0 rfl) ?_
        refine g_get E hH (gc_M rfl) cl_M 32 (by decide) lf_M_101 rfl d_M_frame_28 ?_
        refine lv_iload_n hx hb d_M_frame_31 rfl (lv_at hl 1 rfl) ?_
        refine g_baload (k := (tn a1)) (v := (G0 52 (tn a1))) E hH ⟨by decide, fun _ => rfl⟩ (e_in (ok1 h1)) rfl (wr_ck _ _ _ _ (by decide)) d_M_frame_32 ?_
        refine lv_if_eq (tgt := 45) hx hb d_M_frame_33 (by decide) (fun h2 => ?_) (fun h2 => ?_)
        · refine lv_iconst (v := (-1)) hx hb d_M_frame_45 (by decide) ?_
          exact hJ _ _ _ ⟨by simp only [if_pos h1, if_pos h2], hH⟩
        · refine lv_aload_n hx hb d_M_frame_36 rfl (lv_at hl 0 rfl) ?_
          refine g_get E hH (gc_M rfl) cl_M 33 (by decide) lf_M_104 rfl d_M_frame_37 ?_
          refine lv_iload_n hx hb d_M_frame_40 rfl (lv_at hl 1 rfl) ?_
          refine g_iaload (k := (tn a1)) (v := (G0 53 (tn a1))) E hH ⟨by decide, fun _ => rfl⟩ (e_in (ok1 h1)) rfl (wr_ck _ _ _ _ (by decide)) d_M_frame_41 ?_
          refine lv_goto (tgt := 46) hx hb d_M_frame_42 (by decide) ?_
          exact hJ _ _ _ ⟨by simp only [if_pos h1, if_neg h2], hH⟩
      · refine lv_iconst (v := 0) hx hb d_M_frame_23 (by decide) ?_
        refine lv_goto (tgt := 46) hx hb d_M_frame_24 (by decide) ?_
        exact hJ _ _ _ ⟨by simp only [if_neg h1], hH⟩
  · refine lv_if_eq (tgt := 12) hx hb d_M_frame_5 (by decide) (fun h3 => ?_) (fun h3 => ?_)
    · refine lv_iconst (v := 1) hx hb d_M_frame_12 (by decide) ?_
      exact hJ _ _ _ ⟨by simp only [if_pos h3], isB_1, hH⟩
    · refine lv_iconst (v := 0) hx hb d_M_frame_8 (by decide) ?_
      refine lv_goto (tgt := 13) hx hb d_M_frame_9 (by decide) ?_
      exact hJ _ _ _ ⟨by simp only [if_neg h3], isB_0, hH⟩

def sp_M_slip  (G0 : Mem) (a1 : Int32) : Int32 × Mem :=
  (if ((if ((sp_M_isEnd G0 a1)) = 0 then 1 else 0) : Int32) ≤ 0 then (((if (G0 35 (tn a1)) = 0 then 1 else 0) : Int32), (wr (wr G0 21 0 ((if ((sp_M_isEnd G0 a1)) = 0 then 1 else 0) : Int32)) 35 (tn a1) (zb 1))) else ((0 : Int32), (wr G0 21 0 ((if ((sp_M_isEnd G0 a1)) = 0 then 1 else 0) : Int32))))
set_option maxHeartbeats 4000000 in
set_option maxRecDepth 100000 in
theorem c_M_slip (l : Launch) (P : gP) (G0 : Mem)  (a1 : Int32)  : gMz l y_M_slip b_M_slip 3 (some .boolean) ({ frames := 1, cells := 0, slots := 0, locals := 20 }) [.ref (gad P 21), .int a1] P G0 (sp_M_slip G0 a1) := by
  refine Met.ofW (cc := b_M_slip) (maxL := 3) (ret := (some .boolean)) (by decide) rfl ?_
  intro p e s m args below meth c0 s₁ B hml hv
  obtain ⟨rfl, hpre⟩ := hv
  obtain ⟨E, hH⟩ := gE_of B hml hpre
  replace E : gE p s m _ meth c0 P "FramedLineModel" b_M_slip 3 (some .boolean) := E
  have hx := E.1
  have hb := E.2.1
  have hl := lv_entry ([.ref (gad P 21), .int a1]) (n := 3) (Nat.le_of_ble_eq_true rfl)
  rw [lg_entry_eq]
  generalize (lg_sl ([.ref (gad P 21), .int a1]) ++ List.replicate (3 - (lg_sl ([.ref (gad P 21), .int a1])).length) Slot.unset).toArray = ls at hl ⊢
  replace hl : lv_has ls 3 [(0, .ref (gad P 21)), (1, .int a1)] := hl
  have hsp : sp_M_slip G0 a1 = sp_M_slip G0 a1 := rfl
  refine lv_aload_n hx hb d_M_slip_0 rfl (lv_at hl 0 rfl) ?_
  refine lv_iload_n hx hb d_M_slip_1 rfl (lv_at hl 1 rfl) ?_
  refine g_callSrz (As := [.int _]) E hH hl (c_M_isEnd l P _ _) lm_M_193 (Nat.le_of_ble_eq_true rfl) (Nat.le_of_ble_eq_true rfl) (Nat.le_of_ble_eq_true rfl) (Nat.le_of_ble_eq_true rfl) (Nat.le_of_ble_eq_true rfl) rfl rfl rfl rfl d_M_slip_2 (fun H locs hH hz2 => ?_)
  refine jn (α := Int32) (fun z H1 locs1 => z = ((if ((sp_M_isEnd G0 a1)) = 0 then 1 else 0) : Int32) ∧ isB z ∧ gH P s G0 H1 locs1) (fun z => F0 m 13 ls (.int z :: .ref (gad P 21) :: [])) (fun z H locs h9 => ?_) (fun hJ => ?_)
  · obtain ⟨rfl, hz13, hH⟩ := h9
    refine g_puti E hH (gc_M rfl) cl_M ct_M 0 (by decide) lf_M_137 rfl (by decide +kernel) (fun _ _ => rfl) (Nat.le_of_ble_eq_true rfl) d_M_slip_13 (fun H locs hH => ?_)
    refine lv_aload_n hx hb d_M_slip_16 rfl (lv_at hl 0 rfl) ?_
    refine g_geti (v := ((if ((sp_M_isEnd G0 a1)) = 0 then 1 else 0) : Int32)) E hH (gc_M rfl) cl_M 0 (by decide) lf_M_137 (fun _ => rfl) (wr_same _ _ _ _) d_M_slip_17 ?_
    refine lv_if_le (tgt := 25) hx hb d_M_slip_20 (by decide) (fun h1 => ?_) (fun h1 => ?_)
    · refine lv_aload_n hx hb d_M_slip_25 rfl (lv_at hl 0 rfl) ?_
      refine g_get E hH (gc_M rfl) cl_M 15 (by decide) lf_M_50 rfl d_M_slip_26 ?_
      refine lv_iload_n hx hb d_M_slip_29 rfl (lv_at hl 1 rfl) ?_
      refine g_baload (k := (tn a1)) (v := (G0 35 (tn a1))) E hH ⟨by decide, fun _ => rfl⟩ (e_in (ok1 h1)) rfl (wr_ck _ _ _ _ (by decide)) d_M_slip_30 ?_
      refine jn (α := Int32) (fun z H1 locs1 => z = ((if (G0 35 (tn a1)) = 0 then 1 else 0) : Int32) ∧ isB z ∧ gH P s (wr G0 21 0 ((if ((sp_M_isEnd G0 a1)) = 0 then 1 else 0) : Int32)) H1 locs1) (fun z => F0 m 39 ls (.int z :: [])) (fun z H locs h9 => ?_) (fun hJ => ?_)
      · obtain ⟨rfl, hz39, hH⟩ := h9
        refine lv_istore_n hx hb d_M_slip_39 rfl hl (by decide) rfl (fun ls hl => ?_)
        refine lv_aload_n hx hb d_M_slip_40 rfl (lv_at hl 1 rfl) ?_
        refine g_get E hH (gc_M rfl) cl_M 15 (by decide) lf_M_50 rfl d_M_slip_41 ?_
        refine lv_iload_n hx hb d_M_slip_44 rfl (lv_at hl 2 rfl) ?_
        refine lv_iconst (v := 1) hx hb d_M_slip_45 (by decide) ?_
        refine g_bastore (k := (tn a1)) E hH ⟨by decide, fun _ => rfl⟩ (e_in (ok1 h1)) rfl d_M_slip_46 (fun H locs hH => ?_)
        refine lv_iload_n hx hb d_M_slip_47 rfl (lv_at hl 0 rfl) ?_
        exact g_zret E hH (hsp.trans (by simp only [sp_M_slip, if_pos h1])) hz39 d_M_slip_48
      · refine lv_if_ne (tgt := 38) hx hb d_M_slip_31 (by decide) (fun h2 => ?_) (fun h2 => ?_)
        · refine lv_iconst (v := 0) hx hb d_M_slip_38 (by decide) ?_
          exact hJ _ _ _ ⟨by simp only [if_neg h2], isB_0, hH⟩
        · refine lv_iconst (v := 1) hx hb d_M_slip_34 (by decide) ?_
          refine lv_goto (tgt := 39) hx hb d_M_slip_35 (by decide) ?_
          exact hJ _ _ _ ⟨by simp only [if_pos h2], isB_1, hH⟩
    · refine lv_iconst (v := 0) hx hb d_M_slip_23 (by decide) ?_
      exact g_zret E hH (hsp.trans (by simp only [sp_M_slip, if_neg h1])) isB_0 d_M_slip_24
  · refine lv_if_eq (tgt := 12) hx hb d_M_slip_5 (by decide) (fun h3 => ?_) (fun h3 => ?_)
    · refine lv_iconst (v := 1) hx hb d_M_slip_12 (by decide) ?_
      exact hJ _ _ _ ⟨by simp only [if_pos h3], isB_1, hH⟩
    · refine lv_iconst (v := 0) hx hb d_M_slip_8 (by decide) ?_
      refine lv_goto (tgt := 13) hx hb d_M_slip_9 (by decide) ?_
      exact hJ _ _ _ ⟨by simp only [if_neg h3], isB_0, hH⟩

def sp_M_aligned  (G0 : Mem) (a1 : Int32) : Int32 × Mem :=
  (((if ((if ((sp_M_isEnd G0 a1)) = 0 then 1 else 0) : Int32) = 0 then (if (G0 43 (tn a1)) = 2 then 1 else 0) else 0) : Int32), (wr G0 21 0 ((if ((sp_M_isEnd G0 a1)) = 0 then 1 else 0) : Int32)))
set_option maxHeartbeats 4000000 in
set_option maxRecDepth 100000 in
theorem c_M_aligned (l : Launch) (P : gP) (G0 : Mem)  (a1 : Int32)  : gMz l y_M_aligned b_M_aligned 2 (some .boolean) ({ frames := 1, cells := 0, slots := 0, locals := 20 }) [.ref (gad P 21), .int a1] P G0 (sp_M_aligned G0 a1) := by
  refine Met.ofW (cc := b_M_aligned) (maxL := 2) (ret := (some .boolean)) (by decide) rfl ?_
  intro p e s m args below meth c0 s₁ B hml hv
  obtain ⟨rfl, hpre⟩ := hv
  obtain ⟨E, hH⟩ := gE_of B hml hpre
  replace E : gE p s m _ meth c0 P "FramedLineModel" b_M_aligned 2 (some .boolean) := E
  have hx := E.1
  have hb := E.2.1
  have hl := lv_entry ([.ref (gad P 21), .int a1]) (n := 2) (Nat.le_of_ble_eq_true rfl)
  rw [lg_entry_eq]
  generalize (lg_sl ([.ref (gad P 21), .int a1]) ++ List.replicate (2 - (lg_sl ([.ref (gad P 21), .int a1])).length) Slot.unset).toArray = ls at hl ⊢
  replace hl : lv_has ls 2 [(0, .ref (gad P 21)), (1, .int a1)] := hl
  have hsp : sp_M_aligned G0 a1 = sp_M_aligned G0 a1 := rfl
  refine lv_aload_n hx hb d_M_aligned_0 rfl (lv_at hl 0 rfl) ?_
  refine lv_iload_n hx hb d_M_aligned_1 rfl (lv_at hl 1 rfl) ?_
  refine g_callSrz (As := [.int _]) E hH hl (c_M_isEnd l P _ _) lm_M_193 (Nat.le_of_ble_eq_true rfl) (Nat.le_of_ble_eq_true rfl) (Nat.le_of_ble_eq_true rfl) (Nat.le_of_ble_eq_true rfl) (Nat.le_of_ble_eq_true rfl) rfl rfl rfl rfl d_M_aligned_2 (fun H locs hH hz2 => ?_)
  refine jn (α := Int32) (fun z H1 locs1 => z = ((if ((sp_M_isEnd G0 a1)) = 0 then 1 else 0) : Int32) ∧ isB z ∧ gH P s G0 H1 locs1) (fun z => F0 m 13 ls (.int z :: .ref (gad P 21) :: [])) (fun z H locs h9 => ?_) (fun hJ => ?_)
  · obtain ⟨rfl, hz13, hH⟩ := h9
    refine g_puti E hH (gc_M rfl) cl_M ct_M 0 (by decide) lf_M_137 rfl (by decide +kernel) (fun _ _ => rfl) (Nat.le_of_ble_eq_true rfl) d_M_aligned_13 (fun H locs hH => ?_)
    refine lv_aload_n hx hb d_M_aligned_16 rfl (lv_at hl 0 rfl) ?_
    refine g_geti (v := ((if ((sp_M_isEnd G0 a1)) = 0 then 1 else 0) : Int32)) E hH (gc_M rfl) cl_M 0 (by decide) lf_M_137 (fun _ => rfl) (wr_same _ _ _ _) d_M_aligned_17 ?_
    refine jn (α := Int32) (fun z H1 locs1 => z = ((if ((if ((sp_M_isEnd G0 a1)) = 0 then 1 else 0) : Int32) = 0 then (if (G0 43 (tn a1)) = 2 then 1 else 0) else 0) : Int32) ∧ isB z ∧ gH P s (wr G0 21 0 ((if ((sp_M_isEnd G0 a1)) = 0 then 1 else 0) : Int32)) H1 locs1) (fun z => F0 m 38 ls (.int z :: [])) (fun z H locs h9 => ?_) (fun hJ => ?_)
    · obtain ⟨rfl, hz38, hH⟩ := h9
      exact g_zret E hH (hsp.trans (by rw [sp_M_aligned])) hz38 d_M_aligned_38
    · refine lv_if_ne (tgt := 37) hx hb d_M_aligned_20 (by decide) (fun h1 => ?_) (fun h1 => ?_)
      · refine lv_iconst (v := 0) hx hb d_M_aligned_37 (by decide) ?_
        exact hJ _ _ _ ⟨by simp only [if_neg h1], isB_0, hH⟩
      · refine lv_aload_n hx hb d_M_aligned_23 rfl (lv_at hl 0 rfl) ?_
        refine g_get E hH (gc_M rfl) cl_M 23 (by decide) lf_M_74 rfl d_M_aligned_24 ?_
        refine lv_iload_n hx hb d_M_aligned_27 rfl (lv_at hl 1 rfl) ?_
        refine g_iaload (k := (tn a1)) (v := (G0 43 (tn a1))) E hH ⟨by decide, fun _ => rfl⟩ (e_in (ok1e h1)) rfl (wr_ck _ _ _ _ (by decide)) d_M_aligned_28 ?_
        refine lv_iconst (v := 2) hx hb d_M_aligned_29 (by decide) ?_
        refine lv_icmp_ne (tgt := 37) hx hb d_M_aligned_30 (by decide) (fun h2 => ?_) (fun h2 => ?_)
        · refine lv_iconst (v := 0) hx hb d_M_aligned_37 (by decide) ?_
          exact hJ _ _ _ ⟨by simp only [if_pos h1, if_neg h2], isB_0, hH⟩
        · refine lv_iconst (v := 1) hx hb d_M_aligned_33 (by decide) ?_
          refine lv_goto (tgt := 38) hx hb d_M_aligned_34 (by decide) ?_
          exact hJ _ _ _ ⟨by simp only [if_pos h1, if_pos h2], isB_1, hH⟩
  · refine lv_if_eq (tgt := 12) hx hb d_M_aligned_5 (by decide) (fun h3 => ?_) (fun h3 => ?_)
    · refine lv_iconst (v := 1) hx hb d_M_aligned_12 (by decide) ?_
      exact hJ _ _ _ ⟨by simp only [if_pos h3], isB_1, hH⟩
    · refine lv_iconst (v := 0) hx hb d_M_aligned_8 (by decide) ?_
      refine lv_goto (tgt := 13) hx hb d_M_aligned_9 (by decide) ?_
      exact hJ _ _ _ ⟨by simp only [if_neg h3], isB_0, hH⟩

def sp_M_alarm  (G0 : Mem) (a1 : Int32) : Int32 × Mem :=
  (((if ((if ((sp_M_isEnd G0 a1)) = 0 then 1 else 0) : Int32) = 0 then (if (G0 51 (tn a1)) = 0 then 0 else 1) else 0) : Int32), (wr G0 21 0 ((if ((sp_M_isEnd G0 a1)) = 0 then 1 else 0) : Int32)))
set_option maxHeartbeats 4000000 in
set_option maxRecDepth 100000 in
theorem c_M_alarm (l : Launch) (P : gP) (G0 : Mem)  (a1 : Int32)  : gMz l y_M_alarm b_M_alarm 2 (some .boolean) ({ frames := 1, cells := 0, slots := 0, locals := 20 }) [.ref (gad P 21), .int a1] P G0 (sp_M_alarm G0 a1) := by
  refine Met.ofW (cc := b_M_alarm) (maxL := 2) (ret := (some .boolean)) (by decide) rfl ?_
  intro p e s m args below meth c0 s₁ B hml hv
  obtain ⟨rfl, hpre⟩ := hv
  obtain ⟨E, hH⟩ := gE_of B hml hpre
  replace E : gE p s m _ meth c0 P "FramedLineModel" b_M_alarm 2 (some .boolean) := E
  have hx := E.1
  have hb := E.2.1
  have hl := lv_entry ([.ref (gad P 21), .int a1]) (n := 2) (Nat.le_of_ble_eq_true rfl)
  rw [lg_entry_eq]
  generalize (lg_sl ([.ref (gad P 21), .int a1]) ++ List.replicate (2 - (lg_sl ([.ref (gad P 21), .int a1])).length) Slot.unset).toArray = ls at hl ⊢
  replace hl : lv_has ls 2 [(0, .ref (gad P 21)), (1, .int a1)] := hl
  have hsp : sp_M_alarm G0 a1 = sp_M_alarm G0 a1 := rfl
  refine lv_aload_n hx hb d_M_alarm_0 rfl (lv_at hl 0 rfl) ?_
  refine lv_iload_n hx hb d_M_alarm_1 rfl (lv_at hl 1 rfl) ?_
  refine g_callSrz (As := [.int _]) E hH hl (c_M_isEnd l P _ _) lm_M_193 (Nat.le_of_ble_eq_true rfl) (Nat.le_of_ble_eq_true rfl) (Nat.le_of_ble_eq_true rfl) (Nat.le_of_ble_eq_true rfl) (Nat.le_of_ble_eq_true rfl) rfl rfl rfl rfl d_M_alarm_2 (fun H locs hH hz2 => ?_)
  refine jn (α := Int32) (fun z H1 locs1 => z = ((if ((sp_M_isEnd G0 a1)) = 0 then 1 else 0) : Int32) ∧ isB z ∧ gH P s G0 H1 locs1) (fun z => F0 m 13 ls (.int z :: .ref (gad P 21) :: [])) (fun z H locs h9 => ?_) (fun hJ => ?_)
  · obtain ⟨rfl, hz13, hH⟩ := h9
    refine g_puti E hH (gc_M rfl) cl_M ct_M 0 (by decide) lf_M_137 rfl (by decide +kernel) (fun _ _ => rfl) (Nat.le_of_ble_eq_true rfl) d_M_alarm_13 (fun H locs hH => ?_)
    refine lv_aload_n hx hb d_M_alarm_16 rfl (lv_at hl 0 rfl) ?_
    refine g_geti (v := ((if ((sp_M_isEnd G0 a1)) = 0 then 1 else 0) : Int32)) E hH (gc_M rfl) cl_M 0 (by decide) lf_M_137 (fun _ => rfl) (wr_same _ _ _ _) d_M_alarm_17 ?_
    refine jn (α := Int32) (fun z H1 locs1 => z = ((if ((if ((sp_M_isEnd G0 a1)) = 0 then 1 else 0) : Int32) = 0 then (if (G0 51 (tn a1)) = 0 then 0 else 1) else 0) : Int32) ∧ isB z ∧ gH P s (wr G0 21 0 ((if ((sp_M_isEnd G0 a1)) = 0 then 1 else 0) : Int32)) H1 locs1) (fun z => F0 m 37 ls (.int z :: [])) (fun z H locs h9 => ?_) (fun hJ => ?_)
    · obtain ⟨rfl, hz37, hH⟩ := h9
      exact g_zret E hH (hsp.trans (by rw [sp_M_alarm])) hz37 d_M_alarm_37
    · refine lv_if_ne (tgt := 36) hx hb d_M_alarm_20 (by decide) (fun h1 => ?_) (fun h1 => ?_)
      · refine lv_iconst (v := 0) hx hb d_M_alarm_36 (by decide) ?_
        exact hJ _ _ _ ⟨by simp only [if_neg h1], isB_0, hH⟩
      · refine lv_aload_n hx hb d_M_alarm_23 rfl (lv_at hl 0 rfl) ?_
        refine g_get E hH (gc_M rfl) cl_M 31 (by decide) lf_M_98 rfl d_M_alarm_24 ?_
        refine lv_iload_n hx hb d_M_alarm_27 rfl (lv_at hl 1 rfl) ?_
        refine g_baload (k := (tn a1)) (v := (G0 51 (tn a1))) E hH ⟨by decide, fun _ => rfl⟩ (e_in (ok1e h1)) rfl (wr_ck _ _ _ _ (by decide)) d_M_alarm_28 ?_
        refine lv_if_eq (tgt := 36) hx hb d_M_alarm_29 (by decide) (fun h2 => ?_) (fun h2 => ?_)
        · refine lv_iconst (v := 0) hx hb d_M_alarm_36 (by decide) ?_
          exact hJ _ _ _ ⟨by simp only [if_pos h1, if_pos h2], isB_0, hH⟩
        · refine lv_iconst (v := 1) hx hb d_M_alarm_32 (by decide) ?_
          refine lv_goto (tgt := 37) hx hb d_M_alarm_33 (by decide) ?_
          exact hJ _ _ _ ⟨by simp only [if_pos h1, if_neg h2], isB_1, hH⟩
  · refine lv_if_eq (tgt := 12) hx hb d_M_alarm_5 (by decide) (fun h3 => ?_) (fun h3 => ?_)
    · refine lv_iconst (v := 1) hx hb d_M_alarm_12 (by decide) ?_
      exact hJ _ _ _ ⟨by simp only [if_pos h3], isB_1, hH⟩
    · refine lv_iconst (v := 0) hx hb d_M_alarm_8 (by decide) ?_
      refine lv_goto (tgt := 13) hx hb d_M_alarm_9 (by decide) ?_
      exact hJ _ _ _ ⟨by simp only [if_neg h3], isB_0, hH⟩

def sp_M_slot  (G0 : Mem) (a1 : Int32) (a2 : Int32) : Int32 × Mem :=
  (((if ((if ((sp_M_isEnd G0 a1)) = 0 then 1 else (if ((sp_M_within G0 a2 0 3)) = 0 then 1 else 0)) : Int32) ≤ 0 then (if (G0 49 (tn a1)) = 0 then (-1) else (((G0 50 (tn a1)) >>> ((24 - (8 * a2)) &&& 31)) &&& (255 : Int32))) else 0) : Int32), (wr G0 21 0 ((if ((sp_M_isEnd G0 a1)) = 0 then 1 else (if ((sp_M_within G0 a2 0 3)) = 0 then 1 else 0)) : Int32)))
set_option maxHeartbeats 4000000 in
set_option maxRecDepth 100000 in
theorem c_M_slot (l : Launch) (P : gP) (G0 : Mem)  (a1 : Int32) (a2 : Int32)  : gMi l y_M_slot b_M_slot 3 (some .int) ({ frames := 1, cells := 0, slots := 0, locals := 22 }) [.ref (gad P 21), .int a1, .int a2] P G0 (sp_M_slot G0 a1 a2) := by
  refine Met.ofW (cc := b_M_slot) (maxL := 3) (ret := (some .int)) (by decide) rfl ?_
  intro p e s m args below meth c0 s₁ B hml hv
  obtain ⟨rfl, hpre⟩ := hv
  obtain ⟨E, hH⟩ := gE_of B hml hpre
  replace E : gE p s m _ meth c0 P "FramedLineModel" b_M_slot 3 (some .int) := E
  have hx := E.1
  have hb := E.2.1
  have hl := lv_entry ([.ref (gad P 21), .int a1, .int a2]) (n := 3) (Nat.le_of_ble_eq_true rfl)
  rw [lg_entry_eq]
  generalize (lg_sl ([.ref (gad P 21), .int a1, .int a2]) ++ List.replicate (3 - (lg_sl ([.ref (gad P 21), .int a1, .int a2])).length) Slot.unset).toArray = ls at hl ⊢
  replace hl : lv_has ls 3 [(0, .ref (gad P 21)), (1, .int a1), (2, .int a2)] := hl
  have hsp : sp_M_slot G0 a1 a2 = sp_M_slot G0 a1 a2 := rfl
  refine lv_aload_n hx hb d_M_slot_0 rfl (lv_at hl 0 rfl) ?_
  refine lv_iload_n hx hb d_M_slot_1 rfl (lv_at hl 1 rfl) ?_
  refine g_callSrz (As := [.int _]) E hH hl (c_M_isEnd l P _ _) lm_M_193 (Nat.le_of_ble_eq_true rfl) (Nat.le_of_ble_eq_true rfl) (Nat.le_of_ble_eq_true rfl) (Nat.le_of_ble_eq_true rfl) (Nat.le_of_ble_eq_true rfl) rfl rfl rfl rfl d_M_slot_2 (fun H locs hH hz2 => ?_)
  refine jn (α := Int32) (fun z H1 locs1 => z = ((if ((sp_M_isEnd G0 a1)) = 0 then 1 else (if ((sp_M_within G0 a2 0 3)) = 0 then 1 else 0)) : Int32) ∧ isB z ∧ gH P s G0 H1 locs1) (fun z => F0 m 22 ls (.int z :: .ref (gad P 21) :: [])) (fun z H locs h9 => ?_) (fun hJ => ?_)
  · obtain ⟨rfl, hz22, hH⟩ := h9
    refine g_puti E hH (gc_M rfl) cl_M ct_M 0 (by decide) lf_M_137 rfl (by decide +kernel) (fun _ _ => rfl) (Nat.le_of_ble_eq_true rfl) d_M_slot_22 (fun H locs hH => ?_)
    refine lv_aload_n hx hb d_M_slot_25 rfl (lv_at hl 0 rfl) ?_
    refine g_geti (v := ((if ((sp_M_isEnd G0 a1)) = 0 then 1 else (if ((sp_M_within G0 a2 0 3)) = 0 then 1 else 0)) : Int32)) E hH (gc_M rfl) cl_M 0 (by decide) lf_M_137 (fun _ => rfl) (wr_same _ _ _ _) d_M_slot_26 ?_
    refine jn (α := Int32) (fun z H1 locs1 => z = ((if ((if ((sp_M_isEnd G0 a1)) = 0 then 1 else (if ((sp_M_within G0 a2 0 3)) = 0 then 1 else 0)) : Int32) ≤ 0 then (if (G0 49 (tn a1)) = 0 then (-1) else (((G0 50 (tn a1)) >>> ((24 - (8 * a2)) &&& 31)) &&& (255 : Int32))) else 0) : Int32) ∧ gH P s (wr G0 21 0 ((if ((sp_M_isEnd G0 a1)) = 0 then 1 else (if ((sp_M_within G0 a2 0 3)) = 0 then 1 else 0)) : Int32)) H1 locs1) (fun z => F0 m 67 ls (.int z :: [])) (fun z H locs h9 => ?_) (fun hJ => ?_)
    · obtain ⟨rfl, hH⟩ := h9
      exact g_iret E hH (hsp.trans (by rw [sp_M_slot])) d_M_slot_67
    · refine lv_if_le (tgt := 36) hx hb d_M_slot_29 (by decide) (fun h1 => ?_) (fun h1 => ?_)
      · refine lv_aload_n hx hb d_M_slot_36 rfl (lv_at hl 0 rfl) ?_
        refine g_get E hH (gc_M rfl) cl_M 29 (by decide) lf_M_92 rfl d_M_slot_37 ?_
        refine lv_iload_n hx hb d_M_slot_40 rfl (lv_at hl 1 rfl) ?_
        refine g_baload (k := (tn a1)) (v := (G0 49 (tn a1))) E hH ⟨by decide, fun _ => rfl⟩ (e_in (ok1 h1)) rfl (wr_ck _ _ _ _ (by decide)) d_M_slot_41 ?_
        refine lv_if_eq (tgt := 66) hx hb d_M_slot_42 (by decide) (fun h2 => ?_) (fun h2 => ?_)
        · refine lv_iconst (v := (-1)) hx hb d_M_slot_66 (by decide) ?_
          exact hJ _ _ _ ⟨by simp only [if_pos h1, if_pos h2], hH⟩
        · refine lv_aload_n hx hb d_M_slot_45 rfl (lv_at hl 0 rfl) ?_
          refine g_get E hH (gc_M rfl) cl_M 30 (by decide) lf_M_95 rfl d_M_slot_46 ?_
          refine lv_iload_n hx hb d_M_slot_49 rfl (lv_at hl 1 rfl) ?_
          refine g_iaload (k := (tn a1)) (v := (G0 50 (tn a1))) E hH ⟨by decide, fun _ => rfl⟩ (e_in (ok1 h1)) rfl (wr_ck _ _ _ _ (by decide)) d_M_slot_50 ?_
          refine lv_bipush (v := 24) hx hb d_M_slot_51 (by decide) ?_
          refine lv_bipush (v := 8) hx hb d_M_slot_53 (by decide) ?_
          refine lv_iload_n hx hb d_M_slot_55 rfl (lv_at hl 2 rfl) ?_
          refine lv_imul hx hb d_M_slot_56 ?_
          refine lv_isub hx hb d_M_slot_57 ?_
          refine lv_ishr hx hb d_M_slot_58 ?_
          refine lv_sipush (v := 255) hx hb d_M_slot_59 (by decide) ?_
          refine lv_iand hx hb d_M_slot_62 ?_
          refine lv_goto (tgt := 67) hx hb d_M_slot_63 (by decide) ?_
          exact hJ _ _ _ ⟨by simp only [if_pos h1, if_neg h2], hH⟩
      · refine lv_iconst (v := 0) hx hb d_M_slot_32 (by decide) ?_
        refine lv_goto (tgt := 67) hx hb d_M_slot_33 (by decide) ?_
        exact hJ _ _ _ ⟨by simp only [if_neg h1], hH⟩
  · refine lv_if_eq (tgt := 21) hx hb d_M_slot_5 (by decide) (fun h3 => ?_) (fun h3 => ?_)
    · refine lv_iconst (v := 1) hx hb d_M_slot_21 (by decide) ?_
      exact hJ _ _ _ ⟨by simp only [if_pos h3], isB_1, hH⟩
    · refine lv_iload_n hx hb d_M_slot_8 rfl (lv_at hl 2 rfl) ?_
      refine lv_iconst (v := 0) hx hb d_M_slot_9 (by decide) ?_
      refine lv_iconst (v := 3) hx hb d_M_slot_10 (by decide) ?_
      refine g_callSrz (As := [.int _, .int _, .int _]) E hH hl (c_M_within l P _ _ _ _) lm_M_196 (Nat.le_of_ble_eq_true rfl) (Nat.le_of_ble_eq_true rfl) (Nat.le_of_ble_eq_true rfl) (Nat.le_of_ble_eq_true rfl) (Nat.le_of_ble_eq_true rfl) rfl rfl rfl rfl d_M_slot_11 (fun H locs hH hz11 => ?_)
      refine lv_if_eq (tgt := 21) hx hb d_M_slot_14 (by decide) (fun h4 => ?_) (fun h4 => ?_)
      · refine lv_iconst (v := 1) hx hb d_M_slot_21 (by decide) ?_
        exact hJ _ _ _ ⟨by simp only [if_neg h3, if_pos h4], isB_1, hH⟩
      · refine lv_iconst (v := 0) hx hb d_M_slot_17 (by decide) ?_
        refine lv_goto (tgt := 22) hx hb d_M_slot_18 (by decide) ?_
        exact hJ _ _ _ ⟨by simp only [if_neg h3, if_neg h4], isB_0, hH⟩

def sp_M_count  (G0 : Mem) (a1 : Int32) (a2 : Int32) : Int32 × Mem :=
  (((if ((if ((sp_M_isEnd G0 a1)) = 0 then 1 else (if ((sp_M_within G0 a2 0 4)) = 0 then 1 else 0)) : Int32) ≤ 0 then (G0 63 (tn ((5 * a1) + a2))) else 0) : Int32), (wr G0 21 0 ((if ((sp_M_isEnd G0 a1)) = 0 then 1 else (if ((sp_M_within G0 a2 0 4)) = 0 then 1 else 0)) : Int32)))
set_option maxHeartbeats 4000000 in
set_option maxRecDepth 100000 in
theorem c_M_count (l : Launch) (P : gP) (G0 : Mem)  (a1 : Int32) (a2 : Int32)  : gMi l y_M_count b_M_count 3 (some .int) ({ frames := 1, cells := 0, slots := 0, locals := 22 }) [.ref (gad P 21), .int a1, .int a2] P G0 (sp_M_count G0 a1 a2) := by
  refine Met.ofW (cc := b_M_count) (maxL := 3) (ret := (some .int)) (by decide) rfl ?_
  intro p e s m args below meth c0 s₁ B hml hv
  obtain ⟨rfl, hpre⟩ := hv
  obtain ⟨E, hH⟩ := gE_of B hml hpre
  replace E : gE p s m _ meth c0 P "FramedLineModel" b_M_count 3 (some .int) := E
  have hx := E.1
  have hb := E.2.1
  have hl := lv_entry ([.ref (gad P 21), .int a1, .int a2]) (n := 3) (Nat.le_of_ble_eq_true rfl)
  rw [lg_entry_eq]
  generalize (lg_sl ([.ref (gad P 21), .int a1, .int a2]) ++ List.replicate (3 - (lg_sl ([.ref (gad P 21), .int a1, .int a2])).length) Slot.unset).toArray = ls at hl ⊢
  replace hl : lv_has ls 3 [(0, .ref (gad P 21)), (1, .int a1), (2, .int a2)] := hl
  have hsp : sp_M_count G0 a1 a2 = sp_M_count G0 a1 a2 := rfl
  refine lv_aload_n hx hb d_M_count_0 rfl (lv_at hl 0 rfl) ?_
  refine lv_iload_n hx hb d_M_count_1 rfl (lv_at hl 1 rfl) ?_
  refine g_callSrz (As := [.int _]) E hH hl (c_M_isEnd l P _ _) lm_M_193 (Nat.le_of_ble_eq_true rfl) (Nat.le_of_ble_eq_true rfl) (Nat.le_of_ble_eq_true rfl) (Nat.le_of_ble_eq_true rfl) (Nat.le_of_ble_eq_true rfl) rfl rfl rfl rfl d_M_count_2 (fun H locs hH hz2 => ?_)
  refine jn (α := Int32) (fun z H1 locs1 => z = ((if ((sp_M_isEnd G0 a1)) = 0 then 1 else (if ((sp_M_within G0 a2 0 4)) = 0 then 1 else 0)) : Int32) ∧ isB z ∧ gH P s G0 H1 locs1) (fun z => F0 m 22 ls (.int z :: .ref (gad P 21) :: [])) (fun z H locs h9 => ?_) (fun hJ => ?_)
  · obtain ⟨rfl, hz22, hH⟩ := h9
    refine g_puti E hH (gc_M rfl) cl_M ct_M 0 (by decide) lf_M_137 rfl (by decide +kernel) (fun _ _ => rfl) (Nat.le_of_ble_eq_true rfl) d_M_count_22 (fun H locs hH => ?_)
    refine lv_aload_n hx hb d_M_count_25 rfl (lv_at hl 0 rfl) ?_
    refine g_geti (v := ((if ((sp_M_isEnd G0 a1)) = 0 then 1 else (if ((sp_M_within G0 a2 0 4)) = 0 then 1 else 0)) : Int32)) E hH (gc_M rfl) cl_M 0 (by decide) lf_M_137 (fun _ => rfl) (wr_same _ _ _ _) d_M_count_26 ?_
    refine jn (α := Int32) (fun z H1 locs1 => z = ((if ((if ((sp_M_isEnd G0 a1)) = 0 then 1 else (if ((sp_M_within G0 a2 0 4)) = 0 then 1 else 0)) : Int32) ≤ 0 then (G0 63 (tn ((5 * a1) + a2))) else 0) : Int32) ∧ gH P s (wr G0 21 0 ((if ((sp_M_isEnd G0 a1)) = 0 then 1 else (if ((sp_M_within G0 a2 0 4)) = 0 then 1 else 0)) : Int32)) H1 locs1) (fun z => F0 m 46 ls (.int z :: [])) (fun z H locs h9 => ?_) (fun hJ => ?_)
    · obtain ⟨rfl, hH⟩ := h9
      exact g_iret E hH (hsp.trans (by rw [sp_M_count])) d_M_count_46
    · refine lv_if_le (tgt := 36) hx hb d_M_count_29 (by decide) (fun h1 => ?_) (fun h1 => ?_)
      · refine lv_aload_n hx hb d_M_count_36 rfl (lv_at hl 0 rfl) ?_
        refine g_get E hH (gc_M rfl) cl_M 43 (by decide) lf_M_134 rfl d_M_count_37 ?_
        refine lv_iconst (v := 5) hx hb d_M_count_40 (by decide) ?_
        refine lv_iload_n hx hb d_M_count_41 rfl (lv_at hl 1 rfl) ?_
        refine lv_imul hx hb d_M_count_42 ?_
        refine lv_iload_n hx hb d_M_count_43 rfl (lv_at hl 2 rfl) ?_
        refine lv_iadd hx hb d_M_count_44 ?_
        refine g_iaload (k := (tn ((5 * a1) + a2))) (v := (G0 63 (tn ((5 * a1) + a2)))) E hH ⟨by decide, fun _ => rfl⟩ (count_in (ok1 h1) (ok2 h1)) rfl (wr_ck _ _ _ _ (by decide)) d_M_count_45 ?_
        exact hJ _ _ _ ⟨by simp only [if_pos h1], hH⟩
      · refine lv_iconst (v := 0) hx hb d_M_count_32 (by decide) ?_
        refine lv_goto (tgt := 46) hx hb d_M_count_33 (by decide) ?_
        exact hJ _ _ _ ⟨by simp only [if_neg h1], hH⟩
  · refine lv_if_eq (tgt := 21) hx hb d_M_count_5 (by decide) (fun h2 => ?_) (fun h2 => ?_)
    · refine lv_iconst (v := 1) hx hb d_M_count_21 (by decide) ?_
      exact hJ _ _ _ ⟨by simp only [if_pos h2], isB_1, hH⟩
    · refine lv_iload_n hx hb d_M_count_8 rfl (lv_at hl 2 rfl) ?_
      refine lv_iconst (v := 0) hx hb d_M_count_9 (by decide) ?_
      refine lv_iconst (v := 4) hx hb d_M_count_10 (by decide) ?_
      refine g_callSrz (As := [.int _, .int _, .int _]) E hH hl (c_M_within l P _ _ _ _) lm_M_196 (Nat.le_of_ble_eq_true rfl) (Nat.le_of_ble_eq_true rfl) (Nat.le_of_ble_eq_true rfl) (Nat.le_of_ble_eq_true rfl) (Nat.le_of_ble_eq_true rfl) rfl rfl rfl rfl d_M_count_11 (fun H locs hH hz11 => ?_)
      refine lv_if_eq (tgt := 21) hx hb d_M_count_14 (by decide) (fun h3 => ?_) (fun h3 => ?_)
      · refine lv_iconst (v := 1) hx hb d_M_count_21 (by decide) ?_
        exact hJ _ _ _ ⟨by simp only [if_neg h2, if_pos h3], isB_1, hH⟩
      · refine lv_iconst (v := 0) hx hb d_M_count_17 (by decide) ?_
        refine lv_goto (tgt := 22) hx hb d_M_count_18 (by decide) ?_
        exact hJ _ _ _ ⟨by simp only [if_neg h2, if_neg h3], isB_0, hH⟩

def sp_M_load  (G0 : Mem) (a1 : Int32) (a2 : Int32) (a3 : Int32) : Int32 × Mem :=
  (if ((if ((sp_M_isEnd G0 a1)) = 0 then 1 else (if ((sp_M_within G0 a2 1 3)) = 0 then 1 else (if ((sp_M_within G0 a3 0 255)) = 0 then 1 else 0))) : Int32) ≤ 0 then ((G0 22 (tn ((4 * a1) + a2))), (wr (wr G0 21 0 ((if ((sp_M_isEnd G0 a1)) = 0 then 1 else (if ((sp_M_within G0 a2 1 3)) = 0 then 1 else (if ((sp_M_within G0 a3 0 255)) = 0 then 1 else 0))) : Int32)) 22 (tn ((4 * a1) + a2)) a3)) else ((0 : Int32), (wr G0 21 0 ((if ((sp_M_isEnd G0 a1)) = 0 then 1 else (if ((sp_M_within G0 a2 1 3)) = 0 then 1 else (if ((sp_M_within G0 a3 0 255)) = 0 then 1 else 0))) : Int32))))
set_option maxHeartbeats 4000000 in
set_option maxRecDepth 100000 in
theorem c_M_load (l : Launch) (P : gP) (G0 : Mem)  (a1 : Int32) (a2 : Int32) (a3 : Int32)  : gMi l y_M_load b_M_load 5 (some .int) ({ frames := 1, cells := 0, slots := 0, locals := 22 }) [.ref (gad P 21), .int a1, .int a2, .int a3] P G0 (sp_M_load G0 a1 a2 a3) := by
  refine Met.ofW (cc := b_M_load) (maxL := 5) (ret := (some .int)) (by decide) rfl ?_
  intro p e s m args below meth c0 s₁ B hml hv
  obtain ⟨rfl, hpre⟩ := hv
  obtain ⟨E, hH⟩ := gE_of B hml hpre
  replace E : gE p s m _ meth c0 P "FramedLineModel" b_M_load 5 (some .int) := E
  have hx := E.1
  have hb := E.2.1
  have hl := lv_entry ([.ref (gad P 21), .int a1, .int a2, .int a3]) (n := 5) (Nat.le_of_ble_eq_true rfl)
  rw [lg_entry_eq]
  generalize (lg_sl ([.ref (gad P 21), .int a1, .int a2, .int a3]) ++ List.replicate (5 - (lg_sl ([.ref (gad P 21), .int a1, .int a2, .int a3])).length) Slot.unset).toArray = ls at hl ⊢
  replace hl : lv_has ls 5 [(0, .ref (gad P 21)), (1, .int a1), (2, .int a2), (3, .int a3)] := hl
  have hsp : sp_M_load G0 a1 a2 a3 = sp_M_load G0 a1 a2 a3 := rfl
  refine lv_aload_n hx hb d_M_load_0 rfl (lv_at hl 0 rfl) ?_
  refine lv_iload_n hx hb d_M_load_1 rfl (lv_at hl 1 rfl) ?_
  refine g_callSrz (As := [.int _]) E hH hl (c_M_isEnd l P _ _) lm_M_193 (Nat.le_of_ble_eq_true rfl) (Nat.le_of_ble_eq_true rfl) (Nat.le_of_ble_eq_true rfl) (Nat.le_of_ble_eq_true rfl) (Nat.le_of_ble_eq_true rfl) rfl rfl rfl rfl d_M_load_2 (fun H locs hH hz2 => ?_)
  refine jn (α := Int32) (fun z H1 locs1 => z = ((if ((sp_M_isEnd G0 a1)) = 0 then 1 else (if ((sp_M_within G0 a2 1 3)) = 0 then 1 else (if ((sp_M_within G0 a3 0 255)) = 0 then 1 else 0))) : Int32) ∧ isB z ∧ gH P s G0 H1 locs1) (fun z => F0 m 33 ls (.int z :: .ref (gad P 21) :: [])) (fun z H locs h9 => ?_) (fun hJ => ?_)
  · obtain ⟨rfl, hz33, hH⟩ := h9
    refine g_puti E hH (gc_M rfl) cl_M ct_M 0 (by decide) lf_M_137 rfl (by decide +kernel) (fun _ _ => rfl) (Nat.le_of_ble_eq_true rfl) d_M_load_33 (fun H locs hH => ?_)
    refine lv_aload_n hx hb d_M_load_36 rfl (lv_at hl 0 rfl) ?_
    refine g_geti (v := ((if ((sp_M_isEnd G0 a1)) = 0 then 1 else (if ((sp_M_within G0 a2 1 3)) = 0 then 1 else (if ((sp_M_within G0 a3 0 255)) = 0 then 1 else 0))) : Int32)) E hH (gc_M rfl) cl_M 0 (by decide) lf_M_137 (fun _ => rfl) (wr_same _ _ _ _) d_M_load_37 ?_
    refine lv_if_le (tgt := 45) hx hb d_M_load_40 (by decide) (fun h1 => ?_) (fun h1 => ?_)
    · refine lv_aload_n hx hb d_M_load_45 rfl (lv_at hl 0 rfl) ?_
      refine g_get E hH (gc_M rfl) cl_M 2 (by decide) lf_M_7 rfl d_M_load_46 ?_
      refine lv_iconst (v := 4) hx hb d_M_load_49 (by decide) ?_
      refine lv_iload_n hx hb d_M_load_50 rfl (lv_at hl 1 rfl) ?_
      refine lv_imul hx hb d_M_load_51 ?_
      refine lv_iload_n hx hb d_M_load_52 rfl (lv_at hl 2 rfl) ?_
      refine lv_iadd hx hb d_M_load_53 ?_
      refine g_iaload (k := (tn ((4 * a1) + a2))) (v := (G0 22 (tn ((4 * a1) + a2)))) E hH ⟨by decide, fun _ => rfl⟩ (load_in (ok1 h1) (ok2 h1)) rfl (wr_ck _ _ _ _ (by decide)) d_M_load_54 ?_
      refine lv_istore hx hb d_M_load_55 hl (by decide) rfl (fun ls hl => ?_)
      refine lv_aload_n hx hb d_M_load_57 rfl (lv_at hl 1 rfl) ?_
      refine g_get E hH (gc_M rfl) cl_M 2 (by decide) lf_M_7 rfl d_M_load_58 ?_
      refine lv_iconst (v := 4) hx hb d_M_load_61 (by decide) ?_
      refine lv_iload_n hx hb d_M_load_62 rfl (lv_at hl 2 rfl) ?_
      refine lv_imul hx hb d_M_load_63 ?_
      refine lv_iload_n hx hb d_M_load_64 rfl (lv_at hl 3 rfl) ?_
      refine lv_iadd hx hb d_M_load_65 ?_
      refine lv_iload_n hx hb d_M_load_66 rfl (lv_at hl 4 rfl) ?_
      refine g_iastore (k := (tn ((4 * a1) + a2))) E hH ⟨by decide, fun _ => rfl⟩ (load_in (ok1 h1) (ok2 h1)) rfl d_M_load_67 (fun H locs hH => ?_)
      refine lv_iload hx hb d_M_load_68 (lv_at hl 0 rfl) ?_
      exact g_iret E hH (hsp.trans (by simp only [sp_M_load, if_pos h1])) d_M_load_70
    · refine lv_iconst (v := 0) hx hb d_M_load_43 (by decide) ?_
      exact g_iret E hH (hsp.trans (by simp only [sp_M_load, if_neg h1])) d_M_load_44
  · refine lv_if_eq (tgt := 32) hx hb d_M_load_5 (by decide) (fun h2 => ?_) (fun h2 => ?_)
    · refine lv_iconst (v := 1) hx hb d_M_load_32 (by decide) ?_
      exact hJ _ _ _ ⟨by simp only [if_pos h2], isB_1, hH⟩
    · refine lv_iload_n hx hb d_M_load_8 rfl (lv_at hl 2 rfl) ?_
      refine lv_iconst (v := 1) hx hb d_M_load_9 (by decide) ?_
      refine lv_iconst (v := 3) hx hb d_M_load_10 (by decide) ?_
      refine g_callSrz (As := [.int _, .int _, .int _]) E hH hl (c_M_within l P _ _ _ _) lm_M_196 (Nat.le_of_ble_eq_true rfl) (Nat.le_of_ble_eq_true rfl) (Nat.le_of_ble_eq_true rfl) (Nat.le_of_ble_eq_true rfl) (Nat.le_of_ble_eq_true rfl) rfl rfl rfl rfl d_M_load_11 (fun H locs hH hz11 => ?_)
      refine lv_if_eq (tgt := 32) hx hb d_M_load_14 (by decide) (fun h3 => ?_) (fun h3 => ?_)
      · refine lv_iconst (v := 1) hx hb d_M_load_32 (by decide) ?_
        exact hJ _ _ _ ⟨by simp only [if_neg h2, if_pos h3], isB_1, hH⟩
      · refine lv_iload_n hx hb d_M_load_17 rfl (lv_at hl 3 rfl) ?_
        refine lv_iconst (v := 0) hx hb d_M_load_18 (by decide) ?_
        refine lv_sipush (v := 255) hx hb d_M_load_19 (by decide) ?_
        refine g_callSrz (As := [.int _, .int _, .int _]) E hH hl (c_M_within l P _ _ _ _) lm_M_196 (Nat.le_of_ble_eq_true rfl) (Nat.le_of_ble_eq_true rfl) (Nat.le_of_ble_eq_true rfl) (Nat.le_of_ble_eq_true rfl) (Nat.le_of_ble_eq_true rfl) rfl rfl rfl rfl d_M_load_22 (fun H locs hH hz22 => ?_)
        refine lv_if_eq (tgt := 32) hx hb d_M_load_25 (by decide) (fun h4 => ?_) (fun h4 => ?_)
        · refine lv_iconst (v := 1) hx hb d_M_load_32 (by decide) ?_
          exact hJ _ _ _ ⟨by simp only [if_neg h2, if_neg h3, if_pos h4], isB_1, hH⟩
        · refine lv_iconst (v := 0) hx hb d_M_load_28 (by decide) ?_
          refine lv_goto (tgt := 33) hx hb d_M_load_29 (by decide) ?_
          exact hJ _ _ _ ⟨by simp only [if_neg h2, if_neg h3, if_neg h4], isB_0, hH⟩
end
section
/-! THROWING. The throw sites are of the form new, dup, ldc, invokespecial, athrow; a contract's answer is (k, r, G): k = 0 it returned (r by 'val'), k = 1 it threw an IllegalArgumentException, else an IllegalStateException; G the memory behind it. -/
def xkind : Cond → Bool
  | .declares _ => true
  | .castable .. => true
  | _ => false
def XW : List Cond := lw_tbl.filter xkind
theorem XW_at (i : Nat) {w : Cond} (h : lw_tbl[i]? = some w) (hg : xkind w = true) : w ∈ XW := List.mem_filter.mpr ⟨List.mem_of_getElem? h, hg⟩
theorem XW_tab {w : Cond} (h : w ∈ XW) : w.onTables = true := by
  have hn := (List.mem_filter.mp h).2
  cases w <;> first | rfl | (simp [xkind] at hn)
theorem XW_warm {s U : State} (hW : s.WarmedH U.vm) (h : ∀ w ∈ XW, va_Nw w s) : ∀ w ∈ XW, va_Nw w U := by
  intro w hw
  have hn := (List.mem_filter.mp hw).2
  have h1 := h w hw
  cases w <;> first | exact va_Nw.warmD hW h1 | exact va_Nw.warmC hW h1 | (simp [xkind] at hn)
abbrev xT : String := "java/lang/Throwable"
/-- a static of Throwable's: where it lies, that it holds a reference or null, and that its cell is none of the world's -/
def xSt (n d : String) (A : Nat → Prop) (U : State) (H : Heap) : Prop :=
  ∃ (c : ClassId) (k : Class) (i : Nat) (f : Field) (a : Nat) (cell : Cell) (v : Value), (U.vm.findClass xT = some c ∧ U.fieldFound? xT n d = some (c, k, i, f)) ∧ (f.isStatic = true ∧ k.statics = some a ∧ k.staticTypes[f.slot]? = some f.type) ∧ (H[a]? = some cell ∧ ¬ A a) ∧ cell.vm.isStatics = true ∧ cell.cls = c ∧ f.slot < cell.slots.size ∧ cell.slots[f.slot]? = some v ∧ v.isRef = true
theorem xSt.of {args : Array Value} {s : State} {n d : String} {A : Nat → Prop} (hl : (Cond.laysStatic xT n d).before args s = true) (hr : (Cond.isRef (.static xT n d)).before args s = true) (hA : ∀ a : Nat, a < s.heap.size → ¬ A a) : xSt n d A s s.heap := by
  obtain ⟨c, k, i, f, a, cell, h1, h2, h3, h4, h5, h6, h7, h8, h9⟩ := Cond.laysStatic_spec hl
  cases hv : (Term.static xT n d).eval args s none [] s with
  | none => simp [Cond.before, Cond.holds, Cond.value, hv] at hr
  | some v =>
    obtain ⟨-, a', cell', ha', hcell', -, hslot⟩ := Term.static_spec h2 hv
    cases h4.symm.trans ha'
    cases h5.symm.trans hcell'
    refine ⟨c, k, i, f, a, cell, v, ⟨h1, h2⟩, ⟨h3, h4, h9⟩, ⟨h5, hA a (Array.getElem?_eq_some_iff.mp h5).1⟩, h6, h7, h8, hslot, ?_⟩
    cases v <;> simp_all [Cond.before, Cond.holds, Cond.value, Value.isRef]
theorem xSt.moved {n d : String} {A : Nat → Prop} {u U : State} {H : Heap} (hvm : u.vm.Alike U.vm) (h : xSt n d A u H) : xSt n d A U H := by
  obtain ⟨c, k, i, f, a, cell, v, ⟨h1, h2⟩, ⟨h3, h4, h5⟩, h6⟩ := h
  obtain ⟨k', hi', he⟩ := State.fieldFound?_setVm hvm h2
  exact ⟨c, k', i, f, a, cell, v, ⟨by rw [hvm.findClass]; exact h1, hi'⟩, ⟨h3, by rw [he]; exact h4, by rw [he]; exact h5⟩, h6⟩
theorem xSt.kept {n d : String} {A : Nat → Prop} {U : State} {H H1 : Heap} (h : xSt n d A U H) (hq : ∀ a : Nat, a < H.size → ¬ A a → H1[a]? = H[a]?) : xSt n d A U H1 := by
  obtain ⟨c, k, i, f, a, cell, v, h1, h2, ⟨h3, h4⟩, h5⟩ := h
  exact ⟨c, k, i, f, a, cell, v, h1, h2, ⟨by rw [hq a (Array.getElem?_eq_some_iff.mp h3).1 h4]; exact h3, h4⟩, h5⟩
theorem xSt.lays {n d : String} {A : Nat → Prop} {s : State} {args : Array Value} (h : xSt n d A s s.heap) : (Cond.laysStatic xT n d).before args s = true := by
  obtain ⟨c, k, i, f, a, cell, v, ⟨h1, h2⟩, ⟨h3, h4, h5⟩, ⟨h6, -⟩, h7, h8, h9, -, -⟩ := h
  exact Cond.laysStatic_of h1 h2 h3 h4 h6 h7 h8 h9 h5
theorem xSt.isRef {n d : String} {A : Nat → Prop} {s : State} {args : Array Value} (h : xSt n d A s s.heap) : (Cond.isRef (.static xT n d)).before args s = true := by
  obtain ⟨c, k, i, f, a, cell, v, ⟨h1, h2⟩, ⟨h3, h4, h5⟩, ⟨h6, -⟩, h7, h8, h9, h10, h11⟩ := h
  have he : (Term.static xT n d).eval args s none [] s = some v := by
    simp [Term.eval, State.fieldNamed?, h2, h3, h4, h6, h7, h10]
  simp only [Cond.before, Cond.holds, Cond.value, he]
  cases v <;> simp_all [Value.isRef]
def gXs (P : gP) (U : State) : Prop := (∀ w ∈ XW, va_Nw w U) ∧ xSt "UNASSIGNED_STACK" "[Ljava/lang/StackTraceElement;" (gA P) U U.heap ∧ xSt "SUPPRESSED_SENTINEL" "Ljava/util/List;" (gA P) U U.heap ∧ (∃ a, vk_R "FramedLine" 128 "an argument is outside its bounds" a U) ∧ (∃ a, vk_R "FramedLine" 53 "eight others are to be disturbed" a U) ∧ (∃ a, vk_R "FramedLine" 125 "what is not 0 .. 4" a U) ∧ va_Nc "java/lang/IllegalStateException" "java/lang/IllegalArgumentException" U
def gPreX (P : gP) (G : Mem) (U : State) : Prop := gPre P G U ∧ gXs P U
theorem gXs_moved {P : gP} {s U : State} {H : Heap} {locs : List Loc} (h : gXs P s) (hS : va_S (gA P) s.heap H locs) (hU : U.heap = H) (hW : s.WarmedH U.vm) : gXs P U := by
  obtain ⟨h1, h2, h3, ⟨a4, h4⟩, ⟨a5, h5⟩, ⟨a6, h6⟩, h7⟩ := h
  refine ⟨XW_warm hW h1, ?_, ?_, ⟨a4, vk_R.warm hW h4⟩, ⟨a5, vk_R.warm hW h5⟩, ⟨a6, vk_R.warm hW h6⟩, va_Nc.moved hW.alike h7⟩
  · rw [hU]; exact xSt.moved hW.alike (h2.kept hS.2.1)
  · rw [hU]; exact xSt.moved hW.alike (h3.kept hS.2.1)
theorem gPreX_blind {av : List Value} {P : gP} {G : Mem} : FrameBlind (va_Pc av (gPreX P G)) := by
  intro a U g mk h
  obtain ⟨h0, hp, h1, h2, h3, ⟨a4, h4⟩, ⟨a5, h5⟩, ⟨a6, h6⟩, h7⟩ := h
  have hb := gPre_blind (av := av) (P := P) (G := G) a U g mk ⟨h0, hp⟩
  exact ⟨h0, hb.2, fun w hw => va_Nw.same (u := U) (U := U.calling g mk a) (XW_tab hw) rfl (h1 w hw), xSt.moved (u := U) (U := U.calling g mk a) (Vm.Alike.refl U.vm) h2, xSt.moved (u := U) (U := U.calling g mk a) (Vm.Alike.refl U.vm) h3, ⟨a4, vk_R.same (u := U) (U := U.calling g mk a) rfl h4⟩, ⟨a5, vk_R.same (u := U) (U := U.calling g mk a) rfl h5⟩, ⟨a6, vk_R.same (u := U) (U := U.calling g mk a) rfl h6⟩, va_Nc.moved (u := U) (U := U.calling g mk a) (Vm.Alike.refl U.vm) h7⟩
def xE (k : Int32) : String := if k = 1 then "java/lang/IllegalArgumentException" else "java/lang/IllegalStateException"
def xc (k : Int32) : Nat := if k = 0 then 0 else 1
def xs (k : Int32) : Nat := if k = 0 then 0 else 6
/-- the end of a method that may throw -/
def xQ (val : Int32 → Option Value) (P : gP) (X : Int32 × Int32 × Mem) : Array Value → State → Outcome → State → Prop := fun _ st o t =>
  ((X.1 = 0 ∧ o = .returned (val X.2.1)) ∨ (X.1 ≠ 0 ∧ ∃ (q : Addr) (ce : Cell), o = .threw q ∧ t.heap[q]? = some ce ∧ ce.vm = .none ∧ st.vm.findClass (xE X.1) = some ce.cls)) ∧
  va_P (gDD P) vwCl (gw P X.2.2) t.heap ∧ va_F (gA P) st t ∧ st.WarmedH t.vm ∧ ∃ L, st.sameButNew ({ t with vm := st.vm } : State) L (xc X.1) (xs X.1) ∧ ∀ z ∈ L, gA P z.base
def xMet (l : Launch) (y : MethodName) (cc : ByteArray) (maxL : Nat) (ret : Option FieldType) (rm : Room) (av : List Value) (val : Int32 → Option Value) (P : gP) (G : Mem) (X : Int32 × Int32 × Mem) : Prop :=
  MetFree l y (headSpec (Cond.code y cc maxL ret :: GW) rm) (va_Pc av (gPreX P G)) (fun _ _ _ _ _ => True) (xQ val P X)
def xMQ (below : List Frame) (val : Int32 → Option Value) (P : gP) (X : Int32 × Int32 × Mem) (args : Array Value) (s : State) : State → Prop := fun t => ∃ o, t.status = .running ∧ Ended t below o ∧ xQ val P X args s o t
theorem xMet.ofW {l : Launch} {y : MethodName} {cc : ByteArray} {maxL : Nat} {ret : Option FieldType} {rm : Room} {av : List Value} {val : Int32 → Option Value} {P : gP} {G : Mem} {X : Int32 × Int32 × Mem} (hy : plainName y.cls = true)
    (body : ∀ p e s m args below meth c s₁, BodyLoose p l y (headSpec (Cond.code y cc maxL ret :: GW) rm) cc maxL ret e s m args below meth c s₁ → c.maxLocals = maxL → va_Pc av (gPreX P G) args s →
      W p l e (headSpec (Cond.code y cc maxL ret :: GW) rm).room s m args below meth c s.heap [] 0 0 (xMQ below val P X args s) (entryFrame m args maxL)) : xMet l y cc maxL ret rm av val P G X := by
  refine MetFree.of_bodyS (code := cc) (maxLocals := maxL) (ret := ret) hy ?_ ?_
  · intro args s m h hn
    obtain ⟨meth, c, h1, h2, h3, h4, h5, h6, -, -⟩ := Cond.code_spec hn (atoms_spec (ws := Cond.code y cc maxL ret :: GW) h _ List.mem_cons_self)
    exact ⟨meth, c, h1, h2, h3, h4, h5, h6⟩
  · intro p e s m args below meth c s₁ B hml hP _
    have hh0 : s₁.heap = s.heap := by rw [B.state]; rfl
    obtain ⟨t, a1, o, b1, b2, b3⟩ := body p e s m args below meth c s₁ B hml hP s₁ hh0 (Stand.of_body B)
    exact ⟨t, o, a1, b1, b2, b3⟩
section XR
variable {p : Program} {l : Launch} {e : Env} {R : Room} {s : State} {m : MethodId} {args : Array Value} {below : List Frame} {meth : Method} {c : Code} {H : Heap} {locs : List Loc} {cells slots : Nat} {Q : State → Prop}
variable {cc : ByteArray} {pc : Nat} {ls : Array Slot} {rest : List Value} {P : gP} {G : Mem} {own : String} {nL : Nat} {ret : Option FieldType}
/-- the method's frame g, with q thrown over it, comes to Q -/
def xW (p : Program) (l : Launch) (e : Env) (R : Room) (s : State) (m : MethodId) (args : Array Value) (below : List Frame) (meth : Method) (c : Code) (H : Heap) (locs : List Loc) (cells slots : Nat) (Q : State → Prop) (g : JFrame) (q : Addr) : Prop :=
  ∀ T : State, T.heap = H → Stand p l e R s m args below meth c T locs cells slots → ∃ t, Steps p.tables e below ((T.setTop g).pushFrame (.throwing q)) t ∧ Q t
/-- what the machine does once the method mk that meets such a contract is entered -/
theorem x_in {T : State} {y : MethodName} {cy : ByteArray} {my len : Nat} {ry : Option FieldType} {rm : Room} {av : List Value} {val : Int32 → Option Value} {X : Int32 × Int32 × Mem} (hM : xMet l y cy my ry rm av val P G X) (hts : ∀ w ∈ GW, w.before args s = true) (hcw : Cond.code y cy my ry ∈ GW) (hini : Cond.initialized y.cls ∈ GW)
    (hF : rm.frames + 1 ≤ R.frames) (hL : 8 + (my + 11) + rm.locals ≤ R.locals) (hC : cells + rm.cells ≤ R.cells) (hS : slots + rm.slots ≤ R.slots)
    (X0 : Stand p l e R s m args below meth c T locs cells slots) {g : JFrame} {ig : Instr} {mk : MethodId} (hg : g.method = m) (hsize : g.locals.size = c.maxLocals) (hdg : decode c.code g.pc = .ok (ig, len)) (hW : 2 * g.monitorRoom + (g.stack.map fun v => v.category).sum ≤ 8) (hn : T.methodNamed? y = some mk) (hp : gPreX P G T) :
    ∃ (T' : State) (L : List Loc), Stand p l e R s m args below meth c T' (locs ++ L) (cells + xc X.1) (slots + xs X.1) ∧ (∀ z ∈ L, gA P z.base) ∧ va_P (gDD P) vwCl (gw P X.2.2) T'.heap ∧ va_F (gA P) T T' ∧
      ((X.1 = 0 ∧ Steps p.tables e below (doInvoke e (T.setTop g) [] mk av.toArray).1 (T'.setTop { g with pc := g.pc + len, stack := (val X.2.1).toList ++ g.stack })) ∨
       (X.1 ≠ 0 ∧ ∃ (q : Addr) (ce : Cell), T'.heap[q]? = some ce ∧ ce.vm = .none ∧ T.vm.findClass (xE X.1) = some ce.cls ∧ Steps p.tables e below (doInvoke e (T.setTop g) [] mk av.toArray).1 ((T'.setTop g).pushFrame (.throwing q)))) := by
  have hgood : ∀ w ∈ Cond.code y cy my ry :: GW, ∀ (a' : Array Value) (U : State), s.WarmedH U.vm → w.before a' U = true := pay_in hts (GW_good (big := GW) (fun w h => (List.mem_cons.mp h).elim (fun q => by rw [q]; exact hcw) id))
  have h1 : (headSpec (Cond.code y cy my ry :: GW) rm).pre.before av.toArray T = true := atoms_intro fun w hw => hgood w hw _ _ X0.warmed
  have h2 : (Cond.code y cy my ry).before av.toArray T = true := hgood _ List.mem_cons_self _ _ X0.warmed
  have h3 : (Cond.initialized y.cls).before av.toArray T = true := hgood _ (List.mem_cons_of_mem _ hini) _ _ X0.warmed
  obtain ⟨methY, cY, hmY, hcY, -, hlY, -⟩ := Cond.code_spec hn h2
  obtain ⟨kY, hkY, -⟩ := className_of_methodNamed hn
  have hiY : kY.init = .initialized := Cond.initialized_spec (findClass_of_methodNamed hn) hkY h3
  have hAt : At T g.method c below := by rw [hg]; exact X0.here
  have happ : (headSpec (Cond.code y cy my ry :: GW) rm).appliesLoose y e.platform (T.calling g mk av.toArray) = true :=
    Spec.appliesLoose_calling (g := g) hAt hdg hn hkY hiY (X0.room_calling (g := g) (R' := (headSpec (Cond.code y cy my ry :: GW) rm).room) hsize hmY hcY hF (by rw [hlY]; show _ + (my + 11) + rm.locals ≤ R.locals; omega) hC hS) h1
  obtain ⟨mid, hmid⟩ := hAt.above
  have hfr : (T.setTop g).frames = (.java g :: mid) ++ below := by rw [State.frames_setTop' g hAt.top, hmid]; rfl
  have hPc := gPreX_blind (av := av) (P := P) (G := G) av.toArray T g mk ⟨rfl, hp⟩
  obtain ⟨o, s₂, hst, -, hend, hq⟩ := Steps.callFree hM p X0.admits X0.cas X0.clock (acts := []) hfr happ hPc trivial
  rw [State.frames_setTop' g hAt.top] at hend
  have hq' : xQ val P X av.toArray (T.calling g mk av.toArray) o s₂ := hq
  obtain ⟨ho, hP, hF2, hW2, L, hsame, hLA⟩ := hq'
  obtain ⟨e2, q2, q3, q4, q5, q6⟩ := id hsame
  have e3 : s₂ = ({ (T.calling g mk av.toArray).setFrames s₂.frames with heap := s₂.heap, slotsUsed := s₂.slotsUsed } : State).setVm s₂.vm := by
    have hz : s₂ = ({ s₂ with vm := (T.calling g mk av.toArray).vm } : State).setVm s₂.vm := rfl
    rw [e2] at hz
    exact hz
  obtain ⟨g₀, hg0⟩ := Option.isSome_iff_exists.mp hAt.top
  obtain ⟨r, hr⟩ := State.topJava?_eq_some.mp hg0
  have hr' : (({ T with heap := s₂.heap, slotsUsed := s₂.slotsUsed } : State).setVm s₂.vm).frames = .java g₀ :: r := hr
  have hW' : T.WarmedH s₂.vm := hW2
  have hsm : T.sameButNew ({ T with heap := s₂.heap, slotsUsed := s₂.slotsUsed } : State) L (xc X.1) (xs X.1) := by
    refine ⟨?_, q2, q3, q4, q5, q6⟩
    obtain ⟨t, ht, -⟩ := State.frames_cons hr
    show ({ T with heap := s₂.heap, slotsUsed := s₂.slotsUsed } : State) = { T.setFrames T.frames with heap := s₂.heap, slotsUsed := s₂.slotsUsed }
    rw [State.setFrames_self ht]
  subst hg
  refine ⟨(({ T with heap := s₂.heap, slotsUsed := s₂.slotsUsed } : State).setVm s₂.vm), L, ⟨X0.admits, X0.cas, X0.clock, X0.frames, X0.room, X0.hears, X0.method, X0.code, (X0.here.setHeapUsed s₂.heap s₂.slotsUsed).setVm hW'.alike, X0.tail, State.WarmedH.trans X0.warmed hW', X0.limits, X0.bytes, X0.same.trans (hsm.setVm s.vm)⟩, hLA, hP, hF2, ?_⟩
  rcases ho with ⟨hk, rfl⟩ | ⟨hk, q, ce, rfl, hce, hcv, hcl⟩
  · refine Or.inl ⟨hk, ?_⟩
    obtain ⟨c₂, i₂, len₂, hc₂, hd₂, hf₂⟩ := hend
    have hcc : c₂ = c := by
      have h9 : s₂.code? g.method = T.code? g.method := by
        rw [State.code?_eq, State.code?_eq, hW'.alike.method?]
      exact Option.some.inj (hc₂.symm.trans (h9.trans hAt.code))
    subst hcc
    have hlen : len₂ = len := by rw [hdg] at hd₂; cases hd₂; rfl
    subst hlen
    have hs₂ : s₂ = (({ T with heap := s₂.heap, slotsUsed := s₂.slotsUsed } : State).setVm s₂.vm).setTop { g with pc := g.pc + len₂, stack := (val X.2.1).toList ++ g.stack } := by
      refine e3.trans ?_
      rw [hf₂, State.calling_eq hAt.top, State.setFrames_setFrames, State.setTop_of_frames _ hr', hr]
      rfl
    rw [← hs₂]
    exact hst
  · refine Or.inr ⟨hk, q, ce, hce, hcv, hcl, ?_⟩
    have hf₂ : s₂.frames = .throwing q :: .java g :: T.frames.tail := hend
    have hs₂ : s₂ = ((({ T with heap := s₂.heap, slotsUsed := s₂.slotsUsed } : State).setVm s₂.vm).setTop g).pushFrame (.throwing q) := by
      refine e3.trans ?_
      rw [hf₂, State.calling_eq hAt.top, State.setFrames_setFrames, State.pushFrame, State.frames_setTop _ hr', State.setTop_of_frames _ hr', State.setFrames_setFrames, hr]
      rfl
    rw [← hs₂]
    exact hst
end XR
end
section
section XR2
variable {p : Program} {l : Launch} {e : Env} {R : Room} {s : State} {m : MethodId} {args : Array Value} {below : List Frame} {meth : Method} {c : Code} {H : Heap} {locs : List Loc} {cells slots : Nat} {Q : State → Prop}
variable {cc : ByteArray} {pc : Nat} {ls : Array Slot} {rest : List Value} {P : gP} {G : Mem} {own : String} {nL : Nat} {ret : Option FieldType}
theorem gPreX_at {T : State} (E : gE p s m args meth c P own cc nL ret) (hx : gXs P s) (h : gH P s G H locs) (hT : T.heap = H) (hW : s.WarmedH T.vm) : gPreX P G T :=
  ⟨⟨by rw [hT]; exact h.1, gS_moved E.2.2.2.2.2.2.2 h.2 hT hW⟩, gXs_moved hx h.2 hT hW⟩
/-- behind x_in: on to the next instruction, or with the exception over the frame -/
theorem x_after {T : State} {len : Nat} {X : Int32 × Int32 × Mem} {val : Int32 → Option Value} {g : JFrame} {st0 : State} (h : gH P s G H locs) (hT : T.heap = H) (hvm : s.WarmedH T.vm)
    (hI : ∃ (T' : State) (L : List Loc), Stand p l e R s m args below meth c T' (locs ++ L) (cells + xc X.1) (slots + xs X.1) ∧ (∀ z ∈ L, gA P z.base) ∧ va_P (gDD P) vwCl (gw P X.2.2) T'.heap ∧ va_F (gA P) T T' ∧
      ((X.1 = 0 ∧ Steps p.tables e below st0 (T'.setTop { g with pc := g.pc + len, stack := (val X.2.1).toList ++ g.stack })) ∨
       (X.1 ≠ 0 ∧ ∃ (q : Addr) (ce : Cell), T'.heap[q]? = some ce ∧ ce.vm = .none ∧ T.vm.findClass (xE X.1) = some ce.cls ∧ Steps p.tables e below st0 ((T'.setTop g).pushFrame (.throwing q)))))
    (kk : X.1 = 0 → ∀ (H1 : Heap) (locs1 : List Loc), gH P s X.2.2 H1 locs1 → W p l e R s m args below meth c H1 locs1 cells slots Q { g with pc := g.pc + len, stack := (val X.2.1).toList ++ g.stack })
    (kx : X.1 ≠ 0 → ∀ (q : Addr) (ce : Cell) (H1 : Heap) (locs1 : List Loc), gH P s X.2.2 H1 locs1 → H1[q]? = some ce → ce.vm = .none → s.vm.findClass (xE X.1) = some ce.cls → xW p l e R s m args below meth c H1 locs1 (cells + 1) (slots + 6) Q g q) :
    ∃ t, Steps p.tables e below st0 t ∧ Q t := by
  obtain ⟨T', L, X', hL, hP, ⟨hz, hk⟩, ho⟩ := hI
  rw [hT] at hz hk
  have hS : va_S (gA P) s.heap T'.heap (locs ++ L) := ⟨Nat.le_trans h.2.1 hz, fun q h1 h2 => (hk q (Nat.lt_of_lt_of_le h1 h.2.1) h2).trans (h.2.2.1 q h1 h2), fun q hq => (List.mem_append.mp hq).elim (fun h9 => h.2.2.2 q h9) (fun h9 => hL q h9)⟩
  rcases ho with ⟨h0, st⟩ | ⟨h0, q, ce, hce, hcv, hcl, st⟩
  · have e1 : xc X.1 = 0 := by simp [xc, h0]
    have e2 : xs X.1 = 0 := by simp [xs, h0]
    rw [e1, e2] at X'
    obtain ⟨t, a1, b1⟩ := kk h0 T'.heap (locs ++ L) ⟨hP, hS⟩ T' rfl X'
    exact ⟨t, st.trans a1, b1⟩
  · have e1 : xc X.1 = 1 := by simp [xc, h0]
    have e2 : xs X.1 = 6 := by simp [xs, h0]
    rw [e1, e2] at X'
    rw [hvm.alike.findClass] at hcl
    obtain ⟨t, a1, b1⟩ := kx h0 q ce T'.heap (locs ++ L) ⟨hP, hS⟩ hce hcv hcl T' rfl X'
    exact ⟨t, st.trans a1, b1⟩
theorem x_callV {y : MethodName} {cy : ByteArray} {my n idx : Nat} {ry : Option FieldType} {rm : Room} {lv : List (Nat × Value)} {st0 As : List Value} {X : Int32 × Int32 × Mem} {val : Int32 → Option Value} {c0 ci N : Nat} {C : String} {T : u_T} {fl : (Nat → Int32) → List Value} (E : gE p s m args meth c P own cc nL ret) (hx : gXs P s) (h : gH P s G H locs) (hl : lv_has ls nL lv) (hM : xMet l y cy my ry rm (.ref (gad P c0) :: As) val P G X) (L : gLV own C idx y cy my ry n) (hc : c0 < 64 ∧ ∀ g, gc P c0 g = .inr (ci, fl g)) (hcl : gCl ci C T N)
    (hF : rm.frames + 1 ≤ R.frames) (hL : 8 + (my + 11) + rm.locals ≤ R.locals) (hCe : cells + rm.cells ≤ R.cells) (hSl : slots + rm.slots ≤ R.slots) (hroom : (rest.map fun v => v.category).sum ≤ 8) (hn : As.length = n) (hst : st0 = As.reverse ++ .ref (gad P c0) :: rest) (hdg : decode cc pc = .ok (.invokevirtual idx, 3))
    (kk : X.1 = 0 → ∀ (H1 : Heap) (locs1 : List Loc), gH P s X.2.2 H1 locs1 → W p l e R s m args below meth c H1 locs1 cells slots Q (F0 m (pc + 3) ls ((val X.2.1).toList ++ rest)))
    (kx : X.1 ≠ 0 → ∀ (q : Addr) (ce : Cell) (H1 : Heap) (locs1 : List Loc), gH P s X.2.2 H1 locs1 → H1[q]? = some ce → ce.vm = .none → s.vm.findClass (xE X.1) = some ce.cls → xW p l e R s m args below meth c H1 locs1 (cells + 1) (slots + 6) Q (F0 m pc ls rest) q) : W p l e R s m args below meth c H locs cells slots Q (F0 m pc ls st0) := by
  intro T0 hT X0
  have hts := E.2.2.2.2.2.1
  obtain ⟨⟨hcw, hini, hd⟩, hlk, hin, hse⟩ := L
  obtain ⟨cellB, hcB, hoB, hclB⟩ := va_recv (q := (C, T, N)) E.2.2.2.2.2.2.2.1 h.1 hcl.1 (q0 := c0) (fs := fl (G c0)) (by rw [gw_at hc.1, hc.2])
  have hcode := hts _ hcw
  obtain ⟨mk, methM, hnamed, hmethM, hstM, habM⟩ := Cond.instanceMethod_spec (hts _ hin)
  obtain ⟨methM', cM, hmethM', -, -, -, -, -, -, hsigM⟩ := Cond.code_spec hnamed hcode
  cases hmethM.symm.trans hmethM'
  obtain ⟨c2, r2, m2, q1, q2, q3, q4, kP, hkP, hkPi⟩ := Cond.selects_spec (hts _ hse)
  cases hclB.symm.trans q1
  cases (State.methodFound?_of_named hnamed ⟨hd.1, hd.2.1⟩).symm.trans q2
  cases hnamed.symm.trans q3
  have hselP : selectMethod e.platform s.vm cellB.cls mk = .method mk := by rw [Launch.admits_selectMethod X0.admits]; exact q4
  have hlen : ∀ sig, parseMethodDescriptor y.desc = some sig → As.length = sig.parameters.length := by
    intro sig hs
    have h2 := hd.2.2
    rw [hs] at h2
    exact hn.trans (Option.some.inj h2).symm
  obtain ⟨vm₁, X₁, hstep₁⟩ := X0.invokevirtual E.1 E.2.2.2.2.1 (hts _ hlk) hnamed hmethM hstM hkP hkPi ⟨hd.1, hd.2.1⟩ (a := gad P c0) (cell := cellB) (by rw [hT]; exact hcB)
    (fun z h9 => by rw [h9] at hoB; cases hoB) hselP hmethM habM hkP hkPi (g := F0 m pc ls st0) rfl (argsL := As) (rest := rest) (hlen _ hsigM) hst (by rw [E.2.1]; exact hdg)
  have hI := x_in (len := 3) (g := F0 m pc ls rest) (ig := .invokevirtual idx) hM hts hcw hini hF hL hCe hSl X₁ rfl (hl.1.trans E.2.2.2.1.symm) (by rw [E.2.1]; exact hdg) (lv_room hroom) (X₁.named hnamed) (gPreX_at E hx h hT X₁.warmed)
  obtain ⟨t, a1, b1⟩ := x_after (Q := Q) (g := F0 m pc ls rest) h (show (T0.setVm vm₁).heap = H from hT) X₁.warmed hI kk kx
  exact ⟨t, hstep₁ _ fun acts => by rw [doInvoke_state]; exact a1, b1⟩
theorem x_callS {y : MethodName} {cy : ByteArray} {my n idx : Nat} {ry : Option FieldType} {rm : Room} {lv : List (Nat × Value)} {st0 As : List Value} {X : Int32 × Int32 × Mem} {val : Int32 → Option Value} (E : gE p s m args meth c P own cc nL ret) (hx : gXs P s) (h : gH P s G H locs) (hl : lv_has ls nL lv) (hM : xMet l y cy my ry rm As val P G X) (L : gLS own idx y cy my ry n)
    (hF : rm.frames + 1 ≤ R.frames) (hL : 8 + (my + 11) + rm.locals ≤ R.locals) (hCe : cells + rm.cells ≤ R.cells) (hSl : slots + rm.slots ≤ R.slots) (hroom : (rest.map fun v => v.category).sum ≤ 8) (hn : As.length = n) (hst : st0 = As.reverse ++ rest) (hdg : decode cc pc = .ok (.invokestatic idx, 3))
    (kk : X.1 = 0 → ∀ (H1 : Heap) (locs1 : List Loc), gH P s X.2.2 H1 locs1 → W p l e R s m args below meth c H1 locs1 cells slots Q (F0 m (pc + 3) ls ((val X.2.1).toList ++ rest)))
    (kx : X.1 ≠ 0 → ∀ (q : Addr) (ce : Cell) (H1 : Heap) (locs1 : List Loc), gH P s X.2.2 H1 locs1 → H1[q]? = some ce → ce.vm = .none → s.vm.findClass (xE X.1) = some ce.cls → xW p l e R s m args below meth c H1 locs1 (cells + 1) (slots + 6) Q (F0 m pc ls rest) q) : W p l e R s m args below meth c H locs cells slots Q (F0 m pc ls st0) := by
  intro T0 hT X0
  have hts := E.2.2.2.2.2.1
  obtain ⟨⟨hcw, hini, hd⟩, hlk, hstt⟩ := L
  have hcode := hts _ hcw
  obtain ⟨mk, hnamed⟩ := Cond.code_named hcode
  obtain ⟨methM, cM, hmethM, -, -, -, -, -, -, hsigM⟩ := Cond.code_spec hnamed hcode
  have hstatic : methM.isStatic = true := Cond.static_spec hnamed hmethM (hts _ hstt)
  obtain ⟨kP, hkP, -⟩ := className_of_methodNamed hnamed
  have hinitP : kP.init = .initialized := Cond.initialized_spec (findClass_of_methodNamed hnamed) hkP (hts _ hini)
  have hlen : ∀ sig, parseMethodDescriptor y.desc = some sig → As.length = sig.parameters.length := by
    intro sig hs
    have h2 := hd.2.2
    rw [hs] at h2
    exact hn.trans (Option.some.inj h2).symm
  obtain ⟨vm₁, X₁, hstep₁⟩ := X0.invokestatic E.1 E.2.2.2.2.1 (hts _ hlk) hnamed hmethM hstatic hkP hinitP ⟨hd.1, hd.2.1⟩ (g := F0 m pc ls st0) rfl (argsL := As) (rest := rest) (hlen _ hsigM) hst (by rw [E.2.1]; exact hdg)
  have hI := x_in (len := 3) (g := F0 m pc ls rest) (ig := .invokestatic idx) hM hts hcw hini hF hL hCe hSl X₁ rfl (hl.1.trans E.2.2.2.1.symm) (by rw [E.2.1]; exact hdg) (lv_room hroom) (X₁.named hnamed) (gPreX_at E hx h hT X₁.warmed)
  obtain ⟨t, a1, b1⟩ := x_after (Q := Q) (g := F0 m pc ls rest) h (show (T0.setVm vm₁).heap = H from hT) X₁.warmed hI kk kx
  exact ⟨t, hstep₁ _ fun acts => by rw [doInvoke_state]; exact a1, b1⟩
/-- a return, in a method that may throw -/
theorem x_ret {X : Int32 × Int32 × Mem} {val : Int32 → Option Value} {g : JFrame} (h0 : X.1 = 0) (hG : X.2.2 = G) (h : gH P s G H locs)
    (k : W p l e R s m args below meth c H locs 0 0 (MQ below (fun _ st o t => o = .returned (val X.2.1) ∧ t.heap = H) args s 0 0 (gA P)) g) : W p l e R s m args below meth c H locs 0 0 (xMQ below val P X args s) g := by
  intro T hT X0
  obtain ⟨t, a1, o, b1, b2, ⟨b3, b4⟩, L, ⟨-, hW, hs⟩, hL⟩ := k T hT X0
  refine ⟨t, a1, o, b1, b2, Or.inl ⟨h0, b3⟩, by rw [b4, hG]; exact h.1, h.2.F b4, hW, L, ?_, hL⟩
  rw [show xc X.1 = 0 by simp [xc, h0], show xs X.1 = 0 by simp [xs, h0]]
  exact hs
/-- an exception that goes on to the caller -/
theorem x_out {X : Int32 × Int32 × Mem} {val : Int32 → Option Value} {q : Addr} {ce : Cell} {k : Int32} (hno : c.exceptionTable.isEmpty = true) (hlocks : meth.locks = false) (h0 : X.1 ≠ 0) (hk : X.1 = k) (hG : X.2.2 = G) (h : gH P s G H locs) (hce : H[q]? = some ce) (hcv : ce.vm = .none) (hcl : s.vm.findClass (xE k) = some ce.cls) :
    xW p l e R s m args below meth c H locs 1 6 (xMQ below val P X args s) (F0 m pc ls rest) q := by
  intro T hT X0
  have hout : ∀ x ∈ c.exceptionTable.toList, covers x pc = false := by
    have h9 : c.exceptionTable.size = 0 := by simpa [Array.isEmpty] using hno
    have h8 : c.exceptionTable.toList = [] := List.eq_nil_of_length_eq_zero (by simpa using h9)
    intro x hx
    rw [h8] at hx
    cases hx
  obtain ⟨st1, hrun, hend, hW, hsm⟩ := X0.leaveThrown q (g := F0 m pc ls rest) rfl rfl rfl hout hlocks
  have hh : (T.setFrames (.throwing q :: below)).heap = H := hT
  refine ⟨_, st1, .threw q, hrun, hend, Or.inr ⟨h0, q, ce, rfl, by rw [hh]; exact hce, hcv, by rw [hk]; exact hcl⟩, by rw [hh, hG]; exact h.1, h.2.F hh, hW, locs, ?_, h.2.2.2⟩
  rw [show xc X.1 = 1 by simp [xc, h0], show xs X.1 = 6 by simp [xs, h0]]
  exact hsm
end XR2
end
section
section XR3
variable {p : Program} {l : Launch} {e : Env} {R : Room} {s : State} {m : MethodId} {args : Array Value} {below : List Frame} {meth : Method} {c : Code} {H : Heap} {locs : List Loc} {cells slots : Nat} {Q : State → Prop}
variable {cc : ByteArray} {pc : Nat} {ls : Array Slot} {rest : List Value} {P : gP} {G : Mem} {own : String} {nL : Nat} {ret : Option FieldType}
/-- the walk as it stands, seen as the beginning of one: nothing written yet in this heap -/
theorem x_base {T : State} (X : Stand p l e R s m args below meth c T locs cells slots) {R' : Room} (hf : R'.frames ≤ R.frames) (hl : R'.locals ≤ R.locals) (hc : cells + R'.cells ≤ R.cells) (hs : slots + R'.slots ≤ R.slots) :
    Stand p l e R' ((T.setVm s.vm).setFrames (.invoking m args :: below)) m args below meth c T [] 0 0 := by
  have htop : (T.setVm s.vm).topJava?.isSome := X.here.top
  obtain ⟨g₀, hg0⟩ := Option.isSome_iff_exists.mp htop
  obtain ⟨r, hr⟩ := State.topJava?_eq_some.mp hg0
  have hfr : ((T.setVm s.vm).setFrames (.invoking m args :: below)).frames = .invoking m args :: below := State.frames_setFrames _ (State.cur_lt_of_top htop)
  have hl1 : e.platform.stackLimits (T.setVm s.vm).me = e.platform.stackLimits s.me := X.limits
  have hb1 : (T.setVm s.vm).me.stackBytes = s.me.stackBytes := X.bytes
  have huse : ((T.setVm s.vm).setFrames (.invoking m args :: below)).localsInUse = s.localsInUse := by
    rw [State.localsInUse_invoking hfr (meth := meth) (c := c) X.method X.code, State.localsInUse_invoking X.frames X.method X.code]
  have hsz := X.heapSize
  have hus := X.used
  refine { admits := X.admits, cas := X.cas, clock := X.clock, frames := hfr, room := ?_, hears := X.hears, method := X.method, code := X.code, here := X.here, tail := X.tail, warmed := X.warmed, limits := by rw [State.stackLimits_setFrames]; rfl, bytes := by rw [State.stackBytes_setFrames]; rfl, same := ⟨?_, Nat.le_refl _, Nat.le_refl _, ?_, ?_, fun a c9 h9 => ⟨c9, h9, rfl, rfl, fun _ _ => rfl⟩⟩ }
  · have hroom := X.room
    simp only [State.hasRoom, Bool.and_eq_true, decide_eq_true_eq] at hroom ⊢
    obtain ⟨⟨⟨⟨r1, r2, r3, r4, r5, r6⟩, r7⟩, r8⟩, r9⟩ := hroom
    rw [X.frames, List.length_cons] at r2 r3
    simp only [hfr, huse, List.length_cons, State.stackLimits_setFrames, State.stackBytes_setFrames, hl1, hb1]
    refine ⟨⟨⟨⟨by omega, by omega, by omega, by omega, by omega, r6⟩, ?_⟩, ?_⟩, X.book⟩
    · show T.heap.size + R'.cells ≤ e.platform.maxCells
      omega
    · show T.slotsUsed + R'.slots ≤ e.platform.maxSlots
      omega
  · obtain ⟨t, ht, -⟩ := State.frames_cons hr
    show T.setVm s.vm = { ((T.setVm s.vm).setFrames (.invoking m args :: below)).setFrames (T.setVm s.vm).frames with heap := T.heap, slotsUsed := T.slotsUsed }
    rw [State.setFrames_setFrames, State.setFrames_self ht]
    rfl
  · show T.slotsUsed = T.slotsUsed + ((T.heap.toList.drop T.heap.size).map (·.slots.size)).sum
    rw [List.drop_eq_nil_of_le (Nat.le_of_eq Array.length_toList)]
    rfl
  · show ((T.heap.toList.drop T.heap.size).map (·.slots.size)).sum ≤ 0
    rw [List.drop_eq_nil_of_le (Nat.le_of_eq Array.length_toList)]
    exact Nat.le_refl _
/-- the words of a throw: the good ones among GW, two kinds among XW, the statics' own -/
def xOk (ic : Nat) (cls : String) : Prop := ∀ w ∈ Bundle.ownAtoms "FramedLine" ic cls ["java/lang/RuntimeException", "java/lang/Exception"], w ∈ GW ∨ w ∈ XW ∨ w = .laysStatic xT "UNASSIGNED_STACK" "[Ljava/lang/StackTraceElement;" ∨ w = .laysStatic xT "SUPPRESSED_SENTINEL" "Ljava/util/List;" ∨ w = .isRef (.static xT "UNASSIGNED_STACK" "[Ljava/lang/StackTraceElement;") ∨ w = .isRef (.static xT "SUPPRESSED_SENTINEL" "Ljava/util/List;")
theorem xOk.words {ic : Nat} {cls : String} {U : State} {a' : Array Value} (h : xOk ic cls) (hts : ∀ w ∈ GW, w.before a' U = true) (hx : gXs P U) : ∀ w ∈ Bundle.ownAtoms "FramedLine" ic cls ["java/lang/RuntimeException", "java/lang/Exception"], w.before a' U = true := by
  intro w hw
  rcases h w hw with h1 | h1 | rfl | rfl | rfl | rfl
  · exact hts w h1
  · exact va_Nw.use (XW_tab h1) (hx.1 w h1)
  · exact hx.2.1.lays
  · exact hx.2.2.1.lays
  · exact hx.2.1.isRef
  · exact hx.2.2.1.isRef
/-- new, dup, ldc, invokespecial, athrow -/
theorem x_throw {X : Int32 × Int32 × Mem} {val : Int32 → Option Value} {cls text : String} {ik is ic : Nat} {lv : List (Nat × Value)} (E : gE p s m args meth c P "FramedLine" cc nL ret) (hx : gXs P s) (h : gH P s G H locs) (hl : lv_has ls nL lv) (htr : l.stackTraces = false) (hno : c.exceptionTable.isEmpty = true)
    (h0 : X.1 ≠ 0) (hk : xE X.1 = cls) (hG : X.2.2 = G) (hok : xOk ic cls) (hfit : Bundle.fit cls = true) (hlk : Cond.classLink "FramedLine" ik cls ∈ GW) (hini : Cond.initialized cls ∈ GW) (hst : ∃ a, vk_R "FramedLine" is text a s)
    (hF : 5 < R.frames) (hL : (rest.map fun v => v.category).sum + 82 ≤ R.locals) (hC : 1 ≤ R.cells) (hSl : 6 ≤ R.slots)
    (d0 : decode cc pc = .ok (.new ik, 3)) (d3 : decode cc (pc + 3) = .ok (.dup, 1)) (d4 : decode cc (pc + 4) = .ok (.ldc is, 2)) (d6 : decode cc (pc + 6) = .ok (.invokespecial ic, 3)) (d9 : decode cc (pc + 9) = .ok (.athrow, 1)) :
    W p l e R s m args below meth c H locs 0 0 (xMQ below val P X args s) (F0 m pc ls rest) := by
  intro T hT X0
  have hlocks := E.2.2.2.2.2.2.1
  have hb := E.2.1
  have hpt : e.platform.stackTraces = false := (show e.platform.stackTraces = l.stackTraces by rw [X0.admits.platform]).trans htr
  have Y := x_base X0 (R' := { frames := R.frames, locals := R.locals, cells := 1, slots := 6 }) (Nat.le_refl _) (Nat.le_refl _) (by show 0 + 1 ≤ R.cells; omega) (by show 0 + 6 ≤ R.slots; omega)
  obtain ⟨s', hA⟩ : ∃ z, z = (T.setVm s.vm).setFrames (.invoking m args :: below) := ⟨_, rfl⟩
  rw [← hA] at Y
  have hvm : s'.vm = s.vm := by rw [hA]; rfl
  have hhp : s'.heap = H := by rw [hA]; exact hT
  have hW0 : s.WarmedH s'.vm := by rw [hvm]; exact State.WarmedH.refl s
  have hx' : gXs P s' := gXs_moved hx h.2 hhp hW0
  have hts' : ∀ w ∈ GW, w.before args s' = true := fun w hw => pay_in E.2.2.2.2.2.1 (GW_good (big := GW) (fun _ h9 => h9)) w hw args s' hW0
  have hat := hok.words hts' hx'
  have hown' : s'.vm.findClass "FramedLine" = some m.cls := by rw [hvm]; exact E.2.2.2.2.1
  have hins : (Cond.instantiable cls 6).before args s' = true := hat _ (by simp [Bundle.ownAtoms])
  obtain ⟨sa, hsa⟩ := hst
  have hsa' : vk_R "FramedLine" is text sa s' := vk_R.warm hW0 hsa
  have hout : ∀ x ∈ c.exceptionTable.toList, covers x (pc + 6 + 3) = false := by
    have h9 : c.exceptionTable.size = 0 := by simpa [Array.isEmpty] using hno
    have h8 : c.exceptionTable.toList = [] := List.eq_nil_of_length_eq_zero (by simpa using h9)
    intro x hx
    rw [h8] at hx
    cases hx
  obtain ⟨vm₁, cX, kX, hfX, hkX, -, -, X₁, st1⟩ := Y.newCold E.1 (own := "FramedLine") (C := cls) (index := ik) (n := 6) hown' (hts' _ hlk) hins (hts' _ hini) (g := F0 m pc ls rest) rfl (by rw [hb]; exact d0) (Nat.le_refl _) (Nat.le_refl _)
  generalize hT1 : (T.setVm vm₁).pushCell { cls := cX, slots := kX.instanceTypes.map defaultValue, vm := .none } = T1 at X₁ st1
  have hcat : (Value.ref T.heap.size).category = 1 := rfl
  have hcellA : T1.heap[T.heap.size]? = some (freshCell cX kX) := by rw [← hT1]; exact State.heap_pushCell_size _ _
  have d3' : decode c.code (pc + 3) = .ok (.dup, 1) := by rw [hb]; exact d3
  have d4' : decode c.code (pc + 4) = .ok (.ldc is, 2) := by rw [hb]; exact d4
  obtain ⟨U, hsteps, hrun, hend, hW, hsame, ce, hce, hO⟩ := X₁.ctorThrowS E.1 hpt (own := "FramedLine") (cls := cls) (names := ["java/lang/RuntimeException", "java/lang/Exception"]) (ic := ic) hown' hfit (by decide +kernel) hat (fun x hx => nomatch hx) hfX hkX hcellA (by rw [hhp, hT]; exact Nat.le_refl _) (msg := .ref sa) rfl
    (g := { method := m, pc := pc + 6, locals := ls, stack := .ref sa :: .ref T.heap.size :: .ref T.heap.size :: rest, locked := none }) rfl (hl.1.trans E.2.2.2.1.symm) rfl rfl (rest := rest) rfl
    (by rw [hb]; exact d6) (by rw [hb]; exact d9) hout (by show 2 + 3 < R.frames; omega) (by simp only [List.map_cons, List.sum_cons, hcat]; show 2 * 0 + _ + (13 * (2 + 1) + 42) ≤ R.locals; omega) hlocks
  have hfr : s'.heap.size ≤ U.heap.size ∧ ∀ q : Nat, q < s'.heap.size → U.heap[q]? = s'.heap[q]? := by
    obtain ⟨-, u2, -, -, -, u6⟩ := id hsame
    refine ⟨u2, fun q hq => ?_⟩
    obtain ⟨c9, e1, e2, -, e4⟩ := u6 q _ (Array.getElem?_eq_getElem hq)
    have hs9 : c9.slots = (s'.heap[q]).slots := Array.ext_getElem? fun i => e4 i (fun hm => nomatch hm)
    rw [hs9] at e2
    have e1' : U.heap[q]? = some c9 := e1
    rw [e1', Array.getElem?_eq_getElem hq]
    exact congrArg some e2
  rw [hhp] at hfr
  have hWs : s.WarmedH U.vm := State.WarmedH.trans hW0 hW
  have hcl : s.vm.findClass (xE X.1) = some ce.cls := by
    have h9 := hO.cls
    rw [hvm] at h9
    rw [hk]
    exact h9
  have hall : s.sameButNew ({ U with vm := s.vm } : State) locs 1 6 := by
    subst hA
    obtain ⟨e1, e2⟩ := hsame
    rw [State.setFrames_setFrames] at e1
    have h2 : (T.setVm s.vm).sameButNew ({ U with vm := s.vm } : State) [] (0 + 1) (0 + 6) := ⟨e1, e2⟩
    have h3 := X0.same.trans h2
    rw [List.append_nil] at h3
    exact h3
  refine ⟨U, ?_, .threw T.heap.size, hrun, hend, Or.inr ⟨h0, T.heap.size, ce, rfl, hce, hO.vm, hcl⟩, ?_, ⟨Nat.le_trans h.2.1 hfr.1, fun q h1 h2 => (hfr.2 q (Nat.lt_of_lt_of_le h1 h.2.1)).trans (h.2.2.1 q h1 h2)⟩, hWs, locs, ?_, h.2.2.2⟩
  · refine st1 _ ?_
    show Steps p.tables e below (T1.setTop { method := m, pc := pc + 3, locals := ls, stack := .ref T.heap.size :: rest, locked := none }) _
    jvm_step X₁.here [X₁.here.top, E.1, d3', Value.category]
    exact X₁.ldcString E.1 (own := "FramedLine") (text := text) (index := is) (a := sa) hown' hsa'.1 hsa'.2
      (g := { method := m, pc := pc + 4, locals := ls, stack := .ref T.heap.size :: .ref T.heap.size :: rest, locked := none }) rfl d4' _ hsteps
  · rw [hG]
    exact h.1.kept (fun k q hq => hfr.2 q.1 (h.1 k q hq).lt)
  · rw [show xc X.1 = 1 by simp [xc, h0], show xs X.1 = 6 by simp [xs, h0]]
    exact hall
end XR3
end
