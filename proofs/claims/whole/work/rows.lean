section
-- ===== PART A: goes FIRST, ahead of the names: the tables' words, and 'selects' of the private methods out of them =====
/-- a private method of a class that the tables say can be made, by its rows of tables_1 -/
def lw_okq (q : MethodName × Nat) : Prop := (q.1.cls ≠ "java/lang/invoke/MethodHandle" ∧ q.1.cls ≠ "java/lang/invoke/VarHandle") ∧ Cond.instantiable q.1.cls q.2 ∈ tables_1 ∧ Cond.privateMethod q.1 ∈ tables_1 ∧ Cond.instanceMethod q.1 ∈ tables_1
theorem lw_p0 : lw_okq (⟨"FramedLine", "endOf", "(I)LFramedLine$End;"⟩, 3) := ⟨⟨by decide +kernel, by decide +kernel⟩, List.mem_of_getElem? (i := 18) (by decide +kernel), List.mem_of_getElem? (i := 266) (by decide +kernel), List.mem_of_getElem? (i := 267) (by decide +kernel)⟩
theorem lw_p1 : lw_okq (⟨"java/lang/Throwable", "fillInStackTrace", "(I)Ljava/lang/Throwable;"⟩, 6) := ⟨⟨by decide +kernel, by decide +kernel⟩, List.mem_of_getElem? (i := 310) (by decide +kernel), List.mem_of_getElem? (i := 308) (by decide +kernel), List.mem_of_getElem? (i := 309) (by decide +kernel)⟩
theorem lw_p2 : lw_okq (⟨"FramedLine$Arrivals", "placeOf", "(I)I"⟩, 4) := ⟨⟨by decide +kernel, by decide +kernel⟩, List.mem_of_getElem? (i := 83) (by decide +kernel), List.mem_of_getElem? (i := 356) (by decide +kernel), List.mem_of_getElem? (i := 357) (by decide +kernel)⟩
theorem lw_p3 : lw_okq (⟨"FramedLine$Sender", "oddSlotZero", "(LFramedLine$Receiver;)I"⟩, 6) := ⟨⟨by decide +kernel, by decide +kernel⟩, List.mem_of_getElem? (i := 32) (by decide +kernel), List.mem_of_getElem? (i := 406) (by decide +kernel), List.mem_of_getElem? (i := 407) (by decide +kernel)⟩
theorem lw_p4 : lw_okq (⟨"FramedLine$Sender", "firstBitOfOdd", "(LFramedLine$Rounds;)I"⟩, 6) := ⟨⟨by decide +kernel, by decide +kernel⟩, List.mem_of_getElem? (i := 32) (by decide +kernel), List.mem_of_getElem? (i := 416) (by decide +kernel), List.mem_of_getElem? (i := 417) (by decide +kernel)⟩
theorem lw_p5 : lw_okq (⟨"FramedLine$Sender", "evenSlotZero", "()I"⟩, 6) := ⟨⟨by decide +kernel, by decide +kernel⟩, List.mem_of_getElem? (i := 32) (by decide +kernel), List.mem_of_getElem? (i := 420) (by decide +kernel), List.mem_of_getElem? (i := 421) (by decide +kernel)⟩
theorem lw_p6 : lw_okq (⟨"FramedLine$Encoder", "pulseOfOne", "()I"⟩, 6) := ⟨⟨by decide +kernel, by decide +kernel⟩, List.mem_of_getElem? (i := 58) (by decide +kernel), List.mem_of_getElem? (i := 439) (by decide +kernel), List.mem_of_getElem? (i := 440) (by decide +kernel)⟩
theorem lw_p7 : lw_okq (⟨"FramedLine$Encoder", "symbolOfZero", "()I"⟩, 6) := ⟨⟨by decide +kernel, by decide +kernel⟩, List.mem_of_getElem? (i := 58) (by decide +kernel), List.mem_of_getElem? (i := 443) (by decide +kernel), List.mem_of_getElem? (i := 444) (by decide +kernel)⟩
theorem lw_p8 : lw_okq (⟨"FramedLine$Decoder", "takeZero", "()V"⟩, 7) := ⟨⟨by decide +kernel, by decide +kernel⟩, List.mem_of_getElem? (i := 103) (by decide +kernel), List.mem_of_getElem? (i := 463) (by decide +kernel), List.mem_of_getElem? (i := 464) (by decide +kernel)⟩
theorem lw_p9 : lw_okq (⟨"FramedLine$Decoder", "takePulse", "(I)V"⟩, 7) := ⟨⟨by decide +kernel, by decide +kernel⟩, List.mem_of_getElem? (i := 103) (by decide +kernel), List.mem_of_getElem? (i := 467) (by decide +kernel), List.mem_of_getElem? (i := 468) (by decide +kernel)⟩
theorem lw_p10 : lw_okq (⟨"FramedLine$Decoder", "takeV", "(I)V"⟩, 7) := ⟨⟨by decide +kernel, by decide +kernel⟩, List.mem_of_getElem? (i := 103) (by decide +kernel), List.mem_of_getElem? (i := 471) (by decide +kernel), List.mem_of_getElem? (i := 472) (by decide +kernel)⟩
theorem lw_p11 : lw_okq (⟨"FramedLine$Receiver", "search", "()V"⟩, 10) := ⟨⟨by decide +kernel, by decide +kernel⟩, List.mem_of_getElem? (i := 133) (by decide +kernel), List.mem_of_getElem? (i := 479) (by decide +kernel), List.mem_of_getElem? (i := 480) (by decide +kernel)⟩
theorem lw_p12 : lw_okq (⟨"FramedLine$Receiver", "wordStands", "()Z"⟩, 10) := ⟨⟨by decide +kernel, by decide +kernel⟩, List.mem_of_getElem? (i := 133) (by decide +kernel), List.mem_of_getElem? (i := 483) (by decide +kernel), List.mem_of_getElem? (i := 484) (by decide +kernel)⟩
theorem lw_p13 : lw_okq (⟨"FramedLine$Receiver", "enter", "(LFramedLine$State;)V"⟩, 10) := ⟨⟨by decide +kernel, by decide +kernel⟩, List.mem_of_getElem? (i := 133) (by decide +kernel), List.mem_of_getElem? (i := 489) (by decide +kernel), List.mem_of_getElem? (i := 490) (by decide +kernel)⟩
theorem lw_p14 : lw_okq (⟨"FramedLine$Receiver", "tryWord", "(I)V"⟩, 10) := ⟨⟨by decide +kernel, by decide +kernel⟩, List.mem_of_getElem? (i := 133) (by decide +kernel), List.mem_of_getElem? (i := 493) (by decide +kernel), List.mem_of_getElem? (i := 494) (by decide +kernel)⟩
theorem lw_p15 : lw_okq (⟨"FramedLine$Receiver", "align", "()V"⟩, 10) := ⟨⟨by decide +kernel, by decide +kernel⟩, List.mem_of_getElem? (i := 133) (by decide +kernel), List.mem_of_getElem? (i := 497) (by decide +kernel), List.mem_of_getElem? (i := 498) (by decide +kernel)⟩
def lw_privs_1 : List (MethodName × Nat) := [(⟨"FramedLine", "endOf", "(I)LFramedLine$End;"⟩, 3), (⟨"java/lang/Throwable", "fillInStackTrace", "(I)Ljava/lang/Throwable;"⟩, 6), (⟨"FramedLine$Arrivals", "placeOf", "(I)I"⟩, 4), (⟨"FramedLine$Sender", "oddSlotZero", "(LFramedLine$Receiver;)I"⟩, 6), (⟨"FramedLine$Sender", "firstBitOfOdd", "(LFramedLine$Rounds;)I"⟩, 6), (⟨"FramedLine$Sender", "evenSlotZero", "()I"⟩, 6), (⟨"FramedLine$Encoder", "pulseOfOne", "()I"⟩, 6), (⟨"FramedLine$Encoder", "symbolOfZero", "()I"⟩, 6), (⟨"FramedLine$Decoder", "takeZero", "()V"⟩, 7), (⟨"FramedLine$Decoder", "takePulse", "(I)V"⟩, 7), (⟨"FramedLine$Decoder", "takeV", "(I)V"⟩, 7), (⟨"FramedLine$Receiver", "search", "()V"⟩, 10), (⟨"FramedLine$Receiver", "wordStands", "()Z"⟩, 10), (⟨"FramedLine$Receiver", "enter", "(LFramedLine$State;)V"⟩, 10), (⟨"FramedLine$Receiver", "tryWord", "(I)V"⟩, 10), (⟨"FramedLine$Receiver", "align", "()V"⟩, 10)]
theorem lw_r1 : ∀ q ∈ lw_privs_1, lw_okq q := List.forall_mem_cons.mpr ⟨lw_p0, List.forall_mem_cons.mpr ⟨lw_p1, List.forall_mem_cons.mpr ⟨lw_p2, List.forall_mem_cons.mpr ⟨lw_p3, List.forall_mem_cons.mpr ⟨lw_p4, List.forall_mem_cons.mpr ⟨lw_p5, List.forall_mem_cons.mpr ⟨lw_p6, List.forall_mem_cons.mpr ⟨lw_p7, List.forall_mem_cons.mpr ⟨lw_p8, List.forall_mem_cons.mpr ⟨lw_p9, List.forall_mem_cons.mpr ⟨lw_p10, List.forall_mem_cons.mpr ⟨lw_p11, List.forall_mem_cons.mpr ⟨lw_p12, List.forall_mem_cons.mpr ⟨lw_p13, List.forall_mem_cons.mpr ⟨lw_p14, List.forall_mem_cons.mpr ⟨lw_p15, fun _ h => absurd h List.not_mem_nil⟩⟩⟩⟩⟩⟩⟩⟩⟩⟩⟩⟩⟩⟩⟩⟩
theorem lw_p16 : lw_okq (⟨"FramedLine$Receiver", "complete", "()V"⟩, 10) := ⟨⟨by decide +kernel, by decide +kernel⟩, List.mem_of_getElem? (i := 133) (by decide +kernel), List.mem_of_getElem? (i := 501) (by decide +kernel), List.mem_of_getElem? (i := 502) (by decide +kernel)⟩
theorem lw_p17 : lw_okq (⟨"FramedLine$Rounds", "findNumber", "(Z)V"⟩, 13) := ⟨⟨by decide +kernel, by decide +kernel⟩, List.mem_of_getElem? (i := 139) (by decide +kernel), List.mem_of_getElem? (i := 513) (by decide +kernel), List.mem_of_getElem? (i := 514) (by decide +kernel)⟩
theorem lw_p18 : lw_okq (⟨"FramedLine$Rounds", "judgeRoundWord", "()V"⟩, 13) := ⟨⟨by decide +kernel, by decide +kernel⟩, List.mem_of_getElem? (i := 139) (by decide +kernel), List.mem_of_getElem? (i := 519) (by decide +kernel), List.mem_of_getElem? (i := 520) (by decide +kernel)⟩
theorem lw_p19 : lw_okq (⟨"FramedLine$Rounds", "forgetNumber", "()V"⟩, 13) := ⟨⟨by decide +kernel, by decide +kernel⟩, List.mem_of_getElem? (i := 139) (by decide +kernel), List.mem_of_getElem? (i := 523) (by decide +kernel), List.mem_of_getElem? (i := 524) (by decide +kernel)⟩
theorem lw_p20 : lw_okq (⟨"FramedLine$Rounds", "endHalf", "()V"⟩, 13) := ⟨⟨by decide +kernel, by decide +kernel⟩, List.mem_of_getElem? (i := 139) (by decide +kernel), List.mem_of_getElem? (i := 528) (by decide +kernel), List.mem_of_getElem? (i := 529) (by decide +kernel)⟩
theorem lw_p21 : lw_okq (⟨"FramedLine$Rounds", "judgeHalfBefore", "()V"⟩, 13) := ⟨⟨by decide +kernel, by decide +kernel⟩, List.mem_of_getElem? (i := 139) (by decide +kernel), List.mem_of_getElem? (i := 532) (by decide +kernel), List.mem_of_getElem? (i := 533) (by decide +kernel)⟩
theorem lw_p22 : lw_okq (⟨"FramedLine$Receiver", "lookAtWord", "()V"⟩, 10) := ⟨⟨by decide +kernel, by decide +kernel⟩, List.mem_of_getElem? (i := 133) (by decide +kernel), List.mem_of_getElem? (i := 536) (by decide +kernel), List.mem_of_getElem? (i := 537) (by decide +kernel)⟩
theorem lw_p23 : lw_okq (⟨"FramedLineModel", "said", "(II)I"⟩, 44) := ⟨⟨by decide +kernel, by decide +kernel⟩, List.mem_of_getElem? (i := 589) (by decide +kernel), List.mem_of_getElem? (i := 747) (by decide +kernel), List.mem_of_getElem? (i := 748) (by decide +kernel)⟩
theorem lw_p24 : lw_okq (⟨"FramedLineModel", "send", "(I)I"⟩, 44) := ⟨⟨by decide +kernel, by decide +kernel⟩, List.mem_of_getElem? (i := 589) (by decide +kernel), List.mem_of_getElem? (i := 759) (by decide +kernel), List.mem_of_getElem? (i := 760) (by decide +kernel)⟩
theorem lw_p25 : lw_okq (⟨"FramedLineModel", "nextBit", "(I)I"⟩, 44) := ⟨⟨by decide +kernel, by decide +kernel⟩, List.mem_of_getElem? (i := 589) (by decide +kernel), List.mem_of_getElem? (i := 763) (by decide +kernel), List.mem_of_getElem? (i := 764) (by decide +kernel)⟩
theorem lw_p26 : lw_okq (⟨"FramedLineModel", "beginFrame", "(I)V"⟩, 44) := ⟨⟨by decide +kernel, by decide +kernel⟩, List.mem_of_getElem? (i := 589) (by decide +kernel), List.mem_of_getElem? (i := 767) (by decide +kernel), List.mem_of_getElem? (i := 768) (by decide +kernel)⟩
theorem lw_p27 : lw_okq (⟨"FramedLineModel", "mark", "(II)I"⟩, 44) := ⟨⟨by decide +kernel, by decide +kernel⟩, List.mem_of_getElem? (i := 589) (by decide +kernel), List.mem_of_getElem? (i := 771) (by decide +kernel), List.mem_of_getElem? (i := 772) (by decide +kernel)⟩
theorem lw_p28 : lw_okq (⟨"FramedLineModel", "turned", "(I)I"⟩, 44) := ⟨⟨by decide +kernel, by decide +kernel⟩, List.mem_of_getElem? (i := 589) (by decide +kernel), List.mem_of_getElem? (i := 778) (by decide +kernel), List.mem_of_getElem? (i := 779) (by decide +kernel)⟩
theorem lw_p29 : lw_okq (⟨"FramedLineModel", "arrive", "(II)V"⟩, 44) := ⟨⟨by decide +kernel, by decide +kernel⟩, List.mem_of_getElem? (i := 589) (by decide +kernel), List.mem_of_getElem? (i := 782) (by decide +kernel), List.mem_of_getElem? (i := 783) (by decide +kernel)⟩
theorem lw_p30 : lw_okq (⟨"FramedLineModel", "coming", "(II)I"⟩, 44) := ⟨⟨by decide +kernel, by decide +kernel⟩, List.mem_of_getElem? (i := 589) (by decide +kernel), List.mem_of_getElem? (i := 786) (by decide +kernel), List.mem_of_getElem? (i := 787) (by decide +kernel)⟩
theorem lw_p31 : lw_okq (⟨"FramedLineModel", "take", "(II)V"⟩, 44) := ⟨⟨by decide +kernel, by decide +kernel⟩, List.mem_of_getElem? (i := 589) (by decide +kernel), List.mem_of_getElem? (i := 790) (by decide +kernel), List.mem_of_getElem? (i := 791) (by decide +kernel)⟩
def lw_privs_2 : List (MethodName × Nat) := [(⟨"FramedLine$Receiver", "complete", "()V"⟩, 10), (⟨"FramedLine$Rounds", "findNumber", "(Z)V"⟩, 13), (⟨"FramedLine$Rounds", "judgeRoundWord", "()V"⟩, 13), (⟨"FramedLine$Rounds", "forgetNumber", "()V"⟩, 13), (⟨"FramedLine$Rounds", "endHalf", "()V"⟩, 13), (⟨"FramedLine$Rounds", "judgeHalfBefore", "()V"⟩, 13), (⟨"FramedLine$Receiver", "lookAtWord", "()V"⟩, 10), (⟨"FramedLineModel", "said", "(II)I"⟩, 44), (⟨"FramedLineModel", "send", "(I)I"⟩, 44), (⟨"FramedLineModel", "nextBit", "(I)I"⟩, 44), (⟨"FramedLineModel", "beginFrame", "(I)V"⟩, 44), (⟨"FramedLineModel", "mark", "(II)I"⟩, 44), (⟨"FramedLineModel", "turned", "(I)I"⟩, 44), (⟨"FramedLineModel", "arrive", "(II)V"⟩, 44), (⟨"FramedLineModel", "coming", "(II)I"⟩, 44), (⟨"FramedLineModel", "take", "(II)V"⟩, 44)]
theorem lw_r2 : ∀ q ∈ lw_privs_2, lw_okq q := List.forall_mem_cons.mpr ⟨lw_p16, List.forall_mem_cons.mpr ⟨lw_p17, List.forall_mem_cons.mpr ⟨lw_p18, List.forall_mem_cons.mpr ⟨lw_p19, List.forall_mem_cons.mpr ⟨lw_p20, List.forall_mem_cons.mpr ⟨lw_p21, List.forall_mem_cons.mpr ⟨lw_p22, List.forall_mem_cons.mpr ⟨lw_p23, List.forall_mem_cons.mpr ⟨lw_p24, List.forall_mem_cons.mpr ⟨lw_p25, List.forall_mem_cons.mpr ⟨lw_p26, List.forall_mem_cons.mpr ⟨lw_p27, List.forall_mem_cons.mpr ⟨lw_p28, List.forall_mem_cons.mpr ⟨lw_p29, List.forall_mem_cons.mpr ⟨lw_p30, List.forall_mem_cons.mpr ⟨lw_p31, fun _ h => absurd h List.not_mem_nil⟩⟩⟩⟩⟩⟩⟩⟩⟩⟩⟩⟩⟩⟩⟩⟩
theorem lw_p32 : lw_okq (⟨"FramedLineModel", "fault", "(IZI)V"⟩, 44) := ⟨⟨by decide +kernel, by decide +kernel⟩, List.mem_of_getElem? (i := 589) (by decide +kernel), List.mem_of_getElem? (i := 794) (by decide +kernel), List.mem_of_getElem? (i := 795) (by decide +kernel)⟩
theorem lw_p33 : lw_okq (⟨"FramedLineModel", "make", "(II)V"⟩, 44) := ⟨⟨by decide +kernel, by decide +kernel⟩, List.mem_of_getElem? (i := 589) (by decide +kernel), List.mem_of_getElem? (i := 798) (by decide +kernel), List.mem_of_getElem? (i := 799) (by decide +kernel)⟩
theorem lw_p34 : lw_okq (⟨"FramedLineModel", "frameBit", "(I)V"⟩, 44) := ⟨⟨by decide +kernel, by decide +kernel⟩, List.mem_of_getElem? (i := 589) (by decide +kernel), List.mem_of_getElem? (i := 802) (by decide +kernel), List.mem_of_getElem? (i := 803) (by decide +kernel)⟩
theorem lw_p35 : lw_okq (⟨"FramedLineModel", "isWord", "(I)Z"⟩, 44) := ⟨⟨by decide +kernel, by decide +kernel⟩, List.mem_of_getElem? (i := 589) (by decide +kernel), List.mem_of_getElem? (i := 806) (by decide +kernel), List.mem_of_getElem? (i := 807) (by decide +kernel)⟩
theorem lw_p36 : lw_okq (⟨"FramedLineModel", "search", "(I)V"⟩, 44) := ⟨⟨by decide +kernel, by decide +kernel⟩, List.mem_of_getElem? (i := 589) (by decide +kernel), List.mem_of_getElem? (i := 810) (by decide +kernel), List.mem_of_getElem? (i := 811) (by decide +kernel)⟩
theorem lw_p37 : lw_okq (⟨"FramedLineModel", "forget", "(I)V"⟩, 44) := ⟨⟨by decide +kernel, by decide +kernel⟩, List.mem_of_getElem? (i := 589) (by decide +kernel), List.mem_of_getElem? (i := 814) (by decide +kernel), List.mem_of_getElem? (i := 815) (by decide +kernel)⟩
theorem lw_p38 : lw_okq (⟨"FramedLineModel", "complete", "(I)V"⟩, 44) := ⟨⟨by decide +kernel, by decide +kernel⟩, List.mem_of_getElem? (i := 589) (by decide +kernel), List.mem_of_getElem? (i := 818) (by decide +kernel), List.mem_of_getElem? (i := 819) (by decide +kernel)⟩
theorem lw_p39 : lw_okq (⟨"FramedLineModel", "halves", "(III)V"⟩, 44) := ⟨⟨by decide +kernel, by decide +kernel⟩, List.mem_of_getElem? (i := 589) (by decide +kernel), List.mem_of_getElem? (i := 822) (by decide +kernel), List.mem_of_getElem? (i := 823) (by decide +kernel)⟩
def lw_privs_3 : List (MethodName × Nat) := [(⟨"FramedLineModel", "fault", "(IZI)V"⟩, 44), (⟨"FramedLineModel", "make", "(II)V"⟩, 44), (⟨"FramedLineModel", "frameBit", "(I)V"⟩, 44), (⟨"FramedLineModel", "isWord", "(I)Z"⟩, 44), (⟨"FramedLineModel", "search", "(I)V"⟩, 44), (⟨"FramedLineModel", "forget", "(I)V"⟩, 44), (⟨"FramedLineModel", "complete", "(I)V"⟩, 44), (⟨"FramedLineModel", "halves", "(III)V"⟩, 44)]
theorem lw_r3 : ∀ q ∈ lw_privs_3, lw_okq q := List.forall_mem_cons.mpr ⟨lw_p32, List.forall_mem_cons.mpr ⟨lw_p33, List.forall_mem_cons.mpr ⟨lw_p34, List.forall_mem_cons.mpr ⟨lw_p35, List.forall_mem_cons.mpr ⟨lw_p36, List.forall_mem_cons.mpr ⟨lw_p37, List.forall_mem_cons.mpr ⟨lw_p38, List.forall_mem_cons.mpr ⟨lw_p39, fun _ h => absurd h List.not_mem_nil⟩⟩⟩⟩⟩⟩⟩⟩
def lw_privs : List (MethodName × Nat) := lw_privs_1 ++ (lw_privs_2 ++ (lw_privs_3))
def lw_tbl : List Cond := k2_sels lw_privs ++ tables_1
theorem lw_privs_ok : ∀ q ∈ lw_privs, lw_okq q := by
  show ∀ q ∈ lw_privs_1 ++ (lw_privs_2 ++ (lw_privs_3)), lw_okq q
  exact List.forall_mem_append.mpr ⟨lw_r1, List.forall_mem_append.mpr ⟨lw_r2, lw_r3⟩⟩
end
section
def T_A : u_T := fun k => match k with
  | 0 => ("FramedLine$Arrivals", "times", "[I", true)
  | 1 => ("FramedLine$Arrivals", "symbols", "[I", true)
  | 2 => ("FramedLine$Arrivals", "waiting", "I", false)
  | _ => ("FramedLine$Arrivals", "slipping", "Z", false)
def t_A : Nat → FieldType := fun k => match k with
  | 0 => .array .int
  | 1 => .array .int
  | 2 => .int
  | _ => .boolean
def T_D : u_T := fun k => match k with
  | 0 => ("FramedLine$Decoder", "latestSymbol", "I", false)
  | 1 => ("FramedLine$Decoder", "latestPulse", "I", false)
  | 2 => ("FramedLine$Decoder", "latestV", "I", false)
  | 3 => ("FramedLine$Decoder", "zeros", "I", false)
  | 4 => ("FramedLine$Decoder", "latestBits", "I", false)
  | 5 => ("FramedLine$Decoder", "symbolsAhead", "I", false)
  | _ => ("FramedLine$Decoder", "faults", "I", false)
def t_D : Nat → FieldType := fun k => match k with
  | 0 => .int
  | 1 => .int
  | 2 => .int
  | 3 => .int
  | 4 => .int
  | 5 => .int
  | _ => .int
def T_E : u_T := fun k => match k with
  | 0 => ("FramedLine$Encoder", "latestPulse", "I", false)
  | 1 => ("FramedLine$Encoder", "oddPulses", "Z", false)
  | 2 => ("FramedLine$Encoder", "zeros", "I", false)
  | 3 => ("FramedLine$Encoder", "threeBehind", "I", false)
  | 4 => ("FramedLine$Encoder", "twoBehind", "I", false)
  | _ => ("FramedLine$Encoder", "oneBehind", "I", false)
def t_E : Nat → FieldType := fun k => match k with
  | 0 => .int
  | 1 => .boolean
  | 2 => .int
  | 3 => .int
  | 4 => .int
  | _ => .int
def T_N : u_T := fun k => match k with
  | 0 => ("FramedLine$End", "sender", "LFramedLine$Sender;", true)
  | 1 => ("FramedLine$End", "encoder", "LFramedLine$Encoder;", true)
  | 2 => ("FramedLine$End", "arrivals", "LFramedLine$Arrivals;", true)
  | 3 => ("FramedLine$End", "decoder", "LFramedLine$Decoder;", true)
  | _ => ("FramedLine$End", "receiver", "LFramedLine$Receiver;", true)
def t_N : Nat → FieldType := fun k => match k with
  | 0 => .object "FramedLine$Sender"
  | 1 => .object "FramedLine$Encoder"
  | 2 => .object "FramedLine$Arrivals"
  | 3 => .object "FramedLine$Decoder"
  | _ => .object "FramedLine$Receiver"
def T_R : u_T := fun k => match k with
  | 0 => ("FramedLine$Receiver", "rounds", "LFramedLine$Rounds;", true)
  | 1 => ("FramedLine$Receiver", "state", "LFramedLine$State;", false)
  | 2 => ("FramedLine$Receiver", "latestBits", "I", false)
  | 3 => ("FramedLine$Receiver", "bits", "I", false)
  | 4 => ("FramedLine$Receiver", "odd", "Z", false)
  | 5 => ("FramedLine$Receiver", "wrongWords", "I", false)
  | 6 => ("FramedLine$Receiver", "latestFrame", "I", false)
  | 7 => ("FramedLine$Receiver", "completeFrames", "I", false)
  | 8 => ("FramedLine$Receiver", "losses", "I", false)
  | _ => ("FramedLine$Receiver", "alarmCame", "Z", false)
def t_R : Nat → FieldType := fun k => match k with
  | 0 => .object "FramedLine$Rounds"
  | 1 => .object "FramedLine$State"
  | 2 => .int
  | 3 => .int
  | 4 => .boolean
  | 5 => .int
  | 6 => .int
  | 7 => .int
  | 8 => .int
  | _ => .boolean
def T_O : u_T := fun k => match k with
  | 0 => ("FramedLine$Rounds", "number", "I", false)
  | 1 => ("FramedLine$Rounds", "oddFrames", "I", false)
  | 2 => ("FramedLine$Rounds", "firstBitsOfOdd", "I", false)
  | 3 => ("FramedLine$Rounds", "wrongRounds", "I", false)
  | 4 => ("FramedLine$Rounds", "halfBegunKnown", "Z", false)
  | 5 => ("FramedLine$Rounds", "halfBeforeKnown", "Z", false)
  | 6 => ("FramedLine$Rounds", "check", "I", false)
  | 7 => ("FramedLine$Rounds", "checkOfHalfBefore", "I", false)
  | 8 => ("FramedLine$Rounds", "checkCome", "I", false)
  | 9 => ("FramedLine$Rounds", "firstHalfWrong", "Z", false)
  | 10 => ("FramedLine$Rounds", "secondHalfWrong", "Z", false)
  | 11 => ("FramedLine$Rounds", "wrongHalves", "I", false)
  | _ => ("FramedLine$Rounds", "farFaults", "I", false)
def t_O : Nat → FieldType := fun k => match k with
  | 0 => .int
  | 1 => .int
  | 2 => .int
  | 3 => .int
  | 4 => .boolean
  | 5 => .boolean
  | 6 => .int
  | 7 => .int
  | 8 => .int
  | 9 => .boolean
  | 10 => .boolean
  | 11 => .int
  | _ => .int
def T_S : u_T := fun k => match k with
  | 0 => ("FramedLine$Sender", "loaded", "[I", true)
  | 1 => ("FramedLine$Sender", "next", "I", false)
  | 2 => ("FramedLine$Sender", "frameBits", "I", false)
  | 3 => ("FramedLine$Sender", "bitsSent", "I", false)
  | 4 => ("FramedLine$Sender", "check", "I", false)
  | _ => ("FramedLine$Sender", "checkOfHalfBefore", "I", false)
def t_S : Nat → FieldType := fun k => match k with
  | 0 => .array .int
  | 1 => .int
  | 2 => .int
  | 3 => .int
  | 4 => .int
  | _ => .int
def T_F : u_T := fun k => match k with
  | 0 => ("FramedLine", "zero", "LFramedLine$End;", true)
  | 1 => ("FramedLine", "one", "LFramedLine$End;", true)
  | _ => ("FramedLine", "passed", "I", false)
def t_F : Nat → FieldType := fun k => match k with
  | 0 => .object "FramedLine$End"
  | 1 => .object "FramedLine$End"
  | _ => .int
def T_M : u_T := fun k => match k with
  | 0 => ("FramedLineModel", "code", "I", false)
  | 1 => ("FramedLineModel", "now", "I", false)
  | 2 => ("FramedLineModel", "loaded", "[I", false)
  | 3 => ("FramedLineModel", "word", "[I", false)
  | 4 => ("FramedLineModel", "number", "[I", false)
  | 5 => ("FramedLineModel", "gone", "[I", false)
  | 6 => ("FramedLineModel", "check", "[I", false)
  | 7 => ("FramedLineModel", "before", "[I", false)
  | 8 => ("FramedLineModel", "ahead", "[I", false)
  | 9 => ("FramedLineModel", "group", "[I", false)
  | 10 => ("FramedLineModel", "pulse", "[I", false)
  | 11 => ("FramedLineModel", "odd", "[Z", false)
  | 12 => ("FramedLineModel", "many", "[I", false)
  | 13 => ("FramedLineModel", "when", "[I", false)
  | 14 => ("FramedLineModel", "what", "[I", false)
  | 15 => ("FramedLineModel", "slips", "[Z", false)
  | 16 => ("FramedLineModel", "came", "[I", false)
  | 17 => ("FramedLineModel", "latest", "[I", false)
  | 18 => ("FramedLineModel", "back", "[I", false)
  | 19 => ("FramedLineModel", "wasV", "[Z", false)
  | 20 => ("FramedLineModel", "heard", "[I", false)
  | 21 => ("FramedLineModel", "lastV", "[I", false)
  | 22 => ("FramedLineModel", "zeros", "[I", false)
  | 23 => ("FramedLineModel", "mode", "[I", false)
  | 24 => ("FramedLineModel", "since", "[I", false)
  | 25 => ("FramedLineModel", "bits", "[I", false)
  | 26 => ("FramedLineModel", "at", "[I", false)
  | 27 => ("FramedLineModel", "even", "[Z", false)
  | 28 => ("FramedLineModel", "wrongs", "[I", false)
  | 29 => ("FramedLineModel", "any", "[Z", false)
  | 30 => ("FramedLineModel", "frame", "[I", false)
  | 31 => ("FramedLineModel", "alarms", "[Z", false)
  | 32 => ("FramedLineModel", "known", "[Z", false)
  | 33 => ("FramedLineModel", "place", "[I", false)
  | 34 => ("FramedLineModel", "firsts", "[I", false)
  | 35 => ("FramedLineModel", "odds", "[I", false)
  | 36 => ("FramedLineModel", "misses", "[I", false)
  | 37 => ("FramedLineModel", "whole", "[Z", false)
  | 38 => ("FramedLineModel", "sum", "[I", false)
  | 39 => ("FramedLineModel", "told", "[I", false)
  | 40 => ("FramedLineModel", "wholeBefore", "[Z", false)
  | 41 => ("FramedLineModel", "sumBefore", "[I", false)
  | 42 => ("FramedLineModel", "foundWrong", "[Z", false)
  | _ => ("FramedLineModel", "counts", "[I", false)
def t_M : Nat → FieldType := fun k => match k with
  | 0 => .int
  | 1 => .int
  | 2 => .array .int
  | 3 => .array .int
  | 4 => .array .int
  | 5 => .array .int
  | 6 => .array .int
  | 7 => .array .int
  | 8 => .array .int
  | 9 => .array .int
  | 10 => .array .int
  | 11 => .array .boolean
  | 12 => .array .int
  | 13 => .array .int
  | 14 => .array .int
  | 15 => .array .boolean
  | 16 => .array .int
  | 17 => .array .int
  | 18 => .array .int
  | 19 => .array .boolean
  | 20 => .array .int
  | 21 => .array .int
  | 22 => .array .int
  | 23 => .array .int
  | 24 => .array .int
  | 25 => .array .int
  | 26 => .array .int
  | 27 => .array .boolean
  | 28 => .array .int
  | 29 => .array .boolean
  | 30 => .array .int
  | 31 => .array .boolean
  | 32 => .array .boolean
  | 33 => .array .int
  | 34 => .array .int
  | 35 => .array .int
  | 36 => .array .int
  | 37 => .array .boolean
  | 38 => .array .int
  | 39 => .array .int
  | 40 => .array .boolean
  | 41 => .array .int
  | 42 => .array .boolean
  | _ => .array .int
abbrev vwCl : List vw_C := [("FramedLine$Arrivals", T_A, 4), ("FramedLine$Decoder", T_D, 7), ("FramedLine$Encoder", T_E, 6), ("FramedLine$End", T_N, 5), ("FramedLine$Receiver", T_R, 10), ("FramedLine$Rounds", T_O, 13), ("FramedLine$Sender", T_S, 6), ("FramedLine", T_F, 3), ("FramedLineModel", T_M, 44)]
/-! OUR OWN BASE. One memory G for all cells of the two systems: G c k is the number in field (or element) k of cell c. gw P G is the world that it stands for; each row of a walk takes 'gH P s G H locs' to the same of the next memory. -/
abbrev Mem : Type := Nat → Nat → Int32
def wr (G : Mem) (c k : Nat) (v : Int32) : Mem := va_up G c (upd (G c) k v)
theorem wr_same (G : Mem) (c k : Nat) (v : Int32) : wr G c k v c k = v := by simp [wr, va_up, upd]
theorem wr_k (G : Mem) (c k : Nat) (v : Int32) {k' : Nat} (h : k' ≠ k) : wr G c k v c k' = G c k' := by simp [wr, va_up, upd, h]
theorem wr_c (G : Mem) (c k : Nat) (v : Int32) {c' : Nat} (h : c' ≠ c) : wr G c k v c' = G c' := by simp [wr, va_up, h]
theorem wr_ck (G : Mem) (c k : Nat) (v : Int32) {c' k' : Nat} (h : c' ≠ c) : wr G c k v c' k' = G c' k' := by rw [wr_c G c k v h]
abbrev tn (i : Int32) : Nat := i.toNatClampNeg
def zb (x : Int32) : Int32 := x &&& 1
theorem zb_nar (x : Int32) : vp_nar .boolean x = zb x := rfl
def isB (v : Int32) : Prop := narrow .boolean (.int v) = .int v ∧ fits .boolean (.int v) = true
theorem isB_0 : isB 0 := ⟨rfl, rfl⟩
theorem isB_1 : isB 1 := ⟨rfl, rfl⟩
theorem isB_or {v : Int32} (h : isB v) : v = 0 ∨ v = 1 := by
  have h2 : (v == 0 || v == 1) = true := h.2
  simpa using h2
theorem isB_of {v : Int32} (h : v = 0 ∨ v = 1) : isB v := by rcases h with rfl | rfl <;> exact ⟨rfl, rfl⟩
theorem zb_or (x : Int32) : zb x = 0 ∨ zb x = 1 := by
  obtain ⟨j, hj, e⟩ := pk_andE x (m := 1) 1 (by decide)
  have : j = 0 ∨ j = 1 := by omega
  rcases this with rfl | rfl
  · exact Or.inl e
  · exact Or.inr e
theorem isB_zb (x : Int32) : isB (zb x) := isB_of (zb_or x)
theorem zb_isB {v : Int32} (h : isB v) : zb v = v := by rcases isB_or h with rfl | rfl <;> rfl
def iu (x y : Int32) : Int32 := (x.toUInt32 >>> (y.toUInt32 &&& Int32.toUInt32 31)).toInt32
def n3 (x : Int32) : Int32 := if x = 0 then 0 else if x = 1 then 1 else 2
def n3n (x : Int32) : Nat := if x = 0 then 0 else if x = 1 then 1 else 2
theorem n3_eq {x y : Int32} : n3n x = n3n y ↔ n3 x = n3 y := by
  unfold n3 n3n
  by_cases h1 : x = 0 <;> by_cases h2 : x = 1 <;> by_cases h3 : y = 0 <;> by_cases h4 : y = 1 <;> simp [h1, h2, h3, h4]
theorem n3n_lt (x : Int32) : n3n x < 3 := by unfold n3n; split; omega; split <;> omega
/-- addresses, classes' places, the classes of int[] and boolean[], the addresses of the enum's three -/
abbrev gP : Type := (Nat → Nat) × va_G × ClassId × ClassId × (Nat → Nat)
def gad (P : gP) : Nat → Nat := P.1
def gDD (P : gP) : va_G := P.2.1
def gcI (P : gP) : ClassId := P.2.2.1
def gcZ (P : gP) : ClassId := P.2.2.2.1
def gae (P : gP) (x : Int32) : Nat := P.2.2.2.2 (n3n x)
def fl_F (P : gP) (c : Nat) (g : Nat → Int32) : List Value := [.ref (gad P (1)), .ref (gad P (11)), .int (g 2)]
def fl_N (P : gP) (c : Nat) (g : Nat → Int32) : List Value := [.ref (gad P (c+1)), .ref (gad P (c+3)), .ref (gad P (c+4)), .ref (gad P (c+7)), .ref (gad P (c+8))]
def fl_S (P : gP) (c : Nat) (g : Nat → Int32) : List Value := [.ref (gad P (c+1)), .int (g 1), .int (g 2), .int (g 3), .int (g 4), .int (g 5)]
def fl_E (P : gP) (c : Nat) (g : Nat → Int32) : List Value := [.int (g 0), .int (zb (g 1)), .int (g 2), .int (g 3), .int (g 4), .int (g 5)]
def fl_A (P : gP) (c : Nat) (g : Nat → Int32) : List Value := [.ref (gad P (c+1)), .ref (gad P (c+2)), .int (g 2), .int (zb (g 3))]
def fl_D (P : gP) (c : Nat) (g : Nat → Int32) : List Value := [.int (g 0), .int (g 1), .int (g 2), .int (g 3), .int (g 4), .int (g 5), .int (g 6)]
def fl_R (P : gP) (c : Nat) (g : Nat → Int32) : List Value := [.ref (gad P (c+1)), .ref (gae P (g 1)), .int (g 2), .int (g 3), .int (zb (g 4)), .int (g 5), .int (g 6), .int (g 7), .int (g 8), .int (zb (g 9))]
def fl_O (P : gP) (c : Nat) (g : Nat → Int32) : List Value := [.int (g 0), .int (g 1), .int (g 2), .int (g 3), .int (zb (g 4)), .int (zb (g 5)), .int (g 6), .int (g 7), .int (g 8), .int (zb (g 9)), .int (zb (g 10)), .int (g 11), .int (g 12)]
def fl_M (P : gP) (c : Nat) (g : Nat → Int32) : List Value := [.int (g 0), .int (g 1), .ref (gad P (22)), .ref (gad P (23)), .ref (gad P (24)), .ref (gad P (25)), .ref (gad P (26)), .ref (gad P (27)), .ref (gad P (28)), .ref (gad P (29)), .ref (gad P (30)), .ref (gad P (31)), .ref (gad P (32)), .ref (gad P (33)), .ref (gad P (34)), .ref (gad P (35)), .ref (gad P (36)), .ref (gad P (37)), .ref (gad P (38)), .ref (gad P (39)), .ref (gad P (40)), .ref (gad P (41)), .ref (gad P (42)), .ref (gad P (43)), .ref (gad P (44)), .ref (gad P (45)), .ref (gad P (46)), .ref (gad P (47)), .ref (gad P (48)), .ref (gad P (49)), .ref (gad P (50)), .ref (gad P (51)), .ref (gad P (52)), .ref (gad P (53)), .ref (gad P (54)), .ref (gad P (55)), .ref (gad P (56)), .ref (gad P (57)), .ref (gad P (58)), .ref (gad P (59)), .ref (gad P (60)), .ref (gad P (61)), .ref (gad P (62)), .ref (gad P (63))]
/-- what stands in cell c when its numbers are g -/
def gc (P : gP) (c : Nat) (g : Nat → Int32) : va_E := match c with
  | 0 => .inr (7, fl_F P 0 g)
  | 1 => .inr (3, fl_N P 1 g)
  | 2 => .inr (6, fl_S P 2 g)
  | 3 => .inl (gcI P, 4, .inl g)
  | 4 => .inr (2, fl_E P 4 g)
  | 5 => .inr (0, fl_A P 5 g)
  | 6 => .inl (gcI P, 8, .inl g)
  | 7 => .inl (gcI P, 8, .inl g)
  | 8 => .inr (1, fl_D P 8 g)
  | 9 => .inr (4, fl_R P 9 g)
  | 10 => .inr (5, fl_O P 10 g)
  | 11 => .inr (3, fl_N P 11 g)
  | 12 => .inr (6, fl_S P 12 g)
  | 13 => .inl (gcI P, 4, .inl g)
  | 14 => .inr (2, fl_E P 14 g)
  | 15 => .inr (0, fl_A P 15 g)
  | 16 => .inl (gcI P, 8, .inl g)
  | 17 => .inl (gcI P, 8, .inl g)
  | 18 => .inr (1, fl_D P 18 g)
  | 19 => .inr (4, fl_R P 19 g)
  | 20 => .inr (5, fl_O P 20 g)
  | 21 => .inr (8, fl_M P 21 g)
  | 22 => .inl (gcI P, 8, .inl g)
  | 23 => .inl (gcI P, 2, .inl g)
  | 24 => .inl (gcI P, 2, .inl g)
  | 25 => .inl (gcI P, 2, .inl g)
  | 26 => .inl (gcI P, 2, .inl g)
  | 27 => .inl (gcI P, 2, .inl g)
  | 28 => .inl (gcI P, 2, .inl g)
  | 29 => .inl (gcI P, 2, .inl g)
  | 30 => .inl (gcI P, 2, .inl g)
  | 31 => .inl (gcZ P, 2, .inl g)
  | 32 => .inl (gcI P, 2, .inl g)
  | 33 => .inl (gcI P, 16, .inl g)
  | 34 => .inl (gcI P, 16, .inl g)
  | 35 => .inl (gcZ P, 2, .inl g)
  | 36 => .inl (gcI P, 2, .inl g)
  | 37 => .inl (gcI P, 2, .inl g)
  | 38 => .inl (gcI P, 6, .inl g)
  | 39 => .inl (gcZ P, 6, .inl g)
  | 40 => .inl (gcI P, 2, .inl g)
  | 41 => .inl (gcI P, 2, .inl g)
  | 42 => .inl (gcI P, 2, .inl g)
  | 43 => .inl (gcI P, 2, .inl g)
  | 44 => .inl (gcI P, 2, .inl g)
  | 45 => .inl (gcI P, 2, .inl g)
  | 46 => .inl (gcI P, 2, .inl g)
  | 47 => .inl (gcZ P, 2, .inl g)
  | 48 => .inl (gcI P, 2, .inl g)
  | 49 => .inl (gcZ P, 2, .inl g)
  | 50 => .inl (gcI P, 2, .inl g)
  | 51 => .inl (gcZ P, 2, .inl g)
  | 52 => .inl (gcZ P, 2, .inl g)
  | 53 => .inl (gcI P, 2, .inl g)
  | 54 => .inl (gcI P, 2, .inl g)
  | 55 => .inl (gcI P, 2, .inl g)
  | 56 => .inl (gcI P, 2, .inl g)
  | 57 => .inl (gcZ P, 2, .inl g)
  | 58 => .inl (gcI P, 2, .inl g)
  | 59 => .inl (gcI P, 2, .inl g)
  | 60 => .inl (gcZ P, 2, .inl g)
  | 61 => .inl (gcI P, 2, .inl g)
  | 62 => .inl (gcZ P, 4, .inl g)
  | _ => .inl (gcI P, 10, .inl g)
def gw (P : gP) (G : Mem) : va_W := (List.range 64).map (fun c => (gad P c, gc P c (G c)))
theorem gw_at {P : gP} {G : Mem} {c : Nat} (h : c < 64) : (gw P G)[c]? = some (gad P c, gc P c (G c)) := by simp [gw, h]
theorem gw_lt {P : gP} {G : Mem} {c : Nat} {q : Nat × va_E} (h : (gw P G)[c]? = some q) : c < 64 := by
  have := (List.getElem?_eq_some_iff.mp h).1
  simpa [gw] using this
theorem gw_set {P : gP} {G : Mem} {c : Nat} {g : Nat → Int32} (h : c < 64) : (gw P G).set c (gad P c, gc P c g) = gw P (va_up G c g) := by
  apply List.ext_getElem?
  intro i
  by_cases hi : i = c
  · subst hi
    rw [List.getElem?_set_self (by simpa [gw] using h), gw_at h, va_up_self]
  · rw [List.getElem?_set_ne (Ne.symm hi)]
    by_cases hl : i < 64
    · rw [gw_at hl, gw_at hl, va_up_ne _ _ hi]
    · rw [List.getElem?_eq_none (by simp [gw]; omega), List.getElem?_eq_none (by simp [gw]; omega)]
/-- the cells of the two systems -/
def gA (P : gP) : Nat → Prop := fun q => ∃ c, c < 64 ∧ q = gad P c
def gInj (P : gP) : Prop := ∀ i j, i < 64 → j < 64 → gad P i = gad P j → i = j
theorem gD_of {P : gP} (h : gInj P) (G : Mem) : va_D (gA P) (gw P G) := by
  refine ⟨fun i j p q hi hj e => ?_, fun k q hk => ?_⟩
  · have li := gw_lt hi
    have lj := gw_lt hj
    rw [gw_at li] at hi
    rw [gw_at lj] at hj
    cases hi
    cases hj
    exact h i j li lj e
  · have lk := gw_lt hk
    rw [gw_at lk] at hk
    cases hk
    exact ⟨k, lk, rfl⟩
def kF (c : Nat) : Prop := c = 0
def kN (c : Nat) : Prop := c = 1 ∨ c = 11
def kS (c : Nat) : Prop := c = 2 ∨ c = 12
def kI4 (c : Nat) : Prop := c = 3 ∨ c = 13
def kE (c : Nat) : Prop := c = 4 ∨ c = 14
def kA (c : Nat) : Prop := c = 5 ∨ c = 15
def kD (c : Nat) : Prop := c = 8 ∨ c = 18
def kR (c : Nat) : Prop := c = 9 ∨ c = 19
def kO (c : Nat) : Prop := c = 10 ∨ c = 20
def kM (c : Nat) : Prop := c = 21
def kI8 (c : Nat) : Prop := (c = 6 ∨ c = 16) ∨ (c = 7 ∨ c = 17)
theorem gc_F {P : gP} {c : Nat} (h : kF c) : c < 64 ∧ ∀ g, gc P c g = .inr (7, fl_F P c g) := by rcases h with rfl <;> exact ⟨by decide, fun _ => rfl⟩
theorem gc_N {P : gP} {c : Nat} (h : kN c) : c < 64 ∧ ∀ g, gc P c g = .inr (3, fl_N P c g) := by rcases h with rfl | rfl <;> exact ⟨by decide, fun _ => rfl⟩
theorem gc_S {P : gP} {c : Nat} (h : kS c) : c < 64 ∧ ∀ g, gc P c g = .inr (6, fl_S P c g) := by rcases h with rfl | rfl <;> exact ⟨by decide, fun _ => rfl⟩
theorem gc_E {P : gP} {c : Nat} (h : kE c) : c < 64 ∧ ∀ g, gc P c g = .inr (2, fl_E P c g) := by rcases h with rfl | rfl <;> exact ⟨by decide, fun _ => rfl⟩
theorem gc_A {P : gP} {c : Nat} (h : kA c) : c < 64 ∧ ∀ g, gc P c g = .inr (0, fl_A P c g) := by rcases h with rfl | rfl <;> exact ⟨by decide, fun _ => rfl⟩
theorem gc_D {P : gP} {c : Nat} (h : kD c) : c < 64 ∧ ∀ g, gc P c g = .inr (1, fl_D P c g) := by rcases h with rfl | rfl <;> exact ⟨by decide, fun _ => rfl⟩
theorem gc_R {P : gP} {c : Nat} (h : kR c) : c < 64 ∧ ∀ g, gc P c g = .inr (4, fl_R P c g) := by rcases h with rfl | rfl <;> exact ⟨by decide, fun _ => rfl⟩
theorem gc_O {P : gP} {c : Nat} (h : kO c) : c < 64 ∧ ∀ g, gc P c g = .inr (5, fl_O P c g) := by rcases h with rfl | rfl <;> exact ⟨by decide, fun _ => rfl⟩
theorem gc_M {P : gP} {c : Nat} (h : kM c) : c < 64 ∧ ∀ g, gc P c g = .inr (8, fl_M P c g) := by rcases h with rfl <;> exact ⟨by decide, fun _ => rfl⟩
theorem ga_I4 {P : gP} {c : Nat} (h : kI4 c) : c < 64 ∧ ∀ g, gc P c g = .inl (gcI P, 4, .inl g) := by rcases h with rfl | rfl <;> exact ⟨by decide, fun _ => rfl⟩
theorem ga_I8 {P : gP} {c : Nat} (h : kI8 c) : c < 64 ∧ ∀ g, gc P c g = .inl (gcI P, 8, .inl g) := by rcases h with (rfl | rfl) | (rfl | rfl) <;> exact ⟨by decide, fun _ => rfl⟩
theorem kN_sender {c : Nat} (h : kN c) : kS (c + 1) := by rcases h with rfl | rfl <;> simp [kS]
theorem kN_encoder {c : Nat} (h : kN c) : kE (c + 3) := by rcases h with rfl | rfl <;> simp [kE]
theorem kN_arrivals {c : Nat} (h : kN c) : kA (c + 4) := by rcases h with rfl | rfl <;> simp [kA]
theorem kN_decoder {c : Nat} (h : kN c) : kD (c + 7) := by rcases h with rfl | rfl <;> simp [kD]
theorem kN_receiver {c : Nat} (h : kN c) : kR (c + 8) := by rcases h with rfl | rfl <;> simp [kR]
theorem kS_loaded {c : Nat} (h : kS c) : kI4 (c + 1) := by rcases h with rfl | rfl <;> simp [kI4]
theorem kR_rounds {c : Nat} (h : kR c) : kO (c + 1) := by rcases h with rfl | rfl <;> simp [kO]
theorem kA_times {c : Nat} (h : kA c) : kI8 (c + 1) := by rcases h with rfl | rfl <;> simp [kI8]
theorem kA_symbols {c : Nat} (h : kA c) : kI8 (c + 2) := by rcases h with rfl | rfl <;> simp [kI8]
theorem set_E1 (P : gP) (c : Nat) : ∀ (g : Nat → Int32) (nv : Int32), isB nv → (fl_E P c g).set 1 (.int nv) = fl_E P c (upd g 1 nv) := by
  intro g nv h
  have e := zb_isB h
  simp [fl_E, upd, e]
theorem set_A3 (P : gP) (c : Nat) : ∀ (g : Nat → Int32) (nv : Int32), isB nv → (fl_A P c g).set 3 (.int nv) = fl_A P c (upd g 3 nv) := by
  intro g nv h
  have e := zb_isB h
  simp [fl_A, upd, e]
theorem set_R4 (P : gP) (c : Nat) : ∀ (g : Nat → Int32) (nv : Int32), isB nv → (fl_R P c g).set 4 (.int nv) = fl_R P c (upd g 4 nv) := by
  intro g nv h
  have e := zb_isB h
  simp [fl_R, upd, e]
theorem set_R9 (P : gP) (c : Nat) : ∀ (g : Nat → Int32) (nv : Int32), isB nv → (fl_R P c g).set 9 (.int nv) = fl_R P c (upd g 9 nv) := by
  intro g nv h
  have e := zb_isB h
  simp [fl_R, upd, e]
theorem set_O4 (P : gP) (c : Nat) : ∀ (g : Nat → Int32) (nv : Int32), isB nv → (fl_O P c g).set 4 (.int nv) = fl_O P c (upd g 4 nv) := by
  intro g nv h
  have e := zb_isB h
  simp [fl_O, upd, e]
theorem set_O5 (P : gP) (c : Nat) : ∀ (g : Nat → Int32) (nv : Int32), isB nv → (fl_O P c g).set 5 (.int nv) = fl_O P c (upd g 5 nv) := by
  intro g nv h
  have e := zb_isB h
  simp [fl_O, upd, e]
theorem set_O9 (P : gP) (c : Nat) : ∀ (g : Nat → Int32) (nv : Int32), isB nv → (fl_O P c g).set 9 (.int nv) = fl_O P c (upd g 9 nv) := by
  intro g nv h
  have e := zb_isB h
  simp [fl_O, upd, e]
theorem set_O10 (P : gP) (c : Nat) : ∀ (g : Nat → Int32) (nv : Int32), isB nv → (fl_O P c g).set 10 (.int nv) = fl_O P c (upd g 10 nv) := by
  intro g nv h
  have e := zb_isB h
  simp [fl_O, upd, e]
end
section
/-! the words: those of the tables that stay good under every warming; the nest's own words beside them -/
def GW : List Cond := lw_tbl.filter goodWord
theorem GW_at (i : Nat) {w : Cond} (h : lw_tbl[i]? = some w) (hg : goodWord w = true) : w ∈ GW := List.mem_filter.mpr ⟨List.mem_of_getElem? h, hg⟩
theorem GW_good {big : List Cond} {l : List Cond} (h : ∀ w ∈ l, w ∈ GW) : GoodIn GW l := fun w hw => ⟨h w hw, good_of_word (List.mem_filter.mp (h w hw)).2⟩
def nestW : Cond → Bool
  | .fieldLinkNest .. => true
  | .methodLinkNest .. => true
  | _ => false
def NW : List Cond := lw_tbl.filter nestW
theorem NW_at (i : Nat) {w : Cond} (h : lw_tbl[i]? = some w) (hg : nestW w = true) : w ∈ NW := List.mem_filter.mpr ⟨List.mem_of_getElem? h, hg⟩
theorem NW_tab {w : Cond} (h : w ∈ NW) : w.onTables = true := by
  have hn := (List.mem_filter.mp h).2
  cases w <;> first | rfl | (simp [nestW] at hn)
theorem NW_warm {s U : State} (hW : s.WarmedH U.vm) (h : ∀ w ∈ NW, va_Nw w s) : ∀ w ∈ NW, va_Nw w U := by
  intro w hw
  have hn := (List.mem_filter.mp hw).2
  have h1 := h w hw
  cases w <;> first | exact va_Nw.warmF hW h1 | exact va_Nw.warmM hW h1 | (simp [nestW] at hn)
/-- what a state's tables hold, once and for all -/
def gS (P : gP) (U : State) : Prop := va_K (gDD P) vwCl [(gcI P, .int), (gcZ P, .boolean)] U ∧ gInj P ∧ (∀ w ∈ NW, va_Nw w U) ∧ va_En "FramedLine$State" "LFramedLine$State;" ["SEARCHING", "TRYING", "ALIGNED"] [] P.2.2.2.2 (gA P) U U.heap
def gPre (P : gP) (G : Mem) (U : State) : Prop := va_P (gDD P) vwCl (gw P G) U.heap ∧ gS P U
def gH (P : gP) (s : State) (G : Mem) (H : Heap) (locs : List Loc) : Prop := va_P (gDD P) vwCl (gw P G) H ∧ va_S (gA P) s.heap H locs
theorem gPre_blind {av : List Value} {P : gP} {G : Mem} : FrameBlind (va_Pc av (gPre P G)) := by
  intro a U g mk h
  obtain ⟨h0, h1, hK, hI, hN, hE⟩ := h
  exact ⟨h0, h1, va_K.moved (u := U) (U := U.calling g mk a) (Vm.Alike.refl U.vm) hK, hI, fun w hw => va_Nw.same (u := U) (U := U.calling g mk a) (NW_tab hw) rfl (hN w hw), va_En.moved (u := U) (U := U.calling g mk a) (Vm.Alike.refl U.vm) hE⟩
theorem gS_moved {P : gP} {s U : State} {H : Heap} {locs : List Loc} (h : gS P s) (hS : va_S (gA P) s.heap H locs) (hU : U.heap = H) (hW : s.WarmedH U.vm) : gS P U := by
  obtain ⟨hK, hI, hN, hE⟩ := h
  refine ⟨va_K.moved hW.alike hK, hI, NW_warm hW hN, ?_⟩
  rw [hU]
  exact va_En.moved hW.alike (hE.kept hS.2.1)
/-- a method's own code and place, and what the tables give -/
def gE (p : Program) (s : State) (m : MethodId) (args : Array Value) (meth : Method) (c : Code) (P : gP) (own : String) (cc : ByteArray) (nL : Nat) (ret : Option FieldType) : Prop :=
  p.tables.exec = Jvm.exec ∧ c.code = cc ∧ meth.sig.returnType = ret ∧ c.maxLocals = nL ∧ s.vm.findClass own = some m.cls ∧ (∀ w ∈ GW, w.before args s = true) ∧ meth.locks = false ∧ gS P s
def gMv (l : Launch) (y : MethodName) (cc : ByteArray) (maxL : Nat) (ret : Option FieldType) (rm : Room) (av : List Value) (P : gP) (G : Mem) (X : Mem) : Prop :=
  Met l y (Cond.code y cc maxL ret :: GW) rm (va_Pc av (gPre P G)) (va_Qv (fun u : Mem => X = u) (fun u t => va_P (gDD P) vwCl (gw P u) t.heap) (gA P)) 0 0 (gA P)
def gMi (l : Launch) (y : MethodName) (cc : ByteArray) (maxL : Nat) (ret : Option FieldType) (rm : Room) (av : List Value) (P : gP) (G : Mem) (X : Int32 × Mem) : Prop :=
  Met l y (Cond.code y cc maxL ret :: GW) rm (va_Pc av (gPre P G)) (va_Qi (fun (r : Int32) (u : Mem) => X = (r, u)) (fun u t => va_P (gDD P) vwCl (gw P u) t.heap) (gA P)) 0 0 (gA P)
def gMz (l : Launch) (y : MethodName) (cc : ByteArray) (maxL : Nat) (ret : Option FieldType) (rm : Room) (av : List Value) (P : gP) (G : Mem) (X : Int32 × Mem) : Prop :=
  Met l y (Cond.code y cc maxL ret :: GW) rm (va_Pc av (gPre P G)) (va_Qi (fun (r : Int32) (u : Mem) => X = (r, u) ∧ isB r) (fun u t => va_P (gDD P) vwCl (gw P u) t.heap) (gA P)) 0 0 (gA P)
def gMri (l : Launch) (y : MethodName) (cc : ByteArray) (maxL : Nat) (ret : Option FieldType) (rm : Room) (av : List Value) (P : gP) (G : Mem) (X : Int32) : Prop := gMi l y cc maxL ret rm av P G (X, G)
def gMrz (l : Launch) (y : MethodName) (cc : ByteArray) (maxL : Nat) (ret : Option FieldType) (rm : Room) (av : List Value) (P : gP) (G : Mem) (X : Int32) : Prop := gMz l y cc maxL ret rm av P G (X, G)
def gCl (ci : Nat) (C : String) (T : u_T) (N : Nat) : Prop := vwCl[ci]? = some (C, T, N) ∧ ∀ w ∈ u_ws C T N, w ∈ GW
def gCt (C : String) (T : u_T) (N : Nat) (ty : Nat → FieldType) : Prop := (∀ k, k < N → parseFieldDescriptor (T k).2.2.1 = some (ty k)) ∧ (∀ a, a < N → ∀ b, b < N → a ≠ b → (T a).2.1 ≠ (T b).2.1)
/-- a call's words -/
def gLV (own C : String) (idx : Nat) (y : MethodName) (cc : ByteArray) (maxL : Nat) (ret : Option FieldType) (n : Nat) : Prop :=
  (Cond.code y cc maxL ret ∈ GW ∧ Cond.initialized y.cls ∈ GW ∧ (y.cls ≠ "java/lang/invoke/MethodHandle" ∧ y.cls ≠ "java/lang/invoke/VarHandle" ∧ (parseMethodDescriptor y.desc).map (fun d => d.parameters.length) = some n)) ∧ Cond.methodLink own idx y ∈ GW ∧ Cond.instanceMethod y ∈ GW ∧ Cond.selects C y y ∈ GW
def gLS (own : String) (idx : Nat) (y : MethodName) (cc : ByteArray) (maxL : Nat) (ret : Option FieldType) (n : Nat) : Prop :=
  (Cond.code y cc maxL ret ∈ GW ∧ Cond.initialized y.cls ∈ GW ∧ (y.cls ≠ "java/lang/invoke/MethodHandle" ∧ y.cls ≠ "java/lang/invoke/VarHandle" ∧ (parseMethodDescriptor y.desc).map (fun d => d.parameters.length) = some n)) ∧ Cond.methodLink own idx y ∈ GW ∧ Cond.static y ∈ GW
def gLSN (own host : String) (idx : Nat) (y : MethodName) (cc : ByteArray) (maxL : Nat) (ret : Option FieldType) (n : Nat) : Prop :=
  (Cond.code y cc maxL ret ∈ GW ∧ Cond.initialized y.cls ∈ GW ∧ (y.cls ≠ "java/lang/invoke/MethodHandle" ∧ y.cls ≠ "java/lang/invoke/VarHandle" ∧ (parseMethodDescriptor y.desc).map (fun d => d.parameters.length) = some n)) ∧ Cond.methodLinkNest own idx y host ∈ NW ∧ Cond.static y ∈ GW
theorem gE_of {p : Program} {l : Launch} {e : Env} {s : State} {m : MethodId} {args : Array Value} {below : List Frame} {meth : Method} {c : Code} {s₁ : State} {y : MethodName} {cc : ByteArray} {maxL : Nat} {ret : Option FieldType} {rm : Room} {P : gP} {G : Mem}
    (B : BodyLoose p l y (headSpec (Cond.code y cc maxL ret :: GW) rm) cc maxL ret e s m args below meth c s₁) (hml : c.maxLocals = maxL) (hpre : gPre P G s) : gE p s m args meth c P y.cls cc maxL ret ∧ gH P s G s.heap [] :=
  ⟨⟨B.exec, B.bytes, B.returns, hml, findClass_of_methodNamed B.named, fun w h => atoms_spec (ws := Cond.code y cc maxL ret :: GW) B.pre w (List.mem_cons_of_mem _ h), B.notSynchronized, hpre.2⟩, hpre.1, va_S.rf⟩
section GR
variable {p : Program} {l : Launch} {e : Env} {R : Room} {s : State} {m : MethodId} {args : Array Value} {below : List Frame} {meth : Method} {c : Code} {H : Heap} {locs : List Loc} {cells slots : Nat} {Q : State → Prop}
variable {cc : ByteArray} {pc : Nat} {ls : Array Slot} {rest : List Value} {P : gP} {G : Mem} {own : String} {nL : Nat} {ret : Option FieldType}
/-- a place that several ways come to: first what goes on from there, then the ways -/
theorem jn {α : Type} {g : JFrame} (Pz : α → Heap → List Loc → Prop) (fr : α → JFrame) (k1 : ∀ (z : α) (H1 : Heap) (locs1 : List Loc), Pz z H1 locs1 → W p l e R s m args below meth c H1 locs1 cells slots Q (fr z))
    (k2 : (∀ (z : α) (H1 : Heap) (locs1 : List Loc), Pz z H1 locs1 → W p l e R s m args below meth c H1 locs1 cells slots Q (fr z)) → W p l e R s m args below meth c H locs cells slots Q g) : W p l e R s m args below meth c H locs cells slots Q g := k2 k1
/-- a loop's head: a measure that falls -/
theorem lp {α : Type} (Pz : α → Heap → List Loc → Prop) (fr : α → JFrame) (μ : α → Nat)
    (st : ∀ (z : α) (H1 : Heap) (locs1 : List Loc), Pz z H1 locs1 → (∀ (z' : α) (H2 : Heap) (locs2 : List Loc), μ z' < μ z → Pz z' H2 locs2 → W p l e R s m args below meth c H2 locs2 cells slots Q (fr z')) → W p l e R s m args below meth c H1 locs1 cells slots Q (fr z)) :
    ∀ (z : α) (H1 : Heap) (locs1 : List Loc), Pz z H1 locs1 → W p l e R s m args below meth c H1 locs1 cells slots Q (fr z) := by
  have key : ∀ (n : Nat) (z : α) (H1 : Heap) (locs1 : List Loc), μ z < n → Pz z H1 locs1 → W p l e R s m args below meth c H1 locs1 cells slots Q (fr z) := by
    intro n
    induction n with
    | zero => intro z H1 locs1 h; exact absurd h (Nat.not_lt_zero _)
    | succ n ih =>
      intro z H1 locs1 h hz
      exact st z H1 locs1 hz (fun z' H2 locs2 hlt hz' => ih z' H2 locs2 (Nat.lt_of_lt_of_le hlt (Nat.le_of_lt_succ h)) hz')
  exact fun z H1 locs1 hz => key (μ z + 1) z H1 locs1 (Nat.lt_succ_self _) hz
theorem jl {α : Type} {g : JFrame} (Pz : α → Heap → List Loc → Prop) (fr : α → JFrame) (μ : α → Nat)
    (st : ∀ (z : α) (H1 : Heap) (locs1 : List Loc), Pz z H1 locs1 → (∀ (z' : α) (H2 : Heap) (locs2 : List Loc), μ z' < μ z → Pz z' H2 locs2 → W p l e R s m args below meth c H2 locs2 cells slots Q (fr z')) → W p l e R s m args below meth c H1 locs1 cells slots Q (fr z))
    (k2 : (∀ (z : α) (H1 : Heap) (locs1 : List Loc), Pz z H1 locs1 → W p l e R s m args below meth c H1 locs1 cells slots Q (fr z)) → W p l e R s m args below meth c H locs cells slots Q g) : W p l e R s m args below meth c H locs cells slots Q g := k2 (lp Pz fr μ st)
theorem g_get {ci N idx : Nat} {C : String} {T : u_T} {fl : (Nat → Int32) → List Value} {c0 : Nat} (E : gE p s m args meth c P own cc nL ret) (h : gH P s G H locs) (hc : c0 < 64 ∧ ∀ g, gc P c0 g = .inr (ci, fl g)) (hcl : gCl ci C T N) (k : Nat) (hk : k < N)
    (hl : Cond.fieldLink own idx (T k).1 (T k).2.1 (T k).2.2.1 ∈ GW) {v : Value} (hv : (fl (G c0))[k]? = some v) (hdg : decode cc pc = .ok (.getfield idx, 3))
    (kk : W p l e R s m args below meth c H locs cells slots Q (F0 m (pc + 3) ls (v :: rest))) : W p l e R s m args below meth c H locs cells slots Q (F0 m pc ls (.ref (gad P c0) :: rest)) :=
  va_get E.1 E.2.1 E.2.2.2.2.2.1 hcl.2 E.2.2.2.2.1 E.2.2.2.2.2.2.2.1 h.1 c0 (by rw [gw_at hc.1, hc.2]) hcl.1 k hk (E.2.2.2.2.2.1 _ hl) (fun _ q => q) hv hdg kk
theorem g_getN {ci N idx : Nat} {C host : String} {T : u_T} {fl : (Nat → Int32) → List Value} {c0 : Nat} (E : gE p s m args meth c P own cc nL ret) (h : gH P s G H locs) (hc : c0 < 64 ∧ ∀ g, gc P c0 g = .inr (ci, fl g)) (hcl : gCl ci C T N) (k : Nat) (hk : k < N)
    (hl : Cond.fieldLinkNest own idx (T k).1 (T k).2.1 (T k).2.2.1 host ∈ NW) {v : Value} (hv : (fl (G c0))[k]? = some v) (hdg : decode cc pc = .ok (.getfield idx, 3))
    (kk : W p l e R s m args below meth c H locs cells slots Q (F0 m (pc + 3) ls (v :: rest))) : W p l e R s m args below meth c H locs cells slots Q (F0 m pc ls (.ref (gad P c0) :: rest)) :=
  va_getN E.1 E.2.1 E.2.2.2.2.2.1 hcl.2 E.2.2.2.2.1 E.2.2.2.2.2.2.2.1 h.1 c0 (by rw [gw_at hc.1, hc.2]) hcl.1 k hk (va_Nw.use (NW_tab hl) (E.2.2.2.2.2.2.2.2.2.1 _ hl)) (fun _ q => q) hv hdg kk
theorem g_put {ci N idx : Nat} {C : String} {T : u_T} {ty0 : Nat → FieldType} {fl : (Nat → Int32) → List Value} {c0 : Nat} {v : Value} {nv : Int32} {ty : FieldType} (E : gE p s m args meth c P own cc nL ret) (h : gH P s G H locs) (hc : c0 < 64 ∧ ∀ g, gc P c0 g = .inr (ci, fl g)) (hcl : gCl ci C T N) (hct : gCt C T N ty0) (k : Nat) (hk : k < N)
    (hl : Cond.fieldLink own idx (T k).1 (T k).2.1 (T k).2.2.1 ∈ GW) (hfin : (T k).2.2.2 = false) (hd : parseFieldDescriptor (T k).2.2.1 = some ty) (hset : ∀ g, (fl g).set k v = fl (upd g k nv)) (hn : narrow ty v = v) (hfit : fits ty v = true) (hlen : k < (fl (G c0)).length) (hdg : decode cc pc = .ok (.putfield idx, 3))
    (kk : ∀ (H1 : Heap) (locs1 : List Loc), gH P s (wr G c0 k nv) H1 locs1 → W p l e R s m args below meth c H1 locs1 cells slots Q (F0 m (pc + 3) ls rest)) : W p l e R s m args below meth c H locs cells slots Q (F0 m pc ls (v :: .ref (gad P c0) :: rest)) := by
  refine va_put E.1 E.2.1 E.2.2.2.2.2.1 hcl.2 ty0 hct.1 hct.2 E.2.2.2.2.1 E.2.2.2.2.2.2.2.1 h.1 (gD_of E.2.2.2.2.2.2.2.2.1 G) h.2 c0 (by rw [gw_at hc.1, hc.2]) hcl.1 k hk (E.2.2.2.2.2.1 _ hl) (fun _ q => q) hfin hd hn hfit hlen hdg (fun H1 locs1 hP _ hS => kk H1 locs1 ⟨?_, hS⟩)
  rw [hset, ← hc.2, gw_set hc.1] at hP
  exact hP
theorem g_geti {ci N idx : Nat} {C : String} {T : u_T} {fl : (Nat → Int32) → List Value} {c0 : Nat} {v : Int32} (E : gE p s m args meth c P own cc nL ret) (h : gH P s G H locs) (hc : c0 < 64 ∧ ∀ g, gc P c0 g = .inr (ci, fl g)) (hcl : gCl ci C T N) (k : Nat) (hk : k < N)
    (hl : Cond.fieldLink own idx (T k).1 (T k).2.1 (T k).2.2.1 ∈ GW) (hf : ∀ g, (fl g)[k]? = some (.int (g k))) (hv : G c0 k = v) (hdg : decode cc pc = .ok (.getfield idx, 3))
    (kk : W p l e R s m args below meth c H locs cells slots Q (F0 m (pc + 3) ls (.int v :: rest))) : W p l e R s m args below meth c H locs cells slots Q (F0 m pc ls (.ref (gad P c0) :: rest)) := by
  subst hv
  exact g_get E h hc hcl k hk hl (hf _) hdg kk
theorem g_getiN {ci N idx : Nat} {C host : String} {T : u_T} {fl : (Nat → Int32) → List Value} {c0 : Nat} {v : Int32} (E : gE p s m args meth c P own cc nL ret) (h : gH P s G H locs) (hc : c0 < 64 ∧ ∀ g, gc P c0 g = .inr (ci, fl g)) (hcl : gCl ci C T N) (k : Nat) (hk : k < N)
    (hl : Cond.fieldLinkNest own idx (T k).1 (T k).2.1 (T k).2.2.1 host ∈ NW) (hf : ∀ g, (fl g)[k]? = some (.int (g k))) (hv : G c0 k = v) (hdg : decode cc pc = .ok (.getfield idx, 3))
    (kk : W p l e R s m args below meth c H locs cells slots Q (F0 m (pc + 3) ls (.int v :: rest))) : W p l e R s m args below meth c H locs cells slots Q (F0 m pc ls (.ref (gad P c0) :: rest)) := by
  subst hv
  exact g_getN E h hc hcl k hk hl (hf _) hdg kk
theorem g_getz {ci N idx : Nat} {C : String} {T : u_T} {fl : (Nat → Int32) → List Value} {c0 : Nat} {v : Int32} (E : gE p s m args meth c P own cc nL ret) (h : gH P s G H locs) (hc : c0 < 64 ∧ ∀ g, gc P c0 g = .inr (ci, fl g)) (hcl : gCl ci C T N) (k : Nat) (hk : k < N)
    (hl : Cond.fieldLink own idx (T k).1 (T k).2.1 (T k).2.2.1 ∈ GW) (hf : ∀ g, (fl g)[k]? = some (.int (zb (g k)))) (hv : G c0 k = v) (hdg : decode cc pc = .ok (.getfield idx, 3))
    (kk : W p l e R s m args below meth c H locs cells slots Q (F0 m (pc + 3) ls (.int (zb v) :: rest))) : W p l e R s m args below meth c H locs cells slots Q (F0 m pc ls (.ref (gad P c0) :: rest)) := by
  subst hv
  exact g_get E h hc hcl k hk hl (hf _) hdg kk
theorem g_getzN {ci N idx : Nat} {C host : String} {T : u_T} {fl : (Nat → Int32) → List Value} {c0 : Nat} {v : Int32} (E : gE p s m args meth c P own cc nL ret) (h : gH P s G H locs) (hc : c0 < 64 ∧ ∀ g, gc P c0 g = .inr (ci, fl g)) (hcl : gCl ci C T N) (k : Nat) (hk : k < N)
    (hl : Cond.fieldLinkNest own idx (T k).1 (T k).2.1 (T k).2.2.1 host ∈ NW) (hf : ∀ g, (fl g)[k]? = some (.int (zb (g k)))) (hv : G c0 k = v) (hdg : decode cc pc = .ok (.getfield idx, 3))
    (kk : W p l e R s m args below meth c H locs cells slots Q (F0 m (pc + 3) ls (.int (zb v) :: rest))) : W p l e R s m args below meth c H locs cells slots Q (F0 m pc ls (.ref (gad P c0) :: rest)) := by
  subst hv
  exact g_getN E h hc hcl k hk hl (hf _) hdg kk
theorem g_gete {ci N idx : Nat} {C : String} {T : u_T} {fl : (Nat → Int32) → List Value} {c0 : Nat} {v : Int32} (E : gE p s m args meth c P own cc nL ret) (h : gH P s G H locs) (hc : c0 < 64 ∧ ∀ g, gc P c0 g = .inr (ci, fl g)) (hcl : gCl ci C T N) (k : Nat) (hk : k < N)
    (hl : Cond.fieldLink own idx (T k).1 (T k).2.1 (T k).2.2.1 ∈ GW) (hf : ∀ g, (fl g)[k]? = some (.ref (gae P (g k)))) (hv : G c0 k = v) (hdg : decode cc pc = .ok (.getfield idx, 3))
    (kk : W p l e R s m args below meth c H locs cells slots Q (F0 m (pc + 3) ls (.ref (gae P v) :: rest))) : W p l e R s m args below meth c H locs cells slots Q (F0 m pc ls (.ref (gad P c0) :: rest)) := by
  subst hv
  exact g_get E h hc hcl k hk hl (hf _) hdg kk
theorem g_geteN {ci N idx : Nat} {C host : String} {T : u_T} {fl : (Nat → Int32) → List Value} {c0 : Nat} {v : Int32} (E : gE p s m args meth c P own cc nL ret) (h : gH P s G H locs) (hc : c0 < 64 ∧ ∀ g, gc P c0 g = .inr (ci, fl g)) (hcl : gCl ci C T N) (k : Nat) (hk : k < N)
    (hl : Cond.fieldLinkNest own idx (T k).1 (T k).2.1 (T k).2.2.1 host ∈ NW) (hf : ∀ g, (fl g)[k]? = some (.ref (gae P (g k)))) (hv : G c0 k = v) (hdg : decode cc pc = .ok (.getfield idx, 3))
    (kk : W p l e R s m args below meth c H locs cells slots Q (F0 m (pc + 3) ls (.ref (gae P v) :: rest))) : W p l e R s m args below meth c H locs cells slots Q (F0 m pc ls (.ref (gad P c0) :: rest)) := by
  subst hv
  exact g_getN E h hc hcl k hk hl (hf _) hdg kk
theorem g_puti {ci N idx : Nat} {C : String} {T : u_T} {ty0 : Nat → FieldType} {fl : (Nat → Int32) → List Value} {c0 : Nat} {nv : Int32} (E : gE p s m args meth c P own cc nL ret) (h : gH P s G H locs) (hc : c0 < 64 ∧ ∀ g, gc P c0 g = .inr (ci, fl g)) (hcl : gCl ci C T N) (hct : gCt C T N ty0) (k : Nat) (hk : k < N)
    (hl : Cond.fieldLink own idx (T k).1 (T k).2.1 (T k).2.2.1 ∈ GW) (hfin : (T k).2.2.2 = false) (hd : parseFieldDescriptor (T k).2.2.1 = some .int) (hset : ∀ g nv, (fl g).set k (.int nv) = fl (upd g k nv)) (hlen : k < (fl (G c0)).length) (hdg : decode cc pc = .ok (.putfield idx, 3))
    (kk : ∀ (H1 : Heap) (locs1 : List Loc), gH P s (wr G c0 k nv) H1 locs1 → W p l e R s m args below meth c H1 locs1 cells slots Q (F0 m (pc + 3) ls rest)) : W p l e R s m args below meth c H locs cells slots Q (F0 m pc ls (.int nv :: .ref (gad P c0) :: rest)) :=
  g_put E h hc hcl hct k hk hl hfin hd (fun g => hset g nv) rfl rfl hlen hdg kk
theorem g_putz {ci N idx : Nat} {C : String} {T : u_T} {ty0 : Nat → FieldType} {fl : (Nat → Int32) → List Value} {c0 : Nat} {nv : Int32} (E : gE p s m args meth c P own cc nL ret) (h : gH P s G H locs) (hc : c0 < 64 ∧ ∀ g, gc P c0 g = .inr (ci, fl g)) (hcl : gCl ci C T N) (hct : gCt C T N ty0) (k : Nat) (hk : k < N)
    (hl : Cond.fieldLink own idx (T k).1 (T k).2.1 (T k).2.2.1 ∈ GW) (hfin : (T k).2.2.2 = false) (hd : parseFieldDescriptor (T k).2.2.1 = some .boolean) (hset : ∀ g nv, isB nv → (fl g).set k (.int nv) = fl (upd g k nv)) (hz : isB nv) (hlen : k < (fl (G c0)).length) (hdg : decode cc pc = .ok (.putfield idx, 3))
    (kk : ∀ (H1 : Heap) (locs1 : List Loc), gH P s (wr G c0 k nv) H1 locs1 → W p l e R s m args below meth c H1 locs1 cells slots Q (F0 m (pc + 3) ls rest)) : W p l e R s m args below meth c H locs cells slots Q (F0 m pc ls (.int nv :: .ref (gad P c0) :: rest)) :=
  g_put E h hc hcl hct k hk hl hfin hd (fun g => hset g nv hz) hz.1 hz.2 hlen hdg kk
theorem g_pute {ci N idx : Nat} {C : String} {T : u_T} {ty0 : Nat → FieldType} {fl : (Nat → Int32) → List Value} {c0 : Nat} {nv : Int32} (E : gE p s m args meth c P own cc nL ret) (h : gH P s G H locs) (hc : c0 < 64 ∧ ∀ g, gc P c0 g = .inr (ci, fl g)) (hcl : gCl ci C T N) (hct : gCt C T N ty0) (k : Nat) (hk : k < N)
    (hl : Cond.fieldLink own idx (T k).1 (T k).2.1 (T k).2.2.1 ∈ GW) (hfin : (T k).2.2.2 = false) (hd : parseFieldDescriptor (T k).2.2.1 = some (.object "FramedLine$State")) (hset : ∀ g nv, (fl g).set k (.ref (gae P nv)) = fl (upd g k nv)) (hlen : k < (fl (G c0)).length) (hdg : decode cc pc = .ok (.putfield idx, 3))
    (kk : ∀ (H1 : Heap) (locs1 : List Loc), gH P s (wr G c0 k nv) H1 locs1 → W p l e R s m args below meth c H1 locs1 cells slots Q (F0 m (pc + 3) ls rest)) : W p l e R s m args below meth c H locs cells slots Q (F0 m pc ls (.ref (gae P nv) :: .ref (gad P c0) :: rest)) :=
  g_put E h hc hcl hct k hk hl hfin hd (fun g => hset g nv) rfl rfl hlen hdg kk
theorem g_iaload {c0 n k : Nat} {i v : Int32} (E : gE p s m args meth c P own cc nL ret) (h : gH P s G H locs) (hc : c0 < 64 ∧ ∀ g, gc P c0 g = .inl (gcI P, n, .inl g)) (hin : vp_in i n) (hk : i.toNatClampNeg = k) (hv : G c0 k = v) (hdg : decode cc pc = .ok (.iaload, 1))
    (kk : W p l e R s m args below meth c H locs cells slots Q (F0 m (pc + 1) ls (.int v :: rest))) : W p l e R s m args below meth c H locs cells slots Q (F0 m pc ls (.int i :: .ref (gad P c0) :: rest)) := by
  subst hk
  subst hv
  exact va_iald E.1 E.2.1 E.2.2.2.2.2.2.2.1 h.1 c0 0 (by rw [gw_at hc.1, hc.2]) rfl hin hdg kk
theorem g_baload {c0 n k : Nat} {i v : Int32} (E : gE p s m args meth c P own cc nL ret) (h : gH P s G H locs) (hc : c0 < 64 ∧ ∀ g, gc P c0 g = .inl (gcZ P, n, .inl g)) (hin : vp_in i n) (hk : i.toNatClampNeg = k) (hv : G c0 k = v) (hdg : decode cc pc = .ok (.baload, 1))
    (kk : W p l e R s m args below meth c H locs cells slots Q (F0 m (pc + 1) ls (.int v :: rest))) : W p l e R s m args below meth c H locs cells slots Q (F0 m pc ls (.int i :: .ref (gad P c0) :: rest)) := by
  subst hk
  subst hv
  exact va_zald E.1 E.2.1 E.2.2.2.2.2.2.2.1 h.1 c0 1 (by rw [gw_at hc.1, hc.2]) rfl hin hdg kk
theorem g_iastore {c0 n k : Nat} {i x : Int32} (E : gE p s m args meth c P own cc nL ret) (h : gH P s G H locs) (hc : c0 < 64 ∧ ∀ g, gc P c0 g = .inl (gcI P, n, .inl g)) (hin : vp_in i n) (hk : i.toNatClampNeg = k) (hdg : decode cc pc = .ok (.iastore, 1))
    (kk : ∀ (H1 : Heap) (locs1 : List Loc), gH P s (wr G c0 k x) H1 locs1 → W p l e R s m args below meth c H1 locs1 cells slots Q (F0 m (pc + 1) ls rest)) : W p l e R s m args below meth c H locs cells slots Q (F0 m pc ls (.int x :: .int i :: .ref (gad P c0) :: rest)) := by
  subst hk
  refine va_iast E.1 E.2.1 E.2.2.2.2.2.2.2.1 h.1 (gD_of E.2.2.2.2.2.2.2.2.1 G) h.2 c0 0 (by rw [gw_at hc.1, hc.2]) rfl hin hdg (fun H1 locs1 hP _ hS => kk H1 locs1 ⟨?_, hS⟩)
  rw [← hc.2, gw_set hc.1] at hP
  exact hP
theorem g_bastore {c0 n k : Nat} {i x : Int32} (E : gE p s m args meth c P own cc nL ret) (h : gH P s G H locs) (hc : c0 < 64 ∧ ∀ g, gc P c0 g = .inl (gcZ P, n, .inl g)) (hin : vp_in i n) (hk : i.toNatClampNeg = k) (hdg : decode cc pc = .ok (.bastore, 1))
    (kk : ∀ (H1 : Heap) (locs1 : List Loc), gH P s (wr G c0 k (zb x)) H1 locs1 → W p l e R s m args below meth c H1 locs1 cells slots Q (F0 m (pc + 1) ls rest)) : W p l e R s m args below meth c H locs cells slots Q (F0 m pc ls (.int x :: .int i :: .ref (gad P c0) :: rest)) := by
  subst hk
  refine va_zast E.1 E.2.1 E.2.2.2.2.2.2.2.1 h.1 (gD_of E.2.2.2.2.2.2.2.2.1 G) h.2 c0 1 (by rw [gw_at hc.1, hc.2]) rfl hin hdg (fun H1 locs1 hP _ hS => kk H1 locs1 ⟨?_, hS⟩)
  rw [← hc.2, gw_set hc.1] at hP
  exact hP
theorem g_acmp_ne {x y : Int32} {off : Int} {tgt : Nat} (E : gE p s m args meth c P own cc nL ret) (hb : c.code = cc) (hdg : decode cc pc = .ok (.if_acmp .ne off, 3)) (ht : (pc : Int) + off = (tgt : Int))
    (kt : ¬ n3 x = n3 y → W p l e R s m args below meth c H locs cells slots Q (F0 m tgt ls rest)) (kf : n3 x = n3 y → W p l e R s m args below meth c H locs cells slots Q (F0 m (pc + 3) ls rest)) : W p l e R s m args below meth c H locs cells slots Q (F0 m pc ls (.ref (gae P y) :: .ref (gae P x) :: rest)) := by
  have hinj := E.2.2.2.2.2.2.2.2.2.2.2
  have key : (some (gae P x) = some (gae P y)) ↔ n3 x = n3 y := by
    refine ⟨fun h => n3_eq.mp (hinj _ _ (n3n_lt x) (n3n_lt y) (Option.some.inj h)), fun h => ?_⟩
    unfold gae
    rw [n3_eq.mpr h]
  exact lv_acmp_ne (rx := some (gae P x)) (ry := some (gae P y)) E.1 hb hdg ht (fun h => kt (fun q => h (key.mpr q))) (fun h => kf (key.mp h))
theorem g_gets {idx : Nat} (E : gE p s m args meth c P own cc nL ret) (h : gH P s G H locs) (k : Nat) {x : Int32} (hk : k < 3) (hx : n3n x = k) (hl : Cond.fieldLink own idx "FramedLine$State" ((["SEARCHING", "TRYING", "ALIGNED"] : List String).getD k "") "LFramedLine$State;" ∈ GW) (hdg : decode cc pc = .ok (.getstatic idx, 3))
    (kk : W p l e R s m args below meth c H locs cells slots Q (F0 m (pc + 3) ls (.ref (gae P x) :: rest))) : W p l e R s m args below meth c H locs cells slots Q (F0 m pc ls rest) := by
  subst hx
  exact va_gets E.1 E.2.1 (E.2.2.2.2.2.2.2.2.2.2.1 _ hk).1 h.2 E.2.2.2.2.1 (E.2.2.2.2.2.1 _ hl) (fun _ q => q) hdg kk
theorem g_preV {c0 ci N : Nat} {C : String} {T : u_T} {fl : (Nat → Int32) → List Value} {As : List Value} (E : gE p s m args meth c P own cc nL ret) (h : gH P s G H locs) (hc : c0 < 64 ∧ ∀ g, gc P c0 g = .inr (ci, fl g)) (hcl : gCl ci C T N) : PreV s H C (gad P c0) (va_Pc (.ref (gad P c0) :: As) (gPre P G)) As :=
  ⟨gPre_blind, va_recv (q := (C, T, N)) E.2.2.2.2.2.2.2.1 h.1 hcl.1 (q0 := c0) (fs := fl (G c0)) (by rw [gw_at hc.1, hc.2]), fun U hU hW => ⟨rfl, by rw [hU]; exact h.1, gS_moved E.2.2.2.2.2.2.2 h.2 hU hW⟩⟩
theorem g_preS {As : List Value} (E : gE p s m args meth c P own cc nL ret) (h : gH P s G H locs) : PreS s H (va_Pc As (gPre P G)) As :=
  ⟨gPre_blind, fun U hU hW => ⟨rfl, by rw [hU]; exact h.1, gS_moved E.2.2.2.2.2.2.2 h.2 hU hW⟩⟩
theorem g_cb {y : MethodName} {cy : ByteArray} {my n idx : Nat} {ry : Option FieldType} {rm : Room} (hts : ∀ w ∈ GW, w.before args s = true) (L : Cond.code y cy my ry ∈ GW ∧ Cond.initialized y.cls ∈ GW ∧ (y.cls ≠ "java/lang/invoke/MethodHandle" ∧ y.cls ≠ "java/lang/invoke/VarHandle" ∧ (parseMethodDescriptor y.desc).map (fun d => d.parameters.length) = some n)) (hl : (Cond.methodLink own idx y).before args s = true) (hc : rm.cells = 0) (hs : rm.slots = 0) (hR : rm.frames + 1 ≤ R.frames ∧ 8 + (my + 11) + rm.locals ≤ R.locals) : CallB R s args own idx y cy my ry (Cond.code y cy my ry :: GW) rm 0 0 n :=
  callB_of n hts (GW_good (big := GW) (fun w h => (List.mem_cons.mp h).elim (fun q => by rw [q]; exact L.1) id)) rfl hc hs (hts _ L.2.1) hl L.2.2 hR

theorem g_endv {X : Mem} {st0 : List Value} {a : Array Value} (h : gH P s G H locs) (hr : va_Run p l e R s m args below meth c H locs cells slots 0 0 (F0 m pc ls st0) rest (va_Qv (fun u : Mem => X = u) (fun u t => va_P (gDD P) vwCl (gw P u) t.heap) (gA P) a) (gA P))
    (kk : ∀ (H1 : Heap) (locs1 : List Loc), gH P s X H1 locs1 → W p l e R s m args below meth c H1 locs1 cells slots Q (F0 m (pc + 3) ls rest)) : W p l e R s m args below meth c H locs cells slots Q (F0 m pc ls st0) :=
  va_callv hr h.2 (fun q _ z => z) (fun q z => z) (fun u t H1 locs1 ht _ hX hB _ _ hS => kk H1 locs1 ⟨by rw [hX, ← ht]; exact hB, hS⟩)
theorem g_endi {X : Int32 × Mem} {st0 : List Value} {a : Array Value} (h : gH P s G H locs) (hr : va_Run p l e R s m args below meth c H locs cells slots 0 0 (F0 m pc ls st0) rest (va_Qi (fun (r : Int32) (u : Mem) => X = (r, u)) (fun u t => va_P (gDD P) vwCl (gw P u) t.heap) (gA P) a) (gA P))
    (kk : ∀ (H1 : Heap) (locs1 : List Loc), gH P s X.2 H1 locs1 → W p l e R s m args below meth c H1 locs1 cells slots Q (F0 m (pc + 3) ls (.int X.1 :: rest))) : W p l e R s m args below meth c H locs cells slots Q (F0 m pc ls st0) :=
  va_calli hr h.2 (fun q _ z => z) (fun q z => z) (fun r u t H1 locs1 ht _ hX hB _ _ hS => by
    subst hX
    exact kk H1 locs1 ⟨by rw [← ht]; exact hB, hS⟩)
theorem g_endz {X : Int32 × Mem} {st0 : List Value} {a : Array Value} (h : gH P s G H locs) (hr : va_Run p l e R s m args below meth c H locs cells slots 0 0 (F0 m pc ls st0) rest (va_Qi (fun (r : Int32) (u : Mem) => X = (r, u) ∧ isB r) (fun u t => va_P (gDD P) vwCl (gw P u) t.heap) (gA P) a) (gA P))
    (kk : ∀ (H1 : Heap) (locs1 : List Loc), gH P s X.2 H1 locs1 → isB X.1 → W p l e R s m args below meth c H1 locs1 cells slots Q (F0 m (pc + 3) ls (.int X.1 :: rest))) : W p l e R s m args below meth c H locs cells slots Q (F0 m pc ls st0) :=
  va_calli hr h.2 (fun q _ z => z) (fun q z => z) (fun r u t H1 locs1 ht _ hX hB _ _ hS => by
    obtain ⟨hX, hz⟩ := hX
    subst hX
    exact kk H1 locs1 ⟨by rw [← ht]; exact hB, hS⟩ hz)
theorem g_callVv {y : MethodName} {cy : ByteArray} {my n idx : Nat} {ry : Option FieldType} {rm : Room} {lv : List (Nat × Value)} {st0 As : List Value} {X : Mem} {c0 ci N : Nat} {C : String} {T : u_T} {fl : (Nat → Int32) → List Value} (E : gE p s m args meth c P own cc nL ret) (h : gH P s G H locs) (hl : lv_has ls nL lv) (hM : gMv l y cy my ry rm (.ref (gad P c0) :: As) P G X) (L : gLV own C idx y cy my ry n) (hc : c0 < 64 ∧ ∀ g, gc P c0 g = .inr (ci, fl g)) (hcl : gCl ci C T N)
    (hF : rm.frames + 1 ≤ R.frames) (hL : 8 + (my + 11) + rm.locals ≤ R.locals) (hCe : cells ≤ R.cells) (hSl : slots ≤ R.slots) (hroom : (rest.map fun v => v.category).sum ≤ 8) (hc0 : rm.cells = 0) (hs0 : rm.slots = 0) (hn : As.length = n) (hst : st0 = As.reverse ++ .ref (gad P c0) :: rest) (hdg : decode cc pc = .ok (.invokevirtual idx, 3))
    (kk : ∀ (H1 : Heap) (locs1 : List Loc), gH P s X H1 locs1 → W p l e R s m args below meth c H1 locs1 cells slots Q (F0 m (pc + 3) ls rest)) : W p l e R s m args below meth c H locs cells slots Q (F0 m pc ls st0) :=
  g_endv h (va_runV ⟨E.1, E.2.1, E.2.2.2.1, E.2.2.2.2.1, E.2.2.2.2.2.1⟩ hM ⟨g_cb E.2.2.2.2.2.1 L.1 (E.2.2.2.2.2.1 _ L.2.1) hc0 hs0 ⟨hF, hL⟩, E.2.2.2.2.2.1 _ L.2.2.1, E.2.2.2.2.2.1 _ L.2.2.2⟩ (g_preV E h hc hcl) rfl hn hl.1 hst (lv_room hroom) hdg ⟨hCe, hSl⟩) kk
theorem g_callVi {y : MethodName} {cy : ByteArray} {my n idx : Nat} {ry : Option FieldType} {rm : Room} {lv : List (Nat × Value)} {st0 As : List Value} {X : Int32 × Mem} {c0 ci N : Nat} {C : String} {T : u_T} {fl : (Nat → Int32) → List Value} (E : gE p s m args meth c P own cc nL ret) (h : gH P s G H locs) (hl : lv_has ls nL lv) (hM : gMi l y cy my ry rm (.ref (gad P c0) :: As) P G X) (L : gLV own C idx y cy my ry n) (hc : c0 < 64 ∧ ∀ g, gc P c0 g = .inr (ci, fl g)) (hcl : gCl ci C T N)
    (hF : rm.frames + 1 ≤ R.frames) (hL : 8 + (my + 11) + rm.locals ≤ R.locals) (hCe : cells ≤ R.cells) (hSl : slots ≤ R.slots) (hroom : (rest.map fun v => v.category).sum ≤ 8) (hc0 : rm.cells = 0) (hs0 : rm.slots = 0) (hn : As.length = n) (hst : st0 = As.reverse ++ .ref (gad P c0) :: rest) (hdg : decode cc pc = .ok (.invokevirtual idx, 3))
    (kk : ∀ (H1 : Heap) (locs1 : List Loc), gH P s X.2 H1 locs1 → W p l e R s m args below meth c H1 locs1 cells slots Q (F0 m (pc + 3) ls (.int X.1 :: rest))) : W p l e R s m args below meth c H locs cells slots Q (F0 m pc ls st0) :=
  g_endi h (va_runV ⟨E.1, E.2.1, E.2.2.2.1, E.2.2.2.2.1, E.2.2.2.2.2.1⟩ hM ⟨g_cb E.2.2.2.2.2.1 L.1 (E.2.2.2.2.2.1 _ L.2.1) hc0 hs0 ⟨hF, hL⟩, E.2.2.2.2.2.1 _ L.2.2.1, E.2.2.2.2.2.1 _ L.2.2.2⟩ (g_preV E h hc hcl) rfl hn hl.1 hst (lv_room hroom) hdg ⟨hCe, hSl⟩) kk
theorem g_callVz {y : MethodName} {cy : ByteArray} {my n idx : Nat} {ry : Option FieldType} {rm : Room} {lv : List (Nat × Value)} {st0 As : List Value} {X : Int32 × Mem} {c0 ci N : Nat} {C : String} {T : u_T} {fl : (Nat → Int32) → List Value} (E : gE p s m args meth c P own cc nL ret) (h : gH P s G H locs) (hl : lv_has ls nL lv) (hM : gMz l y cy my ry rm (.ref (gad P c0) :: As) P G X) (L : gLV own C idx y cy my ry n) (hc : c0 < 64 ∧ ∀ g, gc P c0 g = .inr (ci, fl g)) (hcl : gCl ci C T N)
    (hF : rm.frames + 1 ≤ R.frames) (hL : 8 + (my + 11) + rm.locals ≤ R.locals) (hCe : cells ≤ R.cells) (hSl : slots ≤ R.slots) (hroom : (rest.map fun v => v.category).sum ≤ 8) (hc0 : rm.cells = 0) (hs0 : rm.slots = 0) (hn : As.length = n) (hst : st0 = As.reverse ++ .ref (gad P c0) :: rest) (hdg : decode cc pc = .ok (.invokevirtual idx, 3))
    (kk : ∀ (H1 : Heap) (locs1 : List Loc), gH P s X.2 H1 locs1 → isB X.1 → W p l e R s m args below meth c H1 locs1 cells slots Q (F0 m (pc + 3) ls (.int X.1 :: rest))) : W p l e R s m args below meth c H locs cells slots Q (F0 m pc ls st0) :=
  g_endz h (va_runV ⟨E.1, E.2.1, E.2.2.2.1, E.2.2.2.2.1, E.2.2.2.2.2.1⟩ hM ⟨g_cb E.2.2.2.2.2.1 L.1 (E.2.2.2.2.2.1 _ L.2.1) hc0 hs0 ⟨hF, hL⟩, E.2.2.2.2.2.1 _ L.2.2.1, E.2.2.2.2.2.1 _ L.2.2.2⟩ (g_preV E h hc hcl) rfl hn hl.1 hst (lv_room hroom) hdg ⟨hCe, hSl⟩) kk
theorem g_callVri {y : MethodName} {cy : ByteArray} {my n idx : Nat} {ry : Option FieldType} {rm : Room} {lv : List (Nat × Value)} {st0 As : List Value} {X : Int32} {c0 ci N : Nat} {C : String} {T : u_T} {fl : (Nat → Int32) → List Value} (E : gE p s m args meth c P own cc nL ret) (h : gH P s G H locs) (hl : lv_has ls nL lv) (hM : gMri l y cy my ry rm (.ref (gad P c0) :: As) P G X) (L : gLV own C idx y cy my ry n) (hc : c0 < 64 ∧ ∀ g, gc P c0 g = .inr (ci, fl g)) (hcl : gCl ci C T N)
    (hF : rm.frames + 1 ≤ R.frames) (hL : 8 + (my + 11) + rm.locals ≤ R.locals) (hCe : cells ≤ R.cells) (hSl : slots ≤ R.slots) (hroom : (rest.map fun v => v.category).sum ≤ 8) (hc0 : rm.cells = 0) (hs0 : rm.slots = 0) (hn : As.length = n) (hst : st0 = As.reverse ++ .ref (gad P c0) :: rest) (hdg : decode cc pc = .ok (.invokevirtual idx, 3))
    (kk : ∀ (H1 : Heap) (locs1 : List Loc), gH P s G H1 locs1 → W p l e R s m args below meth c H1 locs1 cells slots Q (F0 m (pc + 3) ls (.int X :: rest))) : W p l e R s m args below meth c H locs cells slots Q (F0 m pc ls st0) :=
  g_endi h (va_runV ⟨E.1, E.2.1, E.2.2.2.1, E.2.2.2.2.1, E.2.2.2.2.2.1⟩ hM ⟨g_cb E.2.2.2.2.2.1 L.1 (E.2.2.2.2.2.1 _ L.2.1) hc0 hs0 ⟨hF, hL⟩, E.2.2.2.2.2.1 _ L.2.2.1, E.2.2.2.2.2.1 _ L.2.2.2⟩ (g_preV E h hc hcl) rfl hn hl.1 hst (lv_room hroom) hdg ⟨hCe, hSl⟩) kk
theorem g_callVrz {y : MethodName} {cy : ByteArray} {my n idx : Nat} {ry : Option FieldType} {rm : Room} {lv : List (Nat × Value)} {st0 As : List Value} {X : Int32} {c0 ci N : Nat} {C : String} {T : u_T} {fl : (Nat → Int32) → List Value} (E : gE p s m args meth c P own cc nL ret) (h : gH P s G H locs) (hl : lv_has ls nL lv) (hM : gMrz l y cy my ry rm (.ref (gad P c0) :: As) P G X) (L : gLV own C idx y cy my ry n) (hc : c0 < 64 ∧ ∀ g, gc P c0 g = .inr (ci, fl g)) (hcl : gCl ci C T N)
    (hF : rm.frames + 1 ≤ R.frames) (hL : 8 + (my + 11) + rm.locals ≤ R.locals) (hCe : cells ≤ R.cells) (hSl : slots ≤ R.slots) (hroom : (rest.map fun v => v.category).sum ≤ 8) (hc0 : rm.cells = 0) (hs0 : rm.slots = 0) (hn : As.length = n) (hst : st0 = As.reverse ++ .ref (gad P c0) :: rest) (hdg : decode cc pc = .ok (.invokevirtual idx, 3))
    (kk : ∀ (H1 : Heap) (locs1 : List Loc), gH P s G H1 locs1 → isB X → W p l e R s m args below meth c H1 locs1 cells slots Q (F0 m (pc + 3) ls (.int X :: rest))) : W p l e R s m args below meth c H locs cells slots Q (F0 m pc ls st0) :=
  g_endz h (va_runV ⟨E.1, E.2.1, E.2.2.2.1, E.2.2.2.2.1, E.2.2.2.2.2.1⟩ hM ⟨g_cb E.2.2.2.2.2.1 L.1 (E.2.2.2.2.2.1 _ L.2.1) hc0 hs0 ⟨hF, hL⟩, E.2.2.2.2.2.1 _ L.2.2.1, E.2.2.2.2.2.1 _ L.2.2.2⟩ (g_preV E h hc hcl) rfl hn hl.1 hst (lv_room hroom) hdg ⟨hCe, hSl⟩) kk
theorem g_callSv {y : MethodName} {cy : ByteArray} {my n idx : Nat} {ry : Option FieldType} {rm : Room} {lv : List (Nat × Value)} {st0 As : List Value} {X : Mem} (E : gE p s m args meth c P own cc nL ret) (h : gH P s G H locs) (hl : lv_has ls nL lv) (hM : gMv l y cy my ry rm As P G X) (L : gLS own idx y cy my ry n)
    (hF : rm.frames + 1 ≤ R.frames) (hL : 8 + (my + 11) + rm.locals ≤ R.locals) (hCe : cells ≤ R.cells) (hSl : slots ≤ R.slots) (hroom : (rest.map fun v => v.category).sum ≤ 8) (hc0 : rm.cells = 0) (hs0 : rm.slots = 0) (hn : As.length = n) (hst : st0 = As.reverse ++ rest) (hdg : decode cc pc = .ok (.invokestatic idx, 3))
    (kk : ∀ (H1 : Heap) (locs1 : List Loc), gH P s X H1 locs1 → W p l e R s m args below meth c H1 locs1 cells slots Q (F0 m (pc + 3) ls rest)) : W p l e R s m args below meth c H locs cells slots Q (F0 m pc ls st0) :=
  g_endv h (va_runS ⟨E.1, E.2.1, E.2.2.2.1, E.2.2.2.2.1, E.2.2.2.2.2.1⟩ hM ⟨g_cb E.2.2.2.2.2.1 L.1 (E.2.2.2.2.2.1 _ L.2.1) hc0 hs0 ⟨hF, hL⟩, E.2.2.2.2.2.1 _ L.2.2⟩ (g_preS E h) rfl hn hl.1 hst (lv_room hroom) hdg ⟨hCe, hSl⟩) kk
theorem g_callSi {y : MethodName} {cy : ByteArray} {my n idx : Nat} {ry : Option FieldType} {rm : Room} {lv : List (Nat × Value)} {st0 As : List Value} {X : Int32 × Mem} (E : gE p s m args meth c P own cc nL ret) (h : gH P s G H locs) (hl : lv_has ls nL lv) (hM : gMi l y cy my ry rm As P G X) (L : gLS own idx y cy my ry n)
    (hF : rm.frames + 1 ≤ R.frames) (hL : 8 + (my + 11) + rm.locals ≤ R.locals) (hCe : cells ≤ R.cells) (hSl : slots ≤ R.slots) (hroom : (rest.map fun v => v.category).sum ≤ 8) (hc0 : rm.cells = 0) (hs0 : rm.slots = 0) (hn : As.length = n) (hst : st0 = As.reverse ++ rest) (hdg : decode cc pc = .ok (.invokestatic idx, 3))
    (kk : ∀ (H1 : Heap) (locs1 : List Loc), gH P s X.2 H1 locs1 → W p l e R s m args below meth c H1 locs1 cells slots Q (F0 m (pc + 3) ls (.int X.1 :: rest))) : W p l e R s m args below meth c H locs cells slots Q (F0 m pc ls st0) :=
  g_endi h (va_runS ⟨E.1, E.2.1, E.2.2.2.1, E.2.2.2.2.1, E.2.2.2.2.2.1⟩ hM ⟨g_cb E.2.2.2.2.2.1 L.1 (E.2.2.2.2.2.1 _ L.2.1) hc0 hs0 ⟨hF, hL⟩, E.2.2.2.2.2.1 _ L.2.2⟩ (g_preS E h) rfl hn hl.1 hst (lv_room hroom) hdg ⟨hCe, hSl⟩) kk
theorem g_callSz {y : MethodName} {cy : ByteArray} {my n idx : Nat} {ry : Option FieldType} {rm : Room} {lv : List (Nat × Value)} {st0 As : List Value} {X : Int32 × Mem} (E : gE p s m args meth c P own cc nL ret) (h : gH P s G H locs) (hl : lv_has ls nL lv) (hM : gMz l y cy my ry rm As P G X) (L : gLS own idx y cy my ry n)
    (hF : rm.frames + 1 ≤ R.frames) (hL : 8 + (my + 11) + rm.locals ≤ R.locals) (hCe : cells ≤ R.cells) (hSl : slots ≤ R.slots) (hroom : (rest.map fun v => v.category).sum ≤ 8) (hc0 : rm.cells = 0) (hs0 : rm.slots = 0) (hn : As.length = n) (hst : st0 = As.reverse ++ rest) (hdg : decode cc pc = .ok (.invokestatic idx, 3))
    (kk : ∀ (H1 : Heap) (locs1 : List Loc), gH P s X.2 H1 locs1 → isB X.1 → W p l e R s m args below meth c H1 locs1 cells slots Q (F0 m (pc + 3) ls (.int X.1 :: rest))) : W p l e R s m args below meth c H locs cells slots Q (F0 m pc ls st0) :=
  g_endz h (va_runS ⟨E.1, E.2.1, E.2.2.2.1, E.2.2.2.2.1, E.2.2.2.2.2.1⟩ hM ⟨g_cb E.2.2.2.2.2.1 L.1 (E.2.2.2.2.2.1 _ L.2.1) hc0 hs0 ⟨hF, hL⟩, E.2.2.2.2.2.1 _ L.2.2⟩ (g_preS E h) rfl hn hl.1 hst (lv_room hroom) hdg ⟨hCe, hSl⟩) kk
theorem g_callSri {y : MethodName} {cy : ByteArray} {my n idx : Nat} {ry : Option FieldType} {rm : Room} {lv : List (Nat × Value)} {st0 As : List Value} {X : Int32} (E : gE p s m args meth c P own cc nL ret) (h : gH P s G H locs) (hl : lv_has ls nL lv) (hM : gMri l y cy my ry rm As P G X) (L : gLS own idx y cy my ry n)
    (hF : rm.frames + 1 ≤ R.frames) (hL : 8 + (my + 11) + rm.locals ≤ R.locals) (hCe : cells ≤ R.cells) (hSl : slots ≤ R.slots) (hroom : (rest.map fun v => v.category).sum ≤ 8) (hc0 : rm.cells = 0) (hs0 : rm.slots = 0) (hn : As.length = n) (hst : st0 = As.reverse ++ rest) (hdg : decode cc pc = .ok (.invokestatic idx, 3))
    (kk : ∀ (H1 : Heap) (locs1 : List Loc), gH P s G H1 locs1 → W p l e R s m args below meth c H1 locs1 cells slots Q (F0 m (pc + 3) ls (.int X :: rest))) : W p l e R s m args below meth c H locs cells slots Q (F0 m pc ls st0) :=
  g_endi h (va_runS ⟨E.1, E.2.1, E.2.2.2.1, E.2.2.2.2.1, E.2.2.2.2.2.1⟩ hM ⟨g_cb E.2.2.2.2.2.1 L.1 (E.2.2.2.2.2.1 _ L.2.1) hc0 hs0 ⟨hF, hL⟩, E.2.2.2.2.2.1 _ L.2.2⟩ (g_preS E h) rfl hn hl.1 hst (lv_room hroom) hdg ⟨hCe, hSl⟩) kk
theorem g_callSrz {y : MethodName} {cy : ByteArray} {my n idx : Nat} {ry : Option FieldType} {rm : Room} {lv : List (Nat × Value)} {st0 As : List Value} {X : Int32} (E : gE p s m args meth c P own cc nL ret) (h : gH P s G H locs) (hl : lv_has ls nL lv) (hM : gMrz l y cy my ry rm As P G X) (L : gLS own idx y cy my ry n)
    (hF : rm.frames + 1 ≤ R.frames) (hL : 8 + (my + 11) + rm.locals ≤ R.locals) (hCe : cells ≤ R.cells) (hSl : slots ≤ R.slots) (hroom : (rest.map fun v => v.category).sum ≤ 8) (hc0 : rm.cells = 0) (hs0 : rm.slots = 0) (hn : As.length = n) (hst : st0 = As.reverse ++ rest) (hdg : decode cc pc = .ok (.invokestatic idx, 3))
    (kk : ∀ (H1 : Heap) (locs1 : List Loc), gH P s G H1 locs1 → isB X → W p l e R s m args below meth c H1 locs1 cells slots Q (F0 m (pc + 3) ls (.int X :: rest))) : W p l e R s m args below meth c H locs cells slots Q (F0 m pc ls st0) :=
  g_endz h (va_runS ⟨E.1, E.2.1, E.2.2.2.1, E.2.2.2.2.1, E.2.2.2.2.2.1⟩ hM ⟨g_cb E.2.2.2.2.2.1 L.1 (E.2.2.2.2.2.1 _ L.2.1) hc0 hs0 ⟨hF, hL⟩, E.2.2.2.2.2.1 _ L.2.2⟩ (g_preS E h) rfl hn hl.1 hst (lv_room hroom) hdg ⟨hCe, hSl⟩) kk
theorem g_cn {y : MethodName} {cy : ByteArray} {my n idx : Nat} {host : String} {ry : Option FieldType} {rm : Room} (hts : ∀ w ∈ GW, w.before args s = true) (L : Cond.code y cy my ry ∈ GW ∧ Cond.initialized y.cls ∈ GW ∧ (y.cls ≠ "java/lang/invoke/MethodHandle" ∧ y.cls ≠ "java/lang/invoke/VarHandle" ∧ (parseMethodDescriptor y.desc).map (fun d => d.parameters.length) = some n)) (hl : va_Nw (.methodLinkNest own idx y host) s) (hc : rm.cells = 0) (hs : rm.slots = 0) (hR : rm.frames + 1 ≤ R.frames ∧ 8 + (my + 11) + rm.locals ≤ R.locals) : va_CN R s args own idx y host cy my ry (Cond.code y cy my ry :: GW) rm 0 0 n :=
  va_cnB n hts (GW_good (big := GW) (fun w h => (List.mem_cons.mp h).elim (fun q => by rw [q]; exact L.1) id)) rfl hc hs hl (hts _ L.2.1) L.2.2 hR
theorem g_callSNv {y : MethodName} {cy : ByteArray} {my n idx : Nat} {ry : Option FieldType} {rm : Room} {lv : List (Nat × Value)} {st0 As : List Value} {X : Mem} {host : String} (E : gE p s m args meth c P own cc nL ret) (h : gH P s G H locs) (hl : lv_has ls nL lv) (hM : gMv l y cy my ry rm As P G X) (L : gLSN own host idx y cy my ry n)
    (hF : rm.frames + 1 ≤ R.frames) (hL : 8 + (my + 11) + rm.locals ≤ R.locals) (hCe : cells ≤ R.cells) (hSl : slots ≤ R.slots) (hroom : (rest.map fun v => v.category).sum ≤ 8) (hc0 : rm.cells = 0) (hs0 : rm.slots = 0) (hn : As.length = n) (hst : st0 = As.reverse ++ rest) (hdg : decode cc pc = .ok (.invokestatic idx, 3))
    (kk : ∀ (H1 : Heap) (locs1 : List Loc), gH P s X H1 locs1 → W p l e R s m args below meth c H1 locs1 cells slots Q (F0 m (pc + 3) ls rest)) : W p l e R s m args below meth c H locs cells slots Q (F0 m pc ls st0) :=
  g_endv h (va_runSN ⟨E.1, E.2.1, E.2.2.2.1, E.2.2.2.2.1, E.2.2.2.2.2.1⟩ hM ⟨g_cn E.2.2.2.2.2.1 L.1 (E.2.2.2.2.2.2.2.2.2.1 _ L.2.1) hc0 hs0 ⟨hF, hL⟩, E.2.2.2.2.2.1 _ L.2.2, trivial⟩ (g_preS E h) rfl hn hl.1 hst (lv_room hroom) hdg ⟨hCe, hSl⟩) kk
theorem g_callSNi {y : MethodName} {cy : ByteArray} {my n idx : Nat} {ry : Option FieldType} {rm : Room} {lv : List (Nat × Value)} {st0 As : List Value} {X : Int32 × Mem} {host : String} (E : gE p s m args meth c P own cc nL ret) (h : gH P s G H locs) (hl : lv_has ls nL lv) (hM : gMi l y cy my ry rm As P G X) (L : gLSN own host idx y cy my ry n)
    (hF : rm.frames + 1 ≤ R.frames) (hL : 8 + (my + 11) + rm.locals ≤ R.locals) (hCe : cells ≤ R.cells) (hSl : slots ≤ R.slots) (hroom : (rest.map fun v => v.category).sum ≤ 8) (hc0 : rm.cells = 0) (hs0 : rm.slots = 0) (hn : As.length = n) (hst : st0 = As.reverse ++ rest) (hdg : decode cc pc = .ok (.invokestatic idx, 3))
    (kk : ∀ (H1 : Heap) (locs1 : List Loc), gH P s X.2 H1 locs1 → W p l e R s m args below meth c H1 locs1 cells slots Q (F0 m (pc + 3) ls (.int X.1 :: rest))) : W p l e R s m args below meth c H locs cells slots Q (F0 m pc ls st0) :=
  g_endi h (va_runSN ⟨E.1, E.2.1, E.2.2.2.1, E.2.2.2.2.1, E.2.2.2.2.2.1⟩ hM ⟨g_cn E.2.2.2.2.2.1 L.1 (E.2.2.2.2.2.2.2.2.2.1 _ L.2.1) hc0 hs0 ⟨hF, hL⟩, E.2.2.2.2.2.1 _ L.2.2, trivial⟩ (g_preS E h) rfl hn hl.1 hst (lv_room hroom) hdg ⟨hCe, hSl⟩) kk
theorem g_callSNz {y : MethodName} {cy : ByteArray} {my n idx : Nat} {ry : Option FieldType} {rm : Room} {lv : List (Nat × Value)} {st0 As : List Value} {X : Int32 × Mem} {host : String} (E : gE p s m args meth c P own cc nL ret) (h : gH P s G H locs) (hl : lv_has ls nL lv) (hM : gMz l y cy my ry rm As P G X) (L : gLSN own host idx y cy my ry n)
    (hF : rm.frames + 1 ≤ R.frames) (hL : 8 + (my + 11) + rm.locals ≤ R.locals) (hCe : cells ≤ R.cells) (hSl : slots ≤ R.slots) (hroom : (rest.map fun v => v.category).sum ≤ 8) (hc0 : rm.cells = 0) (hs0 : rm.slots = 0) (hn : As.length = n) (hst : st0 = As.reverse ++ rest) (hdg : decode cc pc = .ok (.invokestatic idx, 3))
    (kk : ∀ (H1 : Heap) (locs1 : List Loc), gH P s X.2 H1 locs1 → isB X.1 → W p l e R s m args below meth c H1 locs1 cells slots Q (F0 m (pc + 3) ls (.int X.1 :: rest))) : W p l e R s m args below meth c H locs cells slots Q (F0 m pc ls st0) :=
  g_endz h (va_runSN ⟨E.1, E.2.1, E.2.2.2.1, E.2.2.2.2.1, E.2.2.2.2.2.1⟩ hM ⟨g_cn E.2.2.2.2.2.1 L.1 (E.2.2.2.2.2.2.2.2.2.1 _ L.2.1) hc0 hs0 ⟨hF, hL⟩, E.2.2.2.2.2.1 _ L.2.2, trivial⟩ (g_preS E h) rfl hn hl.1 hst (lv_room hroom) hdg ⟨hCe, hSl⟩) kk
theorem g_callSNri {y : MethodName} {cy : ByteArray} {my n idx : Nat} {ry : Option FieldType} {rm : Room} {lv : List (Nat × Value)} {st0 As : List Value} {X : Int32} {host : String} (E : gE p s m args meth c P own cc nL ret) (h : gH P s G H locs) (hl : lv_has ls nL lv) (hM : gMri l y cy my ry rm As P G X) (L : gLSN own host idx y cy my ry n)
    (hF : rm.frames + 1 ≤ R.frames) (hL : 8 + (my + 11) + rm.locals ≤ R.locals) (hCe : cells ≤ R.cells) (hSl : slots ≤ R.slots) (hroom : (rest.map fun v => v.category).sum ≤ 8) (hc0 : rm.cells = 0) (hs0 : rm.slots = 0) (hn : As.length = n) (hst : st0 = As.reverse ++ rest) (hdg : decode cc pc = .ok (.invokestatic idx, 3))
    (kk : ∀ (H1 : Heap) (locs1 : List Loc), gH P s G H1 locs1 → W p l e R s m args below meth c H1 locs1 cells slots Q (F0 m (pc + 3) ls (.int X :: rest))) : W p l e R s m args below meth c H locs cells slots Q (F0 m pc ls st0) :=
  g_endi h (va_runSN ⟨E.1, E.2.1, E.2.2.2.1, E.2.2.2.2.1, E.2.2.2.2.2.1⟩ hM ⟨g_cn E.2.2.2.2.2.1 L.1 (E.2.2.2.2.2.2.2.2.2.1 _ L.2.1) hc0 hs0 ⟨hF, hL⟩, E.2.2.2.2.2.1 _ L.2.2, trivial⟩ (g_preS E h) rfl hn hl.1 hst (lv_room hroom) hdg ⟨hCe, hSl⟩) kk
theorem g_callSNrz {y : MethodName} {cy : ByteArray} {my n idx : Nat} {ry : Option FieldType} {rm : Room} {lv : List (Nat × Value)} {st0 As : List Value} {X : Int32} {host : String} (E : gE p s m args meth c P own cc nL ret) (h : gH P s G H locs) (hl : lv_has ls nL lv) (hM : gMrz l y cy my ry rm As P G X) (L : gLSN own host idx y cy my ry n)
    (hF : rm.frames + 1 ≤ R.frames) (hL : 8 + (my + 11) + rm.locals ≤ R.locals) (hCe : cells ≤ R.cells) (hSl : slots ≤ R.slots) (hroom : (rest.map fun v => v.category).sum ≤ 8) (hc0 : rm.cells = 0) (hs0 : rm.slots = 0) (hn : As.length = n) (hst : st0 = As.reverse ++ rest) (hdg : decode cc pc = .ok (.invokestatic idx, 3))
    (kk : ∀ (H1 : Heap) (locs1 : List Loc), gH P s G H1 locs1 → isB X → W p l e R s m args below meth c H1 locs1 cells slots Q (F0 m (pc + 3) ls (.int X :: rest))) : W p l e R s m args below meth c H locs cells slots Q (F0 m pc ls st0) :=
  g_endz h (va_runSN ⟨E.1, E.2.1, E.2.2.2.1, E.2.2.2.2.1, E.2.2.2.2.2.1⟩ hM ⟨g_cn E.2.2.2.2.2.1 L.1 (E.2.2.2.2.2.2.2.2.2.1 _ L.2.1) hc0 hs0 ⟨hF, hL⟩, E.2.2.2.2.2.1 _ L.2.2, trivial⟩ (g_preS E h) rfl hn hl.1 hst (lv_room hroom) hdg ⟨hCe, hSl⟩) kk
theorem g_vret {X : Mem} (E : gE p s m args meth c P own cc nL none) (h : gH P s G H locs) (hX : X = G) (hdg : decode cc pc = .ok (.return_, 1)) : W p l e R s m args below meth c H locs cells slots (MQ below (va_Qv (fun u : Mem => X = u) (fun u t => va_P (gDD P) vwCl (gw P u) t.heap) (gA P)) args s cells slots (gA P)) (F0 m pc ls []) :=
  W.vret E.1 E.2.1 E.2.2.1 (fun t ht _ => ⟨⟨G, rfl, hX, by show va_P _ _ _ t.heap; rw [ht]; exact h.1⟩, h.2.F ht⟩) h.2.2.2 hdg E.2.2.2.2.2.2.1
theorem g_iret {X : Int32 × Mem} {v : Int32} (E : gE p s m args meth c P own cc nL (some .int)) (h : gH P s G H locs) (hX : X = (v, G)) (hdg : decode cc pc = .ok (.ireturn, 1)) : W p l e R s m args below meth c H locs cells slots (MQ below (va_Qi (fun (r : Int32) (u : Mem) => X = (r, u)) (fun u t => va_P (gDD P) vwCl (gw P u) t.heap) (gA P)) args s cells slots (gA P)) (F0 m pc ls [.int v]) :=
  W.iret E.1 E.2.1 E.2.2.1 (fun t ht _ => ⟨⟨v, G, rfl, hX, by show va_P _ _ _ t.heap; rw [ht]; exact h.1⟩, h.2.F ht⟩) h.2.2.2 hdg E.2.2.2.2.2.2.1
theorem g_zret {X : Int32 × Mem} {v : Int32} (E : gE p s m args meth c P own cc nL (some .boolean)) (h : gH P s G H locs) (hX : X = (v, G)) (hz : isB v) (hdg : decode cc pc = .ok (.ireturn, 1)) : W p l e R s m args below meth c H locs cells slots (MQ below (va_Qi (fun (r : Int32) (u : Mem) => X = (r, u) ∧ isB r) (fun u t => va_P (gDD P) vwCl (gw P u) t.heap) (gA P)) args s cells slots (gA P)) (F0 m pc ls [.int v]) :=
  W.zret E.1 E.2.1 E.2.2.1 hz.1 (fun t ht _ => ⟨⟨v, G, rfl, ⟨hX, hz⟩, by show va_P _ _ _ t.heap; rw [ht]; exact h.1⟩, h.2.F ht⟩) h.2.2.2 hdg E.2.2.2.2.2.2.1
theorem g_riret {X : Int32} {v : Int32} (E : gE p s m args meth c P own cc nL (some .int)) (h : gH P s G H locs) (hX : X = v) (hdg : decode cc pc = .ok (.ireturn, 1)) : W p l e R s m args below meth c H locs cells slots (MQ below (va_Qi (fun (r : Int32) (u : Mem) => (X, G) = (r, u)) (fun u t => va_P (gDD P) vwCl (gw P u) t.heap) (gA P)) args s cells slots (gA P)) (F0 m pc ls [.int v]) := g_iret E h (by rw [hX]) hdg
theorem g_rzret {X : Int32} {v : Int32} (E : gE p s m args meth c P own cc nL (some .boolean)) (h : gH P s G H locs) (hX : X = v) (hz : isB v) (hdg : decode cc pc = .ok (.ireturn, 1)) : W p l e R s m args below meth c H locs cells slots (MQ below (va_Qi (fun (r : Int32) (u : Mem) => (X, G) = (r, u) ∧ isB r) (fun u t => va_P (gDD P) vwCl (gw P u) t.heap) (gA P)) args s cells slots (gA P)) (F0 m pc ls [.int v]) := g_zret E h (by rw [hX]) hz hdg
end GR
abbrev b_A_init : ByteArray := prog_2_method_1_code
def y_A_init : MethodName := ⟨"FramedLine$Arrivals", "<init>", "()V"⟩
abbrev b_A_change : ByteArray := prog_2_method_2_code
def y_A_change : MethodName := ⟨"FramedLine$Arrivals", "change", "(II)Z"⟩
abbrev b_A_doubleNext : ByteArray := prog_2_method_3_code
def y_A_doubleNext : MethodName := ⟨"FramedLine$Arrivals", "doubleNext", "()Z"⟩
abbrev b_A_asItComes : ByteArray := prog_2_method_4_code
def y_A_asItComes : MethodName := ⟨"FramedLine$Arrivals", "asItComes", "(II)I"⟩
abbrev b_A_comings : ByteArray := prog_2_method_5_code
def y_A_comings : MethodName := ⟨"FramedLine$Arrivals", "comings", "()I"⟩
abbrev b_A_placeOf : ByteArray := prog_2_method_6_code
def y_A_placeOf : MethodName := ⟨"FramedLine$Arrivals", "placeOf", "(I)I"⟩
abbrev b_D_init : ByteArray := prog_3_method_1_code
def y_D_init : MethodName := ⟨"FramedLine$Decoder", "<init>", "()V"⟩
abbrev b_D_bitBehind : ByteArray := prog_3_method_2_code
def y_D_bitBehind : MethodName := ⟨"FramedLine$Decoder", "bitBehind", "(I)I"⟩
abbrev b_D_takeZero : ByteArray := prog_3_method_3_code
def y_D_takeZero : MethodName := ⟨"FramedLine$Decoder", "takeZero", "()V"⟩
abbrev b_D_takePulse : ByteArray := prog_3_method_4_code
def y_D_takePulse : MethodName := ⟨"FramedLine$Decoder", "takePulse", "(I)V"⟩
abbrev b_D_takeV : ByteArray := prog_3_method_5_code
def y_D_takeV : MethodName := ⟨"FramedLine$Decoder", "takeV", "(I)V"⟩
abbrev b_E_init : ByteArray := prog_4_method_1_code
def y_E_init : MethodName := ⟨"FramedLine$Encoder", "<init>", "()V"⟩
abbrev b_E_symbolBehind : ByteArray := prog_4_method_2_code
def y_E_symbolBehind : MethodName := ⟨"FramedLine$Encoder", "symbolBehind", "(I)I"⟩
abbrev b_E_pulseOfOne : ByteArray := prog_4_method_3_code
def y_E_pulseOfOne : MethodName := ⟨"FramedLine$Encoder", "pulseOfOne", "()I"⟩
abbrev b_E_symbolOfZero : ByteArray := prog_4_method_4_code
def y_E_symbolOfZero : MethodName := ⟨"FramedLine$Encoder", "symbolOfZero", "()I"⟩
abbrev b_N_init : ByteArray := prog_5_method_1_code
def y_N_init : MethodName := ⟨"FramedLine$End", "<init>", "()V"⟩
abbrev b_N_send : ByteArray := prog_5_method_2_code
def y_N_send : MethodName := ⟨"FramedLine$End", "send", "()I"⟩
abbrev b_N_receive : ByteArray := prog_5_method_3_code
def y_N_receive : MethodName := ⟨"FramedLine$End", "receive", "(II)V"⟩
abbrev b_R_init : ByteArray := prog_6_method_1_code
def y_R_init : MethodName := ⟨"FramedLine$Receiver", "<init>", "()V"⟩
abbrev b_R_isAligned : ByteArray := prog_6_method_2_code
def y_R_isAligned : MethodName := ⟨"FramedLine$Receiver", "isAligned", "()Z"⟩
abbrev b_R_byteOf : ByteArray := prog_6_method_3_code
def y_R_byteOf : MethodName := ⟨"FramedLine$Receiver", "byteOf", "(I)I"⟩
abbrev b_R_takeBit : ByteArray := prog_6_method_4_code
def y_R_takeBit : MethodName := ⟨"FramedLine$Receiver", "takeBit", "(I)V"⟩
abbrev b_R_search : ByteArray := prog_6_method_5_code
def y_R_search : MethodName := ⟨"FramedLine$Receiver", "search", "()V"⟩
abbrev b_R_tryWord : ByteArray := prog_6_method_6_code
def y_R_tryWord : MethodName := ⟨"FramedLine$Receiver", "tryWord", "(I)V"⟩
abbrev b_R_align : ByteArray := prog_6_method_7_code
def y_R_align : MethodName := ⟨"FramedLine$Receiver", "align", "()V"⟩
abbrev b_R_lookAtWord : ByteArray := prog_6_method_8_code
def y_R_lookAtWord : MethodName := ⟨"FramedLine$Receiver", "lookAtWord", "()V"⟩
abbrev b_R_complete : ByteArray := prog_6_method_9_code
def y_R_complete : MethodName := ⟨"FramedLine$Receiver", "complete", "()V"⟩
abbrev b_R_wordStands : ByteArray := prog_6_method_10_code
def y_R_wordStands : MethodName := ⟨"FramedLine$Receiver", "wordStands", "()Z"⟩
abbrev b_R_enter : ByteArray := prog_6_method_11_code
def y_R_enter : MethodName := ⟨"FramedLine$Receiver", "enter", "(LFramedLine$State;)V"⟩
abbrev b_O_init : ByteArray := prog_7_method_1_code
def y_O_init : MethodName := ⟨"FramedLine$Rounds", "<init>", "()V"⟩
abbrev b_O_startAnew : ByteArray := prog_7_method_2_code
def y_O_startAnew : MethodName := ⟨"FramedLine$Rounds", "startAnew", "()V"⟩
abbrev b_O_takeFrame : ByteArray := prog_7_method_3_code
def y_O_takeFrame : MethodName := ⟨"FramedLine$Rounds", "takeFrame", "(IZ)V"⟩
abbrev b_O_findNumber : ByteArray := prog_7_method_4_code
def y_O_findNumber : MethodName := ⟨"FramedLine$Rounds", "findNumber", "(Z)V"⟩
abbrev b_O_judgeRoundWord : ByteArray := prog_7_method_5_code
def y_O_judgeRoundWord : MethodName := ⟨"FramedLine$Rounds", "judgeRoundWord", "()V"⟩
abbrev b_O_endHalf : ByteArray := prog_7_method_6_code
def y_O_endHalf : MethodName := ⟨"FramedLine$Rounds", "endHalf", "()V"⟩
abbrev b_O_judgeHalfBefore : ByteArray := prog_7_method_7_code
def y_O_judgeHalfBefore : MethodName := ⟨"FramedLine$Rounds", "judgeHalfBefore", "()V"⟩
abbrev b_O_forgetNumber : ByteArray := prog_7_method_8_code
def y_O_forgetNumber : MethodName := ⟨"FramedLine$Rounds", "forgetNumber", "()V"⟩
abbrev b_S_init : ByteArray := prog_8_method_1_code
def y_S_init : MethodName := ⟨"FramedLine$Sender", "<init>", "()V"⟩
abbrev b_S_exchange : ByteArray := prog_8_method_2_code
def y_S_exchange : MethodName := ⟨"FramedLine$Sender", "exchange", "(II)I"⟩
abbrev b_S_isBetweenFrames : ByteArray := prog_8_method_3_code
def y_S_isBetweenFrames : MethodName := ⟨"FramedLine$Sender", "isBetweenFrames", "()Z"⟩
abbrev b_S_beginFrame : ByteArray := prog_8_method_4_code
def y_S_beginFrame : MethodName := ⟨"FramedLine$Sender", "beginFrame", "(LFramedLine$Receiver;)V"⟩
abbrev b_S_nextBit : ByteArray := prog_8_method_5_code
def y_S_nextBit : MethodName := ⟨"FramedLine$Sender", "nextBit", "()I"⟩
abbrev b_S_evenSlotZero : ByteArray := prog_8_method_6_code
def y_S_evenSlotZero : MethodName := ⟨"FramedLine$Sender", "evenSlotZero", "()I"⟩
abbrev b_S_oddSlotZero : ByteArray := prog_8_method_7_code
def y_S_oddSlotZero : MethodName := ⟨"FramedLine$Sender", "oddSlotZero", "(LFramedLine$Receiver;)I"⟩
abbrev b_S_firstBitOfOdd : ByteArray := prog_8_method_8_code
def y_S_firstBitOfOdd : MethodName := ⟨"FramedLine$Sender", "firstBitOfOdd", "(LFramedLine$Rounds;)I"⟩
abbrev b_F_init : ByteArray := prog_1_method_1_code
def y_F_init : MethodName := ⟨"FramedLine", "<init>", "()V"⟩
abbrev b_F_load : ByteArray := prog_1_method_2_code
def y_F_load : MethodName := ⟨"FramedLine", "load", "(III)I"⟩
abbrev b_F_disturb : ByteArray := prog_1_method_3_code
def y_F_disturb : MethodName := ⟨"FramedLine", "disturb", "(III)I"⟩
abbrev b_F_slip : ByteArray := prog_1_method_4_code
def y_F_slip : MethodName := ⟨"FramedLine", "slip", "(I)Z"⟩
abbrev b_F_pass : ByteArray := prog_1_method_5_code
def y_F_pass : MethodName := ⟨"FramedLine", "pass", "(I)I"⟩
abbrev b_F_symbol : ByteArray := prog_1_method_6_code
def y_F_symbol : MethodName := ⟨"FramedLine", "symbol", "(I)I"⟩
abbrev b_F_aligned : ByteArray := prog_1_method_7_code
def y_F_aligned : MethodName := ⟨"FramedLine", "aligned", "(I)Z"⟩
abbrev b_F_frame : ByteArray := prog_1_method_8_code
def y_F_frame : MethodName := ⟨"FramedLine", "frame", "(I)I"⟩
abbrev b_F_slot : ByteArray := prog_1_method_9_code
def y_F_slot : MethodName := ⟨"FramedLine", "slot", "(II)I"⟩
abbrev b_F_alarm : ByteArray := prog_1_method_10_code
def y_F_alarm : MethodName := ⟨"FramedLine", "alarm", "(I)Z"⟩
abbrev b_F_count : ByteArray := prog_1_method_11_code
def y_F_count : MethodName := ⟨"FramedLine", "count", "(II)I"⟩
abbrev b_F_endOf : ByteArray := prog_1_method_12_code
def y_F_endOf : MethodName := ⟨"FramedLine", "endOf", "(I)LFramedLine$End;"⟩
abbrev b_F_require : ByteArray := prog_1_method_13_code
def y_F_require : MethodName := ⟨"FramedLine", "require", "(Z)V"⟩
abbrev b_F_checkOver : ByteArray := prog_1_method_14_code
def y_F_checkOver : MethodName := ⟨"FramedLine", "checkOver", "(II)I"⟩
abbrev b_F_endsHalf : ByteArray := prog_1_method_15_code
def y_F_endsHalf : MethodName := ⟨"FramedLine", "endsHalf", "(I)Z"⟩
abbrev b_L_load : ByteArray := method_3_code
def y_L_load : MethodName := ⟨"FramedLineLaw", "load", "(LFramedLine;III[J)I"⟩
abbrev b_L_disturb : ByteArray := method_4_code
def y_L_disturb : MethodName := ⟨"FramedLineLaw", "disturb", "(LFramedLine;III[J)I"⟩
abbrev b_L_slip : ByteArray := method_5_code
def y_L_slip : MethodName := ⟨"FramedLineLaw", "slip", "(LFramedLine;I[J)I"⟩
abbrev b_L_pass : ByteArray := method_6_code
def y_L_pass : MethodName := ⟨"FramedLineLaw", "pass", "(LFramedLine;I[J)I"⟩
abbrev b_L_symbol : ByteArray := method_7_code
def y_L_symbol : MethodName := ⟨"FramedLineLaw", "symbol", "(LFramedLine;I[J)I"⟩
abbrev b_L_aligned : ByteArray := method_8_code
def y_L_aligned : MethodName := ⟨"FramedLineLaw", "aligned", "(LFramedLine;I[J)I"⟩
abbrev b_L_frame : ByteArray := method_9_code
def y_L_frame : MethodName := ⟨"FramedLineLaw", "frame", "(LFramedLine;I[J)I"⟩
abbrev b_L_slot : ByteArray := method_10_code
def y_L_slot : MethodName := ⟨"FramedLineLaw", "slot", "(LFramedLine;II[J)I"⟩
abbrev b_L_alarm : ByteArray := method_11_code
def y_L_alarm : MethodName := ⟨"FramedLineLaw", "alarm", "(LFramedLine;I[J)I"⟩
abbrev b_L_count : ByteArray := method_12_code
def y_L_count : MethodName := ⟨"FramedLineLaw", "count", "(LFramedLine;II[J)I"⟩
abbrev b_L_law : ByteArray := code
abbrev b_M_init : ByteArray := prog_11_method_1_code
def y_M_init : MethodName := ⟨"FramedLineModel", "<init>", "()V"⟩
abbrev b_M_thrown : ByteArray := prog_11_method_2_code
def y_M_thrown : MethodName := ⟨"FramedLineModel", "thrown", "()I"⟩
abbrev b_M_within : ByteArray := prog_11_method_3_code
def y_M_within : MethodName := ⟨"FramedLineModel", "within", "(III)Z"⟩
abbrev b_M_isEnd : ByteArray := prog_11_method_4_code
def y_M_isEnd : MethodName := ⟨"FramedLineModel", "isEnd", "(I)Z"⟩
abbrev b_M_with : ByteArray := prog_11_method_5_code
def y_M_with : MethodName := ⟨"FramedLineModel", "with", "(II)I"⟩
abbrev b_M_mark : ByteArray := prog_11_method_6_code
def y_M_mark : MethodName := ⟨"FramedLineModel", "mark", "(II)I"⟩
abbrev b_M_beginFrame : ByteArray := prog_11_method_7_code
def y_M_beginFrame : MethodName := ⟨"FramedLineModel", "beginFrame", "(I)V"⟩
abbrev b_M_nextBit : ByteArray := prog_11_method_8_code
def y_M_nextBit : MethodName := ⟨"FramedLineModel", "nextBit", "(I)I"⟩
abbrev b_M_turned : ByteArray := prog_11_method_9_code
def y_M_turned : MethodName := ⟨"FramedLineModel", "turned", "(I)I"⟩
abbrev b_M_send : ByteArray := prog_11_method_10_code
def y_M_send : MethodName := ⟨"FramedLineModel", "send", "(I)I"⟩
abbrev b_M_said : ByteArray := prog_11_method_11_code
def y_M_said : MethodName := ⟨"FramedLineModel", "said", "(II)I"⟩
abbrev b_M_coming : ByteArray := prog_11_method_12_code
def y_M_coming : MethodName := ⟨"FramedLineModel", "coming", "(II)I"⟩
abbrev b_M_fault : ByteArray := prog_11_method_13_code
def y_M_fault : MethodName := ⟨"FramedLineModel", "fault", "(IZI)V"⟩
abbrev b_M_take : ByteArray := prog_11_method_14_code
def y_M_take : MethodName := ⟨"FramedLineModel", "take", "(II)V"⟩
abbrev b_M_search : ByteArray := prog_11_method_15_code
def y_M_search : MethodName := ⟨"FramedLineModel", "search", "(I)V"⟩
abbrev b_M_forget : ByteArray := prog_11_method_16_code
def y_M_forget : MethodName := ⟨"FramedLineModel", "forget", "(I)V"⟩
abbrev b_M_isWord : ByteArray := prog_11_method_17_code
def y_M_isWord : MethodName := ⟨"FramedLineModel", "isWord", "(I)Z"⟩
abbrev b_M_make : ByteArray := prog_11_method_18_code
def y_M_make : MethodName := ⟨"FramedLineModel", "make", "(II)V"⟩
abbrev b_M_frameBit : ByteArray := prog_11_method_19_code
def y_M_frameBit : MethodName := ⟨"FramedLineModel", "frameBit", "(I)V"⟩
abbrev b_M_complete : ByteArray := prog_11_method_20_code
def y_M_complete : MethodName := ⟨"FramedLineModel", "complete", "(I)V"⟩
abbrev b_M_halves : ByteArray := prog_11_method_21_code
def y_M_halves : MethodName := ⟨"FramedLineModel", "halves", "(III)V"⟩
abbrev b_M_load : ByteArray := prog_11_method_22_code
def y_M_load : MethodName := ⟨"FramedLineModel", "load", "(III)I"⟩
abbrev b_M_disturb : ByteArray := prog_11_method_23_code
def y_M_disturb : MethodName := ⟨"FramedLineModel", "disturb", "(III)I"⟩
abbrev b_M_slip : ByteArray := prog_11_method_24_code
def y_M_slip : MethodName := ⟨"FramedLineModel", "slip", "(I)Z"⟩
abbrev b_M_pass : ByteArray := prog_11_method_25_code
def y_M_pass : MethodName := ⟨"FramedLineModel", "pass", "(I)I"⟩
abbrev b_M_arrive : ByteArray := prog_11_method_26_code
def y_M_arrive : MethodName := ⟨"FramedLineModel", "arrive", "(II)V"⟩
abbrev b_M_symbol : ByteArray := prog_11_method_27_code
def y_M_symbol : MethodName := ⟨"FramedLineModel", "symbol", "(I)I"⟩
abbrev b_M_aligned : ByteArray := prog_11_method_28_code
def y_M_aligned : MethodName := ⟨"FramedLineModel", "aligned", "(I)Z"⟩
abbrev b_M_frame : ByteArray := prog_11_method_29_code
def y_M_frame : MethodName := ⟨"FramedLineModel", "frame", "(I)I"⟩
abbrev b_M_slot : ByteArray := prog_11_method_30_code
def y_M_slot : MethodName := ⟨"FramedLineModel", "slot", "(II)I"⟩
abbrev b_M_alarm : ByteArray := prog_11_method_31_code
def y_M_alarm : MethodName := ⟨"FramedLineModel", "alarm", "(I)Z"⟩
abbrev b_M_count : ByteArray := prog_11_method_32_code
def y_M_count : MethodName := ⟨"FramedLineModel", "count", "(II)I"⟩
theorem cl_A : gCl 0 "FramedLine$Arrivals" T_A 4 := ⟨rfl, by
  show ∀ w ∈ (List.range 4).map (u_lay "FramedLine$Arrivals" T_A), w ∈ GW
  intro w hw
  obtain ⟨k, hk, rfl⟩ := List.mem_map.mp hw
  have hk := List.mem_range.mp hk
  match k, hk with
  | 0, _ => exact GW_at 133 (by decide +kernel) (by decide +kernel)
  | 1, _ => exact GW_at 135 (by decide +kernel) (by decide +kernel)
  | 2, _ => exact GW_at 137 (by decide +kernel) (by decide +kernel)
  | 3, _ => exact GW_at 139 (by decide +kernel) (by decide +kernel)⟩
theorem ct_A : gCt "FramedLine$Arrivals" T_A 4 t_A := ⟨by decide +kernel, by decide +kernel⟩
theorem cl_D : gCl 1 "FramedLine$Decoder" T_D 7 := ⟨rfl, by
  show ∀ w ∈ (List.range 7).map (u_lay "FramedLine$Decoder" T_D), w ∈ GW
  intro w hw
  obtain ⟨k, hk, rfl⟩ := List.mem_map.mp hw
  have hk := List.mem_range.mp hk
  match k, hk with
  | 0, _ => exact GW_at 157 (by decide +kernel) (by decide +kernel)
  | 1, _ => exact GW_at 159 (by decide +kernel) (by decide +kernel)
  | 2, _ => exact GW_at 161 (by decide +kernel) (by decide +kernel)
  | 3, _ => exact GW_at 163 (by decide +kernel) (by decide +kernel)
  | 4, _ => exact GW_at 165 (by decide +kernel) (by decide +kernel)
  | 5, _ => exact GW_at 167 (by decide +kernel) (by decide +kernel)
  | 6, _ => exact GW_at 169 (by decide +kernel) (by decide +kernel)⟩
theorem ct_D : gCt "FramedLine$Decoder" T_D 7 t_D := ⟨by decide +kernel, by decide +kernel⟩
theorem cl_E : gCl 2 "FramedLine$Encoder" T_E 6 := ⟨rfl, by
  show ∀ w ∈ (List.range 6).map (u_lay "FramedLine$Encoder" T_E), w ∈ GW
  intro w hw
  obtain ⟨k, hk, rfl⟩ := List.mem_map.mp hw
  have hk := List.mem_range.mp hk
  match k, hk with
  | 0, _ => exact GW_at 109 (by decide +kernel) (by decide +kernel)
  | 1, _ => exact GW_at 111 (by decide +kernel) (by decide +kernel)
  | 2, _ => exact GW_at 113 (by decide +kernel) (by decide +kernel)
  | 3, _ => exact GW_at 115 (by decide +kernel) (by decide +kernel)
  | 4, _ => exact GW_at 117 (by decide +kernel) (by decide +kernel)
  | 5, _ => exact GW_at 119 (by decide +kernel) (by decide +kernel)⟩
theorem ct_E : gCt "FramedLine$Encoder" T_E 6 t_E := ⟨by decide +kernel, by decide +kernel⟩
theorem cl_N : gCl 3 "FramedLine$End" T_N 5 := ⟨rfl, by
  show ∀ w ∈ (List.range 5).map (u_lay "FramedLine$End" T_N), w ∈ GW
  intro w hw
  obtain ⟨k, hk, rfl⟩ := List.mem_map.mp hw
  have hk := List.mem_range.mp hk
  match k, hk with
  | 0, _ => exact GW_at 276 (by decide +kernel) (by decide +kernel)
  | 1, _ => exact GW_at 278 (by decide +kernel) (by decide +kernel)
  | 2, _ => exact GW_at 280 (by decide +kernel) (by decide +kernel)
  | 3, _ => exact GW_at 282 (by decide +kernel) (by decide +kernel)
  | 4, _ => exact GW_at 284 (by decide +kernel) (by decide +kernel)⟩
theorem ct_N : gCt "FramedLine$End" T_N 5 t_N := ⟨by decide +kernel, by decide +kernel⟩
theorem cl_R : gCl 4 "FramedLine$Receiver" T_R 10 := ⟨rfl, by
  show ∀ w ∈ (List.range 10).map (u_lay "FramedLine$Receiver" T_R), w ∈ GW
  intro w hw
  obtain ⟨k, hk, rfl⟩ := List.mem_map.mp hw
  have hk := List.mem_range.mp hk
  match k, hk with
  | 0, _ => exact GW_at 246 (by decide +kernel) (by decide +kernel)
  | 1, _ => exact GW_at 248 (by decide +kernel) (by decide +kernel)
  | 2, _ => exact GW_at 250 (by decide +kernel) (by decide +kernel)
  | 3, _ => exact GW_at 252 (by decide +kernel) (by decide +kernel)
  | 4, _ => exact GW_at 254 (by decide +kernel) (by decide +kernel)
  | 5, _ => exact GW_at 256 (by decide +kernel) (by decide +kernel)
  | 6, _ => exact GW_at 258 (by decide +kernel) (by decide +kernel)
  | 7, _ => exact GW_at 260 (by decide +kernel) (by decide +kernel)
  | 8, _ => exact GW_at 262 (by decide +kernel) (by decide +kernel)
  | 9, _ => exact GW_at 264 (by decide +kernel) (by decide +kernel)⟩
theorem ct_R : gCt "FramedLine$Receiver" T_R 10 t_R := ⟨by decide +kernel, by decide +kernel⟩
theorem cl_O : gCl 5 "FramedLine$Rounds" T_O 13 := ⟨rfl, by
  show ∀ w ∈ (List.range 13).map (u_lay "FramedLine$Rounds" T_O), w ∈ GW
  intro w hw
  obtain ⟨k, hk, rfl⟩ := List.mem_map.mp hw
  have hk := List.mem_range.mp hk
  match k, hk with
  | 0, _ => exact GW_at 202 (by decide +kernel) (by decide +kernel)
  | 1, _ => exact GW_at 204 (by decide +kernel) (by decide +kernel)
  | 2, _ => exact GW_at 206 (by decide +kernel) (by decide +kernel)
  | 3, _ => exact GW_at 208 (by decide +kernel) (by decide +kernel)
  | 4, _ => exact GW_at 210 (by decide +kernel) (by decide +kernel)
  | 5, _ => exact GW_at 212 (by decide +kernel) (by decide +kernel)
  | 6, _ => exact GW_at 214 (by decide +kernel) (by decide +kernel)
  | 7, _ => exact GW_at 216 (by decide +kernel) (by decide +kernel)
  | 8, _ => exact GW_at 218 (by decide +kernel) (by decide +kernel)
  | 9, _ => exact GW_at 220 (by decide +kernel) (by decide +kernel)
  | 10, _ => exact GW_at 222 (by decide +kernel) (by decide +kernel)
  | 11, _ => exact GW_at 224 (by decide +kernel) (by decide +kernel)
  | 12, _ => exact GW_at 226 (by decide +kernel) (by decide +kernel)⟩
theorem ct_O : gCt "FramedLine$Rounds" T_O 13 t_O := ⟨by decide +kernel, by decide +kernel⟩
theorem cl_S : gCl 6 "FramedLine$Sender" T_S 6 := ⟨rfl, by
  show ∀ w ∈ (List.range 6).map (u_lay "FramedLine$Sender" T_S), w ∈ GW
  intro w hw
  obtain ⟨k, hk, rfl⟩ := List.mem_map.mp hw
  have hk := List.mem_range.mp hk
  match k, hk with
  | 0, _ => exact GW_at 83 (by decide +kernel) (by decide +kernel)
  | 1, _ => exact GW_at 85 (by decide +kernel) (by decide +kernel)
  | 2, _ => exact GW_at 87 (by decide +kernel) (by decide +kernel)
  | 3, _ => exact GW_at 89 (by decide +kernel) (by decide +kernel)
  | 4, _ => exact GW_at 91 (by decide +kernel) (by decide +kernel)
  | 5, _ => exact GW_at 93 (by decide +kernel) (by decide +kernel)⟩
theorem ct_S : gCt "FramedLine$Sender" T_S 6 t_S := ⟨by decide +kernel, by decide +kernel⟩
theorem cl_F : gCl 7 "FramedLine" T_F 3 := ⟨rfl, by
  show ∀ w ∈ (List.range 3).map (u_lay "FramedLine" T_F), w ∈ GW
  intro w hw
  obtain ⟨k, hk, rfl⟩ := List.mem_map.mp hw
  have hk := List.mem_range.mp hk
  match k, hk with
  | 0, _ => exact GW_at 290 (by decide +kernel) (by decide +kernel)
  | 1, _ => exact GW_at 292 (by decide +kernel) (by decide +kernel)
  | 2, _ => exact GW_at 294 (by decide +kernel) (by decide +kernel)⟩
theorem ct_F : gCt "FramedLine" T_F 3 t_F := ⟨by decide +kernel, by decide +kernel⟩
theorem cl_M : gCl 8 "FramedLineModel" T_M 44 := ⟨rfl, by
  show ∀ w ∈ (List.range 44).map (u_lay "FramedLineModel" T_M), w ∈ GW
  intro w hw
  obtain ⟨k, hk, rfl⟩ := List.mem_map.mp hw
  have hk := List.mem_range.mp hk
  match k, hk with
  | 0, _ => exact GW_at 678 (by decide +kernel) (by decide +kernel)
  | 1, _ => exact GW_at 680 (by decide +kernel) (by decide +kernel)
  | 2, _ => exact GW_at 682 (by decide +kernel) (by decide +kernel)
  | 3, _ => exact GW_at 684 (by decide +kernel) (by decide +kernel)
  | 4, _ => exact GW_at 686 (by decide +kernel) (by decide +kernel)
  | 5, _ => exact GW_at 688 (by decide +kernel) (by decide +kernel)
  | 6, _ => exact GW_at 690 (by decide +kernel) (by decide +kernel)
  | 7, _ => exact GW_at 692 (by decide +kernel) (by decide +kernel)
  | 8, _ => exact GW_at 694 (by decide +kernel) (by decide +kernel)
  | 9, _ => exact GW_at 696 (by decide +kernel) (by decide +kernel)
  | 10, _ => exact GW_at 698 (by decide +kernel) (by decide +kernel)
  | 11, _ => exact GW_at 700 (by decide +kernel) (by decide +kernel)
  | 12, _ => exact GW_at 702 (by decide +kernel) (by decide +kernel)
  | 13, _ => exact GW_at 704 (by decide +kernel) (by decide +kernel)
  | 14, _ => exact GW_at 706 (by decide +kernel) (by decide +kernel)
  | 15, _ => exact GW_at 708 (by decide +kernel) (by decide +kernel)
  | 16, _ => exact GW_at 710 (by decide +kernel) (by decide +kernel)
  | 17, _ => exact GW_at 712 (by decide +kernel) (by decide +kernel)
  | 18, _ => exact GW_at 714 (by decide +kernel) (by decide +kernel)
  | 19, _ => exact GW_at 716 (by decide +kernel) (by decide +kernel)
  | 20, _ => exact GW_at 718 (by decide +kernel) (by decide +kernel)
  | 21, _ => exact GW_at 720 (by decide +kernel) (by decide +kernel)
  | 22, _ => exact GW_at 722 (by decide +kernel) (by decide +kernel)
  | 23, _ => exact GW_at 724 (by decide +kernel) (by decide +kernel)
  | 24, _ => exact GW_at 726 (by decide +kernel) (by decide +kernel)
  | 25, _ => exact GW_at 728 (by decide +kernel) (by decide +kernel)
  | 26, _ => exact GW_at 730 (by decide +kernel) (by decide +kernel)
  | 27, _ => exact GW_at 732 (by decide +kernel) (by decide +kernel)
  | 28, _ => exact GW_at 734 (by decide +kernel) (by decide +kernel)
  | 29, _ => exact GW_at 736 (by decide +kernel) (by decide +kernel)
  | 30, _ => exact GW_at 738 (by decide +kernel) (by decide +kernel)
  | 31, _ => exact GW_at 740 (by decide +kernel) (by decide +kernel)
  | 32, _ => exact GW_at 742 (by decide +kernel) (by decide +kernel)
  | 33, _ => exact GW_at 744 (by decide +kernel) (by decide +kernel)
  | 34, _ => exact GW_at 746 (by decide +kernel) (by decide +kernel)
  | 35, _ => exact GW_at 748 (by decide +kernel) (by decide +kernel)
  | 36, _ => exact GW_at 750 (by decide +kernel) (by decide +kernel)
  | 37, _ => exact GW_at 752 (by decide +kernel) (by decide +kernel)
  | 38, _ => exact GW_at 754 (by decide +kernel) (by decide +kernel)
  | 39, _ => exact GW_at 756 (by decide +kernel) (by decide +kernel)
  | 40, _ => exact GW_at 758 (by decide +kernel) (by decide +kernel)
  | 41, _ => exact GW_at 760 (by decide +kernel) (by decide +kernel)
  | 42, _ => exact GW_at 762 (by decide +kernel) (by decide +kernel)
  | 43, _ => exact GW_at 764 (by decide +kernel) (by decide +kernel)
  | j + 44, h => exact absurd h (by omega)⟩
theorem ct_M : gCt "FramedLineModel" T_M 44 t_M := ⟨by decide +kernel, by decide +kernel⟩
end
section
theorem lc_O_59 : Cond.constant "FramedLine$Rounds" 59 2147483647 ∈ GW := GW_at 556 (by decide +kernel) (by decide +kernel)
theorem lc_S_39 : Cond.constant "FramedLine$Sender" 39 2147483647 ∈ GW := GW_at 463 (by decide +kernel) (by decide +kernel)
theorem lf_A_22 : Cond.fieldLink "FramedLine$Arrivals" 22 "FramedLine$Arrivals" "slipping" "Z" ∈ GW := GW_at 132 (by decide +kernel) (by decide +kernel)
theorem lf_D_15 : Cond.fieldLink "FramedLine$Decoder" 15 "FramedLine$Decoder" "latestPulse" "I" ∈ GW := GW_at 150 (by decide +kernel) (by decide +kernel)
theorem lf_D_18 : Cond.fieldLink "FramedLine$Decoder" 18 "FramedLine$Decoder" "latestV" "I" ∈ GW := GW_at 151 (by decide +kernel) (by decide +kernel)
theorem lf_D_21 : Cond.fieldLink "FramedLine$Decoder" 21 "FramedLine$Decoder" "zeros" "I" ∈ GW := GW_at 152 (by decide +kernel) (by decide +kernel)
theorem lf_D_24 : Cond.fieldLink "FramedLine$Decoder" 24 "FramedLine$Decoder" "latestBits" "I" ∈ GW := GW_at 153 (by decide +kernel) (by decide +kernel)
theorem lf_D_27 : Cond.fieldLink "FramedLine$Decoder" 27 "FramedLine$Decoder" "symbolsAhead" "I" ∈ GW := GW_at 154 (by decide +kernel) (by decide +kernel)
theorem lf_D_30 : Cond.fieldLink "FramedLine$Decoder" 30 "FramedLine$Decoder" "faults" "I" ∈ GW := GW_at 155 (by decide +kernel) (by decide +kernel)
theorem lf_D_9 : Cond.fieldLink "FramedLine$Decoder" 9 "FramedLine$Decoder" "latestSymbol" "I" ∈ GW := GW_at 148 (by decide +kernel) (by decide +kernel)
theorem lf_E_15 : Cond.fieldLink "FramedLine$Encoder" 15 "FramedLine$Encoder" "oddPulses" "Z" ∈ GW := GW_at 104 (by decide +kernel) (by decide +kernel)
theorem lf_E_19 : Cond.fieldLink "FramedLine$Encoder" 19 "FramedLine$Encoder" "zeros" "I" ∈ GW := GW_at 105 (by decide +kernel) (by decide +kernel)
theorem lf_E_22 : Cond.fieldLink "FramedLine$Encoder" 22 "FramedLine$Encoder" "threeBehind" "I" ∈ GW := GW_at 106 (by decide +kernel) (by decide +kernel)
theorem lf_E_25 : Cond.fieldLink "FramedLine$Encoder" 25 "FramedLine$Encoder" "twoBehind" "I" ∈ GW := GW_at 107 (by decide +kernel) (by decide +kernel)
theorem lf_E_28 : Cond.fieldLink "FramedLine$Encoder" 28 "FramedLine$Encoder" "oneBehind" "I" ∈ GW := GW_at 108 (by decide +kernel) (by decide +kernel)
theorem lf_E_9 : Cond.fieldLink "FramedLine$Encoder" 9 "FramedLine$Encoder" "latestPulse" "I" ∈ GW := GW_at 103 (by decide +kernel) (by decide +kernel)
theorem lf_N_12 : Cond.fieldLink "FramedLine$End" 12 "FramedLine$End" "sender" "LFramedLine$Sender;" ∈ GW := GW_at 267 (by decide +kernel) (by decide +kernel)
theorem lf_N_21 : Cond.fieldLink "FramedLine$End" 21 "FramedLine$End" "encoder" "LFramedLine$Encoder;" ∈ GW := GW_at 269 (by decide +kernel) (by decide +kernel)
theorem lf_N_42 : Cond.fieldLink "FramedLine$End" 42 "FramedLine$End" "receiver" "LFramedLine$Receiver;" ∈ GW := GW_at 274 (by decide +kernel) (by decide +kernel)
theorem lf_O_15 : Cond.fieldLink "FramedLine$Rounds" 15 "FramedLine$Rounds" "oddFrames" "I" ∈ GW := GW_at 186 (by decide +kernel) (by decide +kernel)
theorem lf_O_18 : Cond.fieldLink "FramedLine$Rounds" 18 "FramedLine$Rounds" "firstBitsOfOdd" "I" ∈ GW := GW_at 187 (by decide +kernel) (by decide +kernel)
theorem lf_O_21 : Cond.fieldLink "FramedLine$Rounds" 21 "FramedLine$Rounds" "wrongRounds" "I" ∈ GW := GW_at 188 (by decide +kernel) (by decide +kernel)
theorem lf_O_24 : Cond.fieldLink "FramedLine$Rounds" 24 "FramedLine$Rounds" "halfBegunKnown" "Z" ∈ GW := GW_at 189 (by decide +kernel) (by decide +kernel)
theorem lf_O_28 : Cond.fieldLink "FramedLine$Rounds" 28 "FramedLine$Rounds" "halfBeforeKnown" "Z" ∈ GW := GW_at 190 (by decide +kernel) (by decide +kernel)
theorem lf_O_31 : Cond.fieldLink "FramedLine$Rounds" 31 "FramedLine$Rounds" "check" "I" ∈ GW := GW_at 191 (by decide +kernel) (by decide +kernel)
theorem lf_O_34 : Cond.fieldLink "FramedLine$Rounds" 34 "FramedLine$Rounds" "checkOfHalfBefore" "I" ∈ GW := GW_at 192 (by decide +kernel) (by decide +kernel)
theorem lf_O_37 : Cond.fieldLink "FramedLine$Rounds" 37 "FramedLine$Rounds" "checkCome" "I" ∈ GW := GW_at 193 (by decide +kernel) (by decide +kernel)
theorem lf_O_40 : Cond.fieldLink "FramedLine$Rounds" 40 "FramedLine$Rounds" "firstHalfWrong" "Z" ∈ GW := GW_at 194 (by decide +kernel) (by decide +kernel)
theorem lf_O_43 : Cond.fieldLink "FramedLine$Rounds" 43 "FramedLine$Rounds" "secondHalfWrong" "Z" ∈ GW := GW_at 196 (by decide +kernel) (by decide +kernel)
theorem lf_O_46 : Cond.fieldLink "FramedLine$Rounds" 46 "FramedLine$Rounds" "wrongHalves" "I" ∈ GW := GW_at 198 (by decide +kernel) (by decide +kernel)
theorem lf_O_49 : Cond.fieldLink "FramedLine$Rounds" 49 "FramedLine$Rounds" "farFaults" "I" ∈ GW := GW_at 200 (by decide +kernel) (by decide +kernel)
theorem lf_O_9 : Cond.fieldLink "FramedLine$Rounds" 9 "FramedLine$Rounds" "number" "I" ∈ GW := GW_at 184 (by decide +kernel) (by decide +kernel)
theorem lf_R_12 : Cond.fieldLink "FramedLine$Receiver" 12 "FramedLine$Receiver" "rounds" "LFramedLine$Rounds;" ∈ GW := GW_at 231 (by decide +kernel) (by decide +kernel)
theorem lf_R_18 : Cond.fieldLink "FramedLine$Receiver" 18 "FramedLine$State" "SEARCHING" "LFramedLine$State;" ∈ GW := GW_at 229 (by decide +kernel) (by decide +kernel)
theorem lf_R_24 : Cond.fieldLink "FramedLine$Receiver" 24 "FramedLine$Receiver" "state" "LFramedLine$State;" ∈ GW := GW_at 234 (by decide +kernel) (by decide +kernel)
theorem lf_R_27 : Cond.fieldLink "FramedLine$Receiver" 27 "FramedLine$Receiver" "latestBits" "I" ∈ GW := GW_at 235 (by decide +kernel) (by decide +kernel)
theorem lf_R_31 : Cond.fieldLink "FramedLine$Receiver" 31 "FramedLine$Receiver" "bits" "I" ∈ GW := GW_at 236 (by decide +kernel) (by decide +kernel)
theorem lf_R_34 : Cond.fieldLink "FramedLine$Receiver" 34 "FramedLine$Receiver" "odd" "Z" ∈ GW := GW_at 237 (by decide +kernel) (by decide +kernel)
theorem lf_R_38 : Cond.fieldLink "FramedLine$Receiver" 38 "FramedLine$Receiver" "wrongWords" "I" ∈ GW := GW_at 238 (by decide +kernel) (by decide +kernel)
theorem lf_R_41 : Cond.fieldLink "FramedLine$Receiver" 41 "FramedLine$Receiver" "latestFrame" "I" ∈ GW := GW_at 239 (by decide +kernel) (by decide +kernel)
theorem lf_R_44 : Cond.fieldLink "FramedLine$Receiver" 44 "FramedLine$Receiver" "completeFrames" "I" ∈ GW := GW_at 240 (by decide +kernel) (by decide +kernel)
theorem lf_R_47 : Cond.fieldLink "FramedLine$Receiver" 47 "FramedLine$Receiver" "losses" "I" ∈ GW := GW_at 242 (by decide +kernel) (by decide +kernel)
theorem lf_R_50 : Cond.fieldLink "FramedLine$Receiver" 50 "FramedLine$Receiver" "alarmCame" "Z" ∈ GW := GW_at 244 (by decide +kernel) (by decide +kernel)
theorem lf_R_53 : Cond.fieldLink "FramedLine$Receiver" 53 "FramedLine$State" "ALIGNED" "LFramedLine$State;" ∈ GW := GW_at 453 (by decide +kernel) (by decide +kernel)
theorem lf_R_59 : Cond.fieldLink "FramedLine$Receiver" 59 "FramedLine$State" "TRYING" "LFramedLine$State;" ∈ GW := GW_at 526 (by decide +kernel) (by decide +kernel)
theorem lf_S_15 : Cond.fieldLink "FramedLine$Sender" 15 "FramedLine$Sender" "next" "I" ∈ GW := GW_at 78 (by decide +kernel) (by decide +kernel)
theorem lf_S_19 : Cond.fieldLink "FramedLine$Sender" 19 "FramedLine$Sender" "frameBits" "I" ∈ GW := GW_at 79 (by decide +kernel) (by decide +kernel)
theorem lf_S_22 : Cond.fieldLink "FramedLine$Sender" 22 "FramedLine$Sender" "bitsSent" "I" ∈ GW := GW_at 80 (by decide +kernel) (by decide +kernel)
theorem lf_S_25 : Cond.fieldLink "FramedLine$Sender" 25 "FramedLine$Sender" "check" "I" ∈ GW := GW_at 81 (by decide +kernel) (by decide +kernel)
theorem lf_S_28 : Cond.fieldLink "FramedLine$Sender" 28 "FramedLine$Sender" "checkOfHalfBefore" "I" ∈ GW := GW_at 82 (by decide +kernel) (by decide +kernel)
theorem lf_S_54 : Cond.fieldLinkNest "FramedLine$Sender" 54 "FramedLine$Receiver" "rounds" "LFramedLine$Rounds;" "FramedLine" ∈ NW := NW_at 232 (by decide +kernel) (by decide +kernel)
theorem lf_S_62 : Cond.fieldLinkNest "FramedLine$Sender" 62 "FramedLine$Rounds" "firstHalfWrong" "Z" "FramedLine" ∈ NW := NW_at 195 (by decide +kernel) (by decide +kernel)
theorem lf_S_68 : Cond.fieldLinkNest "FramedLine$Sender" 68 "FramedLine$Rounds" "secondHalfWrong" "Z" "FramedLine" ∈ NW := NW_at 197 (by decide +kernel) (by decide +kernel)
theorem lf_S_9 : Cond.fieldLink "FramedLine$Sender" 9 "FramedLine$Sender" "loaded" "[I" ∈ GW := GW_at 77 (by decide +kernel) (by decide +kernel)
theorem mc_D_takeZero : Cond.code y_D_takeZero b_D_takeZero 1 none ∈ GW ∧ Cond.initialized (y_D_takeZero).cls ∈ GW ∧ ((y_D_takeZero).cls ≠ "java/lang/invoke/MethodHandle" ∧ (y_D_takeZero).cls ≠ "java/lang/invoke/VarHandle" ∧ (parseMethodDescriptor (y_D_takeZero).desc).map (fun d => d.parameters.length) = some 0) := ⟨GW_at 505 (by decide +kernel) (by decide +kernel), GW_at 46 (by decide +kernel) (by decide +kernel), by decide +kernel⟩
theorem lm_D_33 : gLV "FramedLine$Decoder" "FramedLine$Decoder" 33 y_D_takeZero b_D_takeZero 1 none 0 := ⟨mc_D_takeZero, GW_at 502 (by decide +kernel) (by decide +kernel), GW_at 504 (by decide +kernel) (by decide +kernel), GW_at 8 (by decide +kernel) (by decide +kernel)⟩
theorem mc_D_takePulse : Cond.code y_D_takePulse b_D_takePulse 3 none ∈ GW ∧ Cond.initialized (y_D_takePulse).cls ∈ GW ∧ ((y_D_takePulse).cls ≠ "java/lang/invoke/MethodHandle" ∧ (y_D_takePulse).cls ≠ "java/lang/invoke/VarHandle" ∧ (parseMethodDescriptor (y_D_takePulse).desc).map (fun d => d.parameters.length) = some 1) := ⟨GW_at 509 (by decide +kernel) (by decide +kernel), GW_at 46 (by decide +kernel) (by decide +kernel), by decide +kernel⟩
theorem lm_D_36 : gLV "FramedLine$Decoder" "FramedLine$Decoder" 36 y_D_takePulse b_D_takePulse 3 none 1 := ⟨mc_D_takePulse, GW_at 506 (by decide +kernel) (by decide +kernel), GW_at 508 (by decide +kernel) (by decide +kernel), GW_at 9 (by decide +kernel) (by decide +kernel)⟩
theorem mc_D_takeV : Cond.code y_D_takeV b_D_takeV 2 none ∈ GW ∧ Cond.initialized (y_D_takeV).cls ∈ GW ∧ ((y_D_takeV).cls ≠ "java/lang/invoke/MethodHandle" ∧ (y_D_takeV).cls ≠ "java/lang/invoke/VarHandle" ∧ (parseMethodDescriptor (y_D_takeV).desc).map (fun d => d.parameters.length) = some 1) := ⟨GW_at 513 (by decide +kernel) (by decide +kernel), GW_at 46 (by decide +kernel) (by decide +kernel), by decide +kernel⟩
theorem lm_D_40 : gLV "FramedLine$Decoder" "FramedLine$Decoder" 40 y_D_takeV b_D_takeV 2 none 1 := ⟨mc_D_takeV, GW_at 510 (by decide +kernel) (by decide +kernel), GW_at 512 (by decide +kernel) (by decide +kernel), GW_at 10 (by decide +kernel) (by decide +kernel)⟩
theorem mc_E_pulseOfOne : Cond.code y_E_pulseOfOne b_E_pulseOfOne 1 (some .int) ∈ GW ∧ Cond.initialized (y_E_pulseOfOne).cls ∈ GW ∧ ((y_E_pulseOfOne).cls ≠ "java/lang/invoke/MethodHandle" ∧ (y_E_pulseOfOne).cls ≠ "java/lang/invoke/VarHandle" ∧ (parseMethodDescriptor (y_E_pulseOfOne).desc).map (fun d => d.parameters.length) = some 0) := ⟨GW_at 481 (by decide +kernel) (by decide +kernel), GW_at 44 (by decide +kernel) (by decide +kernel), by decide +kernel⟩
theorem lm_E_31 : gLV "FramedLine$Encoder" "FramedLine$Encoder" 31 y_E_pulseOfOne b_E_pulseOfOne 1 (some .int) 0 := ⟨mc_E_pulseOfOne, GW_at 478 (by decide +kernel) (by decide +kernel), GW_at 480 (by decide +kernel) (by decide +kernel), GW_at 6 (by decide +kernel) (by decide +kernel)⟩
theorem mc_E_symbolOfZero : Cond.code y_E_symbolOfZero b_E_symbolOfZero 1 (some .int) ∈ GW ∧ Cond.initialized (y_E_symbolOfZero).cls ∈ GW ∧ ((y_E_symbolOfZero).cls ≠ "java/lang/invoke/MethodHandle" ∧ (y_E_symbolOfZero).cls ≠ "java/lang/invoke/VarHandle" ∧ (parseMethodDescriptor (y_E_symbolOfZero).desc).map (fun d => d.parameters.length) = some 0) := ⟨GW_at 485 (by decide +kernel) (by decide +kernel), GW_at 44 (by decide +kernel) (by decide +kernel), by decide +kernel⟩
theorem lm_E_35 : gLV "FramedLine$Encoder" "FramedLine$Encoder" 35 y_E_symbolOfZero b_E_symbolOfZero 1 (some .int) 0 := ⟨mc_E_symbolOfZero, GW_at 482 (by decide +kernel) (by decide +kernel), GW_at 484 (by decide +kernel) (by decide +kernel), GW_at 7 (by decide +kernel) (by decide +kernel)⟩
theorem mc_S_isBetweenFrames : Cond.code y_S_isBetweenFrames b_S_isBetweenFrames 1 (some .boolean) ∈ GW ∧ Cond.initialized (y_S_isBetweenFrames).cls ∈ GW ∧ ((y_S_isBetweenFrames).cls ≠ "java/lang/invoke/MethodHandle" ∧ (y_S_isBetweenFrames).cls ≠ "java/lang/invoke/VarHandle" ∧ (parseMethodDescriptor (y_S_isBetweenFrames).desc).map (fun d => d.parameters.length) = some 0) := ⟨GW_at 440 (by decide +kernel) (by decide +kernel), GW_at 43 (by decide +kernel) (by decide +kernel), by decide +kernel⟩
theorem lm_N_46 : gLV "FramedLine$End" "FramedLine$Sender" 46 y_S_isBetweenFrames b_S_isBetweenFrames 1 (some .boolean) 0 := ⟨mc_S_isBetweenFrames, GW_at 437 (by decide +kernel) (by decide +kernel), GW_at 438 (by decide +kernel) (by decide +kernel), GW_at 439 (by decide +kernel) (by decide +kernel)⟩
theorem mc_S_beginFrame : Cond.code y_S_beginFrame b_S_beginFrame 4 none ∈ GW ∧ Cond.initialized (y_S_beginFrame).cls ∈ GW ∧ ((y_S_beginFrame).cls ≠ "java/lang/invoke/MethodHandle" ∧ (y_S_beginFrame).cls ≠ "java/lang/invoke/VarHandle" ∧ (parseMethodDescriptor (y_S_beginFrame).desc).map (fun d => d.parameters.length) = some 1) := ⟨GW_at 444 (by decide +kernel) (by decide +kernel), GW_at 43 (by decide +kernel) (by decide +kernel), by decide +kernel⟩
theorem lm_N_50 : gLV "FramedLine$End" "FramedLine$Sender" 50 y_S_beginFrame b_S_beginFrame 4 none 1 := ⟨mc_S_beginFrame, GW_at 441 (by decide +kernel) (by decide +kernel), GW_at 442 (by decide +kernel) (by decide +kernel), GW_at 443 (by decide +kernel) (by decide +kernel)⟩
theorem mc_S_nextBit : Cond.code y_S_nextBit b_S_nextBit 1 (some .int) ∈ GW ∧ Cond.initialized (y_S_nextBit).cls ∈ GW ∧ ((y_S_nextBit).cls ≠ "java/lang/invoke/MethodHandle" ∧ (y_S_nextBit).cls ≠ "java/lang/invoke/VarHandle" ∧ (parseMethodDescriptor (y_S_nextBit).desc).map (fun d => d.parameters.length) = some 0) := ⟨GW_at 473 (by decide +kernel) (by decide +kernel), GW_at 43 (by decide +kernel) (by decide +kernel), by decide +kernel⟩
theorem lm_N_54 : gLV "FramedLine$End" "FramedLine$Sender" 54 y_S_nextBit b_S_nextBit 1 (some .int) 0 := ⟨mc_S_nextBit, GW_at 470 (by decide +kernel) (by decide +kernel), GW_at 471 (by decide +kernel) (by decide +kernel), GW_at 472 (by decide +kernel) (by decide +kernel)⟩
theorem mc_E_symbolBehind : Cond.code y_E_symbolBehind b_E_symbolBehind 4 (some .int) ∈ GW ∧ Cond.initialized (y_E_symbolBehind).cls ∈ GW ∧ ((y_E_symbolBehind).cls ≠ "java/lang/invoke/MethodHandle" ∧ (y_E_symbolBehind).cls ≠ "java/lang/invoke/VarHandle" ∧ (parseMethodDescriptor (y_E_symbolBehind).desc).map (fun d => d.parameters.length) = some 1) := ⟨GW_at 477 (by decide +kernel) (by decide +kernel), GW_at 44 (by decide +kernel) (by decide +kernel), by decide +kernel⟩
theorem lm_N_58 : gLV "FramedLine$End" "FramedLine$Encoder" 58 y_E_symbolBehind b_E_symbolBehind 4 (some .int) 1 := ⟨mc_E_symbolBehind, GW_at 474 (by decide +kernel) (by decide +kernel), GW_at 475 (by decide +kernel) (by decide +kernel), GW_at 476 (by decide +kernel) (by decide +kernel)⟩
theorem mc_O_forgetNumber : Cond.code y_O_forgetNumber b_O_forgetNumber 1 none ∈ GW ∧ Cond.initialized (y_O_forgetNumber).cls ∈ GW ∧ ((y_O_forgetNumber).cls ≠ "java/lang/invoke/MethodHandle" ∧ (y_O_forgetNumber).cls ≠ "java/lang/invoke/VarHandle" ∧ (parseMethodDescriptor (y_O_forgetNumber).desc).map (fun d => d.parameters.length) = some 0) := ⟨GW_at 565 (by decide +kernel) (by decide +kernel), GW_at 48 (by decide +kernel) (by decide +kernel), by decide +kernel⟩
theorem lm_O_52 : gLV "FramedLine$Rounds" "FramedLine$Rounds" 52 y_O_forgetNumber b_O_forgetNumber 1 none 0 := ⟨mc_O_forgetNumber, GW_at 562 (by decide +kernel) (by decide +kernel), GW_at 564 (by decide +kernel) (by decide +kernel), GW_at 19 (by decide +kernel) (by decide +kernel)⟩
theorem mc_O_findNumber : Cond.code y_O_findNumber b_O_findNumber 2 none ∈ GW ∧ Cond.initialized (y_O_findNumber).cls ∈ GW ∧ ((y_O_findNumber).cls ≠ "java/lang/invoke/MethodHandle" ∧ (y_O_findNumber).cls ≠ "java/lang/invoke/VarHandle" ∧ (parseMethodDescriptor (y_O_findNumber).desc).map (fun d => d.parameters.length) = some 1) := ⟨GW_at 555 (by decide +kernel) (by decide +kernel), GW_at 48 (by decide +kernel) (by decide +kernel), by decide +kernel⟩
theorem lm_O_55 : gLV "FramedLine$Rounds" "FramedLine$Rounds" 55 y_O_findNumber b_O_findNumber 2 none 1 := ⟨mc_O_findNumber, GW_at 552 (by decide +kernel) (by decide +kernel), GW_at 554 (by decide +kernel) (by decide +kernel), GW_at 17 (by decide +kernel) (by decide +kernel)⟩
theorem mc_F_checkOver : Cond.code y_F_checkOver b_F_checkOver 5 (some .int) ∈ GW ∧ Cond.initialized (y_F_checkOver).cls ∈ GW ∧ ((y_F_checkOver).cls ≠ "java/lang/invoke/MethodHandle" ∧ (y_F_checkOver).cls ≠ "java/lang/invoke/VarHandle" ∧ (parseMethodDescriptor (y_F_checkOver).desc).map (fun d => d.parameters.length) = some 2) := ⟨GW_at 466 (by decide +kernel) (by decide +kernel), GW_at 41 (by decide +kernel) (by decide +kernel), by decide +kernel⟩
theorem lm_O_60 : gLSN "FramedLine$Rounds" "FramedLine" 60 y_F_checkOver b_F_checkOver 5 (some .int) 2 := ⟨mc_F_checkOver, NW_at 557 (by decide +kernel) (by decide +kernel), GW_at 465 (by decide +kernel) (by decide +kernel)⟩
theorem mc_O_judgeRoundWord : Cond.code y_O_judgeRoundWord b_O_judgeRoundWord 1 none ∈ GW ∧ Cond.initialized (y_O_judgeRoundWord).cls ∈ GW ∧ ((y_O_judgeRoundWord).cls ≠ "java/lang/invoke/MethodHandle" ∧ (y_O_judgeRoundWord).cls ≠ "java/lang/invoke/VarHandle" ∧ (parseMethodDescriptor (y_O_judgeRoundWord).desc).map (fun d => d.parameters.length) = some 0) := ⟨GW_at 561 (by decide +kernel) (by decide +kernel), GW_at 48 (by decide +kernel) (by decide +kernel), by decide +kernel⟩
theorem lm_O_64 : gLV "FramedLine$Rounds" "FramedLine$Rounds" 64 y_O_judgeRoundWord b_O_judgeRoundWord 1 none 0 := ⟨mc_O_judgeRoundWord, GW_at 558 (by decide +kernel) (by decide +kernel), GW_at 560 (by decide +kernel) (by decide +kernel), GW_at 18 (by decide +kernel) (by decide +kernel)⟩
theorem mc_F_endsHalf : Cond.code y_F_endsHalf b_F_endsHalf 1 (some .boolean) ∈ GW ∧ Cond.initialized (y_F_endsHalf).cls ∈ GW ∧ ((y_F_endsHalf).cls ≠ "java/lang/invoke/MethodHandle" ∧ (y_F_endsHalf).cls ≠ "java/lang/invoke/VarHandle" ∧ (parseMethodDescriptor (y_F_endsHalf).desc).map (fun d => d.parameters.length) = some 1) := ⟨GW_at 469 (by decide +kernel) (by decide +kernel), GW_at 41 (by decide +kernel) (by decide +kernel), by decide +kernel⟩
theorem lm_O_67 : gLSN "FramedLine$Rounds" "FramedLine" 67 y_F_endsHalf b_F_endsHalf 1 (some .boolean) 1 := ⟨mc_F_endsHalf, NW_at 566 (by decide +kernel) (by decide +kernel), GW_at 468 (by decide +kernel) (by decide +kernel)⟩
theorem mc_O_endHalf : Cond.code y_O_endHalf b_O_endHalf 1 none ∈ GW ∧ Cond.initialized (y_O_endHalf).cls ∈ GW ∧ ((y_O_endHalf).cls ≠ "java/lang/invoke/MethodHandle" ∧ (y_O_endHalf).cls ≠ "java/lang/invoke/VarHandle" ∧ (parseMethodDescriptor (y_O_endHalf).desc).map (fun d => d.parameters.length) = some 0) := ⟨GW_at 570 (by decide +kernel) (by decide +kernel), GW_at 48 (by decide +kernel) (by decide +kernel), by decide +kernel⟩
theorem lm_O_71 : gLV "FramedLine$Rounds" "FramedLine$Rounds" 71 y_O_endHalf b_O_endHalf 1 none 0 := ⟨mc_O_endHalf, GW_at 567 (by decide +kernel) (by decide +kernel), GW_at 569 (by decide +kernel) (by decide +kernel), GW_at 20 (by decide +kernel) (by decide +kernel)⟩
theorem mc_O_judgeHalfBefore : Cond.code y_O_judgeHalfBefore b_O_judgeHalfBefore 2 none ∈ GW ∧ Cond.initialized (y_O_judgeHalfBefore).cls ∈ GW ∧ ((y_O_judgeHalfBefore).cls ≠ "java/lang/invoke/MethodHandle" ∧ (y_O_judgeHalfBefore).cls ≠ "java/lang/invoke/VarHandle" ∧ (parseMethodDescriptor (y_O_judgeHalfBefore).desc).map (fun d => d.parameters.length) = some 0) := ⟨GW_at 574 (by decide +kernel) (by decide +kernel), GW_at 48 (by decide +kernel) (by decide +kernel), by decide +kernel⟩
theorem lm_O_74 : gLV "FramedLine$Rounds" "FramedLine$Rounds" 74 y_O_judgeHalfBefore b_O_judgeHalfBefore 2 none 0 := ⟨mc_O_judgeHalfBefore, GW_at 571 (by decide +kernel) (by decide +kernel), GW_at 573 (by decide +kernel) (by decide +kernel), GW_at 21 (by decide +kernel) (by decide +kernel)⟩
theorem mc_R_search : Cond.code y_R_search b_R_search 1 none ∈ GW ∧ Cond.initialized (y_R_search).cls ∈ GW ∧ ((y_R_search).cls ≠ "java/lang/invoke/MethodHandle" ∧ (y_R_search).cls ≠ "java/lang/invoke/VarHandle" ∧ (parseMethodDescriptor (y_R_search).desc).map (fun d => d.parameters.length) = some 0) := ⟨GW_at 521 (by decide +kernel) (by decide +kernel), GW_at 47 (by decide +kernel) (by decide +kernel), by decide +kernel⟩
theorem lm_R_56 : gLV "FramedLine$Receiver" "FramedLine$Receiver" 56 y_R_search b_R_search 1 none 0 := ⟨mc_R_search, GW_at 518 (by decide +kernel) (by decide +kernel), GW_at 520 (by decide +kernel) (by decide +kernel), GW_at 11 (by decide +kernel) (by decide +kernel)⟩
theorem mc_R_tryWord : Cond.code y_R_tryWord b_R_tryWord 2 none ∈ GW ∧ Cond.initialized (y_R_tryWord).cls ∈ GW ∧ ((y_R_tryWord).cls ≠ "java/lang/invoke/MethodHandle" ∧ (y_R_tryWord).cls ≠ "java/lang/invoke/VarHandle" ∧ (parseMethodDescriptor (y_R_tryWord).desc).map (fun d => d.parameters.length) = some 1) := ⟨GW_at 535 (by decide +kernel) (by decide +kernel), GW_at 47 (by decide +kernel) (by decide +kernel), by decide +kernel⟩
theorem lm_R_62 : gLV "FramedLine$Receiver" "FramedLine$Receiver" 62 y_R_tryWord b_R_tryWord 2 none 1 := ⟨mc_R_tryWord, GW_at 532 (by decide +kernel) (by decide +kernel), GW_at 534 (by decide +kernel) (by decide +kernel), GW_at 14 (by decide +kernel) (by decide +kernel)⟩
theorem mc_R_complete : Cond.code y_R_complete b_R_complete 1 none ∈ GW ∧ Cond.initialized (y_R_complete).cls ∈ GW ∧ ((y_R_complete).cls ≠ "java/lang/invoke/MethodHandle" ∧ (y_R_complete).cls ≠ "java/lang/invoke/VarHandle" ∧ (parseMethodDescriptor (y_R_complete).desc).map (fun d => d.parameters.length) = some 0) := ⟨GW_at 543 (by decide +kernel) (by decide +kernel), GW_at 47 (by decide +kernel) (by decide +kernel), by decide +kernel⟩
theorem lm_R_66 : gLV "FramedLine$Receiver" "FramedLine$Receiver" 66 y_R_complete b_R_complete 1 none 0 := ⟨mc_R_complete, GW_at 540 (by decide +kernel) (by decide +kernel), GW_at 542 (by decide +kernel) (by decide +kernel), GW_at 16 (by decide +kernel) (by decide +kernel)⟩
theorem mc_R_lookAtWord : Cond.code y_R_lookAtWord b_R_lookAtWord 1 none ∈ GW ∧ Cond.initialized (y_R_lookAtWord).cls ∈ GW ∧ ((y_R_lookAtWord).cls ≠ "java/lang/invoke/MethodHandle" ∧ (y_R_lookAtWord).cls ≠ "java/lang/invoke/VarHandle" ∧ (parseMethodDescriptor (y_R_lookAtWord).desc).map (fun d => d.parameters.length) = some 0) := ⟨GW_at 578 (by decide +kernel) (by decide +kernel), GW_at 47 (by decide +kernel) (by decide +kernel), by decide +kernel⟩
theorem lm_R_69 : gLV "FramedLine$Receiver" "FramedLine$Receiver" 69 y_R_lookAtWord b_R_lookAtWord 1 none 0 := ⟨mc_R_lookAtWord, GW_at 575 (by decide +kernel) (by decide +kernel), GW_at 577 (by decide +kernel) (by decide +kernel), GW_at 22 (by decide +kernel) (by decide +kernel)⟩
theorem mc_R_wordStands : Cond.code y_R_wordStands b_R_wordStands 1 (some .boolean) ∈ GW ∧ Cond.initialized (y_R_wordStands).cls ∈ GW ∧ ((y_R_wordStands).cls ≠ "java/lang/invoke/MethodHandle" ∧ (y_R_wordStands).cls ≠ "java/lang/invoke/VarHandle" ∧ (parseMethodDescriptor (y_R_wordStands).desc).map (fun d => d.parameters.length) = some 0) := ⟨GW_at 525 (by decide +kernel) (by decide +kernel), GW_at 47 (by decide +kernel) (by decide +kernel), by decide +kernel⟩
theorem lm_R_72 : gLV "FramedLine$Receiver" "FramedLine$Receiver" 72 y_R_wordStands b_R_wordStands 1 (some .boolean) 0 := ⟨mc_R_wordStands, GW_at 522 (by decide +kernel) (by decide +kernel), GW_at 524 (by decide +kernel) (by decide +kernel), GW_at 12 (by decide +kernel) (by decide +kernel)⟩
theorem mc_R_enter : Cond.code y_R_enter b_R_enter 2 none ∈ GW ∧ Cond.initialized (y_R_enter).cls ∈ GW ∧ ((y_R_enter).cls ≠ "java/lang/invoke/MethodHandle" ∧ (y_R_enter).cls ≠ "java/lang/invoke/VarHandle" ∧ (parseMethodDescriptor (y_R_enter).desc).map (fun d => d.parameters.length) = some 1) := ⟨GW_at 531 (by decide +kernel) (by decide +kernel), GW_at 47 (by decide +kernel) (by decide +kernel), by decide +kernel⟩
theorem lm_R_76 : gLV "FramedLine$Receiver" "FramedLine$Receiver" 76 y_R_enter b_R_enter 2 none 1 := ⟨mc_R_enter, GW_at 528 (by decide +kernel) (by decide +kernel), GW_at 530 (by decide +kernel) (by decide +kernel), GW_at 13 (by decide +kernel) (by decide +kernel)⟩
theorem mc_R_align : Cond.code y_R_align b_R_align 1 none ∈ GW ∧ Cond.initialized (y_R_align).cls ∈ GW ∧ ((y_R_align).cls ≠ "java/lang/invoke/MethodHandle" ∧ (y_R_align).cls ≠ "java/lang/invoke/VarHandle" ∧ (parseMethodDescriptor (y_R_align).desc).map (fun d => d.parameters.length) = some 0) := ⟨GW_at 539 (by decide +kernel) (by decide +kernel), GW_at 47 (by decide +kernel) (by decide +kernel), by decide +kernel⟩
theorem lm_R_80 : gLV "FramedLine$Receiver" "FramedLine$Receiver" 80 y_R_align b_R_align 1 none 0 := ⟨mc_R_align, GW_at 536 (by decide +kernel) (by decide +kernel), GW_at 538 (by decide +kernel) (by decide +kernel), GW_at 15 (by decide +kernel) (by decide +kernel)⟩
theorem mc_O_startAnew : Cond.code y_O_startAnew b_O_startAnew 1 none ∈ GW ∧ Cond.initialized (y_O_startAnew).cls ∈ GW ∧ ((y_O_startAnew).cls ≠ "java/lang/invoke/MethodHandle" ∧ (y_O_startAnew).cls ≠ "java/lang/invoke/VarHandle" ∧ (parseMethodDescriptor (y_O_startAnew).desc).map (fun d => d.parameters.length) = some 0) := ⟨GW_at 582 (by decide +kernel) (by decide +kernel), GW_at 48 (by decide +kernel) (by decide +kernel), by decide +kernel⟩
theorem lm_R_83 : gLV "FramedLine$Receiver" "FramedLine$Rounds" 83 y_O_startAnew b_O_startAnew 1 none 0 := ⟨mc_O_startAnew, GW_at 579 (by decide +kernel) (by decide +kernel), GW_at 580 (by decide +kernel) (by decide +kernel), GW_at 581 (by decide +kernel) (by decide +kernel)⟩
theorem mc_R_byteOf : Cond.code y_R_byteOf b_R_byteOf 2 (some .int) ∈ GW ∧ Cond.initialized (y_R_byteOf).cls ∈ GW ∧ ((y_R_byteOf).cls ≠ "java/lang/invoke/MethodHandle" ∧ (y_R_byteOf).cls ≠ "java/lang/invoke/VarHandle" ∧ (parseMethodDescriptor (y_R_byteOf).desc).map (fun d => d.parameters.length) = some 1) := ⟨GW_at 547 (by decide +kernel) (by decide +kernel), GW_at 47 (by decide +kernel) (by decide +kernel), by decide +kernel⟩
theorem lm_R_86 : gLV "FramedLine$Receiver" "FramedLine$Receiver" 86 y_R_byteOf b_R_byteOf 2 (some .int) 1 := ⟨mc_R_byteOf, GW_at 544 (by decide +kernel) (by decide +kernel), GW_at 545 (by decide +kernel) (by decide +kernel), GW_at 546 (by decide +kernel) (by decide +kernel)⟩
theorem mc_O_takeFrame : Cond.code y_O_takeFrame b_O_takeFrame 4 none ∈ GW ∧ Cond.initialized (y_O_takeFrame).cls ∈ GW ∧ ((y_O_takeFrame).cls ≠ "java/lang/invoke/MethodHandle" ∧ (y_O_takeFrame).cls ≠ "java/lang/invoke/VarHandle" ∧ (parseMethodDescriptor (y_O_takeFrame).desc).map (fun d => d.parameters.length) = some 2) := ⟨GW_at 551 (by decide +kernel) (by decide +kernel), GW_at 48 (by decide +kernel) (by decide +kernel), by decide +kernel⟩
theorem lm_R_90 : gLV "FramedLine$Receiver" "FramedLine$Rounds" 90 y_O_takeFrame b_O_takeFrame 4 none 2 := ⟨mc_O_takeFrame, GW_at 548 (by decide +kernel) (by decide +kernel), GW_at 549 (by decide +kernel) (by decide +kernel), GW_at 550 (by decide +kernel) (by decide +kernel)⟩
theorem mc_S_oddSlotZero : Cond.code y_S_oddSlotZero b_S_oddSlotZero 3 (some .int) ∈ GW ∧ Cond.initialized (y_S_oddSlotZero).cls ∈ GW ∧ ((y_S_oddSlotZero).cls ≠ "java/lang/invoke/MethodHandle" ∧ (y_S_oddSlotZero).cls ≠ "java/lang/invoke/VarHandle" ∧ (parseMethodDescriptor (y_S_oddSlotZero).desc).map (fun d => d.parameters.length) = some 1) := ⟨GW_at 448 (by decide +kernel) (by decide +kernel), GW_at 43 (by decide +kernel) (by decide +kernel), by decide +kernel⟩
theorem lm_S_31 : gLV "FramedLine$Sender" "FramedLine$Sender" 31 y_S_oddSlotZero b_S_oddSlotZero 3 (some .int) 1 := ⟨mc_S_oddSlotZero, GW_at 445 (by decide +kernel) (by decide +kernel), GW_at 447 (by decide +kernel) (by decide +kernel), GW_at 3 (by decide +kernel) (by decide +kernel)⟩
theorem mc_S_evenSlotZero : Cond.code y_S_evenSlotZero b_S_evenSlotZero 3 (some .int) ∈ GW ∧ Cond.initialized (y_S_evenSlotZero).cls ∈ GW ∧ ((y_S_evenSlotZero).cls ≠ "java/lang/invoke/MethodHandle" ∧ (y_S_evenSlotZero).cls ≠ "java/lang/invoke/VarHandle" ∧ (parseMethodDescriptor (y_S_evenSlotZero).desc).map (fun d => d.parameters.length) = some 0) := ⟨GW_at 462 (by decide +kernel) (by decide +kernel), GW_at 43 (by decide +kernel) (by decide +kernel), by decide +kernel⟩
theorem lm_S_35 : gLV "FramedLine$Sender" "FramedLine$Sender" 35 y_S_evenSlotZero b_S_evenSlotZero 3 (some .int) 0 := ⟨mc_S_evenSlotZero, GW_at 459 (by decide +kernel) (by decide +kernel), GW_at 461 (by decide +kernel) (by decide +kernel), GW_at 5 (by decide +kernel) (by decide +kernel)⟩
theorem lm_S_40 : gLSN "FramedLine$Sender" "FramedLine" 40 y_F_checkOver b_F_checkOver 5 (some .int) 2 := ⟨mc_F_checkOver, NW_at 464 (by decide +kernel) (by decide +kernel), GW_at 465 (by decide +kernel) (by decide +kernel)⟩
theorem lm_S_44 : gLSN "FramedLine$Sender" "FramedLine" 44 y_F_endsHalf b_F_endsHalf 1 (some .boolean) 1 := ⟨mc_F_endsHalf, NW_at 467 (by decide +kernel) (by decide +kernel), GW_at 468 (by decide +kernel) (by decide +kernel)⟩
theorem mc_R_isAligned : Cond.code y_R_isAligned b_R_isAligned 1 (some .boolean) ∈ GW ∧ Cond.initialized (y_R_isAligned).cls ∈ GW ∧ ((y_R_isAligned).cls ≠ "java/lang/invoke/MethodHandle" ∧ (y_R_isAligned).cls ≠ "java/lang/invoke/VarHandle" ∧ (parseMethodDescriptor (y_R_isAligned).desc).map (fun d => d.parameters.length) = some 0) := ⟨GW_at 452 (by decide +kernel) (by decide +kernel), GW_at 47 (by decide +kernel) (by decide +kernel), by decide +kernel⟩
theorem lm_S_48 : gLV "FramedLine$Sender" "FramedLine$Receiver" 48 y_R_isAligned b_R_isAligned 1 (some .boolean) 0 := ⟨mc_R_isAligned, GW_at 449 (by decide +kernel) (by decide +kernel), GW_at 450 (by decide +kernel) (by decide +kernel), GW_at 451 (by decide +kernel) (by decide +kernel)⟩
theorem mc_S_firstBitOfOdd : Cond.code y_S_firstBitOfOdd b_S_firstBitOfOdd 3 (some .int) ∈ GW ∧ Cond.initialized (y_S_firstBitOfOdd).cls ∈ GW ∧ ((y_S_firstBitOfOdd).cls ≠ "java/lang/invoke/MethodHandle" ∧ (y_S_firstBitOfOdd).cls ≠ "java/lang/invoke/VarHandle" ∧ (parseMethodDescriptor (y_S_firstBitOfOdd).desc).map (fun d => d.parameters.length) = some 1) := ⟨GW_at 458 (by decide +kernel) (by decide +kernel), GW_at 43 (by decide +kernel) (by decide +kernel), by decide +kernel⟩
theorem lm_S_58 : gLV "FramedLine$Sender" "FramedLine$Sender" 58 y_S_firstBitOfOdd b_S_firstBitOfOdd 3 (some .int) 1 := ⟨mc_S_firstBitOfOdd, GW_at 455 (by decide +kernel) (by decide +kernel), GW_at 457 (by decide +kernel) (by decide +kernel), GW_at 4 (by decide +kernel) (by decide +kernel)⟩
end
section
theorem d_A_doubleNext_0 : decode b_A_doubleNext 0 = .ok (.aload_n 0, 1) := by decide +kernel
theorem d_A_doubleNext_1 : decode b_A_doubleNext 1 = .ok (.getfield 22, 3) := by decide +kernel
theorem d_A_doubleNext_4 : decode b_A_doubleNext 4 = .ok (.ifCond .ne 7, 3) := by decide +kernel
theorem d_A_doubleNext_7 : decode b_A_doubleNext 7 = .ok (.iconst 1, 1) := by decide +kernel
theorem d_A_doubleNext_8 : decode b_A_doubleNext 8 = .ok (.goto 4, 3) := by decide +kernel
theorem d_A_doubleNext_11 : decode b_A_doubleNext 11 = .ok (.iconst 0, 1) := by decide +kernel
theorem d_A_doubleNext_12 : decode b_A_doubleNext 12 = .ok (.istore_n 1, 1) := by decide +kernel
theorem d_A_doubleNext_13 : decode b_A_doubleNext 13 = .ok (.aload_n 0, 1) := by decide +kernel
theorem d_A_doubleNext_14 : decode b_A_doubleNext 14 = .ok (.iconst 1, 1) := by decide +kernel
theorem d_A_doubleNext_15 : decode b_A_doubleNext 15 = .ok (.putfield 22, 3) := by decide +kernel
theorem d_A_doubleNext_18 : decode b_A_doubleNext 18 = .ok (.iload_n 1, 1) := by decide +kernel
theorem d_A_doubleNext_19 : decode b_A_doubleNext 19 = .ok (.ireturn, 1) := by decide +kernel
theorem d_A_comings_0 : decode b_A_comings 0 = .ok (.aload_n 0, 1) := by decide +kernel
theorem d_A_comings_1 : decode b_A_comings 1 = .ok (.getfield 22, 3) := by decide +kernel
theorem d_A_comings_4 : decode b_A_comings 4 = .ok (.ifCond .eq 7, 3) := by decide +kernel
theorem d_A_comings_7 : decode b_A_comings 7 = .ok (.iconst 2, 1) := by decide +kernel
theorem d_A_comings_8 : decode b_A_comings 8 = .ok (.goto 4, 3) := by decide +kernel
theorem d_A_comings_11 : decode b_A_comings 11 = .ok (.iconst 1, 1) := by decide +kernel
theorem d_A_comings_12 : decode b_A_comings 12 = .ok (.istore_n 1, 1) := by decide +kernel
theorem d_A_comings_13 : decode b_A_comings 13 = .ok (.aload_n 0, 1) := by decide +kernel
theorem d_A_comings_14 : decode b_A_comings 14 = .ok (.iconst 0, 1) := by decide +kernel
theorem d_A_comings_15 : decode b_A_comings 15 = .ok (.putfield 22, 3) := by decide +kernel
theorem d_A_comings_18 : decode b_A_comings 18 = .ok (.iload_n 1, 1) := by decide +kernel
theorem d_A_comings_19 : decode b_A_comings 19 = .ok (.ireturn, 1) := by decide +kernel
theorem d_D_bitBehind_0 : decode b_D_bitBehind 0 = .ok (.aload_n 0, 1) := by decide +kernel
theorem d_D_bitBehind_1 : decode b_D_bitBehind 1 = .ok (.iload_n 1, 1) := by decide +kernel
theorem d_D_bitBehind_2 : decode b_D_bitBehind 2 = .ok (.putfield 9, 3) := by decide +kernel
theorem d_D_bitBehind_5 : decode b_D_bitBehind 5 = .ok (.iload_n 1, 1) := by decide +kernel
theorem d_D_bitBehind_6 : decode b_D_bitBehind 6 = .ok (.ifCond .ne 10, 3) := by decide +kernel
theorem d_D_bitBehind_9 : decode b_D_bitBehind 9 = .ok (.aload_n 0, 1) := by decide +kernel
theorem d_D_bitBehind_10 : decode b_D_bitBehind 10 = .ok (.invokevirtual 33, 3) := by decide +kernel
theorem d_D_bitBehind_13 : decode b_D_bitBehind 13 = .ok (.goto 8, 3) := by decide +kernel
theorem d_D_bitBehind_16 : decode b_D_bitBehind 16 = .ok (.aload_n 0, 1) := by decide +kernel
theorem d_D_bitBehind_17 : decode b_D_bitBehind 17 = .ok (.iload_n 1, 1) := by decide +kernel
theorem d_D_bitBehind_18 : decode b_D_bitBehind 18 = .ok (.invokevirtual 36, 3) := by decide +kernel
theorem d_D_bitBehind_21 : decode b_D_bitBehind 21 = .ok (.aload_n 0, 1) := by decide +kernel
theorem d_D_bitBehind_22 : decode b_D_bitBehind 22 = .ok (.getfield 27, 3) := by decide +kernel
theorem d_D_bitBehind_25 : decode b_D_bitBehind 25 = .ok (.iconst 3, 1) := by decide +kernel
theorem d_D_bitBehind_26 : decode b_D_bitBehind 26 = .ok (.if_icmp .ge 15, 3) := by decide +kernel
theorem d_D_bitBehind_29 : decode b_D_bitBehind 29 = .ok (.aload_n 0, 1) := by decide +kernel
theorem d_D_bitBehind_30 : decode b_D_bitBehind 30 = .ok (.dup, 1) := by decide +kernel
theorem d_D_bitBehind_31 : decode b_D_bitBehind 31 = .ok (.getfield 27, 3) := by decide +kernel
theorem d_D_bitBehind_34 : decode b_D_bitBehind 34 = .ok (.iconst 1, 1) := by decide +kernel
theorem d_D_bitBehind_35 : decode b_D_bitBehind 35 = .ok (.iadd, 1) := by decide +kernel
theorem d_D_bitBehind_36 : decode b_D_bitBehind 36 = .ok (.putfield 27, 3) := by decide +kernel
theorem d_D_bitBehind_39 : decode b_D_bitBehind 39 = .ok (.iconst (-1), 1) := by decide +kernel
theorem d_D_bitBehind_40 : decode b_D_bitBehind 40 = .ok (.ireturn, 1) := by decide +kernel
theorem d_D_bitBehind_41 : decode b_D_bitBehind 41 = .ok (.aload_n 0, 1) := by decide +kernel
theorem d_D_bitBehind_42 : decode b_D_bitBehind 42 = .ok (.getfield 24, 3) := by decide +kernel
theorem d_D_bitBehind_45 : decode b_D_bitBehind 45 = .ok (.iconst 3, 1) := by decide +kernel
theorem d_D_bitBehind_46 : decode b_D_bitBehind 46 = .ok (.ishr, 1) := by decide +kernel
theorem d_D_bitBehind_47 : decode b_D_bitBehind 47 = .ok (.iconst 1, 1) := by decide +kernel
theorem d_D_bitBehind_48 : decode b_D_bitBehind 48 = .ok (.iand, 1) := by decide +kernel
theorem d_D_bitBehind_49 : decode b_D_bitBehind 49 = .ok (.ireturn, 1) := by decide +kernel
theorem d_D_takeZero_0 : decode b_D_takeZero 0 = .ok (.aload_n 0, 1) := by decide +kernel
theorem d_D_takeZero_1 : decode b_D_takeZero 1 = .ok (.aload_n 0, 1) := by decide +kernel
theorem d_D_takeZero_2 : decode b_D_takeZero 2 = .ok (.getfield 24, 3) := by decide +kernel
theorem d_D_takeZero_5 : decode b_D_takeZero 5 = .ok (.iconst 1, 1) := by decide +kernel
theorem d_D_takeZero_6 : decode b_D_takeZero 6 = .ok (.ishl, 1) := by decide +kernel
theorem d_D_takeZero_7 : decode b_D_takeZero 7 = .ok (.bipush 15, 2) := by decide +kernel
theorem d_D_takeZero_9 : decode b_D_takeZero 9 = .ok (.iand, 1) := by decide +kernel
theorem d_D_takeZero_10 : decode b_D_takeZero 10 = .ok (.putfield 24, 3) := by decide +kernel
theorem d_D_takeZero_13 : decode b_D_takeZero 13 = .ok (.aload_n 0, 1) := by decide +kernel
theorem d_D_takeZero_14 : decode b_D_takeZero 14 = .ok (.dup, 1) := by decide +kernel
theorem d_D_takeZero_15 : decode b_D_takeZero 15 = .ok (.getfield 21, 3) := by decide +kernel
theorem d_D_takeZero_18 : decode b_D_takeZero 18 = .ok (.iconst 1, 1) := by decide +kernel
theorem d_D_takeZero_19 : decode b_D_takeZero 19 = .ok (.iadd, 1) := by decide +kernel
theorem d_D_takeZero_20 : decode b_D_takeZero 20 = .ok (.putfield 21, 3) := by decide +kernel
theorem d_D_takeZero_23 : decode b_D_takeZero 23 = .ok (.aload_n 0, 1) := by decide +kernel
theorem d_D_takeZero_24 : decode b_D_takeZero 24 = .ok (.getfield 15, 3) := by decide +kernel
theorem d_D_takeZero_27 : decode b_D_takeZero 27 = .ok (.ifCond .eq 22, 3) := by decide +kernel
theorem d_D_takeZero_30 : decode b_D_takeZero 30 = .ok (.aload_n 0, 1) := by decide +kernel
theorem d_D_takeZero_31 : decode b_D_takeZero 31 = .ok (.getfield 21, 3) := by decide +kernel
theorem d_D_takeZero_34 : decode b_D_takeZero 34 = .ok (.iconst 3, 1) := by decide +kernel
theorem d_D_takeZero_35 : decode b_D_takeZero 35 = .ok (.iand, 1) := by decide +kernel
theorem d_D_takeZero_36 : decode b_D_takeZero 36 = .ok (.ifCond .ne 13, 3) := by decide +kernel
theorem d_D_takeZero_39 : decode b_D_takeZero 39 = .ok (.aload_n 0, 1) := by decide +kernel
theorem d_D_takeZero_40 : decode b_D_takeZero 40 = .ok (.dup, 1) := by decide +kernel
theorem d_D_takeZero_41 : decode b_D_takeZero 41 = .ok (.getfield 30, 3) := by decide +kernel
theorem d_D_takeZero_44 : decode b_D_takeZero 44 = .ok (.iconst 1, 1) := by decide +kernel
theorem d_D_takeZero_45 : decode b_D_takeZero 45 = .ok (.iadd, 1) := by decide +kernel
theorem d_D_takeZero_46 : decode b_D_takeZero 46 = .ok (.putfield 30, 3) := by decide +kernel
theorem d_D_takeZero_49 : decode b_D_takeZero 49 = .ok (.return_, 1) := by decide +kernel
theorem d_D_takePulse_0 : decode b_D_takePulse 0 = .ok (.iload_n 1, 1) := by decide +kernel
theorem d_D_takePulse_1 : decode b_D_takePulse 1 = .ok (.aload_n 0, 1) := by decide +kernel
theorem d_D_takePulse_2 : decode b_D_takePulse 2 = .ok (.getfield 15, 3) := by decide +kernel
theorem d_D_takePulse_5 : decode b_D_takePulse 5 = .ok (.if_icmp .ne 7, 3) := by decide +kernel
theorem d_D_takePulse_8 : decode b_D_takePulse 8 = .ok (.iconst 1, 1) := by decide +kernel
theorem d_D_takePulse_9 : decode b_D_takePulse 9 = .ok (.goto 4, 3) := by decide +kernel
theorem d_D_takePulse_12 : decode b_D_takePulse 12 = .ok (.iconst 0, 1) := by decide +kernel
theorem d_D_takePulse_13 : decode b_D_takePulse 13 = .ok (.istore_n 2, 1) := by decide +kernel
theorem d_D_takePulse_14 : decode b_D_takePulse 14 = .ok (.iload_n 2, 1) := by decide +kernel
theorem d_D_takePulse_15 : decode b_D_takePulse 15 = .ok (.ifCond .eq 19, 3) := by decide +kernel
theorem d_D_takePulse_18 : decode b_D_takePulse 18 = .ok (.aload_n 0, 1) := by decide +kernel
theorem d_D_takePulse_19 : decode b_D_takePulse 19 = .ok (.getfield 21, 3) := by decide +kernel
theorem d_D_takePulse_22 : decode b_D_takePulse 22 = .ok (.iconst 2, 1) := by decide +kernel
theorem d_D_takePulse_23 : decode b_D_takePulse 23 = .ok (.if_icmp .lt 11, 3) := by decide +kernel
theorem d_D_takePulse_26 : decode b_D_takePulse 26 = .ok (.aload_n 0, 1) := by decide +kernel
theorem d_D_takePulse_27 : decode b_D_takePulse 27 = .ok (.iload_n 1, 1) := by decide +kernel
theorem d_D_takePulse_28 : decode b_D_takePulse 28 = .ok (.invokevirtual 40, 3) := by decide +kernel
theorem d_D_takePulse_31 : decode b_D_takePulse 31 = .ok (.goto 32, 3) := by decide +kernel
theorem d_D_takePulse_34 : decode b_D_takePulse 34 = .ok (.aload_n 0, 1) := by decide +kernel
theorem d_D_takePulse_35 : decode b_D_takePulse 35 = .ok (.aload_n 0, 1) := by decide +kernel
theorem d_D_takePulse_36 : decode b_D_takePulse 36 = .ok (.getfield 24, 3) := by decide +kernel
theorem d_D_takePulse_39 : decode b_D_takePulse 39 = .ok (.iconst 1, 1) := by decide +kernel
theorem d_D_takePulse_40 : decode b_D_takePulse 40 = .ok (.ishl, 1) := by decide +kernel
theorem d_D_takePulse_41 : decode b_D_takePulse 41 = .ok (.iconst 1, 1) := by decide +kernel
theorem d_D_takePulse_42 : decode b_D_takePulse 42 = .ok (.ior, 1) := by decide +kernel
theorem d_D_takePulse_43 : decode b_D_takePulse 43 = .ok (.bipush 15, 2) := by decide +kernel
theorem d_D_takePulse_45 : decode b_D_takePulse 45 = .ok (.iand, 1) := by decide +kernel
theorem d_D_takePulse_46 : decode b_D_takePulse 46 = .ok (.putfield 24, 3) := by decide +kernel
theorem d_D_takePulse_49 : decode b_D_takePulse 49 = .ok (.iload_n 2, 1) := by decide +kernel
theorem d_D_takePulse_50 : decode b_D_takePulse 50 = .ok (.ifCond .eq 13, 3) := by decide +kernel
theorem d_D_takePulse_53 : decode b_D_takePulse 53 = .ok (.aload_n 0, 1) := by decide +kernel
theorem d_D_takePulse_54 : decode b_D_takePulse 54 = .ok (.dup, 1) := by decide +kernel
theorem d_D_takePulse_55 : decode b_D_takePulse 55 = .ok (.getfield 30, 3) := by decide +kernel
theorem d_D_takePulse_58 : decode b_D_takePulse 58 = .ok (.iconst 1, 1) := by decide +kernel
theorem d_D_takePulse_59 : decode b_D_takePulse 59 = .ok (.iadd, 1) := by decide +kernel
theorem d_D_takePulse_60 : decode b_D_takePulse 60 = .ok (.putfield 30, 3) := by decide +kernel
theorem d_D_takePulse_63 : decode b_D_takePulse 63 = .ok (.aload_n 0, 1) := by decide +kernel
theorem d_D_takePulse_64 : decode b_D_takePulse 64 = .ok (.iload_n 1, 1) := by decide +kernel
theorem d_D_takePulse_65 : decode b_D_takePulse 65 = .ok (.putfield 15, 3) := by decide +kernel
theorem d_D_takePulse_68 : decode b_D_takePulse 68 = .ok (.aload_n 0, 1) := by decide +kernel
theorem d_D_takePulse_69 : decode b_D_takePulse 69 = .ok (.iconst 0, 1) := by decide +kernel
theorem d_D_takePulse_70 : decode b_D_takePulse 70 = .ok (.putfield 21, 3) := by decide +kernel
theorem d_D_takePulse_73 : decode b_D_takePulse 73 = .ok (.return_, 1) := by decide +kernel
theorem d_D_takeV_0 : decode b_D_takeV 0 = .ok (.aload_n 0, 1) := by decide +kernel
theorem d_D_takeV_1 : decode b_D_takeV 1 = .ok (.iconst 0, 1) := by decide +kernel
theorem d_D_takeV_2 : decode b_D_takeV 2 = .ok (.putfield 24, 3) := by decide +kernel
theorem d_D_takeV_5 : decode b_D_takeV 5 = .ok (.iload_n 1, 1) := by decide +kernel
theorem d_D_takeV_6 : decode b_D_takeV 6 = .ok (.aload_n 0, 1) := by decide +kernel
theorem d_D_takeV_7 : decode b_D_takeV 7 = .ok (.getfield 18, 3) := by decide +kernel
theorem d_D_takeV_10 : decode b_D_takeV 10 = .ok (.if_icmp .ne 13, 3) := by decide +kernel
theorem d_D_takeV_13 : decode b_D_takeV 13 = .ok (.aload_n 0, 1) := by decide +kernel
theorem d_D_takeV_14 : decode b_D_takeV 14 = .ok (.dup, 1) := by decide +kernel
theorem d_D_takeV_15 : decode b_D_takeV 15 = .ok (.getfield 30, 3) := by decide +kernel
theorem d_D_takeV_18 : decode b_D_takeV 18 = .ok (.iconst 1, 1) := by decide +kernel
theorem d_D_takeV_19 : decode b_D_takeV 19 = .ok (.iadd, 1) := by decide +kernel
theorem d_D_takeV_20 : decode b_D_takeV 20 = .ok (.putfield 30, 3) := by decide +kernel
theorem d_D_takeV_23 : decode b_D_takeV 23 = .ok (.aload_n 0, 1) := by decide +kernel
theorem d_D_takeV_24 : decode b_D_takeV 24 = .ok (.iload_n 1, 1) := by decide +kernel
theorem d_D_takeV_25 : decode b_D_takeV 25 = .ok (.putfield 18, 3) := by decide +kernel
theorem d_D_takeV_28 : decode b_D_takeV 28 = .ok (.return_, 1) := by decide +kernel
theorem d_E_symbolBehind_0 : decode b_E_symbolBehind 0 = .ok (.iload_n 1, 1) := by decide +kernel
theorem d_E_symbolBehind_1 : decode b_E_symbolBehind 1 = .ok (.iconst 1, 1) := by decide +kernel
theorem d_E_symbolBehind_2 : decode b_E_symbolBehind 2 = .ok (.if_icmp .ne 10, 3) := by decide +kernel
theorem d_E_symbolBehind_5 : decode b_E_symbolBehind 5 = .ok (.aload_n 0, 1) := by decide +kernel
theorem d_E_symbolBehind_6 : decode b_E_symbolBehind 6 = .ok (.invokevirtual 31, 3) := by decide +kernel
theorem d_E_symbolBehind_9 : decode b_E_symbolBehind 9 = .ok (.goto 7, 3) := by decide +kernel
theorem d_E_symbolBehind_12 : decode b_E_symbolBehind 12 = .ok (.aload_n 0, 1) := by decide +kernel
theorem d_E_symbolBehind_13 : decode b_E_symbolBehind 13 = .ok (.invokevirtual 35, 3) := by decide +kernel
theorem d_E_symbolBehind_16 : decode b_E_symbolBehind 16 = .ok (.istore_n 2, 1) := by decide +kernel
theorem d_E_symbolBehind_17 : decode b_E_symbolBehind 17 = .ok (.aload_n 0, 1) := by decide +kernel
theorem d_E_symbolBehind_18 : decode b_E_symbolBehind 18 = .ok (.getfield 22, 3) := by decide +kernel
theorem d_E_symbolBehind_21 : decode b_E_symbolBehind 21 = .ok (.istore_n 3, 1) := by decide +kernel
theorem d_E_symbolBehind_22 : decode b_E_symbolBehind 22 = .ok (.aload_n 0, 1) := by decide +kernel
theorem d_E_symbolBehind_23 : decode b_E_symbolBehind 23 = .ok (.aload_n 0, 1) := by decide +kernel
theorem d_E_symbolBehind_24 : decode b_E_symbolBehind 24 = .ok (.getfield 25, 3) := by decide +kernel
theorem d_E_symbolBehind_27 : decode b_E_symbolBehind 27 = .ok (.putfield 22, 3) := by decide +kernel
theorem d_E_symbolBehind_30 : decode b_E_symbolBehind 30 = .ok (.aload_n 0, 1) := by decide +kernel
theorem d_E_symbolBehind_31 : decode b_E_symbolBehind 31 = .ok (.aload_n 0, 1) := by decide +kernel
theorem d_E_symbolBehind_32 : decode b_E_symbolBehind 32 = .ok (.getfield 28, 3) := by decide +kernel
theorem d_E_symbolBehind_35 : decode b_E_symbolBehind 35 = .ok (.putfield 25, 3) := by decide +kernel
theorem d_E_symbolBehind_38 : decode b_E_symbolBehind 38 = .ok (.aload_n 0, 1) := by decide +kernel
theorem d_E_symbolBehind_39 : decode b_E_symbolBehind 39 = .ok (.iload_n 2, 1) := by decide +kernel
theorem d_E_symbolBehind_40 : decode b_E_symbolBehind 40 = .ok (.putfield 28, 3) := by decide +kernel
theorem d_E_symbolBehind_43 : decode b_E_symbolBehind 43 = .ok (.iload_n 3, 1) := by decide +kernel
theorem d_E_symbolBehind_44 : decode b_E_symbolBehind 44 = .ok (.ireturn, 1) := by decide +kernel
theorem d_E_pulseOfOne_0 : decode b_E_pulseOfOne 0 = .ok (.aload_n 0, 1) := by decide +kernel
theorem d_E_pulseOfOne_1 : decode b_E_pulseOfOne 1 = .ok (.iconst 0, 1) := by decide +kernel
theorem d_E_pulseOfOne_2 : decode b_E_pulseOfOne 2 = .ok (.putfield 19, 3) := by decide +kernel
theorem d_E_pulseOfOne_5 : decode b_E_pulseOfOne 5 = .ok (.aload_n 0, 1) := by decide +kernel
theorem d_E_pulseOfOne_6 : decode b_E_pulseOfOne 6 = .ok (.aload_n 0, 1) := by decide +kernel
theorem d_E_pulseOfOne_7 : decode b_E_pulseOfOne 7 = .ok (.getfield 15, 3) := by decide +kernel
theorem d_E_pulseOfOne_10 : decode b_E_pulseOfOne 10 = .ok (.ifCond .ne 7, 3) := by decide +kernel
theorem d_E_pulseOfOne_13 : decode b_E_pulseOfOne 13 = .ok (.iconst 1, 1) := by decide +kernel
theorem d_E_pulseOfOne_14 : decode b_E_pulseOfOne 14 = .ok (.goto 4, 3) := by decide +kernel
theorem d_E_pulseOfOne_17 : decode b_E_pulseOfOne 17 = .ok (.iconst 0, 1) := by decide +kernel
theorem d_E_pulseOfOne_18 : decode b_E_pulseOfOne 18 = .ok (.putfield 15, 3) := by decide +kernel
theorem d_E_pulseOfOne_21 : decode b_E_pulseOfOne 21 = .ok (.aload_n 0, 1) := by decide +kernel
theorem d_E_pulseOfOne_22 : decode b_E_pulseOfOne 22 = .ok (.aload_n 0, 1) := by decide +kernel
theorem d_E_pulseOfOne_23 : decode b_E_pulseOfOne 23 = .ok (.getfield 9, 3) := by decide +kernel
theorem d_E_pulseOfOne_26 : decode b_E_pulseOfOne 26 = .ok (.ineg, 1) := by decide +kernel
theorem d_E_pulseOfOne_27 : decode b_E_pulseOfOne 27 = .ok (.putfield 9, 3) := by decide +kernel
theorem d_E_pulseOfOne_30 : decode b_E_pulseOfOne 30 = .ok (.aload_n 0, 1) := by decide +kernel
theorem d_E_pulseOfOne_31 : decode b_E_pulseOfOne 31 = .ok (.getfield 9, 3) := by decide +kernel
theorem d_E_pulseOfOne_34 : decode b_E_pulseOfOne 34 = .ok (.ireturn, 1) := by decide +kernel
theorem d_E_symbolOfZero_0 : decode b_E_symbolOfZero 0 = .ok (.aload_n 0, 1) := by decide +kernel
theorem d_E_symbolOfZero_1 : decode b_E_symbolOfZero 1 = .ok (.dup, 1) := by decide +kernel
theorem d_E_symbolOfZero_2 : decode b_E_symbolOfZero 2 = .ok (.getfield 19, 3) := by decide +kernel
theorem d_E_symbolOfZero_5 : decode b_E_symbolOfZero 5 = .ok (.iconst 1, 1) := by decide +kernel
theorem d_E_symbolOfZero_6 : decode b_E_symbolOfZero 6 = .ok (.iadd, 1) := by decide +kernel
theorem d_E_symbolOfZero_7 : decode b_E_symbolOfZero 7 = .ok (.putfield 19, 3) := by decide +kernel
theorem d_E_symbolOfZero_10 : decode b_E_symbolOfZero 10 = .ok (.aload_n 0, 1) := by decide +kernel
theorem d_E_symbolOfZero_11 : decode b_E_symbolOfZero 11 = .ok (.getfield 19, 3) := by decide +kernel
theorem d_E_symbolOfZero_14 : decode b_E_symbolOfZero 14 = .ok (.iconst 3, 1) := by decide +kernel
theorem d_E_symbolOfZero_15 : decode b_E_symbolOfZero 15 = .ok (.if_icmp .gt 5, 3) := by decide +kernel
theorem d_E_symbolOfZero_18 : decode b_E_symbolOfZero 18 = .ok (.iconst 0, 1) := by decide +kernel
theorem d_E_symbolOfZero_19 : decode b_E_symbolOfZero 19 = .ok (.ireturn, 1) := by decide +kernel
theorem d_E_symbolOfZero_20 : decode b_E_symbolOfZero 20 = .ok (.aload_n 0, 1) := by decide +kernel
theorem d_E_symbolOfZero_21 : decode b_E_symbolOfZero 21 = .ok (.getfield 15, 3) := by decide +kernel
theorem d_E_symbolOfZero_24 : decode b_E_symbolOfZero 24 = .ok (.ifCond .ne 20, 3) := by decide +kernel
theorem d_E_symbolOfZero_27 : decode b_E_symbolOfZero 27 = .ok (.aload_n 0, 1) := by decide +kernel
theorem d_E_symbolOfZero_28 : decode b_E_symbolOfZero 28 = .ok (.aload_n 0, 1) := by decide +kernel
theorem d_E_symbolOfZero_29 : decode b_E_symbolOfZero 29 = .ok (.getfield 9, 3) := by decide +kernel
theorem d_E_symbolOfZero_32 : decode b_E_symbolOfZero 32 = .ok (.ineg, 1) := by decide +kernel
theorem d_E_symbolOfZero_33 : decode b_E_symbolOfZero 33 = .ok (.putfield 9, 3) := by decide +kernel
theorem d_E_symbolOfZero_36 : decode b_E_symbolOfZero 36 = .ok (.aload_n 0, 1) := by decide +kernel
theorem d_E_symbolOfZero_37 : decode b_E_symbolOfZero 37 = .ok (.aload_n 0, 1) := by decide +kernel
theorem d_E_symbolOfZero_38 : decode b_E_symbolOfZero 38 = .ok (.getfield 9, 3) := by decide +kernel
theorem d_E_symbolOfZero_41 : decode b_E_symbolOfZero 41 = .ok (.putfield 22, 3) := by decide +kernel
theorem d_E_symbolOfZero_44 : decode b_E_symbolOfZero 44 = .ok (.aload_n 0, 1) := by decide +kernel
theorem d_E_symbolOfZero_45 : decode b_E_symbolOfZero 45 = .ok (.iconst 0, 1) := by decide +kernel
theorem d_E_symbolOfZero_46 : decode b_E_symbolOfZero 46 = .ok (.putfield 19, 3) := by decide +kernel
theorem d_E_symbolOfZero_49 : decode b_E_symbolOfZero 49 = .ok (.aload_n 0, 1) := by decide +kernel
theorem d_E_symbolOfZero_50 : decode b_E_symbolOfZero 50 = .ok (.iconst 0, 1) := by decide +kernel
theorem d_E_symbolOfZero_51 : decode b_E_symbolOfZero 51 = .ok (.putfield 15, 3) := by decide +kernel
theorem d_E_symbolOfZero_54 : decode b_E_symbolOfZero 54 = .ok (.aload_n 0, 1) := by decide +kernel
theorem d_E_symbolOfZero_55 : decode b_E_symbolOfZero 55 = .ok (.getfield 9, 3) := by decide +kernel
theorem d_E_symbolOfZero_58 : decode b_E_symbolOfZero 58 = .ok (.ireturn, 1) := by decide +kernel
theorem d_N_send_0 : decode b_N_send 0 = .ok (.aload_n 0, 1) := by decide +kernel
theorem d_N_send_1 : decode b_N_send 1 = .ok (.getfield 12, 3) := by decide +kernel
theorem d_N_send_4 : decode b_N_send 4 = .ok (.invokevirtual 46, 3) := by decide +kernel
theorem d_N_send_7 : decode b_N_send 7 = .ok (.ifCond .eq 14, 3) := by decide +kernel
theorem d_N_send_10 : decode b_N_send 10 = .ok (.aload_n 0, 1) := by decide +kernel
theorem d_N_send_11 : decode b_N_send 11 = .ok (.getfield 12, 3) := by decide +kernel
theorem d_N_send_14 : decode b_N_send 14 = .ok (.aload_n 0, 1) := by decide +kernel
theorem d_N_send_15 : decode b_N_send 15 = .ok (.getfield 42, 3) := by decide +kernel
theorem d_N_send_18 : decode b_N_send 18 = .ok (.invokevirtual 50, 3) := by decide +kernel
theorem d_N_send_21 : decode b_N_send 21 = .ok (.aload_n 0, 1) := by decide +kernel
theorem d_N_send_22 : decode b_N_send 22 = .ok (.getfield 21, 3) := by decide +kernel
theorem d_N_send_25 : decode b_N_send 25 = .ok (.aload_n 0, 1) := by decide +kernel
theorem d_N_send_26 : decode b_N_send 26 = .ok (.getfield 12, 3) := by decide +kernel
theorem d_N_send_29 : decode b_N_send 29 = .ok (.invokevirtual 54, 3) := by decide +kernel
theorem d_N_send_32 : decode b_N_send 32 = .ok (.invokevirtual 58, 3) := by decide +kernel
theorem d_N_send_35 : decode b_N_send 35 = .ok (.ireturn, 1) := by decide +kernel
theorem d_R_isAligned_0 : decode b_R_isAligned 0 = .ok (.aload_n 0, 1) := by decide +kernel
theorem d_R_isAligned_1 : decode b_R_isAligned 1 = .ok (.getfield 24, 3) := by decide +kernel
theorem d_R_isAligned_4 : decode b_R_isAligned 4 = .ok (.getstatic 53, 3) := by decide +kernel
theorem d_R_isAligned_7 : decode b_R_isAligned 7 = .ok (.if_acmp .ne 7, 3) := by decide +kernel
theorem d_R_isAligned_10 : decode b_R_isAligned 10 = .ok (.iconst 1, 1) := by decide +kernel
theorem d_R_isAligned_11 : decode b_R_isAligned 11 = .ok (.goto 4, 3) := by decide +kernel
theorem d_R_isAligned_14 : decode b_R_isAligned 14 = .ok (.iconst 0, 1) := by decide +kernel
theorem d_R_isAligned_15 : decode b_R_isAligned 15 = .ok (.ireturn, 1) := by decide +kernel
theorem d_R_byteOf_0 : decode b_R_byteOf 0 = .ok (.aload_n 0, 1) := by decide +kernel
theorem d_R_byteOf_1 : decode b_R_byteOf 1 = .ok (.getfield 44, 3) := by decide +kernel
theorem d_R_byteOf_4 : decode b_R_byteOf 4 = .ok (.ifCond .ne 5, 3) := by decide +kernel
theorem d_R_byteOf_7 : decode b_R_byteOf 7 = .ok (.iconst (-1), 1) := by decide +kernel
theorem d_R_byteOf_8 : decode b_R_byteOf 8 = .ok (.ireturn, 1) := by decide +kernel
theorem d_R_byteOf_9 : decode b_R_byteOf 9 = .ok (.aload_n 0, 1) := by decide +kernel
theorem d_R_byteOf_10 : decode b_R_byteOf 10 = .ok (.getfield 41, 3) := by decide +kernel
theorem d_R_byteOf_13 : decode b_R_byteOf 13 = .ok (.bipush 32, 2) := by decide +kernel
theorem d_R_byteOf_15 : decode b_R_byteOf 15 = .ok (.bipush 8, 2) := by decide +kernel
theorem d_R_byteOf_17 : decode b_R_byteOf 17 = .ok (.iload_n 1, 1) := by decide +kernel
theorem d_R_byteOf_18 : decode b_R_byteOf 18 = .ok (.iconst 1, 1) := by decide +kernel
theorem d_R_byteOf_19 : decode b_R_byteOf 19 = .ok (.iadd, 1) := by decide +kernel
theorem d_R_byteOf_20 : decode b_R_byteOf 20 = .ok (.imul, 1) := by decide +kernel
theorem d_R_byteOf_21 : decode b_R_byteOf 21 = .ok (.isub, 1) := by decide +kernel
theorem d_R_byteOf_22 : decode b_R_byteOf 22 = .ok (.iushr, 1) := by decide +kernel
theorem d_R_byteOf_23 : decode b_R_byteOf 23 = .ok (.sipush 255, 3) := by decide +kernel
theorem d_R_byteOf_26 : decode b_R_byteOf 26 = .ok (.iand, 1) := by decide +kernel
theorem d_R_byteOf_27 : decode b_R_byteOf 27 = .ok (.ireturn, 1) := by decide +kernel
theorem d_R_takeBit_0 : decode b_R_takeBit 0 = .ok (.aload_n 0, 1) := by decide +kernel
theorem d_R_takeBit_1 : decode b_R_takeBit 1 = .ok (.aload_n 0, 1) := by decide +kernel
theorem d_R_takeBit_2 : decode b_R_takeBit 2 = .ok (.getfield 27, 3) := by decide +kernel
theorem d_R_takeBit_5 : decode b_R_takeBit 5 = .ok (.iconst 1, 1) := by decide +kernel
theorem d_R_takeBit_6 : decode b_R_takeBit 6 = .ok (.ishl, 1) := by decide +kernel
theorem d_R_takeBit_7 : decode b_R_takeBit 7 = .ok (.iload_n 1, 1) := by decide +kernel
theorem d_R_takeBit_8 : decode b_R_takeBit 8 = .ok (.ior, 1) := by decide +kernel
theorem d_R_takeBit_9 : decode b_R_takeBit 9 = .ok (.putfield 27, 3) := by decide +kernel
theorem d_R_takeBit_12 : decode b_R_takeBit 12 = .ok (.aload_n 0, 1) := by decide +kernel
theorem d_R_takeBit_13 : decode b_R_takeBit 13 = .ok (.dup, 1) := by decide +kernel
theorem d_R_takeBit_14 : decode b_R_takeBit 14 = .ok (.getfield 31, 3) := by decide +kernel
theorem d_R_takeBit_17 : decode b_R_takeBit 17 = .ok (.iconst 1, 1) := by decide +kernel
theorem d_R_takeBit_18 : decode b_R_takeBit 18 = .ok (.iadd, 1) := by decide +kernel
theorem d_R_takeBit_19 : decode b_R_takeBit 19 = .ok (.putfield 31, 3) := by decide +kernel
theorem d_R_takeBit_22 : decode b_R_takeBit 22 = .ok (.aload_n 0, 1) := by decide +kernel
theorem d_R_takeBit_23 : decode b_R_takeBit 23 = .ok (.getfield 24, 3) := by decide +kernel
theorem d_R_takeBit_26 : decode b_R_takeBit 26 = .ok (.getstatic 18, 3) := by decide +kernel
theorem d_R_takeBit_29 : decode b_R_takeBit 29 = .ok (.if_acmp .ne 10, 3) := by decide +kernel
theorem d_R_takeBit_32 : decode b_R_takeBit 32 = .ok (.aload_n 0, 1) := by decide +kernel
theorem d_R_takeBit_33 : decode b_R_takeBit 33 = .ok (.invokevirtual 56, 3) := by decide +kernel
theorem d_R_takeBit_36 : decode b_R_takeBit 36 = .ok (.goto 57, 3) := by decide +kernel
theorem d_R_takeBit_39 : decode b_R_takeBit 39 = .ok (.aload_n 0, 1) := by decide +kernel
theorem d_R_takeBit_40 : decode b_R_takeBit 40 = .ok (.getfield 24, 3) := by decide +kernel
theorem d_R_takeBit_43 : decode b_R_takeBit 43 = .ok (.getstatic 59, 3) := by decide +kernel
theorem d_R_takeBit_46 : decode b_R_takeBit 46 = .ok (.if_acmp .ne 11, 3) := by decide +kernel
theorem d_R_takeBit_49 : decode b_R_takeBit 49 = .ok (.aload_n 0, 1) := by decide +kernel
theorem d_R_takeBit_50 : decode b_R_takeBit 50 = .ok (.iload_n 1, 1) := by decide +kernel
theorem d_R_takeBit_51 : decode b_R_takeBit 51 = .ok (.invokevirtual 62, 3) := by decide +kernel
theorem d_R_takeBit_54 : decode b_R_takeBit 54 = .ok (.goto 39, 3) := by decide +kernel
theorem d_R_takeBit_57 : decode b_R_takeBit 57 = .ok (.aload_n 0, 1) := by decide +kernel
theorem d_R_takeBit_58 : decode b_R_takeBit 58 = .ok (.getfield 31, 3) := by decide +kernel
theorem d_R_takeBit_61 : decode b_R_takeBit 61 = .ok (.bipush 32, 2) := by decide +kernel
theorem d_R_takeBit_63 : decode b_R_takeBit 63 = .ok (.if_icmp .ne 10, 3) := by decide +kernel
theorem d_R_takeBit_66 : decode b_R_takeBit 66 = .ok (.aload_n 0, 1) := by decide +kernel
theorem d_R_takeBit_67 : decode b_R_takeBit 67 = .ok (.invokevirtual 66, 3) := by decide +kernel
theorem d_R_takeBit_70 : decode b_R_takeBit 70 = .ok (.goto 23, 3) := by decide +kernel
theorem d_R_takeBit_73 : decode b_R_takeBit 73 = .ok (.aload_n 0, 1) := by decide +kernel
theorem d_R_takeBit_74 : decode b_R_takeBit 74 = .ok (.getfield 31, 3) := by decide +kernel
theorem d_R_takeBit_77 : decode b_R_takeBit 77 = .ok (.bipush 8, 2) := by decide +kernel
theorem d_R_takeBit_79 : decode b_R_takeBit 79 = .ok (.if_icmp .ne 14, 3) := by decide +kernel
theorem d_R_takeBit_82 : decode b_R_takeBit 82 = .ok (.aload_n 0, 1) := by decide +kernel
theorem d_R_takeBit_83 : decode b_R_takeBit 83 = .ok (.getfield 34, 3) := by decide +kernel
theorem d_R_takeBit_86 : decode b_R_takeBit 86 = .ok (.ifCond .ne 7, 3) := by decide +kernel
theorem d_R_takeBit_89 : decode b_R_takeBit 89 = .ok (.aload_n 0, 1) := by decide +kernel
theorem d_R_takeBit_90 : decode b_R_takeBit 90 = .ok (.invokevirtual 69, 3) := by decide +kernel
theorem d_R_takeBit_93 : decode b_R_takeBit 93 = .ok (.return_, 1) := by decide +kernel
theorem d_R_search_0 : decode b_R_search 0 = .ok (.aload_n 0, 1) := by decide +kernel
theorem d_R_search_1 : decode b_R_search 1 = .ok (.getfield 31, 3) := by decide +kernel
theorem d_R_search_4 : decode b_R_search 4 = .ok (.bipush 7, 2) := by decide +kernel
theorem d_R_search_6 : decode b_R_search 6 = .ok (.if_icmp .lt 17, 3) := by decide +kernel
theorem d_R_search_9 : decode b_R_search 9 = .ok (.aload_n 0, 1) := by decide +kernel
theorem d_R_search_10 : decode b_R_search 10 = .ok (.invokevirtual 72, 3) := by decide +kernel
theorem d_R_search_13 : decode b_R_search 13 = .ok (.ifCond .eq 10, 3) := by decide +kernel
theorem d_R_search_16 : decode b_R_search 16 = .ok (.aload_n 0, 1) := by decide +kernel
theorem d_R_search_17 : decode b_R_search 17 = .ok (.getstatic 59, 3) := by decide +kernel
theorem d_R_search_20 : decode b_R_search 20 = .ok (.invokevirtual 76, 3) := by decide +kernel
theorem d_R_search_23 : decode b_R_search 23 = .ok (.return_, 1) := by decide +kernel
theorem d_R_tryWord_0 : decode b_R_tryWord 0 = .ok (.aload_n 0, 1) := by decide +kernel
theorem d_R_tryWord_1 : decode b_R_tryWord 1 = .ok (.getfield 31, 3) := by decide +kernel
theorem d_R_tryWord_4 : decode b_R_tryWord 4 = .ok (.bipush 26, 2) := by decide +kernel
theorem d_R_tryWord_6 : decode b_R_tryWord 6 = .ok (.if_icmp .ne 17, 3) := by decide +kernel
theorem d_R_tryWord_9 : decode b_R_tryWord 9 = .ok (.iload_n 1, 1) := by decide +kernel
theorem d_R_tryWord_10 : decode b_R_tryWord 10 = .ok (.ifCond .ne 13, 3) := by decide +kernel
theorem d_R_tryWord_13 : decode b_R_tryWord 13 = .ok (.aload_n 0, 1) := by decide +kernel
theorem d_R_tryWord_14 : decode b_R_tryWord 14 = .ok (.getstatic 18, 3) := by decide +kernel
theorem d_R_tryWord_17 : decode b_R_tryWord 17 = .ok (.invokevirtual 76, 3) := by decide +kernel
theorem d_R_tryWord_20 : decode b_R_tryWord 20 = .ok (.goto 33, 3) := by decide +kernel
theorem d_R_tryWord_23 : decode b_R_tryWord 23 = .ok (.aload_n 0, 1) := by decide +kernel
theorem d_R_tryWord_24 : decode b_R_tryWord 24 = .ok (.getfield 31, 3) := by decide +kernel
theorem d_R_tryWord_27 : decode b_R_tryWord 27 = .ok (.bipush 64, 2) := by decide +kernel
theorem d_R_tryWord_29 : decode b_R_tryWord 29 = .ok (.if_icmp .ne 24, 3) := by decide +kernel
theorem d_R_tryWord_32 : decode b_R_tryWord 32 = .ok (.aload_n 0, 1) := by decide +kernel
theorem d_R_tryWord_33 : decode b_R_tryWord 33 = .ok (.invokevirtual 72, 3) := by decide +kernel
theorem d_R_tryWord_36 : decode b_R_tryWord 36 = .ok (.ifCond .eq 10, 3) := by decide +kernel
theorem d_R_tryWord_39 : decode b_R_tryWord 39 = .ok (.aload_n 0, 1) := by decide +kernel
theorem d_R_tryWord_40 : decode b_R_tryWord 40 = .ok (.invokevirtual 80, 3) := by decide +kernel
theorem d_R_tryWord_43 : decode b_R_tryWord 43 = .ok (.goto 10, 3) := by decide +kernel
theorem d_R_tryWord_46 : decode b_R_tryWord 46 = .ok (.aload_n 0, 1) := by decide +kernel
theorem d_R_tryWord_47 : decode b_R_tryWord 47 = .ok (.getstatic 18, 3) := by decide +kernel
theorem d_R_tryWord_50 : decode b_R_tryWord 50 = .ok (.invokevirtual 76, 3) := by decide +kernel
theorem d_R_tryWord_53 : decode b_R_tryWord 53 = .ok (.return_, 1) := by decide +kernel
theorem d_R_align_0 : decode b_R_align 0 = .ok (.aload_n 0, 1) := by decide +kernel
theorem d_R_align_1 : decode b_R_align 1 = .ok (.getstatic 53, 3) := by decide +kernel
theorem d_R_align_4 : decode b_R_align 4 = .ok (.invokevirtual 76, 3) := by decide +kernel
theorem d_R_align_7 : decode b_R_align 7 = .ok (.aload_n 0, 1) := by decide +kernel
theorem d_R_align_8 : decode b_R_align 8 = .ok (.bipush 8, 2) := by decide +kernel
theorem d_R_align_10 : decode b_R_align 10 = .ok (.putfield 31, 3) := by decide +kernel
theorem d_R_align_13 : decode b_R_align 13 = .ok (.aload_n 0, 1) := by decide +kernel
theorem d_R_align_14 : decode b_R_align 14 = .ok (.iconst 0, 1) := by decide +kernel
theorem d_R_align_15 : decode b_R_align 15 = .ok (.putfield 34, 3) := by decide +kernel
theorem d_R_align_18 : decode b_R_align 18 = .ok (.aload_n 0, 1) := by decide +kernel
theorem d_R_align_19 : decode b_R_align 19 = .ok (.iconst 0, 1) := by decide +kernel
theorem d_R_align_20 : decode b_R_align 20 = .ok (.putfield 38, 3) := by decide +kernel
theorem d_R_align_23 : decode b_R_align 23 = .ok (.return_, 1) := by decide +kernel
theorem d_R_lookAtWord_0 : decode b_R_lookAtWord 0 = .ok (.aload_n 0, 1) := by decide +kernel
theorem d_R_lookAtWord_1 : decode b_R_lookAtWord 1 = .ok (.aload_n 0, 1) := by decide +kernel
theorem d_R_lookAtWord_2 : decode b_R_lookAtWord 2 = .ok (.invokevirtual 72, 3) := by decide +kernel
theorem d_R_lookAtWord_5 : decode b_R_lookAtWord 5 = .ok (.ifCond .eq 7, 3) := by decide +kernel
theorem d_R_lookAtWord_8 : decode b_R_lookAtWord 8 = .ok (.iconst 0, 1) := by decide +kernel
theorem d_R_lookAtWord_9 : decode b_R_lookAtWord 9 = .ok (.goto 9, 3) := by decide +kernel
theorem d_R_lookAtWord_12 : decode b_R_lookAtWord 12 = .ok (.aload_n 0, 1) := by decide +kernel
theorem d_R_lookAtWord_13 : decode b_R_lookAtWord 13 = .ok (.getfield 38, 3) := by decide +kernel
theorem d_R_lookAtWord_16 : decode b_R_lookAtWord 16 = .ok (.iconst 1, 1) := by decide +kernel
theorem d_R_lookAtWord_17 : decode b_R_lookAtWord 17 = .ok (.iadd, 1) := by decide +kernel
theorem d_R_lookAtWord_18 : decode b_R_lookAtWord 18 = .ok (.putfield 38, 3) := by decide +kernel
theorem d_R_lookAtWord_21 : decode b_R_lookAtWord 21 = .ok (.aload_n 0, 1) := by decide +kernel
theorem d_R_lookAtWord_22 : decode b_R_lookAtWord 22 = .ok (.getfield 38, 3) := by decide +kernel
theorem d_R_lookAtWord_25 : decode b_R_lookAtWord 25 = .ok (.iconst 3, 1) := by decide +kernel
theorem d_R_lookAtWord_26 : decode b_R_lookAtWord 26 = .ok (.if_icmp .ne 27, 3) := by decide +kernel
theorem d_R_lookAtWord_29 : decode b_R_lookAtWord 29 = .ok (.aload_n 0, 1) := by decide +kernel
theorem d_R_lookAtWord_30 : decode b_R_lookAtWord 30 = .ok (.dup, 1) := by decide +kernel
theorem d_R_lookAtWord_31 : decode b_R_lookAtWord 31 = .ok (.getfield 47, 3) := by decide +kernel
theorem d_R_lookAtWord_34 : decode b_R_lookAtWord 34 = .ok (.iconst 1, 1) := by decide +kernel
theorem d_R_lookAtWord_35 : decode b_R_lookAtWord 35 = .ok (.iadd, 1) := by decide +kernel
theorem d_R_lookAtWord_36 : decode b_R_lookAtWord 36 = .ok (.putfield 47, 3) := by decide +kernel
theorem d_R_lookAtWord_39 : decode b_R_lookAtWord 39 = .ok (.aload_n 0, 1) := by decide +kernel
theorem d_R_lookAtWord_40 : decode b_R_lookAtWord 40 = .ok (.getstatic 18, 3) := by decide +kernel
theorem d_R_lookAtWord_43 : decode b_R_lookAtWord 43 = .ok (.invokevirtual 76, 3) := by decide +kernel
theorem d_R_lookAtWord_46 : decode b_R_lookAtWord 46 = .ok (.aload_n 0, 1) := by decide +kernel
theorem d_R_lookAtWord_47 : decode b_R_lookAtWord 47 = .ok (.getfield 12, 3) := by decide +kernel
theorem d_R_lookAtWord_50 : decode b_R_lookAtWord 50 = .ok (.invokevirtual 83, 3) := by decide +kernel
theorem d_R_lookAtWord_53 : decode b_R_lookAtWord 53 = .ok (.return_, 1) := by decide +kernel
theorem d_R_complete_0 : decode b_R_complete 0 = .ok (.aload_n 0, 1) := by decide +kernel
theorem d_R_complete_1 : decode b_R_complete 1 = .ok (.aload_n 0, 1) := by decide +kernel
theorem d_R_complete_2 : decode b_R_complete 2 = .ok (.getfield 27, 3) := by decide +kernel
theorem d_R_complete_5 : decode b_R_complete 5 = .ok (.putfield 41, 3) := by decide +kernel
theorem d_R_complete_8 : decode b_R_complete 8 = .ok (.aload_n 0, 1) := by decide +kernel
theorem d_R_complete_9 : decode b_R_complete 9 = .ok (.dup, 1) := by decide +kernel
theorem d_R_complete_10 : decode b_R_complete 10 = .ok (.getfield 44, 3) := by decide +kernel
theorem d_R_complete_13 : decode b_R_complete 13 = .ok (.iconst 1, 1) := by decide +kernel
theorem d_R_complete_14 : decode b_R_complete 14 = .ok (.iadd, 1) := by decide +kernel
theorem d_R_complete_15 : decode b_R_complete 15 = .ok (.putfield 44, 3) := by decide +kernel
theorem d_R_complete_18 : decode b_R_complete 18 = .ok (.aload_n 0, 1) := by decide +kernel
theorem d_R_complete_19 : decode b_R_complete 19 = .ok (.getfield 34, 3) := by decide +kernel
theorem d_R_complete_22 : decode b_R_complete 22 = .ok (.ifCond .eq 23, 3) := by decide +kernel
theorem d_R_complete_25 : decode b_R_complete 25 = .ok (.aload_n 0, 1) := by decide +kernel
theorem d_R_complete_26 : decode b_R_complete 26 = .ok (.aload_n 0, 1) := by decide +kernel
theorem d_R_complete_27 : decode b_R_complete 27 = .ok (.iconst 0, 1) := by decide +kernel
theorem d_R_complete_28 : decode b_R_complete 28 = .ok (.invokevirtual 86, 3) := by decide +kernel
theorem d_R_complete_31 : decode b_R_complete 31 = .ok (.bipush 32, 2) := by decide +kernel
theorem d_R_complete_33 : decode b_R_complete 33 = .ok (.iand, 1) := by decide +kernel
theorem d_R_complete_34 : decode b_R_complete 34 = .ok (.ifCond .eq 7, 3) := by decide +kernel
theorem d_R_complete_37 : decode b_R_complete 37 = .ok (.iconst 1, 1) := by decide +kernel
theorem d_R_complete_38 : decode b_R_complete 38 = .ok (.goto 4, 3) := by decide +kernel
theorem d_R_complete_41 : decode b_R_complete 41 = .ok (.iconst 0, 1) := by decide +kernel
theorem d_R_complete_42 : decode b_R_complete 42 = .ok (.putfield 50, 3) := by decide +kernel
theorem d_R_complete_45 : decode b_R_complete 45 = .ok (.aload_n 0, 1) := by decide +kernel
theorem d_R_complete_46 : decode b_R_complete 46 = .ok (.getfield 12, 3) := by decide +kernel
theorem d_R_complete_49 : decode b_R_complete 49 = .ok (.aload_n 0, 1) := by decide +kernel
theorem d_R_complete_50 : decode b_R_complete 50 = .ok (.getfield 41, 3) := by decide +kernel
theorem d_R_complete_53 : decode b_R_complete 53 = .ok (.aload_n 0, 1) := by decide +kernel
theorem d_R_complete_54 : decode b_R_complete 54 = .ok (.getfield 34, 3) := by decide +kernel
theorem d_R_complete_57 : decode b_R_complete 57 = .ok (.invokevirtual 90, 3) := by decide +kernel
theorem d_R_complete_60 : decode b_R_complete 60 = .ok (.aload_n 0, 1) := by decide +kernel
theorem d_R_complete_61 : decode b_R_complete 61 = .ok (.aload_n 0, 1) := by decide +kernel
theorem d_R_complete_62 : decode b_R_complete 62 = .ok (.getfield 34, 3) := by decide +kernel
theorem d_R_complete_65 : decode b_R_complete 65 = .ok (.ifCond .ne 7, 3) := by decide +kernel
theorem d_R_complete_68 : decode b_R_complete 68 = .ok (.iconst 1, 1) := by decide +kernel
theorem d_R_complete_69 : decode b_R_complete 69 = .ok (.goto 4, 3) := by decide +kernel
theorem d_R_complete_72 : decode b_R_complete 72 = .ok (.iconst 0, 1) := by decide +kernel
theorem d_R_complete_73 : decode b_R_complete 73 = .ok (.putfield 34, 3) := by decide +kernel
theorem d_R_complete_76 : decode b_R_complete 76 = .ok (.aload_n 0, 1) := by decide +kernel
theorem d_R_complete_77 : decode b_R_complete 77 = .ok (.iconst 0, 1) := by decide +kernel
theorem d_R_complete_78 : decode b_R_complete 78 = .ok (.putfield 31, 3) := by decide +kernel
theorem d_R_complete_81 : decode b_R_complete 81 = .ok (.return_, 1) := by decide +kernel
theorem d_R_wordStands_0 : decode b_R_wordStands 0 = .ok (.aload_n 0, 1) := by decide +kernel
theorem d_R_wordStands_1 : decode b_R_wordStands 1 = .ok (.getfield 27, 3) := by decide +kernel
theorem d_R_wordStands_4 : decode b_R_wordStands 4 = .ok (.bipush 127, 2) := by decide +kernel
theorem d_R_wordStands_6 : decode b_R_wordStands 6 = .ok (.iand, 1) := by decide +kernel
theorem d_R_wordStands_7 : decode b_R_wordStands 7 = .ok (.bipush 27, 2) := by decide +kernel
theorem d_R_wordStands_9 : decode b_R_wordStands 9 = .ok (.if_icmp .ne 7, 3) := by decide +kernel
theorem d_R_wordStands_12 : decode b_R_wordStands 12 = .ok (.iconst 1, 1) := by decide +kernel
theorem d_R_wordStands_13 : decode b_R_wordStands 13 = .ok (.goto 4, 3) := by decide +kernel
theorem d_R_wordStands_16 : decode b_R_wordStands 16 = .ok (.iconst 0, 1) := by decide +kernel
theorem d_R_wordStands_17 : decode b_R_wordStands 17 = .ok (.ireturn, 1) := by decide +kernel
theorem d_R_enter_0 : decode b_R_enter 0 = .ok (.aload_n 0, 1) := by decide +kernel
theorem d_R_enter_1 : decode b_R_enter 1 = .ok (.aload_n 1, 1) := by decide +kernel
theorem d_R_enter_2 : decode b_R_enter 2 = .ok (.putfield 24, 3) := by decide +kernel
theorem d_R_enter_5 : decode b_R_enter 5 = .ok (.aload_n 0, 1) := by decide +kernel
theorem d_R_enter_6 : decode b_R_enter 6 = .ok (.iconst 0, 1) := by decide +kernel
theorem d_R_enter_7 : decode b_R_enter 7 = .ok (.putfield 31, 3) := by decide +kernel
theorem d_R_enter_10 : decode b_R_enter 10 = .ok (.return_, 1) := by decide +kernel
theorem d_O_startAnew_0 : decode b_O_startAnew 0 = .ok (.aload_n 0, 1) := by decide +kernel
theorem d_O_startAnew_1 : decode b_O_startAnew 1 = .ok (.invokevirtual 52, 3) := by decide +kernel
theorem d_O_startAnew_4 : decode b_O_startAnew 4 = .ok (.aload_n 0, 1) := by decide +kernel
theorem d_O_startAnew_5 : decode b_O_startAnew 5 = .ok (.iconst 0, 1) := by decide +kernel
theorem d_O_startAnew_6 : decode b_O_startAnew 6 = .ok (.putfield 15, 3) := by decide +kernel
theorem d_O_startAnew_9 : decode b_O_startAnew 9 = .ok (.return_, 1) := by decide +kernel
theorem d_O_takeFrame_0 : decode b_O_takeFrame 0 = .ok (.iload_n 1, 1) := by decide +kernel
theorem d_O_takeFrame_1 : decode b_O_takeFrame 1 = .ok (.bipush 31, 2) := by decide +kernel
theorem d_O_takeFrame_3 : decode b_O_takeFrame 3 = .ok (.iushr, 1) := by decide +kernel
theorem d_O_takeFrame_4 : decode b_O_takeFrame 4 = .ok (.istore_n 3, 1) := by decide +kernel
theorem d_O_takeFrame_5 : decode b_O_takeFrame 5 = .ok (.iload_n 2, 1) := by decide +kernel
theorem d_O_takeFrame_6 : decode b_O_takeFrame 6 = .ok (.ifCond .eq 31, 3) := by decide +kernel
theorem d_O_takeFrame_9 : decode b_O_takeFrame 9 = .ok (.aload_n 0, 1) := by decide +kernel
theorem d_O_takeFrame_10 : decode b_O_takeFrame 10 = .ok (.dup, 1) := by decide +kernel
theorem d_O_takeFrame_11 : decode b_O_takeFrame 11 = .ok (.getfield 15, 3) := by decide +kernel
theorem d_O_takeFrame_14 : decode b_O_takeFrame 14 = .ok (.iconst 1, 1) := by decide +kernel
theorem d_O_takeFrame_15 : decode b_O_takeFrame 15 = .ok (.iadd, 1) := by decide +kernel
theorem d_O_takeFrame_16 : decode b_O_takeFrame 16 = .ok (.putfield 15, 3) := by decide +kernel
theorem d_O_takeFrame_19 : decode b_O_takeFrame 19 = .ok (.aload_n 0, 1) := by decide +kernel
theorem d_O_takeFrame_20 : decode b_O_takeFrame 20 = .ok (.aload_n 0, 1) := by decide +kernel
theorem d_O_takeFrame_21 : decode b_O_takeFrame 21 = .ok (.getfield 18, 3) := by decide +kernel
theorem d_O_takeFrame_24 : decode b_O_takeFrame 24 = .ok (.iconst 1, 1) := by decide +kernel
theorem d_O_takeFrame_25 : decode b_O_takeFrame 25 = .ok (.ishl, 1) := by decide +kernel
theorem d_O_takeFrame_26 : decode b_O_takeFrame 26 = .ok (.iload_n 3, 1) := by decide +kernel
theorem d_O_takeFrame_27 : decode b_O_takeFrame 27 = .ok (.ior, 1) := by decide +kernel
theorem d_O_takeFrame_28 : decode b_O_takeFrame 28 = .ok (.bipush 63, 2) := by decide +kernel
theorem d_O_takeFrame_30 : decode b_O_takeFrame 30 = .ok (.iand, 1) := by decide +kernel
theorem d_O_takeFrame_31 : decode b_O_takeFrame 31 = .ok (.putfield 18, 3) := by decide +kernel
theorem d_O_takeFrame_34 : decode b_O_takeFrame 34 = .ok (.goto 18, 3) := by decide +kernel
theorem d_O_takeFrame_37 : decode b_O_takeFrame 37 = .ok (.aload_n 0, 1) := by decide +kernel
theorem d_O_takeFrame_38 : decode b_O_takeFrame 38 = .ok (.aload_n 0, 1) := by decide +kernel
theorem d_O_takeFrame_39 : decode b_O_takeFrame 39 = .ok (.getfield 37, 3) := by decide +kernel
theorem d_O_takeFrame_42 : decode b_O_takeFrame 42 = .ok (.iconst 1, 1) := by decide +kernel
theorem d_O_takeFrame_43 : decode b_O_takeFrame 43 = .ok (.ishl, 1) := by decide +kernel
theorem d_O_takeFrame_44 : decode b_O_takeFrame 44 = .ok (.iload_n 3, 1) := by decide +kernel
theorem d_O_takeFrame_45 : decode b_O_takeFrame 45 = .ok (.ior, 1) := by decide +kernel
theorem d_O_takeFrame_46 : decode b_O_takeFrame 46 = .ok (.bipush 15, 2) := by decide +kernel
theorem d_O_takeFrame_48 : decode b_O_takeFrame 48 = .ok (.iand, 1) := by decide +kernel
theorem d_O_takeFrame_49 : decode b_O_takeFrame 49 = .ok (.putfield 37, 3) := by decide +kernel
theorem d_O_takeFrame_52 : decode b_O_takeFrame 52 = .ok (.aload_n 0, 1) := by decide +kernel
theorem d_O_takeFrame_53 : decode b_O_takeFrame 53 = .ok (.getfield 9, 3) := by decide +kernel
theorem d_O_takeFrame_56 : decode b_O_takeFrame 56 = .ok (.iconst (-1), 1) := by decide +kernel
theorem d_O_takeFrame_57 : decode b_O_takeFrame 57 = .ok (.if_icmp .ne 9, 3) := by decide +kernel
theorem d_O_takeFrame_60 : decode b_O_takeFrame 60 = .ok (.aload_n 0, 1) := by decide +kernel
theorem d_O_takeFrame_61 : decode b_O_takeFrame 61 = .ok (.iload_n 2, 1) := by decide +kernel
theorem d_O_takeFrame_62 : decode b_O_takeFrame 62 = .ok (.invokevirtual 55, 3) := by decide +kernel
theorem d_O_takeFrame_65 : decode b_O_takeFrame 65 = .ok (.return_, 1) := by decide +kernel
theorem d_O_takeFrame_66 : decode b_O_takeFrame 66 = .ok (.aload_n 0, 1) := by decide +kernel
theorem d_O_takeFrame_67 : decode b_O_takeFrame 67 = .ok (.aload_n 0, 1) := by decide +kernel
theorem d_O_takeFrame_68 : decode b_O_takeFrame 68 = .ok (.getfield 9, 3) := by decide +kernel
theorem d_O_takeFrame_71 : decode b_O_takeFrame 71 = .ok (.iconst 1, 1) := by decide +kernel
theorem d_O_takeFrame_72 : decode b_O_takeFrame 72 = .ok (.iadd, 1) := by decide +kernel
theorem d_O_takeFrame_73 : decode b_O_takeFrame 73 = .ok (.bipush 15, 2) := by decide +kernel
theorem d_O_takeFrame_75 : decode b_O_takeFrame 75 = .ok (.iand, 1) := by decide +kernel
theorem d_O_takeFrame_76 : decode b_O_takeFrame 76 = .ok (.putfield 9, 3) := by decide +kernel
theorem d_O_takeFrame_79 : decode b_O_takeFrame 79 = .ok (.aload_n 0, 1) := by decide +kernel
theorem d_O_takeFrame_80 : decode b_O_takeFrame 80 = .ok (.aload_n 0, 1) := by decide +kernel
theorem d_O_takeFrame_81 : decode b_O_takeFrame 81 = .ok (.getfield 31, 3) := by decide +kernel
theorem d_O_takeFrame_84 : decode b_O_takeFrame 84 = .ok (.iload_n 2, 1) := by decide +kernel
theorem d_O_takeFrame_85 : decode b_O_takeFrame 85 = .ok (.ifCond .eq 7, 3) := by decide +kernel
theorem d_O_takeFrame_88 : decode b_O_takeFrame 88 = .ok (.iload_n 1, 1) := by decide +kernel
theorem d_O_takeFrame_89 : decode b_O_takeFrame 89 = .ok (.goto 7, 3) := by decide +kernel
theorem d_O_takeFrame_92 : decode b_O_takeFrame 92 = .ok (.iload_n 1, 1) := by decide +kernel
theorem d_O_takeFrame_93 : decode b_O_takeFrame 93 = .ok (.ldc 59, 2) := by decide +kernel
theorem d_O_takeFrame_95 : decode b_O_takeFrame 95 = .ok (.iand, 1) := by decide +kernel
theorem d_O_takeFrame_96 : decode b_O_takeFrame 96 = .ok (.invokestatic 60, 3) := by decide +kernel
theorem d_O_takeFrame_99 : decode b_O_takeFrame 99 = .ok (.putfield 31, 3) := by decide +kernel
theorem d_O_takeFrame_102 : decode b_O_takeFrame 102 = .ok (.aload_n 0, 1) := by decide +kernel
theorem d_O_takeFrame_103 : decode b_O_takeFrame 103 = .ok (.getfield 9, 3) := by decide +kernel
theorem d_O_takeFrame_106 : decode b_O_takeFrame 106 = .ok (.bipush 11, 2) := by decide +kernel
theorem d_O_takeFrame_108 : decode b_O_takeFrame 108 = .ok (.if_icmp .ne 10, 3) := by decide +kernel
theorem d_O_takeFrame_111 : decode b_O_takeFrame 111 = .ok (.aload_n 0, 1) := by decide +kernel
theorem d_O_takeFrame_112 : decode b_O_takeFrame 112 = .ok (.invokevirtual 64, 3) := by decide +kernel
theorem d_O_takeFrame_115 : decode b_O_takeFrame 115 = .ok (.goto 35, 3) := by decide +kernel
theorem d_O_takeFrame_118 : decode b_O_takeFrame 118 = .ok (.iload_n 3, 1) := by decide +kernel
theorem d_O_takeFrame_119 : decode b_O_takeFrame 119 = .ok (.ifCond .ne 31, 3) := by decide +kernel
theorem d_O_takeFrame_122 : decode b_O_takeFrame 122 = .ok (.aload_n 0, 1) := by decide +kernel
theorem d_O_takeFrame_123 : decode b_O_takeFrame 123 = .ok (.getfield 9, 3) := by decide +kernel
theorem d_O_takeFrame_126 : decode b_O_takeFrame 126 = .ok (.bipush 13, 2) := by decide +kernel
theorem d_O_takeFrame_128 : decode b_O_takeFrame 128 = .ok (.if_icmp .eq 12, 3) := by decide +kernel
theorem d_O_takeFrame_131 : decode b_O_takeFrame 131 = .ok (.aload_n 0, 1) := by decide +kernel
theorem d_O_takeFrame_132 : decode b_O_takeFrame 132 = .ok (.getfield 9, 3) := by decide +kernel
theorem d_O_takeFrame_135 : decode b_O_takeFrame 135 = .ok (.bipush 15, 2) := by decide +kernel
theorem d_O_takeFrame_137 : decode b_O_takeFrame 137 = .ok (.if_icmp .ne 13, 3) := by decide +kernel
theorem d_O_takeFrame_140 : decode b_O_takeFrame 140 = .ok (.aload_n 0, 1) := by decide +kernel
theorem d_O_takeFrame_141 : decode b_O_takeFrame 141 = .ok (.dup, 1) := by decide +kernel
theorem d_O_takeFrame_142 : decode b_O_takeFrame 142 = .ok (.getfield 49, 3) := by decide +kernel
theorem d_O_takeFrame_145 : decode b_O_takeFrame 145 = .ok (.iconst 1, 1) := by decide +kernel
theorem d_O_takeFrame_146 : decode b_O_takeFrame 146 = .ok (.iadd, 1) := by decide +kernel
theorem d_O_takeFrame_147 : decode b_O_takeFrame 147 = .ok (.putfield 49, 3) := by decide +kernel
theorem d_O_takeFrame_150 : decode b_O_takeFrame 150 = .ok (.aload_n 0, 1) := by decide +kernel
theorem d_O_takeFrame_151 : decode b_O_takeFrame 151 = .ok (.getfield 9, 3) := by decide +kernel
theorem d_O_takeFrame_154 : decode b_O_takeFrame 154 = .ok (.invokestatic 67, 3) := by decide +kernel
theorem d_O_takeFrame_157 : decode b_O_takeFrame 157 = .ok (.ifCond .eq 7, 3) := by decide +kernel
theorem d_O_takeFrame_160 : decode b_O_takeFrame 160 = .ok (.aload_n 0, 1) := by decide +kernel
theorem d_O_takeFrame_161 : decode b_O_takeFrame 161 = .ok (.invokevirtual 71, 3) := by decide +kernel
theorem d_O_takeFrame_164 : decode b_O_takeFrame 164 = .ok (.return_, 1) := by decide +kernel
theorem d_O_findNumber_0 : decode b_O_findNumber 0 = .ok (.iload_n 1, 1) := by decide +kernel
theorem d_O_findNumber_1 : decode b_O_findNumber 1 = .ok (.ifCond .eq 32, 3) := by decide +kernel
theorem d_O_findNumber_4 : decode b_O_findNumber 4 = .ok (.aload_n 0, 1) := by decide +kernel
theorem d_O_findNumber_5 : decode b_O_findNumber 5 = .ok (.getfield 15, 3) := by decide +kernel
theorem d_O_findNumber_8 : decode b_O_findNumber 8 = .ok (.bipush 6, 2) := by decide +kernel
theorem d_O_findNumber_10 : decode b_O_findNumber 10 = .ok (.if_icmp .lt 23, 3) := by decide +kernel
theorem d_O_findNumber_13 : decode b_O_findNumber 13 = .ok (.aload_n 0, 1) := by decide +kernel
theorem d_O_findNumber_14 : decode b_O_findNumber 14 = .ok (.getfield 18, 3) := by decide +kernel
theorem d_O_findNumber_17 : decode b_O_findNumber 17 = .ok (.bipush 11, 2) := by decide +kernel
theorem d_O_findNumber_19 : decode b_O_findNumber 19 = .ok (.if_icmp .ne 14, 3) := by decide +kernel
theorem d_O_findNumber_22 : decode b_O_findNumber 22 = .ok (.aload_n 0, 1) := by decide +kernel
theorem d_O_findNumber_23 : decode b_O_findNumber 23 = .ok (.bipush 11, 2) := by decide +kernel
theorem d_O_findNumber_25 : decode b_O_findNumber 25 = .ok (.putfield 9, 3) := by decide +kernel
theorem d_O_findNumber_28 : decode b_O_findNumber 28 = .ok (.aload_n 0, 1) := by decide +kernel
theorem d_O_findNumber_29 : decode b_O_findNumber 29 = .ok (.iconst 0, 1) := by decide +kernel
theorem d_O_findNumber_30 : decode b_O_findNumber 30 = .ok (.putfield 21, 3) := by decide +kernel
theorem d_O_findNumber_33 : decode b_O_findNumber 33 = .ok (.return_, 1) := by decide +kernel
theorem d_O_judgeRoundWord_0 : decode b_O_judgeRoundWord 0 = .ok (.aload_n 0, 1) := by decide +kernel
theorem d_O_judgeRoundWord_1 : decode b_O_judgeRoundWord 1 = .ok (.aload_n 0, 1) := by decide +kernel
theorem d_O_judgeRoundWord_2 : decode b_O_judgeRoundWord 2 = .ok (.getfield 18, 3) := by decide +kernel
theorem d_O_judgeRoundWord_5 : decode b_O_judgeRoundWord 5 = .ok (.bipush 11, 2) := by decide +kernel
theorem d_O_judgeRoundWord_7 : decode b_O_judgeRoundWord 7 = .ok (.if_icmp .ne 7, 3) := by decide +kernel
theorem d_O_judgeRoundWord_10 : decode b_O_judgeRoundWord 10 = .ok (.iconst 0, 1) := by decide +kernel
theorem d_O_judgeRoundWord_11 : decode b_O_judgeRoundWord 11 = .ok (.goto 9, 3) := by decide +kernel
theorem d_O_judgeRoundWord_14 : decode b_O_judgeRoundWord 14 = .ok (.aload_n 0, 1) := by decide +kernel
theorem d_O_judgeRoundWord_15 : decode b_O_judgeRoundWord 15 = .ok (.getfield 21, 3) := by decide +kernel
theorem d_O_judgeRoundWord_18 : decode b_O_judgeRoundWord 18 = .ok (.iconst 1, 1) := by decide +kernel
theorem d_O_judgeRoundWord_19 : decode b_O_judgeRoundWord 19 = .ok (.iadd, 1) := by decide +kernel
theorem d_O_judgeRoundWord_20 : decode b_O_judgeRoundWord 20 = .ok (.putfield 21, 3) := by decide +kernel
theorem d_O_judgeRoundWord_23 : decode b_O_judgeRoundWord 23 = .ok (.aload_n 0, 1) := by decide +kernel
theorem d_O_judgeRoundWord_24 : decode b_O_judgeRoundWord 24 = .ok (.getfield 21, 3) := by decide +kernel
theorem d_O_judgeRoundWord_27 : decode b_O_judgeRoundWord 27 = .ok (.iconst 2, 1) := by decide +kernel
theorem d_O_judgeRoundWord_28 : decode b_O_judgeRoundWord 28 = .ok (.if_icmp .ne 7, 3) := by decide +kernel
theorem d_O_judgeRoundWord_31 : decode b_O_judgeRoundWord 31 = .ok (.aload_n 0, 1) := by decide +kernel
theorem d_O_judgeRoundWord_32 : decode b_O_judgeRoundWord 32 = .ok (.invokevirtual 52, 3) := by decide +kernel
theorem d_O_judgeRoundWord_35 : decode b_O_judgeRoundWord 35 = .ok (.return_, 1) := by decide +kernel
theorem d_O_endHalf_0 : decode b_O_endHalf 0 = .ok (.aload_n 0, 1) := by decide +kernel
theorem d_O_endHalf_1 : decode b_O_endHalf 1 = .ok (.getfield 28, 3) := by decide +kernel
theorem d_O_endHalf_4 : decode b_O_endHalf 4 = .ok (.ifCond .eq 7, 3) := by decide +kernel
theorem d_O_endHalf_7 : decode b_O_endHalf 7 = .ok (.aload_n 0, 1) := by decide +kernel
theorem d_O_endHalf_8 : decode b_O_endHalf 8 = .ok (.invokevirtual 74, 3) := by decide +kernel
theorem d_O_endHalf_11 : decode b_O_endHalf 11 = .ok (.aload_n 0, 1) := by decide +kernel
theorem d_O_endHalf_12 : decode b_O_endHalf 12 = .ok (.aload_n 0, 1) := by decide +kernel
theorem d_O_endHalf_13 : decode b_O_endHalf 13 = .ok (.getfield 24, 3) := by decide +kernel
theorem d_O_endHalf_16 : decode b_O_endHalf 16 = .ok (.putfield 28, 3) := by decide +kernel
theorem d_O_endHalf_19 : decode b_O_endHalf 19 = .ok (.aload_n 0, 1) := by decide +kernel
theorem d_O_endHalf_20 : decode b_O_endHalf 20 = .ok (.aload_n 0, 1) := by decide +kernel
theorem d_O_endHalf_21 : decode b_O_endHalf 21 = .ok (.getfield 31, 3) := by decide +kernel
theorem d_O_endHalf_24 : decode b_O_endHalf 24 = .ok (.putfield 34, 3) := by decide +kernel
theorem d_O_endHalf_27 : decode b_O_endHalf 27 = .ok (.aload_n 0, 1) := by decide +kernel
theorem d_O_endHalf_28 : decode b_O_endHalf 28 = .ok (.iconst 1, 1) := by decide +kernel
theorem d_O_endHalf_29 : decode b_O_endHalf 29 = .ok (.putfield 24, 3) := by decide +kernel
theorem d_O_endHalf_32 : decode b_O_endHalf 32 = .ok (.aload_n 0, 1) := by decide +kernel
theorem d_O_endHalf_33 : decode b_O_endHalf 33 = .ok (.iconst 0, 1) := by decide +kernel
theorem d_O_endHalf_34 : decode b_O_endHalf 34 = .ok (.putfield 31, 3) := by decide +kernel
theorem d_O_endHalf_37 : decode b_O_endHalf 37 = .ok (.return_, 1) := by decide +kernel
theorem d_O_judgeHalfBefore_0 : decode b_O_judgeHalfBefore 0 = .ok (.aload_n 0, 1) := by decide +kernel
theorem d_O_judgeHalfBefore_1 : decode b_O_judgeHalfBefore 1 = .ok (.getfield 37, 3) := by decide +kernel
theorem d_O_judgeHalfBefore_4 : decode b_O_judgeHalfBefore 4 = .ok (.aload_n 0, 1) := by decide +kernel
theorem d_O_judgeHalfBefore_5 : decode b_O_judgeHalfBefore 5 = .ok (.getfield 34, 3) := by decide +kernel
theorem d_O_judgeHalfBefore_8 : decode b_O_judgeHalfBefore 8 = .ok (.if_icmp .eq 7, 3) := by decide +kernel
theorem d_O_judgeHalfBefore_11 : decode b_O_judgeHalfBefore 11 = .ok (.iconst 1, 1) := by decide +kernel
theorem d_O_judgeHalfBefore_12 : decode b_O_judgeHalfBefore 12 = .ok (.goto 4, 3) := by decide +kernel
theorem d_O_judgeHalfBefore_15 : decode b_O_judgeHalfBefore 15 = .ok (.iconst 0, 1) := by decide +kernel
theorem d_O_judgeHalfBefore_16 : decode b_O_judgeHalfBefore 16 = .ok (.istore_n 1, 1) := by decide +kernel
theorem d_O_judgeHalfBefore_17 : decode b_O_judgeHalfBefore 17 = .ok (.iload_n 1, 1) := by decide +kernel
theorem d_O_judgeHalfBefore_18 : decode b_O_judgeHalfBefore 18 = .ok (.ifCond .eq 13, 3) := by decide +kernel
theorem d_O_judgeHalfBefore_21 : decode b_O_judgeHalfBefore 21 = .ok (.aload_n 0, 1) := by decide +kernel
theorem d_O_judgeHalfBefore_22 : decode b_O_judgeHalfBefore 22 = .ok (.dup, 1) := by decide +kernel
theorem d_O_judgeHalfBefore_23 : decode b_O_judgeHalfBefore 23 = .ok (.getfield 46, 3) := by decide +kernel
theorem d_O_judgeHalfBefore_26 : decode b_O_judgeHalfBefore 26 = .ok (.iconst 1, 1) := by decide +kernel
theorem d_O_judgeHalfBefore_27 : decode b_O_judgeHalfBefore 27 = .ok (.iadd, 1) := by decide +kernel
theorem d_O_judgeHalfBefore_28 : decode b_O_judgeHalfBefore 28 = .ok (.putfield 46, 3) := by decide +kernel
theorem d_O_judgeHalfBefore_31 : decode b_O_judgeHalfBefore 31 = .ok (.aload_n 0, 1) := by decide +kernel
theorem d_O_judgeHalfBefore_32 : decode b_O_judgeHalfBefore 32 = .ok (.getfield 9, 3) := by decide +kernel
theorem d_O_judgeHalfBefore_35 : decode b_O_judgeHalfBefore 35 = .ok (.bipush 15, 2) := by decide +kernel
theorem d_O_judgeHalfBefore_37 : decode b_O_judgeHalfBefore 37 = .ok (.if_icmp .ne 11, 3) := by decide +kernel
theorem d_O_judgeHalfBefore_40 : decode b_O_judgeHalfBefore 40 = .ok (.aload_n 0, 1) := by decide +kernel
theorem d_O_judgeHalfBefore_41 : decode b_O_judgeHalfBefore 41 = .ok (.iload_n 1, 1) := by decide +kernel
theorem d_O_judgeHalfBefore_42 : decode b_O_judgeHalfBefore 42 = .ok (.putfield 40, 3) := by decide +kernel
theorem d_O_judgeHalfBefore_45 : decode b_O_judgeHalfBefore 45 = .ok (.goto 8, 3) := by decide +kernel
theorem d_O_judgeHalfBefore_48 : decode b_O_judgeHalfBefore 48 = .ok (.aload_n 0, 1) := by decide +kernel
theorem d_O_judgeHalfBefore_49 : decode b_O_judgeHalfBefore 49 = .ok (.iload_n 1, 1) := by decide +kernel
theorem d_O_judgeHalfBefore_50 : decode b_O_judgeHalfBefore 50 = .ok (.putfield 43, 3) := by decide +kernel
theorem d_O_judgeHalfBefore_53 : decode b_O_judgeHalfBefore 53 = .ok (.return_, 1) := by decide +kernel
theorem d_O_forgetNumber_0 : decode b_O_forgetNumber 0 = .ok (.aload_n 0, 1) := by decide +kernel
theorem d_O_forgetNumber_1 : decode b_O_forgetNumber 1 = .ok (.iconst (-1), 1) := by decide +kernel
theorem d_O_forgetNumber_2 : decode b_O_forgetNumber 2 = .ok (.putfield 9, 3) := by decide +kernel
theorem d_O_forgetNumber_5 : decode b_O_forgetNumber 5 = .ok (.aload_n 0, 1) := by decide +kernel
theorem d_O_forgetNumber_6 : decode b_O_forgetNumber 6 = .ok (.iconst 0, 1) := by decide +kernel
theorem d_O_forgetNumber_7 : decode b_O_forgetNumber 7 = .ok (.putfield 24, 3) := by decide +kernel
theorem d_O_forgetNumber_10 : decode b_O_forgetNumber 10 = .ok (.aload_n 0, 1) := by decide +kernel
theorem d_O_forgetNumber_11 : decode b_O_forgetNumber 11 = .ok (.iconst 0, 1) := by decide +kernel
theorem d_O_forgetNumber_12 : decode b_O_forgetNumber 12 = .ok (.putfield 28, 3) := by decide +kernel
theorem d_O_forgetNumber_15 : decode b_O_forgetNumber 15 = .ok (.aload_n 0, 1) := by decide +kernel
theorem d_O_forgetNumber_16 : decode b_O_forgetNumber 16 = .ok (.iconst 0, 1) := by decide +kernel
theorem d_O_forgetNumber_17 : decode b_O_forgetNumber 17 = .ok (.putfield 40, 3) := by decide +kernel
theorem d_O_forgetNumber_20 : decode b_O_forgetNumber 20 = .ok (.aload_n 0, 1) := by decide +kernel
theorem d_O_forgetNumber_21 : decode b_O_forgetNumber 21 = .ok (.iconst 0, 1) := by decide +kernel
theorem d_O_forgetNumber_22 : decode b_O_forgetNumber 22 = .ok (.putfield 43, 3) := by decide +kernel
theorem d_O_forgetNumber_25 : decode b_O_forgetNumber 25 = .ok (.return_, 1) := by decide +kernel
theorem d_S_exchange_0 : decode b_S_exchange 0 = .ok (.aload_n 0, 1) := by decide +kernel
theorem d_S_exchange_1 : decode b_S_exchange 1 = .ok (.getfield 9, 3) := by decide +kernel
theorem d_S_exchange_4 : decode b_S_exchange 4 = .ok (.iload_n 1, 1) := by decide +kernel
theorem d_S_exchange_5 : decode b_S_exchange 5 = .ok (.iaload, 1) := by decide +kernel
theorem d_S_exchange_6 : decode b_S_exchange 6 = .ok (.istore_n 3, 1) := by decide +kernel
theorem d_S_exchange_7 : decode b_S_exchange 7 = .ok (.aload_n 0, 1) := by decide +kernel
theorem d_S_exchange_8 : decode b_S_exchange 8 = .ok (.getfield 9, 3) := by decide +kernel
theorem d_S_exchange_11 : decode b_S_exchange 11 = .ok (.iload_n 1, 1) := by decide +kernel
theorem d_S_exchange_12 : decode b_S_exchange 12 = .ok (.iload_n 2, 1) := by decide +kernel
theorem d_S_exchange_13 : decode b_S_exchange 13 = .ok (.iastore, 1) := by decide +kernel
theorem d_S_exchange_14 : decode b_S_exchange 14 = .ok (.iload_n 3, 1) := by decide +kernel
theorem d_S_exchange_15 : decode b_S_exchange 15 = .ok (.ireturn, 1) := by decide +kernel
theorem d_S_isBetweenFrames_0 : decode b_S_isBetweenFrames 0 = .ok (.aload_n 0, 1) := by decide +kernel
theorem d_S_isBetweenFrames_1 : decode b_S_isBetweenFrames 1 = .ok (.getfield 22, 3) := by decide +kernel
theorem d_S_isBetweenFrames_4 : decode b_S_isBetweenFrames 4 = .ok (.bipush 32, 2) := by decide +kernel
theorem d_S_isBetweenFrames_6 : decode b_S_isBetweenFrames 6 = .ok (.if_icmp .ne 7, 3) := by decide +kernel
theorem d_S_isBetweenFrames_9 : decode b_S_isBetweenFrames 9 = .ok (.iconst 1, 1) := by decide +kernel
theorem d_S_isBetweenFrames_10 : decode b_S_isBetweenFrames 10 = .ok (.goto 4, 3) := by decide +kernel
theorem d_S_isBetweenFrames_13 : decode b_S_isBetweenFrames 13 = .ok (.iconst 0, 1) := by decide +kernel
theorem d_S_isBetweenFrames_14 : decode b_S_isBetweenFrames 14 = .ok (.ireturn, 1) := by decide +kernel
theorem d_S_beginFrame_0 : decode b_S_beginFrame 0 = .ok (.aload_n 0, 1) := by decide +kernel
theorem d_S_beginFrame_1 : decode b_S_beginFrame 1 = .ok (.getfield 15, 3) := by decide +kernel
theorem d_S_beginFrame_4 : decode b_S_beginFrame 4 = .ok (.iconst 1, 1) := by decide +kernel
theorem d_S_beginFrame_5 : decode b_S_beginFrame 5 = .ok (.iand, 1) := by decide +kernel
theorem d_S_beginFrame_6 : decode b_S_beginFrame 6 = .ok (.iconst 1, 1) := by decide +kernel
theorem d_S_beginFrame_7 : decode b_S_beginFrame 7 = .ok (.if_icmp .ne 7, 3) := by decide +kernel
theorem d_S_beginFrame_10 : decode b_S_beginFrame 10 = .ok (.iconst 1, 1) := by decide +kernel
theorem d_S_beginFrame_11 : decode b_S_beginFrame 11 = .ok (.goto 4, 3) := by decide +kernel
theorem d_S_beginFrame_14 : decode b_S_beginFrame 14 = .ok (.iconst 0, 1) := by decide +kernel
theorem d_S_beginFrame_15 : decode b_S_beginFrame 15 = .ok (.istore_n 2, 1) := by decide +kernel
theorem d_S_beginFrame_16 : decode b_S_beginFrame 16 = .ok (.iload_n 2, 1) := by decide +kernel
theorem d_S_beginFrame_17 : decode b_S_beginFrame 17 = .ok (.ifCond .eq 11, 3) := by decide +kernel
theorem d_S_beginFrame_20 : decode b_S_beginFrame 20 = .ok (.aload_n 0, 1) := by decide +kernel
theorem d_S_beginFrame_21 : decode b_S_beginFrame 21 = .ok (.aload_n 1, 1) := by decide +kernel
theorem d_S_beginFrame_22 : decode b_S_beginFrame 22 = .ok (.invokevirtual 31, 3) := by decide +kernel
theorem d_S_beginFrame_25 : decode b_S_beginFrame 25 = .ok (.goto 7, 3) := by decide +kernel
theorem d_S_beginFrame_28 : decode b_S_beginFrame 28 = .ok (.aload_n 0, 1) := by decide +kernel
theorem d_S_beginFrame_29 : decode b_S_beginFrame 29 = .ok (.invokevirtual 35, 3) := by decide +kernel
theorem d_S_beginFrame_32 : decode b_S_beginFrame 32 = .ok (.istore_n 3, 1) := by decide +kernel
theorem d_S_beginFrame_33 : decode b_S_beginFrame 33 = .ok (.aload_n 0, 1) := by decide +kernel
theorem d_S_beginFrame_34 : decode b_S_beginFrame 34 = .ok (.iload_n 3, 1) := by decide +kernel
theorem d_S_beginFrame_35 : decode b_S_beginFrame 35 = .ok (.bipush 24, 2) := by decide +kernel
theorem d_S_beginFrame_37 : decode b_S_beginFrame 37 = .ok (.ishl, 1) := by decide +kernel
theorem d_S_beginFrame_38 : decode b_S_beginFrame 38 = .ok (.aload_n 0, 1) := by decide +kernel
theorem d_S_beginFrame_39 : decode b_S_beginFrame 39 = .ok (.getfield 9, 3) := by decide +kernel
theorem d_S_beginFrame_42 : decode b_S_beginFrame 42 = .ok (.iconst 1, 1) := by decide +kernel
theorem d_S_beginFrame_43 : decode b_S_beginFrame 43 = .ok (.iaload, 1) := by decide +kernel
theorem d_S_beginFrame_44 : decode b_S_beginFrame 44 = .ok (.bipush 16, 2) := by decide +kernel
theorem d_S_beginFrame_46 : decode b_S_beginFrame 46 = .ok (.ishl, 1) := by decide +kernel
theorem d_S_beginFrame_47 : decode b_S_beginFrame 47 = .ok (.ior, 1) := by decide +kernel
theorem d_S_beginFrame_48 : decode b_S_beginFrame 48 = .ok (.aload_n 0, 1) := by decide +kernel
theorem d_S_beginFrame_49 : decode b_S_beginFrame 49 = .ok (.getfield 9, 3) := by decide +kernel
theorem d_S_beginFrame_52 : decode b_S_beginFrame 52 = .ok (.iconst 2, 1) := by decide +kernel
theorem d_S_beginFrame_53 : decode b_S_beginFrame 53 = .ok (.iaload, 1) := by decide +kernel
theorem d_S_beginFrame_54 : decode b_S_beginFrame 54 = .ok (.bipush 8, 2) := by decide +kernel
theorem d_S_beginFrame_56 : decode b_S_beginFrame 56 = .ok (.ishl, 1) := by decide +kernel
theorem d_S_beginFrame_57 : decode b_S_beginFrame 57 = .ok (.ior, 1) := by decide +kernel
theorem d_S_beginFrame_58 : decode b_S_beginFrame 58 = .ok (.aload_n 0, 1) := by decide +kernel
theorem d_S_beginFrame_59 : decode b_S_beginFrame 59 = .ok (.getfield 9, 3) := by decide +kernel
theorem d_S_beginFrame_62 : decode b_S_beginFrame 62 = .ok (.iconst 3, 1) := by decide +kernel
theorem d_S_beginFrame_63 : decode b_S_beginFrame 63 = .ok (.iaload, 1) := by decide +kernel
theorem d_S_beginFrame_64 : decode b_S_beginFrame 64 = .ok (.ior, 1) := by decide +kernel
theorem d_S_beginFrame_65 : decode b_S_beginFrame 65 = .ok (.putfield 19, 3) := by decide +kernel
theorem d_S_beginFrame_68 : decode b_S_beginFrame 68 = .ok (.aload_n 0, 1) := by decide +kernel
theorem d_S_beginFrame_69 : decode b_S_beginFrame 69 = .ok (.aload_n 0, 1) := by decide +kernel
theorem d_S_beginFrame_70 : decode b_S_beginFrame 70 = .ok (.getfield 25, 3) := by decide +kernel
theorem d_S_beginFrame_73 : decode b_S_beginFrame 73 = .ok (.iload_n 2, 1) := by decide +kernel
theorem d_S_beginFrame_74 : decode b_S_beginFrame 74 = .ok (.ifCond .eq 10, 3) := by decide +kernel
theorem d_S_beginFrame_77 : decode b_S_beginFrame 77 = .ok (.aload_n 0, 1) := by decide +kernel
theorem d_S_beginFrame_78 : decode b_S_beginFrame 78 = .ok (.getfield 19, 3) := by decide +kernel
theorem d_S_beginFrame_81 : decode b_S_beginFrame 81 = .ok (.goto 10, 3) := by decide +kernel
theorem d_S_beginFrame_84 : decode b_S_beginFrame 84 = .ok (.aload_n 0, 1) := by decide +kernel
theorem d_S_beginFrame_85 : decode b_S_beginFrame 85 = .ok (.getfield 19, 3) := by decide +kernel
theorem d_S_beginFrame_88 : decode b_S_beginFrame 88 = .ok (.ldc 39, 2) := by decide +kernel
theorem d_S_beginFrame_90 : decode b_S_beginFrame 90 = .ok (.iand, 1) := by decide +kernel
theorem d_S_beginFrame_91 : decode b_S_beginFrame 91 = .ok (.invokestatic 40, 3) := by decide +kernel
theorem d_S_beginFrame_94 : decode b_S_beginFrame 94 = .ok (.putfield 25, 3) := by decide +kernel
theorem d_S_beginFrame_97 : decode b_S_beginFrame 97 = .ok (.aload_n 0, 1) := by decide +kernel
theorem d_S_beginFrame_98 : decode b_S_beginFrame 98 = .ok (.iconst 0, 1) := by decide +kernel
theorem d_S_beginFrame_99 : decode b_S_beginFrame 99 = .ok (.putfield 22, 3) := by decide +kernel
theorem d_S_beginFrame_102 : decode b_S_beginFrame 102 = .ok (.aload_n 0, 1) := by decide +kernel
theorem d_S_beginFrame_103 : decode b_S_beginFrame 103 = .ok (.getfield 15, 3) := by decide +kernel
theorem d_S_beginFrame_106 : decode b_S_beginFrame 106 = .ok (.invokestatic 44, 3) := by decide +kernel
theorem d_S_beginFrame_109 : decode b_S_beginFrame 109 = .ok (.ifCond .eq 16, 3) := by decide +kernel
theorem d_S_beginFrame_112 : decode b_S_beginFrame 112 = .ok (.aload_n 0, 1) := by decide +kernel
theorem d_S_beginFrame_113 : decode b_S_beginFrame 113 = .ok (.aload_n 0, 1) := by decide +kernel
theorem d_S_beginFrame_114 : decode b_S_beginFrame 114 = .ok (.getfield 25, 3) := by decide +kernel
theorem d_S_beginFrame_117 : decode b_S_beginFrame 117 = .ok (.putfield 28, 3) := by decide +kernel
theorem d_S_beginFrame_120 : decode b_S_beginFrame 120 = .ok (.aload_n 0, 1) := by decide +kernel
theorem d_S_beginFrame_121 : decode b_S_beginFrame 121 = .ok (.iconst 0, 1) := by decide +kernel
theorem d_S_beginFrame_122 : decode b_S_beginFrame 122 = .ok (.putfield 25, 3) := by decide +kernel
theorem d_S_beginFrame_125 : decode b_S_beginFrame 125 = .ok (.aload_n 0, 1) := by decide +kernel
theorem d_S_beginFrame_126 : decode b_S_beginFrame 126 = .ok (.aload_n 0, 1) := by decide +kernel
theorem d_S_beginFrame_127 : decode b_S_beginFrame 127 = .ok (.getfield 15, 3) := by decide +kernel
theorem d_S_beginFrame_130 : decode b_S_beginFrame 130 = .ok (.iconst 1, 1) := by decide +kernel
theorem d_S_beginFrame_131 : decode b_S_beginFrame 131 = .ok (.iadd, 1) := by decide +kernel
theorem d_S_beginFrame_132 : decode b_S_beginFrame 132 = .ok (.bipush 15, 2) := by decide +kernel
theorem d_S_beginFrame_134 : decode b_S_beginFrame 134 = .ok (.iand, 1) := by decide +kernel
theorem d_S_beginFrame_135 : decode b_S_beginFrame 135 = .ok (.putfield 15, 3) := by decide +kernel
theorem d_S_beginFrame_138 : decode b_S_beginFrame 138 = .ok (.return_, 1) := by decide +kernel
theorem d_S_nextBit_0 : decode b_S_nextBit 0 = .ok (.aload_n 0, 1) := by decide +kernel
theorem d_S_nextBit_1 : decode b_S_nextBit 1 = .ok (.dup, 1) := by decide +kernel
theorem d_S_nextBit_2 : decode b_S_nextBit 2 = .ok (.getfield 22, 3) := by decide +kernel
theorem d_S_nextBit_5 : decode b_S_nextBit 5 = .ok (.iconst 1, 1) := by decide +kernel
theorem d_S_nextBit_6 : decode b_S_nextBit 6 = .ok (.iadd, 1) := by decide +kernel
theorem d_S_nextBit_7 : decode b_S_nextBit 7 = .ok (.putfield 22, 3) := by decide +kernel
theorem d_S_nextBit_10 : decode b_S_nextBit 10 = .ok (.aload_n 0, 1) := by decide +kernel
theorem d_S_nextBit_11 : decode b_S_nextBit 11 = .ok (.getfield 19, 3) := by decide +kernel
theorem d_S_nextBit_14 : decode b_S_nextBit 14 = .ok (.bipush 32, 2) := by decide +kernel
theorem d_S_nextBit_16 : decode b_S_nextBit 16 = .ok (.aload_n 0, 1) := by decide +kernel
theorem d_S_nextBit_17 : decode b_S_nextBit 17 = .ok (.getfield 22, 3) := by decide +kernel
theorem d_S_nextBit_20 : decode b_S_nextBit 20 = .ok (.isub, 1) := by decide +kernel
theorem d_S_nextBit_21 : decode b_S_nextBit 21 = .ok (.iushr, 1) := by decide +kernel
theorem d_S_nextBit_22 : decode b_S_nextBit 22 = .ok (.iconst 1, 1) := by decide +kernel
theorem d_S_nextBit_23 : decode b_S_nextBit 23 = .ok (.iand, 1) := by decide +kernel
theorem d_S_nextBit_24 : decode b_S_nextBit 24 = .ok (.ireturn, 1) := by decide +kernel
theorem d_S_evenSlotZero_0 : decode b_S_evenSlotZero 0 = .ok (.aload_n 0, 1) := by decide +kernel
theorem d_S_evenSlotZero_1 : decode b_S_evenSlotZero 1 = .ok (.getfield 15, 3) := by decide +kernel
theorem d_S_evenSlotZero_4 : decode b_S_evenSlotZero 4 = .ok (.iconst 1, 1) := by decide +kernel
theorem d_S_evenSlotZero_5 : decode b_S_evenSlotZero 5 = .ok (.ishr, 1) := by decide +kernel
theorem d_S_evenSlotZero_6 : decode b_S_evenSlotZero 6 = .ok (.iconst 3, 1) := by decide +kernel
theorem d_S_evenSlotZero_7 : decode b_S_evenSlotZero 7 = .ok (.iand, 1) := by decide +kernel
theorem d_S_evenSlotZero_8 : decode b_S_evenSlotZero 8 = .ok (.istore_n 1, 1) := by decide +kernel
theorem d_S_evenSlotZero_9 : decode b_S_evenSlotZero 9 = .ok (.aload_n 0, 1) := by decide +kernel
theorem d_S_evenSlotZero_10 : decode b_S_evenSlotZero 10 = .ok (.getfield 28, 3) := by decide +kernel
theorem d_S_evenSlotZero_13 : decode b_S_evenSlotZero 13 = .ok (.iconst 3, 1) := by decide +kernel
theorem d_S_evenSlotZero_14 : decode b_S_evenSlotZero 14 = .ok (.iload_n 1, 1) := by decide +kernel
theorem d_S_evenSlotZero_15 : decode b_S_evenSlotZero 15 = .ok (.isub, 1) := by decide +kernel
theorem d_S_evenSlotZero_16 : decode b_S_evenSlotZero 16 = .ok (.ishr, 1) := by decide +kernel
theorem d_S_evenSlotZero_17 : decode b_S_evenSlotZero 17 = .ok (.iconst 1, 1) := by decide +kernel
theorem d_S_evenSlotZero_18 : decode b_S_evenSlotZero 18 = .ok (.iand, 1) := by decide +kernel
theorem d_S_evenSlotZero_19 : decode b_S_evenSlotZero 19 = .ok (.istore_n 2, 1) := by decide +kernel
theorem d_S_evenSlotZero_20 : decode b_S_evenSlotZero 20 = .ok (.iload_n 2, 1) := by decide +kernel
theorem d_S_evenSlotZero_21 : decode b_S_evenSlotZero 21 = .ok (.bipush 7, 2) := by decide +kernel
theorem d_S_evenSlotZero_23 : decode b_S_evenSlotZero 23 = .ok (.ishl, 1) := by decide +kernel
theorem d_S_evenSlotZero_24 : decode b_S_evenSlotZero 24 = .ok (.bipush 27, 2) := by decide +kernel
theorem d_S_evenSlotZero_26 : decode b_S_evenSlotZero 26 = .ok (.ior, 1) := by decide +kernel
theorem d_S_evenSlotZero_27 : decode b_S_evenSlotZero 27 = .ok (.ireturn, 1) := by decide +kernel
theorem d_S_oddSlotZero_0 : decode b_S_oddSlotZero 0 = .ok (.aload_n 1, 1) := by decide +kernel
theorem d_S_oddSlotZero_1 : decode b_S_oddSlotZero 1 = .ok (.invokevirtual 48, 3) := by decide +kernel
theorem d_S_oddSlotZero_4 : decode b_S_oddSlotZero 4 = .ok (.ifCond .eq 7, 3) := by decide +kernel
theorem d_S_oddSlotZero_7 : decode b_S_oddSlotZero 7 = .ok (.iconst 0, 1) := by decide +kernel
theorem d_S_oddSlotZero_8 : decode b_S_oddSlotZero 8 = .ok (.goto 5, 3) := by decide +kernel
theorem d_S_oddSlotZero_11 : decode b_S_oddSlotZero 11 = .ok (.bipush 32, 2) := by decide +kernel
theorem d_S_oddSlotZero_13 : decode b_S_oddSlotZero 13 = .ok (.istore_n 2, 1) := by decide +kernel
theorem d_S_oddSlotZero_14 : decode b_S_oddSlotZero 14 = .ok (.aload_n 0, 1) := by decide +kernel
theorem d_S_oddSlotZero_15 : decode b_S_oddSlotZero 15 = .ok (.aload_n 1, 1) := by decide +kernel
theorem d_S_oddSlotZero_16 : decode b_S_oddSlotZero 16 = .ok (.getfield 54, 3) := by decide +kernel
theorem d_S_oddSlotZero_19 : decode b_S_oddSlotZero 19 = .ok (.invokevirtual 58, 3) := by decide +kernel
theorem d_S_oddSlotZero_22 : decode b_S_oddSlotZero 22 = .ok (.bipush 7, 2) := by decide +kernel
theorem d_S_oddSlotZero_24 : decode b_S_oddSlotZero 24 = .ok (.ishl, 1) := by decide +kernel
theorem d_S_oddSlotZero_25 : decode b_S_oddSlotZero 25 = .ok (.bipush 95, 2) := by decide +kernel
theorem d_S_oddSlotZero_27 : decode b_S_oddSlotZero 27 = .ok (.ior, 1) := by decide +kernel
theorem d_S_oddSlotZero_28 : decode b_S_oddSlotZero 28 = .ok (.iload_n 2, 1) := by decide +kernel
theorem d_S_oddSlotZero_29 : decode b_S_oddSlotZero 29 = .ok (.ior, 1) := by decide +kernel
theorem d_S_oddSlotZero_30 : decode b_S_oddSlotZero 30 = .ok (.ireturn, 1) := by decide +kernel
theorem d_S_firstBitOfOdd_0 : decode b_S_firstBitOfOdd 0 = .ok (.aload_n 0, 1) := by decide +kernel
theorem d_S_firstBitOfOdd_1 : decode b_S_firstBitOfOdd 1 = .ok (.getfield 15, 3) := by decide +kernel
theorem d_S_firstBitOfOdd_4 : decode b_S_firstBitOfOdd 4 = .ok (.bipush 11, 2) := by decide +kernel
theorem d_S_firstBitOfOdd_6 : decode b_S_firstBitOfOdd 6 = .ok (.if_icmp .gt 17, 3) := by decide +kernel
theorem d_S_firstBitOfOdd_9 : decode b_S_firstBitOfOdd 9 = .ok (.bipush 11, 2) := by decide +kernel
theorem d_S_firstBitOfOdd_11 : decode b_S_firstBitOfOdd 11 = .ok (.iconst 5, 1) := by decide +kernel
theorem d_S_firstBitOfOdd_12 : decode b_S_firstBitOfOdd 12 = .ok (.aload_n 0, 1) := by decide +kernel
theorem d_S_firstBitOfOdd_13 : decode b_S_firstBitOfOdd 13 = .ok (.getfield 15, 3) := by decide +kernel
theorem d_S_firstBitOfOdd_16 : decode b_S_firstBitOfOdd 16 = .ok (.iconst 1, 1) := by decide +kernel
theorem d_S_firstBitOfOdd_17 : decode b_S_firstBitOfOdd 17 = .ok (.ishr, 1) := by decide +kernel
theorem d_S_firstBitOfOdd_18 : decode b_S_firstBitOfOdd 18 = .ok (.isub, 1) := by decide +kernel
theorem d_S_firstBitOfOdd_19 : decode b_S_firstBitOfOdd 19 = .ok (.ishr, 1) := by decide +kernel
theorem d_S_firstBitOfOdd_20 : decode b_S_firstBitOfOdd 20 = .ok (.iconst 1, 1) := by decide +kernel
theorem d_S_firstBitOfOdd_21 : decode b_S_firstBitOfOdd 21 = .ok (.iand, 1) := by decide +kernel
theorem d_S_firstBitOfOdd_22 : decode b_S_firstBitOfOdd 22 = .ok (.ireturn, 1) := by decide +kernel
theorem d_S_firstBitOfOdd_23 : decode b_S_firstBitOfOdd 23 = .ok (.aload_n 0, 1) := by decide +kernel
theorem d_S_firstBitOfOdd_24 : decode b_S_firstBitOfOdd 24 = .ok (.getfield 15, 3) := by decide +kernel
theorem d_S_firstBitOfOdd_27 : decode b_S_firstBitOfOdd 27 = .ok (.bipush 13, 2) := by decide +kernel
theorem d_S_firstBitOfOdd_29 : decode b_S_firstBitOfOdd 29 = .ok (.if_icmp .ne 10, 3) := by decide +kernel
theorem d_S_firstBitOfOdd_32 : decode b_S_firstBitOfOdd 32 = .ok (.aload_n 1, 1) := by decide +kernel
theorem d_S_firstBitOfOdd_33 : decode b_S_firstBitOfOdd 33 = .ok (.getfield 62, 3) := by decide +kernel
theorem d_S_firstBitOfOdd_36 : decode b_S_firstBitOfOdd 36 = .ok (.goto 7, 3) := by decide +kernel
theorem d_S_firstBitOfOdd_39 : decode b_S_firstBitOfOdd 39 = .ok (.aload_n 1, 1) := by decide +kernel
theorem d_S_firstBitOfOdd_40 : decode b_S_firstBitOfOdd 40 = .ok (.getfield 68, 3) := by decide +kernel
theorem d_S_firstBitOfOdd_43 : decode b_S_firstBitOfOdd 43 = .ok (.istore_n 2, 1) := by decide +kernel
theorem d_S_firstBitOfOdd_44 : decode b_S_firstBitOfOdd 44 = .ok (.iload_n 2, 1) := by decide +kernel
theorem d_S_firstBitOfOdd_45 : decode b_S_firstBitOfOdd 45 = .ok (.ifCond .eq 7, 3) := by decide +kernel
theorem d_S_firstBitOfOdd_48 : decode b_S_firstBitOfOdd 48 = .ok (.iconst 0, 1) := by decide +kernel
theorem d_S_firstBitOfOdd_49 : decode b_S_firstBitOfOdd 49 = .ok (.goto 4, 3) := by decide +kernel
theorem d_S_firstBitOfOdd_52 : decode b_S_firstBitOfOdd 52 = .ok (.iconst 1, 1) := by decide +kernel
theorem d_S_firstBitOfOdd_53 : decode b_S_firstBitOfOdd 53 = .ok (.ireturn, 1) := by decide +kernel
theorem d_F_checkOver_0 : decode b_F_checkOver 0 = .ok (.iload_n 0, 1) := by decide +kernel
theorem d_F_checkOver_1 : decode b_F_checkOver 1 = .ok (.istore_n 2, 1) := by decide +kernel
theorem d_F_checkOver_2 : decode b_F_checkOver 2 = .ok (.bipush 31, 2) := by decide +kernel
theorem d_F_checkOver_4 : decode b_F_checkOver 4 = .ok (.istore_n 3, 1) := by decide +kernel
theorem d_F_checkOver_5 : decode b_F_checkOver 5 = .ok (.iload_n 3, 1) := by decide +kernel
theorem d_F_checkOver_6 : decode b_F_checkOver 6 = .ok (.ifCond .lt 37, 3) := by decide +kernel
theorem d_F_checkOver_9 : decode b_F_checkOver 9 = .ok (.iload_n 1, 1) := by decide +kernel
theorem d_F_checkOver_10 : decode b_F_checkOver 10 = .ok (.iload_n 3, 1) := by decide +kernel
theorem d_F_checkOver_11 : decode b_F_checkOver 11 = .ok (.iushr, 1) := by decide +kernel
theorem d_F_checkOver_12 : decode b_F_checkOver 12 = .ok (.iconst 1, 1) := by decide +kernel
theorem d_F_checkOver_13 : decode b_F_checkOver 13 = .ok (.iand, 1) := by decide +kernel
theorem d_F_checkOver_14 : decode b_F_checkOver 14 = .ok (.iload_n 2, 1) := by decide +kernel
theorem d_F_checkOver_15 : decode b_F_checkOver 15 = .ok (.iconst 3, 1) := by decide +kernel
theorem d_F_checkOver_16 : decode b_F_checkOver 16 = .ok (.ishr, 1) := by decide +kernel
theorem d_F_checkOver_17 : decode b_F_checkOver 17 = .ok (.ixor, 1) := by decide +kernel
theorem d_F_checkOver_18 : decode b_F_checkOver 18 = .ok (.istore 4, 2) := by decide +kernel
theorem d_F_checkOver_20 : decode b_F_checkOver 20 = .ok (.iload_n 2, 1) := by decide +kernel
theorem d_F_checkOver_21 : decode b_F_checkOver 21 = .ok (.iconst 1, 1) := by decide +kernel
theorem d_F_checkOver_22 : decode b_F_checkOver 22 = .ok (.ishl, 1) := by decide +kernel
theorem d_F_checkOver_23 : decode b_F_checkOver 23 = .ok (.bipush 15, 2) := by decide +kernel
theorem d_F_checkOver_25 : decode b_F_checkOver 25 = .ok (.iand, 1) := by decide +kernel
theorem d_F_checkOver_26 : decode b_F_checkOver 26 = .ok (.istore_n 2, 1) := by decide +kernel
theorem d_F_checkOver_27 : decode b_F_checkOver 27 = .ok (.iload 4, 2) := by decide +kernel
theorem d_F_checkOver_29 : decode b_F_checkOver 29 = .ok (.iconst 1, 1) := by decide +kernel
theorem d_F_checkOver_30 : decode b_F_checkOver 30 = .ok (.if_icmp .ne 7, 3) := by decide +kernel
theorem d_F_checkOver_33 : decode b_F_checkOver 33 = .ok (.iload_n 2, 1) := by decide +kernel
theorem d_F_checkOver_34 : decode b_F_checkOver 34 = .ok (.iconst 3, 1) := by decide +kernel
theorem d_F_checkOver_35 : decode b_F_checkOver 35 = .ok (.ixor, 1) := by decide +kernel
theorem d_F_checkOver_36 : decode b_F_checkOver 36 = .ok (.istore_n 2, 1) := by decide +kernel
theorem d_F_checkOver_37 : decode b_F_checkOver 37 = .ok (.iinc 3 (-1), 3) := by decide +kernel
theorem d_F_checkOver_40 : decode b_F_checkOver 40 = .ok (.goto (-35), 3) := by decide +kernel
theorem d_F_checkOver_43 : decode b_F_checkOver 43 = .ok (.iload_n 2, 1) := by decide +kernel
theorem d_F_checkOver_44 : decode b_F_checkOver 44 = .ok (.ireturn, 1) := by decide +kernel
theorem d_F_endsHalf_0 : decode b_F_endsHalf 0 = .ok (.iload_n 0, 1) := by decide +kernel
theorem d_F_endsHalf_1 : decode b_F_endsHalf 1 = .ok (.bipush 7, 2) := by decide +kernel
theorem d_F_endsHalf_3 : decode b_F_endsHalf 3 = .ok (.if_icmp .eq 9, 3) := by decide +kernel
theorem d_F_endsHalf_6 : decode b_F_endsHalf 6 = .ok (.iload_n 0, 1) := by decide +kernel
theorem d_F_endsHalf_7 : decode b_F_endsHalf 7 = .ok (.bipush 15, 2) := by decide +kernel
theorem d_F_endsHalf_9 : decode b_F_endsHalf 9 = .ok (.if_icmp .ne 7, 3) := by decide +kernel
theorem d_F_endsHalf_12 : decode b_F_endsHalf 12 = .ok (.iconst 1, 1) := by decide +kernel
theorem d_F_endsHalf_13 : decode b_F_endsHalf 13 = .ok (.goto 4, 3) := by decide +kernel
theorem d_F_endsHalf_16 : decode b_F_endsHalf 16 = .ok (.iconst 0, 1) := by decide +kernel
theorem d_F_endsHalf_17 : decode b_F_endsHalf 17 = .ok (.ireturn, 1) := by decide +kernel
end
section
theorem tn_nI {w : Nat} (h : w < 2 ^ 31) : tn (nI w) = w := nI_clamp h
theorem co_back {x : Int32} {d : Nat} (h : x = nI (d + 1) - 2 ∧ d + 1 ≤ 33 ∧ 1 ≤ d + 1) (h1 : ¬ x < 0) : x + (-1) = nI d - 2 ∧ d ≤ 33 ∧ 1 ≤ d := by
  obtain ⟨rfl, h2, -⟩ := h
  have key : ∀ d, d < 33 → ¬ (nI (d + 1) - 2 < 0) → nI (d + 1) - 2 + (-1) = nI d - 2 ∧ d ≤ 33 ∧ 1 ≤ d := by decide +kernel
  exact key d (by omega) h1
end
section
def sp_D_takeV (c : Nat) (G0 : Mem) (a1 : Int32) : Mem :=
  (if a1 = (G0 c 2) then (wr (wr (wr G0 c 4 0) c 6 ((G0 c 6) + 1)) c 2 a1) else (wr (wr G0 c 4 0) c 2 a1))
set_option maxHeartbeats 4000000 in
set_option maxRecDepth 100000 in
theorem c_D_takeV (l : Launch) (P : gP) (G0 : Mem) (c : Nat) (a1 : Int32) (hc : kD c) : gMv l y_D_takeV b_D_takeV 2 none ({ frames := 0, cells := 0, slots := 0, locals := 0 }) [.ref (gad P c), .int a1] P G0 (sp_D_takeV c G0 a1) := by
  refine Met.ofW (cc := b_D_takeV) (maxL := 2) (ret := none) (by decide) rfl ?_
  intro p e s m args below meth c0 s₁ B hml hv
  obtain ⟨rfl, hpre⟩ := hv
  obtain ⟨E, hH⟩ := gE_of B hml hpre
  replace E : gE p s m _ meth c0 P "FramedLine$Decoder" b_D_takeV 2 none := E
  have hcU := hc
  unfold kD at hcU
  have hx := E.1
  have hb := E.2.1
  have hl := lv_entry ([.ref (gad P c), .int a1]) (n := 2) (Nat.le_of_ble_eq_true rfl)
  rw [lg_entry_eq]
  generalize (lg_sl ([.ref (gad P c), .int a1]) ++ List.replicate (2 - (lg_sl ([.ref (gad P c), .int a1])).length) Slot.unset).toArray = ls at hl ⊢
  replace hl : lv_has ls 2 [(0, .ref (gad P c)), (1, .int a1)] := hl
  have hsp : sp_D_takeV c G0 a1 = sp_D_takeV c G0 a1 := rfl
  refine lv_aload_n hx hb d_D_takeV_0 rfl (lv_at hl 0 rfl) ?_
  refine lv_iconst (v := 0) hx hb d_D_takeV_1 (by decide) ?_
  refine g_puti E hH (gc_D hc) cl_D ct_D 4 (by decide) lf_D_24 rfl (by decide +kernel) (fun _ _ => rfl) (Nat.le_of_ble_eq_true rfl) d_D_takeV_2 (fun H locs hH => ?_)
  refine lv_iload_n hx hb d_D_takeV_5 rfl (lv_at hl 1 rfl) ?_
  refine lv_aload_n hx hb d_D_takeV_6 rfl (lv_at hl 0 rfl) ?_
  refine g_geti (v := (G0 c 2)) E hH (gc_D hc) cl_D 2 (by decide) lf_D_18 (fun _ => rfl) (wr_k _ _ _ _ (by decide)) d_D_takeV_7 ?_
  refine lv_icmp_ne (tgt := 23) hx hb d_D_takeV_10 (by decide) (fun h1 => ?_) (fun h1 => ?_)
  · refine lv_aload_n hx hb d_D_takeV_23 rfl (lv_at hl 0 rfl) ?_
    refine lv_iload_n hx hb d_D_takeV_24 rfl (lv_at hl 1 rfl) ?_
    refine g_puti E hH (gc_D hc) cl_D ct_D 2 (by decide) lf_D_18 rfl (by decide +kernel) (fun _ _ => rfl) (Nat.le_of_ble_eq_true rfl) d_D_takeV_25 (fun H locs hH => ?_)
    exact g_vret E hH (hsp.trans (by simp only [sp_D_takeV, if_neg h1])) d_D_takeV_28
  · refine lv_aload_n hx hb d_D_takeV_13 rfl (lv_at hl 0 rfl) ?_
    refine lv_dup hx hb d_D_takeV_14 rfl ?_
    refine g_geti (v := (G0 c 6)) E hH (gc_D hc) cl_D 6 (by decide) lf_D_30 (fun _ => rfl) (wr_k _ _ _ _ (by decide)) d_D_takeV_15 ?_
    refine lv_iconst (v := 1) hx hb d_D_takeV_18 (by decide) ?_
    refine lv_iadd hx hb d_D_takeV_19 ?_
    refine g_puti E hH (gc_D hc) cl_D ct_D 6 (by decide) lf_D_30 rfl (by decide +kernel) (fun _ _ => rfl) (Nat.le_of_ble_eq_true rfl) d_D_takeV_20 (fun H locs hH => ?_)
    refine lv_aload_n hx hb d_D_takeV_23 rfl (lv_at hl 0 rfl) ?_
    refine lv_iload_n hx hb d_D_takeV_24 rfl (lv_at hl 1 rfl) ?_
    refine g_puti E hH (gc_D hc) cl_D ct_D 2 (by decide) lf_D_18 rfl (by decide +kernel) (fun _ _ => rfl) (Nat.le_of_ble_eq_true rfl) d_D_takeV_25 (fun H locs hH => ?_)
    exact g_vret E hH (hsp.trans (by simp only [sp_D_takeV, if_pos h1])) d_D_takeV_28

def sp_D_takeZero (c : Nat) (G0 : Mem)  : Mem :=
  (if (G0 c 1) = 0 then (wr (wr G0 c 4 (((G0 c 4) <<< ((1 : Int32) &&& 31)) &&& (15 : Int32))) c 3 ((G0 c 3) + 1)) else (if (((G0 c 3) + 1) &&& (3 : Int32)) = 0 then (wr (wr (wr G0 c 4 (((G0 c 4) <<< ((1 : Int32) &&& 31)) &&& (15 : Int32))) c 3 ((G0 c 3) + 1)) c 6 ((G0 c 6) + 1)) else (wr (wr G0 c 4 (((G0 c 4) <<< ((1 : Int32) &&& 31)) &&& (15 : Int32))) c 3 ((G0 c 3) + 1))))
set_option maxHeartbeats 4000000 in
set_option maxRecDepth 100000 in
theorem c_D_takeZero (l : Launch) (P : gP) (G0 : Mem) (c : Nat)  (hc : kD c) : gMv l y_D_takeZero b_D_takeZero 1 none ({ frames := 0, cells := 0, slots := 0, locals := 0 }) [.ref (gad P c)] P G0 (sp_D_takeZero c G0) := by
  refine Met.ofW (cc := b_D_takeZero) (maxL := 1) (ret := none) (by decide) rfl ?_
  intro p e s m args below meth c0 s₁ B hml hv
  obtain ⟨rfl, hpre⟩ := hv
  obtain ⟨E, hH⟩ := gE_of B hml hpre
  replace E : gE p s m _ meth c0 P "FramedLine$Decoder" b_D_takeZero 1 none := E
  have hcU := hc
  unfold kD at hcU
  have hx := E.1
  have hb := E.2.1
  have hl := lv_entry ([.ref (gad P c)]) (n := 1) (Nat.le_of_ble_eq_true rfl)
  rw [lg_entry_eq]
  generalize (lg_sl ([.ref (gad P c)]) ++ List.replicate (1 - (lg_sl ([.ref (gad P c)])).length) Slot.unset).toArray = ls at hl ⊢
  replace hl : lv_has ls 1 [(0, .ref (gad P c))] := hl
  have hsp : sp_D_takeZero c G0 = sp_D_takeZero c G0 := rfl
  refine lv_aload_n hx hb d_D_takeZero_0 rfl (lv_at hl 0 rfl) ?_
  refine lv_aload_n hx hb d_D_takeZero_1 rfl (lv_at hl 0 rfl) ?_
  refine g_geti (v := (G0 c 4)) E hH (gc_D hc) cl_D 4 (by decide) lf_D_24 (fun _ => rfl) rfl d_D_takeZero_2 ?_
  refine lv_iconst (v := 1) hx hb d_D_takeZero_5 (by decide) ?_
  refine lv_ishl hx hb d_D_takeZero_6 ?_
  refine lv_bipush (v := 15) hx hb d_D_takeZero_7 (by decide) ?_
  refine lv_iand hx hb d_D_takeZero_9 ?_
  refine g_puti E hH (gc_D hc) cl_D ct_D 4 (by decide) lf_D_24 rfl (by decide +kernel) (fun _ _ => rfl) (Nat.le_of_ble_eq_true rfl) d_D_takeZero_10 (fun H locs hH => ?_)
  refine lv_aload_n hx hb d_D_takeZero_13 rfl (lv_at hl 0 rfl) ?_
  refine lv_dup hx hb d_D_takeZero_14 rfl ?_
  refine g_geti (v := (G0 c 3)) E hH (gc_D hc) cl_D 3 (by decide) lf_D_21 (fun _ => rfl) (wr_k _ _ _ _ (by decide)) d_D_takeZero_15 ?_
  refine lv_iconst (v := 1) hx hb d_D_takeZero_18 (by decide) ?_
  refine lv_iadd hx hb d_D_takeZero_19 ?_
  refine g_puti E hH (gc_D hc) cl_D ct_D 3 (by decide) lf_D_21 rfl (by decide +kernel) (fun _ _ => rfl) (Nat.le_of_ble_eq_true rfl) d_D_takeZero_20 (fun H locs hH => ?_)
  refine lv_aload_n hx hb d_D_takeZero_23 rfl (lv_at hl 0 rfl) ?_
  refine g_geti (v := (G0 c 1)) E hH (gc_D hc) cl_D 1 (by decide) lf_D_15 (fun _ => rfl) ((wr_k _ _ _ _ (by decide)).trans (wr_k _ _ _ _ (by decide))) d_D_takeZero_24 ?_
  refine lv_if_eq (tgt := 49) hx hb d_D_takeZero_27 (by decide) (fun h1 => ?_) (fun h1 => ?_)
  · exact g_vret E hH (hsp.trans (by simp only [sp_D_takeZero, if_pos h1])) d_D_takeZero_49
  · refine lv_aload_n hx hb d_D_takeZero_30 rfl (lv_at hl 0 rfl) ?_
    refine g_geti (v := ((G0 c 3) + 1)) E hH (gc_D hc) cl_D 3 (by decide) lf_D_21 (fun _ => rfl) (wr_same _ _ _ _) d_D_takeZero_31 ?_
    refine lv_iconst (v := 3) hx hb d_D_takeZero_34 (by decide) ?_
    refine lv_iand hx hb d_D_takeZero_35 ?_
    refine lv_if_ne (tgt := 49) hx hb d_D_takeZero_36 (by decide) (fun h2 => ?_) (fun h2 => ?_)
    · exact g_vret E hH (hsp.trans (by simp only [sp_D_takeZero, if_neg h1, if_neg h2])) d_D_takeZero_49
    · refine lv_aload_n hx hb d_D_takeZero_39 rfl (lv_at hl 0 rfl) ?_
      refine lv_dup hx hb d_D_takeZero_40 rfl ?_
      refine g_geti (v := (G0 c 6)) E hH (gc_D hc) cl_D 6 (by decide) lf_D_30 (fun _ => rfl) ((wr_k _ _ _ _ (by decide)).trans (wr_k _ _ _ _ (by decide))) d_D_takeZero_41 ?_
      refine lv_iconst (v := 1) hx hb d_D_takeZero_44 (by decide) ?_
      refine lv_iadd hx hb d_D_takeZero_45 ?_
      refine g_puti E hH (gc_D hc) cl_D ct_D 6 (by decide) lf_D_30 rfl (by decide +kernel) (fun _ _ => rfl) (Nat.le_of_ble_eq_true rfl) d_D_takeZero_46 (fun H locs hH => ?_)
      exact g_vret E hH (hsp.trans (by simp only [sp_D_takeZero, if_neg h1, if_pos h2])) d_D_takeZero_49

def sp_D_takePulse (c : Nat) (G0 : Mem) (a1 : Int32) : Mem :=
  (if ((if a1 = (G0 c 1) then 1 else 0) : Int32) = 0 then (wr (wr (wr G0 c 4 ((((G0 c 4) <<< ((1 : Int32) &&& 31)) ||| (1 : Int32)) &&& (15 : Int32))) c 1 a1) c 3 0) else (if (G0 c 3) < 2 then (wr (wr (wr (wr G0 c 4 ((((G0 c 4) <<< ((1 : Int32) &&& 31)) ||| (1 : Int32)) &&& (15 : Int32))) c 6 ((G0 c 6) + 1)) c 1 a1) c 3 0) else (wr (wr (sp_D_takeV c G0 a1) c 1 a1) c 3 0)))
set_option maxHeartbeats 4000000 in
set_option maxRecDepth 100000 in
theorem c_D_takePulse (l : Launch) (P : gP) (G0 : Mem) (c : Nat) (a1 : Int32) (hc : kD c) : gMv l y_D_takePulse b_D_takePulse 3 none ({ frames := 1, cells := 0, slots := 0, locals := 21 }) [.ref (gad P c), .int a1] P G0 (sp_D_takePulse c G0 a1) := by
  refine Met.ofW (cc := b_D_takePulse) (maxL := 3) (ret := none) (by decide) rfl ?_
  intro p e s m args below meth c0 s₁ B hml hv
  obtain ⟨rfl, hpre⟩ := hv
  obtain ⟨E, hH⟩ := gE_of B hml hpre
  replace E : gE p s m _ meth c0 P "FramedLine$Decoder" b_D_takePulse 3 none := E
  have hcU := hc
  unfold kD at hcU
  have hx := E.1
  have hb := E.2.1
  have hl := lv_entry ([.ref (gad P c), .int a1]) (n := 3) (Nat.le_of_ble_eq_true rfl)
  rw [lg_entry_eq]
  generalize (lg_sl ([.ref (gad P c), .int a1]) ++ List.replicate (3 - (lg_sl ([.ref (gad P c), .int a1])).length) Slot.unset).toArray = ls at hl ⊢
  replace hl : lv_has ls 3 [(0, .ref (gad P c)), (1, .int a1)] := hl
  have hsp : sp_D_takePulse c G0 a1 = sp_D_takePulse c G0 a1 := rfl
  refine lv_iload_n hx hb d_D_takePulse_0 rfl (lv_at hl 1 rfl) ?_
  refine lv_aload_n hx hb d_D_takePulse_1 rfl (lv_at hl 0 rfl) ?_
  refine g_geti (v := (G0 c 1)) E hH (gc_D hc) cl_D 1 (by decide) lf_D_15 (fun _ => rfl) rfl d_D_takePulse_2 ?_
  refine jn (α := Int32) (fun z H1 locs1 => z = ((if a1 = (G0 c 1) then 1 else 0) : Int32) ∧ isB z ∧ gH P s G0 H1 locs1) (fun z => F0 m 13 ls (.int z :: [])) (fun z H locs h9 => ?_) (fun hJ => ?_)
  · obtain ⟨rfl, hz13, hH⟩ := h9
    refine lv_istore_n hx hb d_D_takePulse_13 rfl hl (by decide) rfl (fun ls hl => ?_)
    refine lv_iload_n hx hb d_D_takePulse_14 rfl (lv_at hl 0 rfl) ?_
    refine lv_if_eq (tgt := 34) hx hb d_D_takePulse_15 (by decide) (fun h1 => ?_) (fun h1 => ?_)
    · refine lv_aload_n hx hb d_D_takePulse_34 rfl (lv_at hl 1 rfl) ?_
      refine lv_aload_n hx hb d_D_takePulse_35 rfl (lv_at hl 1 rfl) ?_
      refine g_geti (v := (G0 c 4)) E hH (gc_D hc) cl_D 4 (by decide) lf_D_24 (fun _ => rfl) rfl d_D_takePulse_36 ?_
      refine lv_iconst (v := 1) hx hb d_D_takePulse_39 (by decide) ?_
      refine lv_ishl hx hb d_D_takePulse_40 ?_
      refine lv_iconst (v := 1) hx hb d_D_takePulse_41 (by decide) ?_
      refine lv_ior hx hb d_D_takePulse_42 ?_
      refine lv_bipush (v := 15) hx hb d_D_takePulse_43 (by decide) ?_
      refine lv_iand hx hb d_D_takePulse_45 ?_
      refine g_puti E hH (gc_D hc) cl_D ct_D 4 (by decide) lf_D_24 rfl (by decide +kernel) (fun _ _ => rfl) (Nat.le_of_ble_eq_true rfl) d_D_takePulse_46 (fun H locs hH => ?_)
      refine lv_iload_n hx hb d_D_takePulse_49 rfl (lv_at hl 0 rfl) ?_
      refine lv_if_eq (tgt := 63) hx hb d_D_takePulse_50 (by decide) (fun _ => ?_) (fun h0 => absurd h1 h0)
      refine lv_aload_n hx hb d_D_takePulse_63 rfl (lv_at hl 1 rfl) ?_
      refine lv_iload_n hx hb d_D_takePulse_64 rfl (lv_at hl 2 rfl) ?_
      refine g_puti E hH (gc_D hc) cl_D ct_D 1 (by decide) lf_D_15 rfl (by decide +kernel) (fun _ _ => rfl) (Nat.le_of_ble_eq_true rfl) d_D_takePulse_65 (fun H locs hH => ?_)
      refine lv_aload_n hx hb d_D_takePulse_68 rfl (lv_at hl 1 rfl) ?_
      refine lv_iconst (v := 0) hx hb d_D_takePulse_69 (by decide) ?_
      refine g_puti E hH (gc_D hc) cl_D ct_D 3 (by decide) lf_D_21 rfl (by decide +kernel) (fun _ _ => rfl) (Nat.le_of_ble_eq_true rfl) d_D_takePulse_70 (fun H locs hH => ?_)
      exact g_vret E hH (hsp.trans (by simp only [sp_D_takePulse, if_pos h1])) d_D_takePulse_73
    · refine lv_aload_n hx hb d_D_takePulse_18 rfl (lv_at hl 1 rfl) ?_
      refine g_geti (v := (G0 c 3)) E hH (gc_D hc) cl_D 3 (by decide) lf_D_21 (fun _ => rfl) rfl d_D_takePulse_19 ?_
      refine lv_iconst (v := 2) hx hb d_D_takePulse_22 (by decide) ?_
      refine lv_icmp_lt (tgt := 34) hx hb d_D_takePulse_23 (by decide) (fun h2 => ?_) (fun h2 => ?_)
      · refine lv_aload_n hx hb d_D_takePulse_34 rfl (lv_at hl 1 rfl) ?_
        refine lv_aload_n hx hb d_D_takePulse_35 rfl (lv_at hl 1 rfl) ?_
        refine g_geti (v := (G0 c 4)) E hH (gc_D hc) cl_D 4 (by decide) lf_D_24 (fun _ => rfl) rfl d_D_takePulse_36 ?_
        refine lv_iconst (v := 1) hx hb d_D_takePulse_39 (by decide) ?_
        refine lv_ishl hx hb d_D_takePulse_40 ?_
        refine lv_iconst (v := 1) hx hb d_D_takePulse_41 (by decide) ?_
        refine lv_ior hx hb d_D_takePulse_42 ?_
        refine lv_bipush (v := 15) hx hb d_D_takePulse_43 (by decide) ?_
        refine lv_iand hx hb d_D_takePulse_45 ?_
        refine g_puti E hH (gc_D hc) cl_D ct_D 4 (by decide) lf_D_24 rfl (by decide +kernel) (fun _ _ => rfl) (Nat.le_of_ble_eq_true rfl) d_D_takePulse_46 (fun H locs hH => ?_)
        refine lv_iload_n hx hb d_D_takePulse_49 rfl (lv_at hl 0 rfl) ?_
        refine lv_if_eq (tgt := 63) hx hb d_D_takePulse_50 (by decide) (fun h0 => absurd h0 h1) (fun _ => ?_)
        refine lv_aload_n hx hb d_D_takePulse_53 rfl (lv_at hl 1 rfl) ?_
        refine lv_dup hx hb d_D_takePulse_54 rfl ?_
        refine g_geti (v := (G0 c 6)) E hH (gc_D hc) cl_D 6 (by decide) lf_D_30 (fun _ => rfl) (wr_k _ _ _ _ (by decide)) d_D_takePulse_55 ?_
        refine lv_iconst (v := 1) hx hb d_D_takePulse_58 (by decide) ?_
        refine lv_iadd hx hb d_D_takePulse_59 ?_
        refine g_puti E hH (gc_D hc) cl_D ct_D 6 (by decide) lf_D_30 rfl (by decide +kernel) (fun _ _ => rfl) (Nat.le_of_ble_eq_true rfl) d_D_takePulse_60 (fun H locs hH => ?_)
        refine lv_aload_n hx hb d_D_takePulse_63 rfl (lv_at hl 1 rfl) ?_
        refine lv_iload_n hx hb d_D_takePulse_64 rfl (lv_at hl 2 rfl) ?_
        refine g_puti E hH (gc_D hc) cl_D ct_D 1 (by decide) lf_D_15 rfl (by decide +kernel) (fun _ _ => rfl) (Nat.le_of_ble_eq_true rfl) d_D_takePulse_65 (fun H locs hH => ?_)
        refine lv_aload_n hx hb d_D_takePulse_68 rfl (lv_at hl 1 rfl) ?_
        refine lv_iconst (v := 0) hx hb d_D_takePulse_69 (by decide) ?_
        refine g_puti E hH (gc_D hc) cl_D ct_D 3 (by decide) lf_D_21 rfl (by decide +kernel) (fun _ _ => rfl) (Nat.le_of_ble_eq_true rfl) d_D_takePulse_70 (fun H locs hH => ?_)
        exact g_vret E hH (hsp.trans (by simp only [sp_D_takePulse, if_neg h1, if_pos h2])) d_D_takePulse_73
      · refine lv_aload_n hx hb d_D_takePulse_26 rfl (lv_at hl 1 rfl) ?_
        refine lv_iload_n hx hb d_D_takePulse_27 rfl (lv_at hl 2 rfl) ?_
        refine g_callVv (As := [.int _]) E hH hl (c_D_takeV l P _ c _ hc) lm_D_40 (gc_D hc) cl_D (Nat.le_of_ble_eq_true rfl) (Nat.le_of_ble_eq_true rfl) (Nat.le_of_ble_eq_true rfl) (Nat.le_of_ble_eq_true rfl) (Nat.le_of_ble_eq_true rfl) rfl rfl rfl rfl d_D_takePulse_28 (fun H locs hH => ?_)
        refine lv_goto (tgt := 63) hx hb d_D_takePulse_31 (by decide) ?_
        refine lv_aload_n hx hb d_D_takePulse_63 rfl (lv_at hl 1 rfl) ?_
        refine lv_iload_n hx hb d_D_takePulse_64 rfl (lv_at hl 2 rfl) ?_
        refine g_puti E hH (gc_D hc) cl_D ct_D 1 (by decide) lf_D_15 rfl (by decide +kernel) (fun _ _ => rfl) (Nat.le_of_ble_eq_true rfl) d_D_takePulse_65 (fun H locs hH => ?_)
        refine lv_aload_n hx hb d_D_takePulse_68 rfl (lv_at hl 1 rfl) ?_
        refine lv_iconst (v := 0) hx hb d_D_takePulse_69 (by decide) ?_
        refine g_puti E hH (gc_D hc) cl_D ct_D 3 (by decide) lf_D_21 rfl (by decide +kernel) (fun _ _ => rfl) (Nat.le_of_ble_eq_true rfl) d_D_takePulse_70 (fun H locs hH => ?_)
        exact g_vret E hH (hsp.trans (by simp only [sp_D_takePulse, if_neg h1, if_neg h2])) d_D_takePulse_73
  · refine lv_icmp_ne (tgt := 12) hx hb d_D_takePulse_5 (by decide) (fun h3 => ?_) (fun h3 => ?_)
    · refine lv_iconst (v := 0) hx hb d_D_takePulse_12 (by decide) ?_
      exact hJ _ _ _ ⟨by simp only [if_neg h3], isB_0, hH⟩
    · refine lv_iconst (v := 1) hx hb d_D_takePulse_8 (by decide) ?_
      refine lv_goto (tgt := 13) hx hb d_D_takePulse_9 (by decide) ?_
      exact hJ _ _ _ ⟨by simp only [if_pos h3], isB_1, hH⟩

def sp_D_bitBehind (c : Nat) (G0 : Mem) (a1 : Int32) : Int32 × Mem :=
  (if a1 = 0 then (if 3 ≤ ((sp_D_takeZero c (wr G0 c 0 a1)) c 5) then (((((sp_D_takeZero c (wr G0 c 0 a1)) c 4) >>> ((3 : Int32) &&& 31)) &&& (1 : Int32)), (sp_D_takeZero c (wr G0 c 0 a1))) else (((-1) : Int32), (wr (sp_D_takeZero c (wr G0 c 0 a1)) c 5 (((sp_D_takeZero c (wr G0 c 0 a1)) c 5) + 1)))) else (if 3 ≤ ((sp_D_takePulse c (wr G0 c 0 a1) a1) c 5) then (((((sp_D_takePulse c (wr G0 c 0 a1) a1) c 4) >>> ((3 : Int32) &&& 31)) &&& (1 : Int32)), (sp_D_takePulse c (wr G0 c 0 a1) a1)) else (((-1) : Int32), (wr (sp_D_takePulse c (wr G0 c 0 a1) a1) c 5 (((sp_D_takePulse c (wr G0 c 0 a1) a1) c 5) + 1)))))
set_option maxHeartbeats 4000000 in
set_option maxRecDepth 100000 in
theorem c_D_bitBehind (l : Launch) (P : gP) (G0 : Mem) (c : Nat) (a1 : Int32) (hc : kD c) : gMi l y_D_bitBehind b_D_bitBehind 2 (some .int) ({ frames := 2, cells := 0, slots := 0, locals := 43 }) [.ref (gad P c), .int a1] P G0 (sp_D_bitBehind c G0 a1) := by
  refine Met.ofW (cc := b_D_bitBehind) (maxL := 2) (ret := (some .int)) (by decide) rfl ?_
  intro p e s m args below meth c0 s₁ B hml hv
  obtain ⟨rfl, hpre⟩ := hv
  obtain ⟨E, hH⟩ := gE_of B hml hpre
  replace E : gE p s m _ meth c0 P "FramedLine$Decoder" b_D_bitBehind 2 (some .int) := E
  have hcU := hc
  unfold kD at hcU
  have hx := E.1
  have hb := E.2.1
  have hl := lv_entry ([.ref (gad P c), .int a1]) (n := 2) (Nat.le_of_ble_eq_true rfl)
  rw [lg_entry_eq]
  generalize (lg_sl ([.ref (gad P c), .int a1]) ++ List.replicate (2 - (lg_sl ([.ref (gad P c), .int a1])).length) Slot.unset).toArray = ls at hl ⊢
  replace hl : lv_has ls 2 [(0, .ref (gad P c)), (1, .int a1)] := hl
  have hsp : sp_D_bitBehind c G0 a1 = sp_D_bitBehind c G0 a1 := rfl
  refine lv_aload_n hx hb d_D_bitBehind_0 rfl (lv_at hl 0 rfl) ?_
  refine lv_iload_n hx hb d_D_bitBehind_1 rfl (lv_at hl 1 rfl) ?_
  refine g_puti E hH (gc_D hc) cl_D ct_D 0 (by decide) lf_D_9 rfl (by decide +kernel) (fun _ _ => rfl) (Nat.le_of_ble_eq_true rfl) d_D_bitBehind_2 (fun H locs hH => ?_)
  refine lv_iload_n hx hb d_D_bitBehind_5 rfl (lv_at hl 1 rfl) ?_
  refine lv_if_ne (tgt := 16) hx hb d_D_bitBehind_6 (by decide) (fun h1 => ?_) (fun h1 => ?_)
  · refine lv_aload_n hx hb d_D_bitBehind_16 rfl (lv_at hl 0 rfl) ?_
    refine lv_iload_n hx hb d_D_bitBehind_17 rfl (lv_at hl 1 rfl) ?_
    refine g_callVv (As := [.int _]) E hH hl (c_D_takePulse l P _ c _ hc) lm_D_36 (gc_D hc) cl_D (Nat.le_of_ble_eq_true rfl) (Nat.le_of_ble_eq_true rfl) (Nat.le_of_ble_eq_true rfl) (Nat.le_of_ble_eq_true rfl) (Nat.le_of_ble_eq_true rfl) rfl rfl rfl rfl d_D_bitBehind_18 (fun H locs hH => ?_)
    refine lv_aload_n hx hb d_D_bitBehind_21 rfl (lv_at hl 0 rfl) ?_
    refine g_geti (v := ((sp_D_takePulse c (wr G0 c 0 a1) a1) c 5)) E hH (gc_D hc) cl_D 5 (by decide) lf_D_27 (fun _ => rfl) rfl d_D_bitBehind_22 ?_
    refine lv_iconst (v := 3) hx hb d_D_bitBehind_25 (by decide) ?_
    refine lv_icmp_ge (tgt := 41) hx hb d_D_bitBehind_26 (by decide) (fun h2 => ?_) (fun h2 => ?_)
    · refine lv_aload_n hx hb d_D_bitBehind_41 rfl (lv_at hl 0 rfl) ?_
      refine g_geti (v := ((sp_D_takePulse c (wr G0 c 0 a1) a1) c 4)) E hH (gc_D hc) cl_D 4 (by decide) lf_D_24 (fun _ => rfl) rfl d_D_bitBehind_42 ?_
      refine lv_iconst (v := 3) hx hb d_D_bitBehind_45 (by decide) ?_
      refine lv_ishr hx hb d_D_bitBehind_46 ?_
      refine lv_iconst (v := 1) hx hb d_D_bitBehind_47 (by decide) ?_
      refine lv_iand hx hb d_D_bitBehind_48 ?_
      exact g_iret E hH (hsp.trans (by simp only [sp_D_bitBehind, if_neg h1, if_pos h2])) d_D_bitBehind_49
    · refine lv_aload_n hx hb d_D_bitBehind_29 rfl (lv_at hl 0 rfl) ?_
      refine lv_dup hx hb d_D_bitBehind_30 rfl ?_
      refine g_geti (v := ((sp_D_takePulse c (wr G0 c 0 a1) a1) c 5)) E hH (gc_D hc) cl_D 5 (by decide) lf_D_27 (fun _ => rfl) rfl d_D_bitBehind_31 ?_
      refine lv_iconst (v := 1) hx hb d_D_bitBehind_34 (by decide) ?_
      refine lv_iadd hx hb d_D_bitBehind_35 ?_
      refine g_puti E hH (gc_D hc) cl_D ct_D 5 (by decide) lf_D_27 rfl (by decide +kernel) (fun _ _ => rfl) (Nat.le_of_ble_eq_true rfl) d_D_bitBehind_36 (fun H locs hH => ?_)
      refine lv_iconst (v := (-1)) hx hb d_D_bitBehind_39 (by decide) ?_
      exact g_iret E hH (hsp.trans (by simp only [sp_D_bitBehind, if_neg h1, if_neg h2])) d_D_bitBehind_40
  · refine lv_aload_n hx hb d_D_bitBehind_9 rfl (lv_at hl 0 rfl) ?_
    refine g_callVv (As := []) E hH hl (c_D_takeZero l P _ c hc) lm_D_33 (gc_D hc) cl_D (Nat.le_of_ble_eq_true rfl) (Nat.le_of_ble_eq_true rfl) (Nat.le_of_ble_eq_true rfl) (Nat.le_of_ble_eq_true rfl) (Nat.le_of_ble_eq_true rfl) rfl rfl rfl rfl d_D_bitBehind_10 (fun H locs hH => ?_)
    refine lv_goto (tgt := 21) hx hb d_D_bitBehind_13 (by decide) ?_
    refine lv_aload_n hx hb d_D_bitBehind_21 rfl (lv_at hl 0 rfl) ?_
    refine g_geti (v := ((sp_D_takeZero c (wr G0 c 0 a1)) c 5)) E hH (gc_D hc) cl_D 5 (by decide) lf_D_27 (fun _ => rfl) rfl d_D_bitBehind_22 ?_
    refine lv_iconst (v := 3) hx hb d_D_bitBehind_25 (by decide) ?_
    refine lv_icmp_ge (tgt := 41) hx hb d_D_bitBehind_26 (by decide) (fun h3 => ?_) (fun h3 => ?_)
    · refine lv_aload_n hx hb d_D_bitBehind_41 rfl (lv_at hl 0 rfl) ?_
      refine g_geti (v := ((sp_D_takeZero c (wr G0 c 0 a1)) c 4)) E hH (gc_D hc) cl_D 4 (by decide) lf_D_24 (fun _ => rfl) rfl d_D_bitBehind_42 ?_
      refine lv_iconst (v := 3) hx hb d_D_bitBehind_45 (by decide) ?_
      refine lv_ishr hx hb d_D_bitBehind_46 ?_
      refine lv_iconst (v := 1) hx hb d_D_bitBehind_47 (by decide) ?_
      refine lv_iand hx hb d_D_bitBehind_48 ?_
      exact g_iret E hH (hsp.trans (by simp only [sp_D_bitBehind, if_pos h1, if_pos h3])) d_D_bitBehind_49
    · refine lv_aload_n hx hb d_D_bitBehind_29 rfl (lv_at hl 0 rfl) ?_
      refine lv_dup hx hb d_D_bitBehind_30 rfl ?_
      refine g_geti (v := ((sp_D_takeZero c (wr G0 c 0 a1)) c 5)) E hH (gc_D hc) cl_D 5 (by decide) lf_D_27 (fun _ => rfl) rfl d_D_bitBehind_31 ?_
      refine lv_iconst (v := 1) hx hb d_D_bitBehind_34 (by decide) ?_
      refine lv_iadd hx hb d_D_bitBehind_35 ?_
      refine g_puti E hH (gc_D hc) cl_D ct_D 5 (by decide) lf_D_27 rfl (by decide +kernel) (fun _ _ => rfl) (Nat.le_of_ble_eq_true rfl) d_D_bitBehind_36 (fun H locs hH => ?_)
      refine lv_iconst (v := (-1)) hx hb d_D_bitBehind_39 (by decide) ?_
      exact g_iret E hH (hsp.trans (by simp only [sp_D_bitBehind, if_pos h1, if_neg h3])) d_D_bitBehind_40
end
section
def sp_E_pulseOfOne (c : Nat) (G0 : Mem)  : Int32 × Mem :=
  ((-(G0 c 0)), (wr (wr (wr G0 c 2 0) c 1 ((if (zb (G0 c 1)) = 0 then 1 else 0) : Int32)) c 0 (-(G0 c 0))))
set_option maxHeartbeats 4000000 in
set_option maxRecDepth 100000 in
theorem c_E_pulseOfOne (l : Launch) (P : gP) (G0 : Mem) (c : Nat)  (hc : kE c) : gMi l y_E_pulseOfOne b_E_pulseOfOne 1 (some .int) ({ frames := 0, cells := 0, slots := 0, locals := 0 }) [.ref (gad P c)] P G0 (sp_E_pulseOfOne c G0) := by
  refine Met.ofW (cc := b_E_pulseOfOne) (maxL := 1) (ret := (some .int)) (by decide) rfl ?_
  intro p e s m args below meth c0 s₁ B hml hv
  obtain ⟨rfl, hpre⟩ := hv
  obtain ⟨E, hH⟩ := gE_of B hml hpre
  replace E : gE p s m _ meth c0 P "FramedLine$Encoder" b_E_pulseOfOne 1 (some .int) := E
  have hcU := hc
  unfold kE at hcU
  have hx := E.1
  have hb := E.2.1
  have hl := lv_entry ([.ref (gad P c)]) (n := 1) (Nat.le_of_ble_eq_true rfl)
  rw [lg_entry_eq]
  generalize (lg_sl ([.ref (gad P c)]) ++ List.replicate (1 - (lg_sl ([.ref (gad P c)])).length) Slot.unset).toArray = ls at hl ⊢
  replace hl : lv_has ls 1 [(0, .ref (gad P c))] := hl
  have hsp : sp_E_pulseOfOne c G0 = sp_E_pulseOfOne c G0 := rfl
  refine lv_aload_n hx hb d_E_pulseOfOne_0 rfl (lv_at hl 0 rfl) ?_
  refine lv_iconst (v := 0) hx hb d_E_pulseOfOne_1 (by decide) ?_
  refine g_puti E hH (gc_E hc) cl_E ct_E 2 (by decide) lf_E_19 rfl (by decide +kernel) (fun _ _ => rfl) (Nat.le_of_ble_eq_true rfl) d_E_pulseOfOne_2 (fun H locs hH => ?_)
  refine lv_aload_n hx hb d_E_pulseOfOne_5 rfl (lv_at hl 0 rfl) ?_
  refine lv_aload_n hx hb d_E_pulseOfOne_6 rfl (lv_at hl 0 rfl) ?_
  refine g_getz (v := (G0 c 1)) E hH (gc_E hc) cl_E 1 (by decide) lf_E_15 (fun _ => rfl) (wr_k _ _ _ _ (by decide)) d_E_pulseOfOne_7 ?_
  refine jn (α := Int32) (fun z H1 locs1 => z = ((if (zb (G0 c 1)) = 0 then 1 else 0) : Int32) ∧ isB z ∧ gH P s (wr G0 c 2 0) H1 locs1) (fun z => F0 m 18 ls (.int z :: .ref (gad P c) :: [])) (fun z H locs h9 => ?_) (fun hJ => ?_)
  · obtain ⟨rfl, hz18, hH⟩ := h9
    refine g_putz E hH (gc_E hc) cl_E ct_E 1 (by decide) lf_E_15 rfl (by decide +kernel) (set_E1 _ _) hz18 (Nat.le_of_ble_eq_true rfl) d_E_pulseOfOne_18 (fun H locs hH => ?_)
    refine lv_aload_n hx hb d_E_pulseOfOne_21 rfl (lv_at hl 0 rfl) ?_
    refine lv_aload_n hx hb d_E_pulseOfOne_22 rfl (lv_at hl 0 rfl) ?_
    refine g_geti (v := (G0 c 0)) E hH (gc_E hc) cl_E 0 (by decide) lf_E_9 (fun _ => rfl) ((wr_k _ _ _ _ (by decide)).trans (wr_k _ _ _ _ (by decide))) d_E_pulseOfOne_23 ?_
    refine lv_ineg hx hb d_E_pulseOfOne_26 ?_
    refine g_puti E hH (gc_E hc) cl_E ct_E 0 (by decide) lf_E_9 rfl (by decide +kernel) (fun _ _ => rfl) (Nat.le_of_ble_eq_true rfl) d_E_pulseOfOne_27 (fun H locs hH => ?_)
    refine lv_aload_n hx hb d_E_pulseOfOne_30 rfl (lv_at hl 0 rfl) ?_
    refine g_geti (v := (-(G0 c 0))) E hH (gc_E hc) cl_E 0 (by decide) lf_E_9 (fun _ => rfl) (wr_same _ _ _ _) d_E_pulseOfOne_31 ?_
    exact g_iret E hH (hsp.trans (by rw [sp_E_pulseOfOne])) d_E_pulseOfOne_34
  · refine lv_if_ne (tgt := 17) hx hb d_E_pulseOfOne_10 (by decide) (fun h1 => ?_) (fun h1 => ?_)
    · refine lv_iconst (v := 0) hx hb d_E_pulseOfOne_17 (by decide) ?_
      exact hJ _ _ _ ⟨by simp only [if_neg h1], isB_0, hH⟩
    · refine lv_iconst (v := 1) hx hb d_E_pulseOfOne_13 (by decide) ?_
      refine lv_goto (tgt := 18) hx hb d_E_pulseOfOne_14 (by decide) ?_
      exact hJ _ _ _ ⟨by simp only [if_pos h1], isB_1, hH⟩

def sp_E_symbolOfZero (c : Nat) (G0 : Mem)  : Int32 × Mem :=
  (if 3 < ((G0 c 2) + 1) then (if (zb (G0 c 1)) = 0 then ((-(G0 c 0)), (wr (wr (wr (wr (wr G0 c 2 ((G0 c 2) + 1)) c 0 (-(G0 c 0))) c 3 (-(G0 c 0))) c 2 0) c 1 0)) else ((G0 c 0), (wr (wr (wr G0 c 2 ((G0 c 2) + 1)) c 2 0) c 1 0))) else ((0 : Int32), (wr G0 c 2 ((G0 c 2) + 1))))
set_option maxHeartbeats 4000000 in
set_option maxRecDepth 100000 in
theorem c_E_symbolOfZero (l : Launch) (P : gP) (G0 : Mem) (c : Nat)  (hc : kE c) : gMi l y_E_symbolOfZero b_E_symbolOfZero 1 (some .int) ({ frames := 0, cells := 0, slots := 0, locals := 0 }) [.ref (gad P c)] P G0 (sp_E_symbolOfZero c G0) := by
  refine Met.ofW (cc := b_E_symbolOfZero) (maxL := 1) (ret := (some .int)) (by decide) rfl ?_
  intro p e s m args below meth c0 s₁ B hml hv
  obtain ⟨rfl, hpre⟩ := hv
  obtain ⟨E, hH⟩ := gE_of B hml hpre
  replace E : gE p s m _ meth c0 P "FramedLine$Encoder" b_E_symbolOfZero 1 (some .int) := E
  have hcU := hc
  unfold kE at hcU
  have hx := E.1
  have hb := E.2.1
  have hl := lv_entry ([.ref (gad P c)]) (n := 1) (Nat.le_of_ble_eq_true rfl)
  rw [lg_entry_eq]
  generalize (lg_sl ([.ref (gad P c)]) ++ List.replicate (1 - (lg_sl ([.ref (gad P c)])).length) Slot.unset).toArray = ls at hl ⊢
  replace hl : lv_has ls 1 [(0, .ref (gad P c))] := hl
  have hsp : sp_E_symbolOfZero c G0 = sp_E_symbolOfZero c G0 := rfl
  refine lv_aload_n hx hb d_E_symbolOfZero_0 rfl (lv_at hl 0 rfl) ?_
  refine lv_dup hx hb d_E_symbolOfZero_1 rfl ?_
  refine g_geti (v := (G0 c 2)) E hH (gc_E hc) cl_E 2 (by decide) lf_E_19 (fun _ => rfl) rfl d_E_symbolOfZero_2 ?_
  refine lv_iconst (v := 1) hx hb d_E_symbolOfZero_5 (by decide) ?_
  refine lv_iadd hx hb d_E_symbolOfZero_6 ?_
  refine g_puti E hH (gc_E hc) cl_E ct_E 2 (by decide) lf_E_19 rfl (by decide +kernel) (fun _ _ => rfl) (Nat.le_of_ble_eq_true rfl) d_E_symbolOfZero_7 (fun H locs hH => ?_)
  refine lv_aload_n hx hb d_E_symbolOfZero_10 rfl (lv_at hl 0 rfl) ?_
  refine g_geti (v := ((G0 c 2) + 1)) E hH (gc_E hc) cl_E 2 (by decide) lf_E_19 (fun _ => rfl) (wr_same _ _ _ _) d_E_symbolOfZero_11 ?_
  refine lv_iconst (v := 3) hx hb d_E_symbolOfZero_14 (by decide) ?_
  refine lv_icmp_gt (tgt := 20) hx hb d_E_symbolOfZero_15 (by decide) (fun h1 => ?_) (fun h1 => ?_)
  · refine lv_aload_n hx hb d_E_symbolOfZero_20 rfl (lv_at hl 0 rfl) ?_
    refine g_getz (v := (G0 c 1)) E hH (gc_E hc) cl_E 1 (by decide) lf_E_15 (fun _ => rfl) (wr_k _ _ _ _ (by decide)) d_E_symbolOfZero_21 ?_
    refine lv_if_ne (tgt := 44) hx hb d_E_symbolOfZero_24 (by decide) (fun h2 => ?_) (fun h2 => ?_)
    · refine lv_aload_n hx hb d_E_symbolOfZero_44 rfl (lv_at hl 0 rfl) ?_
      refine lv_iconst (v := 0) hx hb d_E_symbolOfZero_45 (by decide) ?_
      refine g_puti E hH (gc_E hc) cl_E ct_E 2 (by decide) lf_E_19 rfl (by decide +kernel) (fun _ _ => rfl) (Nat.le_of_ble_eq_true rfl) d_E_symbolOfZero_46 (fun H locs hH => ?_)
      refine lv_aload_n hx hb d_E_symbolOfZero_49 rfl (lv_at hl 0 rfl) ?_
      refine lv_iconst (v := 0) hx hb d_E_symbolOfZero_50 (by decide) ?_
      refine g_putz E hH (gc_E hc) cl_E ct_E 1 (by decide) lf_E_15 rfl (by decide +kernel) (set_E1 _ _) isB_0 (Nat.le_of_ble_eq_true rfl) d_E_symbolOfZero_51 (fun H locs hH => ?_)
      refine lv_aload_n hx hb d_E_symbolOfZero_54 rfl (lv_at hl 0 rfl) ?_
      refine g_geti (v := (G0 c 0)) E hH (gc_E hc) cl_E 0 (by decide) lf_E_9 (fun _ => rfl) ((wr_k _ _ _ _ (by decide)).trans ((wr_k _ _ _ _ (by decide)).trans (wr_k _ _ _ _ (by decide)))) d_E_symbolOfZero_55 ?_
      exact g_iret E hH (hsp.trans (by simp only [sp_E_symbolOfZero, if_pos h1, if_neg h2])) d_E_symbolOfZero_58
    · refine lv_aload_n hx hb d_E_symbolOfZero_27 rfl (lv_at hl 0 rfl) ?_
      refine lv_aload_n hx hb d_E_symbolOfZero_28 rfl (lv_at hl 0 rfl) ?_
      refine g_geti (v := (G0 c 0)) E hH (gc_E hc) cl_E 0 (by decide) lf_E_9 (fun _ => rfl) (wr_k _ _ _ _ (by decide)) d_E_symbolOfZero_29 ?_
      refine lv_ineg hx hb d_E_symbolOfZero_32 ?_
      refine g_puti E hH (gc_E hc) cl_E ct_E 0 (by decide) lf_E_9 rfl (by decide +kernel) (fun _ _ => rfl) (Nat.le_of_ble_eq_true rfl) d_E_symbolOfZero_33 (fun H locs hH => ?_)
      refine lv_aload_n hx hb d_E_symbolOfZero_36 rfl (lv_at hl 0 rfl) ?_
      refine lv_aload_n hx hb d_E_symbolOfZero_37 rfl (lv_at hl 0 rfl) ?_
      refine g_geti (v := (-(G0 c 0))) E hH (gc_E hc) cl_E 0 (by decide) lf_E_9 (fun _ => rfl) (wr_same _ _ _ _) d_E_symbolOfZero_38 ?_
      refine g_puti E hH (gc_E hc) cl_E ct_E 3 (by decide) lf_E_22 rfl (by decide +kernel) (fun _ _ => rfl) (Nat.le_of_ble_eq_true rfl) d_E_symbolOfZero_41 (fun H locs hH => ?_)
      refine lv_aload_n hx hb d_E_symbolOfZero_44 rfl (lv_at hl 0 rfl) ?_
      refine lv_iconst (v := 0) hx hb d_E_symbolOfZero_45 (by decide) ?_
      refine g_puti E hH (gc_E hc) cl_E ct_E 2 (by decide) lf_E_19 rfl (by decide +kernel) (fun _ _ => rfl) (Nat.le_of_ble_eq_true rfl) d_E_symbolOfZero_46 (fun H locs hH => ?_)
      refine lv_aload_n hx hb d_E_symbolOfZero_49 rfl (lv_at hl 0 rfl) ?_
      refine lv_iconst (v := 0) hx hb d_E_symbolOfZero_50 (by decide) ?_
      refine g_putz E hH (gc_E hc) cl_E ct_E 1 (by decide) lf_E_15 rfl (by decide +kernel) (set_E1 _ _) isB_0 (Nat.le_of_ble_eq_true rfl) d_E_symbolOfZero_51 (fun H locs hH => ?_)
      refine lv_aload_n hx hb d_E_symbolOfZero_54 rfl (lv_at hl 0 rfl) ?_
      refine g_geti (v := (-(G0 c 0))) E hH (gc_E hc) cl_E 0 (by decide) lf_E_9 (fun _ => rfl) ((wr_k _ _ _ _ (by decide)).trans ((wr_k _ _ _ _ (by decide)).trans ((wr_k _ _ _ _ (by decide)).trans (wr_same _ _ _ _)))) d_E_symbolOfZero_55 ?_
      exact g_iret E hH (hsp.trans (by simp only [sp_E_symbolOfZero, if_pos h1, if_pos h2])) d_E_symbolOfZero_58
  · refine lv_iconst (v := 0) hx hb d_E_symbolOfZero_18 (by decide) ?_
    exact g_iret E hH (hsp.trans (by simp only [sp_E_symbolOfZero, if_neg h1])) d_E_symbolOfZero_19

def sp_E_symbolBehind (c : Nat) (G0 : Mem) (a1 : Int32) : Int32 × Mem :=
  (if a1 = 1 then ((((sp_E_pulseOfOne c G0)).2 c 3), (wr (wr (wr ((sp_E_pulseOfOne c G0)).2 c 3 (((sp_E_pulseOfOne c G0)).2 c 4)) c 4 (((sp_E_pulseOfOne c G0)).2 c 5)) c 5 (((sp_E_pulseOfOne c G0)).1))) else ((((sp_E_symbolOfZero c G0)).2 c 3), (wr (wr (wr ((sp_E_symbolOfZero c G0)).2 c 3 (((sp_E_symbolOfZero c G0)).2 c 4)) c 4 (((sp_E_symbolOfZero c G0)).2 c 5)) c 5 (((sp_E_symbolOfZero c G0)).1))))
set_option maxHeartbeats 4000000 in
set_option maxRecDepth 100000 in
theorem c_E_symbolBehind (l : Launch) (P : gP) (G0 : Mem) (c : Nat) (a1 : Int32) (hc : kE c) : gMi l y_E_symbolBehind b_E_symbolBehind 4 (some .int) ({ frames := 1, cells := 0, slots := 0, locals := 20 }) [.ref (gad P c), .int a1] P G0 (sp_E_symbolBehind c G0 a1) := by
  refine Met.ofW (cc := b_E_symbolBehind) (maxL := 4) (ret := (some .int)) (by decide) rfl ?_
  intro p e s m args below meth c0 s₁ B hml hv
  obtain ⟨rfl, hpre⟩ := hv
  obtain ⟨E, hH⟩ := gE_of B hml hpre
  replace E : gE p s m _ meth c0 P "FramedLine$Encoder" b_E_symbolBehind 4 (some .int) := E
  have hcU := hc
  unfold kE at hcU
  have hx := E.1
  have hb := E.2.1
  have hl := lv_entry ([.ref (gad P c), .int a1]) (n := 4) (Nat.le_of_ble_eq_true rfl)
  rw [lg_entry_eq]
  generalize (lg_sl ([.ref (gad P c), .int a1]) ++ List.replicate (4 - (lg_sl ([.ref (gad P c), .int a1])).length) Slot.unset).toArray = ls at hl ⊢
  replace hl : lv_has ls 4 [(0, .ref (gad P c)), (1, .int a1)] := hl
  have hsp : sp_E_symbolBehind c G0 a1 = sp_E_symbolBehind c G0 a1 := rfl
  refine lv_iload_n hx hb d_E_symbolBehind_0 rfl (lv_at hl 1 rfl) ?_
  refine lv_iconst (v := 1) hx hb d_E_symbolBehind_1 (by decide) ?_
  refine lv_icmp_ne (tgt := 12) hx hb d_E_symbolBehind_2 (by decide) (fun h1 => ?_) (fun h1 => ?_)
  · refine lv_aload_n hx hb d_E_symbolBehind_12 rfl (lv_at hl 0 rfl) ?_
    refine g_callVi (As := []) E hH hl (c_E_symbolOfZero l P _ c hc) lm_E_35 (gc_E hc) cl_E (Nat.le_of_ble_eq_true rfl) (Nat.le_of_ble_eq_true rfl) (Nat.le_of_ble_eq_true rfl) (Nat.le_of_ble_eq_true rfl) (Nat.le_of_ble_eq_true rfl) rfl rfl rfl rfl d_E_symbolBehind_13 (fun H locs hH => ?_)
    refine lv_istore_n hx hb d_E_symbolBehind_16 rfl hl (by decide) rfl (fun ls hl => ?_)
    refine lv_aload_n hx hb d_E_symbolBehind_17 rfl (lv_at hl 1 rfl) ?_
    refine g_geti (v := (((sp_E_symbolOfZero c G0)).2 c 3)) E hH (gc_E hc) cl_E 3 (by decide) lf_E_22 (fun _ => rfl) rfl d_E_symbolBehind_18 ?_
    refine lv_istore_n hx hb d_E_symbolBehind_21 rfl hl (by decide) rfl (fun ls hl => ?_)
    refine lv_aload_n hx hb d_E_symbolBehind_22 rfl (lv_at hl 2 rfl) ?_
    refine lv_aload_n hx hb d_E_symbolBehind_23 rfl (lv_at hl 2 rfl) ?_
    refine g_geti (v := (((sp_E_symbolOfZero c G0)).2 c 4)) E hH (gc_E hc) cl_E 4 (by decide) lf_E_25 (fun _ => rfl) rfl d_E_symbolBehind_24 ?_
    refine g_puti E hH (gc_E hc) cl_E ct_E 3 (by decide) lf_E_22 rfl (by decide +kernel) (fun _ _ => rfl) (Nat.le_of_ble_eq_true rfl) d_E_symbolBehind_27 (fun H locs hH => ?_)
    refine lv_aload_n hx hb d_E_symbolBehind_30 rfl (lv_at hl 2 rfl) ?_
    refine lv_aload_n hx hb d_E_symbolBehind_31 rfl (lv_at hl 2 rfl) ?_
    refine g_geti (v := (((sp_E_symbolOfZero c G0)).2 c 5)) E hH (gc_E hc) cl_E 5 (by decide) lf_E_28 (fun _ => rfl) (wr_k _ _ _ _ (by decide)) d_E_symbolBehind_32 ?_
    refine g_puti E hH (gc_E hc) cl_E ct_E 4 (by decide) lf_E_25 rfl (by decide +kernel) (fun _ _ => rfl) (Nat.le_of_ble_eq_true rfl) d_E_symbolBehind_35 (fun H locs hH => ?_)
    refine lv_aload_n hx hb d_E_symbolBehind_38 rfl (lv_at hl 2 rfl) ?_
    refine lv_iload_n hx hb d_E_symbolBehind_39 rfl (lv_at hl 1 rfl) ?_
    refine g_puti E hH (gc_E hc) cl_E ct_E 5 (by decide) lf_E_28 rfl (by decide +kernel) (fun _ _ => rfl) (Nat.le_of_ble_eq_true rfl) d_E_symbolBehind_40 (fun H locs hH => ?_)
    refine lv_iload_n hx hb d_E_symbolBehind_43 rfl (lv_at hl 0 rfl) ?_
    exact g_iret E hH (hsp.trans (by simp only [sp_E_symbolBehind, if_neg h1])) d_E_symbolBehind_44
  · refine lv_aload_n hx hb d_E_symbolBehind_5 rfl (lv_at hl 0 rfl) ?_
    refine g_callVi (As := []) E hH hl (c_E_pulseOfOne l P _ c hc) lm_E_31 (gc_E hc) cl_E (Nat.le_of_ble_eq_true rfl) (Nat.le_of_ble_eq_true rfl) (Nat.le_of_ble_eq_true rfl) (Nat.le_of_ble_eq_true rfl) (Nat.le_of_ble_eq_true rfl) rfl rfl rfl rfl d_E_symbolBehind_6 (fun H locs hH => ?_)
    refine lv_goto (tgt := 16) hx hb d_E_symbolBehind_9 (by decide) ?_
    refine lv_istore_n hx hb d_E_symbolBehind_16 rfl hl (by decide) rfl (fun ls hl => ?_)
    refine lv_aload_n hx hb d_E_symbolBehind_17 rfl (lv_at hl 1 rfl) ?_
    refine g_geti (v := (((sp_E_pulseOfOne c G0)).2 c 3)) E hH (gc_E hc) cl_E 3 (by decide) lf_E_22 (fun _ => rfl) rfl d_E_symbolBehind_18 ?_
    refine lv_istore_n hx hb d_E_symbolBehind_21 rfl hl (by decide) rfl (fun ls hl => ?_)
    refine lv_aload_n hx hb d_E_symbolBehind_22 rfl (lv_at hl 2 rfl) ?_
    refine lv_aload_n hx hb d_E_symbolBehind_23 rfl (lv_at hl 2 rfl) ?_
    refine g_geti (v := (((sp_E_pulseOfOne c G0)).2 c 4)) E hH (gc_E hc) cl_E 4 (by decide) lf_E_25 (fun _ => rfl) rfl d_E_symbolBehind_24 ?_
    refine g_puti E hH (gc_E hc) cl_E ct_E 3 (by decide) lf_E_22 rfl (by decide +kernel) (fun _ _ => rfl) (Nat.le_of_ble_eq_true rfl) d_E_symbolBehind_27 (fun H locs hH => ?_)
    refine lv_aload_n hx hb d_E_symbolBehind_30 rfl (lv_at hl 2 rfl) ?_
    refine lv_aload_n hx hb d_E_symbolBehind_31 rfl (lv_at hl 2 rfl) ?_
    refine g_geti (v := (((sp_E_pulseOfOne c G0)).2 c 5)) E hH (gc_E hc) cl_E 5 (by decide) lf_E_28 (fun _ => rfl) (wr_k _ _ _ _ (by decide)) d_E_symbolBehind_32 ?_
    refine g_puti E hH (gc_E hc) cl_E ct_E 4 (by decide) lf_E_25 rfl (by decide +kernel) (fun _ _ => rfl) (Nat.le_of_ble_eq_true rfl) d_E_symbolBehind_35 (fun H locs hH => ?_)
    refine lv_aload_n hx hb d_E_symbolBehind_38 rfl (lv_at hl 2 rfl) ?_
    refine lv_iload_n hx hb d_E_symbolBehind_39 rfl (lv_at hl 1 rfl) ?_
    refine g_puti E hH (gc_E hc) cl_E ct_E 5 (by decide) lf_E_28 rfl (by decide +kernel) (fun _ _ => rfl) (Nat.le_of_ble_eq_true rfl) d_E_symbolBehind_40 (fun H locs hH => ?_)
    refine lv_iload_n hx hb d_E_symbolBehind_43 rfl (lv_at hl 0 rfl) ?_
    exact g_iret E hH (hsp.trans (by simp only [sp_E_symbolBehind, if_pos h1])) d_E_symbolBehind_44
end
section
def sp_F_endsHalf  (G0 : Mem) (a1 : Int32) : Int32 :=
  ((if a1 = 7 then 1 else (if a1 = 15 then 1 else 0)) : Int32)
set_option maxHeartbeats 4000000 in
set_option maxRecDepth 100000 in
theorem c_F_endsHalf (l : Launch) (P : gP) (G0 : Mem)  (a1 : Int32)  : gMrz l y_F_endsHalf b_F_endsHalf 1 (some .boolean) ({ frames := 0, cells := 0, slots := 0, locals := 0 }) [.int a1] P G0 (sp_F_endsHalf G0 a1) := by
  refine Met.ofW (cc := b_F_endsHalf) (maxL := 1) (ret := (some .boolean)) (by decide) rfl ?_
  intro p e s m args below meth c0 s₁ B hml hv
  obtain ⟨rfl, hpre⟩ := hv
  obtain ⟨E, hH⟩ := gE_of B hml hpre
  replace E : gE p s m _ meth c0 P "FramedLine" b_F_endsHalf 1 (some .boolean) := E
  have hx := E.1
  have hb := E.2.1
  have hl := lv_entry ([.int a1]) (n := 1) (Nat.le_of_ble_eq_true rfl)
  rw [lg_entry_eq]
  generalize (lg_sl ([.int a1]) ++ List.replicate (1 - (lg_sl ([.int a1])).length) Slot.unset).toArray = ls at hl ⊢
  replace hl : lv_has ls 1 [(0, .int a1)] := hl
  have hsp : sp_F_endsHalf G0 a1 = sp_F_endsHalf G0 a1 := rfl
  refine lv_iload_n hx hb d_F_endsHalf_0 rfl (lv_at hl 0 rfl) ?_
  refine lv_bipush (v := 7) hx hb d_F_endsHalf_1 (by decide) ?_
  refine jn (α := Int32) (fun z H1 locs1 => z = ((if a1 = 7 then 1 else (if a1 = 15 then 1 else 0)) : Int32) ∧ isB z ∧ gH P s G0 H1 locs1) (fun z => F0 m 17 ls (.int z :: [])) (fun z H locs h9 => ?_) (fun hJ => ?_)
  · obtain ⟨rfl, hz17, hH⟩ := h9
    exact g_rzret E hH (hsp.trans (by rw [sp_F_endsHalf])) hz17 d_F_endsHalf_17
  · refine lv_icmp_eq (tgt := 12) hx hb d_F_endsHalf_3 (by decide) (fun h1 => ?_) (fun h1 => ?_)
    · refine lv_iconst (v := 1) hx hb d_F_endsHalf_12 (by decide) ?_
      refine lv_goto (tgt := 17) hx hb d_F_endsHalf_13 (by decide) ?_
      exact hJ _ _ _ ⟨by simp only [if_pos h1], isB_1, hH⟩
    · refine lv_iload_n hx hb d_F_endsHalf_6 rfl (lv_at hl 0 rfl) ?_
      refine lv_bipush (v := 15) hx hb d_F_endsHalf_7 (by decide) ?_
      refine lv_icmp_ne (tgt := 16) hx hb d_F_endsHalf_9 (by decide) (fun h2 => ?_) (fun h2 => ?_)
      · refine lv_iconst (v := 0) hx hb d_F_endsHalf_16 (by decide) ?_
        exact hJ _ _ _ ⟨by simp only [if_neg h1, if_neg h2], isB_0, hH⟩
      · refine lv_iconst (v := 1) hx hb d_F_endsHalf_12 (by decide) ?_
        refine lv_goto (tgt := 17) hx hb d_F_endsHalf_13 (by decide) ?_
        exact hJ _ _ _ ⟨by simp only [if_neg h1, if_pos h2], isB_1, hH⟩

def sp_F_checkOver_5 (a1 : Int32) (a2 : Int32) : Nat → Mem → Int32 → Int32 → Int32
 | 0, G0, x2, x3 => 0
  | d + 1, G0, x2, x3 =>
  (if x3 < 0 then x2 else (if (((iu a2 x3) &&& (1 : Int32)) ^^^ (x2 >>> ((3 : Int32) &&& 31))) = 1 then (sp_F_checkOver_5 a1 a2 d G0 (((x2 <<< ((1 : Int32) &&& 31)) &&& (15 : Int32)) ^^^ (3 : Int32)) (x3 + (-1))) else (sp_F_checkOver_5 a1 a2 d G0 ((x2 <<< ((1 : Int32) &&& 31)) &&& (15 : Int32)) (x3 + (-1)))))
def sp_F_checkOver  (G0 : Mem) (a1 : Int32) (a2 : Int32) : Int32 :=
  (sp_F_checkOver_5 a1 a2 33 G0 a1 31)
set_option maxHeartbeats 4000000 in
set_option maxRecDepth 100000 in
theorem c_F_checkOver (l : Launch) (P : gP) (G0 : Mem)  (a1 : Int32) (a2 : Int32)  : gMri l y_F_checkOver b_F_checkOver 5 (some .int) ({ frames := 0, cells := 0, slots := 0, locals := 0 }) [.int a1, .int a2] P G0 (sp_F_checkOver G0 a1 a2) := by
  refine Met.ofW (cc := b_F_checkOver) (maxL := 5) (ret := (some .int)) (by decide) rfl ?_
  intro p e s m args below meth c0 s₁ B hml hv
  obtain ⟨rfl, hpre⟩ := hv
  obtain ⟨E, hH⟩ := gE_of B hml hpre
  replace E : gE p s m _ meth c0 P "FramedLine" b_F_checkOver 5 (some .int) := E
  have hx := E.1
  have hb := E.2.1
  have hl := lv_entry ([.int a1, .int a2]) (n := 5) (Nat.le_of_ble_eq_true rfl)
  rw [lg_entry_eq]
  generalize (lg_sl ([.int a1, .int a2]) ++ List.replicate (5 - (lg_sl ([.int a1, .int a2])).length) Slot.unset).toArray = ls at hl ⊢
  replace hl : lv_has ls 5 [(0, .int a1), (1, .int a2)] := hl
  have hsp : sp_F_checkOver G0 a1 a2 = sp_F_checkOver G0 a1 a2 := rfl
  refine jl (α := Nat × Array Slot × Int32 × Int32) (fun q H1 locs1 => sp_F_checkOver G0 a1 a2 = sp_F_checkOver_5 a1 a2 q.1 G0 q.2.2.1 q.2.2.2 ∧ (q.2.2.2 = nI q.1 - 2 ∧ q.1 ≤ 33 ∧ 1 ≤ q.1) ∧ lv_has q.2.1 5 [(0, .int a1), (1, .int a2), (2, .int q.2.2.1), (3, .int q.2.2.2)] ∧ gH P s G0 H1 locs1) (fun q => F0 m 5 q.2.1 []) (fun q => q.1) (fun q H locs h9 ih5 => ?_) (fun hC5 => ?_)
  · clear hsp hl hH ls
    obtain ⟨n, ls, x2, x3⟩ := q
    obtain ⟨hsp, hinv, hl, hH⟩ := h9
    dsimp only at hinv
    obtain ⟨d, rfl⟩ : ∃ d, n = d + 1 := ⟨n - 1, by omega⟩
    change lv_has ls 5 [(0, .int a1), (1, .int a2), (2, .int x2), (3, .int x3)] at hl
    dsimp only at hsp hH ⊢
    refine lv_iload_n hx hb d_F_checkOver_5 rfl (lv_at hl 3 rfl) ?_
    refine lv_if_lt (tgt := 43) hx hb d_F_checkOver_6 (by decide) (fun h1 => ?_) (fun h1 => ?_)
    · refine lv_iload_n hx hb d_F_checkOver_43 rfl (lv_at hl 2 rfl) ?_
      exact g_riret E hH (hsp.trans (by simp only [sp_F_checkOver_5, if_pos h1])) d_F_checkOver_44
    · refine lv_iload_n hx hb d_F_checkOver_9 rfl (lv_at hl 1 rfl) ?_
      refine lv_iload_n hx hb d_F_checkOver_10 rfl (lv_at hl 3 rfl) ?_
      refine lv_iushr (v := (iu a2 x3)) hx hb d_F_checkOver_11 rfl ?_
      refine lv_iconst (v := 1) hx hb d_F_checkOver_12 (by decide) ?_
      refine lv_iand hx hb d_F_checkOver_13 ?_
      refine lv_iload_n hx hb d_F_checkOver_14 rfl (lv_at hl 2 rfl) ?_
      refine lv_iconst (v := 3) hx hb d_F_checkOver_15 (by decide) ?_
      refine lv_ishr hx hb d_F_checkOver_16 ?_
      refine lv_ixor hx hb d_F_checkOver_17 ?_
      refine lv_istore hx hb d_F_checkOver_18 hl (by decide) rfl (fun ls hl => ?_)
      refine lv_iload_n hx hb d_F_checkOver_20 rfl (lv_at hl 3 rfl) ?_
      refine lv_iconst (v := 1) hx hb d_F_checkOver_21 (by decide) ?_
      refine lv_ishl hx hb d_F_checkOver_22 ?_
      refine lv_bipush (v := 15) hx hb d_F_checkOver_23 (by decide) ?_
      refine lv_iand hx hb d_F_checkOver_25 ?_
      refine lv_istore_n hx hb d_F_checkOver_26 rfl hl (by decide) rfl (fun ls hl => ?_)
      refine lv_iload hx hb d_F_checkOver_27 (lv_at hl 1 rfl) ?_
      refine lv_iconst (v := 1) hx hb d_F_checkOver_29 (by decide) ?_
      refine lv_icmp_ne (tgt := 37) hx hb d_F_checkOver_30 (by decide) (fun h2 => ?_) (fun h2 => ?_)
      · refine lv_iinc (k := 4) (v := (x3 + (-1))) hx hb d_F_checkOver_37 hl rfl rfl (by decide) rfl (fun ls hl => ?_)
        refine lv_goto (tgt := 5) hx hb d_F_checkOver_40 (by decide) ?_
        exact ih5 (d, _, ((x2 <<< ((1 : Int32) &&& 31)) &&& (15 : Int32)), (x3 + (-1))) _ _ (Nat.lt_succ_self _) ⟨hsp.trans (by simp only [sp_F_checkOver_5, if_neg h1, if_neg h2]), (co_back hinv h1), lv_sub hl [3, 4, 1, 0] rfl, hH⟩
      · refine lv_iload_n hx hb d_F_checkOver_33 rfl (lv_at hl 0 rfl) ?_
        refine lv_iconst (v := 3) hx hb d_F_checkOver_34 (by decide) ?_
        refine lv_ixor hx hb d_F_checkOver_35 ?_
        refine lv_istore_n hx hb d_F_checkOver_36 rfl hl (by decide) rfl (fun ls hl => ?_)
        refine lv_iinc (k := 4) (v := (x3 + (-1))) hx hb d_F_checkOver_37 hl rfl rfl (by decide) rfl (fun ls hl => ?_)
        refine lv_goto (tgt := 5) hx hb d_F_checkOver_40 (by decide) ?_
        exact ih5 (d, _, (((x2 <<< ((1 : Int32) &&& 31)) &&& (15 : Int32)) ^^^ (3 : Int32)), (x3 + (-1))) _ _ (Nat.lt_succ_self _) ⟨hsp.trans (by simp only [sp_F_checkOver_5, if_neg h1, if_pos h2]), (co_back hinv h1), lv_sub hl [3, 4, 1, 0] rfl, hH⟩
  refine lv_iload_n hx hb d_F_checkOver_0 rfl (lv_at hl 0 rfl) ?_
  refine lv_istore_n hx hb d_F_checkOver_1 rfl hl (by decide) rfl (fun ls hl => ?_)
  refine lv_bipush (v := 31) hx hb d_F_checkOver_2 (by decide) ?_
  refine lv_istore_n hx hb d_F_checkOver_4 rfl hl (by decide) rfl (fun ls hl => ?_)
  exact hC5 (33, _, a1, 31) _ _ ⟨hsp.trans (by rw [sp_F_checkOver]), (by dsimp only; decide), lv_sub hl [2, 3, 1, 0] rfl, hH⟩

def sp_O_forgetNumber (c : Nat) (G0 : Mem)  : Mem :=
  (wr (wr (wr (wr (wr G0 c 0 (-1)) c 4 0) c 5 0) c 9 0) c 10 0)
set_option maxHeartbeats 4000000 in
set_option maxRecDepth 100000 in
theorem c_O_forgetNumber (l : Launch) (P : gP) (G0 : Mem) (c : Nat)  (hc : kO c) : gMv l y_O_forgetNumber b_O_forgetNumber 1 none ({ frames := 0, cells := 0, slots := 0, locals := 0 }) [.ref (gad P c)] P G0 (sp_O_forgetNumber c G0) := by
  refine Met.ofW (cc := b_O_forgetNumber) (maxL := 1) (ret := none) (by decide) rfl ?_
  intro p e s m args below meth c0 s₁ B hml hv
  obtain ⟨rfl, hpre⟩ := hv
  obtain ⟨E, hH⟩ := gE_of B hml hpre
  replace E : gE p s m _ meth c0 P "FramedLine$Rounds" b_O_forgetNumber 1 none := E
  have hcU := hc
  unfold kO at hcU
  have hx := E.1
  have hb := E.2.1
  have hl := lv_entry ([.ref (gad P c)]) (n := 1) (Nat.le_of_ble_eq_true rfl)
  rw [lg_entry_eq]
  generalize (lg_sl ([.ref (gad P c)]) ++ List.replicate (1 - (lg_sl ([.ref (gad P c)])).length) Slot.unset).toArray = ls at hl ⊢
  replace hl : lv_has ls 1 [(0, .ref (gad P c))] := hl
  have hsp : sp_O_forgetNumber c G0 = sp_O_forgetNumber c G0 := rfl
  refine lv_aload_n hx hb d_O_forgetNumber_0 rfl (lv_at hl 0 rfl) ?_
  refine lv_iconst (v := (-1)) hx hb d_O_forgetNumber_1 (by decide) ?_
  refine g_puti E hH (gc_O hc) cl_O ct_O 0 (by decide) lf_O_9 rfl (by decide +kernel) (fun _ _ => rfl) (Nat.le_of_ble_eq_true rfl) d_O_forgetNumber_2 (fun H locs hH => ?_)
  refine lv_aload_n hx hb d_O_forgetNumber_5 rfl (lv_at hl 0 rfl) ?_
  refine lv_iconst (v := 0) hx hb d_O_forgetNumber_6 (by decide) ?_
  refine g_putz E hH (gc_O hc) cl_O ct_O 4 (by decide) lf_O_24 rfl (by decide +kernel) (set_O4 _ _) isB_0 (Nat.le_of_ble_eq_true rfl) d_O_forgetNumber_7 (fun H locs hH => ?_)
  refine lv_aload_n hx hb d_O_forgetNumber_10 rfl (lv_at hl 0 rfl) ?_
  refine lv_iconst (v := 0) hx hb d_O_forgetNumber_11 (by decide) ?_
  refine g_putz E hH (gc_O hc) cl_O ct_O 5 (by decide) lf_O_28 rfl (by decide +kernel) (set_O5 _ _) isB_0 (Nat.le_of_ble_eq_true rfl) d_O_forgetNumber_12 (fun H locs hH => ?_)
  refine lv_aload_n hx hb d_O_forgetNumber_15 rfl (lv_at hl 0 rfl) ?_
  refine lv_iconst (v := 0) hx hb d_O_forgetNumber_16 (by decide) ?_
  refine g_putz E hH (gc_O hc) cl_O ct_O 9 (by decide) lf_O_40 rfl (by decide +kernel) (set_O9 _ _) isB_0 (Nat.le_of_ble_eq_true rfl) d_O_forgetNumber_17 (fun H locs hH => ?_)
  refine lv_aload_n hx hb d_O_forgetNumber_20 rfl (lv_at hl 0 rfl) ?_
  refine lv_iconst (v := 0) hx hb d_O_forgetNumber_21 (by decide) ?_
  refine g_putz E hH (gc_O hc) cl_O ct_O 10 (by decide) lf_O_43 rfl (by decide +kernel) (set_O10 _ _) isB_0 (Nat.le_of_ble_eq_true rfl) d_O_forgetNumber_22 (fun H locs hH => ?_)
  exact g_vret E hH (hsp.trans (by rw [sp_O_forgetNumber])) d_O_forgetNumber_25

def sp_O_startAnew (c : Nat) (G0 : Mem)  : Mem :=
  (wr (sp_O_forgetNumber c G0) c 1 0)
set_option maxHeartbeats 4000000 in
set_option maxRecDepth 100000 in
theorem c_O_startAnew (l : Launch) (P : gP) (G0 : Mem) (c : Nat)  (hc : kO c) : gMv l y_O_startAnew b_O_startAnew 1 none ({ frames := 1, cells := 0, slots := 0, locals := 20 }) [.ref (gad P c)] P G0 (sp_O_startAnew c G0) := by
  refine Met.ofW (cc := b_O_startAnew) (maxL := 1) (ret := none) (by decide) rfl ?_
  intro p e s m args below meth c0 s₁ B hml hv
  obtain ⟨rfl, hpre⟩ := hv
  obtain ⟨E, hH⟩ := gE_of B hml hpre
  replace E : gE p s m _ meth c0 P "FramedLine$Rounds" b_O_startAnew 1 none := E
  have hcU := hc
  unfold kO at hcU
  have hx := E.1
  have hb := E.2.1
  have hl := lv_entry ([.ref (gad P c)]) (n := 1) (Nat.le_of_ble_eq_true rfl)
  rw [lg_entry_eq]
  generalize (lg_sl ([.ref (gad P c)]) ++ List.replicate (1 - (lg_sl ([.ref (gad P c)])).length) Slot.unset).toArray = ls at hl ⊢
  replace hl : lv_has ls 1 [(0, .ref (gad P c))] := hl
  have hsp : sp_O_startAnew c G0 = sp_O_startAnew c G0 := rfl
  refine lv_aload_n hx hb d_O_startAnew_0 rfl (lv_at hl 0 rfl) ?_
  refine g_callVv (As := []) E hH hl (c_O_forgetNumber l P _ c hc) lm_O_52 (gc_O hc) cl_O (Nat.le_of_ble_eq_true rfl) (Nat.le_of_ble_eq_true rfl) (Nat.le_of_ble_eq_true rfl) (Nat.le_of_ble_eq_true rfl) (Nat.le_of_ble_eq_true rfl) rfl rfl rfl rfl d_O_startAnew_1 (fun H locs hH => ?_)
  refine lv_aload_n hx hb d_O_startAnew_4 rfl (lv_at hl 0 rfl) ?_
  refine lv_iconst (v := 0) hx hb d_O_startAnew_5 (by decide) ?_
  refine g_puti E hH (gc_O hc) cl_O ct_O 1 (by decide) lf_O_15 rfl (by decide +kernel) (fun _ _ => rfl) (Nat.le_of_ble_eq_true rfl) d_O_startAnew_6 (fun H locs hH => ?_)
  exact g_vret E hH (hsp.trans (by rw [sp_O_startAnew])) d_O_startAnew_9

def sp_O_judgeHalfBefore (c : Nat) (G0 : Mem)  : Mem :=
  (if ((if (G0 c 8) = (G0 c 7) then 0 else 1) : Int32) = 0 then (if (G0 c 0) = 15 then (wr G0 c 9 ((if (G0 c 8) = (G0 c 7) then 0 else 1) : Int32)) else (wr G0 c 10 ((if (G0 c 8) = (G0 c 7) then 0 else 1) : Int32))) else (if (G0 c 0) = 15 then (wr (wr G0 c 11 ((G0 c 11) + 1)) c 9 ((if (G0 c 8) = (G0 c 7) then 0 else 1) : Int32)) else (wr (wr G0 c 11 ((G0 c 11) + 1)) c 10 ((if (G0 c 8) = (G0 c 7) then 0 else 1) : Int32))))
set_option maxHeartbeats 4000000 in
set_option maxRecDepth 100000 in
theorem c_O_judgeHalfBefore (l : Launch) (P : gP) (G0 : Mem) (c : Nat)  (hc : kO c) : gMv l y_O_judgeHalfBefore b_O_judgeHalfBefore 2 none ({ frames := 0, cells := 0, slots := 0, locals := 0 }) [.ref (gad P c)] P G0 (sp_O_judgeHalfBefore c G0) := by
  refine Met.ofW (cc := b_O_judgeHalfBefore) (maxL := 2) (ret := none) (by decide) rfl ?_
  intro p e s m args below meth c0 s₁ B hml hv
  obtain ⟨rfl, hpre⟩ := hv
  obtain ⟨E, hH⟩ := gE_of B hml hpre
  replace E : gE p s m _ meth c0 P "FramedLine$Rounds" b_O_judgeHalfBefore 2 none := E
  have hcU := hc
  unfold kO at hcU
  have hx := E.1
  have hb := E.2.1
  have hl := lv_entry ([.ref (gad P c)]) (n := 2) (Nat.le_of_ble_eq_true rfl)
  rw [lg_entry_eq]
  generalize (lg_sl ([.ref (gad P c)]) ++ List.replicate (2 - (lg_sl ([.ref (gad P c)])).length) Slot.unset).toArray = ls at hl ⊢
  replace hl : lv_has ls 2 [(0, .ref (gad P c))] := hl
  have hsp : sp_O_judgeHalfBefore c G0 = sp_O_judgeHalfBefore c G0 := rfl
  refine lv_aload_n hx hb d_O_judgeHalfBefore_0 rfl (lv_at hl 0 rfl) ?_
  refine g_geti (v := (G0 c 8)) E hH (gc_O hc) cl_O 8 (by decide) lf_O_37 (fun _ => rfl) rfl d_O_judgeHalfBefore_1 ?_
  refine lv_aload_n hx hb d_O_judgeHalfBefore_4 rfl (lv_at hl 0 rfl) ?_
  refine g_geti (v := (G0 c 7)) E hH (gc_O hc) cl_O 7 (by decide) lf_O_34 (fun _ => rfl) rfl d_O_judgeHalfBefore_5 ?_
  refine jn (α := Int32) (fun z H1 locs1 => z = ((if (G0 c 8) = (G0 c 7) then 0 else 1) : Int32) ∧ isB z ∧ gH P s G0 H1 locs1) (fun z => F0 m 16 ls (.int z :: [])) (fun z H locs h9 => ?_) (fun hJ => ?_)
  · obtain ⟨rfl, hz16, hH⟩ := h9
    refine lv_istore_n hx hb d_O_judgeHalfBefore_16 rfl hl (by decide) rfl (fun ls hl => ?_)
    refine lv_iload_n hx hb d_O_judgeHalfBefore_17 rfl (lv_at hl 0 rfl) ?_
    refine lv_if_eq (tgt := 31) hx hb d_O_judgeHalfBefore_18 (by decide) (fun h1 => ?_) (fun h1 => ?_)
    · refine lv_aload_n hx hb d_O_judgeHalfBefore_31 rfl (lv_at hl 1 rfl) ?_
      refine g_geti (v := (G0 c 0)) E hH (gc_O hc) cl_O 0 (by decide) lf_O_9 (fun _ => rfl) rfl d_O_judgeHalfBefore_32 ?_
      refine lv_bipush (v := 15) hx hb d_O_judgeHalfBefore_35 (by decide) ?_
      refine lv_icmp_ne (tgt := 48) hx hb d_O_judgeHalfBefore_37 (by decide) (fun h2 => ?_) (fun h2 => ?_)
      · refine lv_aload_n hx hb d_O_judgeHalfBefore_48 rfl (lv_at hl 1 rfl) ?_
        refine lv_iload_n hx hb d_O_judgeHalfBefore_49 rfl (lv_at hl 0 rfl) ?_
        refine g_putz E hH (gc_O hc) cl_O ct_O 10 (by decide) lf_O_43 rfl (by decide +kernel) (set_O10 _ _) hz16 (Nat.le_of_ble_eq_true rfl) d_O_judgeHalfBefore_50 (fun H locs hH => ?_)
        exact g_vret E hH (hsp.trans (by simp only [sp_O_judgeHalfBefore, if_pos h1, if_neg h2])) d_O_judgeHalfBefore_53
      · refine lv_aload_n hx hb d_O_judgeHalfBefore_40 rfl (lv_at hl 1 rfl) ?_
        refine lv_iload_n hx hb d_O_judgeHalfBefore_41 rfl (lv_at hl 0 rfl) ?_
        refine g_putz E hH (gc_O hc) cl_O ct_O 9 (by decide) lf_O_40 rfl (by decide +kernel) (set_O9 _ _) hz16 (Nat.le_of_ble_eq_true rfl) d_O_judgeHalfBefore_42 (fun H locs hH => ?_)
        refine lv_goto (tgt := 53) hx hb d_O_judgeHalfBefore_45 (by decide) ?_
        exact g_vret E hH (hsp.trans (by simp only [sp_O_judgeHalfBefore, if_pos h1, if_pos h2])) d_O_judgeHalfBefore_53
    · refine lv_aload_n hx hb d_O_judgeHalfBefore_21 rfl (lv_at hl 1 rfl) ?_
      refine lv_dup hx hb d_O_judgeHalfBefore_22 rfl ?_
      refine g_geti (v := (G0 c 11)) E hH (gc_O hc) cl_O 11 (by decide) lf_O_46 (fun _ => rfl) rfl d_O_judgeHalfBefore_23 ?_
      refine lv_iconst (v := 1) hx hb d_O_judgeHalfBefore_26 (by decide) ?_
      refine lv_iadd hx hb d_O_judgeHalfBefore_27 ?_
      refine g_puti E hH (gc_O hc) cl_O ct_O 11 (by decide) lf_O_46 rfl (by decide +kernel) (fun _ _ => rfl) (Nat.le_of_ble_eq_true rfl) d_O_judgeHalfBefore_28 (fun H locs hH => ?_)
      refine lv_aload_n hx hb d_O_judgeHalfBefore_31 rfl (lv_at hl 1 rfl) ?_
      refine g_geti (v := (G0 c 0)) E hH (gc_O hc) cl_O 0 (by decide) lf_O_9 (fun _ => rfl) (wr_k _ _ _ _ (by decide)) d_O_judgeHalfBefore_32 ?_
      refine lv_bipush (v := 15) hx hb d_O_judgeHalfBefore_35 (by decide) ?_
      refine lv_icmp_ne (tgt := 48) hx hb d_O_judgeHalfBefore_37 (by decide) (fun h3 => ?_) (fun h3 => ?_)
      · refine lv_aload_n hx hb d_O_judgeHalfBefore_48 rfl (lv_at hl 1 rfl) ?_
        refine lv_iload_n hx hb d_O_judgeHalfBefore_49 rfl (lv_at hl 0 rfl) ?_
        refine g_putz E hH (gc_O hc) cl_O ct_O 10 (by decide) lf_O_43 rfl (by decide +kernel) (set_O10 _ _) hz16 (Nat.le_of_ble_eq_true rfl) d_O_judgeHalfBefore_50 (fun H locs hH => ?_)
        exact g_vret E hH (hsp.trans (by simp only [sp_O_judgeHalfBefore, if_neg h1, if_neg h3])) d_O_judgeHalfBefore_53
      · refine lv_aload_n hx hb d_O_judgeHalfBefore_40 rfl (lv_at hl 1 rfl) ?_
        refine lv_iload_n hx hb d_O_judgeHalfBefore_41 rfl (lv_at hl 0 rfl) ?_
        refine g_putz E hH (gc_O hc) cl_O ct_O 9 (by decide) lf_O_40 rfl (by decide +kernel) (set_O9 _ _) hz16 (Nat.le_of_ble_eq_true rfl) d_O_judgeHalfBefore_42 (fun H locs hH => ?_)
        refine lv_goto (tgt := 53) hx hb d_O_judgeHalfBefore_45 (by decide) ?_
        exact g_vret E hH (hsp.trans (by simp only [sp_O_judgeHalfBefore, if_neg h1, if_pos h3])) d_O_judgeHalfBefore_53
  · refine lv_icmp_eq (tgt := 15) hx hb d_O_judgeHalfBefore_8 (by decide) (fun h4 => ?_) (fun h4 => ?_)
    · refine lv_iconst (v := 0) hx hb d_O_judgeHalfBefore_15 (by decide) ?_
      exact hJ _ _ _ ⟨by simp only [if_pos h4], isB_0, hH⟩
    · refine lv_iconst (v := 1) hx hb d_O_judgeHalfBefore_11 (by decide) ?_
      refine lv_goto (tgt := 16) hx hb d_O_judgeHalfBefore_12 (by decide) ?_
      exact hJ _ _ _ ⟨by simp only [if_neg h4], isB_1, hH⟩

def sp_O_endHalf (c : Nat) (G0 : Mem)  : Mem :=
  (if (zb (G0 c 5)) = 0 then (wr (wr (wr (wr G0 c 5 (zb (G0 c 4))) c 7 (G0 c 6)) c 4 1) c 6 0) else (wr (wr (wr (wr (sp_O_judgeHalfBefore c G0) c 5 (zb ((sp_O_judgeHalfBefore c G0) c 4))) c 7 ((sp_O_judgeHalfBefore c G0) c 6)) c 4 1) c 6 0))
set_option maxHeartbeats 4000000 in
set_option maxRecDepth 100000 in
theorem c_O_endHalf (l : Launch) (P : gP) (G0 : Mem) (c : Nat)  (hc : kO c) : gMv l y_O_endHalf b_O_endHalf 1 none ({ frames := 1, cells := 0, slots := 0, locals := 21 }) [.ref (gad P c)] P G0 (sp_O_endHalf c G0) := by
  refine Met.ofW (cc := b_O_endHalf) (maxL := 1) (ret := none) (by decide) rfl ?_
  intro p e s m args below meth c0 s₁ B hml hv
  obtain ⟨rfl, hpre⟩ := hv
  obtain ⟨E, hH⟩ := gE_of B hml hpre
  replace E : gE p s m _ meth c0 P "FramedLine$Rounds" b_O_endHalf 1 none := E
  have hcU := hc
  unfold kO at hcU
  have hx := E.1
  have hb := E.2.1
  have hl := lv_entry ([.ref (gad P c)]) (n := 1) (Nat.le_of_ble_eq_true rfl)
  rw [lg_entry_eq]
  generalize (lg_sl ([.ref (gad P c)]) ++ List.replicate (1 - (lg_sl ([.ref (gad P c)])).length) Slot.unset).toArray = ls at hl ⊢
  replace hl : lv_has ls 1 [(0, .ref (gad P c))] := hl
  have hsp : sp_O_endHalf c G0 = sp_O_endHalf c G0 := rfl
  refine lv_aload_n hx hb d_O_endHalf_0 rfl (lv_at hl 0 rfl) ?_
  refine g_getz (v := (G0 c 5)) E hH (gc_O hc) cl_O 5 (by decide) lf_O_28 (fun _ => rfl) rfl d_O_endHalf_1 ?_
  refine lv_if_eq (tgt := 11) hx hb d_O_endHalf_4 (by decide) (fun h1 => ?_) (fun h1 => ?_)
  · refine lv_aload_n hx hb d_O_endHalf_11 rfl (lv_at hl 0 rfl) ?_
    refine lv_aload_n hx hb d_O_endHalf_12 rfl (lv_at hl 0 rfl) ?_
    refine g_getz (v := (G0 c 4)) E hH (gc_O hc) cl_O 4 (by decide) lf_O_24 (fun _ => rfl) rfl d_O_endHalf_13 ?_
    refine g_putz E hH (gc_O hc) cl_O ct_O 5 (by decide) lf_O_28 rfl (by decide +kernel) (set_O5 _ _) (isB_zb _) (Nat.le_of_ble_eq_true rfl) d_O_endHalf_16 (fun H locs hH => ?_)
    refine lv_aload_n hx hb d_O_endHalf_19 rfl (lv_at hl 0 rfl) ?_
    refine lv_aload_n hx hb d_O_endHalf_20 rfl (lv_at hl 0 rfl) ?_
    refine g_geti (v := (G0 c 6)) E hH (gc_O hc) cl_O 6 (by decide) lf_O_31 (fun _ => rfl) (wr_k _ _ _ _ (by decide)) d_O_endHalf_21 ?_
    refine g_puti E hH (gc_O hc) cl_O ct_O 7 (by decide) lf_O_34 rfl (by decide +kernel) (fun _ _ => rfl) (Nat.le_of_ble_eq_true rfl) d_O_endHalf_24 (fun H locs hH => ?_)
    refine lv_aload_n hx hb d_O_endHalf_27 rfl (lv_at hl 0 rfl) ?_
    refine lv_iconst (v := 1) hx hb d_O_endHalf_28 (by decide) ?_
    refine g_putz E hH (gc_O hc) cl_O ct_O 4 (by decide) lf_O_24 rfl (by decide +kernel) (set_O4 _ _) isB_1 (Nat.le_of_ble_eq_true rfl) d_O_endHalf_29 (fun H locs hH => ?_)
    refine lv_aload_n hx hb d_O_endHalf_32 rfl (lv_at hl 0 rfl) ?_
    refine lv_iconst (v := 0) hx hb d_O_endHalf_33 (by decide) ?_
    refine g_puti E hH (gc_O hc) cl_O ct_O 6 (by decide) lf_O_31 rfl (by decide +kernel) (fun _ _ => rfl) (Nat.le_of_ble_eq_true rfl) d_O_endHalf_34 (fun H locs hH => ?_)
    exact g_vret E hH (hsp.trans (by simp only [sp_O_endHalf, if_pos h1])) d_O_endHalf_37
  · refine lv_aload_n hx hb d_O_endHalf_7 rfl (lv_at hl 0 rfl) ?_
    refine g_callVv (As := []) E hH hl (c_O_judgeHalfBefore l P _ c hc) lm_O_74 (gc_O hc) cl_O (Nat.le_of_ble_eq_true rfl) (Nat.le_of_ble_eq_true rfl) (Nat.le_of_ble_eq_true rfl) (Nat.le_of_ble_eq_true rfl) (Nat.le_of_ble_eq_true rfl) rfl rfl rfl rfl d_O_endHalf_8 (fun H locs hH => ?_)
    refine lv_aload_n hx hb d_O_endHalf_11 rfl (lv_at hl 0 rfl) ?_
    refine lv_aload_n hx hb d_O_endHalf_12 rfl (lv_at hl 0 rfl) ?_
    refine g_getz (v := ((sp_O_judgeHalfBefore c G0) c 4)) E hH (gc_O hc) cl_O 4 (by decide) lf_O_24 (fun _ => rfl) rfl d_O_endHalf_13 ?_
    refine g_putz E hH (gc_O hc) cl_O ct_O 5 (by decide) lf_O_28 rfl (by decide +kernel) (set_O5 _ _) (isB_zb _) (Nat.le_of_ble_eq_true rfl) d_O_endHalf_16 (fun H locs hH => ?_)
    refine lv_aload_n hx hb d_O_endHalf_19 rfl (lv_at hl 0 rfl) ?_
    refine lv_aload_n hx hb d_O_endHalf_20 rfl (lv_at hl 0 rfl) ?_
    refine g_geti (v := ((sp_O_judgeHalfBefore c G0) c 6)) E hH (gc_O hc) cl_O 6 (by decide) lf_O_31 (fun _ => rfl) (wr_k _ _ _ _ (by decide)) d_O_endHalf_21 ?_
    refine g_puti E hH (gc_O hc) cl_O ct_O 7 (by decide) lf_O_34 rfl (by decide +kernel) (fun _ _ => rfl) (Nat.le_of_ble_eq_true rfl) d_O_endHalf_24 (fun H locs hH => ?_)
    refine lv_aload_n hx hb d_O_endHalf_27 rfl (lv_at hl 0 rfl) ?_
    refine lv_iconst (v := 1) hx hb d_O_endHalf_28 (by decide) ?_
    refine g_putz E hH (gc_O hc) cl_O ct_O 4 (by decide) lf_O_24 rfl (by decide +kernel) (set_O4 _ _) isB_1 (Nat.le_of_ble_eq_true rfl) d_O_endHalf_29 (fun H locs hH => ?_)
    refine lv_aload_n hx hb d_O_endHalf_32 rfl (lv_at hl 0 rfl) ?_
    refine lv_iconst (v := 0) hx hb d_O_endHalf_33 (by decide) ?_
    refine g_puti E hH (gc_O hc) cl_O ct_O 6 (by decide) lf_O_31 rfl (by decide +kernel) (fun _ _ => rfl) (Nat.le_of_ble_eq_true rfl) d_O_endHalf_34 (fun H locs hH => ?_)
    exact g_vret E hH (hsp.trans (by simp only [sp_O_endHalf, if_neg h1])) d_O_endHalf_37

def sp_O_judgeRoundWord (c : Nat) (G0 : Mem)  : Mem :=
  (if ((if (G0 c 2) = 11 then 0 else ((G0 c 3) + 1)) : Int32) = 2 then (sp_O_forgetNumber c (wr G0 c 3 ((if (G0 c 2) = 11 then 0 else ((G0 c 3) + 1)) : Int32))) else (wr G0 c 3 ((if (G0 c 2) = 11 then 0 else ((G0 c 3) + 1)) : Int32)))
set_option maxHeartbeats 4000000 in
set_option maxRecDepth 100000 in
theorem c_O_judgeRoundWord (l : Launch) (P : gP) (G0 : Mem) (c : Nat)  (hc : kO c) : gMv l y_O_judgeRoundWord b_O_judgeRoundWord 1 none ({ frames := 1, cells := 0, slots := 0, locals := 20 }) [.ref (gad P c)] P G0 (sp_O_judgeRoundWord c G0) := by
  refine Met.ofW (cc := b_O_judgeRoundWord) (maxL := 1) (ret := none) (by decide) rfl ?_
  intro p e s m args below meth c0 s₁ B hml hv
  obtain ⟨rfl, hpre⟩ := hv
  obtain ⟨E, hH⟩ := gE_of B hml hpre
  replace E : gE p s m _ meth c0 P "FramedLine$Rounds" b_O_judgeRoundWord 1 none := E
  have hcU := hc
  unfold kO at hcU
  have hx := E.1
  have hb := E.2.1
  have hl := lv_entry ([.ref (gad P c)]) (n := 1) (Nat.le_of_ble_eq_true rfl)
  rw [lg_entry_eq]
  generalize (lg_sl ([.ref (gad P c)]) ++ List.replicate (1 - (lg_sl ([.ref (gad P c)])).length) Slot.unset).toArray = ls at hl ⊢
  replace hl : lv_has ls 1 [(0, .ref (gad P c))] := hl
  have hsp : sp_O_judgeRoundWord c G0 = sp_O_judgeRoundWord c G0 := rfl
  refine lv_aload_n hx hb d_O_judgeRoundWord_0 rfl (lv_at hl 0 rfl) ?_
  refine lv_aload_n hx hb d_O_judgeRoundWord_1 rfl (lv_at hl 0 rfl) ?_
  refine g_geti (v := (G0 c 2)) E hH (gc_O hc) cl_O 2 (by decide) lf_O_18 (fun _ => rfl) rfl d_O_judgeRoundWord_2 ?_
  refine lv_bipush (v := 11) hx hb d_O_judgeRoundWord_5 (by decide) ?_
  refine jn (α := Int32) (fun z H1 locs1 => z = ((if (G0 c 2) = 11 then 0 else ((G0 c 3) + 1)) : Int32) ∧ gH P s G0 H1 locs1) (fun z => F0 m 20 ls (.int z :: .ref (gad P c) :: [])) (fun z H locs h9 => ?_) (fun hJ => ?_)
  · obtain ⟨rfl, hH⟩ := h9
    refine g_puti E hH (gc_O hc) cl_O ct_O 3 (by decide) lf_O_21 rfl (by decide +kernel) (fun _ _ => rfl) (Nat.le_of_ble_eq_true rfl) d_O_judgeRoundWord_20 (fun H locs hH => ?_)
    refine lv_aload_n hx hb d_O_judgeRoundWord_23 rfl (lv_at hl 0 rfl) ?_
    refine g_geti (v := ((if (G0 c 2) = 11 then 0 else ((G0 c 3) + 1)) : Int32)) E hH (gc_O hc) cl_O 3 (by decide) lf_O_21 (fun _ => rfl) (wr_same _ _ _ _) d_O_judgeRoundWord_24 ?_
    refine lv_iconst (v := 2) hx hb d_O_judgeRoundWord_27 (by decide) ?_
    refine lv_icmp_ne (tgt := 35) hx hb d_O_judgeRoundWord_28 (by decide) (fun h1 => ?_) (fun h1 => ?_)
    · exact g_vret E hH (hsp.trans (by simp only [sp_O_judgeRoundWord, if_neg h1])) d_O_judgeRoundWord_35
    · refine lv_aload_n hx hb d_O_judgeRoundWord_31 rfl (lv_at hl 0 rfl) ?_
      refine g_callVv (As := []) E hH hl (c_O_forgetNumber l P _ c hc) lm_O_52 (gc_O hc) cl_O (Nat.le_of_ble_eq_true rfl) (Nat.le_of_ble_eq_true rfl) (Nat.le_of_ble_eq_true rfl) (Nat.le_of_ble_eq_true rfl) (Nat.le_of_ble_eq_true rfl) rfl rfl rfl rfl d_O_judgeRoundWord_32 (fun H locs hH => ?_)
      exact g_vret E hH (hsp.trans (by simp only [sp_O_judgeRoundWord, if_pos h1])) d_O_judgeRoundWord_35
  · refine lv_icmp_ne (tgt := 14) hx hb d_O_judgeRoundWord_7 (by decide) (fun h2 => ?_) (fun h2 => ?_)
    · refine lv_aload_n hx hb d_O_judgeRoundWord_14 rfl (lv_at hl 0 rfl) ?_
      refine g_geti (v := (G0 c 3)) E hH (gc_O hc) cl_O 3 (by decide) lf_O_21 (fun _ => rfl) rfl d_O_judgeRoundWord_15 ?_
      refine lv_iconst (v := 1) hx hb d_O_judgeRoundWord_18 (by decide) ?_
      refine lv_iadd hx hb d_O_judgeRoundWord_19 ?_
      exact hJ _ _ _ ⟨by simp only [if_neg h2], hH⟩
    · refine lv_iconst (v := 0) hx hb d_O_judgeRoundWord_10 (by decide) ?_
      refine lv_goto (tgt := 20) hx hb d_O_judgeRoundWord_11 (by decide) ?_
      exact hJ _ _ _ ⟨by simp only [if_pos h2], hH⟩

def sp_O_findNumber (c : Nat) (G0 : Mem) (a1 : Int32) : Mem :=
  (if a1 = 0 then G0 else (if (G0 c 1) < 6 then G0 else (if (G0 c 2) = 11 then (wr (wr G0 c 0 11) c 3 0) else G0)))
set_option maxHeartbeats 4000000 in
set_option maxRecDepth 100000 in
theorem c_O_findNumber (l : Launch) (P : gP) (G0 : Mem) (c : Nat) (a1 : Int32) (hc : kO c) : gMv l y_O_findNumber b_O_findNumber 2 none ({ frames := 0, cells := 0, slots := 0, locals := 0 }) [.ref (gad P c), .int a1] P G0 (sp_O_findNumber c G0 a1) := by
  refine Met.ofW (cc := b_O_findNumber) (maxL := 2) (ret := none) (by decide) rfl ?_
  intro p e s m args below meth c0 s₁ B hml hv
  obtain ⟨rfl, hpre⟩ := hv
  obtain ⟨E, hH⟩ := gE_of B hml hpre
  replace E : gE p s m _ meth c0 P "FramedLine$Rounds" b_O_findNumber 2 none := E
  have hcU := hc
  unfold kO at hcU
  have hx := E.1
  have hb := E.2.1
  have hl := lv_entry ([.ref (gad P c), .int a1]) (n := 2) (Nat.le_of_ble_eq_true rfl)
  rw [lg_entry_eq]
  generalize (lg_sl ([.ref (gad P c), .int a1]) ++ List.replicate (2 - (lg_sl ([.ref (gad P c), .int a1])).length) Slot.unset).toArray = ls at hl ⊢
  replace hl : lv_has ls 2 [(0, .ref (gad P c)), (1, .int a1)] := hl
  have hsp : sp_O_findNumber c G0 a1 = sp_O_findNumber c G0 a1 := rfl
  refine lv_iload_n hx hb d_O_findNumber_0 rfl (lv_at hl 1 rfl) ?_
  refine lv_if_eq (tgt := 33) hx hb d_O_findNumber_1 (by decide) (fun h1 => ?_) (fun h1 => ?_)
  · exact g_vret E hH (hsp.trans (by simp only [sp_O_findNumber, if_pos h1])) d_O_findNumber_33
  · refine lv_aload_n hx hb d_O_findNumber_4 rfl (lv_at hl 0 rfl) ?_
    refine g_geti (v := (G0 c 1)) E hH (gc_O hc) cl_O 1 (by decide) lf_O_15 (fun _ => rfl) rfl d_O_findNumber_5 ?_
    refine lv_bipush (v := 6) hx hb d_O_findNumber_8 (by decide) ?_
    refine lv_icmp_lt (tgt := 33) hx hb d_O_findNumber_10 (by decide) (fun h2 => ?_) (fun h2 => ?_)
    · exact g_vret E hH (hsp.trans (by simp only [sp_O_findNumber, if_neg h1, if_pos h2])) d_O_findNumber_33
    · refine lv_aload_n hx hb d_O_findNumber_13 rfl (lv_at hl 0 rfl) ?_
      refine g_geti (v := (G0 c 2)) E hH (gc_O hc) cl_O 2 (by decide) lf_O_18 (fun _ => rfl) rfl d_O_findNumber_14 ?_
      refine lv_bipush (v := 11) hx hb d_O_findNumber_17 (by decide) ?_
      refine lv_icmp_ne (tgt := 33) hx hb d_O_findNumber_19 (by decide) (fun h3 => ?_) (fun h3 => ?_)
      · exact g_vret E hH (hsp.trans (by simp only [sp_O_findNumber, if_neg h1, if_neg h2, if_neg h3])) d_O_findNumber_33
      · refine lv_aload_n hx hb d_O_findNumber_22 rfl (lv_at hl 0 rfl) ?_
        refine lv_bipush (v := 11) hx hb d_O_findNumber_23 (by decide) ?_
        refine g_puti E hH (gc_O hc) cl_O ct_O 0 (by decide) lf_O_9 rfl (by decide +kernel) (fun _ _ => rfl) (Nat.le_of_ble_eq_true rfl) d_O_findNumber_25 (fun H locs hH => ?_)
        refine lv_aload_n hx hb d_O_findNumber_28 rfl (lv_at hl 0 rfl) ?_
        refine lv_iconst (v := 0) hx hb d_O_findNumber_29 (by decide) ?_
        refine g_puti E hH (gc_O hc) cl_O ct_O 3 (by decide) lf_O_21 rfl (by decide +kernel) (fun _ _ => rfl) (Nat.le_of_ble_eq_true rfl) d_O_findNumber_30 (fun H locs hH => ?_)
        exact g_vret E hH (hsp.trans (by simp only [sp_O_findNumber, if_neg h1, if_neg h2, if_pos h3])) d_O_findNumber_33

def sp_O_takeFrame (c : Nat) (G0 : Mem) (a1 : Int32) (a2 : Int32) : Mem :=
  (if a2 = 0 then (if (G0 c 0) = (-1) then (sp_O_findNumber c (wr G0 c 8 ((((G0 c 8) <<< ((1 : Int32) &&& 31)) ||| (iu a1 31)) &&& (15 : Int32))) a2) else (if (((G0 c 0) + 1) &&& (15 : Int32)) = 11 then (if ((sp_F_endsHalf (sp_O_judgeRoundWord c (wr (wr (wr G0 c 8 ((((G0 c 8) <<< ((1 : Int32) &&& 31)) ||| (iu a1 31)) &&& (15 : Int32))) c 0 (((G0 c 0) + 1) &&& (15 : Int32))) c 6 ((sp_F_checkOver (wr (wr G0 c 8 ((((G0 c 8) <<< ((1 : Int32) &&& 31)) ||| (iu a1 31)) &&& (15 : Int32))) c 0 (((G0 c 0) + 1) &&& (15 : Int32))) (G0 c 6) (a1 &&& (2147483647 : Int32)))))) ((sp_O_judgeRoundWord c (wr (wr (wr G0 c 8 ((((G0 c 8) <<< ((1 : Int32) &&& 31)) ||| (iu a1 31)) &&& (15 : Int32))) c 0 (((G0 c 0) + 1) &&& (15 : Int32))) c 6 ((sp_F_checkOver (wr (wr G0 c 8 ((((G0 c 8) <<< ((1 : Int32) &&& 31)) ||| (iu a1 31)) &&& (15 : Int32))) c 0 (((G0 c 0) + 1) &&& (15 : Int32))) (G0 c 6) (a1 &&& (2147483647 : Int32)))))) c 0))) = 0 then (sp_O_judgeRoundWord c (wr (wr (wr G0 c 8 ((((G0 c 8) <<< ((1 : Int32) &&& 31)) ||| (iu a1 31)) &&& (15 : Int32))) c 0 (((G0 c 0) + 1) &&& (15 : Int32))) c 6 ((sp_F_checkOver (wr (wr G0 c 8 ((((G0 c 8) <<< ((1 : Int32) &&& 31)) ||| (iu a1 31)) &&& (15 : Int32))) c 0 (((G0 c 0) + 1) &&& (15 : Int32))) (G0 c 6) (a1 &&& (2147483647 : Int32)))))) else (sp_O_endHalf c (sp_O_judgeRoundWord c (wr (wr (wr G0 c 8 ((((G0 c 8) <<< ((1 : Int32) &&& 31)) ||| (iu a1 31)) &&& (15 : Int32))) c 0 (((G0 c 0) + 1) &&& (15 : Int32))) c 6 ((sp_F_checkOver (wr (wr G0 c 8 ((((G0 c 8) <<< ((1 : Int32) &&& 31)) ||| (iu a1 31)) &&& (15 : Int32))) c 0 (((G0 c 0) + 1) &&& (15 : Int32))) (G0 c 6) (a1 &&& (2147483647 : Int32)))))))) else (if (iu a1 31) = 0 then (if (((G0 c 0) + 1) &&& (15 : Int32)) = 13 then (if ((sp_F_endsHalf (wr (wr (wr (wr G0 c 8 ((((G0 c 8) <<< ((1 : Int32) &&& 31)) ||| (iu a1 31)) &&& (15 : Int32))) c 0 (((G0 c 0) + 1) &&& (15 : Int32))) c 6 ((sp_F_checkOver (wr (wr G0 c 8 ((((G0 c 8) <<< ((1 : Int32) &&& 31)) ||| (iu a1 31)) &&& (15 : Int32))) c 0 (((G0 c 0) + 1) &&& (15 : Int32))) (G0 c 6) (a1 &&& (2147483647 : Int32))))) c 12 ((G0 c 12) + 1)) (((G0 c 0) + 1) &&& (15 : Int32)))) = 0 then (wr (wr (wr (wr G0 c 8 ((((G0 c 8) <<< ((1 : Int32) &&& 31)) ||| (iu a1 31)) &&& (15 : Int32))) c 0 (((G0 c 0) + 1) &&& (15 : Int32))) c 6 ((sp_F_checkOver (wr (wr G0 c 8 ((((G0 c 8) <<< ((1 : Int32) &&& 31)) ||| (iu a1 31)) &&& (15 : Int32))) c 0 (((G0 c 0) + 1) &&& (15 : Int32))) (G0 c 6) (a1 &&& (2147483647 : Int32))))) c 12 ((G0 c 12) + 1)) else (sp_O_endHalf c (wr (wr (wr (wr G0 c 8 ((((G0 c 8) <<< ((1 : Int32) &&& 31)) ||| (iu a1 31)) &&& (15 : Int32))) c 0 (((G0 c 0) + 1) &&& (15 : Int32))) c 6 ((sp_F_checkOver (wr (wr G0 c 8 ((((G0 c 8) <<< ((1 : Int32) &&& 31)) ||| (iu a1 31)) &&& (15 : Int32))) c 0 (((G0 c 0) + 1) &&& (15 : Int32))) (G0 c 6) (a1 &&& (2147483647 : Int32))))) c 12 ((G0 c 12) + 1)))) else (if (((G0 c 0) + 1) &&& (15 : Int32)) = 15 then (if ((sp_F_endsHalf (wr (wr (wr (wr G0 c 8 ((((G0 c 8) <<< ((1 : Int32) &&& 31)) ||| (iu a1 31)) &&& (15 : Int32))) c 0 (((G0 c 0) + 1) &&& (15 : Int32))) c 6 ((sp_F_checkOver (wr (wr G0 c 8 ((((G0 c 8) <<< ((1 : Int32) &&& 31)) ||| (iu a1 31)) &&& (15 : Int32))) c 0 (((G0 c 0) + 1) &&& (15 : Int32))) (G0 c 6) (a1 &&& (2147483647 : Int32))))) c 12 ((G0 c 12) + 1)) (((G0 c 0) + 1) &&& (15 : Int32)))) = 0 then (wr (wr (wr (wr G0 c 8 ((((G0 c 8) <<< ((1 : Int32) &&& 31)) ||| (iu a1 31)) &&& (15 : Int32))) c 0 (((G0 c 0) + 1) &&& (15 : Int32))) c 6 ((sp_F_checkOver (wr (wr G0 c 8 ((((G0 c 8) <<< ((1 : Int32) &&& 31)) ||| (iu a1 31)) &&& (15 : Int32))) c 0 (((G0 c 0) + 1) &&& (15 : Int32))) (G0 c 6) (a1 &&& (2147483647 : Int32))))) c 12 ((G0 c 12) + 1)) else (sp_O_endHalf c (wr (wr (wr (wr G0 c 8 ((((G0 c 8) <<< ((1 : Int32) &&& 31)) ||| (iu a1 31)) &&& (15 : Int32))) c 0 (((G0 c 0) + 1) &&& (15 : Int32))) c 6 ((sp_F_checkOver (wr (wr G0 c 8 ((((G0 c 8) <<< ((1 : Int32) &&& 31)) ||| (iu a1 31)) &&& (15 : Int32))) c 0 (((G0 c 0) + 1) &&& (15 : Int32))) (G0 c 6) (a1 &&& (2147483647 : Int32))))) c 12 ((G0 c 12) + 1)))) else (if ((sp_F_endsHalf (wr (wr (wr G0 c 8 ((((G0 c 8) <<< ((1 : Int32) &&& 31)) ||| (iu a1 31)) &&& (15 : Int32))) c 0 (((G0 c 0) + 1) &&& (15 : Int32))) c 6 ((sp_F_checkOver (wr (wr G0 c 8 ((((G0 c 8) <<< ((1 : Int32) &&& 31)) ||| (iu a1 31)) &&& (15 : Int32))) c 0 (((G0 c 0) + 1) &&& (15 : Int32))) (G0 c 6) (a1 &&& (2147483647 : Int32))))) (((G0 c 0) + 1) &&& (15 : Int32)))) = 0 then (wr (wr (wr G0 c 8 ((((G0 c 8) <<< ((1 : Int32) &&& 31)) ||| (iu a1 31)) &&& (15 : Int32))) c 0 (((G0 c 0) + 1) &&& (15 : Int32))) c 6 ((sp_F_checkOver (wr (wr G0 c 8 ((((G0 c 8) <<< ((1 : Int32) &&& 31)) ||| (iu a1 31)) &&& (15 : Int32))) c 0 (((G0 c 0) + 1) &&& (15 : Int32))) (G0 c 6) (a1 &&& (2147483647 : Int32))))) else (sp_O_endHalf c (wr (wr (wr G0 c 8 ((((G0 c 8) <<< ((1 : Int32) &&& 31)) ||| (iu a1 31)) &&& (15 : Int32))) c 0 (((G0 c 0) + 1) &&& (15 : Int32))) c 6 ((sp_F_checkOver (wr (wr G0 c 8 ((((G0 c 8) <<< ((1 : Int32) &&& 31)) ||| (iu a1 31)) &&& (15 : Int32))) c 0 (((G0 c 0) + 1) &&& (15 : Int32))) (G0 c 6) (a1 &&& (2147483647 : Int32))))))))) else (if ((sp_F_endsHalf (wr (wr (wr G0 c 8 ((((G0 c 8) <<< ((1 : Int32) &&& 31)) ||| (iu a1 31)) &&& (15 : Int32))) c 0 (((G0 c 0) + 1) &&& (15 : Int32))) c 6 ((sp_F_checkOver (wr (wr G0 c 8 ((((G0 c 8) <<< ((1 : Int32) &&& 31)) ||| (iu a1 31)) &&& (15 : Int32))) c 0 (((G0 c 0) + 1) &&& (15 : Int32))) (G0 c 6) (a1 &&& (2147483647 : Int32))))) (((G0 c 0) + 1) &&& (15 : Int32)))) = 0 then (wr (wr (wr G0 c 8 ((((G0 c 8) <<< ((1 : Int32) &&& 31)) ||| (iu a1 31)) &&& (15 : Int32))) c 0 (((G0 c 0) + 1) &&& (15 : Int32))) c 6 ((sp_F_checkOver (wr (wr G0 c 8 ((((G0 c 8) <<< ((1 : Int32) &&& 31)) ||| (iu a1 31)) &&& (15 : Int32))) c 0 (((G0 c 0) + 1) &&& (15 : Int32))) (G0 c 6) (a1 &&& (2147483647 : Int32))))) else (sp_O_endHalf c (wr (wr (wr G0 c 8 ((((G0 c 8) <<< ((1 : Int32) &&& 31)) ||| (iu a1 31)) &&& (15 : Int32))) c 0 (((G0 c 0) + 1) &&& (15 : Int32))) c 6 ((sp_F_checkOver (wr (wr G0 c 8 ((((G0 c 8) <<< ((1 : Int32) &&& 31)) ||| (iu a1 31)) &&& (15 : Int32))) c 0 (((G0 c 0) + 1) &&& (15 : Int32))) (G0 c 6) (a1 &&& (2147483647 : Int32)))))))))) else (if (G0 c 0) = (-1) then (sp_O_findNumber c (wr (wr G0 c 1 ((G0 c 1) + 1)) c 2 ((((G0 c 2) <<< ((1 : Int32) &&& 31)) ||| (iu a1 31)) &&& (63 : Int32))) a2) else (if (((G0 c 0) + 1) &&& (15 : Int32)) = 11 then (if ((sp_F_endsHalf (sp_O_judgeRoundWord c (wr (wr (wr (wr G0 c 1 ((G0 c 1) + 1)) c 2 ((((G0 c 2) <<< ((1 : Int32) &&& 31)) ||| (iu a1 31)) &&& (63 : Int32))) c 0 (((G0 c 0) + 1) &&& (15 : Int32))) c 6 ((sp_F_checkOver (wr (wr (wr G0 c 1 ((G0 c 1) + 1)) c 2 ((((G0 c 2) <<< ((1 : Int32) &&& 31)) ||| (iu a1 31)) &&& (63 : Int32))) c 0 (((G0 c 0) + 1) &&& (15 : Int32))) (G0 c 6) a1)))) ((sp_O_judgeRoundWord c (wr (wr (wr (wr G0 c 1 ((G0 c 1) + 1)) c 2 ((((G0 c 2) <<< ((1 : Int32) &&& 31)) ||| (iu a1 31)) &&& (63 : Int32))) c 0 (((G0 c 0) + 1) &&& (15 : Int32))) c 6 ((sp_F_checkOver (wr (wr (wr G0 c 1 ((G0 c 1) + 1)) c 2 ((((G0 c 2) <<< ((1 : Int32) &&& 31)) ||| (iu a1 31)) &&& (63 : Int32))) c 0 (((G0 c 0) + 1) &&& (15 : Int32))) (G0 c 6) a1)))) c 0))) = 0 then (sp_O_judgeRoundWord c (wr (wr (wr (wr G0 c 1 ((G0 c 1) + 1)) c 2 ((((G0 c 2) <<< ((1 : Int32) &&& 31)) ||| (iu a1 31)) &&& (63 : Int32))) c 0 (((G0 c 0) + 1) &&& (15 : Int32))) c 6 ((sp_F_checkOver (wr (wr (wr G0 c 1 ((G0 c 1) + 1)) c 2 ((((G0 c 2) <<< ((1 : Int32) &&& 31)) ||| (iu a1 31)) &&& (63 : Int32))) c 0 (((G0 c 0) + 1) &&& (15 : Int32))) (G0 c 6) a1)))) else (sp_O_endHalf c (sp_O_judgeRoundWord c (wr (wr (wr (wr G0 c 1 ((G0 c 1) + 1)) c 2 ((((G0 c 2) <<< ((1 : Int32) &&& 31)) ||| (iu a1 31)) &&& (63 : Int32))) c 0 (((G0 c 0) + 1) &&& (15 : Int32))) c 6 ((sp_F_checkOver (wr (wr (wr G0 c 1 ((G0 c 1) + 1)) c 2 ((((G0 c 2) <<< ((1 : Int32) &&& 31)) ||| (iu a1 31)) &&& (63 : Int32))) c 0 (((G0 c 0) + 1) &&& (15 : Int32))) (G0 c 6) a1)))))) else (if (iu a1 31) = 0 then (if (((G0 c 0) + 1) &&& (15 : Int32)) = 13 then (if ((sp_F_endsHalf (wr (wr (wr (wr (wr G0 c 1 ((G0 c 1) + 1)) c 2 ((((G0 c 2) <<< ((1 : Int32) &&& 31)) ||| (iu a1 31)) &&& (63 : Int32))) c 0 (((G0 c 0) + 1) &&& (15 : Int32))) c 6 ((sp_F_checkOver (wr (wr (wr G0 c 1 ((G0 c 1) + 1)) c 2 ((((G0 c 2) <<< ((1 : Int32) &&& 31)) ||| (iu a1 31)) &&& (63 : Int32))) c 0 (((G0 c 0) + 1) &&& (15 : Int32))) (G0 c 6) a1))) c 12 ((G0 c 12) + 1)) (((G0 c 0) + 1) &&& (15 : Int32)))) = 0 then (wr (wr (wr (wr (wr G0 c 1 ((G0 c 1) + 1)) c 2 ((((G0 c 2) <<< ((1 : Int32) &&& 31)) ||| (iu a1 31)) &&& (63 : Int32))) c 0 (((G0 c 0) + 1) &&& (15 : Int32))) c 6 ((sp_F_checkOver (wr (wr (wr G0 c 1 ((G0 c 1) + 1)) c 2 ((((G0 c 2) <<< ((1 : Int32) &&& 31)) ||| (iu a1 31)) &&& (63 : Int32))) c 0 (((G0 c 0) + 1) &&& (15 : Int32))) (G0 c 6) a1))) c 12 ((G0 c 12) + 1)) else (sp_O_endHalf c (wr (wr (wr (wr (wr G0 c 1 ((G0 c 1) + 1)) c 2 ((((G0 c 2) <<< ((1 : Int32) &&& 31)) ||| (iu a1 31)) &&& (63 : Int32))) c 0 (((G0 c 0) + 1) &&& (15 : Int32))) c 6 ((sp_F_checkOver (wr (wr (wr G0 c 1 ((G0 c 1) + 1)) c 2 ((((G0 c 2) <<< ((1 : Int32) &&& 31)) ||| (iu a1 31)) &&& (63 : Int32))) c 0 (((G0 c 0) + 1) &&& (15 : Int32))) (G0 c 6) a1))) c 12 ((G0 c 12) + 1)))) else (if (((G0 c 0) + 1) &&& (15 : Int32)) = 15 then (if ((sp_F_endsHalf (wr (wr (wr (wr (wr G0 c 1 ((G0 c 1) + 1)) c 2 ((((G0 c 2) <<< ((1 : Int32) &&& 31)) ||| (iu a1 31)) &&& (63 : Int32))) c 0 (((G0 c 0) + 1) &&& (15 : Int32))) c 6 ((sp_F_checkOver (wr (wr (wr G0 c 1 ((G0 c 1) + 1)) c 2 ((((G0 c 2) <<< ((1 : Int32) &&& 31)) ||| (iu a1 31)) &&& (63 : Int32))) c 0 (((G0 c 0) + 1) &&& (15 : Int32))) (G0 c 6) a1))) c 12 ((G0 c 12) + 1)) (((G0 c 0) + 1) &&& (15 : Int32)))) = 0 then (wr (wr (wr (wr (wr G0 c 1 ((G0 c 1) + 1)) c 2 ((((G0 c 2) <<< ((1 : Int32) &&& 31)) ||| (iu a1 31)) &&& (63 : Int32))) c 0 (((G0 c 0) + 1) &&& (15 : Int32))) c 6 ((sp_F_checkOver (wr (wr (wr G0 c 1 ((G0 c 1) + 1)) c 2 ((((G0 c 2) <<< ((1 : Int32) &&& 31)) ||| (iu a1 31)) &&& (63 : Int32))) c 0 (((G0 c 0) + 1) &&& (15 : Int32))) (G0 c 6) a1))) c 12 ((G0 c 12) + 1)) else (sp_O_endHalf c (wr (wr (wr (wr (wr G0 c 1 ((G0 c 1) + 1)) c 2 ((((G0 c 2) <<< ((1 : Int32) &&& 31)) ||| (iu a1 31)) &&& (63 : Int32))) c 0 (((G0 c 0) + 1) &&& (15 : Int32))) c 6 ((sp_F_checkOver (wr (wr (wr G0 c 1 ((G0 c 1) + 1)) c 2 ((((G0 c 2) <<< ((1 : Int32) &&& 31)) ||| (iu a1 31)) &&& (63 : Int32))) c 0 (((G0 c 0) + 1) &&& (15 : Int32))) (G0 c 6) a1))) c 12 ((G0 c 12) + 1)))) else (if ((sp_F_endsHalf (wr (wr (wr (wr G0 c 1 ((G0 c 1) + 1)) c 2 ((((G0 c 2) <<< ((1 : Int32) &&& 31)) ||| (iu a1 31)) &&& (63 : Int32))) c 0 (((G0 c 0) + 1) &&& (15 : Int32))) c 6 ((sp_F_checkOver (wr (wr (wr G0 c 1 ((G0 c 1) + 1)) c 2 ((((G0 c 2) <<< ((1 : Int32) &&& 31)) ||| (iu a1 31)) &&& (63 : Int32))) c 0 (((G0 c 0) + 1) &&& (15 : Int32))) (G0 c 6) a1))) (((G0 c 0) + 1) &&& (15 : Int32)))) = 0 then (wr (wr (wr (wr G0 c 1 ((G0 c 1) + 1)) c 2 ((((G0 c 2) <<< ((1 : Int32) &&& 31)) ||| (iu a1 31)) &&& (63 : Int32))) c 0 (((G0 c 0) + 1) &&& (15 : Int32))) c 6 ((sp_F_checkOver (wr (wr (wr G0 c 1 ((G0 c 1) + 1)) c 2 ((((G0 c 2) <<< ((1 : Int32) &&& 31)) ||| (iu a1 31)) &&& (63 : Int32))) c 0 (((G0 c 0) + 1) &&& (15 : Int32))) (G0 c 6) a1))) else (sp_O_endHalf c (wr (wr (wr (wr G0 c 1 ((G0 c 1) + 1)) c 2 ((((G0 c 2) <<< ((1 : Int32) &&& 31)) ||| (iu a1 31)) &&& (63 : Int32))) c 0 (((G0 c 0) + 1) &&& (15 : Int32))) c 6 ((sp_F_checkOver (wr (wr (wr G0 c 1 ((G0 c 1) + 1)) c 2 ((((G0 c 2) <<< ((1 : Int32) &&& 31)) ||| (iu a1 31)) &&& (63 : Int32))) c 0 (((G0 c 0) + 1) &&& (15 : Int32))) (G0 c 6) a1))))))) else (if ((sp_F_endsHalf (wr (wr (wr (wr G0 c 1 ((G0 c 1) + 1)) c 2 ((((G0 c 2) <<< ((1 : Int32) &&& 31)) ||| (iu a1 31)) &&& (63 : Int32))) c 0 (((G0 c 0) + 1) &&& (15 : Int32))) c 6 ((sp_F_checkOver (wr (wr (wr G0 c 1 ((G0 c 1) + 1)) c 2 ((((G0 c 2) <<< ((1 : Int32) &&& 31)) ||| (iu a1 31)) &&& (63 : Int32))) c 0 (((G0 c 0) + 1) &&& (15 : Int32))) (G0 c 6) a1))) (((G0 c 0) + 1) &&& (15 : Int32)))) = 0 then (wr (wr (wr (wr G0 c 1 ((G0 c 1) + 1)) c 2 ((((G0 c 2) <<< ((1 : Int32) &&& 31)) ||| (iu a1 31)) &&& (63 : Int32))) c 0 (((G0 c 0) + 1) &&& (15 : Int32))) c 6 ((sp_F_checkOver (wr (wr (wr G0 c 1 ((G0 c 1) + 1)) c 2 ((((G0 c 2) <<< ((1 : Int32) &&& 31)) ||| (iu a1 31)) &&& (63 : Int32))) c 0 (((G0 c 0) + 1) &&& (15 : Int32))) (G0 c 6) a1))) else (sp_O_endHalf c (wr (wr (wr (wr G0 c 1 ((G0 c 1) + 1)) c 2 ((((G0 c 2) <<< ((1 : Int32) &&& 31)) ||| (iu a1 31)) &&& (63 : Int32))) c 0 (((G0 c 0) + 1) &&& (15 : Int32))) c 6 ((sp_F_checkOver (wr (wr (wr G0 c 1 ((G0 c 1) + 1)) c 2 ((((G0 c 2) <<< ((1 : Int32) &&& 31)) ||| (iu a1 31)) &&& (63 : Int32))) c 0 (((G0 c 0) + 1) &&& (15 : Int32))) (G0 c 6) a1)))))))))
set_option maxHeartbeats 4000000 in
set_option maxRecDepth 100000 in
theorem c_O_takeFrame (l : Launch) (P : gP) (G0 : Mem) (c : Nat) (a1 : Int32) (a2 : Int32) (hc : kO c) : gMv l y_O_takeFrame b_O_takeFrame 4 none ({ frames := 2, cells := 0, slots := 0, locals := 41 }) [.ref (gad P c), .int a1, .int a2] P G0 (sp_O_takeFrame c G0 a1 a2) := by
  refine Met.ofW (cc := b_O_takeFrame) (maxL := 4) (ret := none) (by decide) rfl ?_
  intro p e s m args below meth c0 s₁ B hml hv
  obtain ⟨rfl, hpre⟩ := hv
  obtain ⟨E, hH⟩ := gE_of B hml hpre
  replace E : gE p s m _ meth c0 P "FramedLine$Rounds" b_O_takeFrame 4 none := E
  have hcU := hc
  unfold kO at hcU
  have hx := E.1
  have hb := E.2.1
  have hl := lv_entry ([.ref (gad P c), .int a1, .int a2]) (n := 4) (Nat.le_of_ble_eq_true rfl)
  rw [lg_entry_eq]
  generalize (lg_sl ([.ref (gad P c), .int a1, .int a2]) ++ List.replicate (4 - (lg_sl ([.ref (gad P c), .int a1, .int a2])).length) Slot.unset).toArray = ls at hl ⊢
  replace hl : lv_has ls 4 [(0, .ref (gad P c)), (1, .int a1), (2, .int a2)] := hl
  have hsp : sp_O_takeFrame c G0 a1 a2 = sp_O_takeFrame c G0 a1 a2 := rfl
  refine lv_iload_n hx hb d_O_takeFrame_0 rfl (lv_at hl 1 rfl) ?_
  refine lv_bipush (v := 31) hx hb d_O_takeFrame_1 (by decide) ?_
  refine lv_iushr (v := (iu a1 31)) hx hb d_O_takeFrame_3 rfl ?_
  refine lv_istore_n hx hb d_O_takeFrame_4 rfl hl (by decide) rfl (fun ls hl => ?_)
  refine lv_iload_n hx hb d_O_takeFrame_5 rfl (lv_at hl 3 rfl) ?_
  refine lv_if_eq (tgt := 37) hx hb d_O_takeFrame_6 (by decide) (fun h1 => ?_) (fun h1 => ?_)
  · refine lv_aload_n hx hb d_O_takeFrame_37 rfl (lv_at hl 1 rfl) ?_
    refine lv_aload_n hx hb d_O_takeFrame_38 rfl (lv_at hl 1 rfl) ?_
    refine g_geti (v := (G0 c 8)) E hH (gc_O hc) cl_O 8 (by decide) lf_O_37 (fun _ => rfl) rfl d_O_takeFrame_39 ?_
    refine lv_iconst (v := 1) hx hb d_O_takeFrame_42 (by decide) ?_
    refine lv_ishl hx hb d_O_takeFrame_43 ?_
    refine lv_iload_n hx hb d_O_takeFrame_44 rfl (lv_at hl 0 rfl) ?_
    refine lv_ior hx hb d_O_takeFrame_45 ?_
    refine lv_bipush (v := 15) hx hb d_O_takeFrame_46 (by decide) ?_
    refine lv_iand hx hb d_O_takeFrame_48 ?_
    refine g_puti E hH (gc_O hc) cl_O ct_O 8 (by decide) lf_O_37 rfl (by decide +kernel) (fun _ _ => rfl) (Nat.le_of_ble_eq_true rfl) d_O_takeFrame_49 (fun H locs hH => ?_)
    refine lv_aload_n hx hb d_O_takeFrame_52 rfl (lv_at hl 1 rfl) ?_
    refine g_geti (v := (G0 c 0)) E hH (gc_O hc) cl_O 0 (by decide) lf_O_9 (fun _ => rfl) (wr_k _ _ _ _ (by decide)) d_O_takeFrame_53 ?_
    refine lv_iconst (v := (-1)) hx hb d_O_takeFrame_56 (by decide) ?_
    refine lv_icmp_ne (tgt := 66) hx hb d_O_takeFrame_57 (by decide) (fun h2 => ?_) (fun h2 => ?_)
    · refine lv_aload_n hx hb d_O_takeFrame_66 rfl (lv_at hl 1 rfl) ?_
      refine lv_aload_n hx hb d_O_takeFrame_67 rfl (lv_at hl 1 rfl) ?_
      refine g_geti (v := (G0 c 0)) E hH (gc_O hc) cl_O 0 (by decide) lf_O_9 (fun _ => rfl) (wr_k _ _ _ _ (by decide)) d_O_takeFrame_68 ?_
      refine lv_iconst (v := 1) hx hb d_O_takeFrame_71 (by decide) ?_
      refine lv_iadd hx hb d_O_takeFrame_72 ?_
      refine lv_bipush (v := 15) hx hb d_O_takeFrame_73 (by decide) ?_
      refine lv_iand hx hb d_O_takeFrame_75 ?_
      refine g_puti E hH (gc_O hc) cl_O ct_O 0 (by decide) lf_O_9 rfl (by decide +kernel) (fun _ _ => rfl) (Nat.le_of_ble_eq_true rfl) d_O_takeFrame_76 (fun H locs hH => ?_)
      refine lv_aload_n hx hb d_O_takeFrame_79 rfl (lv_at hl 1 rfl) ?_
      refine lv_aload_n hx hb d_O_takeFrame_80 rfl (lv_at hl 1 rfl) ?_
      refine g_geti (v := (G0 c 6)) E hH (gc_O hc) cl_O 6 (by decide) lf_O_31 (fun _ => rfl) ((wr_k _ _ _ _ (by decide)).trans (wr_k _ _ _ _ (by decide))) d_O_takeFrame_81 ?_
      refine lv_iload_n hx hb d_O_takeFrame_84 rfl (lv_at hl 3 rfl) ?_
      refine lv_if_eq (tgt := 92) hx hb d_O_takeFrame_85 (by decide) (fun _ => ?_) (fun h0 => absurd h1 h0)
      refine lv_iload_n hx hb d_O_takeFrame_92 rfl (lv_at hl 2 rfl) ?_
      refine lv_ldc (v := 2147483647) hx hb E.2.2.2.2.1 (E.2.2.2.2.2.1 _ lc_O_59) d_O_takeFrame_93 ?_
      refine lv_iand hx hb d_O_takeFrame_95 ?_
      refine g_callSNri (As := [.int _, .int _]) E hH hl (c_F_checkOver l P _ _ _) lm_O_60 (Nat.le_of_ble_eq_true rfl) (Nat.le_of_ble_eq_true rfl) (Nat.le_of_ble_eq_true rfl) (Nat.le_of_ble_eq_true rfl) (Nat.le_of_ble_eq_true rfl) rfl rfl rfl rfl d_O_takeFrame_96 (fun H locs hH => ?_)
      refine g_puti E hH (gc_O hc) cl_O ct_O 6 (by decide) lf_O_31 rfl (by decide +kernel) (fun _ _ => rfl) (Nat.le_of_ble_eq_true rfl) d_O_takeFrame_99 (fun H locs hH => ?_)
      refine lv_aload_n hx hb d_O_takeFrame_102 rfl (lv_at hl 1 rfl) ?_
      refine g_geti (v := (((G0 c 0) + 1) &&& (15 : Int32))) E hH (gc_O hc) cl_O 0 (by decide) lf_O_9 (fun _ => rfl) ((wr_k _ _ _ _ (by decide)).trans (wr_same _ _ _ _)) d_O_takeFrame_103 ?_
      refine lv_bipush (v := 11) hx hb d_O_takeFrame_106 (by decide) ?_
      refine lv_icmp_ne (tgt := 118) hx hb d_O_takeFrame_108 (by decide) (fun h3 => ?_) (fun h3 => ?_)
      · refine lv_iload_n hx hb d_O_takeFrame_118 rfl (lv_at hl 0 rfl) ?_
        refine lv_if_ne (tgt := 150) hx hb d_O_takeFrame_119 (by decide) (fun h4 => ?_) (fun h4 => ?_)
        · refine lv_aload_n hx hb d_O_takeFrame_150 rfl (lv_at hl 1 rfl) ?_
          refine g_geti (v := (((G0 c 0) + 1) &&& (15 : Int32))) E hH (gc_O hc) cl_O 0 (by decide) lf_O_9 (fun _ => rfl) ((wr_k _ _ _ _ (by decide)).trans (wr_same _ _ _ _)) d_O_takeFrame_151 ?_
          refine g_callSNrz (As := [.int _]) E hH hl (c_F_endsHalf l P _ _) lm_O_67 (Nat.le_of_ble_eq_true rfl) (Nat.le_of_ble_eq_true rfl) (Nat.le_of_ble_eq_true rfl) (Nat.le_of_ble_eq_true rfl) (Nat.le_of_ble_eq_true rfl) rfl rfl rfl rfl d_O_takeFrame_154 (fun H locs hH hz154 => ?_)
          refine lv_if_eq (tgt := 164) hx hb d_O_takeFrame_157 (by decide) (fun h5 => ?_) (fun h5 => ?_)
          · exact g_vret E hH (hsp.trans (by simp only [sp_O_takeFrame, if_pos h1, if_neg h2, if_neg h3, if_neg h4, if_pos h5])) d_O_takeFrame_164
          · refine lv_aload_n hx hb d_O_takeFrame_160 rfl (lv_at hl 1 rfl) ?_
            refine g_callVv (As := []) E hH hl (c_O_endHalf l P _ c hc) lm_O_71 (gc_O hc) cl_O (Nat.le_of_ble_eq_true rfl) (Nat.le_of_ble_eq_true rfl) (Nat.le_of_ble_eq_true rfl) (Nat.le_of_ble_eq_true rfl) (Nat.le_of_ble_eq_true rfl) rfl rfl rfl rfl d_O_takeFrame_161 (fun H locs hH => ?_)
            exact g_vret E hH (hsp.trans (by simp only [sp_O_takeFrame, if_pos h1, if_neg h2, if_neg h3, if_neg h4, if_neg h5])) d_O_takeFrame_164
        · refine lv_aload_n hx hb d_O_takeFrame_122 rfl (lv_at hl 1 rfl) ?_
          refine g_geti (v := (((G0 c 0) + 1) &&& (15 : Int32))) E hH (gc_O hc) cl_O 0 (by decide) lf_O_9 (fun _ => rfl) ((wr_k _ _ _ _ (by decide)).trans (wr_same _ _ _ _)) d_O_takeFrame_123 ?_
          refine lv_bipush (v := 13) hx hb d_O_takeFrame_126 (by decide) ?_
          refine lv_icmp_eq (tgt := 140) hx hb d_O_takeFrame_128 (by decide) (fun h6 => ?_) (fun h6 => ?_)
          · refine lv_aload_n hx hb d_O_takeFrame_140 rfl (lv_at hl 1 rfl) ?_
            refine lv_dup hx hb d_O_takeFrame_141 rfl ?_
            refine g_geti (v := (G0 c 12)) E hH (gc_O hc) cl_O 12 (by decide) lf_O_49 (fun _ => rfl) ((wr_k _ _ _ _ (by decide)).trans ((wr_k _ _ _ _ (by decide)).trans (wr_k _ _ _ _ (by decide)))) d_O_takeFrame_142 ?_
            refine lv_iconst (v := 1) hx hb d_O_takeFrame_145 (by decide) ?_
            refine lv_iadd hx hb d_O_takeFrame_146 ?_
            refine g_puti E hH (gc_O hc) cl_O ct_O 12 (by decide) lf_O_49 rfl (by decide +kernel) (fun _ _ => rfl) (Nat.le_of_ble_eq_true rfl) d_O_takeFrame_147 (fun H locs hH => ?_)
            refine lv_aload_n hx hb d_O_takeFrame_150 rfl (lv_at hl 1 rfl) ?_
            refine g_geti (v := (((G0 c 0) + 1) &&& (15 : Int32))) E hH (gc_O hc) cl_O 0 (by decide) lf_O_9 (fun _ => rfl) ((wr_k _ _ _ _ (by decide)).trans ((wr_k _ _ _ _ (by decide)).trans (wr_same _ _ _ _))) d_O_takeFrame_151 ?_
            refine g_callSNrz (As := [.int _]) E hH hl (c_F_endsHalf l P _ _) lm_O_67 (Nat.le_of_ble_eq_true rfl) (Nat.le_of_ble_eq_true rfl) (Nat.le_of_ble_eq_true rfl) (Nat.le_of_ble_eq_true rfl) (Nat.le_of_ble_eq_true rfl) rfl rfl rfl rfl d_O_takeFrame_154 (fun H locs hH hz154 => ?_)
            refine lv_if_eq (tgt := 164) hx hb d_O_takeFrame_157 (by decide) (fun h7 => ?_) (fun h7 => ?_)
            · exact g_vret E hH (hsp.trans (by simp only [sp_O_takeFrame, if_pos h1, if_neg h2, if_neg h3, if_pos h4, if_pos h6, if_pos h7])) d_O_takeFrame_164
            · refine lv_aload_n hx hb d_O_takeFrame_160 rfl (lv_at hl 1 rfl) ?_
              refine g_callVv (As := []) E hH hl (c_O_endHalf l P _ c hc) lm_O_71 (gc_O hc) cl_O (Nat.le_of_ble_eq_true rfl) (Nat.le_of_ble_eq_true rfl) (Nat.le_of_ble_eq_true rfl) (Nat.le_of_ble_eq_true rfl) (Nat.le_of_ble_eq_true rfl) rfl rfl rfl rfl d_O_takeFrame_161 (fun H locs hH => ?_)
              exact g_vret E hH (hsp.trans (by simp only [sp_O_takeFrame, if_pos h1, if_neg h2, if_neg h3, if_pos h4, if_pos h6, if_neg h7])) d_O_takeFrame_164
          · refine lv_aload_n hx hb d_O_takeFrame_131 rfl (lv_at hl 1 rfl) ?_
            refine g_geti (v := (((G0 c 0) + 1) &&& (15 : Int32))) E hH (gc_O hc) cl_O 0 (by decide) lf_O_9 (fun _ => rfl) ((wr_k _ _ _ _ (by decide)).trans (wr_same _ _ _ _)) d_O_takeFrame_132 ?_
            refine lv_bipush (v := 15) hx hb d_O_takeFrame_135 (by decide) ?_
            refine lv_icmp_ne (tgt := 150) hx hb d_O_takeFrame_137 (by decide) (fun h8 => ?_) (fun h8 => ?_)
            · refine lv_aload_n hx hb d_O_takeFrame_150 rfl (lv_at hl 1 rfl) ?_
              refine g_geti (v := (((G0 c 0) + 1) &&& (15 : Int32))) E hH (gc_O hc) cl_O 0 (by decide) lf_O_9 (fun _ => rfl) ((wr_k _ _ _ _ (by decide)).trans (wr_same _ _ _ _)) d_O_takeFrame_151 ?_
              refine g_callSNrz (As := [.int _]) E hH hl (c_F_endsHalf l P _ _) lm_O_67 (Nat.le_of_ble_eq_true rfl) (Nat.le_of_ble_eq_true rfl) (Nat.le_of_ble_eq_true rfl) (Nat.le_of_ble_eq_true rfl) (Nat.le_of_ble_eq_true rfl) rfl rfl rfl rfl d_O_takeFrame_154 (fun H locs hH hz154 => ?_)
              refine lv_if_eq (tgt := 164) hx hb d_O_takeFrame_157 (by decide) (fun h9 => ?_) (fun h9 => ?_)
              · exact g_vret E hH (hsp.trans (by simp only [sp_O_takeFrame, if_pos h1, if_neg h2, if_neg h3, if_pos h4, if_neg h6, if_neg h8, if_pos h9])) d_O_takeFrame_164
              · refine lv_aload_n hx hb d_O_takeFrame_160 rfl (lv_at hl 1 rfl) ?_
                refine g_callVv (As := []) E hH hl (c_O_endHalf l P _ c hc) lm_O_71 (gc_O hc) cl_O (Nat.le_of_ble_eq_true rfl) (Nat.le_of_ble_eq_true rfl) (Nat.le_of_ble_eq_true rfl) (Nat.le_of_ble_eq_true rfl) (Nat.le_of_ble_eq_true rfl) rfl rfl rfl rfl d_O_takeFrame_161 (fun H locs hH => ?_)
                exact g_vret E hH (hsp.trans (by simp only [sp_O_takeFrame, if_pos h1, if_neg h2, if_neg h3, if_pos h4, if_neg h6, if_neg h8, if_neg h9])) d_O_takeFrame_164
            · refine lv_aload_n hx hb d_O_takeFrame_140 rfl (lv_at hl 1 rfl) ?_
              refine lv_dup hx hb d_O_takeFrame_141 rfl ?_
              refine g_geti (v := (G0 c 12)) E hH (gc_O hc) cl_O 12 (by decide) lf_O_49 (fun _ => rfl) ((wr_k _ _ _ _ (by decide)).trans ((wr_k _ _ _ _ (by decide)).trans (wr_k _ _ _ _ (by decide)))) d_O_takeFrame_142 ?_
              refine lv_iconst (v := 1) hx hb d_O_takeFrame_145 (by decide) ?_
              refine lv_iadd hx hb d_O_takeFrame_146 ?_
              refine g_puti E hH (gc_O hc) cl_O ct_O 12 (by decide) lf_O_49 rfl (by decide +kernel) (fun _ _ => rfl) (Nat.le_of_ble_eq_true rfl) d_O_takeFrame_147 (fun H locs hH => ?_)
              refine lv_aload_n hx hb d_O_takeFrame_150 rfl (lv_at hl 1 rfl) ?_
              refine g_geti (v := (((G0 c 0) + 1) &&& (15 : Int32))) E hH (gc_O hc) cl_O 0 (by decide) lf_O_9 (fun _ => rfl) ((wr_k _ _ _ _ (by decide)).trans ((wr_k _ _ _ _ (by decide)).trans (wr_same _ _ _ _))) d_O_takeFrame_151 ?_
              refine g_callSNrz (As := [.int _]) E hH hl (c_F_endsHalf l P _ _) lm_O_67 (Nat.le_of_ble_eq_true rfl) (Nat.le_of_ble_eq_true rfl) (Nat.le_of_ble_eq_true rfl) (Nat.le_of_ble_eq_true rfl) (Nat.le_of_ble_eq_true rfl) rfl rfl rfl rfl d_O_takeFrame_154 (fun H locs hH hz154 => ?_)
              refine lv_if_eq (tgt := 164) hx hb d_O_takeFrame_157 (by decide) (fun h10 => ?_) (fun h10 => ?_)
              · exact g_vret E hH (hsp.trans (by simp only [sp_O_takeFrame, if_pos h1, if_neg h2, if_neg h3, if_pos h4, if_neg h6, if_pos h8, if_pos h10])) d_O_takeFrame_164
              · refine lv_aload_n hx hb d_O_takeFrame_160 rfl (lv_at hl 1 rfl) ?_
                refine g_callVv (As := []) E hH hl (c_O_endHalf l P _ c hc) lm_O_71 (gc_O hc) cl_O (Nat.le_of_ble_eq_true rfl) (Nat.le_of_ble_eq_true rfl) (Nat.le_of_ble_eq_true rfl) (Nat.le_of_ble_eq_true rfl) (Nat.le_of_ble_eq_true rfl) rfl rfl rfl rfl d_O_takeFrame_161 (fun H locs hH => ?_)
                exact g_vret E hH (hsp.trans (by simp only [sp_O_takeFrame, if_pos h1, if_neg h2, if_neg h3, if_pos h4, if_neg h6, if_pos h8, if_neg h10])) d_O_takeFrame_164
      · refine lv_aload_n hx hb d_O_takeFrame_111 rfl (lv_at hl 1 rfl) ?_
        refine g_callVv (As := []) E hH hl (c_O_judgeRoundWord l P _ c hc) lm_O_64 (gc_O hc) cl_O (Nat.le_of_ble_eq_true rfl) (Nat.le_of_ble_eq_true rfl) (Nat.le_of_ble_eq_true rfl) (Nat.le_of_ble_eq_true rfl) (Nat.le_of_ble_eq_true rfl) rfl rfl rfl rfl d_O_takeFrame_112 (fun H locs hH => ?_)
        refine lv_goto (tgt := 150) hx hb d_O_takeFrame_115 (by decide) ?_
        refine lv_aload_n hx hb d_O_takeFrame_150 rfl (lv_at hl 1 rfl) ?_
        refine g_geti (v := ((sp_O_judgeRoundWord c (wr (wr (wr G0 c 8 ((((G0 c 8) <<< ((1 : Int32) &&& 31)) ||| (iu a1 31)) &&& (15 : Int32))) c 0 (((G0 c 0) + 1) &&& (15 : Int32))) c 6 ((sp_F_checkOver (wr (wr G0 c 8 ((((G0 c 8) <<< ((1 : Int32) &&& 31)) ||| (iu a1 31)) &&& (15 : Int32))) c 0 (((G0 c 0) + 1) &&& (15 : Int32))) (G0 c 6) (a1 &&& (2147483647 : Int32)))))) c 0)) E hH (gc_O hc) cl_O 0 (by decide) lf_O_9 (fun _ => rfl) rfl d_O_takeFrame_151 ?_
        refine g_callSNrz (As := [.int _]) E hH hl (c_F_endsHalf l P _ _) lm_O_67 (Nat.le_of_ble_eq_true rfl) (Nat.le_of_ble_eq_true rfl) (Nat.le_of_ble_eq_true rfl) (Nat.le_of_ble_eq_true rfl) (Nat.le_of_ble_eq_true rfl) rfl rfl rfl rfl d_O_takeFrame_154 (fun H locs hH hz154 => ?_)
        refine lv_if_eq (tgt := 164) hx hb d_O_takeFrame_157 (by decide) (fun h11 => ?_) (fun h11 => ?_)
        · exact g_vret E hH (hsp.trans (by simp only [sp_O_takeFrame, if_pos h1, if_neg h2, if_pos h3, if_pos h11])) d_O_takeFrame_164
        · refine lv_aload_n hx hb d_O_takeFrame_160 rfl (lv_at hl 1 rfl) ?_
          refine g_callVv (As := []) E hH hl (c_O_endHalf l P _ c hc) lm_O_71 (gc_O hc) cl_O (Nat.le_of_ble_eq_true rfl) (Nat.le_of_ble_eq_true rfl) (Nat.le_of_ble_eq_true rfl) (Nat.le_of_ble_eq_true rfl) (Nat.le_of_ble_eq_true rfl) rfl rfl rfl rfl d_O_takeFrame_161 (fun H locs hH => ?_)
          exact g_vret E hH (hsp.trans (by simp only [sp_O_takeFrame, if_pos h1, if_neg h2, if_pos h3, if_neg h11])) d_O_takeFrame_164
    · refine lv_aload_n hx hb d_O_takeFrame_60 rfl (lv_at hl 1 rfl) ?_
      refine lv_iload_n hx hb d_O_takeFrame_61 rfl (lv_at hl 3 rfl) ?_
      refine g_callVv (As := [.int _]) E hH hl (c_O_findNumber l P _ c _ hc) lm_O_55 (gc_O hc) cl_O (Nat.le_of_ble_eq_true rfl) (Nat.le_of_ble_eq_true rfl) (Nat.le_of_ble_eq_true rfl) (Nat.le_of_ble_eq_true rfl) (Nat.le_of_ble_eq_true rfl) rfl rfl rfl rfl d_O_takeFrame_62 (fun H locs hH => ?_)
      exact g_vret E hH (hsp.trans (by simp only [sp_O_takeFrame, if_pos h1, if_pos h2])) d_O_takeFrame_65
  · refine lv_aload_n hx hb d_O_takeFrame_9 rfl (lv_at hl 1 rfl) ?_
    refine lv_dup hx hb d_O_takeFrame_10 rfl ?_
    refine g_geti (v := (G0 c 1)) E hH (gc_O hc) cl_O 1 (by decide) lf_O_15 (fun _ => rfl) rfl d_O_takeFrame_11 ?_
    refine lv_iconst (v := 1) hx hb d_O_takeFrame_14 (by decide) ?_
    refine lv_iadd hx hb d_O_takeFrame_15 ?_
    refine g_puti E hH (gc_O hc) cl_O ct_O 1 (by decide) lf_O_15 rfl (by decide +kernel) (fun _ _ => rfl) (Nat.le_of_ble_eq_true rfl) d_O_takeFrame_16 (fun H locs hH => ?_)
    refine lv_aload_n hx hb d_O_takeFrame_19 rfl (lv_at hl 1 rfl) ?_
    refine lv_aload_n hx hb d_O_takeFrame_20 rfl (lv_at hl 1 rfl) ?_
    refine g_geti (v := (G0 c 2)) E hH (gc_O hc) cl_O 2 (by decide) lf_O_18 (fun _ => rfl) (wr_k _ _ _ _ (by decide)) d_O_takeFrame_21 ?_
    refine lv_iconst (v := 1) hx hb d_O_takeFrame_24 (by decide) ?_
    refine lv_ishl hx hb d_O_takeFrame_25 ?_
    refine lv_iload_n hx hb d_O_takeFrame_26 rfl (lv_at hl 0 rfl) ?_
    refine lv_ior hx hb d_O_takeFrame_27 ?_
    refine lv_bipush (v := 63) hx hb d_O_takeFrame_28 (by decide) ?_
    refine lv_iand hx hb d_O_takeFrame_30 ?_
    refine g_puti E hH (gc_O hc) cl_O ct_O 2 (by decide) lf_O_18 rfl (by decide +kernel) (fun _ _ => rfl) (Nat.le_of_ble_eq_true rfl) d_O_takeFrame_31 (fun H locs hH => ?_)
    refine lv_goto (tgt := 52) hx hb d_O_takeFrame_34 (by decide) ?_
    refine lv_aload_n hx hb d_O_takeFrame_52 rfl (lv_at hl 1 rfl) ?_
    refine g_geti (v := (G0 c 0)) E hH (gc_O hc) cl_O 0 (by decide) lf_O_9 (fun _ => rfl) ((wr_k _ _ _ _ (by decide)).trans (wr_k _ _ _ _ (by decide))) d_O_takeFrame_53 ?_
    refine lv_iconst (v := (-1)) hx hb d_O_takeFrame_56 (by decide) ?_
    refine lv_icmp_ne (tgt := 66) hx hb d_O_takeFrame_57 (by decide) (fun h12 => ?_) (fun h12 => ?_)
    · refine lv_aload_n hx hb d_O_takeFrame_66 rfl (lv_at hl 1 rfl) ?_
      refine lv_aload_n hx hb d_O_takeFrame_67 rfl (lv_at hl 1 rfl) ?_
      refine g_geti (v := (G0 c 0)) E hH (gc_O hc) cl_O 0 (by decide) lf_O_9 (fun _ => rfl) ((wr_k _ _ _ _ (by decide)).trans (wr_k _ _ _ _ (by decide))) d_O_takeFrame_68 ?_
      refine lv_iconst (v := 1) hx hb d_O_takeFrame_71 (by decide) ?_
      refine lv_iadd hx hb d_O_takeFrame_72 ?_
      refine lv_bipush (v := 15) hx hb d_O_takeFrame_73 (by decide) ?_
      refine lv_iand hx hb d_O_takeFrame_75 ?_
      refine g_puti E hH (gc_O hc) cl_O ct_O 0 (by decide) lf_O_9 rfl (by decide +kernel) (fun _ _ => rfl) (Nat.le_of_ble_eq_true rfl) d_O_takeFrame_76 (fun H locs hH => ?_)
      refine lv_aload_n hx hb d_O_takeFrame_79 rfl (lv_at hl 1 rfl) ?_
      refine lv_aload_n hx hb d_O_takeFrame_80 rfl (lv_at hl 1 rfl) ?_
      refine g_geti (v := (G0 c 6)) E hH (gc_O hc) cl_O 6 (by decide) lf_O_31 (fun _ => rfl) ((wr_k _ _ _ _ (by decide)).trans ((wr_k _ _ _ _ (by decide)).trans (wr_k _ _ _ _ (by decide)))) d_O_takeFrame_81 ?_
      refine lv_iload_n hx hb d_O_takeFrame_84 rfl (lv_at hl 3 rfl) ?_
      refine lv_if_eq (tgt := 92) hx hb d_O_takeFrame_85 (by decide) (fun h0 => absurd h0 h1) (fun _ => ?_)
      refine lv_iload_n hx hb d_O_takeFrame_88 rfl (lv_at hl 2 rfl) ?_
      refine lv_goto (tgt := 96) hx hb d_O_takeFrame_89 (by decide) ?_
      refine g_callSNri (As := [.int _, .int _]) E hH hl (c_F_checkOver l P _ _ _) lm_O_60 (Nat.le_of_ble_eq_true rfl) (Nat.le_of_ble_eq_true rfl) (Nat.le_of_ble_eq_true rfl) (Nat.le_of_ble_eq_true rfl) (Nat.le_of_ble_eq_true rfl) rfl rfl rfl rfl d_O_takeFrame_96 (fun H locs hH => ?_)
      refine g_puti E hH (gc_O hc) cl_O ct_O 6 (by decide) lf_O_31 rfl (by decide +kernel) (fun _ _ => rfl) (Nat.le_of_ble_eq_true rfl) d_O_takeFrame_99 (fun H locs hH => ?_)
      refine lv_aload_n hx hb d_O_takeFrame_102 rfl (lv_at hl 1 rfl) ?_
      refine g_geti (v := (((G0 c 0) + 1) &&& (15 : Int32))) E hH (gc_O hc) cl_O 0 (by decide) lf_O_9 (fun _ => rfl) ((wr_k _ _ _ _ (by decide)).trans (wr_same _ _ _ _)) d_O_takeFrame_103 ?_
      refine lv_bipush (v := 11) hx hb d_O_takeFrame_106 (by decide) ?_
      refine lv_icmp_ne (tgt := 118) hx hb d_O_takeFrame_108 (by decide) (fun h13 => ?_) (fun h13 => ?_)
      · refine lv_iload_n hx hb d_O_takeFrame_118 rfl (lv_at hl 0 rfl) ?_
        refine lv_if_ne (tgt := 150) hx hb d_O_takeFrame_119 (by decide) (fun h14 => ?_) (fun h14 => ?_)
        · refine lv_aload_n hx hb d_O_takeFrame_150 rfl (lv_at hl 1 rfl) ?_
          refine g_geti (v := (((G0 c 0) + 1) &&& (15 : Int32))) E hH (gc_O hc) cl_O 0 (by decide) lf_O_9 (fun _ => rfl) ((wr_k _ _ _ _ (by decide)).trans (wr_same _ _ _ _)) d_O_takeFrame_151 ?_
          refine g_callSNrz (As := [.int _]) E hH hl (c_F_endsHalf l P _ _) lm_O_67 (Nat.le_of_ble_eq_true rfl) (Nat.le_of_ble_eq_true rfl) (Nat.le_of_ble_eq_true rfl) (Nat.le_of_ble_eq_true rfl) (Nat.le_of_ble_eq_true rfl) rfl rfl rfl rfl d_O_takeFrame_154 (fun H locs hH hz154 => ?_)
          refine lv_if_eq (tgt := 164) hx hb d_O_takeFrame_157 (by decide) (fun h15 => ?_) (fun h15 => ?_)
          · exact g_vret E hH (hsp.trans (by simp only [sp_O_takeFrame, if_neg h1, if_neg h12, if_neg h13, if_neg h14, if_pos h15])) d_O_takeFrame_164
          · refine lv_aload_n hx hb d_O_takeFrame_160 rfl (lv_at hl 1 rfl) ?_
            refine g_callVv (As := []) E hH hl (c_O_endHalf l P _ c hc) lm_O_71 (gc_O hc) cl_O (Nat.le_of_ble_eq_true rfl) (Nat.le_of_ble_eq_true rfl) (Nat.le_of_ble_eq_true rfl) (Nat.le_of_ble_eq_true rfl) (Nat.le_of_ble_eq_true rfl) rfl rfl rfl rfl d_O_takeFrame_161 (fun H locs hH => ?_)
            exact g_vret E hH (hsp.trans (by simp only [sp_O_takeFrame, if_neg h1, if_neg h12, if_neg h13, if_neg h14, if_neg h15])) d_O_takeFrame_164
        · refine lv_aload_n hx hb d_O_takeFrame_122 rfl (lv_at hl 1 rfl) ?_
          refine g_geti (v := (((G0 c 0) + 1) &&& (15 : Int32))) E hH (gc_O hc) cl_O 0 (by decide) lf_O_9 (fun _ => rfl) ((wr_k _ _ _ _ (by decide)).trans (wr_same _ _ _ _)) d_O_takeFrame_123 ?_
          refine lv_bipush (v := 13) hx hb d_O_takeFrame_126 (by decide) ?_
          refine lv_icmp_eq (tgt := 140) hx hb d_O_takeFrame_128 (by decide) (fun h16 => ?_) (fun h16 => ?_)
          · refine lv_aload_n hx hb d_O_takeFrame_140 rfl (lv_at hl 1 rfl) ?_
            refine lv_dup hx hb d_O_takeFrame_141 rfl ?_
            refine g_geti (v := (G0 c 12)) E hH (gc_O hc) cl_O 12 (by decide) lf_O_49 (fun _ => rfl) ((wr_k _ _ _ _ (by decide)).trans ((wr_k _ _ _ _ (by decide)).trans ((wr_k _ _ _ _ (by decide)).trans (wr_k _ _ _ _ (by decide))))) d_O_takeFrame_142 ?_
            refine lv_iconst (v := 1) hx hb d_O_takeFrame_145 (by decide) ?_
            refine lv_iadd hx hb d_O_takeFrame_146 ?_
            refine g_puti E hH (gc_O hc) cl_O ct_O 12 (by decide) lf_O_49 rfl (by decide +kernel) (fun _ _ => rfl) (Nat.le_of_ble_eq_true rfl) d_O_takeFrame_147 (fun H locs hH => ?_)
            refine lv_aload_n hx hb d_O_takeFrame_150 rfl (lv_at hl 1 rfl) ?_
            refine g_geti (v := (((G0 c 0) + 1) &&& (15 : Int32))) E hH (gc_O hc) cl_O 0 (by decide) lf_O_9 (fun _ => rfl) ((wr_k _ _ _ _ (by decide)).trans ((wr_k _ _ _ _ (by decide)).trans (wr_same _ _ _ _))) d_O_takeFrame_151 ?_
            refine g_callSNrz (As := [.int _]) E hH hl (c_F_endsHalf l P _ _) lm_O_67 (Nat.le_of_ble_eq_true rfl) (Nat.le_of_ble_eq_true rfl) (Nat.le_of_ble_eq_true rfl) (Nat.le_of_ble_eq_true rfl) (Nat.le_of_ble_eq_true rfl) rfl rfl rfl rfl d_O_takeFrame_154 (fun H locs hH hz154 => ?_)
            refine lv_if_eq (tgt := 164) hx hb d_O_takeFrame_157 (by decide) (fun h17 => ?_) (fun h17 => ?_)
            · exact g_vret E hH (hsp.trans (by simp only [sp_O_takeFrame, if_neg h1, if_neg h12, if_neg h13, if_pos h14, if_pos h16, if_pos h17])) d_O_takeFrame_164
            · refine lv_aload_n hx hb d_O_takeFrame_160 rfl (lv_at hl 1 rfl) ?_
              refine g_callVv (As := []) E hH hl (c_O_endHalf l P _ c hc) lm_O_71 (gc_O hc) cl_O (Nat.le_of_ble_eq_true rfl) (Nat.le_of_ble_eq_true rfl) (Nat.le_of_ble_eq_true rfl) (Nat.le_of_ble_eq_true rfl) (Nat.le_of_ble_eq_true rfl) rfl rfl rfl rfl d_O_takeFrame_161 (fun H locs hH => ?_)
              exact g_vret E hH (hsp.trans (by simp only [sp_O_takeFrame, if_neg h1, if_neg h12, if_neg h13, if_pos h14, if_pos h16, if_neg h17])) d_O_takeFrame_164
          · refine lv_aload_n hx hb d_O_takeFrame_131 rfl (lv_at hl 1 rfl) ?_
            refine g_geti (v := (((G0 c 0) + 1) &&& (15 : Int32))) E hH (gc_O hc) cl_O 0 (by decide) lf_O_9 (fun _ => rfl) ((wr_k _ _ _ _ (by decide)).trans (wr_same _ _ _ _)) d_O_takeFrame_132 ?_
            refine lv_bipush (v := 15) hx hb d_O_takeFrame_135 (by decide) ?_
            refine lv_icmp_ne (tgt := 150) hx hb d_O_takeFrame_137 (by decide) (fun h18 => ?_) (fun h18 => ?_)
            · refine lv_aload_n hx hb d_O_takeFrame_150 rfl (lv_at hl 1 rfl) ?_
              refine g_geti (v := (((G0 c 0) + 1) &&& (15 : Int32))) E hH (gc_O hc) cl_O 0 (by decide) lf_O_9 (fun _ => rfl) ((wr_k _ _ _ _ (by decide)).trans (wr_same _ _ _ _)) d_O_takeFrame_151 ?_
              refine g_callSNrz (As := [.int _]) E hH hl (c_F_endsHalf l P _ _) lm_O_67 (Nat.le_of_ble_eq_true rfl) (Nat.le_of_ble_eq_true rfl) (Nat.le_of_ble_eq_true rfl) (Nat.le_of_ble_eq_true rfl) (Nat.le_of_ble_eq_true rfl) rfl rfl rfl rfl d_O_takeFrame_154 (fun H locs hH hz154 => ?_)
              refine lv_if_eq (tgt := 164) hx hb d_O_takeFrame_157 (by decide) (fun h19 => ?_) (fun h19 => ?_)
              · exact g_vret E hH (hsp.trans (by simp only [sp_O_takeFrame, if_neg h1, if_neg h12, if_neg h13, if_pos h14, if_neg h16, if_neg h18, if_pos h19])) d_O_takeFrame_164
              · refine lv_aload_n hx hb d_O_takeFrame_160 rfl (lv_at hl 1 rfl) ?_
                refine g_callVv (As := []) E hH hl (c_O_endHalf l P _ c hc) lm_O_71 (gc_O hc) cl_O (Nat.le_of_ble_eq_true rfl) (Nat.le_of_ble_eq_true rfl) (Nat.le_of_ble_eq_true rfl) (Nat.le_of_ble_eq_true rfl) (Nat.le_of_ble_eq_true rfl) rfl rfl rfl rfl d_O_takeFrame_161 (fun H locs hH => ?_)
                exact g_vret E hH (hsp.trans (by simp only [sp_O_takeFrame, if_neg h1, if_neg h12, if_neg h13, if_pos h14, if_neg h16, if_neg h18, if_neg h19])) d_O_takeFrame_164
            · refine lv_aload_n hx hb d_O_takeFrame_140 rfl (lv_at hl 1 rfl) ?_
              refine lv_dup hx hb d_O_takeFrame_141 rfl ?_
              refine g_geti (v := (G0 c 12)) E hH (gc_O hc) cl_O 12 (by decide) lf_O_49 (fun _ => rfl) ((wr_k _ _ _ _ (by decide)).trans ((wr_k _ _ _ _ (by decide)).trans ((wr_k _ _ _ _ (by decide)).trans (wr_k _ _ _ _ (by decide))))) d_O_takeFrame_142 ?_
              refine lv_iconst (v := 1) hx hb d_O_takeFrame_145 (by decide) ?_
              refine lv_iadd hx hb d_O_takeFrame_146 ?_
              refine g_puti E hH (gc_O hc) cl_O ct_O 12 (by decide) lf_O_49 rfl (by decide +kernel) (fun _ _ => rfl) (Nat.le_of_ble_eq_true rfl) d_O_takeFrame_147 (fun H locs hH => ?_)
              refine lv_aload_n hx hb d_O_takeFrame_150 rfl (lv_at hl 1 rfl) ?_
              refine g_geti (v := (((G0 c 0) + 1) &&& (15 : Int32))) E hH (gc_O hc) cl_O 0 (by decide) lf_O_9 (fun _ => rfl) ((wr_k _ _ _ _ (by decide)).trans ((wr_k _ _ _ _ (by decide)).trans (wr_same _ _ _ _))) d_O_takeFrame_151 ?_
              refine g_callSNrz (As := [.int _]) E hH hl (c_F_endsHalf l P _ _) lm_O_67 (Nat.le_of_ble_eq_true rfl) (Nat.le_of_ble_eq_true rfl) (Nat.le_of_ble_eq_true rfl) (Nat.le_of_ble_eq_true rfl) (Nat.le_of_ble_eq_true rfl) rfl rfl rfl rfl d_O_takeFrame_154 (fun H locs hH hz154 => ?_)
              refine lv_if_eq (tgt := 164) hx hb d_O_takeFrame_157 (by decide) (fun h20 => ?_) (fun h20 => ?_)
              · exact g_vret E hH (hsp.trans (by simp only [sp_O_takeFrame, if_neg h1, if_neg h12, if_neg h13, if_pos h14, if_neg h16, if_pos h18, if_pos h20])) d_O_takeFrame_164
              · refine lv_aload_n hx hb d_O_takeFrame_160 rfl (lv_at hl 1 rfl) ?_
                refine g_callVv (As := []) E hH hl (c_O_endHalf l P _ c hc) lm_O_71 (gc_O hc) cl_O (Nat.le_of_ble_eq_true rfl) (Nat.le_of_ble_eq_true rfl) (Nat.le_of_ble_eq_true rfl) (Nat.le_of_ble_eq_true rfl) (Nat.le_of_ble_eq_true rfl) rfl rfl rfl rfl d_O_takeFrame_161 (fun H locs hH => ?_)
                exact g_vret E hH (hsp.trans (by simp only [sp_O_takeFrame, if_neg h1, if_neg h12, if_neg h13, if_pos h14, if_neg h16, if_pos h18, if_neg h20])) d_O_takeFrame_164
      · refine lv_aload_n hx hb d_O_takeFrame_111 rfl (lv_at hl 1 rfl) ?_
        refine g_callVv (As := []) E hH hl (c_O_judgeRoundWord l P _ c hc) lm_O_64 (gc_O hc) cl_O (Nat.le_of_ble_eq_true rfl) (Nat.le_of_ble_eq_true rfl) (Nat.le_of_ble_eq_true rfl) (Nat.le_of_ble_eq_true rfl) (Nat.le_of_ble_eq_true rfl) rfl rfl rfl rfl d_O_takeFrame_112 (fun H locs hH => ?_)
        refine lv_goto (tgt := 150) hx hb d_O_takeFrame_115 (by decide) ?_
        refine lv_aload_n hx hb d_O_takeFrame_150 rfl (lv_at hl 1 rfl) ?_
        refine g_geti (v := ((sp_O_judgeRoundWord c (wr (wr (wr (wr G0 c 1 ((G0 c 1) + 1)) c 2 ((((G0 c 2) <<< ((1 : Int32) &&& 31)) ||| (iu a1 31)) &&& (63 : Int32))) c 0 (((G0 c 0) + 1) &&& (15 : Int32))) c 6 ((sp_F_checkOver (wr (wr (wr G0 c 1 ((G0 c 1) + 1)) c 2 ((((G0 c 2) <<< ((1 : Int32) &&& 31)) ||| (iu a1 31)) &&& (63 : Int32))) c 0 (((G0 c 0) + 1) &&& (15 : Int32))) (G0 c 6) a1)))) c 0)) E hH (gc_O hc) cl_O 0 (by decide) lf_O_9 (fun _ => rfl) rfl d_O_takeFrame_151 ?_
        refine g_callSNrz (As := [.int _]) E hH hl (c_F_endsHalf l P _ _) lm_O_67 (Nat.le_of_ble_eq_true rfl) (Nat.le_of_ble_eq_true rfl) (Nat.le_of_ble_eq_true rfl) (Nat.le_of_ble_eq_true rfl) (Nat.le_of_ble_eq_true rfl) rfl rfl rfl rfl d_O_takeFrame_154 (fun H locs hH hz154 => ?_)
        refine lv_if_eq (tgt := 164) hx hb d_O_takeFrame_157 (by decide) (fun h21 => ?_) (fun h21 => ?_)
        · exact g_vret E hH (hsp.trans (by simp only [sp_O_takeFrame, if_neg h1, if_neg h12, if_pos h13, if_pos h21])) d_O_takeFrame_164
        · refine lv_aload_n hx hb d_O_takeFrame_160 rfl (lv_at hl 1 rfl) ?_
          refine g_callVv (As := []) E hH hl (c_O_endHalf l P _ c hc) lm_O_71 (gc_O hc) cl_O (Nat.le_of_ble_eq_true rfl) (Nat.le_of_ble_eq_true rfl) (Nat.le_of_ble_eq_true rfl) (Nat.le_of_ble_eq_true rfl) (Nat.le_of_ble_eq_true rfl) rfl rfl rfl rfl d_O_takeFrame_161 (fun H locs hH => ?_)
          exact g_vret E hH (hsp.trans (by simp only [sp_O_takeFrame, if_neg h1, if_neg h12, if_pos h13, if_neg h21])) d_O_takeFrame_164
    · refine lv_aload_n hx hb d_O_takeFrame_60 rfl (lv_at hl 1 rfl) ?_
      refine lv_iload_n hx hb d_O_takeFrame_61 rfl (lv_at hl 3 rfl) ?_
      refine g_callVv (As := [.int _]) E hH hl (c_O_findNumber l P _ c _ hc) lm_O_55 (gc_O hc) cl_O (Nat.le_of_ble_eq_true rfl) (Nat.le_of_ble_eq_true rfl) (Nat.le_of_ble_eq_true rfl) (Nat.le_of_ble_eq_true rfl) (Nat.le_of_ble_eq_true rfl) rfl rfl rfl rfl d_O_takeFrame_62 (fun H locs hH => ?_)
      exact g_vret E hH (hsp.trans (by simp only [sp_O_takeFrame, if_neg h1, if_pos h12])) d_O_takeFrame_65
end
section
def sp_R_isAligned (c : Nat) (G0 : Mem)  : Int32 :=
  ((if n3 (G0 c 1) = n3 2 then 1 else 0) : Int32)
set_option maxHeartbeats 4000000 in
set_option maxRecDepth 100000 in
theorem c_R_isAligned (l : Launch) (P : gP) (G0 : Mem) (c : Nat)  (hc : kR c) : gMrz l y_R_isAligned b_R_isAligned 1 (some .boolean) ({ frames := 0, cells := 0, slots := 0, locals := 0 }) [.ref (gad P c)] P G0 (sp_R_isAligned c G0) := by
  refine Met.ofW (cc := b_R_isAligned) (maxL := 1) (ret := (some .boolean)) (by decide) rfl ?_
  intro p e s m args below meth c0 s₁ B hml hv
  obtain ⟨rfl, hpre⟩ := hv
  obtain ⟨E, hH⟩ := gE_of B hml hpre
  replace E : gE p s m _ meth c0 P "FramedLine$Receiver" b_R_isAligned 1 (some .boolean) := E
  have hcU := hc
  unfold kR at hcU
  have hx := E.1
  have hb := E.2.1
  have hl := lv_entry ([.ref (gad P c)]) (n := 1) (Nat.le_of_ble_eq_true rfl)
  rw [lg_entry_eq]
  generalize (lg_sl ([.ref (gad P c)]) ++ List.replicate (1 - (lg_sl ([.ref (gad P c)])).length) Slot.unset).toArray = ls at hl ⊢
  replace hl : lv_has ls 1 [(0, .ref (gad P c))] := hl
  have hsp : sp_R_isAligned c G0 = sp_R_isAligned c G0 := rfl
  refine lv_aload_n hx hb d_R_isAligned_0 rfl (lv_at hl 0 rfl) ?_
  refine g_gete (v := (G0 c 1)) E hH (gc_R hc) cl_R 1 (by decide) lf_R_24 (fun _ => rfl) rfl d_R_isAligned_1 ?_
  refine g_gets (x := 2) E hH 2 (by decide) (by decide) lf_R_53 d_R_isAligned_4 ?_
  refine jn (α := Int32) (fun z H1 locs1 => z = ((if n3 (G0 c 1) = n3 2 then 1 else 0) : Int32) ∧ isB z ∧ gH P s G0 H1 locs1) (fun z => F0 m 15 ls (.int z :: [])) (fun z H locs h9 => ?_) (fun hJ => ?_)
  · obtain ⟨rfl, hz15, hH⟩ := h9
    exact g_rzret E hH (hsp.trans (by rw [sp_R_isAligned])) hz15 d_R_isAligned_15
  · refine g_acmp_ne (tgt := 14) E hb d_R_isAligned_7 (by decide) (fun h1 => ?_) (fun h1 => ?_)
    · refine lv_iconst (v := 0) hx hb d_R_isAligned_14 (by decide) ?_
      exact hJ _ _ _ ⟨by simp only [if_neg h1], isB_0, hH⟩
    · refine lv_iconst (v := 1) hx hb d_R_isAligned_10 (by decide) ?_
      refine lv_goto (tgt := 15) hx hb d_R_isAligned_11 (by decide) ?_
      exact hJ _ _ _ ⟨by simp only [if_pos h1], isB_1, hH⟩

def sp_R_byteOf (c : Nat) (G0 : Mem) (a1 : Int32) : Int32 :=
  (if (G0 c 7) = 0 then ((-1) : Int32) else ((iu (G0 c 6) (32 - (8 * (a1 + 1)))) &&& (255 : Int32)))
set_option maxHeartbeats 4000000 in
set_option maxRecDepth 100000 in
theorem c_R_byteOf (l : Launch) (P : gP) (G0 : Mem) (c : Nat) (a1 : Int32) (hc : kR c) : gMri l y_R_byteOf b_R_byteOf 2 (some .int) ({ frames := 0, cells := 0, slots := 0, locals := 0 }) [.ref (gad P c), .int a1] P G0 (sp_R_byteOf c G0 a1) := by
  refine Met.ofW (cc := b_R_byteOf) (maxL := 2) (ret := (some .int)) (by decide) rfl ?_
  intro p e s m args below meth c0 s₁ B hml hv
  obtain ⟨rfl, hpre⟩ := hv
  obtain ⟨E, hH⟩ := gE_of B hml hpre
  replace E : gE p s m _ meth c0 P "FramedLine$Receiver" b_R_byteOf 2 (some .int) := E
  have hcU := hc
  unfold kR at hcU
  have hx := E.1
  have hb := E.2.1
  have hl := lv_entry ([.ref (gad P c), .int a1]) (n := 2) (Nat.le_of_ble_eq_true rfl)
  rw [lg_entry_eq]
  generalize (lg_sl ([.ref (gad P c), .int a1]) ++ List.replicate (2 - (lg_sl ([.ref (gad P c), .int a1])).length) Slot.unset).toArray = ls at hl ⊢
  replace hl : lv_has ls 2 [(0, .ref (gad P c)), (1, .int a1)] := hl
  have hsp : sp_R_byteOf c G0 a1 = sp_R_byteOf c G0 a1 := rfl
  refine lv_aload_n hx hb d_R_byteOf_0 rfl (lv_at hl 0 rfl) ?_
  refine g_geti (v := (G0 c 7)) E hH (gc_R hc) cl_R 7 (by decide) lf_R_44 (fun _ => rfl) rfl d_R_byteOf_1 ?_
  refine lv_if_ne (tgt := 9) hx hb d_R_byteOf_4 (by decide) (fun h1 => ?_) (fun h1 => ?_)
  · refine lv_aload_n hx hb d_R_byteOf_9 rfl (lv_at hl 0 rfl) ?_
    refine g_geti (v := (G0 c 6)) E hH (gc_R hc) cl_R 6 (by decide) lf_R_41 (fun _ => rfl) rfl d_R_byteOf_10 ?_
    refine lv_bipush (v := 32) hx hb d_R_byteOf_13 (by decide) ?_
    refine lv_bipush (v := 8) hx hb d_R_byteOf_15 (by decide) ?_
    refine lv_iload_n hx hb d_R_byteOf_17 rfl (lv_at hl 1 rfl) ?_
    refine lv_iconst (v := 1) hx hb d_R_byteOf_18 (by decide) ?_
    refine lv_iadd hx hb d_R_byteOf_19 ?_
    refine lv_imul hx hb d_R_byteOf_20 ?_
    refine lv_isub hx hb d_R_byteOf_21 ?_
    refine lv_iushr (v := (iu (G0 c 6) (32 - (8 * (a1 + 1))))) hx hb d_R_byteOf_22 rfl ?_
    refine lv_sipush (v := 255) hx hb d_R_byteOf_23 (by decide) ?_
    refine lv_iand hx hb d_R_byteOf_26 ?_
    exact g_riret E hH (hsp.trans (by simp only [sp_R_byteOf, if_neg h1])) d_R_byteOf_27
  · refine lv_iconst (v := (-1)) hx hb d_R_byteOf_7 (by decide) ?_
    exact g_riret E hH (hsp.trans (by simp only [sp_R_byteOf, if_pos h1])) d_R_byteOf_8

def sp_R_wordStands (c : Nat) (G0 : Mem)  : Int32 :=
  ((if ((G0 c 2) &&& (127 : Int32)) = 27 then 1 else 0) : Int32)
set_option maxHeartbeats 4000000 in
set_option maxRecDepth 100000 in
theorem c_R_wordStands (l : Launch) (P : gP) (G0 : Mem) (c : Nat)  (hc : kR c) : gMrz l y_R_wordStands b_R_wordStands 1 (some .boolean) ({ frames := 0, cells := 0, slots := 0, locals := 0 }) [.ref (gad P c)] P G0 (sp_R_wordStands c G0) := by
  refine Met.ofW (cc := b_R_wordStands) (maxL := 1) (ret := (some .boolean)) (by decide) rfl ?_
  intro p e s m args below meth c0 s₁ B hml hv
  obtain ⟨rfl, hpre⟩ := hv
  obtain ⟨E, hH⟩ := gE_of B hml hpre
  replace E : gE p s m _ meth c0 P "FramedLine$Receiver" b_R_wordStands 1 (some .boolean) := E
  have hcU := hc
  unfold kR at hcU
  have hx := E.1
  have hb := E.2.1
  have hl := lv_entry ([.ref (gad P c)]) (n := 1) (Nat.le_of_ble_eq_true rfl)
  rw [lg_entry_eq]
  generalize (lg_sl ([.ref (gad P c)]) ++ List.replicate (1 - (lg_sl ([.ref (gad P c)])).length) Slot.unset).toArray = ls at hl ⊢
  replace hl : lv_has ls 1 [(0, .ref (gad P c))] := hl
  have hsp : sp_R_wordStands c G0 = sp_R_wordStands c G0 := rfl
  refine lv_aload_n hx hb d_R_wordStands_0 rfl (lv_at hl 0 rfl) ?_
  refine g_geti (v := (G0 c 2)) E hH (gc_R hc) cl_R 2 (by decide) lf_R_27 (fun _ => rfl) rfl d_R_wordStands_1 ?_
  refine lv_bipush (v := 127) hx hb d_R_wordStands_4 (by decide) ?_
  refine lv_iand hx hb d_R_wordStands_6 ?_
  refine lv_bipush (v := 27) hx hb d_R_wordStands_7 (by decide) ?_
  refine jn (α := Int32) (fun z H1 locs1 => z = ((if ((G0 c 2) &&& (127 : Int32)) = 27 then 1 else 0) : Int32) ∧ isB z ∧ gH P s G0 H1 locs1) (fun z => F0 m 17 ls (.int z :: [])) (fun z H locs h9 => ?_) (fun hJ => ?_)
  · obtain ⟨rfl, hz17, hH⟩ := h9
    exact g_rzret E hH (hsp.trans (by rw [sp_R_wordStands])) hz17 d_R_wordStands_17
  · refine lv_icmp_ne (tgt := 16) hx hb d_R_wordStands_9 (by decide) (fun h1 => ?_) (fun h1 => ?_)
    · refine lv_iconst (v := 0) hx hb d_R_wordStands_16 (by decide) ?_
      exact hJ _ _ _ ⟨by simp only [if_neg h1], isB_0, hH⟩
    · refine lv_iconst (v := 1) hx hb d_R_wordStands_12 (by decide) ?_
      refine lv_goto (tgt := 17) hx hb d_R_wordStands_13 (by decide) ?_
      exact hJ _ _ _ ⟨by simp only [if_pos h1], isB_1, hH⟩

def sp_R_enter (c : Nat) (G0 : Mem) (a1 : Int32) : Mem :=
  (wr (wr G0 c 1 a1) c 3 0)
set_option maxHeartbeats 4000000 in
set_option maxRecDepth 100000 in
theorem c_R_enter (l : Launch) (P : gP) (G0 : Mem) (c : Nat) (a1 : Int32) (hc : kR c) : gMv l y_R_enter b_R_enter 2 none ({ frames := 0, cells := 0, slots := 0, locals := 0 }) [.ref (gad P c), .ref (gae P a1)] P G0 (sp_R_enter c G0 a1) := by
  refine Met.ofW (cc := b_R_enter) (maxL := 2) (ret := none) (by decide) rfl ?_
  intro p e s m args below meth c0 s₁ B hml hv
  obtain ⟨rfl, hpre⟩ := hv
  obtain ⟨E, hH⟩ := gE_of B hml hpre
  replace E : gE p s m _ meth c0 P "FramedLine$Receiver" b_R_enter 2 none := E
  have hcU := hc
  unfold kR at hcU
  have hx := E.1
  have hb := E.2.1
  have hl := lv_entry ([.ref (gad P c), .ref (gae P a1)]) (n := 2) (Nat.le_of_ble_eq_true rfl)
  rw [lg_entry_eq]
  generalize (lg_sl ([.ref (gad P c), .ref (gae P a1)]) ++ List.replicate (2 - (lg_sl ([.ref (gad P c), .ref (gae P a1)])).length) Slot.unset).toArray = ls at hl ⊢
  replace hl : lv_has ls 2 [(0, .ref (gad P c)), (1, .ref (gae P a1))] := hl
  have hsp : sp_R_enter c G0 a1 = sp_R_enter c G0 a1 := rfl
  refine lv_aload_n hx hb d_R_enter_0 rfl (lv_at hl 0 rfl) ?_
  refine lv_aload_n hx hb d_R_enter_1 rfl (lv_at hl 1 rfl) ?_
  refine g_pute E hH (gc_R hc) cl_R ct_R 1 (by decide) lf_R_24 rfl (by decide +kernel) (fun _ _ => rfl) (Nat.le_of_ble_eq_true rfl) d_R_enter_2 (fun H locs hH => ?_)
  refine lv_aload_n hx hb d_R_enter_5 rfl (lv_at hl 0 rfl) ?_
  refine lv_iconst (v := 0) hx hb d_R_enter_6 (by decide) ?_
  refine g_puti E hH (gc_R hc) cl_R ct_R 3 (by decide) lf_R_31 rfl (by decide +kernel) (fun _ _ => rfl) (Nat.le_of_ble_eq_true rfl) d_R_enter_7 (fun H locs hH => ?_)
  exact g_vret E hH (hsp.trans (by rw [sp_R_enter])) d_R_enter_10

def sp_R_search (c : Nat) (G0 : Mem)  : Mem :=
  (if (G0 c 3) < 7 then G0 else (if ((sp_R_wordStands c G0)) = 0 then G0 else (sp_R_enter c G0 1)))
set_option maxHeartbeats 4000000 in
set_option maxRecDepth 100000 in
theorem c_R_search (l : Launch) (P : gP) (G0 : Mem) (c : Nat)  (hc : kR c) : gMv l y_R_search b_R_search 1 none ({ frames := 1, cells := 0, slots := 0, locals := 21 }) [.ref (gad P c)] P G0 (sp_R_search c G0) := by
  refine Met.ofW (cc := b_R_search) (maxL := 1) (ret := none) (by decide) rfl ?_
  intro p e s m args below meth c0 s₁ B hml hv
  obtain ⟨rfl, hpre⟩ := hv
  obtain ⟨E, hH⟩ := gE_of B hml hpre
  replace E : gE p s m _ meth c0 P "FramedLine$Receiver" b_R_search 1 none := E
  have hcU := hc
  unfold kR at hcU
  have hx := E.1
  have hb := E.2.1
  have hl := lv_entry ([.ref (gad P c)]) (n := 1) (Nat.le_of_ble_eq_true rfl)
  rw [lg_entry_eq]
  generalize (lg_sl ([.ref (gad P c)]) ++ List.replicate (1 - (lg_sl ([.ref (gad P c)])).length) Slot.unset).toArray = ls at hl ⊢
  replace hl : lv_has ls 1 [(0, .ref (gad P c))] := hl
  have hsp : sp_R_search c G0 = sp_R_search c G0 := rfl
  refine lv_aload_n hx hb d_R_search_0 rfl (lv_at hl 0 rfl) ?_
  refine g_geti (v := (G0 c 3)) E hH (gc_R hc) cl_R 3 (by decide) lf_R_31 (fun _ => rfl) rfl d_R_search_1 ?_
  refine lv_bipush (v := 7) hx hb d_R_search_4 (by decide) ?_
  refine lv_icmp_lt (tgt := 23) hx hb d_R_search_6 (by decide) (fun h1 => ?_) (fun h1 => ?_)
  · exact g_vret E hH (hsp.trans (by simp only [sp_R_search, if_pos h1])) d_R_search_23
  · refine lv_aload_n hx hb d_R_search_9 rfl (lv_at hl 0 rfl) ?_
    refine g_callVrz (As := []) E hH hl (c_R_wordStands l P _ c hc) lm_R_72 (gc_R hc) cl_R (Nat.le_of_ble_eq_true rfl) (Nat.le_of_ble_eq_true rfl) (Nat.le_of_ble_eq_true rfl) (Nat.le_of_ble_eq_true rfl) (Nat.le_of_ble_eq_true rfl) rfl rfl rfl rfl d_R_search_10 (fun H locs hH hz10 => ?_)
    refine lv_if_eq (tgt := 23) hx hb d_R_search_13 (by decide) (fun h2 => ?_) (fun h2 => ?_)
    · exact g_vret E hH (hsp.trans (by simp only [sp_R_search, if_neg h1, if_pos h2])) d_R_search_23
    · refine lv_aload_n hx hb d_R_search_16 rfl (lv_at hl 0 rfl) ?_
      refine g_gets (x := 1) E hH 1 (by decide) (by decide) lf_R_59 d_R_search_17 ?_
      refine g_callVv (As := [.ref (gae P 1)]) E hH hl (c_R_enter l P _ c _ hc) lm_R_76 (gc_R hc) cl_R (Nat.le_of_ble_eq_true rfl) (Nat.le_of_ble_eq_true rfl) (Nat.le_of_ble_eq_true rfl) (Nat.le_of_ble_eq_true rfl) (Nat.le_of_ble_eq_true rfl) rfl rfl rfl rfl d_R_search_20 (fun H locs hH => ?_)
      exact g_vret E hH (hsp.trans (by simp only [sp_R_search, if_neg h1, if_neg h2])) d_R_search_23

def sp_R_align (c : Nat) (G0 : Mem)  : Mem :=
  (wr (wr (wr (sp_R_enter c G0 2) c 3 8) c 4 0) c 5 0)
set_option maxHeartbeats 4000000 in
set_option maxRecDepth 100000 in
theorem c_R_align (l : Launch) (P : gP) (G0 : Mem) (c : Nat)  (hc : kR c) : gMv l y_R_align b_R_align 1 none ({ frames := 1, cells := 0, slots := 0, locals := 21 }) [.ref (gad P c)] P G0 (sp_R_align c G0) := by
  refine Met.ofW (cc := b_R_align) (maxL := 1) (ret := none) (by decide) rfl ?_
  intro p e s m args below meth c0 s₁ B hml hv
  obtain ⟨rfl, hpre⟩ := hv
  obtain ⟨E, hH⟩ := gE_of B hml hpre
  replace E : gE p s m _ meth c0 P "FramedLine$Receiver" b_R_align 1 none := E
  have hcU := hc
  unfold kR at hcU
  have hx := E.1
  have hb := E.2.1
  have hl := lv_entry ([.ref (gad P c)]) (n := 1) (Nat.le_of_ble_eq_true rfl)
  rw [lg_entry_eq]
  generalize (lg_sl ([.ref (gad P c)]) ++ List.replicate (1 - (lg_sl ([.ref (gad P c)])).length) Slot.unset).toArray = ls at hl ⊢
  replace hl : lv_has ls 1 [(0, .ref (gad P c))] := hl
  have hsp : sp_R_align c G0 = sp_R_align c G0 := rfl
  refine lv_aload_n hx hb d_R_align_0 rfl (lv_at hl 0 rfl) ?_
  refine g_gets (x := 2) E hH 2 (by decide) (by decide) lf_R_53 d_R_align_1 ?_
  refine g_callVv (As := [.ref (gae P 2)]) E hH hl (c_R_enter l P _ c _ hc) lm_R_76 (gc_R hc) cl_R (Nat.le_of_ble_eq_true rfl) (Nat.le_of_ble_eq_true rfl) (Nat.le_of_ble_eq_true rfl) (Nat.le_of_ble_eq_true rfl) (Nat.le_of_ble_eq_true rfl) rfl rfl rfl rfl d_R_align_4 (fun H locs hH => ?_)
  refine lv_aload_n hx hb d_R_align_7 rfl (lv_at hl 0 rfl) ?_
  refine lv_bipush (v := 8) hx hb d_R_align_8 (by decide) ?_
  refine g_puti E hH (gc_R hc) cl_R ct_R 3 (by decide) lf_R_31 rfl (by decide +kernel) (fun _ _ => rfl) (Nat.le_of_ble_eq_true rfl) d_R_align_10 (fun H locs hH => ?_)
  refine lv_aload_n hx hb d_R_align_13 rfl (lv_at hl 0 rfl) ?_
  refine lv_iconst (v := 0) hx hb d_R_align_14 (by decide) ?_
  refine g_putz E hH (gc_R hc) cl_R ct_R 4 (by decide) lf_R_34 rfl (by decide +kernel) (set_R4 _ _) isB_0 (Nat.le_of_ble_eq_true rfl) d_R_align_15 (fun H locs hH => ?_)
  refine lv_aload_n hx hb d_R_align_18 rfl (lv_at hl 0 rfl) ?_
  refine lv_iconst (v := 0) hx hb d_R_align_19 (by decide) ?_
  refine g_puti E hH (gc_R hc) cl_R ct_R 5 (by decide) lf_R_38 rfl (by decide +kernel) (fun _ _ => rfl) (Nat.le_of_ble_eq_true rfl) d_R_align_20 (fun H locs hH => ?_)
  exact g_vret E hH (hsp.trans (by rw [sp_R_align])) d_R_align_23

def sp_R_tryWord (c : Nat) (G0 : Mem) (a1 : Int32) : Mem :=
  (if (G0 c 3) = 26 then (if a1 = 0 then (sp_R_enter c G0 0) else (if (G0 c 3) = 64 then (if ((sp_R_wordStands c G0)) = 0 then (sp_R_enter c G0 0) else (sp_R_align c G0)) else G0)) else (if (G0 c 3) = 64 then (if ((sp_R_wordStands c G0)) = 0 then (sp_R_enter c G0 0) else (sp_R_align c G0)) else G0))
set_option maxHeartbeats 4000000 in
set_option maxRecDepth 100000 in
theorem c_R_tryWord (l : Launch) (P : gP) (G0 : Mem) (c : Nat) (a1 : Int32) (hc : kR c) : gMv l y_R_tryWord b_R_tryWord 2 none ({ frames := 2, cells := 0, slots := 0, locals := 41 }) [.ref (gad P c), .int a1] P G0 (sp_R_tryWord c G0 a1) := by
  refine Met.ofW (cc := b_R_tryWord) (maxL := 2) (ret := none) (by decide) rfl ?_
  intro p e s m args below meth c0 s₁ B hml hv
  obtain ⟨rfl, hpre⟩ := hv
  obtain ⟨E, hH⟩ := gE_of B hml hpre
  replace E : gE p s m _ meth c0 P "FramedLine$Receiver" b_R_tryWord 2 none := E
  have hcU := hc
  unfold kR at hcU
  have hx := E.1
  have hb := E.2.1
  have hl := lv_entry ([.ref (gad P c), .int a1]) (n := 2) (Nat.le_of_ble_eq_true rfl)
  rw [lg_entry_eq]
  generalize (lg_sl ([.ref (gad P c), .int a1]) ++ List.replicate (2 - (lg_sl ([.ref (gad P c), .int a1])).length) Slot.unset).toArray = ls at hl ⊢
  replace hl : lv_has ls 2 [(0, .ref (gad P c)), (1, .int a1)] := hl
  have hsp : sp_R_tryWord c G0 a1 = sp_R_tryWord c G0 a1 := rfl
  refine lv_aload_n hx hb d_R_tryWord_0 rfl (lv_at hl 0 rfl) ?_
  refine g_geti (v := (G0 c 3)) E hH (gc_R hc) cl_R 3 (by decide) lf_R_31 (fun _ => rfl) rfl d_R_tryWord_1 ?_
  refine lv_bipush (v := 26) hx hb d_R_tryWord_4 (by decide) ?_
  refine lv_icmp_ne (tgt := 23) hx hb d_R_tryWord_6 (by decide) (fun h1 => ?_) (fun h1 => ?_)
  · refine lv_aload_n hx hb d_R_tryWord_23 rfl (lv_at hl 0 rfl) ?_
    refine g_geti (v := (G0 c 3)) E hH (gc_R hc) cl_R 3 (by decide) lf_R_31 (fun _ => rfl) rfl d_R_tryWord_24 ?_
    refine lv_bipush (v := 64) hx hb d_R_tryWord_27 (by decide) ?_
    refine lv_icmp_ne (tgt := 53) hx hb d_R_tryWord_29 (by decide) (fun h2 => ?_) (fun h2 => ?_)
    · exact g_vret E hH (hsp.trans (by simp only [sp_R_tryWord, if_neg h1, if_neg h2])) d_R_tryWord_53
    · refine lv_aload_n hx hb d_R_tryWord_32 rfl (lv_at hl 0 rfl) ?_
      refine g_callVrz (As := []) E hH hl (c_R_wordStands l P _ c hc) lm_R_72 (gc_R hc) cl_R (Nat.le_of_ble_eq_true rfl) (Nat.le_of_ble_eq_true rfl) (Nat.le_of_ble_eq_true rfl) (Nat.le_of_ble_eq_true rfl) (Nat.le_of_ble_eq_true rfl) rfl rfl rfl rfl d_R_tryWord_33 (fun H locs hH hz33 => ?_)
      refine lv_if_eq (tgt := 46) hx hb d_R_tryWord_36 (by decide) (fun h3 => ?_) (fun h3 => ?_)
      · refine lv_aload_n hx hb d_R_tryWord_46 rfl (lv_at hl 0 rfl) ?_
        refine g_gets (x := 0) E hH 0 (by decide) (by decide) lf_R_18 d_R_tryWord_47 ?_
        refine g_callVv (As := [.ref (gae P 0)]) E hH hl (c_R_enter l P _ c _ hc) lm_R_76 (gc_R hc) cl_R (Nat.le_of_ble_eq_true rfl) (Nat.le_of_ble_eq_true rfl) (Nat.le_of_ble_eq_true rfl) (Nat.le_of_ble_eq_true rfl) (Nat.le_of_ble_eq_true rfl) rfl rfl rfl rfl d_R_tryWord_50 (fun H locs hH => ?_)
        exact g_vret E hH (hsp.trans (by simp only [sp_R_tryWord, if_neg h1, if_pos h2, if_pos h3])) d_R_tryWord_53
      · refine lv_aload_n hx hb d_R_tryWord_39 rfl (lv_at hl 0 rfl) ?_
        refine g_callVv (As := []) E hH hl (c_R_align l P _ c hc) lm_R_80 (gc_R hc) cl_R (Nat.le_of_ble_eq_true rfl) (Nat.le_of_ble_eq_true rfl) (Nat.le_of_ble_eq_true rfl) (Nat.le_of_ble_eq_true rfl) (Nat.le_of_ble_eq_true rfl) rfl rfl rfl rfl d_R_tryWord_40 (fun H locs hH => ?_)
        refine lv_goto (tgt := 53) hx hb d_R_tryWord_43 (by decide) ?_
        exact g_vret E hH (hsp.trans (by simp only [sp_R_tryWord, if_neg h1, if_pos h2, if_neg h3])) d_R_tryWord_53
  · refine lv_iload_n hx hb d_R_tryWord_9 rfl (lv_at hl 1 rfl) ?_
    refine lv_if_ne (tgt := 23) hx hb d_R_tryWord_10 (by decide) (fun h4 => ?_) (fun h4 => ?_)
    · refine lv_aload_n hx hb d_R_tryWord_23 rfl (lv_at hl 0 rfl) ?_
      refine g_geti (v := (G0 c 3)) E hH (gc_R hc) cl_R 3 (by decide) lf_R_31 (fun _ => rfl) rfl d_R_tryWord_24 ?_
      refine lv_bipush (v := 64) hx hb d_R_tryWord_27 (by decide) ?_
      refine lv_icmp_ne (tgt := 53) hx hb d_R_tryWord_29 (by decide) (fun h5 => ?_) (fun h5 => ?_)
      · exact g_vret E hH (hsp.trans (by simp only [sp_R_tryWord, if_pos h1, if_neg h4, if_neg h5])) d_R_tryWord_53
      · refine lv_aload_n hx hb d_R_tryWord_32 rfl (lv_at hl 0 rfl) ?_
        refine g_callVrz (As := []) E hH hl (c_R_wordStands l P _ c hc) lm_R_72 (gc_R hc) cl_R (Nat.le_of_ble_eq_true rfl) (Nat.le_of_ble_eq_true rfl) (Nat.le_of_ble_eq_true rfl) (Nat.le_of_ble_eq_true rfl) (Nat.le_of_ble_eq_true rfl) rfl rfl rfl rfl d_R_tryWord_33 (fun H locs hH hz33 => ?_)
        refine lv_if_eq (tgt := 46) hx hb d_R_tryWord_36 (by decide) (fun h6 => ?_) (fun h6 => ?_)
        · refine lv_aload_n hx hb d_R_tryWord_46 rfl (lv_at hl 0 rfl) ?_
          refine g_gets (x := 0) E hH 0 (by decide) (by decide) lf_R_18 d_R_tryWord_47 ?_
          refine g_callVv (As := [.ref (gae P 0)]) E hH hl (c_R_enter l P _ c _ hc) lm_R_76 (gc_R hc) cl_R (Nat.le_of_ble_eq_true rfl) (Nat.le_of_ble_eq_true rfl) (Nat.le_of_ble_eq_true rfl) (Nat.le_of_ble_eq_true rfl) (Nat.le_of_ble_eq_true rfl) rfl rfl rfl rfl d_R_tryWord_50 (fun H locs hH => ?_)
          exact g_vret E hH (hsp.trans (by simp only [sp_R_tryWord, if_pos h1, if_neg h4, if_pos h5, if_pos h6])) d_R_tryWord_53
        · refine lv_aload_n hx hb d_R_tryWord_39 rfl (lv_at hl 0 rfl) ?_
          refine g_callVv (As := []) E hH hl (c_R_align l P _ c hc) lm_R_80 (gc_R hc) cl_R (Nat.le_of_ble_eq_true rfl) (Nat.le_of_ble_eq_true rfl) (Nat.le_of_ble_eq_true rfl) (Nat.le_of_ble_eq_true rfl) (Nat.le_of_ble_eq_true rfl) rfl rfl rfl rfl d_R_tryWord_40 (fun H locs hH => ?_)
          refine lv_goto (tgt := 53) hx hb d_R_tryWord_43 (by decide) ?_
          exact g_vret E hH (hsp.trans (by simp only [sp_R_tryWord, if_pos h1, if_neg h4, if_pos h5, if_neg h6])) d_R_tryWord_53
    · refine lv_aload_n hx hb d_R_tryWord_13 rfl (lv_at hl 0 rfl) ?_
      refine g_gets (x := 0) E hH 0 (by decide) (by decide) lf_R_18 d_R_tryWord_14 ?_
      refine g_callVv (As := [.ref (gae P 0)]) E hH hl (c_R_enter l P _ c _ hc) lm_R_76 (gc_R hc) cl_R (Nat.le_of_ble_eq_true rfl) (Nat.le_of_ble_eq_true rfl) (Nat.le_of_ble_eq_true rfl) (Nat.le_of_ble_eq_true rfl) (Nat.le_of_ble_eq_true rfl) rfl rfl rfl rfl d_R_tryWord_17 (fun H locs hH => ?_)
      refine lv_goto (tgt := 53) hx hb d_R_tryWord_20 (by decide) ?_
      exact g_vret E hH (hsp.trans (by simp only [sp_R_tryWord, if_pos h1, if_pos h4])) d_R_tryWord_53

def sp_R_lookAtWord (c : Nat) (G0 : Mem)  : Mem :=
  (if ((if ((sp_R_wordStands c G0)) = 0 then ((G0 c 5) + 1) else 0) : Int32) = 3 then (sp_O_startAnew (c + 1) (sp_R_enter c (wr (wr G0 c 5 ((if ((sp_R_wordStands c G0)) = 0 then ((G0 c 5) + 1) else 0) : Int32)) c 8 ((G0 c 8) + 1)) 0)) else (wr G0 c 5 ((if ((sp_R_wordStands c G0)) = 0 then ((G0 c 5) + 1) else 0) : Int32)))
set_option maxHeartbeats 4000000 in
set_option maxRecDepth 100000 in
theorem c_R_lookAtWord (l : Launch) (P : gP) (G0 : Mem) (c : Nat)  (hc : kR c) : gMv l y_R_lookAtWord b_R_lookAtWord 1 none ({ frames := 2, cells := 0, slots := 0, locals := 40 }) [.ref (gad P c)] P G0 (sp_R_lookAtWord c G0) := by
  refine Met.ofW (cc := b_R_lookAtWord) (maxL := 1) (ret := none) (by decide) rfl ?_
  intro p e s m args below meth c0 s₁ B hml hv
  obtain ⟨rfl, hpre⟩ := hv
  obtain ⟨E, hH⟩ := gE_of B hml hpre
  replace E : gE p s m _ meth c0 P "FramedLine$Receiver" b_R_lookAtWord 1 none := E
  have hcU := hc
  unfold kR at hcU
  have hx := E.1
  have hb := E.2.1
  have hl := lv_entry ([.ref (gad P c)]) (n := 1) (Nat.le_of_ble_eq_true rfl)
  rw [lg_entry_eq]
  generalize (lg_sl ([.ref (gad P c)]) ++ List.replicate (1 - (lg_sl ([.ref (gad P c)])).length) Slot.unset).toArray = ls at hl ⊢
  replace hl : lv_has ls 1 [(0, .ref (gad P c))] := hl
  have hsp : sp_R_lookAtWord c G0 = sp_R_lookAtWord c G0 := rfl
  refine lv_aload_n hx hb d_R_lookAtWord_0 rfl (lv_at hl 0 rfl) ?_
  refine lv_aload_n hx hb d_R_lookAtWord_1 rfl (lv_at hl 0 rfl) ?_
  refine g_callVrz (As := []) E hH hl (c_R_wordStands l P _ c hc) lm_R_72 (gc_R hc) cl_R (Nat.le_of_ble_eq_true rfl) (Nat.le_of_ble_eq_true rfl) (Nat.le_of_ble_eq_true rfl) (Nat.le_of_ble_eq_true rfl) (Nat.le_of_ble_eq_true rfl) rfl rfl rfl rfl d_R_lookAtWord_2 (fun H locs hH hz2 => ?_)
  refine jn (α := Int32) (fun z H1 locs1 => z = ((if ((sp_R_wordStands c G0)) = 0 then ((G0 c 5) + 1) else 0) : Int32) ∧ gH P s G0 H1 locs1) (fun z => F0 m 18 ls (.int z :: .ref (gad P c) :: [])) (fun z H locs h9 => ?_) (fun hJ => ?_)
  · obtain ⟨rfl, hH⟩ := h9
    refine g_puti E hH (gc_R hc) cl_R ct_R 5 (by decide) lf_R_38 rfl (by decide +kernel) (fun _ _ => rfl) (Nat.le_of_ble_eq_true rfl) d_R_lookAtWord_18 (fun H locs hH => ?_)
    refine lv_aload_n hx hb d_R_lookAtWord_21 rfl (lv_at hl 0 rfl) ?_
    refine g_geti (v := ((if ((sp_R_wordStands c G0)) = 0 then ((G0 c 5) + 1) else 0) : Int32)) E hH (gc_R hc) cl_R 5 (by decide) lf_R_38 (fun _ => rfl) (wr_same _ _ _ _) d_R_lookAtWord_22 ?_
    refine lv_iconst (v := 3) hx hb d_R_lookAtWord_25 (by decide) ?_
    refine lv_icmp_ne (tgt := 53) hx hb d_R_lookAtWord_26 (by decide) (fun h1 => ?_) (fun h1 => ?_)
    · exact g_vret E hH (hsp.trans (by simp only [sp_R_lookAtWord, if_neg h1])) d_R_lookAtWord_53
    · refine lv_aload_n hx hb d_R_lookAtWord_29 rfl (lv_at hl 0 rfl) ?_
      refine lv_dup hx hb d_R_lookAtWord_30 rfl ?_
      refine g_geti (v := (G0 c 8)) E hH (gc_R hc) cl_R 8 (by decide) lf_R_47 (fun _ => rfl) (wr_k _ _ _ _ (by decide)) d_R_lookAtWord_31 ?_
      refine lv_iconst (v := 1) hx hb d_R_lookAtWord_34 (by decide) ?_
      refine lv_iadd hx hb d_R_lookAtWord_35 ?_
      refine g_puti E hH (gc_R hc) cl_R ct_R 8 (by decide) lf_R_47 rfl (by decide +kernel) (fun _ _ => rfl) (Nat.le_of_ble_eq_true rfl) d_R_lookAtWord_36 (fun H locs hH => ?_)
      refine lv_aload_n hx hb d_R_lookAtWord_39 rfl (lv_at hl 0 rfl) ?_
      refine g_gets (x := 0) E hH 0 (by decide) (by decide) lf_R_18 d_R_lookAtWord_40 ?_
      refine g_callVv (As := [.ref (gae P 0)]) E hH hl (c_R_enter l P _ c _ hc) lm_R_76 (gc_R hc) cl_R (Nat.le_of_ble_eq_true rfl) (Nat.le_of_ble_eq_true rfl) (Nat.le_of_ble_eq_true rfl) (Nat.le_of_ble_eq_true rfl) (Nat.le_of_ble_eq_true rfl) rfl rfl rfl rfl d_R_lookAtWord_43 (fun H locs hH => ?_)
      refine lv_aload_n hx hb d_R_lookAtWord_46 rfl (lv_at hl 0 rfl) ?_
      refine g_get E hH (gc_R hc) cl_R 0 (by decide) lf_R_12 rfl d_R_lookAtWord_47 ?_
      refine g_callVv (As := []) E hH hl (c_O_startAnew l P _ (c + 1) (kR_rounds hc)) lm_R_83 (gc_O (kR_rounds hc)) cl_O (Nat.le_of_ble_eq_true rfl) (Nat.le_of_ble_eq_true rfl) (Nat.le_of_ble_eq_true rfl) (Nat.le_of_ble_eq_true rfl) (Nat.le_of_ble_eq_true rfl) rfl rfl rfl rfl d_R_lookAtWord_50 (fun H locs hH => ?_)
      exact g_vret E hH (hsp.trans (by simp only [sp_R_lookAtWord, if_pos h1])) d_R_lookAtWord_53
  · refine lv_if_eq (tgt := 12) hx hb d_R_lookAtWord_5 (by decide) (fun h2 => ?_) (fun h2 => ?_)
    · refine lv_aload_n hx hb d_R_lookAtWord_12 rfl (lv_at hl 0 rfl) ?_
      refine g_geti (v := (G0 c 5)) E hH (gc_R hc) cl_R 5 (by decide) lf_R_38 (fun _ => rfl) rfl d_R_lookAtWord_13 ?_
      refine lv_iconst (v := 1) hx hb d_R_lookAtWord_16 (by decide) ?_
      refine lv_iadd hx hb d_R_lookAtWord_17 ?_
      exact hJ _ _ _ ⟨by simp only [if_pos h2], hH⟩
    · refine lv_iconst (v := 0) hx hb d_R_lookAtWord_8 (by decide) ?_
      refine lv_goto (tgt := 18) hx hb d_R_lookAtWord_9 (by decide) ?_
      exact hJ _ _ _ ⟨by simp only [if_neg h2], hH⟩

def sp_R_complete (c : Nat) (G0 : Mem)  : Mem :=
  (if (zb (G0 c 4)) = 0 then (wr (wr (sp_O_takeFrame (c + 1) (wr (wr G0 c 6 (G0 c 2)) c 7 ((G0 c 7) + 1)) (G0 c 2) (zb (G0 c 4))) c 4 ((if (zb ((sp_O_takeFrame (c + 1) (wr (wr G0 c 6 (G0 c 2)) c 7 ((G0 c 7) + 1)) (G0 c 2) (zb (G0 c 4))) c 4)) = 0 then 1 else 0) : Int32)) c 3 0) else (wr (wr (sp_O_takeFrame (c + 1) (wr (wr (wr G0 c 6 (G0 c 2)) c 7 ((G0 c 7) + 1)) c 9 ((if (((sp_R_byteOf c (wr (wr G0 c 6 (G0 c 2)) c 7 ((G0 c 7) + 1)) 0)) &&& (32 : Int32)) = 0 then 0 else 1) : Int32)) (G0 c 2) (zb (G0 c 4))) c 4 ((if (zb ((sp_O_takeFrame (c + 1) (wr (wr (wr G0 c 6 (G0 c 2)) c 7 ((G0 c 7) + 1)) c 9 ((if (((sp_R_byteOf c (wr (wr G0 c 6 (G0 c 2)) c 7 ((G0 c 7) + 1)) 0)) &&& (32 : Int32)) = 0 then 0 else 1) : Int32)) (G0 c 2) (zb (G0 c 4))) c 4)) = 0 then 1 else 0) : Int32)) c 3 0))
set_option maxHeartbeats 4000000 in
set_option maxRecDepth 100000 in
theorem c_R_complete (l : Launch) (P : gP) (G0 : Mem) (c : Nat)  (hc : kR c) : gMv l y_R_complete b_R_complete 1 none ({ frames := 3, cells := 0, slots := 0, locals := 64 }) [.ref (gad P c)] P G0 (sp_R_complete c G0) := by
  refine Met.ofW (cc := b_R_complete) (maxL := 1) (ret := none) (by decide) rfl ?_
  intro p e s m args below meth c0 s₁ B hml hv
  obtain ⟨rfl, hpre⟩ := hv
  obtain ⟨E, hH⟩ := gE_of B hml hpre
  replace E : gE p s m _ meth c0 P "FramedLine$Receiver" b_R_complete 1 none := E
  have hcU := hc
  unfold kR at hcU
  have hx := E.1
  have hb := E.2.1
  have hl := lv_entry ([.ref (gad P c)]) (n := 1) (Nat.le_of_ble_eq_true rfl)
  rw [lg_entry_eq]
  generalize (lg_sl ([.ref (gad P c)]) ++ List.replicate (1 - (lg_sl ([.ref (gad P c)])).length) Slot.unset).toArray = ls at hl ⊢
  replace hl : lv_has ls 1 [(0, .ref (gad P c))] := hl
  have hsp : sp_R_complete c G0 = sp_R_complete c G0 := rfl
  refine lv_aload_n hx hb d_R_complete_0 rfl (lv_at hl 0 rfl) ?_
  refine lv_aload_n hx hb d_R_complete_1 rfl (lv_at hl 0 rfl) ?_
  refine g_geti (v := (G0 c 2)) E hH (gc_R hc) cl_R 2 (by decide) lf_R_27 (fun _ => rfl) rfl d_R_complete_2 ?_
  refine g_puti E hH (gc_R hc) cl_R ct_R 6 (by decide) lf_R_41 rfl (by decide +kernel) (fun _ _ => rfl) (Nat.le_of_ble_eq_true rfl) d_R_complete_5 (fun H locs hH => ?_)
  refine lv_aload_n hx hb d_R_complete_8 rfl (lv_at hl 0 rfl) ?_
  refine lv_dup hx hb d_R_complete_9 rfl ?_
  refine g_geti (v := (G0 c 7)) E hH (gc_R hc) cl_R 7 (by decide) lf_R_44 (fun _ => rfl) (wr_k _ _ _ _ (by decide)) d_R_complete_10 ?_
  refine lv_iconst (v := 1) hx hb d_R_complete_13 (by decide) ?_
  refine lv_iadd hx hb d_R_complete_14 ?_
  refine g_puti E hH (gc_R hc) cl_R ct_R 7 (by decide) lf_R_44 rfl (by decide +kernel) (fun _ _ => rfl) (Nat.le_of_ble_eq_true rfl) d_R_complete_15 (fun H locs hH => ?_)
  refine lv_aload_n hx hb d_R_complete_18 rfl (lv_at hl 0 rfl) ?_
  refine g_getz (v := (G0 c 4)) E hH (gc_R hc) cl_R 4 (by decide) lf_R_34 (fun _ => rfl) ((wr_k _ _ _ _ (by decide)).trans (wr_k _ _ _ _ (by decide))) d_R_complete_19 ?_
  refine lv_if_eq (tgt := 45) hx hb d_R_complete_22 (by decide) (fun h1 => ?_) (fun h1 => ?_)
  · refine lv_aload_n hx hb d_R_complete_45 rfl (lv_at hl 0 rfl) ?_
    refine g_get E hH (gc_R hc) cl_R 0 (by decide) lf_R_12 rfl d_R_complete_46 ?_
    refine lv_aload_n hx hb d_R_complete_49 rfl (lv_at hl 0 rfl) ?_
    refine g_geti (v := (G0 c 2)) E hH (gc_R hc) cl_R 6 (by decide) lf_R_41 (fun _ => rfl) ((wr_k _ _ _ _ (by decide)).trans (wr_same _ _ _ _)) d_R_complete_50 ?_
    refine lv_aload_n hx hb d_R_complete_53 rfl (lv_at hl 0 rfl) ?_
    refine g_getz (v := (G0 c 4)) E hH (gc_R hc) cl_R 4 (by decide) lf_R_34 (fun _ => rfl) ((wr_k _ _ _ _ (by decide)).trans (wr_k _ _ _ _ (by decide))) d_R_complete_54 ?_
    refine g_callVv (As := [.int _, .int _]) E hH hl (c_O_takeFrame l P _ (c + 1) _ _ (kR_rounds hc)) lm_R_90 (gc_O (kR_rounds hc)) cl_O (Nat.le_of_ble_eq_true rfl) (Nat.le_of_ble_eq_true rfl) (Nat.le_of_ble_eq_true rfl) (Nat.le_of_ble_eq_true rfl) (Nat.le_of_ble_eq_true rfl) rfl rfl rfl rfl d_R_complete_57 (fun H locs hH => ?_)
    refine lv_aload_n hx hb d_R_complete_60 rfl (lv_at hl 0 rfl) ?_
    refine lv_aload_n hx hb d_R_complete_61 rfl (lv_at hl 0 rfl) ?_
    refine g_getz (v := ((sp_O_takeFrame (c + 1) (wr (wr G0 c 6 (G0 c 2)) c 7 ((G0 c 7) + 1)) (G0 c 2) (zb (G0 c 4))) c 4)) E hH (gc_R hc) cl_R 4 (by decide) lf_R_34 (fun _ => rfl) rfl d_R_complete_62 ?_
    refine jn (α := Int32) (fun z H1 locs1 => z = ((if (zb ((sp_O_takeFrame (c + 1) (wr (wr G0 c 6 (G0 c 2)) c 7 ((G0 c 7) + 1)) (G0 c 2) (zb (G0 c 4))) c 4)) = 0 then 1 else 0) : Int32) ∧ isB z ∧ gH P s (sp_O_takeFrame (c + 1) (wr (wr G0 c 6 (G0 c 2)) c 7 ((G0 c 7) + 1)) (G0 c 2) (zb (G0 c 4))) H1 locs1) (fun z => F0 m 73 ls (.int z :: .ref (gad P c) :: [])) (fun z H locs h9 => ?_) (fun hJ => ?_)
    · obtain ⟨rfl, hz73, hH⟩ := h9
      refine g_putz E hH (gc_R hc) cl_R ct_R 4 (by decide) lf_R_34 rfl (by decide +kernel) (set_R4 _ _) hz73 (Nat.le_of_ble_eq_true rfl) d_R_complete_73 (fun H locs hH => ?_)
      refine lv_aload_n hx hb d_R_complete_76 rfl (lv_at hl 0 rfl) ?_
      refine lv_iconst (v := 0) hx hb d_R_complete_77 (by decide) ?_
      refine g_puti E hH (gc_R hc) cl_R ct_R 3 (by decide) lf_R_31 rfl (by decide +kernel) (fun _ _ => rfl) (Nat.le_of_ble_eq_true rfl) d_R_complete_78 (fun H locs hH => ?_)
      exact g_vret E hH (hsp.trans (by simp only [sp_R_complete, if_pos h1])) d_R_complete_81
    · refine lv_if_ne (tgt := 72) hx hb d_R_complete_65 (by decide) (fun h2 => ?_) (fun h2 => ?_)
      · refine lv_iconst (v := 0) hx hb d_R_complete_72 (by decide) ?_
        exact hJ _ _ _ ⟨by simp only [if_neg h2], isB_0, hH⟩
      · refine lv_iconst (v := 1) hx hb d_R_complete_68 (by decide) ?_
        refine lv_goto (tgt := 73) hx hb d_R_complete_69 (by decide) ?_
        exact hJ _ _ _ ⟨by simp only [if_pos h2], isB_1, hH⟩
  · refine lv_aload_n hx hb d_R_complete_25 rfl (lv_at hl 0 rfl) ?_
    refine lv_aload_n hx hb d_R_complete_26 rfl (lv_at hl 0 rfl) ?_
    refine lv_iconst (v := 0) hx hb d_R_complete_27 (by decide) ?_
    refine g_callVri (As := [.int _]) E hH hl (c_R_byteOf l P _ c _ hc) lm_R_86 (gc_R hc) cl_R (Nat.le_of_ble_eq_true rfl) (Nat.le_of_ble_eq_true rfl) (Nat.le_of_ble_eq_true rfl) (Nat.le_of_ble_eq_true rfl) (Nat.le_of_ble_eq_true rfl) rfl rfl rfl rfl d_R_complete_28 (fun H locs hH => ?_)
    refine lv_bipush (v := 32) hx hb d_R_complete_31 (by decide) ?_
    refine lv_iand hx hb d_R_complete_33 ?_
    refine jn (α := Int32) (fun z H1 locs1 => z = ((if (((sp_R_byteOf c (wr (wr G0 c 6 (G0 c 2)) c 7 ((G0 c 7) + 1)) 0)) &&& (32 : Int32)) = 0 then 0 else 1) : Int32) ∧ isB z ∧ gH P s (wr (wr G0 c 6 (G0 c 2)) c 7 ((G0 c 7) + 1)) H1 locs1) (fun z => F0 m 42 ls (.int z :: .ref (gad P c) :: [])) (fun z H locs h9 => ?_) (fun hJ => ?_)
    · obtain ⟨rfl, hz42, hH⟩ := h9
      refine g_putz E hH (gc_R hc) cl_R ct_R 9 (by decide) lf_R_50 rfl (by decide +kernel) (set_R9 _ _) hz42 (Nat.le_of_ble_eq_true rfl) d_R_complete_42 (fun H locs hH => ?_)
      refine lv_aload_n hx hb d_R_complete_45 rfl (lv_at hl 0 rfl) ?_
      refine g_get E hH (gc_R hc) cl_R 0 (by decide) lf_R_12 rfl d_R_complete_46 ?_
      refine lv_aload_n hx hb d_R_complete_49 rfl (lv_at hl 0 rfl) ?_
      refine g_geti (v := (G0 c 2)) E hH (gc_R hc) cl_R 6 (by decide) lf_R_41 (fun _ => rfl) ((wr_k _ _ _ _ (by decide)).trans ((wr_k _ _ _ _ (by decide)).trans (wr_same _ _ _ _))) d_R_complete_50 ?_
      refine lv_aload_n hx hb d_R_complete_53 rfl (lv_at hl 0 rfl) ?_
      refine g_getz (v := (G0 c 4)) E hH (gc_R hc) cl_R 4 (by decide) lf_R_34 (fun _ => rfl) ((wr_k _ _ _ _ (by decide)).trans ((wr_k _ _ _ _ (by decide)).trans (wr_k _ _ _ _ (by decide)))) d_R_complete_54 ?_
      refine g_callVv (As := [.int _, .int _]) E hH hl (c_O_takeFrame l P _ (c + 1) _ _ (kR_rounds hc)) lm_R_90 (gc_O (kR_rounds hc)) cl_O (Nat.le_of_ble_eq_true rfl) (Nat.le_of_ble_eq_true rfl) (Nat.le_of_ble_eq_true rfl) (Nat.le_of_ble_eq_true rfl) (Nat.le_of_ble_eq_true rfl) rfl rfl rfl rfl d_R_complete_57 (fun H locs hH => ?_)
      refine lv_aload_n hx hb d_R_complete_60 rfl (lv_at hl 0 rfl) ?_
      refine lv_aload_n hx hb d_R_complete_61 rfl (lv_at hl 0 rfl) ?_
      refine g_getz (v := ((sp_O_takeFrame (c + 1) (wr (wr (wr G0 c 6 (G0 c 2)) c 7 ((G0 c 7) + 1)) c 9 ((if (((sp_R_byteOf c (wr (wr G0 c 6 (G0 c 2)) c 7 ((G0 c 7) + 1)) 0)) &&& (32 : Int32)) = 0 then 0 else 1) : Int32)) (G0 c 2) (zb (G0 c 4))) c 4)) E hH (gc_R hc) cl_R 4 (by decide) lf_R_34 (fun _ => rfl) rfl d_R_complete_62 ?_
      refine jn (α := Int32) (fun z H1 locs1 => z = ((if (zb ((sp_O_takeFrame (c + 1) (wr (wr (wr G0 c 6 (G0 c 2)) c 7 ((G0 c 7) + 1)) c 9 ((if (((sp_R_byteOf c (wr (wr G0 c 6 (G0 c 2)) c 7 ((G0 c 7) + 1)) 0)) &&& (32 : Int32)) = 0 then 0 else 1) : Int32)) (G0 c 2) (zb (G0 c 4))) c 4)) = 0 then 1 else 0) : Int32) ∧ isB z ∧ gH P s (sp_O_takeFrame (c + 1) (wr (wr (wr G0 c 6 (G0 c 2)) c 7 ((G0 c 7) + 1)) c 9 ((if (((sp_R_byteOf c (wr (wr G0 c 6 (G0 c 2)) c 7 ((G0 c 7) + 1)) 0)) &&& (32 : Int32)) = 0 then 0 else 1) : Int32)) (G0 c 2) (zb (G0 c 4))) H1 locs1) (fun z => F0 m 73 ls (.int z :: .ref (gad P c) :: [])) (fun z H locs h9 => ?_) (fun hJ => ?_)
      · obtain ⟨rfl, hz73, hH⟩ := h9
        refine g_putz E hH (gc_R hc) cl_R ct_R 4 (by decide) lf_R_34 rfl (by decide +kernel) (set_R4 _ _) hz73 (Nat.le_of_ble_eq_true rfl) d_R_complete_73 (fun H locs hH => ?_)
        refine lv_aload_n hx hb d_R_complete_76 rfl (lv_at hl 0 rfl) ?_
        refine lv_iconst (v := 0) hx hb d_R_complete_77 (by decide) ?_
        refine g_puti E hH (gc_R hc) cl_R ct_R 3 (by decide) lf_R_31 rfl (by decide +kernel) (fun _ _ => rfl) (Nat.le_of_ble_eq_true rfl) d_R_complete_78 (fun H locs hH => ?_)
        exact g_vret E hH (hsp.trans (by simp only [sp_R_complete, if_neg h1])) d_R_complete_81
      · refine lv_if_ne (tgt := 72) hx hb d_R_complete_65 (by decide) (fun h3 => ?_) (fun h3 => ?_)
        · refine lv_iconst (v := 0) hx hb d_R_complete_72 (by decide) ?_
          exact hJ _ _ _ ⟨by simp only [if_neg h3], isB_0, hH⟩
        · refine lv_iconst (v := 1) hx hb d_R_complete_68 (by decide) ?_
          refine lv_goto (tgt := 73) hx hb d_R_complete_69 (by decide) ?_
          exact hJ _ _ _ ⟨by simp only [if_pos h3], isB_1, hH⟩
    · refine lv_if_eq (tgt := 41) hx hb d_R_complete_34 (by decide) (fun h4 => ?_) (fun h4 => ?_)
      · refine lv_iconst (v := 0) hx hb d_R_complete_41 (by decide) ?_
        exact hJ _ _ _ ⟨by simp only [if_pos h4], isB_0, hH⟩
      · refine lv_iconst (v := 1) hx hb d_R_complete_37 (by decide) ?_
        refine lv_goto (tgt := 42) hx hb d_R_complete_38 (by decide) ?_
        exact hJ _ _ _ ⟨by simp only [if_neg h4], isB_1, hH⟩

def sp_R_takeBit (c : Nat) (G0 : Mem) (a1 : Int32) : Mem :=
  (if n3 (G0 c 1) = n3 0 then (sp_R_search c (wr (wr G0 c 2 (((G0 c 2) <<< ((1 : Int32) &&& 31)) ||| a1)) c 3 ((G0 c 3) + 1))) else (if n3 (G0 c 1) = n3 1 then (sp_R_tryWord c (wr (wr G0 c 2 (((G0 c 2) <<< ((1 : Int32) &&& 31)) ||| a1)) c 3 ((G0 c 3) + 1)) a1) else (if ((G0 c 3) + 1) = 32 then (sp_R_complete c (wr (wr G0 c 2 (((G0 c 2) <<< ((1 : Int32) &&& 31)) ||| a1)) c 3 ((G0 c 3) + 1))) else (if ((G0 c 3) + 1) = 8 then (if (zb (G0 c 4)) = 0 then (sp_R_lookAtWord c (wr (wr G0 c 2 (((G0 c 2) <<< ((1 : Int32) &&& 31)) ||| a1)) c 3 ((G0 c 3) + 1))) else (wr (wr G0 c 2 (((G0 c 2) <<< ((1 : Int32) &&& 31)) ||| a1)) c 3 ((G0 c 3) + 1))) else (wr (wr G0 c 2 (((G0 c 2) <<< ((1 : Int32) &&& 31)) ||| a1)) c 3 ((G0 c 3) + 1))))))
set_option maxHeartbeats 4000000 in
set_option maxRecDepth 100000 in
theorem c_R_takeBit (l : Launch) (P : gP) (G0 : Mem) (c : Nat) (a1 : Int32) (hc : kR c) : gMv l y_R_takeBit b_R_takeBit 2 none ({ frames := 4, cells := 0, slots := 0, locals := 84 }) [.ref (gad P c), .int a1] P G0 (sp_R_takeBit c G0 a1) := by
  refine Met.ofW (cc := b_R_takeBit) (maxL := 2) (ret := none) (by decide) rfl ?_
  intro p e s m args below meth c0 s₁ B hml hv
  obtain ⟨rfl, hpre⟩ := hv
  obtain ⟨E, hH⟩ := gE_of B hml hpre
  replace E : gE p s m _ meth c0 P "FramedLine$Receiver" b_R_takeBit 2 none := E
  have hcU := hc
  unfold kR at hcU
  have hx := E.1
  have hb := E.2.1
  have hl := lv_entry ([.ref (gad P c), .int a1]) (n := 2) (Nat.le_of_ble_eq_true rfl)
  rw [lg_entry_eq]
  generalize (lg_sl ([.ref (gad P c), .int a1]) ++ List.replicate (2 - (lg_sl ([.ref (gad P c), .int a1])).length) Slot.unset).toArray = ls at hl ⊢
  replace hl : lv_has ls 2 [(0, .ref (gad P c)), (1, .int a1)] := hl
  have hsp : sp_R_takeBit c G0 a1 = sp_R_takeBit c G0 a1 := rfl
  refine lv_aload_n hx hb d_R_takeBit_0 rfl (lv_at hl 0 rfl) ?_
  refine lv_aload_n hx hb d_R_takeBit_1 rfl (lv_at hl 0 rfl) ?_
  refine g_geti (v := (G0 c 2)) E hH (gc_R hc) cl_R 2 (by decide) lf_R_27 (fun _ => rfl) rfl d_R_takeBit_2 ?_
  refine lv_iconst (v := 1) hx hb d_R_takeBit_5 (by decide) ?_
  refine lv_ishl hx hb d_R_takeBit_6 ?_
  refine lv_iload_n hx hb d_R_takeBit_7 rfl (lv_at hl 1 rfl) ?_
  refine lv_ior hx hb d_R_takeBit_8 ?_
  refine g_puti E hH (gc_R hc) cl_R ct_R 2 (by decide) lf_R_27 rfl (by decide +kernel) (fun _ _ => rfl) (Nat.le_of_ble_eq_true rfl) d_R_takeBit_9 (fun H locs hH => ?_)
  refine lv_aload_n hx hb d_R_takeBit_12 rfl (lv_at hl 0 rfl) ?_
  refine lv_dup hx hb d_R_takeBit_13 rfl ?_
  refine g_geti (v := (G0 c 3)) E hH (gc_R hc) cl_R 3 (by decide) lf_R_31 (fun _ => rfl) (wr_k _ _ _ _ (by decide)) d_R_takeBit_14 ?_
  refine lv_iconst (v := 1) hx hb d_R_takeBit_17 (by decide) ?_
  refine lv_iadd hx hb d_R_takeBit_18 ?_
  refine g_puti E hH (gc_R hc) cl_R ct_R 3 (by decide) lf_R_31 rfl (by decide +kernel) (fun _ _ => rfl) (Nat.le_of_ble_eq_true rfl) d_R_takeBit_19 (fun H locs hH => ?_)
  refine lv_aload_n hx hb d_R_takeBit_22 rfl (lv_at hl 0 rfl) ?_
  refine g_gete (v := (G0 c 1)) E hH (gc_R hc) cl_R 1 (by decide) lf_R_24 (fun _ => rfl) ((wr_k _ _ _ _ (by decide)).trans (wr_k _ _ _ _ (by decide))) d_R_takeBit_23 ?_
  refine g_gets (x := 0) E hH 0 (by decide) (by decide) lf_R_18 d_R_takeBit_26 ?_
  refine g_acmp_ne (tgt := 39) E hb d_R_takeBit_29 (by decide) (fun h1 => ?_) (fun h1 => ?_)
  · refine lv_aload_n hx hb d_R_takeBit_39 rfl (lv_at hl 0 rfl) ?_
    refine g_gete (v := (G0 c 1)) E hH (gc_R hc) cl_R 1 (by decide) lf_R_24 (fun _ => rfl) ((wr_k _ _ _ _ (by decide)).trans (wr_k _ _ _ _ (by decide))) d_R_takeBit_40 ?_
    refine g_gets (x := 1) E hH 1 (by decide) (by decide) lf_R_59 d_R_takeBit_43 ?_
    refine g_acmp_ne (tgt := 57) E hb d_R_takeBit_46 (by decide) (fun h2 => ?_) (fun h2 => ?_)
    · refine lv_aload_n hx hb d_R_takeBit_57 rfl (lv_at hl 0 rfl) ?_
      refine g_geti (v := ((G0 c 3) + 1)) E hH (gc_R hc) cl_R 3 (by decide) lf_R_31 (fun _ => rfl) (wr_same _ _ _ _) d_R_takeBit_58 ?_
      refine lv_bipush (v := 32) hx hb d_R_takeBit_61 (by decide) ?_
      refine lv_icmp_ne (tgt := 73) hx hb d_R_takeBit_63 (by decide) (fun h3 => ?_) (fun h3 => ?_)
      · refine lv_aload_n hx hb d_R_takeBit_73 rfl (lv_at hl 0 rfl) ?_
        refine g_geti (v := ((G0 c 3) + 1)) E hH (gc_R hc) cl_R 3 (by decide) lf_R_31 (fun _ => rfl) (wr_same _ _ _ _) d_R_takeBit_74 ?_
        refine lv_bipush (v := 8) hx hb d_R_takeBit_77 (by decide) ?_
        refine lv_icmp_ne (tgt := 93) hx hb d_R_takeBit_79 (by decide) (fun h4 => ?_) (fun h4 => ?_)
        · exact g_vret E hH (hsp.trans (by simp only [sp_R_takeBit, if_neg h1, if_neg h2, if_neg h3, if_neg h4])) d_R_takeBit_93
        · refine lv_aload_n hx hb d_R_takeBit_82 rfl (lv_at hl 0 rfl) ?_
          refine g_getz (v := (G0 c 4)) E hH (gc_R hc) cl_R 4 (by decide) lf_R_34 (fun _ => rfl) ((wr_k _ _ _ _ (by decide)).trans (wr_k _ _ _ _ (by decide))) d_R_takeBit_83 ?_
          refine lv_if_ne (tgt := 93) hx hb d_R_takeBit_86 (by decide) (fun h5 => ?_) (fun h5 => ?_)
          · exact g_vret E hH (hsp.trans (by simp only [sp_R_takeBit, if_neg h1, if_neg h2, if_neg h3, if_pos h4, if_neg h5])) d_R_takeBit_93
          · refine lv_aload_n hx hb d_R_takeBit_89 rfl (lv_at hl 0 rfl) ?_
            refine g_callVv (As := []) E hH hl (c_R_lookAtWord l P _ c hc) lm_R_69 (gc_R hc) cl_R (Nat.le_of_ble_eq_true rfl) (Nat.le_of_ble_eq_true rfl) (Nat.le_of_ble_eq_true rfl) (Nat.le_of_ble_eq_true rfl) (Nat.le_of_ble_eq_true rfl) rfl rfl rfl rfl d_R_takeBit_90 (fun H locs hH => ?_)
            exact g_vret E hH (hsp.trans (by simp only [sp_R_takeBit, if_neg h1, if_neg h2, if_neg h3, if_pos h4, if_pos h5])) d_R_takeBit_93
      · refine lv_aload_n hx hb d_R_takeBit_66 rfl (lv_at hl 0 rfl) ?_
        refine g_callVv (As := []) E hH hl (c_R_complete l P _ c hc) lm_R_66 (gc_R hc) cl_R (Nat.le_of_ble_eq_true rfl) (Nat.le_of_ble_eq_true rfl) (Nat.le_of_ble_eq_true rfl) (Nat.le_of_ble_eq_true rfl) (Nat.le_of_ble_eq_true rfl) rfl rfl rfl rfl d_R_takeBit_67 (fun H locs hH => ?_)
        refine lv_goto (tgt := 93) hx hb d_R_takeBit_70 (by decide) ?_
        exact g_vret E hH (hsp.trans (by simp only [sp_R_takeBit, if_neg h1, if_neg h2, if_pos h3])) d_R_takeBit_93
    · refine lv_aload_n hx hb d_R_takeBit_49 rfl (lv_at hl 0 rfl) ?_
      refine lv_iload_n hx hb d_R_takeBit_50 rfl (lv_at hl 1 rfl) ?_
      refine g_callVv (As := [.int _]) E hH hl (c_R_tryWord l P _ c _ hc) lm_R_62 (gc_R hc) cl_R (Nat.le_of_ble_eq_true rfl) (Nat.le_of_ble_eq_true rfl) (Nat.le_of_ble_eq_true rfl) (Nat.le_of_ble_eq_true rfl) (Nat.le_of_ble_eq_true rfl) rfl rfl rfl rfl d_R_takeBit_51 (fun H locs hH => ?_)
      refine lv_goto (tgt := 93) hx hb d_R_takeBit_54 (by decide) ?_
      exact g_vret E hH (hsp.trans (by simp only [sp_R_takeBit, if_neg h1, if_pos h2])) d_R_takeBit_93
  · refine lv_aload_n hx hb d_R_takeBit_32 rfl (lv_at hl 0 rfl) ?_
    refine g_callVv (As := []) E hH hl (c_R_search l P _ c hc) lm_R_56 (gc_R hc) cl_R (Nat.le_of_ble_eq_true rfl) (Nat.le_of_ble_eq_true rfl) (Nat.le_of_ble_eq_true rfl) (Nat.le_of_ble_eq_true rfl) (Nat.le_of_ble_eq_true rfl) rfl rfl rfl rfl d_R_takeBit_33 (fun H locs hH => ?_)
    refine lv_goto (tgt := 93) hx hb d_R_takeBit_36 (by decide) ?_
    exact g_vret E hH (hsp.trans (by simp only [sp_R_takeBit, if_pos h1])) d_R_takeBit_93
end
section
def sp_S_exchange (c : Nat) (G0 : Mem) (a1 : Int32) (a2 : Int32) : Int32 × Mem :=
  ((G0 (c + 1) (tn a1)), (wr G0 (c + 1) (tn a1) a2))
set_option maxHeartbeats 4000000 in
set_option maxRecDepth 100000 in
theorem c_S_exchange (l : Launch) (P : gP) (G0 : Mem) (c : Nat) (a1 : Int32) (a2 : Int32) (hc : kS c) (hi : vp_in a1 4) : gMi l y_S_exchange b_S_exchange 4 (some .int) ({ frames := 0, cells := 0, slots := 0, locals := 0 }) [.ref (gad P c), .int a1, .int a2] P G0 (sp_S_exchange c G0 a1 a2) := by
  refine Met.ofW (cc := b_S_exchange) (maxL := 4) (ret := (some .int)) (by decide) rfl ?_
  intro p e s m args below meth c0 s₁ B hml hv
  obtain ⟨rfl, hpre⟩ := hv
  obtain ⟨E, hH⟩ := gE_of B hml hpre
  replace E : gE p s m _ meth c0 P "FramedLine$Sender" b_S_exchange 4 (some .int) := E
  have hcU := hc
  unfold kS at hcU
  have hx := E.1
  have hb := E.2.1
  have hl := lv_entry ([.ref (gad P c), .int a1, .int a2]) (n := 4) (Nat.le_of_ble_eq_true rfl)
  rw [lg_entry_eq]
  generalize (lg_sl ([.ref (gad P c), .int a1, .int a2]) ++ List.replicate (4 - (lg_sl ([.ref (gad P c), .int a1, .int a2])).length) Slot.unset).toArray = ls at hl ⊢
  replace hl : lv_has ls 4 [(0, .ref (gad P c)), (1, .int a1), (2, .int a2)] := hl
  have hsp : sp_S_exchange c G0 a1 a2 = sp_S_exchange c G0 a1 a2 := rfl
  refine lv_aload_n hx hb d_S_exchange_0 rfl (lv_at hl 0 rfl) ?_
  refine g_get E hH (gc_S hc) cl_S 0 (by decide) lf_S_9 rfl d_S_exchange_1 ?_
  refine lv_iload_n hx hb d_S_exchange_4 rfl (lv_at hl 1 rfl) ?_
  refine g_iaload (k := (tn a1)) (v := (G0 (c + 1) (tn a1))) E hH (ga_I4 (kS_loaded hc)) hi rfl rfl d_S_exchange_5 ?_
  refine lv_istore_n hx hb d_S_exchange_6 rfl hl (by decide) rfl (fun ls hl => ?_)
  refine lv_aload_n hx hb d_S_exchange_7 rfl (lv_at hl 1 rfl) ?_
  refine g_get E hH (gc_S hc) cl_S 0 (by decide) lf_S_9 rfl d_S_exchange_8 ?_
  refine lv_iload_n hx hb d_S_exchange_11 rfl (lv_at hl 2 rfl) ?_
  refine lv_iload_n hx hb d_S_exchange_12 rfl (lv_at hl 3 rfl) ?_
  refine g_iastore (k := (tn a1)) E hH (ga_I4 (kS_loaded hc)) hi rfl d_S_exchange_13 (fun H locs hH => ?_)
  refine lv_iload_n hx hb d_S_exchange_14 rfl (lv_at hl 0 rfl) ?_
  exact g_iret E hH (hsp.trans (by rw [sp_S_exchange])) d_S_exchange_15

def sp_S_isBetweenFrames (c : Nat) (G0 : Mem)  : Int32 :=
  ((if (G0 c 3) = 32 then 1 else 0) : Int32)
set_option maxHeartbeats 4000000 in
set_option maxRecDepth 100000 in
theorem c_S_isBetweenFrames (l : Launch) (P : gP) (G0 : Mem) (c : Nat)  (hc : kS c) : gMrz l y_S_isBetweenFrames b_S_isBetweenFrames 1 (some .boolean) ({ frames := 0, cells := 0, slots := 0, locals := 0 }) [.ref (gad P c)] P G0 (sp_S_isBetweenFrames c G0) := by
  refine Met.ofW (cc := b_S_isBetweenFrames) (maxL := 1) (ret := (some .boolean)) (by decide) rfl ?_
  intro p e s m args below meth c0 s₁ B hml hv
  obtain ⟨rfl, hpre⟩ := hv
  obtain ⟨E, hH⟩ := gE_of B hml hpre
  replace E : gE p s m _ meth c0 P "FramedLine$Sender" b_S_isBetweenFrames 1 (some .boolean) := E
  have hcU := hc
  unfold kS at hcU
  have hx := E.1
  have hb := E.2.1
  have hl := lv_entry ([.ref (gad P c)]) (n := 1) (Nat.le_of_ble_eq_true rfl)
  rw [lg_entry_eq]
  generalize (lg_sl ([.ref (gad P c)]) ++ List.replicate (1 - (lg_sl ([.ref (gad P c)])).length) Slot.unset).toArray = ls at hl ⊢
  replace hl : lv_has ls 1 [(0, .ref (gad P c))] := hl
  have hsp : sp_S_isBetweenFrames c G0 = sp_S_isBetweenFrames c G0 := rfl
  refine lv_aload_n hx hb d_S_isBetweenFrames_0 rfl (lv_at hl 0 rfl) ?_
  refine g_geti (v := (G0 c 3)) E hH (gc_S hc) cl_S 3 (by decide) lf_S_22 (fun _ => rfl) rfl d_S_isBetweenFrames_1 ?_
  refine lv_bipush (v := 32) hx hb d_S_isBetweenFrames_4 (by decide) ?_
  refine jn (α := Int32) (fun z H1 locs1 => z = ((if (G0 c 3) = 32 then 1 else 0) : Int32) ∧ isB z ∧ gH P s G0 H1 locs1) (fun z => F0 m 14 ls (.int z :: [])) (fun z H locs h9 => ?_) (fun hJ => ?_)
  · obtain ⟨rfl, hz14, hH⟩ := h9
    exact g_rzret E hH (hsp.trans (by rw [sp_S_isBetweenFrames])) hz14 d_S_isBetweenFrames_14
  · refine lv_icmp_ne (tgt := 13) hx hb d_S_isBetweenFrames_6 (by decide) (fun h1 => ?_) (fun h1 => ?_)
    · refine lv_iconst (v := 0) hx hb d_S_isBetweenFrames_13 (by decide) ?_
      exact hJ _ _ _ ⟨by simp only [if_neg h1], isB_0, hH⟩
    · refine lv_iconst (v := 1) hx hb d_S_isBetweenFrames_9 (by decide) ?_
      refine lv_goto (tgt := 14) hx hb d_S_isBetweenFrames_10 (by decide) ?_
      exact hJ _ _ _ ⟨by simp only [if_pos h1], isB_1, hH⟩

def sp_S_nextBit (c : Nat) (G0 : Mem)  : Int32 × Mem :=
  (((iu (G0 c 2) (32 - ((G0 c 3) + 1))) &&& (1 : Int32)), (wr G0 c 3 ((G0 c 3) + 1)))
set_option maxHeartbeats 4000000 in
set_option maxRecDepth 100000 in
theorem c_S_nextBit (l : Launch) (P : gP) (G0 : Mem) (c : Nat)  (hc : kS c) : gMi l y_S_nextBit b_S_nextBit 1 (some .int) ({ frames := 0, cells := 0, slots := 0, locals := 0 }) [.ref (gad P c)] P G0 (sp_S_nextBit c G0) := by
  refine Met.ofW (cc := b_S_nextBit) (maxL := 1) (ret := (some .int)) (by decide) rfl ?_
  intro p e s m args below meth c0 s₁ B hml hv
  obtain ⟨rfl, hpre⟩ := hv
  obtain ⟨E, hH⟩ := gE_of B hml hpre
  replace E : gE p s m _ meth c0 P "FramedLine$Sender" b_S_nextBit 1 (some .int) := E
  have hcU := hc
  unfold kS at hcU
  have hx := E.1
  have hb := E.2.1
  have hl := lv_entry ([.ref (gad P c)]) (n := 1) (Nat.le_of_ble_eq_true rfl)
  rw [lg_entry_eq]
  generalize (lg_sl ([.ref (gad P c)]) ++ List.replicate (1 - (lg_sl ([.ref (gad P c)])).length) Slot.unset).toArray = ls at hl ⊢
  replace hl : lv_has ls 1 [(0, .ref (gad P c))] := hl
  have hsp : sp_S_nextBit c G0 = sp_S_nextBit c G0 := rfl
  refine lv_aload_n hx hb d_S_nextBit_0 rfl (lv_at hl 0 rfl) ?_
  refine lv_dup hx hb d_S_nextBit_1 rfl ?_
  refine g_geti (v := (G0 c 3)) E hH (gc_S hc) cl_S 3 (by decide) lf_S_22 (fun _ => rfl) rfl d_S_nextBit_2 ?_
  refine lv_iconst (v := 1) hx hb d_S_nextBit_5 (by decide) ?_
  refine lv_iadd hx hb d_S_nextBit_6 ?_
  refine g_puti E hH (gc_S hc) cl_S ct_S 3 (by decide) lf_S_22 rfl (by decide +kernel) (fun _ _ => rfl) (Nat.le_of_ble_eq_true rfl) d_S_nextBit_7 (fun H locs hH => ?_)
  refine lv_aload_n hx hb d_S_nextBit_10 rfl (lv_at hl 0 rfl) ?_
  refine g_geti (v := (G0 c 2)) E hH (gc_S hc) cl_S 2 (by decide) lf_S_19 (fun _ => rfl) (wr_k _ _ _ _ (by decide)) d_S_nextBit_11 ?_
  refine lv_bipush (v := 32) hx hb d_S_nextBit_14 (by decide) ?_
  refine lv_aload_n hx hb d_S_nextBit_16 rfl (lv_at hl 0 rfl) ?_
  refine g_geti (v := ((G0 c 3) + 1)) E hH (gc_S hc) cl_S 3 (by decide) lf_S_22 (fun _ => rfl) (wr_same _ _ _ _) d_S_nextBit_17 ?_
  refine lv_isub hx hb d_S_nextBit_20 ?_
  refine lv_iushr (v := (iu (G0 c 2) (32 - ((G0 c 3) + 1)))) hx hb d_S_nextBit_21 rfl ?_
  refine lv_iconst (v := 1) hx hb d_S_nextBit_22 (by decide) ?_
  refine lv_iand hx hb d_S_nextBit_23 ?_
  exact g_iret E hH (hsp.trans (by rw [sp_S_nextBit])) d_S_nextBit_24

def sp_S_evenSlotZero (c : Nat) (G0 : Mem)  : Int32 :=
  (((((G0 c 5) >>> ((3 - (((G0 c 1) >>> ((1 : Int32) &&& 31)) &&& (3 : Int32))) &&& 31)) &&& (1 : Int32)) <<< ((7 : Int32) &&& 31)) ||| (27 : Int32))
set_option maxHeartbeats 4000000 in
set_option maxRecDepth 100000 in
theorem c_S_evenSlotZero (l : Launch) (P : gP) (G0 : Mem) (c : Nat)  (hc : kS c) : gMri l y_S_evenSlotZero b_S_evenSlotZero 3 (some .int) ({ frames := 0, cells := 0, slots := 0, locals := 0 }) [.ref (gad P c)] P G0 (sp_S_evenSlotZero c G0) := by
  refine Met.ofW (cc := b_S_evenSlotZero) (maxL := 3) (ret := (some .int)) (by decide) rfl ?_
  intro p e s m args below meth c0 s₁ B hml hv
  obtain ⟨rfl, hpre⟩ := hv
  obtain ⟨E, hH⟩ := gE_of B hml hpre
  replace E : gE p s m _ meth c0 P "FramedLine$Sender" b_S_evenSlotZero 3 (some .int) := E
  have hcU := hc
  unfold kS at hcU
  have hx := E.1
  have hb := E.2.1
  have hl := lv_entry ([.ref (gad P c)]) (n := 3) (Nat.le_of_ble_eq_true rfl)
  rw [lg_entry_eq]
  generalize (lg_sl ([.ref (gad P c)]) ++ List.replicate (3 - (lg_sl ([.ref (gad P c)])).length) Slot.unset).toArray = ls at hl ⊢
  replace hl : lv_has ls 3 [(0, .ref (gad P c))] := hl
  have hsp : sp_S_evenSlotZero c G0 = sp_S_evenSlotZero c G0 := rfl
  refine lv_aload_n hx hb d_S_evenSlotZero_0 rfl (lv_at hl 0 rfl) ?_
  refine g_geti (v := (G0 c 1)) E hH (gc_S hc) cl_S 1 (by decide) lf_S_15 (fun _ => rfl) rfl d_S_evenSlotZero_1 ?_
  refine lv_iconst (v := 1) hx hb d_S_evenSlotZero_4 (by decide) ?_
  refine lv_ishr hx hb d_S_evenSlotZero_5 ?_
  refine lv_iconst (v := 3) hx hb d_S_evenSlotZero_6 (by decide) ?_
  refine lv_iand hx hb d_S_evenSlotZero_7 ?_
  refine lv_istore_n hx hb d_S_evenSlotZero_8 rfl hl (by decide) rfl (fun ls hl => ?_)
  refine lv_aload_n hx hb d_S_evenSlotZero_9 rfl (lv_at hl 1 rfl) ?_
  refine g_geti (v := (G0 c 5)) E hH (gc_S hc) cl_S 5 (by decide) lf_S_28 (fun _ => rfl) rfl d_S_evenSlotZero_10 ?_
  refine lv_iconst (v := 3) hx hb d_S_evenSlotZero_13 (by decide) ?_
  refine lv_iload_n hx hb d_S_evenSlotZero_14 rfl (lv_at hl 0 rfl) ?_
  refine lv_isub hx hb d_S_evenSlotZero_15 ?_
  refine lv_ishr hx hb d_S_evenSlotZero_16 ?_
  refine lv_iconst (v := 1) hx hb d_S_evenSlotZero_17 (by decide) ?_
  refine lv_iand hx hb d_S_evenSlotZero_18 ?_
  refine lv_istore_n hx hb d_S_evenSlotZero_19 rfl hl (by decide) rfl (fun ls hl => ?_)
  refine lv_iload_n hx hb d_S_evenSlotZero_20 rfl (lv_at hl 0 rfl) ?_
  refine lv_bipush (v := 7) hx hb d_S_evenSlotZero_21 (by decide) ?_
  refine lv_ishl hx hb d_S_evenSlotZero_23 ?_
  refine lv_bipush (v := 27) hx hb d_S_evenSlotZero_24 (by decide) ?_
  refine lv_ior hx hb d_S_evenSlotZero_26 ?_
  exact g_riret E hH (hsp.trans (by rw [sp_S_evenSlotZero])) d_S_evenSlotZero_27

def sp_S_firstBitOfOdd (c : Nat) (c2 : Nat) (G0 : Mem)  : Int32 :=
  (if 11 < (G0 c 1) then ((if ((if (G0 c 1) = 13 then (zb (G0 c2 9)) else (zb (G0 c2 10))) : Int32) = 0 then 1 else 0) : Int32) else (((11 : Int32) >>> ((5 - ((G0 c 1) >>> ((1 : Int32) &&& 31))) &&& 31)) &&& (1 : Int32)))
set_option maxHeartbeats 4000000 in
set_option maxRecDepth 100000 in
theorem c_S_firstBitOfOdd (l : Launch) (P : gP) (G0 : Mem) (c : Nat) (c2 : Nat)  (hc : kS c) (hc2 : kO c2) : gMri l y_S_firstBitOfOdd b_S_firstBitOfOdd 3 (some .int) ({ frames := 0, cells := 0, slots := 0, locals := 0 }) [.ref (gad P c), .ref (gad P c2)] P G0 (sp_S_firstBitOfOdd c c2 G0) := by
  refine Met.ofW (cc := b_S_firstBitOfOdd) (maxL := 3) (ret := (some .int)) (by decide) rfl ?_
  intro p e s m args below meth c0 s₁ B hml hv
  obtain ⟨rfl, hpre⟩ := hv
  obtain ⟨E, hH⟩ := gE_of B hml hpre
  replace E : gE p s m _ meth c0 P "FramedLine$Sender" b_S_firstBitOfOdd 3 (some .int) := E
  have hcU := hc
  unfold kS at hcU
  have hc2U := hc2
  unfold kO at hc2U
  have hx := E.1
  have hb := E.2.1
  have hl := lv_entry ([.ref (gad P c), .ref (gad P c2)]) (n := 3) (Nat.le_of_ble_eq_true rfl)
  rw [lg_entry_eq]
  generalize (lg_sl ([.ref (gad P c), .ref (gad P c2)]) ++ List.replicate (3 - (lg_sl ([.ref (gad P c), .ref (gad P c2)])).length) Slot.unset).toArray = ls at hl ⊢
  replace hl : lv_has ls 3 [(0, .ref (gad P c)), (1, .ref (gad P c2))] := hl
  have hsp : sp_S_firstBitOfOdd c c2 G0 = sp_S_firstBitOfOdd c c2 G0 := rfl
  refine lv_aload_n hx hb d_S_firstBitOfOdd_0 rfl (lv_at hl 0 rfl) ?_
  refine g_geti (v := (G0 c 1)) E hH (gc_S hc) cl_S 1 (by decide) lf_S_15 (fun _ => rfl) rfl d_S_firstBitOfOdd_1 ?_
  refine lv_bipush (v := 11) hx hb d_S_firstBitOfOdd_4 (by decide) ?_
  refine lv_icmp_gt (tgt := 23) hx hb d_S_firstBitOfOdd_6 (by decide) (fun h1 => ?_) (fun h1 => ?_)
  · refine lv_aload_n hx hb d_S_firstBitOfOdd_23 rfl (lv_at hl 0 rfl) ?_
    refine g_geti (v := (G0 c 1)) E hH (gc_S hc) cl_S 1 (by decide) lf_S_15 (fun _ => rfl) rfl d_S_firstBitOfOdd_24 ?_
    refine lv_bipush (v := 13) hx hb d_S_firstBitOfOdd_27 (by decide) ?_
    refine jn (α := Int32) (fun z H1 locs1 => z = ((if (G0 c 1) = 13 then (zb (G0 c2 9)) else (zb (G0 c2 10))) : Int32) ∧ isB z ∧ gH P s G0 H1 locs1) (fun z => F0 m 43 ls (.int z :: [])) (fun z H locs h9 => ?_) (fun hJ => ?_)
    · obtain ⟨rfl, hz43, hH⟩ := h9
      refine lv_istore_n hx hb d_S_firstBitOfOdd_43 rfl hl (by decide) rfl (fun ls hl => ?_)
      refine lv_iload_n hx hb d_S_firstBitOfOdd_44 rfl (lv_at hl 0 rfl) ?_
      refine jn (α := Int32) (fun z H1 locs1 => z = ((if ((if (G0 c 1) = 13 then (zb (G0 c2 9)) else (zb (G0 c2 10))) : Int32) = 0 then 1 else 0) : Int32) ∧ isB z ∧ gH P s G0 H1 locs1) (fun z => F0 m 53 ls (.int z :: [])) (fun z H locs h9 => ?_) (fun hJ => ?_)
      · obtain ⟨rfl, hz53, hH⟩ := h9
        exact g_riret E hH (hsp.trans (by simp only [sp_S_firstBitOfOdd, if_pos h1])) d_S_firstBitOfOdd_53
      · refine lv_if_eq (tgt := 52) hx hb d_S_firstBitOfOdd_45 (by decide) (fun h2 => ?_) (fun h2 => ?_)
        · refine lv_iconst (v := 1) hx hb d_S_firstBitOfOdd_52 (by decide) ?_
          exact hJ _ _ _ ⟨by simp only [if_pos h2], isB_1, hH⟩
        · refine lv_iconst (v := 0) hx hb d_S_firstBitOfOdd_48 (by decide) ?_
          refine lv_goto (tgt := 53) hx hb d_S_firstBitOfOdd_49 (by decide) ?_
          exact hJ _ _ _ ⟨by simp only [if_neg h2], isB_0, hH⟩
    · refine lv_icmp_ne (tgt := 39) hx hb d_S_firstBitOfOdd_29 (by decide) (fun h3 => ?_) (fun h3 => ?_)
      · refine lv_aload_n hx hb d_S_firstBitOfOdd_39 rfl (lv_at hl 1 rfl) ?_
        refine g_getzN (v := (G0 c2 10)) E hH (gc_O hc2) cl_O 10 (by decide) lf_S_68 (fun _ => rfl) rfl d_S_firstBitOfOdd_40 ?_
        exact hJ _ _ _ ⟨by simp only [if_neg h3], (isB_zb _), hH⟩
      · refine lv_aload_n hx hb d_S_firstBitOfOdd_32 rfl (lv_at hl 1 rfl) ?_
        refine g_getzN (v := (G0 c2 9)) E hH (gc_O hc2) cl_O 9 (by decide) lf_S_62 (fun _ => rfl) rfl d_S_firstBitOfOdd_33 ?_
        refine lv_goto (tgt := 43) hx hb d_S_firstBitOfOdd_36 (by decide) ?_
        exact hJ _ _ _ ⟨by simp only [if_pos h3], (isB_zb _), hH⟩
  · refine lv_bipush (v := 11) hx hb d_S_firstBitOfOdd_9 (by decide) ?_
    refine lv_iconst (v := 5) hx hb d_S_firstBitOfOdd_11 (by decide) ?_
    refine lv_aload_n hx hb d_S_firstBitOfOdd_12 rfl (lv_at hl 0 rfl) ?_
    refine g_geti (v := (G0 c 1)) E hH (gc_S hc) cl_S 1 (by decide) lf_S_15 (fun _ => rfl) rfl d_S_firstBitOfOdd_13 ?_
    refine lv_iconst (v := 1) hx hb d_S_firstBitOfOdd_16 (by decide) ?_
    refine lv_ishr hx hb d_S_firstBitOfOdd_17 ?_
    refine lv_isub hx hb d_S_firstBitOfOdd_18 ?_
    refine lv_ishr hx hb d_S_firstBitOfOdd_19 ?_
    refine lv_iconst (v := 1) hx hb d_S_firstBitOfOdd_20 (by decide) ?_
    refine lv_iand hx hb d_S_firstBitOfOdd_21 ?_
    exact g_riret E hH (hsp.trans (by simp only [sp_S_firstBitOfOdd, if_neg h1])) d_S_firstBitOfOdd_22

def sp_S_oddSlotZero (c : Nat) (c2 : Nat) (G0 : Mem)  : Int32 :=
  (((((sp_S_firstBitOfOdd c (c2 + 1) G0)) <<< ((7 : Int32) &&& 31)) ||| (95 : Int32)) ||| ((if ((sp_R_isAligned c2 G0)) = 0 then 32 else 0) : Int32))
set_option maxHeartbeats 4000000 in
set_option maxRecDepth 100000 in
theorem c_S_oddSlotZero (l : Launch) (P : gP) (G0 : Mem) (c : Nat) (c2 : Nat)  (hc : kS c) (hc2 : kR c2) : gMri l y_S_oddSlotZero b_S_oddSlotZero 3 (some .int) ({ frames := 1, cells := 0, slots := 0, locals := 22 }) [.ref (gad P c), .ref (gad P c2)] P G0 (sp_S_oddSlotZero c c2 G0) := by
  refine Met.ofW (cc := b_S_oddSlotZero) (maxL := 3) (ret := (some .int)) (by decide) rfl ?_
  intro p e s m args below meth c0 s₁ B hml hv
  obtain ⟨rfl, hpre⟩ := hv
  obtain ⟨E, hH⟩ := gE_of B hml hpre
  replace E : gE p s m _ meth c0 P "FramedLine$Sender" b_S_oddSlotZero 3 (some .int) := E
  have hcU := hc
  unfold kS at hcU
  have hc2U := hc2
  unfold kR at hc2U
  have hx := E.1
  have hb := E.2.1
  have hl := lv_entry ([.ref (gad P c), .ref (gad P c2)]) (n := 3) (Nat.le_of_ble_eq_true rfl)
  rw [lg_entry_eq]
  generalize (lg_sl ([.ref (gad P c), .ref (gad P c2)]) ++ List.replicate (3 - (lg_sl ([.ref (gad P c), .ref (gad P c2)])).length) Slot.unset).toArray = ls at hl ⊢
  replace hl : lv_has ls 3 [(0, .ref (gad P c)), (1, .ref (gad P c2))] := hl
  have hsp : sp_S_oddSlotZero c c2 G0 = sp_S_oddSlotZero c c2 G0 := rfl
  refine lv_aload_n hx hb d_S_oddSlotZero_0 rfl (lv_at hl 1 rfl) ?_
  refine g_callVrz (As := []) E hH hl (c_R_isAligned l P _ c2 hc2) lm_S_48 (gc_R hc2) cl_R (Nat.le_of_ble_eq_true rfl) (Nat.le_of_ble_eq_true rfl) (Nat.le_of_ble_eq_true rfl) (Nat.le_of_ble_eq_true rfl) (Nat.le_of_ble_eq_true rfl) rfl rfl rfl rfl d_S_oddSlotZero_1 (fun H locs hH hz1 => ?_)
  refine jn (α := Int32) (fun z H1 locs1 => z = ((if ((sp_R_isAligned c2 G0)) = 0 then 32 else 0) : Int32) ∧ gH P s G0 H1 locs1) (fun z => F0 m 13 ls (.int z :: [])) (fun z H locs h9 => ?_) (fun hJ => ?_)
  · obtain ⟨rfl, hH⟩ := h9
    refine lv_istore_n hx hb d_S_oddSlotZero_13 rfl hl (by decide) rfl (fun ls hl => ?_)
    refine lv_aload_n hx hb d_S_oddSlotZero_14 rfl (lv_at hl 1 rfl) ?_
    refine lv_aload_n hx hb d_S_oddSlotZero_15 rfl (lv_at hl 2 rfl) ?_
    refine g_getN E hH (gc_R hc2) cl_R 0 (by decide) lf_S_54 rfl d_S_oddSlotZero_16 ?_
    refine g_callVri (As := [.ref (gad P (c2 + 1))]) E hH hl (c_S_firstBitOfOdd l P _ c (c2 + 1) hc (kR_rounds hc2)) lm_S_58 (gc_S hc) cl_S (Nat.le_of_ble_eq_true rfl) (Nat.le_of_ble_eq_true rfl) (Nat.le_of_ble_eq_true rfl) (Nat.le_of_ble_eq_true rfl) (Nat.le_of_ble_eq_true rfl) rfl rfl rfl rfl d_S_oddSlotZero_19 (fun H locs hH => ?_)
    refine lv_bipush (v := 7) hx hb d_S_oddSlotZero_22 (by decide) ?_
    refine lv_ishl hx hb d_S_oddSlotZero_24 ?_
    refine lv_bipush (v := 95) hx hb d_S_oddSlotZero_25 (by decide) ?_
    refine lv_ior hx hb d_S_oddSlotZero_27 ?_
    refine lv_iload_n hx hb d_S_oddSlotZero_28 rfl (lv_at hl 0 rfl) ?_
    refine lv_ior hx hb d_S_oddSlotZero_29 ?_
    exact g_riret E hH (hsp.trans (by rw [sp_S_oddSlotZero])) d_S_oddSlotZero_30
  · refine lv_if_eq (tgt := 11) hx hb d_S_oddSlotZero_4 (by decide) (fun h1 => ?_) (fun h1 => ?_)
    · refine lv_bipush (v := 32) hx hb d_S_oddSlotZero_11 (by decide) ?_
      exact hJ _ _ _ ⟨by simp only [if_pos h1], hH⟩
    · refine lv_iconst (v := 0) hx hb d_S_oddSlotZero_7 (by decide) ?_
      refine lv_goto (tgt := 13) hx hb d_S_oddSlotZero_8 (by decide) ?_
      exact hJ _ _ _ ⟨by simp only [if_neg h1], hH⟩

def sp_S_beginFrame (c : Nat) (c2 : Nat) (G0 : Mem)  : Mem :=
  (if ((sp_F_endsHalf (wr (wr (wr G0 c 2 ((((((if ((if ((G0 c 1) &&& (1 : Int32)) = 1 then 1 else 0) : Int32) = 0 then ((sp_S_evenSlotZero c G0)) else ((sp_S_oddSlotZero c c2 G0))) : Int32) <<< ((24 : Int32) &&& 31)) ||| ((G0 (c + 1) 1) <<< ((16 : Int32) &&& 31))) ||| ((G0 (c + 1) 2) <<< ((8 : Int32) &&& 31))) ||| (G0 (c + 1) 3))) c 4 ((sp_F_checkOver (wr G0 c 2 ((((((if ((if ((G0 c 1) &&& (1 : Int32)) = 1 then 1 else 0) : Int32) = 0 then ((sp_S_evenSlotZero c G0)) else ((sp_S_oddSlotZero c c2 G0))) : Int32) <<< ((24 : Int32) &&& 31)) ||| ((G0 (c + 1) 1) <<< ((16 : Int32) &&& 31))) ||| ((G0 (c + 1) 2) <<< ((8 : Int32) &&& 31))) ||| (G0 (c + 1) 3))) (G0 c 4) ((if ((if ((G0 c 1) &&& (1 : Int32)) = 1 then 1 else 0) : Int32) = 0 then (((((((if ((if ((G0 c 1) &&& (1 : Int32)) = 1 then 1 else 0) : Int32) = 0 then ((sp_S_evenSlotZero c G0)) else ((sp_S_oddSlotZero c c2 G0))) : Int32) <<< ((24 : Int32) &&& 31)) ||| ((G0 (c + 1) 1) <<< ((16 : Int32) &&& 31))) ||| ((G0 (c + 1) 2) <<< ((8 : Int32) &&& 31))) ||| (G0 (c + 1) 3)) &&& (2147483647 : Int32)) else ((((((if ((if ((G0 c 1) &&& (1 : Int32)) = 1 then 1 else 0) : Int32) = 0 then ((sp_S_evenSlotZero c G0)) else ((sp_S_oddSlotZero c c2 G0))) : Int32) <<< ((24 : Int32) &&& 31)) ||| ((G0 (c + 1) 1) <<< ((16 : Int32) &&& 31))) ||| ((G0 (c + 1) 2) <<< ((8 : Int32) &&& 31))) ||| (G0 (c + 1) 3))) : Int32)))) c 3 0) (G0 c 1))) = 0 then (wr (wr (wr (wr G0 c 2 ((((((if ((if ((G0 c 1) &&& (1 : Int32)) = 1 then 1 else 0) : Int32) = 0 then ((sp_S_evenSlotZero c G0)) else ((sp_S_oddSlotZero c c2 G0))) : Int32) <<< ((24 : Int32) &&& 31)) ||| ((G0 (c + 1) 1) <<< ((16 : Int32) &&& 31))) ||| ((G0 (c + 1) 2) <<< ((8 : Int32) &&& 31))) ||| (G0 (c + 1) 3))) c 4 ((sp_F_checkOver (wr G0 c 2 ((((((if ((if ((G0 c 1) &&& (1 : Int32)) = 1 then 1 else 0) : Int32) = 0 then ((sp_S_evenSlotZero c G0)) else ((sp_S_oddSlotZero c c2 G0))) : Int32) <<< ((24 : Int32) &&& 31)) ||| ((G0 (c + 1) 1) <<< ((16 : Int32) &&& 31))) ||| ((G0 (c + 1) 2) <<< ((8 : Int32) &&& 31))) ||| (G0 (c + 1) 3))) (G0 c 4) ((if ((if ((G0 c 1) &&& (1 : Int32)) = 1 then 1 else 0) : Int32) = 0 then (((((((if ((if ((G0 c 1) &&& (1 : Int32)) = 1 then 1 else 0) : Int32) = 0 then ((sp_S_evenSlotZero c G0)) else ((sp_S_oddSlotZero c c2 G0))) : Int32) <<< ((24 : Int32) &&& 31)) ||| ((G0 (c + 1) 1) <<< ((16 : Int32) &&& 31))) ||| ((G0 (c + 1) 2) <<< ((8 : Int32) &&& 31))) ||| (G0 (c + 1) 3)) &&& (2147483647 : Int32)) else ((((((if ((if ((G0 c 1) &&& (1 : Int32)) = 1 then 1 else 0) : Int32) = 0 then ((sp_S_evenSlotZero c G0)) else ((sp_S_oddSlotZero c c2 G0))) : Int32) <<< ((24 : Int32) &&& 31)) ||| ((G0 (c + 1) 1) <<< ((16 : Int32) &&& 31))) ||| ((G0 (c + 1) 2) <<< ((8 : Int32) &&& 31))) ||| (G0 (c + 1) 3))) : Int32)))) c 3 0) c 1 (((G0 c 1) + 1) &&& (15 : Int32))) else (wr (wr (wr (wr (wr (wr G0 c 2 ((((((if ((if ((G0 c 1) &&& (1 : Int32)) = 1 then 1 else 0) : Int32) = 0 then ((sp_S_evenSlotZero c G0)) else ((sp_S_oddSlotZero c c2 G0))) : Int32) <<< ((24 : Int32) &&& 31)) ||| ((G0 (c + 1) 1) <<< ((16 : Int32) &&& 31))) ||| ((G0 (c + 1) 2) <<< ((8 : Int32) &&& 31))) ||| (G0 (c + 1) 3))) c 4 ((sp_F_checkOver (wr G0 c 2 ((((((if ((if ((G0 c 1) &&& (1 : Int32)) = 1 then 1 else 0) : Int32) = 0 then ((sp_S_evenSlotZero c G0)) else ((sp_S_oddSlotZero c c2 G0))) : Int32) <<< ((24 : Int32) &&& 31)) ||| ((G0 (c + 1) 1) <<< ((16 : Int32) &&& 31))) ||| ((G0 (c + 1) 2) <<< ((8 : Int32) &&& 31))) ||| (G0 (c + 1) 3))) (G0 c 4) ((if ((if ((G0 c 1) &&& (1 : Int32)) = 1 then 1 else 0) : Int32) = 0 then (((((((if ((if ((G0 c 1) &&& (1 : Int32)) = 1 then 1 else 0) : Int32) = 0 then ((sp_S_evenSlotZero c G0)) else ((sp_S_oddSlotZero c c2 G0))) : Int32) <<< ((24 : Int32) &&& 31)) ||| ((G0 (c + 1) 1) <<< ((16 : Int32) &&& 31))) ||| ((G0 (c + 1) 2) <<< ((8 : Int32) &&& 31))) ||| (G0 (c + 1) 3)) &&& (2147483647 : Int32)) else ((((((if ((if ((G0 c 1) &&& (1 : Int32)) = 1 then 1 else 0) : Int32) = 0 then ((sp_S_evenSlotZero c G0)) else ((sp_S_oddSlotZero c c2 G0))) : Int32) <<< ((24 : Int32) &&& 31)) ||| ((G0 (c + 1) 1) <<< ((16 : Int32) &&& 31))) ||| ((G0 (c + 1) 2) <<< ((8 : Int32) &&& 31))) ||| (G0 (c + 1) 3))) : Int32)))) c 3 0) c 5 ((sp_F_checkOver (wr G0 c 2 ((((((if ((if ((G0 c 1) &&& (1 : Int32)) = 1 then 1 else 0) : Int32) = 0 then ((sp_S_evenSlotZero c G0)) else ((sp_S_oddSlotZero c c2 G0))) : Int32) <<< ((24 : Int32) &&& 31)) ||| ((G0 (c + 1) 1) <<< ((16 : Int32) &&& 31))) ||| ((G0 (c + 1) 2) <<< ((8 : Int32) &&& 31))) ||| (G0 (c + 1) 3))) (G0 c 4) ((if ((if ((G0 c 1) &&& (1 : Int32)) = 1 then 1 else 0) : Int32) = 0 then (((((((if ((if ((G0 c 1) &&& (1 : Int32)) = 1 then 1 else 0) : Int32) = 0 then ((sp_S_evenSlotZero c G0)) else ((sp_S_oddSlotZero c c2 G0))) : Int32) <<< ((24 : Int32) &&& 31)) ||| ((G0 (c + 1) 1) <<< ((16 : Int32) &&& 31))) ||| ((G0 (c + 1) 2) <<< ((8 : Int32) &&& 31))) ||| (G0 (c + 1) 3)) &&& (2147483647 : Int32)) else ((((((if ((if ((G0 c 1) &&& (1 : Int32)) = 1 then 1 else 0) : Int32) = 0 then ((sp_S_evenSlotZero c G0)) else ((sp_S_oddSlotZero c c2 G0))) : Int32) <<< ((24 : Int32) &&& 31)) ||| ((G0 (c + 1) 1) <<< ((16 : Int32) &&& 31))) ||| ((G0 (c + 1) 2) <<< ((8 : Int32) &&& 31))) ||| (G0 (c + 1) 3))) : Int32)))) c 4 0) c 1 (((G0 c 1) + 1) &&& (15 : Int32))))
set_option maxHeartbeats 4000000 in
set_option maxRecDepth 100000 in
theorem c_S_beginFrame (l : Launch) (P : gP) (G0 : Mem) (c : Nat) (c2 : Nat)  (hc : kS c) (hc2 : kR c2) : gMv l y_S_beginFrame b_S_beginFrame 4 none ({ frames := 2, cells := 0, slots := 0, locals := 44 }) [.ref (gad P c), .ref (gad P c2)] P G0 (sp_S_beginFrame c c2 G0) := by
  refine Met.ofW (cc := b_S_beginFrame) (maxL := 4) (ret := none) (by decide) rfl ?_
  intro p e s m args below meth c0 s₁ B hml hv
  obtain ⟨rfl, hpre⟩ := hv
  obtain ⟨E, hH⟩ := gE_of B hml hpre
  replace E : gE p s m _ meth c0 P "FramedLine$Sender" b_S_beginFrame 4 none := E
  have hcU := hc
  unfold kS at hcU
  have hc2U := hc2
  unfold kR at hc2U
  have hx := E.1
  have hb := E.2.1
  have hl := lv_entry ([.ref (gad P c), .ref (gad P c2)]) (n := 4) (Nat.le_of_ble_eq_true rfl)
  rw [lg_entry_eq]
  generalize (lg_sl ([.ref (gad P c), .ref (gad P c2)]) ++ List.replicate (4 - (lg_sl ([.ref (gad P c), .ref (gad P c2)])).length) Slot.unset).toArray = ls at hl ⊢
  replace hl : lv_has ls 4 [(0, .ref (gad P c)), (1, .ref (gad P c2))] := hl
  have hsp : sp_S_beginFrame c c2 G0 = sp_S_beginFrame c c2 G0 := rfl
  refine lv_aload_n hx hb d_S_beginFrame_0 rfl (lv_at hl 0 rfl) ?_
  refine g_geti (v := (G0 c 1)) E hH (gc_S hc) cl_S 1 (by decide) lf_S_15 (fun _ => rfl) rfl d_S_beginFrame_1 ?_
  refine lv_iconst (v := 1) hx hb d_S_beginFrame_4 (by decide) ?_
  refine lv_iand hx hb d_S_beginFrame_5 ?_
  refine lv_iconst (v := 1) hx hb d_S_beginFrame_6 (by decide) ?_
  refine jn (α := Int32) (fun z H1 locs1 => z = ((if ((G0 c 1) &&& (1 : Int32)) = 1 then 1 else 0) : Int32) ∧ isB z ∧ gH P s G0 H1 locs1) (fun z => F0 m 15 ls (.int z :: [])) (fun z H locs h9 => ?_) (fun hJ => ?_)
  · obtain ⟨rfl, hz15, hH⟩ := h9
    refine lv_istore_n hx hb d_S_beginFrame_15 rfl hl (by decide) rfl (fun ls hl => ?_)
    refine lv_iload_n hx hb d_S_beginFrame_16 rfl (lv_at hl 0 rfl) ?_
    refine jn (α := Int32) (fun z H1 locs1 => z = ((if ((if ((G0 c 1) &&& (1 : Int32)) = 1 then 1 else 0) : Int32) = 0 then ((sp_S_evenSlotZero c G0)) else ((sp_S_oddSlotZero c c2 G0))) : Int32) ∧ gH P s G0 H1 locs1) (fun z => F0 m 32 ls (.int z :: [])) (fun z H locs h9 => ?_) (fun hJ => ?_)
    · obtain ⟨rfl, hH⟩ := h9
      refine lv_istore_n hx hb d_S_beginFrame_32 rfl hl (by decide) rfl (fun ls hl => ?_)
      refine lv_aload_n hx hb d_S_beginFrame_33 rfl (lv_at hl 2 rfl) ?_
      refine lv_iload_n hx hb d_S_beginFrame_34 rfl (lv_at hl 0 rfl) ?_
      refine lv_bipush (v := 24) hx hb d_S_beginFrame_35 (by decide) ?_
      refine lv_ishl hx hb d_S_beginFrame_37 ?_
      refine lv_aload_n hx hb d_S_beginFrame_38 rfl (lv_at hl 2 rfl) ?_
      refine g_get E hH (gc_S hc) cl_S 0 (by decide) lf_S_9 rfl d_S_beginFrame_39 ?_
      refine lv_iconst (v := 1) hx hb d_S_beginFrame_42 (by decide) ?_
      refine g_iaload (k := 1) (v := (G0 (c + 1) 1)) E hH (ga_I4 (kS_loaded hc)) (by unfold vp_in; decide) (by decide) rfl d_S_beginFrame_43 ?_
      refine lv_bipush (v := 16) hx hb d_S_beginFrame_44 (by decide) ?_
      refine lv_ishl hx hb d_S_beginFrame_46 ?_
      refine lv_ior hx hb d_S_beginFrame_47 ?_
      refine lv_aload_n hx hb d_S_beginFrame_48 rfl (lv_at hl 2 rfl) ?_
      refine g_get E hH (gc_S hc) cl_S 0 (by decide) lf_S_9 rfl d_S_beginFrame_49 ?_
      refine lv_iconst (v := 2) hx hb d_S_beginFrame_52 (by decide) ?_
      refine g_iaload (k := 2) (v := (G0 (c + 1) 2)) E hH (ga_I4 (kS_loaded hc)) (by unfold vp_in; decide) (by decide) rfl d_S_beginFrame_53 ?_
      refine lv_bipush (v := 8) hx hb d_S_beginFrame_54 (by decide) ?_
      refine lv_ishl hx hb d_S_beginFrame_56 ?_
      refine lv_ior hx hb d_S_beginFrame_57 ?_
      refine lv_aload_n hx hb d_S_beginFrame_58 rfl (lv_at hl 2 rfl) ?_
      refine g_get E hH (gc_S hc) cl_S 0 (by decide) lf_S_9 rfl d_S_beginFrame_59 ?_
      refine lv_iconst (v := 3) hx hb d_S_beginFrame_62 (by decide) ?_
      refine g_iaload (k := 3) (v := (G0 (c + 1) 3)) E hH (ga_I4 (kS_loaded hc)) (by unfold vp_in; decide) (by decide) rfl d_S_beginFrame_63 ?_
      refine lv_ior hx hb d_S_beginFrame_64 ?_
      refine g_puti E hH (gc_S hc) cl_S ct_S 2 (by decide) lf_S_19 rfl (by decide +kernel) (fun _ _ => rfl) (Nat.le_of_ble_eq_true rfl) d_S_beginFrame_65 (fun H locs hH => ?_)
      refine lv_aload_n hx hb d_S_beginFrame_68 rfl (lv_at hl 2 rfl) ?_
      refine lv_aload_n hx hb d_S_beginFrame_69 rfl (lv_at hl 2 rfl) ?_
      refine g_geti (v := (G0 c 4)) E hH (gc_S hc) cl_S 4 (by decide) lf_S_25 (fun _ => rfl) (wr_k _ _ _ _ (by decide)) d_S_beginFrame_70 ?_
      refine lv_iload_n hx hb d_S_beginFrame_73 rfl (lv_at hl 1 rfl) ?_
      refine jn (α := Int32) (fun z H1 locs1 => z = ((if ((if ((G0 c 1) &&& (1 : Int32)) = 1 then 1 else 0) : Int32) = 0 then (((((((if ((if ((G0 c 1) &&& (1 : Int32)) = 1 then 1 else 0) : Int32) = 0 then ((sp_S_evenSlotZero c G0)) else ((sp_S_oddSlotZero c c2 G0))) : Int32) <<< ((24 : Int32) &&& 31)) ||| ((G0 (c + 1) 1) <<< ((16 : Int32) &&& 31))) ||| ((G0 (c + 1) 2) <<< ((8 : Int32) &&& 31))) ||| (G0 (c + 1) 3)) &&& (2147483647 : Int32)) else ((((((if ((if ((G0 c 1) &&& (1 : Int32)) = 1 then 1 else 0) : Int32) = 0 then ((sp_S_evenSlotZero c G0)) else ((sp_S_oddSlotZero c c2 G0))) : Int32) <<< ((24 : Int32) &&& 31)) ||| ((G0 (c + 1) 1) <<< ((16 : Int32) &&& 31))) ||| ((G0 (c + 1) 2) <<< ((8 : Int32) &&& 31))) ||| (G0 (c + 1) 3))) : Int32) ∧ gH P s (wr G0 c 2 ((((((if ((if ((G0 c 1) &&& (1 : Int32)) = 1 then 1 else 0) : Int32) = 0 then ((sp_S_evenSlotZero c G0)) else ((sp_S_oddSlotZero c c2 G0))) : Int32) <<< ((24 : Int32) &&& 31)) ||| ((G0 (c + 1) 1) <<< ((16 : Int32) &&& 31))) ||| ((G0 (c + 1) 2) <<< ((8 : Int32) &&& 31))) ||| (G0 (c + 1) 3))) H1 locs1) (fun z => F0 m 91 ls (.int z :: .int (G0 c 4) :: .ref (gad P c) :: [])) (fun z H locs h9 => ?_) (fun hJ => ?_)
      · obtain ⟨rfl, hH⟩ := h9
        refine g_callSNri (As := [.int _, .int _]) E hH hl (c_F_checkOver l P _ _ _) lm_S_40 (Nat.le_of_ble_eq_true rfl) (Nat.le_of_ble_eq_true rfl) (Nat.le_of_ble_eq_true rfl) (Nat.le_of_ble_eq_true rfl) (Nat.le_of_ble_eq_true rfl) rfl rfl rfl rfl d_S_beginFrame_91 (fun H locs hH => ?_)
        refine g_puti E hH (gc_S hc) cl_S ct_S 4 (by decide) lf_S_25 rfl (by decide +kernel) (fun _ _ => rfl) (Nat.le_of_ble_eq_true rfl) d_S_beginFrame_94 (fun H locs hH => ?_)
        refine lv_aload_n hx hb d_S_beginFrame_97 rfl (lv_at hl 2 rfl) ?_
        refine lv_iconst (v := 0) hx hb d_S_beginFrame_98 (by decide) ?_
        refine g_puti E hH (gc_S hc) cl_S ct_S 3 (by decide) lf_S_22 rfl (by decide +kernel) (fun _ _ => rfl) (Nat.le_of_ble_eq_true rfl) d_S_beginFrame_99 (fun H locs hH => ?_)
        refine lv_aload_n hx hb d_S_beginFrame_102 rfl (lv_at hl 2 rfl) ?_
        refine g_geti (v := (G0 c 1)) E hH (gc_S hc) cl_S 1 (by decide) lf_S_15 (fun _ => rfl) ((wr_k _ _ _ _ (by decide)).trans ((wr_k _ _ _ _ (by decide)).trans (wr_k _ _ _ _ (by decide)))) d_S_beginFrame_103 ?_
        refine g_callSNrz (As := [.int _]) E hH hl (c_F_endsHalf l P _ _) lm_S_44 (Nat.le_of_ble_eq_true rfl) (Nat.le_of_ble_eq_true rfl) (Nat.le_of_ble_eq_true rfl) (Nat.le_of_ble_eq_true rfl) (Nat.le_of_ble_eq_true rfl) rfl rfl rfl rfl d_S_beginFrame_106 (fun H locs hH hz106 => ?_)
        refine lv_if_eq (tgt := 125) hx hb d_S_beginFrame_109 (by decide) (fun h1 => ?_) (fun h1 => ?_)
        · refine lv_aload_n hx hb d_S_beginFrame_125 rfl (lv_at hl 2 rfl) ?_
          refine lv_aload_n hx hb d_S_beginFrame_126 rfl (lv_at hl 2 rfl) ?_
          refine g_geti (v := (G0 c 1)) E hH (gc_S hc) cl_S 1 (by decide) lf_S_15 (fun _ => rfl) ((wr_k _ _ _ _ (by decide)).trans ((wr_k _ _ _ _ (by decide)).trans (wr_k _ _ _ _ (by decide)))) d_S_beginFrame_127 ?_
          refine lv_iconst (v := 1) hx hb d_S_beginFrame_130 (by decide) ?_
          refine lv_iadd hx hb d_S_beginFrame_131 ?_
          refine lv_bipush (v := 15) hx hb d_S_beginFrame_132 (by decide) ?_
          refine lv_iand hx hb d_S_beginFrame_134 ?_
          refine g_puti E hH (gc_S hc) cl_S ct_S 1 (by decide) lf_S_15 rfl (by decide +kernel) (fun _ _ => rfl) (Nat.le_of_ble_eq_true rfl) d_S_beginFrame_135 (fun H locs hH => ?_)
          exact g_vret E hH (hsp.trans (by simp only [sp_S_beginFrame, if_pos h1])) d_S_beginFrame_138
        · refine lv_aload_n hx hb d_S_beginFrame_112 rfl (lv_at hl 2 rfl) ?_
          refine lv_aload_n hx hb d_S_beginFrame_113 rfl (lv_at hl 2 rfl) ?_
          refine g_geti (v := ((sp_F_checkOver (wr G0 c 2 ((((((if ((if ((G0 c 1) &&& (1 : Int32)) = 1 then 1 else 0) : Int32) = 0 then ((sp_S_evenSlotZero c G0)) else ((sp_S_oddSlotZero c c2 G0))) : Int32) <<< ((24 : Int32) &&& 31)) ||| ((G0 (c + 1) 1) <<< ((16 : Int32) &&& 31))) ||| ((G0 (c + 1) 2) <<< ((8 : Int32) &&& 31))) ||| (G0 (c + 1) 3))) (G0 c 4) ((if ((if ((G0 c 1) &&& (1 : Int32)) = 1 then 1 else 0) : Int32) = 0 then (((((((if ((if ((G0 c 1) &&& (1 : Int32)) = 1 then 1 else 0) : Int32) = 0 then ((sp_S_evenSlotZero c G0)) else ((sp_S_oddSlotZero c c2 G0))) : Int32) <<< ((24 : Int32) &&& 31)) ||| ((G0 (c + 1) 1) <<< ((16 : Int32) &&& 31))) ||| ((G0 (c + 1) 2) <<< ((8 : Int32) &&& 31))) ||| (G0 (c + 1) 3)) &&& (2147483647 : Int32)) else ((((((if ((if ((G0 c 1) &&& (1 : Int32)) = 1 then 1 else 0) : Int32) = 0 then ((sp_S_evenSlotZero c G0)) else ((sp_S_oddSlotZero c c2 G0))) : Int32) <<< ((24 : Int32) &&& 31)) ||| ((G0 (c + 1) 1) <<< ((16 : Int32) &&& 31))) ||| ((G0 (c + 1) 2) <<< ((8 : Int32) &&& 31))) ||| (G0 (c + 1) 3))) : Int32)))) E hH (gc_S hc) cl_S 4 (by decide) lf_S_25 (fun _ => rfl) ((wr_k _ _ _ _ (by decide)).trans (wr_same _ _ _ _)) d_S_beginFrame_114 ?_
          refine g_puti E hH (gc_S hc) cl_S ct_S 5 (by decide) lf_S_28 rfl (by decide +kernel) (fun _ _ => rfl) (Nat.le_of_ble_eq_true rfl) d_S_beginFrame_117 (fun H locs hH => ?_)
          refine lv_aload_n hx hb d_S_beginFrame_120 rfl (lv_at hl 2 rfl) ?_
          refine lv_iconst (v := 0) hx hb d_S_beginFrame_121 (by decide) ?_
          refine g_puti E hH (gc_S hc) cl_S ct_S 4 (by decide) lf_S_25 rfl (by decide +kernel) (fun _ _ => rfl) (Nat.le_of_ble_eq_true rfl) d_S_beginFrame_122 (fun H locs hH => ?_)
          refine lv_aload_n hx hb d_S_beginFrame_125 rfl (lv_at hl 2 rfl) ?_
          refine lv_aload_n hx hb d_S_beginFrame_126 rfl (lv_at hl 2 rfl) ?_
          refine g_geti (v := (G0 c 1)) E hH (gc_S hc) cl_S 1 (by decide) lf_S_15 (fun _ => rfl) ((wr_k _ _ _ _ (by decide)).trans ((wr_k _ _ _ _ (by decide)).trans ((wr_k _ _ _ _ (by decide)).trans ((wr_k _ _ _ _ (by decide)).trans (wr_k _ _ _ _ (by decide)))))) d_S_beginFrame_127 ?_
          refine lv_iconst (v := 1) hx hb d_S_beginFrame_130 (by decide) ?_
          refine lv_iadd hx hb d_S_beginFrame_131 ?_
          refine lv_bipush (v := 15) hx hb d_S_beginFrame_132 (by decide) ?_
          refine lv_iand hx hb d_S_beginFrame_134 ?_
          refine g_puti E hH (gc_S hc) cl_S ct_S 1 (by decide) lf_S_15 rfl (by decide +kernel) (fun _ _ => rfl) (Nat.le_of_ble_eq_true rfl) d_S_beginFrame_135 (fun H locs hH => ?_)
          exact g_vret E hH (hsp.trans (by simp only [sp_S_beginFrame, if_neg h1])) d_S_beginFrame_138
      · refine lv_if_eq (tgt := 84) hx hb d_S_beginFrame_74 (by decide) (fun h2 => ?_) (fun h2 => ?_)
        · refine lv_aload_n hx hb d_S_beginFrame_84 rfl (lv_at hl 2 rfl) ?_
          refine g_geti (v := ((((((if ((if ((G0 c 1) &&& (1 : Int32)) = 1 then 1 else 0) : Int32) = 0 then ((sp_S_evenSlotZero c G0)) else ((sp_S_oddSlotZero c c2 G0))) : Int32) <<< ((24 : Int32) &&& 31)) ||| ((G0 (c + 1) 1) <<< ((16 : Int32) &&& 31))) ||| ((G0 (c + 1) 2) <<< ((8 : Int32) &&& 31))) ||| (G0 (c + 1) 3))) E hH (gc_S hc) cl_S 2 (by decide) lf_S_19 (fun _ => rfl) (wr_same _ _ _ _) d_S_beginFrame_85 ?_
          refine lv_ldc (v := 2147483647) hx hb E.2.2.2.2.1 (E.2.2.2.2.2.1 _ lc_S_39) d_S_beginFrame_88 ?_
          refine lv_iand hx hb d_S_beginFrame_90 ?_
          exact hJ _ _ _ ⟨by simp only [if_pos h2], hH⟩
        · refine lv_aload_n hx hb d_S_beginFrame_77 rfl (lv_at hl 2 rfl) ?_
          refine g_geti (v := ((((((if ((if ((G0 c 1) &&& (1 : Int32)) = 1 then 1 else 0) : Int32) = 0 then ((sp_S_evenSlotZero c G0)) else ((sp_S_oddSlotZero c c2 G0))) : Int32) <<< ((24 : Int32) &&& 31)) ||| ((G0 (c + 1) 1) <<< ((16 : Int32) &&& 31))) ||| ((G0 (c + 1) 2) <<< ((8 : Int32) &&& 31))) ||| (G0 (c + 1) 3))) E hH (gc_S hc) cl_S 2 (by decide) lf_S_19 (fun _ => rfl) (wr_same _ _ _ _) d_S_beginFrame_78 ?_
          refine lv_goto (tgt := 91) hx hb d_S_beginFrame_81 (by decide) ?_
          exact hJ _ _ _ ⟨by simp only [if_neg h2], hH⟩
    · refine lv_if_eq (tgt := 28) hx hb d_S_beginFrame_17 (by decide) (fun h3 => ?_) (fun h3 => ?_)
      · refine lv_aload_n hx hb d_S_beginFrame_28 rfl (lv_at hl 1 rfl) ?_
        refine g_callVri (As := []) E hH hl (c_S_evenSlotZero l P _ c hc) lm_S_35 (gc_S hc) cl_S (Nat.le_of_ble_eq_true rfl) (Nat.le_of_ble_eq_true rfl) (Nat.le_of_ble_eq_true rfl) (Nat.le_of_ble_eq_true rfl) (Nat.le_of_ble_eq_true rfl) rfl rfl rfl rfl d_S_beginFrame_29 (fun H locs hH => ?_)
        exact hJ _ _ _ ⟨by simp only [if_pos h3], hH⟩
      · refine lv_aload_n hx hb d_S_beginFrame_20 rfl (lv_at hl 1 rfl) ?_
        refine lv_aload_n hx hb d_S_beginFrame_21 rfl (lv_at hl 2 rfl) ?_
        refine g_callVri (As := [.ref (gad P c2)]) E hH hl (c_S_oddSlotZero l P _ c c2 hc hc2) lm_S_31 (gc_S hc) cl_S (Nat.le_of_ble_eq_true rfl) (Nat.le_of_ble_eq_true rfl) (Nat.le_of_ble_eq_true rfl) (Nat.le_of_ble_eq_true rfl) (Nat.le_of_ble_eq_true rfl) rfl rfl rfl rfl d_S_beginFrame_22 (fun H locs hH => ?_)
        refine lv_goto (tgt := 32) hx hb d_S_beginFrame_25 (by decide) ?_
        exact hJ _ _ _ ⟨by simp only [if_neg h3], hH⟩
  · refine lv_icmp_ne (tgt := 14) hx hb d_S_beginFrame_7 (by decide) (fun h4 => ?_) (fun h4 => ?_)
    · refine lv_iconst (v := 0) hx hb d_S_beginFrame_14 (by decide) ?_
      exact hJ _ _ _ ⟨by simp only [if_neg h4], isB_0, hH⟩
    · refine lv_iconst (v := 1) hx hb d_S_beginFrame_10 (by decide) ?_
      refine lv_goto (tgt := 15) hx hb d_S_beginFrame_11 (by decide) ?_
      exact hJ _ _ _ ⟨by simp only [if_pos h4], isB_1, hH⟩

def sp_N_send (c : Nat) (G0 : Mem)  : Int32 × Mem :=
  (if ((sp_S_isBetweenFrames (c + 1) G0)) = 0 then (((sp_E_symbolBehind (c + 3) (((sp_S_nextBit (c + 1) G0)).2) (((sp_S_nextBit (c + 1) G0)).1))).1, ((sp_E_symbolBehind (c + 3) (((sp_S_nextBit (c + 1) G0)).2) (((sp_S_nextBit (c + 1) G0)).1))).2) else (((sp_E_symbolBehind (c + 3) (((sp_S_nextBit (c + 1) (sp_S_beginFrame (c + 1) (c + 8) G0))).2) (((sp_S_nextBit (c + 1) (sp_S_beginFrame (c + 1) (c + 8) G0))).1))).1, ((sp_E_symbolBehind (c + 3) (((sp_S_nextBit (c + 1) (sp_S_beginFrame (c + 1) (c + 8) G0))).2) (((sp_S_nextBit (c + 1) (sp_S_beginFrame (c + 1) (c + 8) G0))).1))).2))
set_option maxHeartbeats 4000000 in
set_option maxRecDepth 100000 in
theorem c_N_send (l : Launch) (P : gP) (G0 : Mem) (c : Nat)  (hc : kN c) : gMi l y_N_send b_N_send 1 (some .int) ({ frames := 3, cells := 0, slots := 0, locals := 67 }) [.ref (gad P c)] P G0 (sp_N_send c G0) := by
  refine Met.ofW (cc := b_N_send) (maxL := 1) (ret := (some .int)) (by decide) rfl ?_
  intro p e s m args below meth c0 s₁ B hml hv
  obtain ⟨rfl, hpre⟩ := hv
  obtain ⟨E, hH⟩ := gE_of B hml hpre
  replace E : gE p s m _ meth c0 P "FramedLine$End" b_N_send 1 (some .int) := E
  have hcU := hc
  unfold kN at hcU
  have hx := E.1
  have hb := E.2.1
  have hl := lv_entry ([.ref (gad P c)]) (n := 1) (Nat.le_of_ble_eq_true rfl)
  rw [lg_entry_eq]
  generalize (lg_sl ([.ref (gad P c)]) ++ List.replicate (1 - (lg_sl ([.ref (gad P c)])).length) Slot.unset).toArray = ls at hl ⊢
  replace hl : lv_has ls 1 [(0, .ref (gad P c))] := hl
  have hsp : sp_N_send c G0 = sp_N_send c G0 := rfl
  refine lv_aload_n hx hb d_N_send_0 rfl (lv_at hl 0 rfl) ?_
  refine g_get E hH (gc_N hc) cl_N 0 (by decide) lf_N_12 rfl d_N_send_1 ?_
  refine g_callVrz (As := []) E hH hl (c_S_isBetweenFrames l P _ (c + 1) (kN_sender hc)) lm_N_46 (gc_S (kN_sender hc)) cl_S (Nat.le_of_ble_eq_true rfl) (Nat.le_of_ble_eq_true rfl) (Nat.le_of_ble_eq_true rfl) (Nat.le_of_ble_eq_true rfl) (Nat.le_of_ble_eq_true rfl) rfl rfl rfl rfl d_N_send_4 (fun H locs hH hz4 => ?_)
  refine lv_if_eq (tgt := 21) hx hb d_N_send_7 (by decide) (fun h1 => ?_) (fun h1 => ?_)
  · refine lv_aload_n hx hb d_N_send_21 rfl (lv_at hl 0 rfl) ?_
    refine g_get E hH (gc_N hc) cl_N 1 (by decide) lf_N_21 rfl d_N_send_22 ?_
    refine lv_aload_n hx hb d_N_send_25 rfl (lv_at hl 0 rfl) ?_
    refine g_get E hH (gc_N hc) cl_N 0 (by decide) lf_N_12 rfl d_N_send_26 ?_
    refine g_callVi (As := []) E hH hl (c_S_nextBit l P _ (c + 1) (kN_sender hc)) lm_N_54 (gc_S (kN_sender hc)) cl_S (Nat.le_of_ble_eq_true rfl) (Nat.le_of_ble_eq_true rfl) (Nat.le_of_ble_eq_true rfl) (Nat.le_of_ble_eq_true rfl) (Nat.le_of_ble_eq_true rfl) rfl rfl rfl rfl d_N_send_29 (fun H locs hH => ?_)
    refine g_callVi (As := [.int _]) E hH hl (c_E_symbolBehind l P _ (c + 3) _ (kN_encoder hc)) lm_N_58 (gc_E (kN_encoder hc)) cl_E (Nat.le_of_ble_eq_true rfl) (Nat.le_of_ble_eq_true rfl) (Nat.le_of_ble_eq_true rfl) (Nat.le_of_ble_eq_true rfl) (Nat.le_of_ble_eq_true rfl) rfl rfl rfl rfl d_N_send_32 (fun H locs hH => ?_)
    exact g_iret E hH (hsp.trans (by simp only [sp_N_send, if_pos h1])) d_N_send_35
  · refine lv_aload_n hx hb d_N_send_10 rfl (lv_at hl 0 rfl) ?_
    refine g_get E hH (gc_N hc) cl_N 0 (by decide) lf_N_12 rfl d_N_send_11 ?_
    refine lv_aload_n hx hb d_N_send_14 rfl (lv_at hl 0 rfl) ?_
    refine g_get E hH (gc_N hc) cl_N 4 (by decide) lf_N_42 rfl d_N_send_15 ?_
    refine g_callVv (As := [.ref (gad P (c + 8))]) E hH hl (c_S_beginFrame l P _ (c + 1) (c + 8) (kN_sender hc) (kN_receiver hc)) lm_N_50 (gc_S (kN_sender hc)) cl_S (Nat.le_of_ble_eq_true rfl) (Nat.le_of_ble_eq_true rfl) (Nat.le_of_ble_eq_true rfl) (Nat.le_of_ble_eq_true rfl) (Nat.le_of_ble_eq_true rfl) rfl rfl rfl rfl d_N_send_18 (fun H locs hH => ?_)
    refine lv_aload_n hx hb d_N_send_21 rfl (lv_at hl 0 rfl) ?_
    refine g_get E hH (gc_N hc) cl_N 1 (by decide) lf_N_21 rfl d_N_send_22 ?_
    refine lv_aload_n hx hb d_N_send_25 rfl (lv_at hl 0 rfl) ?_
    refine g_get E hH (gc_N hc) cl_N 0 (by decide) lf_N_12 rfl d_N_send_26 ?_
    refine g_callVi (As := []) E hH hl (c_S_nextBit l P _ (c + 1) (kN_sender hc)) lm_N_54 (gc_S (kN_sender hc)) cl_S (Nat.le_of_ble_eq_true rfl) (Nat.le_of_ble_eq_true rfl) (Nat.le_of_ble_eq_true rfl) (Nat.le_of_ble_eq_true rfl) (Nat.le_of_ble_eq_true rfl) rfl rfl rfl rfl d_N_send_29 (fun H locs hH => ?_)
    refine g_callVi (As := [.int _]) E hH hl (c_E_symbolBehind l P _ (c + 3) _ (kN_encoder hc)) lm_N_58 (gc_E (kN_encoder hc)) cl_E (Nat.le_of_ble_eq_true rfl) (Nat.le_of_ble_eq_true rfl) (Nat.le_of_ble_eq_true rfl) (Nat.le_of_ble_eq_true rfl) (Nat.le_of_ble_eq_true rfl) rfl rfl rfl rfl d_N_send_32 (fun H locs hH => ?_)
    exact g_iret E hH (hsp.trans (by simp only [sp_N_send, if_neg h1])) d_N_send_35

def sp_A_doubleNext (c : Nat) (G0 : Mem)  : Int32 × Mem :=
  (((if (zb (G0 c 3)) = 0 then 1 else 0) : Int32), (wr G0 c 3 1))
set_option maxHeartbeats 4000000 in
set_option maxRecDepth 100000 in
theorem c_A_doubleNext (l : Launch) (P : gP) (G0 : Mem) (c : Nat)  (hc : kA c) : gMz l y_A_doubleNext b_A_doubleNext 2 (some .boolean) ({ frames := 0, cells := 0, slots := 0, locals := 0 }) [.ref (gad P c)] P G0 (sp_A_doubleNext c G0) := by
  refine Met.ofW (cc := b_A_doubleNext) (maxL := 2) (ret := (some .boolean)) (by decide) rfl ?_
  intro p e s m args below meth c0 s₁ B hml hv
  obtain ⟨rfl, hpre⟩ := hv
  obtain ⟨E, hH⟩ := gE_of B hml hpre
  replace E : gE p s m _ meth c0 P "FramedLine$Arrivals" b_A_doubleNext 2 (some .boolean) := E
  have hcU := hc
  unfold kA at hcU
  have hx := E.1
  have hb := E.2.1
  have hl := lv_entry ([.ref (gad P c)]) (n := 2) (Nat.le_of_ble_eq_true rfl)
  rw [lg_entry_eq]
  generalize (lg_sl ([.ref (gad P c)]) ++ List.replicate (2 - (lg_sl ([.ref (gad P c)])).length) Slot.unset).toArray = ls at hl ⊢
  replace hl : lv_has ls 2 [(0, .ref (gad P c))] := hl
  have hsp : sp_A_doubleNext c G0 = sp_A_doubleNext c G0 := rfl
  refine lv_aload_n hx hb d_A_doubleNext_0 rfl (lv_at hl 0 rfl) ?_
  refine g_getz (v := (G0 c 3)) E hH (gc_A hc) cl_A 3 (by decide) lf_A_22 (fun _ => rfl) rfl d_A_doubleNext_1 ?_
  refine jn (α := Int32) (fun z H1 locs1 => z = ((if (zb (G0 c 3)) = 0 then 1 else 0) : Int32) ∧ isB z ∧ gH P s G0 H1 locs1) (fun z => F0 m 12 ls (.int z :: [])) (fun z H locs h9 => ?_) (fun hJ => ?_)
  · obtain ⟨rfl, hz12, hH⟩ := h9
    refine lv_istore_n hx hb d_A_doubleNext_12 rfl hl (by decide) rfl (fun ls hl => ?_)
    refine lv_aload_n hx hb d_A_doubleNext_13 rfl (lv_at hl 1 rfl) ?_
    refine lv_iconst (v := 1) hx hb d_A_doubleNext_14 (by decide) ?_
    refine g_putz E hH (gc_A hc) cl_A ct_A 3 (by decide) lf_A_22 rfl (by decide +kernel) (set_A3 _ _) isB_1 (Nat.le_of_ble_eq_true rfl) d_A_doubleNext_15 (fun H locs hH => ?_)
    refine lv_iload_n hx hb d_A_doubleNext_18 rfl (lv_at hl 0 rfl) ?_
    exact g_zret E hH (hsp.trans (by rw [sp_A_doubleNext])) hz12 d_A_doubleNext_19
  · refine lv_if_ne (tgt := 11) hx hb d_A_doubleNext_4 (by decide) (fun h1 => ?_) (fun h1 => ?_)
    · refine lv_iconst (v := 0) hx hb d_A_doubleNext_11 (by decide) ?_
      exact hJ _ _ _ ⟨by simp only [if_neg h1], isB_0, hH⟩
    · refine lv_iconst (v := 1) hx hb d_A_doubleNext_7 (by decide) ?_
      refine lv_goto (tgt := 12) hx hb d_A_doubleNext_8 (by decide) ?_
      exact hJ _ _ _ ⟨by simp only [if_pos h1], isB_1, hH⟩

def sp_A_comings (c : Nat) (G0 : Mem)  : Int32 × Mem :=
  (((if (zb (G0 c 3)) = 0 then 1 else 2) : Int32), (wr G0 c 3 0))
set_option maxHeartbeats 4000000 in
set_option maxRecDepth 100000 in
theorem c_A_comings (l : Launch) (P : gP) (G0 : Mem) (c : Nat)  (hc : kA c) : gMi l y_A_comings b_A_comings 2 (some .int) ({ frames := 0, cells := 0, slots := 0, locals := 0 }) [.ref (gad P c)] P G0 (sp_A_comings c G0) := by
  refine Met.ofW (cc := b_A_comings) (maxL := 2) (ret := (some .int)) (by decide) rfl ?_
  intro p e s m args below meth c0 s₁ B hml hv
  obtain ⟨rfl, hpre⟩ := hv
  obtain ⟨E, hH⟩ := gE_of B hml hpre
  replace E : gE p s m _ meth c0 P "FramedLine$Arrivals" b_A_comings 2 (some .int) := E
  have hcU := hc
  unfold kA at hcU
  have hx := E.1
  have hb := E.2.1
  have hl := lv_entry ([.ref (gad P c)]) (n := 2) (Nat.le_of_ble_eq_true rfl)
  rw [lg_entry_eq]
  generalize (lg_sl ([.ref (gad P c)]) ++ List.replicate (2 - (lg_sl ([.ref (gad P c)])).length) Slot.unset).toArray = ls at hl ⊢
  replace hl : lv_has ls 2 [(0, .ref (gad P c))] := hl
  have hsp : sp_A_comings c G0 = sp_A_comings c G0 := rfl
  refine lv_aload_n hx hb d_A_comings_0 rfl (lv_at hl 0 rfl) ?_
  refine g_getz (v := (G0 c 3)) E hH (gc_A hc) cl_A 3 (by decide) lf_A_22 (fun _ => rfl) rfl d_A_comings_1 ?_
  refine jn (α := Int32) (fun z H1 locs1 => z = ((if (zb (G0 c 3)) = 0 then 1 else 2) : Int32) ∧ gH P s G0 H1 locs1) (fun z => F0 m 12 ls (.int z :: [])) (fun z H locs h9 => ?_) (fun hJ => ?_)
  · obtain ⟨rfl, hH⟩ := h9
    refine lv_istore_n hx hb d_A_comings_12 rfl hl (by decide) rfl (fun ls hl => ?_)
    refine lv_aload_n hx hb d_A_comings_13 rfl (lv_at hl 1 rfl) ?_
    refine lv_iconst (v := 0) hx hb d_A_comings_14 (by decide) ?_
    refine g_putz E hH (gc_A hc) cl_A ct_A 3 (by decide) lf_A_22 rfl (by decide +kernel) (set_A3 _ _) isB_0 (Nat.le_of_ble_eq_true rfl) d_A_comings_15 (fun H locs hH => ?_)
    refine lv_iload_n hx hb d_A_comings_18 rfl (lv_at hl 0 rfl) ?_
    exact g_iret E hH (hsp.trans (by rw [sp_A_comings])) d_A_comings_19
  · refine lv_if_eq (tgt := 11) hx hb d_A_comings_4 (by decide) (fun h1 => ?_) (fun h1 => ?_)
    · refine lv_iconst (v := 1) hx hb d_A_comings_11 (by decide) ?_
      exact hJ _ _ _ ⟨by simp only [if_pos h1], hH⟩
    · refine lv_iconst (v := 2) hx hb d_A_comings_7 (by decide) ?_
      refine lv_goto (tgt := 12) hx hb d_A_comings_8 (by decide) ?_
      exact hJ _ _ _ ⟨by simp only [if_neg h1], hH⟩
end
