section
-- ===== PART A: goes FIRST, ahead of the names: the tables' words, and 'selects' of the private methods out of them =====
/-- a private method of a class that the tables say can be made, by its rows of tables_1 -/
def lw_okq (q : MethodName × Nat) : Prop := (q.1.cls ≠ "java/lang/invoke/MethodHandle" ∧ q.1.cls ≠ "java/lang/invoke/VarHandle") ∧ Cond.instantiable q.1.cls q.2 ∈ tables_1 ∧ Cond.privateMethod q.1 ∈ tables_1 ∧ Cond.instanceMethod q.1 ∈ tables_1
theorem lw_p0 : lw_okq (⟨"FramedLine", "endOf", "(I)LFramedLine$End;"⟩, 3) := ⟨⟨by decide +kernel, by decide +kernel⟩, List.mem_of_getElem? (i := 18) (by decide +kernel), List.mem_of_getElem? (i := 266) (by decide +kernel), List.mem_of_getElem? (i := 267) (by decide +kernel)⟩
theorem lw_p1 : lw_okq (⟨"java/lang/Throwable", "fillInStackTrace", "(I)Ljava/lang/Throwable;"⟩, 6) := ⟨⟨by decide +kernel, by decide +kernel⟩, List.mem_of_getElem? (i := 310) (by decide +kernel), List.mem_of_getElem? (i := 308) (by decide +kernel), List.mem_of_getElem? (i := 309) (by decide +kernel)⟩
theorem lw_p2 : lw_okq (⟨"FramedLine$Arrivals", "placeOf", "(I)I"⟩, 4) := ⟨⟨by decide +kernel, by decide +kernel⟩, List.mem_of_getElem? (i := 83) (by decide +kernel), List.mem_of_getElem? (i := 356) (by decide +kernel), List.mem_of_getElem? (i := 357) (by decide +kernel)⟩
theorem lw_p3 : lw_okq (⟨"FramedLine$Sender", "oddSlotZero", "(LFramedLine$Receiver;)I"⟩, 6) := ⟨⟨by decide +kernel, by decide +kernel⟩, List.mem_of_getElem? (i := 32) (by decide +kernel), List.mem_of_getElem? (i := 406) (by decide +kernel), List.mem_of_getElem? (i := 407) (by decide +kernel)⟩
theorem lw_p4 : lw_okq (⟨"FramedLine$Sender", "firstBitOfOdd", "(LFramedLine$Rounds;)I"⟩, 6) := ⟨⟨by decide +kernel, by decide +kernel⟩, List.mem_of_getElem? (i := 32) (by decide +kernel), List.mem_of_getElem? (i := 416) (by decide +kernel), List.mem_of_getElem? (i := 417) (by decide +kernel)⟩
theorem lw_p5 : lw_okq (⟨"FramedLine$Sender", "evenSlotZero", "()I"⟩, 6) := ⟨⟨by decide +kernel, by decide +kernel⟩, List.mem_of_getElem? (i := 32) (by decide +kernel), List.mem_of_getElem? (i := 420) (by decide +kernel), List.mem_of_getElem? (i := 421) (by decide +kernel)⟩
theorem lw_p6 : lw_okq (⟨"FramedLine$Encoder", "pulseOfOne", "()I"⟩, 6) := ⟨⟨by decide +kernel, by decide +kernel⟩, List.mem_of_getElem? (i := 58) (by decide +kernel), List.mem_of_getElem? (i := 439) (by decide +kernel), List.mem_of_getElem? (i := 440) (by decide +kernel)⟩
theorem lw_p7 : lw_okq (⟨"FramedLine$Encoder", "symbolOfZero", "()I"⟩, 6) := ⟨⟨by decide +kernel, by decide +kernel⟩, List.mem_of_getElem? (i := 58) (by decide +kernel), List.mem_of_getElem? (i := 443) (by decide +kernel), List.mem_of_getElem? (i := 444) (by decide +kernel)⟩
theorem lw_p8 : lw_okq (⟨"FramedLine$Decoder", "takeZero", "()V"⟩, 7) := ⟨⟨by decide +kernel, by decide +kernel⟩, List.mem_of_getElem? (i := 103) (by decide +kernel), List.mem_of_getElem? (i := 463) (by decide +kernel), List.mem_of_getElem? (i := 464) (by decide +kernel)⟩
theorem lw_p9 : lw_okq (⟨"FramedLine$Decoder", "takePulse", "(I)V"⟩, 7) := ⟨⟨by decide +kernel, by decide +kernel⟩, List.mem_of_getElem? (i := 103) (by decide +kernel), List.mem_of_getElem? (i := 467) (by decide +kernel), List.mem_of_getElem? (i := 468) (by decide +kernel)⟩
theorem lw_p10 : lw_okq (⟨"FramedLine$Decoder", "takeV", "(I)V"⟩, 7) := ⟨⟨by decide +kernel, by decide +kernel⟩, List.mem_of_getElem? (i := 103) (by decide +kernel), List.mem_of_getElem? (i := 471) (by decide +kernel), List.mem_of_getElem? (i := 472) (by decide +kernel)⟩
theorem lw_p11 : lw_okq (⟨"FramedLine$Receiver", "search", "()V"⟩, 10) := ⟨⟨by decide +kernel, by decide +kernel⟩, List.mem_of_getElem? (i := 133) (by decide +kernel), List.mem_of_getElem? (i := 479) (by decide +kernel), List.mem_of_getElem? (i := 480) (by decide +kernel)⟩
theorem lw_p12 : lw_okq (⟨"FramedLine$Receiver", "wordStands", "()Z"⟩, 10) := ⟨⟨by decide +kernel, by decide +kernel⟩, List.mem_of_getElem? (i := 133) (by decide +kernel), List.mem_of_getElem? (i := 483) (by decide +kernel), List.mem_of_getElem? (i := 484) (by decide +kernel)⟩
theorem lw_p13 : lw_okq (⟨"FramedLine$Receiver", "enter", "(LFramedLine$State;)V"⟩, 10) := ⟨⟨by decide +kernel, by decide +kernel⟩, List.mem_of_getElem? (i := 133) (by decide +kernel), List.mem_of_getElem? (i := 489) (by decide +kernel), List.mem_of_getElem? (i := 490) (by decide +kernel)⟩
theorem lw_p14 : lw_okq (⟨"FramedLine$Receiver", "tryWord", "(I)V"⟩, 10) := ⟨⟨by decide +kernel, by decide +kernel⟩, List.mem_of_getElem? (i := 133) (by decide +kernel), List.mem_of_getElem? (i := 493) (by decide +kernel), List.mem_of_getElem? (i := 494) (by decide +kernel)⟩
theorem lw_p15 : lw_okq (⟨"FramedLine$Receiver", "align", "()V"⟩, 10) := ⟨⟨by decide +kernel, by decide +kernel⟩, List.mem_of_getElem? (i := 133) (by decide +kernel), List.mem_of_getElem? (i := 497) (by decide +kernel), List.mem_of_getElem? (i := 498) (by decide +kernel)⟩
def lw_privs_1 : List (MethodName × Nat) := [(⟨"FramedLine", "endOf", "(I)LFramedLine$End;"⟩, 3), (⟨"java/lang/Throwable", "fillInStackTrace", "(I)Ljava/lang/Throwable;"⟩, 6), (⟨"FramedLine$Arrivals", "placeOf", "(I)I"⟩, 4), (⟨"FramedLine$Sender", "oddSlotZero", "(LFramedLine$Receiver;)I"⟩, 6), (⟨"FramedLine$Sender", "firstBitOfOdd", "(LFramedLine$Rounds;)I"⟩, 6), (⟨"FramedLine$Sender", "evenSlotZero", "()I"⟩, 6), (⟨"FramedLine$Encoder", "pulseOfOne", "()I"⟩, 6), (⟨"FramedLine$Encoder", "symbolOfZero", "()I"⟩, 6), (⟨"FramedLine$Decoder", "takeZero", "()V"⟩, 7), (⟨"FramedLine$Decoder", "takePulse", "(I)V"⟩, 7), (⟨"FramedLine$Decoder", "takeV", "(I)V"⟩, 7), (⟨"FramedLine$Receiver", "search", "()V"⟩, 10), (⟨"FramedLine$Receiver", "wordStands", "()Z"⟩, 10), (⟨"FramedLine$Receiver", "enter", "(LFramedLine$State;)V"⟩, 10), (⟨"FramedLine$Receiver", "tryWord", "(I)V"⟩, 10), (⟨"FramedLine$Receiver", "align", "()V"⟩, 10)]
theorem lw_r1 : ∀ q ∈ lw_privs_1, lw_okq q := List.forall_mem_cons.mpr ⟨lw_p0, List.forall_mem_cons.mpr ⟨lw_p1, List.forall_mem_cons.mpr ⟨lw_p2, List.forall_mem_cons.mpr ⟨lw_p3, List.forall_mem_cons.mpr ⟨lw_p4, List.forall_mem_cons.mpr ⟨lw_p5, List.forall_mem_cons.mpr ⟨lw_p6, List.forall_mem_cons.mpr ⟨lw_p7, List.forall_mem_cons.mpr ⟨lw_p8, List.forall_mem_cons.mpr ⟨lw_p9, List.forall_mem_cons.mpr ⟨lw_p10, List.forall_mem_cons.mpr ⟨lw_p11, List.forall_mem_cons.mpr ⟨lw_p12, List.forall_mem_cons.mpr ⟨lw_p13, List.forall_mem_cons.mpr ⟨lw_p14, List.forall_mem_cons.mpr ⟨lw_p15, fun _ h => absurd h List.not_mem_nil⟩⟩⟩⟩⟩⟩⟩⟩⟩⟩⟩⟩⟩⟩⟩⟩
theorem lw_p16 : lw_okq (⟨"FramedLine$Receiver", "complete", "()V"⟩, 10) := ⟨⟨by decide +kernel, by decide +kernel⟩, List.mem_of_getElem? (i := 133) (by decide +kernel), List.mem_of_getElem? (i := 501) (by decide +kernel), List.mem_of_getElem? (i := 502) (by decide +kernel)⟩
theorem lw_p17 : lw_okq (⟨"FramedLine$Rounds", "findNumber", "(Z)V"⟩, 13) := ⟨⟨by decide +kernel, by decide +kernel⟩, List.mem_of_getElem? (i := 139) (by decide +kernel), List.mem_of_getElem? (i := 513) (by decide +kernel), List.mem_of_getElem? (i := 514) (by decide +kernel)⟩
theorem lw_p18 : lw_okq (⟨"FramedLine$Rounds", "judgeRoundWord", "()V"⟩, 13) := ⟨⟨by decide +kernel, by decide +kernel⟩, List.mem_of_getElem? (i := 139) (by decide +kernel), List.mem_of_getElem? (i := 519) (by decide +kernel), List.mem_of_getElem? (i := 520) (by decide +kernel)⟩
theorem lw_p19 : lw_okq (⟨"FramedLine$Rounds", "forgetNumber", "()V"⟩, 13) := ⟨⟨by decide +kernel, by decide +kernel⟩, List.mem_of_getElem? (i := 139) (by decide +kernel), List.mem_of_getElem? (i := 523) (by decide +kernel), List.mem_of_getElem? (i := 524) (by decide +kernel)⟩
theorem lw_p20 : lw_okq (⟨"FramedLine$Rounds", "endHalf", "()V"⟩, 13) := ⟨⟨by decide +kernel, by decide +kernel⟩, List.mem_of_getElem? (i := 139) (by decide +kernel), List.mem_of_getElem? (i := 528) (by decide +kernel), List.mem_of_getElem? (i := 529) (by decide +kernel)⟩
theorem lw_p21 : lw_okq (⟨"FramedLine$Rounds", "judgeHalfBefore", "()V"⟩, 13) := ⟨⟨by decide +kernel, by decide +kernel⟩, List.mem_of_getElem? (i := 139) (by decide +kernel), List.mem_of_getElem? (i := 532) (by decide +kernel), List.mem_of_getElem? (i := 533) (by decide +kernel)⟩
theorem lw_p22 : lw_okq (⟨"FramedLine$Receiver", "lookAtWord", "()V"⟩, 10) := ⟨⟨by decide +kernel, by decide +kernel⟩, List.mem_of_getElem? (i := 133) (by decide +kernel), List.mem_of_getElem? (i := 536) (by decide +kernel), List.mem_of_getElem? (i := 537) (by decide +kernel)⟩
theorem lw_p23 : lw_okq (⟨"FramedLineModel", "said", "(II)I"⟩, 44) := ⟨⟨by decide +kernel, by decide +kernel⟩, List.mem_of_getElem? (i := 589) (by decide +kernel), List.mem_of_getElem? (i := 747) (by decide +kernel), List.mem_of_getElem? (i := 748) (by decide +kernel)⟩
theorem lw_p24 : lw_okq (⟨"FramedLineModel", "send", "(I)I"⟩, 44) := ⟨⟨by decide +kernel, by decide +kernel⟩, List.mem_of_getElem? (i := 589) (by decide +kernel), List.mem_of_getElem? (i := 759) (by decide +kernel), List.mem_of_getElem? (i := 760) (by decide +kernel)⟩
theorem lw_p25 : lw_okq (⟨"FramedLineModel", "nextBit", "(I)I"⟩, 44) := ⟨⟨by decide +kernel, by decide +kernel⟩, List.mem_of_getElem? (i := 589) (by decide +kernel), List.mem_of_getElem? (i := 763) (by decide +kernel), List.mem_of_getElem? (i := 764) (by decide +kernel)⟩
theorem lw_p26 : lw_okq (⟨"FramedLineModel", "beginFrame", "(I)V"⟩, 44) := ⟨⟨by decide +kernel, by decide +kernel⟩, List.mem_of_getElem? (i := 589) (by decide +kernel), List.mem_of_getElem? (i := 767) (by decide +kernel), List.mem_of_getElem? (i := 768) (by decide +kernel)⟩
theorem lw_p27 : lw_okq (⟨"FramedLineModel", "mark", "(II)I"⟩, 44) := ⟨⟨by decide +kernel, by decide +kernel⟩, List.mem_of_getElem? (i := 589) (by decide +kernel), List.mem_of_getElem? (i := 771) (by decide +kernel), List.mem_of_getElem? (i := 772) (by decide +kernel)⟩
theorem lw_p28 : lw_okq (⟨"FramedLineModel", "turned", "(I)I"⟩, 44) := ⟨⟨by decide +kernel, by decide +kernel⟩, List.mem_of_getElem? (i := 589) (by decide +kernel), List.mem_of_getElem? (i := 778) (by decide +kernel), List.mem_of_getElem? (i := 779) (by decide +kernel)⟩
theorem lw_p29 : lw_okq (⟨"FramedLineModel", "arrive", "(II)V"⟩, 44) := ⟨⟨by decide +kernel, by decide +kernel⟩, List.mem_of_getElem? (i := 589) (by decide +kernel), List.mem_of_getElem? (i := 782) (by decide +kernel), List.mem_of_getElem? (i := 783) (by decide +kernel)⟩
theorem lw_p30 : lw_okq (⟨"FramedLineModel", "coming", "(II)I"⟩, 44) := ⟨⟨by decide +kernel, by decide +kernel⟩, List.mem_of_getElem? (i := 589) (by decide +kernel), List.mem_of_getElem? (i := 786) (by decide +kernel), List.mem_of_getElem? (i := 787) (by decide +kernel)⟩
theorem lw_p31 : lw_okq (⟨"FramedLineModel", "take", "(II)V"⟩, 44) := ⟨⟨by decide +kernel, by decide +kernel⟩, List.mem_of_getElem? (i := 589) (by decide +kernel), List.mem_of_getElem? (i := 790) (by decide +kernel), List.mem_of_getElem? (i := 791) (by decide +kernel)⟩
def lw_privs_2 : List (MethodName × Nat) := [(⟨"FramedLine$Receiver", "complete", "()V"⟩, 10), (⟨"FramedLine$Rounds", "findNumber", "(Z)V"⟩, 13), (⟨"FramedLine$Rounds", "judgeRoundWord", "()V"⟩, 13), (⟨"FramedLine$Rounds", "forgetNumber", "()V"⟩, 13), (⟨"FramedLine$Rounds", "endHalf", "()V"⟩, 13), (⟨"FramedLine$Rounds", "judgeHalfBefore", "()V"⟩, 13), (⟨"FramedLine$Receiver", "lookAtWord", "()V"⟩, 10), (⟨"FramedLineModel", "said", "(II)I"⟩, 44), (⟨"FramedLineModel", "send", "(I)I"⟩, 44), (⟨"FramedLineModel", "nextBit", "(I)I"⟩, 44), (⟨"FramedLineModel", "beginFrame", "(I)V"⟩, 44), (⟨"FramedLineModel", "mark", "(II)I"⟩, 44), (⟨"FramedLineModel", "turned", "(I)I"⟩, 44), (⟨"FramedLineModel", "arrive", "(II)V"⟩, 44), (⟨"FramedLineModel", "coming", "(II)I"⟩, 44), (⟨"FramedLineModel", "take", "(II)V"⟩, 44)]
theorem lw_r2 : ∀ q ∈ lw_privs_2, lw_okq q := List.forall_mem_cons.mpr ⟨lw_p16, List.forall_mem_cons.mpr ⟨lw_p17, List.forall_mem_cons.mpr ⟨lw_p18, List.forall_mem_cons.mpr ⟨lw_p19, List.forall_mem_cons.mpr ⟨lw_p20, List.forall_mem_cons.mpr ⟨lw_p21, List.forall_mem_cons.mpr ⟨lw_p22, List.forall_mem_cons.mpr ⟨lw_p23, List.forall_mem_cons.mpr ⟨lw_p24, List.forall_mem_cons.mpr ⟨lw_p25, List.forall_mem_cons.mpr ⟨lw_p26, List.forall_mem_cons.mpr ⟨lw_p27, List.forall_mem_cons.mpr ⟨lw_p28, List.forall_mem_cons.mpr ⟨lw_p29, List.forall_mem_cons.mpr ⟨lw_p30, List.forall_mem_cons.mpr ⟨lw_p31, fun _ h => absurd h List.not_mem_nil⟩⟩⟩⟩⟩⟩⟩⟩⟩⟩⟩⟩⟩⟩⟩⟩
theorem lw_p32 : lw_okq (⟨"FramedLineModel", "fault", "(IZI)V"⟩, 44) := ⟨⟨by decide +kernel, by decide +kernel⟩, List.mem_of_getElem? (i := 589) (by decide +kernel), List.mem_of_getElem? (i := 794) (by decide +kernel), List.mem_of_getElem? (i := 795) (by decide +kernel)⟩
theorem lw_p33 : lw_okq (⟨"FramedLineModel", "make", "(II)V"⟩, 44) := ⟨⟨by decide +kernel, by decide +kernel⟩, List.mem_of_getElem? (i := 589) (by decide +kernel), List.mem_of_getElem? (i := 798) (by decide +kernel), List.mem_of_getElem? (i := 799) (by decide +kernel)⟩
theorem lw_p34 : lw_okq (⟨"FramedLineModel", "frameBit", "(I)V"⟩, 44) := ⟨⟨by decide +kernel, by decide +kernel⟩, List.mem_of_getElem? (i := 589) (by decide +kernel), List.mem_of_getElem? (i := 802) (by decide +kernel), List.mem_of_getElem? (i := 803) (by decide +kernel)⟩
theorem lw_p35 : lw_okq (⟨"FramedLineModel", "isWord", "(I)Z"⟩, 44) := ⟨⟨by decide +kernel, by decide +kernel⟩, List.mem_of_getElem? (i := 589) (by decide +kernel), List.mem_of_getElem? (i := 806) (by decide +kernel), List.mem_of_getElem? (i := 807) (by decide +kernel)⟩
theorem lw_p36 : lw_okq (⟨"FramedLineModel", "search", "(I)V"⟩, 44) := ⟨⟨by decide +kernel, by decide +kernel⟩, List.mem_of_getElem? (i := 589) (by decide +kernel), List.mem_of_getElem? (i := 810) (by decide +kernel), List.mem_of_getElem? (i := 811) (by decide +kernel)⟩
theorem lw_p37 : lw_okq (⟨"FramedLineModel", "forget", "(I)V"⟩, 44) := ⟨⟨by decide +kernel, by decide +kernel⟩, List.mem_of_getElem? (i := 589) (by decide +kernel), List.mem_of_getElem? (i := 814) (by decide +kernel), List.mem_of_getElem? (i := 815) (by decide +kernel)⟩
theorem lw_p38 : lw_okq (⟨"FramedLineModel", "complete", "(I)V"⟩, 44) := ⟨⟨by decide +kernel, by decide +kernel⟩, List.mem_of_getElem? (i := 589) (by decide +kernel), List.mem_of_getElem? (i := 818) (by decide +kernel), List.mem_of_getElem? (i := 819) (by decide +kernel)⟩
theorem lw_p39 : lw_okq (⟨"FramedLineModel", "halves", "(III)V"⟩, 44) := ⟨⟨by decide +kernel, by decide +kernel⟩, List.mem_of_getElem? (i := 589) (by decide +kernel), List.mem_of_getElem? (i := 822) (by decide +kernel), List.mem_of_getElem? (i := 823) (by decide +kernel)⟩
def lw_privs_3 : List (MethodName × Nat) := [(⟨"FramedLineModel", "fault", "(IZI)V"⟩, 44), (⟨"FramedLineModel", "make", "(II)V"⟩, 44), (⟨"FramedLineModel", "frameBit", "(I)V"⟩, 44), (⟨"FramedLineModel", "isWord", "(I)Z"⟩, 44), (⟨"FramedLineModel", "search", "(I)V"⟩, 44), (⟨"FramedLineModel", "forget", "(I)V"⟩, 44), (⟨"FramedLineModel", "complete", "(I)V"⟩, 44), (⟨"FramedLineModel", "halves", "(III)V"⟩, 44)]
theorem lw_r3 : ∀ q ∈ lw_privs_3, lw_okq q := List.forall_mem_cons.mpr ⟨lw_p32, List.forall_mem_cons.mpr ⟨lw_p33, List.forall_mem_cons.mpr ⟨lw_p34, List.forall_mem_cons.mpr ⟨lw_p35, List.forall_mem_cons.mpr ⟨lw_p36, List.forall_mem_cons.mpr ⟨lw_p37, List.forall_mem_cons.mpr ⟨lw_p38, List.forall_mem_cons.mpr ⟨lw_p39, fun _ h => absurd h List.not_mem_nil⟩⟩⟩⟩⟩⟩⟩⟩
def lw_privs : List (MethodName × Nat) := lw_privs_1 ++ (lw_privs_2 ++ (lw_privs_3))
def lw_tbl : List Cond := k2_sels lw_privs ++ tables_1
theorem lw_privs_ok : ∀ q ∈ lw_privs, lw_okq q := by
  show ∀ q ∈ lw_privs_1 ++ (lw_privs_2 ++ (lw_privs_3)), lw_okq q
  exact List.forall_mem_append.mpr ⟨lw_r1, List.forall_mem_append.mpr ⟨lw_r2, lw_r3⟩⟩
end
section
def T_A : u_T := fun k => match k with
  | 0 => ("FramedLine$Arrivals", "times", "[I", true)
  | 1 => ("FramedLine$Arrivals", "symbols", "[I", true)
  | 2 => ("FramedLine$Arrivals", "waiting", "I", false)
  | _ => ("FramedLine$Arrivals", "slipping", "Z", false)
def t_A : Nat → FieldType := fun k => match k with
  | 0 => .array .int
  | 1 => .array .int
  | 2 => .int
  | _ => .boolean
def T_D : u_T := fun k => match k with
  | 0 => ("FramedLine$Decoder", "latestSymbol", "I", false)
  | 1 => ("FramedLine$Decoder", "latestPulse", "I", false)
  | 2 => ("FramedLine$Decoder", "latestV", "I", false)
  | 3 => ("FramedLine$Decoder", "zeros", "I", false)
  | 4 => ("FramedLine$Decoder", "latestBits", "I", false)
  | 5 => ("FramedLine$Decoder", "symbolsAhead", "I", false)
  | _ => ("FramedLine$Decoder", "faults", "I", false)
def t_D : Nat → FieldType := fun k => match k with
  | 0 => .int
  | 1 => .int
  | 2 => .int
  | 3 => .int
  | 4 => .int
  | 5 => .int
  | _ => .int
def T_E : u_T := fun k => match k with
  | 0 => ("FramedLine$Encoder", "latestPulse", "I", false)
  | 1 => ("FramedLine$Encoder", "oddPulses", "Z", false)
  | 2 => ("FramedLine$Encoder", "zeros", "I", false)
  | 3 => ("FramedLine$Encoder", "threeBehind", "I", false)
  | 4 => ("FramedLine$Encoder", "twoBehind", "I", false)
  | _ => ("FramedLine$Encoder", "oneBehind", "I", false)
def t_E : Nat → FieldType := fun k => match k with
  | 0 => .int
  | 1 => .boolean
  | 2 => .int
  | 3 => .int
  | 4 => .int
  | _ => .int
def T_N : u_T := fun k => match k with
  | 0 => ("FramedLine$End", "sender", "LFramedLine$Sender;", true)
  | 1 => ("FramedLine$End", "encoder", "LFramedLine$Encoder;", true)
  | 2 => ("FramedLine$End", "arrivals", "LFramedLine$Arrivals;", true)
  | 3 => ("FramedLine$End", "decoder", "LFramedLine$Decoder;", true)
  | _ => ("FramedLine$End", "receiver", "LFramedLine$Receiver;", true)
def t_N : Nat → FieldType := fun k => match k with
  | 0 => .object "FramedLine$Sender"
  | 1 => .object "FramedLine$Encoder"
  | 2 => .object "FramedLine$Arrivals"
  | 3 => .object "FramedLine$Decoder"
  | _ => .object "FramedLine$Receiver"
def T_R : u_T := fun k => match k with
  | 0 => ("FramedLine$Receiver", "rounds", "LFramedLine$Rounds;", true)
  | 1 => ("FramedLine$Receiver", "state", "LFramedLine$State;", false)
  | 2 => ("FramedLine$Receiver", "latestBits", "I", false)
  | 3 => ("FramedLine$Receiver", "bits", "I", false)
  | 4 => ("FramedLine$Receiver", "odd", "Z", false)
  | 5 => ("FramedLine$Receiver", "wrongWords", "I", false)
  | 6 => ("FramedLine$Receiver", "latestFrame", "I", false)
  | 7 => ("FramedLine$Receiver", "completeFrames", "I", false)
  | 8 => ("FramedLine$Receiver", "losses", "I", false)
  | _ => ("FramedLine$Receiver", "alarmCame", "Z", false)
def t_R : Nat → FieldType := fun k => match k with
  | 0 => .object "FramedLine$Rounds"
  | 1 => .object "FramedLine$State"
  | 2 => .int
  | 3 => .int
  | 4 => .boolean
  | 5 => .int
  | 6 => .int
  | 7 => .int
  | 8 => .int
  | _ => .boolean
def T_O : u_T := fun k => match k with
  | 0 => ("FramedLine$Rounds", "number", "I", false)
  | 1 => ("FramedLine$Rounds", "oddFrames", "I", false)
  | 2 => ("FramedLine$Rounds", "firstBitsOfOdd", "I", false)
  | 3 => ("FramedLine$Rounds", "wrongRounds", "I", false)
  | 4 => ("FramedLine$Rounds", "halfBegunKnown", "Z", false)
  | 5 => ("FramedLine$Rounds", "halfBeforeKnown", "Z", false)
  | 6 => ("FramedLine$Rounds", "check", "I", false)
  | 7 => ("FramedLine$Rounds", "checkOfHalfBefore", "I", false)
  | 8 => ("FramedLine$Rounds", "checkCome", "I", false)
  | 9 => ("FramedLine$Rounds", "firstHalfWrong", "Z", false)
  | 10 => ("FramedLine$Rounds", "secondHalfWrong", "Z", false)
  | 11 => ("FramedLine$Rounds", "wrongHalves", "I", false)
  | _ => ("FramedLine$Rounds", "farFaults", "I", false)
def t_O : Nat → FieldType := fun k => match k with
  | 0 => .int
  | 1 => .int
  | 2 => .int
  | 3 => .int
  | 4 => .boolean
  | 5 => .boolean
  | 6 => .int
  | 7 => .int
  | 8 => .int
  | 9 => .boolean
  | 10 => .boolean
  | 11 => .int
  | _ => .int
def T_S : u_T := fun k => match k with
  | 0 => ("FramedLine$Sender", "loaded", "[I", true)
  | 1 => ("FramedLine$Sender", "next", "I", false)
  | 2 => ("FramedLine$Sender", "frameBits", "I", false)
  | 3 => ("FramedLine$Sender", "bitsSent", "I", false)
  | 4 => ("FramedLine$Sender", "check", "I", false)
  | _ => ("FramedLine$Sender", "checkOfHalfBefore", "I", false)
def t_S : Nat → FieldType := fun k => match k with
  | 0 => .array .int
  | 1 => .int
  | 2 => .int
  | 3 => .int
  | 4 => .int
  | _ => .int
def T_F : u_T := fun k => match k with
  | 0 => ("FramedLine", "zero", "LFramedLine$End;", true)
  | 1 => ("FramedLine", "one", "LFramedLine$End;", true)
  | _ => ("FramedLine", "passed", "I", false)
def t_F : Nat → FieldType := fun k => match k with
  | 0 => .object "FramedLine$End"
  | 1 => .object "FramedLine$End"
  | _ => .int
def T_M : u_T := fun k => match k with
  | 0 => ("FramedLineModel", "code", "I", false)
  | 1 => ("FramedLineModel", "now", "I", false)
  | 2 => ("FramedLineModel", "loaded", "[I", false)
  | 3 => ("FramedLineModel", "word", "[I", false)
  | 4 => ("FramedLineModel", "number", "[I", false)
  | 5 => ("FramedLineModel", "gone", "[I", false)
  | 6 => ("FramedLineModel", "check", "[I", false)
  | 7 => ("FramedLineModel", "before", "[I", false)
  | 8 => ("FramedLineModel", "ahead", "[I", false)
  | 9 => ("FramedLineModel", "group", "[I", false)
  | 10 => ("FramedLineModel", "pulse", "[I", false)
  | 11 => ("FramedLineModel", "odd", "[Z", false)
  | 12 => ("FramedLineModel", "many", "[I", false)
  | 13 => ("FramedLineModel", "when", "[I", false)
  | 14 => ("FramedLineModel", "what", "[I", false)
  | 15 => ("FramedLineModel", "slips", "[Z", false)
  | 16 => ("FramedLineModel", "came", "[I", false)
  | 17 => ("FramedLineModel", "latest", "[I", false)
  | 18 => ("FramedLineModel", "back", "[I", false)
  | 19 => ("FramedLineModel", "wasV", "[Z", false)
  | 20 => ("FramedLineModel", "heard", "[I", false)
  | 21 => ("FramedLineModel", "lastV", "[I", false)
  | 22 => ("FramedLineModel", "zeros", "[I", false)
  | 23 => ("FramedLineModel", "mode", "[I", false)
  | 24 => ("FramedLineModel", "since", "[I", false)
  | 25 => ("FramedLineModel", "bits", "[I", false)
  | 26 => ("FramedLineModel", "at", "[I", false)
  | 27 => ("FramedLineModel", "even", "[Z", false)
  | 28 => ("FramedLineModel", "wrongs", "[I", false)
  | 29 => ("FramedLineModel", "any", "[Z", false)
  | 30 => ("FramedLineModel", "frame", "[I", false)
  | 31 => ("FramedLineModel", "alarms", "[Z", false)
  | 32 => ("FramedLineModel", "known", "[Z", false)
  | 33 => ("FramedLineModel", "place", "[I", false)
  | 34 => ("FramedLineModel", "firsts", "[I", false)
  | 35 => ("FramedLineModel", "odds", "[I", false)
  | 36 => ("FramedLineModel", "misses", "[I", false)
  | 37 => ("FramedLineModel", "whole", "[Z", false)
  | 38 => ("FramedLineModel", "sum", "[I", false)
  | 39 => ("FramedLineModel", "told", "[I", false)
  | 40 => ("FramedLineModel", "wholeBefore", "[Z", false)
  | 41 => ("FramedLineModel", "sumBefore", "[I", false)
  | 42 => ("FramedLineModel", "foundWrong", "[Z", false)
  | _ => ("FramedLineModel", "counts", "[I", false)
def t_M : Nat → FieldType := fun k => match k with
  | 0 => .int
  | 1 => .int
  | 2 => .array .int
  | 3 => .array .int
  | 4 => .array .int
  | 5 => .array .int
  | 6 => .array .int
  | 7 => .array .int
  | 8 => .array .int
  | 9 => .array .int
  | 10 => .array .int
  | 11 => .array .boolean
  | 12 => .array .int
  | 13 => .array .int
  | 14 => .array .int
  | 15 => .array .boolean
  | 16 => .array .int
  | 17 => .array .int
  | 18 => .array .int
  | 19 => .array .boolean
  | 20 => .array .int
  | 21 => .array .int
  | 22 => .array .int
  | 23 => .array .int
  | 24 => .array .int
  | 25 => .array .int
  | 26 => .array .int
  | 27 => .array .boolean
  | 28 => .array .int
  | 29 => .array .boolean
  | 30 => .array .int
  | 31 => .array .boolean
  | 32 => .array .boolean
  | 33 => .array .int
  | 34 => .array .int
  | 35 => .array .int
  | 36 => .array .int
  | 37 => .array .boolean
  | 38 => .array .int
  | 39 => .array .int
  | 40 => .array .boolean
  | 41 => .array .int
  | 42 => .array .boolean
  | _ => .array .int
abbrev vwCl : List vw_C := [("FramedLine$Arrivals", T_A, 4), ("FramedLine$Decoder", T_D, 7), ("FramedLine$Encoder", T_E, 6), ("FramedLine$End", T_N, 5), ("FramedLine$Receiver", T_R, 10), ("FramedLine$Rounds", T_O, 13), ("FramedLine$Sender", T_S, 6), ("FramedLine", T_F, 3), ("FramedLineModel", T_M, 44)]
/-! OUR OWN BASE. One memory G for all cells of the two systems: G c k is the number in field (or element) k of cell c. gw P G is the world that it stands for; each row of a walk takes 'gH P s G H locs' to the same of the next memory. -/
abbrev Mem : Type := Nat → Nat → Int32
def wr (G : Mem) (c k : Nat) (v : Int32) : Mem := va_up G c (upd (G c) k v)
theorem wr_same (G : Mem) (c k : Nat) (v : Int32) : wr G c k v c k = v := by simp [wr, va_up, upd]
theorem wr_k (G : Mem) (c k : Nat) (v : Int32) {k' : Nat} (h : k' ≠ k) : wr G c k v c k' = G c k' := by simp [wr, va_up, upd, h]
theorem wr_c (G : Mem) (c k : Nat) (v : Int32) {c' : Nat} (h : c' ≠ c) : wr G c k v c' = G c' := by simp [wr, va_up, h]
theorem wr_ck (G : Mem) (c k : Nat) (v : Int32) {c' k' : Nat} (h : c' ≠ c) : wr G c k v c' k' = G c' k' := by rw [wr_c G c k v h]
abbrev tn (i : Int32) : Nat := i.toNatClampNeg
def zb (x : Int32) : Int32 := x &&& 1
theorem zb_nar (x : Int32) : vp_nar .boolean x = zb x := rfl
def isB (v : Int32) : Prop := narrow .boolean (.int v) = .int v ∧ fits .boolean (.int v) = true
theorem isB_0 : isB 0 := ⟨rfl, rfl⟩
theorem isB_1 : isB 1 := ⟨rfl, rfl⟩
theorem isB_or {v : Int32} (h : isB v) : v = 0 ∨ v = 1 := by
  have h2 : (v == 0 || v == 1) = true := h.2
  simpa using h2
theorem isB_of {v : Int32} (h : v = 0 ∨ v = 1) : isB v := by rcases h with rfl | rfl <;> exact ⟨rfl, rfl⟩
theorem zb_or (x : Int32) : zb x = 0 ∨ zb x = 1 := by
  obtain ⟨j, hj, e⟩ := pk_andE x (m := 1) 1 (by decide)
  have : j = 0 ∨ j = 1 := by omega
  rcases this with rfl | rfl
  · exact Or.inl e
  · exact Or.inr e
theorem isB_zb (x : Int32) : isB (zb x) := isB_of (zb_or x)
theorem zb_isB {v : Int32} (h : isB v) : zb v = v := by rcases isB_or h with rfl | rfl <;> rfl
def iu (x y : Int32) : Int32 := (x.toUInt32 >>> (y.toUInt32 &&& Int32.toUInt32 31)).toInt32
def n3 (x : Int32) : Int32 := if x = 0 then 0 else if x = 1 then 1 else 2
def n3n (x : Int32) : Nat := if x = 0 then 0 else if x = 1 then 1 else 2
theorem n3_eq {x y : Int32} : n3n x = n3n y ↔ n3 x = n3 y := by
  unfold n3 n3n
  by_cases h1 : x = 0 <;> by_cases h2 : x = 1 <;> by_cases h3 : y = 0 <;> by_cases h4 : y = 1 <;> simp [h1, h2, h3, h4]
theorem n3n_lt (x : Int32) : n3n x < 3 := by unfold n3n; split; omega; split <;> omega
/-- addresses, classes' places, the classes of int[] and boolean[], the addresses of the enum's three -/
abbrev gP : Type := (Nat → Nat) × va_G × ClassId × ClassId × (Nat → Nat)
def gad (P : gP) : Nat → Nat := P.1
def gDD (P : gP) : va_G := P.2.1
def gcI (P : gP) : ClassId := P.2.2.1
def gcZ (P : gP) : ClassId := P.2.2.2.1
def gae (P : gP) (x : Int32) : Nat := P.2.2.2.2 (n3n x)
def fl_F (P : gP) (c : Nat) (g : Nat → Int32) : List Value := [.ref (gad P (1)), .ref (gad P (11)), .int (g 2)]
def fl_N (P : gP) (c : Nat) (g : Nat → Int32) : List Value := [.ref (gad P (c+1)), .ref (gad P (c+3)), .ref (gad P (c+4)), .ref (gad P (c+7)), .ref (gad P (c+8))]
def fl_S (P : gP) (c : Nat) (g : Nat → Int32) : List Value := [.ref (gad P (c+1)), .int (g 1), .int (g 2), .int (g 3), .int (g 4), .int (g 5)]
def fl_E (P : gP) (c : Nat) (g : Nat → Int32) : List Value := [.int (g 0), .int (zb (g 1)), .int (g 2), .int (g 3), .int (g 4), .int (g 5)]
def fl_A (P : gP) (c : Nat) (g : Nat → Int32) : List Value := [.ref (gad P (c+1)), .ref (gad P (c+2)), .int (g 2), .int (zb (g 3))]
def fl_D (P : gP) (c : Nat) (g : Nat → Int32) : List Value := [.int (g 0), .int (g 1), .int (g 2), .int (g 3), .int (g 4), .int (g 5), .int (g 6)]
def fl_R (P : gP) (c : Nat) (g : Nat → Int32) : List Value := [.ref (gad P (c+1)), .ref (gae P (g 1)), .int (g 2), .int (g 3), .int (zb (g 4)), .int (g 5), .int (g 6), .int (g 7), .int (g 8), .int (zb (g 9))]
def fl_O (P : gP) (c : Nat) (g : Nat → Int32) : List Value := [.int (g 0), .int (g 1), .int (g 2), .int (g 3), .int (zb (g 4)), .int (zb (g 5)), .int (g 6), .int (g 7), .int (g 8), .int (zb (g 9)), .int (zb (g 10)), .int (g 11), .int (g 12)]
def fl_M (P : gP) (c : Nat) (g : Nat → Int32) : List Value := [.int (g 0), .int (g 1), .ref (gad P (22)), .ref (gad P (23)), .ref (gad P (24)), .ref (gad P (25)), .ref (gad P (26)), .ref (gad P (27)), .ref (gad P (28)), .ref (gad P (29)), .ref (gad P (30)), .ref (gad P (31)), .ref (gad P (32)), .ref (gad P (33)), .ref (gad P (34)), .ref (gad P (35)), .ref (gad P (36)), .ref (gad P (37)), .ref (gad P (38)), .ref (gad P (39)), .ref (gad P (40)), .ref (gad P (41)), .ref (gad P (42)), .ref (gad P (43)), .ref (gad P (44)), .ref (gad P (45)), .ref (gad P (46)), .ref (gad P (47)), .ref (gad P (48)), .ref (gad P (49)), .ref (gad P (50)), .ref (gad P (51)), .ref (gad P (52)), .ref (gad P (53)), .ref (gad P (54)), .ref (gad P (55)), .ref (gad P (56)), .ref (gad P (57)), .ref (gad P (58)), .ref (gad P (59)), .ref (gad P (60)), .ref (gad P (61)), .ref (gad P (62)), .ref (gad P (63))]
/-- what stands in cell c when its numbers are g -/
def gc (P : gP) (c : Nat) (g : Nat → Int32) : va_E := match c with
  | 0 => .inr (7, fl_F P 0 g)
  | 1 => .inr (3, fl_N P 1 g)
  | 2 => .inr (6, fl_S P 2 g)
  | 3 => .inl (gcI P, 4, .inl g)
  | 4 => .inr (2, fl_E P 4 g)
  | 5 => .inr (0, fl_A P 5 g)
  | 6 => .inl (gcI P, 8, .inl g)
  | 7 => .inl (gcI P, 8, .inl g)
  | 8 => .inr (1, fl_D P 8 g)
  | 9 => .inr (4, fl_R P 9 g)
  | 10 => .inr (5, fl_O P 10 g)
  | 11 => .inr (3, fl_N P 11 g)
  | 12 => .inr (6, fl_S P 12 g)
  | 13 => .inl (gcI P, 4, .inl g)
  | 14 => .inr (2, fl_E P 14 g)
  | 15 => .inr (0, fl_A P 15 g)
  | 16 => .inl (gcI P, 8, .inl g)
  | 17 => .inl (gcI P, 8, .inl g)
  | 18 => .inr (1, fl_D P 18 g)
  | 19 => .inr (4, fl_R P 19 g)
  | 20 => .inr (5, fl_O P 20 g)
  | 21 => .inr (8, fl_M P 21 g)
  | 22 => .inl (gcI P, 8, .inl g)
  | 23 => .inl (gcI P, 2, .inl g)
  | 24 => .inl (gcI P, 2, .inl g)
  | 25 => .inl (gcI P, 2, .inl g)
  | 26 => .inl (gcI P, 2, .inl g)
  | 27 => .inl (gcI P, 2, .inl g)
  | 28 => .inl (gcI P, 2, .inl g)
  | 29 => .inl (gcI P, 2, .inl g)
  | 30 => .inl (gcI P, 2, .inl g)
  | 31 => .inl (gcZ P, 2, .inl g)
  | 32 => .inl (gcI P, 2, .inl g)
  | 33 => .inl (gcI P, 16, .inl g)
  | 34 => .inl (gcI P, 16, .inl g)
  | 35 => .inl (gcZ P, 2, .inl g)
  | 36 => .inl (gcI P, 2, .inl g)
  | 37 => .inl (gcI P, 2, .inl g)
  | 38 => .inl (gcI P, 6, .inl g)
  | 39 => .inl (gcZ P, 6, .inl g)
  | 40 => .inl (gcI P, 2, .inl g)
  | 41 => .inl (gcI P, 2, .inl g)
  | 42 => .inl (gcI P, 2, .inl g)
  | 43 => .inl (gcI P, 2, .inl g)
  | 44 => .inl (gcI P, 2, .inl g)
  | 45 => .inl (gcI P, 2, .inl g)
  | 46 => .inl (gcI P, 2, .inl g)
  | 47 => .inl (gcZ P, 2, .inl g)
  | 48 => .inl (gcI P, 2, .inl g)
  | 49 => .inl (gcZ P, 2, .inl g)
  | 50 => .inl (gcI P, 2, .inl g)
  | 51 => .inl (gcZ P, 2, .inl g)
  | 52 => .inl (gcZ P, 2, .inl g)
  | 53 => .inl (gcI P, 2, .inl g)
  | 54 => .inl (gcI P, 2, .inl g)
  | 55 => .inl (gcI P, 2, .inl g)
  | 56 => .inl (gcI P, 2, .inl g)
  | 57 => .inl (gcZ P, 2, .inl g)
  | 58 => .inl (gcI P, 2, .inl g)
  | 59 => .inl (gcI P, 2, .inl g)
  | 60 => .inl (gcZ P, 2, .inl g)
  | 61 => .inl (gcI P, 2, .inl g)
  | 62 => .inl (gcZ P, 4, .inl g)
  | _ => .inl (gcI P, 10, .inl g)
def gw (P : gP) (G : Mem) : va_W := (List.range 64).map (fun c => (gad P c, gc P c (G c)))
theorem gw_at {P : gP} {G : Mem} {c : Nat} (h : c < 64) : (gw P G)[c]? = some (gad P c, gc P c (G c)) := by simp [gw, h]
theorem gw_lt {P : gP} {G : Mem} {c : Nat} {q : Nat × va_E} (h : (gw P G)[c]? = some q) : c < 64 := by
  have := (List.getElem?_eq_some_iff.mp h).1
  simpa [gw] using this
theorem gw_set {P : gP} {G : Mem} {c : Nat} {g : Nat → Int32} (h : c < 64) : (gw P G).set c (gad P c, gc P c g) = gw P (va_up G c g) := by
  apply List.ext_getElem?
  intro i
  by_cases hi : i = c
  · subst hi
    rw [List.getElem?_set_self (by simpa [gw] using h), gw_at h, va_up_self]
  · rw [List.getElem?_set_ne (Ne.symm hi)]
    by_cases hl : i < 64
    · rw [gw_at hl, gw_at hl, va_up_ne _ _ hi]
    · rw [List.getElem?_eq_none (by simp [gw]; omega), List.getElem?_eq_none (by simp [gw]; omega)]
/-- the cells of the two systems -/
def gA (P : gP) : Nat → Prop := fun q => ∃ c, c < 64 ∧ q = gad P c
def gInj (P : gP) : Prop := ∀ i j, i < 64 → j < 64 → gad P i = gad P j → i = j
theorem gD_of {P : gP} (h : gInj P) (G : Mem) : va_D (gA P) (gw P G) := by
  refine ⟨fun i j p q hi hj e => ?_, fun k q hk => ?_⟩
  · have li := gw_lt hi
    have lj := gw_lt hj
    rw [gw_at li] at hi
    rw [gw_at lj] at hj
    cases hi
    cases hj
    exact h i j li lj e
  · have lk := gw_lt hk
    rw [gw_at lk] at hk
    cases hk
    exact ⟨k, lk, rfl⟩
def kF (c : Nat) : Prop := c = 0
def kN (c : Nat) : Prop := c = 1 ∨ c = 11
def kS (c : Nat) : Prop := c = 2 ∨ c = 12
def kI4 (c : Nat) : Prop := c = 3 ∨ c = 13
def kE (c : Nat) : Prop := c = 4 ∨ c = 14
def kA (c : Nat) : Prop := c = 5 ∨ c = 15
def kD (c : Nat) : Prop := c = 8 ∨ c = 18
def kR (c : Nat) : Prop := c = 9 ∨ c = 19
def kO (c : Nat) : Prop := c = 10 ∨ c = 20
def kM (c : Nat) : Prop := c = 21
def kI8 (c : Nat) : Prop := (c = 6 ∨ c = 16) ∨ (c = 7 ∨ c = 17)
theorem gc_F {P : gP} {c : Nat} (h : kF c) : c < 64 ∧ ∀ g, gc P c g = .inr (7, fl_F P c g) := by rcases h with rfl <;> exact ⟨by decide, fun _ => rfl⟩
theorem gc_N {P : gP} {c : Nat} (h : kN c) : c < 64 ∧ ∀ g, gc P c g = .inr (3, fl_N P c g) := by rcases h with rfl | rfl <;> exact ⟨by decide, fun _ => rfl⟩
theorem gc_S {P : gP} {c : Nat} (h : kS c) : c < 64 ∧ ∀ g, gc P c g = .inr (6, fl_S P c g) := by rcases h with rfl | rfl <;> exact ⟨by decide, fun _ => rfl⟩
theorem gc_E {P : gP} {c : Nat} (h : kE c) : c < 64 ∧ ∀ g, gc P c g = .inr (2, fl_E P c g) := by rcases h with rfl | rfl <;> exact ⟨by decide, fun _ => rfl⟩
theorem gc_A {P : gP} {c : Nat} (h : kA c) : c < 64 ∧ ∀ g, gc P c g = .inr (0, fl_A P c g) := by rcases h with rfl | rfl <;> exact ⟨by decide, fun _ => rfl⟩
theorem gc_D {P : gP} {c : Nat} (h : kD c) : c < 64 ∧ ∀ g, gc P c g = .inr (1, fl_D P c g) := by rcases h with rfl | rfl <;> exact ⟨by decide, fun _ => rfl⟩
theorem gc_R {P : gP} {c : Nat} (h : kR c) : c < 64 ∧ ∀ g, gc P c g = .inr (4, fl_R P c g) := by rcases h with rfl | rfl <;> exact ⟨by decide, fun _ => rfl⟩
theorem gc_O {P : gP} {c : Nat} (h : kO c) : c < 64 ∧ ∀ g, gc P c g = .inr (5, fl_O P c g) := by rcases h with rfl | rfl <;> exact ⟨by decide, fun _ => rfl⟩
theorem gc_M {P : gP} {c : Nat} (h : kM c) : c < 64 ∧ ∀ g, gc P c g = .inr (8, fl_M P c g) := by rcases h with rfl <;> exact ⟨by decide, fun _ => rfl⟩
theorem ga_I4 {P : gP} {c : Nat} (h : kI4 c) : c < 64 ∧ ∀ g, gc P c g = .inl (gcI P, 4, .inl g) := by rcases h with rfl | rfl <;> exact ⟨by decide, fun _ => rfl⟩
theorem ga_I8 {P : gP} {c : Nat} (h : kI8 c) : c < 64 ∧ ∀ g, gc P c g = .inl (gcI P, 8, .inl g) := by rcases h with (rfl | rfl) | (rfl | rfl) <;> exact ⟨by decide, fun _ => rfl⟩
theorem kN_sender {c : Nat} (h : kN c) : kS (c + 1) := by rcases h with rfl | rfl <;> simp [kS]
theorem kN_encoder {c : Nat} (h : kN c) : kE (c + 3) := by rcases h with rfl | rfl <;> simp [kE]
theorem kN_arrivals {c : Nat} (h : kN c) : kA (c + 4) := by rcases h with rfl | rfl <;> simp [kA]
theorem kN_decoder {c : Nat} (h : kN c) : kD (c + 7) := by rcases h with rfl | rfl <;> simp [kD]
theorem kN_receiver {c : Nat} (h : kN c) : kR (c + 8) := by rcases h with rfl | rfl <;> simp [kR]
theorem kS_loaded {c : Nat} (h : kS c) : kI4 (c + 1) := by rcases h with rfl | rfl <;> simp [kI4]
theorem kR_rounds {c : Nat} (h : kR c) : kO (c + 1) := by rcases h with rfl | rfl <;> simp [kO]
theorem kA_times {c : Nat} (h : kA c) : kI8 (c + 1) := by rcases h with rfl | rfl <;> simp [kI8]
theorem kA_symbols {c : Nat} (h : kA c) : kI8 (c + 2) := by rcases h with rfl | rfl <;> simp [kI8]
theorem set_E1 (P : gP) (c : Nat) : ∀ (g : Nat → Int32) (nv : Int32), isB nv → (fl_E P c g).set 1 (.int nv) = fl_E P c (upd g 1 nv) := by
  intro g nv h
  have e := zb_isB h
  simp [fl_E, upd, e]
theorem set_A3 (P : gP) (c : Nat) : ∀ (g : Nat → Int32) (nv : Int32), isB nv → (fl_A P c g).set 3 (.int nv) = fl_A P c (upd g 3 nv) := by
  intro g nv h
  have e := zb_isB h
  simp [fl_A, upd, e]
theorem set_R4 (P : gP) (c : Nat) : ∀ (g : Nat → Int32) (nv : Int32), isB nv → (fl_R P c g).set 4 (.int nv) = fl_R P c (upd g 4 nv) := by
  intro g nv h
  have e := zb_isB h
  simp [fl_R, upd, e]
theorem set_R9 (P : gP) (c : Nat) : ∀ (g : Nat → Int32) (nv : Int32), isB nv → (fl_R P c g).set 9 (.int nv) = fl_R P c (upd g 9 nv) := by
  intro g nv h
  have e := zb_isB h
  simp [fl_R, upd, e]
theorem set_O4 (P : gP) (c : Nat) : ∀ (g : Nat → Int32) (nv : Int32), isB nv → (fl_O P c g).set 4 (.int nv) = fl_O P c (upd g 4 nv) := by
  intro g nv h
  have e := zb_isB h
  simp [fl_O, upd, e]
theorem set_O5 (P : gP) (c : Nat) : ∀ (g : Nat → Int32) (nv : Int32), isB nv → (fl_O P c g).set 5 (.int nv) = fl_O P c (upd g 5 nv) := by
  intro g nv h
  have e := zb_isB h
  simp [fl_O, upd, e]
theorem set_O9 (P : gP) (c : Nat) : ∀ (g : Nat → Int32) (nv : Int32), isB nv → (fl_O P c g).set 9 (.int nv) = fl_O P c (upd g 9 nv) := by
  intro g nv h
  have e := zb_isB h
  simp [fl_O, upd, e]
theorem set_O10 (P : gP) (c : Nat) : ∀ (g : Nat → Int32) (nv : Int32), isB nv → (fl_O P c g).set 10 (.int nv) = fl_O P c (upd g 10 nv) := by
  intro g nv h
  have e := zb_isB h
  simp [fl_O, upd, e]
end
section
/-! the words: those of the tables that stay good under every warming; the nest's own words beside them -/
def GW : List Cond := lw_tbl.filter goodWord
theorem GW_at (i : Nat) {w : Cond} (h : lw_tbl[i]? = some w) (hg : goodWord w = true) : w ∈ GW := List.mem_filter.mpr ⟨List.mem_of_getElem? h, hg⟩
theorem GW_good {big : List Cond} {l : List Cond} (h : ∀ w ∈ l, w ∈ GW) : GoodIn GW l := fun w hw => ⟨h w hw, good_of_word (List.mem_filter.mp (h w hw)).2⟩
def nestW : Cond → Bool
  | .fieldLinkNest .. => true
  | .methodLinkNest .. => true
  | _ => false
def NW : List Cond := lw_tbl.filter nestW
theorem NW_at (i : Nat) {w : Cond} (h : lw_tbl[i]? = some w) (hg : nestW w = true) : w ∈ NW := List.mem_filter.mpr ⟨List.mem_of_getElem? h, hg⟩
theorem NW_tab {w : Cond} (h : w ∈ NW) : w.onTables = true := by
  have hn := (List.mem_filter.mp h).2
  cases w <;> first | rfl | (simp [nestW] at hn)
theorem NW_warm {s U : State} (hW : s.WarmedH U.vm) (h : ∀ w ∈ NW, va_Nw w s) : ∀ w ∈ NW, va_Nw w U := by
  intro w hw
  have hn := (List.mem_filter.mp hw).2
  have h1 := h w hw
  cases w <;> first | exact va_Nw.warmF hW h1 | exact va_Nw.warmM hW h1 | (simp [nestW] at hn)
/-- what a state's tables hold, once and for all -/
def gS (P : gP) (U : State) : Prop := va_K (gDD P) vwCl [(gcI P, .int), (gcZ P, .boolean)] U ∧ gInj P ∧ (∀ w ∈ NW, va_Nw w U) ∧ va_En "FramedLine$State" "LFramedLine$State;" ["SEARCHING", "TRYING", "ALIGNED"] [] P.2.2.2.2 (gA P) U U.heap
def gPre (P : gP) (G : Mem) (U : State) : Prop := va_P (gDD P) vwCl (gw P G) U.heap ∧ gS P U
def gH (P : gP) (s : State) (G : Mem) (H : Heap) (locs : List Loc) : Prop := va_P (gDD P) vwCl (gw P G) H ∧ va_S (gA P) s.heap H locs
theorem gPre_blind {av : List Value} {P : gP} {G : Mem} : FrameBlind (va_Pc av (gPre P G)) := by
  intro a U g mk h
  obtain ⟨h0, h1, hK, hI, hN, hE⟩ := h
  exact ⟨h0, h1, va_K.moved (u := U) (U := U.calling g mk a) (Vm.Alike.refl U.vm) hK, hI, fun w hw => va_Nw.same (u := U) (U := U.calling g mk a) (NW_tab hw) rfl (hN w hw), va_En.moved (u := U) (U := U.calling g mk a) (Vm.Alike.refl U.vm) hE⟩
theorem gS_moved {P : gP} {s U : State} {H : Heap} {locs : List Loc} (h : gS P s) (hS : va_S (gA P) s.heap H locs) (hU : U.heap = H) (hW : s.WarmedH U.vm) : gS P U := by
  obtain ⟨hK, hI, hN, hE⟩ := h
  refine ⟨va_K.moved hW.alike hK, hI, NW_warm hW hN, ?_⟩
  rw [hU]
  exact va_En.moved hW.alike (hE.kept hS.2.1)
/-- a method's own code and place, and what the tables give -/
def gE (p : Program) (s : State) (m : MethodId) (args : Array Value) (meth : Method) (c : Code) (P : gP) (own : String) (cc : ByteArray) (nL : Nat) (ret : Option FieldType) : Prop :=
  p.tables.exec = Jvm.exec ∧ c.code = cc ∧ meth.sig.returnType = ret ∧ c.maxLocals = nL ∧ s.vm.findClass own = some m.cls ∧ (∀ w ∈ GW, w.before args s = true) ∧ meth.locks = false ∧ gS P s
def gMv (l : Launch) (y : MethodName) (cc : ByteArray) (maxL : Nat) (ret : Option FieldType) (rm : Room) (av : List Value) (P : gP) (G : Mem) (X : Mem) : Prop :=
  Met l y (Cond.code y cc maxL ret :: GW) rm (va_Pc av (gPre P G)) (va_Qv (fun u : Mem => X = u) (fun u t => va_P (gDD P) vwCl (gw P u) t.heap) (gA P)) 0 0 (gA P)
def gMi (l : Launch) (y : MethodName) (cc : ByteArray) (maxL : Nat) (ret : Option FieldType) (rm : Room) (av : List Value) (P : gP) (G : Mem) (X : Int32 × Mem) : Prop :=
  Met l y (Cond.code y cc maxL ret :: GW) rm (va_Pc av (gPre P G)) (va_Qi (fun (r : Int32) (u : Mem) => X = (r, u)) (fun u t => va_P (gDD P) vwCl (gw P u) t.heap) (gA P)) 0 0 (gA P)
def gMz (l : Launch) (y : MethodName) (cc : ByteArray) (maxL : Nat) (ret : Option FieldType) (rm : Room) (av : List Value) (P : gP) (G : Mem) (X : Int32 × Mem) : Prop :=
  Met l y (Cond.code y cc maxL ret :: GW) rm (va_Pc av (gPre P G)) (va_Qi (fun (r : Int32) (u : Mem) => X = (r, u) ∧ isB r) (fun u t => va_P (gDD P) vwCl (gw P u) t.heap) (gA P)) 0 0 (gA P)
def gMri (l : Launch) (y : MethodName) (cc : ByteArray) (maxL : Nat) (ret : Option FieldType) (rm : Room) (av : List Value) (P : gP) (G : Mem) (X : Int32) : Prop := gMi l y cc maxL ret rm av P G (X, G)
def gMrz (l : Launch) (y : MethodName) (cc : ByteArray) (maxL : Nat) (ret : Option FieldType) (rm : Room) (av : List Value) (P : gP) (G : Mem) (X : Int32) : Prop := gMz l y cc maxL ret rm av P G (X, G)
def gCl (ci : Nat) (C : String) (T : u_T) (N : Nat) : Prop := vwCl[ci]? = some (C, T, N) ∧ ∀ w ∈ u_ws C T N, w ∈ GW
def gCt (C : String) (T : u_T) (N : Nat) (ty : Nat → FieldType) : Prop := (∀ k, k < N → parseFieldDescriptor (T k).2.2.1 = some (ty k)) ∧ (∀ a, a < N → ∀ b, b < N → a ≠ b → (T a).2.1 ≠ (T b).2.1)
/-- a call's words -/
def gLV (own C : String) (idx : Nat) (y : MethodName) (cc : ByteArray) (maxL : Nat) (ret : Option FieldType) (n : Nat) : Prop :=
  (Cond.code y cc maxL ret ∈ GW ∧ Cond.initialized y.cls ∈ GW ∧ (y.cls ≠ "java/lang/invoke/MethodHandle" ∧ y.cls ≠ "java/lang/invoke/VarHandle" ∧ (parseMethodDescriptor y.desc).map (fun d => d.parameters.length) = some n)) ∧ Cond.methodLink own idx y ∈ GW ∧ Cond.instanceMethod y ∈ GW ∧ Cond.selects C y y ∈ GW
def gLS (own : String) (idx : Nat) (y : MethodName) (cc : ByteArray) (maxL : Nat) (ret : Option FieldType) (n : Nat) : Prop :=
  (Cond.code y cc maxL ret ∈ GW ∧ Cond.initialized y.cls ∈ GW ∧ (y.cls ≠ "java/lang/invoke/MethodHandle" ∧ y.cls ≠ "java/lang/invoke/VarHandle" ∧ (parseMethodDescriptor y.desc).map (fun d => d.parameters.length) = some n)) ∧ Cond.methodLink own idx y ∈ GW ∧ Cond.static y ∈ GW
def gLSN (own host : String) (idx : Nat) (y : MethodName) (cc : ByteArray) (maxL : Nat) (ret : Option FieldType) (n : Nat) : Prop :=
  (Cond.code y cc maxL ret ∈ GW ∧ Cond.initialized y.cls ∈ GW ∧ (y.cls ≠ "java/lang/invoke/MethodHandle" ∧ y.cls ≠ "java/lang/invoke/VarHandle" ∧ (parseMethodDescriptor y.desc).map (fun d => d.parameters.length) = some n)) ∧ Cond.methodLinkNest own idx y host ∈ NW ∧ Cond.static y ∈ GW
theorem gE_of {p : Program} {l : Launch} {e : Env} {s : State} {m : MethodId} {args : Array Value} {below : List Frame} {meth : Method} {c : Code} {s₁ : State} {y : MethodName} {cc : ByteArray} {maxL : Nat} {ret : Option FieldType} {rm : Room} {P : gP} {G : Mem}
    (B : BodyLoose p l y (headSpec (Cond.code y cc maxL ret :: GW) rm) cc maxL ret e s m args below meth c s₁) (hml : c.maxLocals = maxL) (hpre : gPre P G s) : gE p s m args meth c P y.cls cc maxL ret ∧ gH P s G s.heap [] :=
  ⟨⟨B.exec, B.bytes, B.returns, hml, findClass_of_methodNamed B.named, fun w h => atoms_spec (ws := Cond.code y cc maxL ret :: GW) B.pre w (List.mem_cons_of_mem _ h), B.notSynchronized, hpre.2⟩, hpre.1, va_S.rf⟩
section GR
variable {p : Program} {l : Launch} {e : Env} {R : Room} {s : State} {m : MethodId} {args : Array Value} {below : List Frame} {meth : Method} {c : Code} {H : Heap} {locs : List Loc} {cells slots : Nat} {Q : State → Prop}
variable {cc : ByteArray} {pc : Nat} {ls : Array Slot} {rest : List Value} {P : gP} {G : Mem} {own : String} {nL : Nat} {ret : Option FieldType}
/-- a place that several ways come to: first what goes on from there, then the ways -/
theorem jn {α : Type} {g : JFrame} (Pz : α → Heap → List Loc → Prop) (fr : α → JFrame) (k1 : ∀ (z : α) (H1 : Heap) (locs1 : List Loc), Pz z H1 locs1 → W p l e R s m args below meth c H1 locs1 cells slots Q (fr z))
    (k2 : (∀ (z : α) (H1 : Heap) (locs1 : List Loc), Pz z H1 locs1 → W p l e R s m args below meth c H1 locs1 cells slots Q (fr z)) → W p l e R s m args below meth c H locs cells slots Q g) : W p l e R s m args below meth c H locs cells slots Q g := k2 k1
/-- a loop's head: a measure that falls -/
theorem lp {α : Type} (Pz : α → Heap → List Loc → Prop) (fr : α → JFrame) (μ : α → Nat)
    (st : ∀ (z : α) (H1 : Heap) (locs1 : List Loc), Pz z H1 locs1 → (∀ (z' : α) (H2 : Heap) (locs2 : List Loc), μ z' < μ z → Pz z' H2 locs2 → W p l e R s m args below meth c H2 locs2 cells slots Q (fr z')) → W p l e R s m args below meth c H1 locs1 cells slots Q (fr z)) :
    ∀ (z : α) (H1 : Heap) (locs1 : List Loc), Pz z H1 locs1 → W p l e R s m args below meth c H1 locs1 cells slots Q (fr z) := by
  have key : ∀ (n : Nat) (z : α) (H1 : Heap) (locs1 : List Loc), μ z < n → Pz z H1 locs1 → W p l e R s m args below meth c H1 locs1 cells slots Q (fr z) := by
    intro n
    induction n with
    | zero => intro z H1 locs1 h; exact absurd h (Nat.not_lt_zero _)
    | succ n ih =>
      intro z H1 locs1 h hz
      exact st z H1 locs1 hz (fun z' H2 locs2 hlt hz' => ih z' H2 locs2 (Nat.lt_of_lt_of_le hlt (Nat.le_of_lt_succ h)) hz')
  exact fun z H1 locs1 hz => key (μ z + 1) z H1 locs1 (Nat.lt_succ_self _) hz
theorem jl {α : Type} {g : JFrame} (Pz : α → Heap → List Loc → Prop) (fr : α → JFrame) (μ : α → Nat)
    (st : ∀ (z : α) (H1 : Heap) (locs1 : List Loc), Pz z H1 locs1 → (∀ (z' : α) (H2 : Heap) (locs2 : List Loc), μ z' < μ z → Pz z' H2 locs2 → W p l e R s m args below meth c H2 locs2 cells slots Q (fr z')) → W p l e R s m args below meth c H1 locs1 cells slots Q (fr z))
    (k2 : (∀ (z : α) (H1 : Heap) (locs1 : List Loc), Pz z H1 locs1 → W p l e R s m args below meth c H1 locs1 cells slots Q (fr z)) → W p l e R s m args below meth c H locs cells slots Q g) : W p l e R s m args below meth c H locs cells slots Q g := k2 (lp Pz fr μ st)
theorem g_get {ci N idx : Nat} {C : String} {T : u_T} {fl : (Nat → Int32) → List Value} {c0 : Nat} (E : gE p s m args meth c P own cc nL ret) (h : gH P s G H locs) (hc : c0 < 64 ∧ ∀ g, gc P c0 g = .inr (ci, fl g)) (hcl : gCl ci C T N) (k : Nat) (hk : k < N)
    (hl : Cond.fieldLink own idx (T k).1 (T k).2.1 (T k).2.2.1 ∈ GW) {v : Value} (hv : (fl (G c0))[k]? = some v) (hdg : decode cc pc = .ok (.getfield idx, 3))
    (kk : W p l e R s m args below meth c H locs cells slots Q (F0 m (pc + 3) ls (v :: rest))) : W p l e R s m args below meth c H locs cells slots Q (F0 m pc ls (.ref (gad P c0) :: rest)) :=
  va_get E.1 E.2.1 E.2.2.2.2.2.1 hcl.2 E.2.2.2.2.1 E.2.2.2.2.2.2.2.1 h.1 c0 (by rw [gw_at hc.1, hc.2]) hcl.1 k hk (E.2.2.2.2.2.1 _ hl) (fun _ q => q) hv hdg kk
theorem g_getN {ci N idx : Nat} {C host : String} {T : u_T} {fl : (Nat → Int32) → List Value} {c0 : Nat} (E : gE p s m args meth c P own cc nL ret) (h : gH P s G H locs) (hc : c0 < 64 ∧ ∀ g, gc P c0 g = .inr (ci, fl g)) (hcl : gCl ci C T N) (k : Nat) (hk : k < N)
    (hl : Cond.fieldLinkNest own idx (T k).1 (T k).2.1 (T k).2.2.1 host ∈ NW) {v : Value} (hv : (fl (G c0))[k]? = some v) (hdg : decode cc pc = .ok (.getfield idx, 3))
    (kk : W p l e R s m args below meth c H locs cells slots Q (F0 m (pc + 3) ls (v :: rest))) : W p l e R s m args below meth c H locs cells slots Q (F0 m pc ls (.ref (gad P c0) :: rest)) :=
  va_getN E.1 E.2.1 E.2.2.2.2.2.1 hcl.2 E.2.2.2.2.1 E.2.2.2.2.2.2.2.1 h.1 c0 (by rw [gw_at hc.1, hc.2]) hcl.1 k hk (va_Nw.use (NW_tab hl) (E.2.2.2.2.2.2.2.2.2.1 _ hl)) (fun _ q => q) hv hdg kk
theorem g_put {ci N idx : Nat} {C : String} {T : u_T} {ty0 : Nat → FieldType} {fl : (Nat → Int32) → List Value} {c0 : Nat} {v : Value} {nv : Int32} {ty : FieldType} (E : gE p s m args meth c P own cc nL ret) (h : gH P s G H locs) (hc : c0 < 64 ∧ ∀ g, gc P c0 g = .inr (ci, fl g)) (hcl : gCl ci C T N) (hct : gCt C T N ty0) (k : Nat) (hk : k < N)
    (hl : Cond.fieldLink own idx (T k).1 (T k).2.1 (T k).2.2.1 ∈ GW) (hfin : (T k).2.2.2 = false) (hd : parseFieldDescriptor (T k).2.2.1 = some ty) (hset : ∀ g, (fl g).set k v = fl (upd g k nv)) (hn : narrow ty v = v) (hfit : fits ty v = true) (hlen : k < (fl (G c0)).length) (hdg : decode cc pc = .ok (.putfield idx, 3))
    (kk : ∀ (H1 : Heap) (locs1 : List Loc), gH P s (wr G c0 k nv) H1 locs1 → W p l e R s m args below meth c H1 locs1 cells slots Q (F0 m (pc + 3) ls rest)) : W p l e R s m args below meth c H locs cells slots Q (F0 m pc ls (v :: .ref (gad P c0) :: rest)) := by
  refine va_put E.1 E.2.1 E.2.2.2.2.2.1 hcl.2 ty0 hct.1 hct.2 E.2.2.2.2.1 E.2.2.2.2.2.2.2.1 h.1 (gD_of E.2.2.2.2.2.2.2.2.1 G) h.2 c0 (by rw [gw_at hc.1, hc.2]) hcl.1 k hk (E.2.2.2.2.2.1 _ hl) (fun _ q => q) hfin hd hn hfit hlen hdg (fun H1 locs1 hP _ hS => kk H1 locs1 ⟨?_, hS⟩)
  rw [hset, ← hc.2, gw_set hc.1] at hP
  exact hP
theorem g_geti {ci N idx : Nat} {C : String} {T : u_T} {fl : (Nat → Int32) → List Value} {c0 : Nat} {v : Int32} (E : gE p s m args meth c P own cc nL ret) (h : gH P s G H locs) (hc : c0 < 64 ∧ ∀ g, gc P c0 g = .inr (ci, fl g)) (hcl : gCl ci C T N) (k : Nat) (hk : k < N)
    (hl : Cond.fieldLink own idx (T k).1 (T k).2.1 (T k).2.2.1 ∈ GW) (hf : ∀ g, (fl g)[k]? = some (.int (g k))) (hv : G c0 k = v) (hdg : decode cc pc = .ok (.getfield idx, 3))
    (kk : W p l e R s m args below meth c H locs cells slots Q (F0 m (pc + 3) ls (.int v :: rest))) : W p l e R s m args below meth c H locs cells slots Q (F0 m pc ls (.ref (gad P c0) :: rest)) := by
  subst hv
  exact g_get E h hc hcl k hk hl (hf _) hdg kk
theorem g_getiN {ci N idx : Nat} {C host : String} {T : u_T} {fl : (Nat → Int32) → List Value} {c0 : Nat} {v : Int32} (E : gE p s m args meth c P own cc nL ret) (h : gH P s G H locs) (hc : c0 < 64 ∧ ∀ g, gc P c0 g = .inr (ci, fl g)) (hcl : gCl ci C T N) (k : Nat) (hk : k < N)
    (hl : Cond.fieldLinkNest own idx (T k).1 (T k).2.1 (T k).2.2.1 host ∈ NW) (hf : ∀ g, (fl g)[k]? = some (.int (g k))) (hv : G c0 k = v) (hdg : decode cc pc = .ok (.getfield idx, 3))
    (kk : W p l e R s m args below meth c H locs cells slots Q (F0 m (pc + 3) ls (.int v :: rest))) : W p l e R s m args below meth c H locs cells slots Q (F0 m pc ls (.ref (gad P c0) :: rest)) := by
  subst hv
  exact g_getN E h hc hcl k hk hl (hf _) hdg kk
theorem g_getz {ci N idx : Nat} {C : String} {T : u_T} {fl : (Nat → Int32) → List Value} {c0 : Nat} {v : Int32} (E : gE p s m args meth c P own cc nL ret) (h : gH P s G H locs) (hc : c0 < 64 ∧ ∀ g, gc P c0 g = .inr (ci, fl g)) (hcl : gCl ci C T N) (k : Nat) (hk : k < N)
    (hl : Cond.fieldLink own idx (T k).1 (T k).2.1 (T k).2.2.1 ∈ GW) (hf : ∀ g, (fl g)[k]? = some (.int (zb (g k)))) (hv : G c0 k = v) (hdg : decode cc pc = .ok (.getfield idx, 3))
    (kk : W p l e R s m args below meth c H locs cells slots Q (F0 m (pc + 3) ls (.int (zb v) :: rest))) : W p l e R s m args below meth c H locs cells slots Q (F0 m pc ls (.ref (gad P c0) :: rest)) := by
  subst hv
  exact g_get E h hc hcl k hk hl (hf _) hdg kk
theorem g_getzN {ci N idx : Nat} {C host : String} {T : u_T} {fl : (Nat → Int32) → List Value} {c0 : Nat} {v : Int32} (E : gE p s m args meth c P own cc nL ret) (h : gH P s G H locs) (hc : c0 < 64 ∧ ∀ g, gc P c0 g = .inr (ci, fl g)) (hcl : gCl ci C T N) (k : Nat) (hk : k < N)
    (hl : Cond.fieldLinkNest own idx (T k).1 (T k).2.1 (T k).2.2.1 host ∈ NW) (hf : ∀ g, (fl g)[k]? = some (.int (zb (g k)))) (hv : G c0 k = v) (hdg : decode cc pc = .ok (.getfield idx, 3))
    (kk : W p l e R s m args below meth c H locs cells slots Q (F0 m (pc + 3) ls (.int (zb v) :: rest))) : W p l e R s m args below meth c H locs cells slots Q (F0 m pc ls (.ref (gad P c0) :: rest)) := by
  subst hv
  exact g_getN E h hc hcl k hk hl (hf _) hdg kk
theorem g_gete {ci N idx : Nat} {C : String} {T : u_T} {fl : (Nat → Int32) → List Value} {c0 : Nat} {v : Int32} (E : gE p s m args meth c P own cc nL ret) (h : gH P s G H locs) (hc : c0 < 64 ∧ ∀ g, gc P c0 g = .inr (ci, fl g)) (hcl : gCl ci C T N) (k : Nat) (hk : k < N)
    (hl : Cond.fieldLink own idx (T k).1 (T k).2.1 (T k).2.2.1 ∈ GW) (hf : ∀ g, (fl g)[k]? = some (.ref (gae P (g k)))) (hv : G c0 k = v) (hdg : decode cc pc = .ok (.getfield idx, 3))
    (kk : W p l e R s m args below meth c H locs cells slots Q (F0 m (pc + 3) ls (.ref (gae P v) :: rest))) : W p l e R s m args below meth c H locs cells slots Q (F0 m pc ls (.ref (gad P c0) :: rest)) := by
  subst hv
  exact g_get E h hc hcl k hk hl (hf _) hdg kk
theorem g_geteN {ci N idx : Nat} {C host : String} {T : u_T} {fl : (Nat → Int32) → List Value} {c0 : Nat} {v : Int32} (E : gE p s m args meth c P own cc nL ret) (h : gH P s G H locs) (hc : c0 < 64 ∧ ∀ g, gc P c0 g = .inr (ci, fl g)) (hcl : gCl ci C T N) (k : Nat) (hk : k < N)
    (hl : Cond.fieldLinkNest own idx (T k).1 (T k).2.1 (T k).2.2.1 host ∈ NW) (hf : ∀ g, (fl g)[k]? = some (.ref (gae P (g k)))) (hv : G c0 k = v) (hdg : decode cc pc = .ok (.getfield idx, 3))
    (kk : W p l e R s m args below meth c H locs cells slots Q (F0 m (pc + 3) ls (.ref (gae P v) :: rest))) : W p l e R s m args below meth c H locs cells slots Q (F0 m pc ls (.ref (gad P c0) :: rest)) := by
  subst hv
  exact g_getN E h hc hcl k hk hl (hf _) hdg kk
theorem g_puti {ci N idx : Nat} {C : String} {T : u_T} {ty0 : Nat → FieldType} {fl : (Nat → Int32) → List Value} {c0 : Nat} {nv : Int32} (E : gE p s m args meth c P own cc nL ret) (h : gH P s G H locs) (hc : c0 < 64 ∧ ∀ g, gc P c0 g = .inr (ci, fl g)) (hcl : gCl ci C T N) (hct : gCt C T N ty0) (k : Nat) (hk : k < N)
    (hl : Cond.fieldLink own idx (T k).1 (T k).2.1 (T k).2.2.1 ∈ GW) (hfin : (T k).2.2.2 = false) (hd : parseFieldDescriptor (T k).2.2.1 = some .int) (hset : ∀ g nv, (fl g).set k (.int nv) = fl (upd g k nv)) (hlen : k < (fl (G c0)).length) (hdg : decode cc pc = .ok (.putfield idx, 3))
    (kk : ∀ (H1 : Heap) (locs1 : List Loc), gH P s (wr G c0 k nv) H1 locs1 → W p l e R s m args below meth c H1 locs1 cells slots Q (F0 m (pc + 3) ls rest)) : W p l e R s m args below meth c H locs cells slots Q (F0 m pc ls (.int nv :: .ref (gad P c0) :: rest)) :=
  g_put E h hc hcl hct k hk hl hfin hd (fun g => hset g nv) rfl rfl hlen hdg kk
theorem g_putz {ci N idx : Nat} {C : String} {T : u_T} {ty0 : Nat → FieldType} {fl : (Nat → Int32) → List Value} {c0 : Nat} {nv : Int32} (E : gE p s m args meth c P own cc nL ret) (h : gH P s G H locs) (hc : c0 < 64 ∧ ∀ g, gc P c0 g = .inr (ci, fl g)) (hcl : gCl ci C T N) (hct : gCt C T N ty0) (k : Nat) (hk : k < N)
    (hl : Cond.fieldLink own idx (T k).1 (T k).2.1 (T k).2.2.1 ∈ GW) (hfin : (T k).2.2.2 = false) (hd : parseFieldDescriptor (T k).2.2.1 = some .boolean) (hset : ∀ g nv, isB nv → (fl g).set k (.int nv) = fl (upd g k nv)) (hz : isB nv) (hlen : k < (fl (G c0)).length) (hdg : decode cc pc = .ok (.putfield idx, 3))
    (kk : ∀ (H1 : Heap) (locs1 : List Loc), gH P s (wr G c0 k nv) H1 locs1 → W p l e R s m args below meth c H1 locs1 cells slots Q (F0 m (pc + 3) ls rest)) : W p l e R s m args below meth c H locs cells slots Q (F0 m pc ls (.int nv :: .ref (gad P c0) :: rest)) :=
  g_put E h hc hcl hct k hk hl hfin hd (fun g => hset g nv hz) hz.1 hz.2 hlen hdg kk
theorem g_pute {ci N idx : Nat} {C : String} {T : u_T} {ty0 : Nat → FieldType} {fl : (Nat → Int32) → List Value} {c0 : Nat} {nv : Int32} (E : gE p s m args meth c P own cc nL ret) (h : gH P s G H locs) (hc : c0 < 64 ∧ ∀ g, gc P c0 g = .inr (ci, fl g)) (hcl : gCl ci C T N) (hct : gCt C T N ty0) (k : Nat) (hk : k < N)
    (hl : Cond.fieldLink own idx (T k).1 (T k).2.1 (T k).2.2.1 ∈ GW) (hfin : (T k).2.2.2 = false) (hd : parseFieldDescriptor (T k).2.2.1 = some (.object "FramedLine$State")) (hset : ∀ g nv, (fl g).set k (.ref (gae P nv)) = fl (upd g k nv)) (hlen : k < (fl (G c0)).length) (hdg : decode cc pc = .ok (.putfield idx, 3))
    (kk : ∀ (H1 : Heap) (locs1 : List Loc), gH P s (wr G c0 k nv) H1 locs1 → W p l e R s m args below meth c H1 locs1 cells slots Q (F0 m (pc + 3) ls rest)) : W p l e R s m args below meth c H locs cells slots Q (F0 m pc ls (.ref (gae P nv) :: .ref (gad P c0) :: rest)) :=
  g_put E h hc hcl hct k hk hl hfin hd (fun g => hset g nv) rfl rfl hlen hdg kk
theorem g_iaload {c0 n k : Nat} {i v : Int32} (E : gE p s m args meth c P own cc nL ret) (h : gH P s G H locs) (hc : c0 < 64 ∧ ∀ g, gc P c0 g = .inl (gcI P, n, .inl g)) (hin : vp_in i n) (hk : i.toNatClampNeg = k) (hv : G c0 k = v) (hdg : decode cc pc = .ok (.iaload, 1))
    (kk : W p l e R s m args below meth c H locs cells slots Q (F0 m (pc + 1) ls (.int v :: rest))) : W p l e R s m args below meth c H locs cells slots Q (F0 m pc ls (.int i :: .ref (gad P c0) :: rest)) := by
  subst hk
  subst hv
  exact va_iald E.1 E.2.1 E.2.2.2.2.2.2.2.1 h.1 c0 0 (by rw [gw_at hc.1, hc.2]) rfl hin hdg kk
theorem g_baload {c0 n k : Nat} {i v : Int32} (E : gE p s m args meth c P own cc nL ret) (h : gH P s G H locs) (hc : c0 < 64 ∧ ∀ g, gc P c0 g = .inl (gcZ P, n, .inl g)) (hin : vp_in i n) (hk : i.toNatClampNeg = k) (hv : G c0 k = v) (hdg : decode cc pc = .ok (.baload, 1))
    (kk : W p l e R s m args below meth c H locs cells slots Q (F0 m (pc + 1) ls (.int v :: rest))) : W p l e R s m args below meth c H locs cells slots Q (F0 m pc ls (.int i :: .ref (gad P c0) :: rest)) := by
  subst hk
  subst hv
  exact va_zald E.1 E.2.1 E.2.2.2.2.2.2.2.1 h.1 c0 1 (by rw [gw_at hc.1, hc.2]) rfl hin hdg kk
theorem g_iastore {c0 n k : Nat} {i x : Int32} (E : gE p s m args meth c P own cc nL ret) (h : gH P s G H locs) (hc : c0 < 64 ∧ ∀ g, gc P c0 g = .inl (gcI P, n, .inl g)) (hin : vp_in i n) (hk : i.toNatClampNeg = k) (hdg : decode cc pc = .ok (.iastore, 1))
    (kk : ∀ (H1 : Heap) (locs1 : List Loc), gH P s (wr G c0 k x) H1 locs1 → W p l e R s m args below meth c H1 locs1 cells slots Q (F0 m (pc + 1) ls rest)) : W p l e R s m args below meth c H locs cells slots Q (F0 m pc ls (.int x :: .int i :: .ref (gad P c0) :: rest)) := by
  subst hk
  refine va_iast E.1 E.2.1 E.2.2.2.2.2.2.2.1 h.1 (gD_of E.2.2.2.2.2.2.2.2.1 G) h.2 c0 0 (by rw [gw_at hc.1, hc.2]) rfl hin hdg (fun H1 locs1 hP _ hS => kk H1 locs1 ⟨?_, hS⟩)
  rw [← hc.2, gw_set hc.1] at hP
  exact hP
theorem g_bastore {c0 n k : Nat} {i x : Int32} (E : gE p s m args meth c P own cc nL ret) (h : gH P s G H locs) (hc : c0 < 64 ∧ ∀ g, gc P c0 g = .inl (gcZ P, n, .inl g)) (hin : vp_in i n) (hk : i.toNatClampNeg = k) (hdg : decode cc pc = .ok (.bastore, 1))
    (kk : ∀ (H1 : Heap) (locs1 : List Loc), gH P s (wr G c0 k (zb x)) H1 locs1 → W p l e R s m args below meth c H1 locs1 cells slots Q (F0 m (pc + 1) ls rest)) : W p l e R s m args below meth c H locs cells slots Q (F0 m pc ls (.int x :: .int i :: .ref (gad P c0) :: rest)) := by
  subst hk
  refine va_zast E.1 E.2.1 E.2.2.2.2.2.2.2.1 h.1 (gD_of E.2.2.2.2.2.2.2.2.1 G) h.2 c0 1 (by rw [gw_at hc.1, hc.2]) rfl hin hdg (fun H1 locs1 hP _ hS => kk H1 locs1 ⟨?_, hS⟩)
  rw [← hc.2, gw_set hc.1] at hP
  exact hP
theorem g_acmp_ne {x y : Int32} {off : Int} {tgt : Nat} (E : gE p s m args meth c P own cc nL ret) (hb : c.code = cc) (hdg : decode cc pc = .ok (.if_acmp .ne off, 3)) (ht : (pc : Int) + off = (tgt : Int))
    (kt : ¬ n3 x = n3 y → W p l e R s m args below meth c H locs cells slots Q (F0 m tgt ls rest)) (kf : n3 x = n3 y → W p l e R s m args below meth c H locs cells slots Q (F0 m (pc + 3) ls rest)) : W p l e R s m args below meth c H locs cells slots Q (F0 m pc ls (.ref (gae P y) :: .ref (gae P x) :: rest)) := by
  have hinj := E.2.2.2.2.2.2.2.2.2.2.2
  have key : (some (gae P x) = some (gae P y)) ↔ n3 x = n3 y := by
    refine ⟨fun h => n3_eq.mp (hinj _ _ (n3n_lt x) (n3n_lt y) (Option.some.inj h)), fun h => ?_⟩
    unfold gae
    rw [n3_eq.mpr h]
  exact lv_acmp_ne (rx := some (gae P x)) (ry := some (gae P y)) E.1 hb hdg ht (fun h => kt (fun q => h (key.mpr q))) (fun h => kf (key.mp h))
theorem g_gets {idx : Nat} (E : gE p s m args meth c P own cc nL ret) (h : gH P s G H locs) (k : Nat) {x : Int32} (hk : k < 3) (hx : n3n x = k) (hl : Cond.fieldLink own idx "FramedLine$State" ((["SEARCHING", "TRYING", "ALIGNED"] : List String).getD k "") "LFramedLine$State;" ∈ GW) (hdg : decode cc pc = .ok (.getstatic idx, 3))
    (kk : W p l e R s m args below meth c H locs cells slots Q (F0 m (pc + 3) ls (.ref (gae P x) :: rest))) : W p l e R s m args below meth c H locs cells slots Q (F0 m pc ls rest) := by
  subst hx
  exact va_gets E.1 E.2.1 (E.2.2.2.2.2.2.2.2.2.2.1 _ hk).1 h.2 E.2.2.2.2.1 (E.2.2.2.2.2.1 _ hl) (fun _ q => q) hdg kk
theorem g_preV {c0 ci N : Nat} {C : String} {T : u_T} {fl : (Nat → Int32) → List Value} {As : List Value} (E : gE p s m args meth c P own cc nL ret) (h : gH P s G H locs) (hc : c0 < 64 ∧ ∀ g, gc P c0 g = .inr (ci, fl g)) (hcl : gCl ci C T N) : PreV s H C (gad P c0) (va_Pc (.ref (gad P c0) :: As) (gPre P G)) As :=
  ⟨gPre_blind, va_recv (q := (C, T, N)) E.2.2.2.2.2.2.2.1 h.1 hcl.1 (q0 := c0) (fs := fl (G c0)) (by rw [gw_at hc.1, hc.2]), fun U hU hW => ⟨rfl, by rw [hU]; exact h.1, gS_moved E.2.2.2.2.2.2.2 h.2 hU hW⟩⟩
theorem g_preS {As : List Value} (E : gE p s m args meth c P own cc nL ret) (h : gH P s G H locs) : PreS s H (va_Pc As (gPre P G)) As :=
  ⟨gPre_blind, fun U hU hW => ⟨rfl, by rw [hU]; exact h.1, gS_moved E.2.2.2.2.2.2.2 h.2 hU hW⟩⟩
theorem g_cb {y : MethodName} {cy : ByteArray} {my n idx : Nat} {ry : Option FieldType} {rm : Room} (hts : ∀ w ∈ GW, w.before args s = true) (L : Cond.code y cy my ry ∈ GW ∧ Cond.initialized y.cls ∈ GW ∧ (y.cls ≠ "java/lang/invoke/MethodHandle" ∧ y.cls ≠ "java/lang/invoke/VarHandle" ∧ (parseMethodDescriptor y.desc).map (fun d => d.parameters.length) = some n)) (hl : (Cond.methodLink own idx y).before args s = true) (hc : rm.cells = 0) (hs : rm.slots = 0) (hR : rm.frames + 1 ≤ R.frames ∧ 8 + (my + 11) + rm.locals ≤ R.locals) : CallB R s args own idx y cy my ry (Cond.code y cy my ry :: GW) rm 0 0 n :=
  callB_of n hts (GW_good (big := GW) (fun w h => (List.mem_cons.mp h).elim (fun q => by rw [q]; exact L.1) id)) rfl hc hs (hts _ L.2.1) hl L.2.2 hR

theorem g_endv {X : Mem} {st0 : List Value} {a : Array Value} (h : gH P s G H locs) (hr : va_Run p l e R s m args below meth c H locs cells slots 0 0 (F0 m pc ls st0) rest (va_Qv (fun u : Mem => X = u) (fun u t => va_P (gDD P) vwCl (gw P u) t.heap) (gA P) a) (gA P))
    (kk : ∀ (H1 : Heap) (locs1 : List Loc), gH P s X H1 locs1 → W p l e R s m args below meth c H1 locs1 cells slots Q (F0 m (pc + 3) ls rest)) : W p l e R s m args below meth c H locs cells slots Q (F0 m pc ls st0) :=
  va_callv hr h.2 (fun q _ z => z) (fun q z => z) (fun u t H1 locs1 ht _ hX hB _ _ hS => kk H1 locs1 ⟨by rw [hX, ← ht]; exact hB, hS⟩)
theorem g_endi {X : Int32 × Mem} {st0 : List Value} {a : Array Value} (h : gH P s G H locs) (hr : va_Run p l e R s m args below meth c H locs cells slots 0 0 (F0 m pc ls st0) rest (va_Qi (fun (r : Int32) (u : Mem) => X = (r, u)) (fun u t => va_P (gDD P) vwCl (gw P u) t.heap) (gA P) a) (gA P))
    (kk : ∀ (H1 : Heap) (locs1 : List Loc), gH P s X.2 H1 locs1 → W p l e R s m args below meth c H1 locs1 cells slots Q (F0 m (pc + 3) ls (.int X.1 :: rest))) : W p l e R s m args below meth c H locs cells slots Q (F0 m pc ls st0) :=
  va_calli hr h.2 (fun q _ z => z) (fun q z => z) (fun r u t H1 locs1 ht _ hX hB _ _ hS => by
    subst hX
    exact kk H1 locs1 ⟨by rw [← ht]; exact hB, hS⟩)
theorem g_endz {X : Int32 × Mem} {st0 : List Value} {a : Array Value} (h : gH P s G H locs) (hr : va_Run p l e R s m args below meth c H locs cells slots 0 0 (F0 m pc ls st0) rest (va_Qi (fun (r : Int32) (u : Mem) => X = (r, u) ∧ isB r) (fun u t => va_P (gDD P) vwCl (gw P u) t.heap) (gA P) a) (gA P))
    (kk : ∀ (H1 : Heap) (locs1 : List Loc), gH P s X.2 H1 locs1 → isB X.1 → W p l e R s m args below meth c H1 locs1 cells slots Q (F0 m (pc + 3) ls (.int X.1 :: rest))) : W p l e R s m args below meth c H locs cells slots Q (F0 m pc ls st0) :=
  va_calli hr h.2 (fun q _ z => z) (fun q z => z) (fun r u t H1 locs1 ht _ hX hB _ _ hS => by
    obtain ⟨hX, hz⟩ := hX
    subst hX
    exact kk H1 locs1 ⟨by rw [← ht]; exact hB, hS⟩ hz)
theorem g_callVv {y : MethodName} {cy : ByteArray} {my n idx : Nat} {ry : Option FieldType} {rm : Room} {lv : List (Nat × Value)} {st0 As : List Value} {X : Mem} {c0 ci N : Nat} {C : String} {T : u_T} {fl : (Nat → Int32) → List Value} (E : gE p s m args meth c P own cc nL ret) (h : gH P s G H locs) (hl : lv_has ls nL lv) (hM : gMv l y cy my ry rm (.ref (gad P c0) :: As) P G X) (L : gLV own C idx y cy my ry n) (hc : c0 < 64 ∧ ∀ g, gc P c0 g = .inr (ci, fl g)) (hcl : gCl ci C T N)
    (hF : rm.frames + 1 ≤ R.frames) (hL : 8 + (my + 11) + rm.locals ≤ R.locals) (hCe : cells ≤ R.cells) (hSl : slots ≤ R.slots) (hroom : (rest.map fun v => v.category).sum ≤ 8) (hc0 : rm.cells = 0) (hs0 : rm.slots = 0) (hn : As.length = n) (hst : st0 = As.reverse ++ .ref (gad P c0) :: rest) (hdg : decode cc pc = .ok (.invokevirtual idx, 3))
    (kk : ∀ (H1 : Heap) (locs1 : List Loc), gH P s X H1 locs1 → W p l e R s m args below meth c H1 locs1 cells slots Q (F0 m (pc + 3) ls rest)) : W p l e R s m args below meth c H locs cells slots Q (F0 m pc ls st0) :=
  g_endv h (va_runV ⟨E.1, E.2.1, E.2.2.2.1, E.2.2.2.2.1, E.2.2.2.2.2.1⟩ hM ⟨g_cb E.2.2.2.2.2.1 L.1 (E.2.2.2.2.2.1 _ L.2.1) hc0 hs0 ⟨hF, hL⟩, E.2.2.2.2.2.1 _ L.2.2.1, E.2.2.2.2.2.1 _ L.2.2.2⟩ (g_preV E h hc hcl) rfl hn hl.1 hst (lv_room hroom) hdg ⟨hCe, hSl⟩) kk
theorem g_callVi {y : MethodName} {cy : ByteArray} {my n idx : Nat} {ry : Option FieldType} {rm : Room} {lv : List (Nat × Value)} {st0 As : List Value} {X : Int32 × Mem} {c0 ci N : Nat} {C : String} {T : u_T} {fl : (Nat → Int32) → List Value} (E : gE p s m args meth c P own cc nL ret) (h : gH P s G H locs) (hl : lv_has ls nL lv) (hM : gMi l y cy my ry rm (.ref (gad P c0) :: As) P G X) (L : gLV own C idx y cy my ry n) (hc : c0 < 64 ∧ ∀ g, gc P c0 g = .inr (ci, fl g)) (hcl : gCl ci C T N)
    (hF : rm.frames + 1 ≤ R.frames) (hL : 8 + (my + 11) + rm.locals ≤ R.locals) (hCe : cells ≤ R.cells) (hSl : slots ≤ R.slots) (hroom : (rest.map fun v => v.category).sum ≤ 8) (hc0 : rm.cells = 0) (hs0 : rm.slots = 0) (hn : As.length = n) (hst : st0 = As.reverse ++ .ref (gad P c0) :: rest) (hdg : decode cc pc = .ok (.invokevirtual idx, 3))
    (kk : ∀ (H1 : Heap) (locs1 : List Loc), gH P s X.2 H1 locs1 → W p l e R s m args below meth c H1 locs1 cells slots Q (F0 m (pc + 3) ls (.int X.1 :: rest))) : W p l e R s m args below meth c H locs cells slots Q (F0 m pc ls st0) :=
  g_endi h (va_runV ⟨E.1, E.2.1, E.2.2.2.1, E.2.2.2.2.1, E.2.2.2.2.2.1⟩ hM ⟨g_cb E.2.2.2.2.2.1 L.1 (E.2.2.2.2.2.1 _ L.2.1) hc0 hs0 ⟨hF, hL⟩, E.2.2.2.2.2.1 _ L.2.2.1, E.2.2.2.2.2.1 _ L.2.2.2⟩ (g_preV E h hc hcl) rfl hn hl.1 hst (lv_room hroom) hdg ⟨hCe, hSl⟩) kk
theorem g_callVz {y : MethodName} {cy : ByteArray} {my n idx : Nat} {ry : Option FieldType} {rm : Room} {lv : List (Nat × Value)} {st0 As : List Value} {X : Int32 × Mem} {c0 ci N : Nat} {C : String} {T : u_T} {fl : (Nat → Int32) → List Value} (E : gE p s m args meth c P own cc nL ret) (h : gH P s G H locs) (hl : lv_has ls nL lv) (hM : gMz l y cy my ry rm (.ref (gad P c0) :: As) P G X) (L : gLV own C idx y cy my ry n) (hc : c0 < 64 ∧ ∀ g, gc P c0 g = .inr (ci, fl g)) (hcl : gCl ci C T N)
    (hF : rm.frames + 1 ≤ R.frames) (hL : 8 + (my + 11) + rm.locals ≤ R.locals) (hCe : cells ≤ R.cells) (hSl : slots ≤ R.slots) (hroom : (rest.map fun v => v.category).sum ≤ 8) (hc0 : rm.cells = 0) (hs0 : rm.slots = 0) (hn : As.length = n) (hst : st0 = As.reverse ++ .ref (gad P c0) :: rest) (hdg : decode cc pc = .ok (.invokevirtual idx, 3))
    (kk : ∀ (H1 : Heap) (locs1 : List Loc), gH P s X.2 H1 locs1 → isB X.1 → W p l e R s m args below meth c H1 locs1 cells slots Q (F0 m (pc + 3) ls (.int X.1 :: rest))) : W p l e R s m args below meth c H locs cells slots Q (F0 m pc ls st0) :=
  g_endz h (va_runV ⟨E.1, E.2.1, E.2.2.2.1, E.2.2.2.2.1, E.2.2.2.2.2.1⟩ hM ⟨g_cb E.2.2.2.2.2.1 L.1 (E.2.2.2.2.2.1 _ L.2.1) hc0 hs0 ⟨hF, hL⟩, E.2.2.2.2.2.1 _ L.2.2.1, E.2.2.2.2.2.1 _ L.2.2.2⟩ (g_preV E h hc hcl) rfl hn hl.1 hst (lv_room hroom) hdg ⟨hCe, hSl⟩) kk
theorem g_callVri {y : MethodName} {cy : ByteArray} {my n idx : Nat} {ry : Option FieldType} {rm : Room} {lv : List (Nat × Value)} {st0 As : List Value} {X : Int32} {c0 ci N : Nat} {C : String} {T : u_T} {fl : (Nat → Int32) → List Value} (E : gE p s m args meth c P own cc nL ret) (h : gH P s G H locs) (hl : lv_has ls nL lv) (hM : gMri l y cy my ry rm (.ref (gad P c0) :: As) P G X) (L : gLV own C idx y cy my ry n) (hc : c0 < 64 ∧ ∀ g, gc P c0 g = .inr (ci, fl g)) (hcl : gCl ci C T N)
    (hF : rm.frames + 1 ≤ R.frames) (hL : 8 + (my + 11) + rm.locals ≤ R.locals) (hCe : cells ≤ R.cells) (hSl : slots ≤ R.slots) (hroom : (rest.map fun v => v.category).sum ≤ 8) (hc0 : rm.cells = 0) (hs0 : rm.slots = 0) (hn : As.length = n) (hst : st0 = As.reverse ++ .ref (gad P c0) :: rest) (hdg : decode cc pc = .ok (.invokevirtual idx, 3))
    (kk : ∀ (H1 : Heap) (locs1 : List Loc), gH P s G H1 locs1 → W p l e R s m args below meth c H1 locs1 cells slots Q (F0 m (pc + 3) ls (.int X :: rest))) : W p l e R s m args below meth c H locs cells slots Q (F0 m pc ls st0) :=
  g_endi h (va_runV ⟨E.1, E.2.1, E.2.2.2.1, E.2.2.2.2.1, E.2.2.2.2.2.1⟩ hM ⟨g_cb E.2.2.2.2.2.1 L.1 (E.2.2.2.2.2.1 _ L.2.1) hc0 hs0 ⟨hF, hL⟩, E.2.2.2.2.2.1 _ L.2.2.1, E.2.2.2.2.2.1 _ L.2.2.2⟩ (g_preV E h hc hcl) rfl hn hl.1 hst (lv_room hroom) hdg ⟨hCe, hSl⟩) kk
theorem g_callVrz {y : MethodName} {cy : ByteArray} {my n idx : Nat} {ry : Option FieldType} {rm : Room} {lv : List (Nat × Value)} {st0 As : List Value} {X : Int32} {c0 ci N : Nat} {C : String} {T : u_T} {fl : (Nat → Int32) → List Value} (E : gE p s m args meth c P own cc nL ret) (h : gH P s G H locs) (hl : lv_has ls nL lv) (hM : gMrz l y cy my ry rm (.ref (gad P c0) :: As) P G X) (L : gLV own C idx y cy my ry n) (hc : c0 < 64 ∧ ∀ g, gc P c0 g = .inr (ci, fl g)) (hcl : gCl ci C T N)
    (hF : rm.frames + 1 ≤ R.frames) (hL : 8 + (my + 11) + rm.locals ≤ R.locals) (hCe : cells ≤ R.cells) (hSl : slots ≤ R.slots) (hroom : (rest.map fun v => v.category).sum ≤ 8) (hc0 : rm.cells = 0) (hs0 : rm.slots = 0) (hn : As.length = n) (hst : st0 = As.reverse ++ .ref (gad P c0) :: rest) (hdg : decode cc pc = .ok (.invokevirtual idx, 3))
    (kk : ∀ (H1 : Heap) (locs1 : List Loc), gH P s G H1 locs1 → isB X → W p l e R s m args below meth c H1 locs1 cells slots Q (F0 m (pc + 3) ls (.int X :: rest))) : W p l e R s m args below meth c H locs cells slots Q (F0 m pc ls st0) :=
  g_endz h (va_runV ⟨E.1, E.2.1, E.2.2.2.1, E.2.2.2.2.1, E.2.2.2.2.2.1⟩ hM ⟨g_cb E.2.2.2.2.2.1 L.1 (E.2.2.2.2.2.1 _ L.2.1) hc0 hs0 ⟨hF, hL⟩, E.2.2.2.2.2.1 _ L.2.2.1, E.2.2.2.2.2.1 _ L.2.2.2⟩ (g_preV E h hc hcl) rfl hn hl.1 hst (lv_room hroom) hdg ⟨hCe, hSl⟩) kk
theorem g_callSv {y : MethodName} {cy : ByteArray} {my n idx : Nat} {ry : Option FieldType} {rm : Room} {lv : List (Nat × Value)} {st0 As : List Value} {X : Mem} (E : gE p s m args meth c P own cc nL ret) (h : gH P s G H locs) (hl : lv_has ls nL lv) (hM : gMv l y cy my ry rm As P G X) (L : gLS own idx y cy my ry n)
    (hF : rm.frames + 1 ≤ R.frames) (hL : 8 + (my + 11) + rm.locals ≤ R.locals) (hCe : cells ≤ R.cells) (hSl : slots ≤ R.slots) (hroom : (rest.map fun v => v.category).sum ≤ 8) (hc0 : rm.cells = 0) (hs0 : rm.slots = 0) (hn : As.length = n) (hst : st0 = As.reverse ++ rest) (hdg : decode cc pc = .ok (.invokestatic idx, 3))
    (kk : ∀ (H1 : Heap) (locs1 : List Loc), gH P s X H1 locs1 → W p l e R s m args below meth c H1 locs1 cells slots Q (F0 m (pc + 3) ls rest)) : W p l e R s m args below meth c H locs cells slots Q (F0 m pc ls st0) :=
  g_endv h (va_runS ⟨E.1, E.2.1, E.2.2.2.1, E.2.2.2.2.1, E.2.2.2.2.2.1⟩ hM ⟨g_cb E.2.2.2.2.2.1 L.1 (E.2.2.2.2.2.1 _ L.2.1) hc0 hs0 ⟨hF, hL⟩, E.2.2.2.2.2.1 _ L.2.2⟩ (g_preS E h) rfl hn hl.1 hst (lv_room hroom) hdg ⟨hCe, hSl⟩) kk
theorem g_callSi {y : MethodName} {cy : ByteArray} {my n idx : Nat} {ry : Option FieldType} {rm : Room} {lv : List (Nat × Value)} {st0 As : List Value} {X : Int32 × Mem} (E : gE p s m args meth c P own cc nL ret) (h : gH P s G H locs) (hl : lv_has ls nL lv) (hM : gMi l y cy my ry rm As P G X) (L : gLS own idx y cy my ry n)
    (hF : rm.frames + 1 ≤ R.frames) (hL : 8 + (my + 11) + rm.locals ≤ R.locals) (hCe : cells ≤ R.cells) (hSl : slots ≤ R.slots) (hroom : (rest.map fun v => v.category).sum ≤ 8) (hc0 : rm.cells = 0) (hs0 : rm.slots = 0) (hn : As.length = n) (hst : st0 = As.reverse ++ rest) (hdg : decode cc pc = .ok (.invokestatic idx, 3))
    (kk : ∀ (H1 : Heap) (locs1 : List Loc), gH P s X.2 H1 locs1 → W p l e R s m args below meth c H1 locs1 cells slots Q (F0 m (pc + 3) ls (.int X.1 :: rest))) : W p l e R s m args below meth c H locs cells slots Q (F0 m pc ls st0) :=
  g_endi h (va_runS ⟨E.1, E.2.1, E.2.2.2.1, E.2.2.2.2.1, E.2.2.2.2.2.1⟩ hM ⟨g_cb E.2.2.2.2.2.1 L.1 (E.2.2.2.2.2.1 _ L.2.1) hc0 hs0 ⟨hF, hL⟩, E.2.2.2.2.2.1 _ L.2.2⟩ (g_preS E h) rfl hn hl.1 hst (lv_room hroom) hdg ⟨hCe, hSl⟩) kk
theorem g_callSz {y : MethodName} {cy : ByteArray} {my n idx : Nat} {ry : Option FieldType} {rm : Room} {lv : List (Nat × Value)} {st0 As : List Value} {X : Int32 × Mem} (E : gE p s m args meth c P own cc nL ret) (h : gH P s G H locs) (hl : lv_has ls nL lv) (hM : gMz l y cy my ry rm As P G X) (L : gLS own idx y cy my ry n)
    (hF : rm.frames + 1 ≤ R.frames) (hL : 8 + (my + 11) + rm.locals ≤ R.locals) (hCe : cells ≤ R.cells) (hSl : slots ≤ R.slots) (hroom : (rest.map fun v => v.category).sum ≤ 8) (hc0 : rm.cells = 0) (hs0 : rm.slots = 0) (hn : As.length = n) (hst : st0 = As.reverse ++ rest) (hdg : decode cc pc = .ok (.invokestatic idx, 3))
    (kk : ∀ (H1 : Heap) (locs1 : List Loc), gH P s X.2 H1 locs1 → isB X.1 → W p l e R s m args below meth c H1 locs1 cells slots Q (F0 m (pc + 3) ls (.int X.1 :: rest))) : W p l e R s m args below meth c H locs cells slots Q (F0 m pc ls st0) :=
  g_endz h (va_runS ⟨E.1, E.2.1, E.2.2.2.1, E.2.2.2.2.1, E.2.2.2.2.2.1⟩ hM ⟨g_cb E.2.2.2.2.2.1 L.1 (E.2.2.2.2.2.1 _ L.2.1) hc0 hs0 ⟨hF, hL⟩, E.2.2.2.2.2.1 _ L.2.2⟩ (g_preS E h) rfl hn hl.1 hst (lv_room hroom) hdg ⟨hCe, hSl⟩) kk
theorem g_callSri {y : MethodName} {cy : ByteArray} {my n idx : Nat} {ry : Option FieldType} {rm : Room} {lv : List (Nat × Value)} {st0 As : List Value} {X : Int32} (E : gE p s m args meth c P own cc nL ret) (h : gH P s G H locs) (hl : lv_has ls nL lv) (hM : gMri l y cy my ry rm As P G X) (L : gLS own idx y cy my ry n)
    (hF : rm.frames + 1 ≤ R.frames) (hL : 8 + (my + 11) + rm.locals ≤ R.locals) (hCe : cells ≤ R.cells) (hSl : slots ≤ R.slots) (hroom : (rest.map fun v => v.category).sum ≤ 8) (hc0 : rm.cells = 0) (hs0 : rm.slots = 0) (hn : As.length = n) (hst : st0 = As.reverse ++ rest) (hdg : decode cc pc = .ok (.invokestatic idx, 3))
    (kk : ∀ (H1 : Heap) (locs1 : List Loc), gH P s G H1 locs1 → W p l e R s m args below meth c H1 locs1 cells slots Q (F0 m (pc + 3) ls (.int X :: rest))) : W p l e R s m args below meth c H locs cells slots Q (F0 m pc ls st0) :=
  g_endi h (va_runS ⟨E.1, E.2.1, E.2.2.2.1, E.2.2.2.2.1, E.2.2.2.2.2.1⟩ hM ⟨g_cb E.2.2.2.2.2.1 L.1 (E.2.2.2.2.2.1 _ L.2.1) hc0 hs0 ⟨hF, hL⟩, E.2.2.2.2.2.1 _ L.2.2⟩ (g_preS E h) rfl hn hl.1 hst (lv_room hroom) hdg ⟨hCe, hSl⟩) kk
theorem g_callSrz {y : MethodName} {cy : ByteArray} {my n idx : Nat} {ry : Option FieldType} {rm : Room} {lv : List (Nat × Value)} {st0 As : List Value} {X : Int32} (E : gE p s m args meth c P own cc nL ret) (h : gH P s G H locs) (hl : lv_has ls nL lv) (hM : gMrz l y cy my ry rm As P G X) (L : gLS own idx y cy my ry n)
    (hF : rm.frames + 1 ≤ R.frames) (hL : 8 + (my + 11) + rm.locals ≤ R.locals) (hCe : cells ≤ R.cells) (hSl : slots ≤ R.slots) (hroom : (rest.map fun v => v.category).sum ≤ 8) (hc0 : rm.cells = 0) (hs0 : rm.slots = 0) (hn : As.length = n) (hst : st0 = As.reverse ++ rest) (hdg : decode cc pc = .ok (.invokestatic idx, 3))
    (kk : ∀ (H1 : Heap) (locs1 : List Loc), gH P s G H1 locs1 → isB X → W p l e R s m args below meth c H1 locs1 cells slots Q (F0 m (pc + 3) ls (.int X :: rest))) : W p l e R s m args below meth c H locs cells slots Q (F0 m pc ls st0) :=
  g_endz h (va_runS ⟨E.1, E.2.1, E.2.2.2.1, E.2.2.2.2.1, E.2.2.2.2.2.1⟩ hM ⟨g_cb E.2.2.2.2.2.1 L.1 (E.2.2.2.2.2.1 _ L.2.1) hc0 hs0 ⟨hF, hL⟩, E.2.2.2.2.2.1 _ L.2.2⟩ (g_preS E h) rfl hn hl.1 hst (lv_room hroom) hdg ⟨hCe, hSl⟩) kk
theorem g_cn {y : MethodName} {cy : ByteArray} {my n idx : Nat} {host : String} {ry : Option FieldType} {rm : Room} (hts : ∀ w ∈ GW, w.before args s = true) (L : Cond.code y cy my ry ∈ GW ∧ Cond.initialized y.cls ∈ GW ∧ (y.cls ≠ "java/lang/invoke/MethodHandle" ∧ y.cls ≠ "java/lang/invoke/VarHandle" ∧ (parseMethodDescriptor y.desc).map (fun d => d.parameters.length) = some n)) (hl : va_Nw (.methodLinkNest own idx y host) s) (hc : rm.cells = 0) (hs : rm.slots = 0) (hR : rm.frames + 1 ≤ R.frames ∧ 8 + (my + 11) + rm.locals ≤ R.locals) : va_CN R s args own idx y host cy my ry (Cond.code y cy my ry :: GW) rm 0 0 n :=
  va_cnB n hts (GW_good (big := GW) (fun w h => (List.mem_cons.mp h).elim (fun q => by rw [q]; exact L.1) id)) rfl hc hs hl (hts _ L.2.1) L.2.2 hR
theorem g_callSNv {y : MethodName} {cy : ByteArray} {my n idx : Nat} {ry : Option FieldType} {rm : Room} {lv : List (Nat × Value)} {st0 As : List Value} {X : Mem} {host : String} (E : gE p s m args meth c P own cc nL ret) (h : gH P s G H locs) (hl : lv_has ls nL lv) (hM : gMv l y cy my ry rm As P G X) (L : gLSN own host idx y cy my ry n)
    (hF : rm.frames + 1 ≤ R.frames) (hL : 8 + (my + 11) + rm.locals ≤ R.locals) (hCe : cells ≤ R.cells) (hSl : slots ≤ R.slots) (hroom : (rest.map fun v => v.category).sum ≤ 8) (hc0 : rm.cells = 0) (hs0 : rm.slots = 0) (hn : As.length = n) (hst : st0 = As.reverse ++ rest) (hdg : decode cc pc = .ok (.invokestatic idx, 3))
    (kk : ∀ (H1 : Heap) (locs1 : List Loc), gH P s X H1 locs1 → W p l e R s m args below meth c H1 locs1 cells slots Q (F0 m (pc + 3) ls rest)) : W p l e R s m args below meth c H locs cells slots Q (F0 m pc ls st0) :=
  g_endv h (va_runSN ⟨E.1, E.2.1, E.2.2.2.1, E.2.2.2.2.1, E.2.2.2.2.2.1⟩ hM ⟨g_cn E.2.2.2.2.2.1 L.1 (E.2.2.2.2.2.2.2.2.2.1 _ L.2.1) hc0 hs0 ⟨hF, hL⟩, E.2.2.2.2.2.1 _ L.2.2, trivial⟩ (g_preS E h) rfl hn hl.1 hst (lv_room hroom) hdg ⟨hCe, hSl⟩) kk
theorem g_callSNi {y : MethodName} {cy : ByteArray} {my n idx : Nat} {ry : Option FieldType} {rm : Room} {lv : List (Nat × Value)} {st0 As : List Value} {X : Int32 × Mem} {host : String} (E : gE p s m args meth c P own cc nL ret) (h : gH P s G H locs) (hl : lv_has ls nL lv) (hM : gMi l y cy my ry rm As P G X) (L : gLSN own host idx y cy my ry n)
    (hF : rm.frames + 1 ≤ R.frames) (hL : 8 + (my + 11) + rm.locals ≤ R.locals) (hCe : cells ≤ R.cells) (hSl : slots ≤ R.slots) (hroom : (rest.map fun v => v.category).sum ≤ 8) (hc0 : rm.cells = 0) (hs0 : rm.slots = 0) (hn : As.length = n) (hst : st0 = As.reverse ++ rest) (hdg : decode cc pc = .ok (.invokestatic idx, 3))
    (kk : ∀ (H1 : Heap) (locs1 : List Loc), gH P s X.2 H1 locs1 → W p l e R s m args below meth c H1 locs1 cells slots Q (F0 m (pc + 3) ls (.int X.1 :: rest))) : W p l e R s m args below meth c H locs cells slots Q (F0 m pc ls st0) :=
  g_endi h (va_runSN ⟨E.1, E.2.1, E.2.2.2.1, E.2.2.2.2.1, E.2.2.2.2.2.1⟩ hM ⟨g_cn E.2.2.2.2.2.1 L.1 (E.2.2.2.2.2.2.2.2.2.1 _ L.2.1) hc0 hs0 ⟨hF, hL⟩, E.2.2.2.2.2.1 _ L.2.2, trivial⟩ (g_preS E h) rfl hn hl.1 hst (lv_room hroom) hdg ⟨hCe, hSl⟩) kk
theorem g_callSNz {y : MethodName} {cy : ByteArray} {my n idx : Nat} {ry : Option FieldType} {rm : Room} {lv : List (Nat × Value)} {st0 As : List Value} {X : Int32 × Mem} {host : String} (E : gE p s m args meth c P own cc nL ret) (h : gH P s G H locs) (hl : lv_has ls nL lv) (hM : gMz l y cy my ry rm As P G X) (L : gLSN own host idx y cy my ry n)
    (hF : rm.frames + 1 ≤ R.frames) (hL : 8 + (my + 11) + rm.locals ≤ R.locals) (hCe : cells ≤ R.cells) (hSl : slots ≤ R.slots) (hroom : (rest.map fun v => v.category).sum ≤ 8) (hc0 : rm.cells = 0) (hs0 : rm.slots = 0) (hn : As.length = n) (hst : st0 = As.reverse ++ rest) (hdg : decode cc pc = .ok (.invokestatic idx, 3))
    (kk : ∀ (H1 : Heap) (locs1 : List Loc), gH P s X.2 H1 locs1 → isB X.1 → W p l e R s m args below meth c H1 locs1 cells slots Q (F0 m (pc + 3) ls (.int X.1 :: rest))) : W p l e R s m args below meth c H locs cells slots Q (F0 m pc ls st0) :=
  g_endz h (va_runSN ⟨E.1, E.2.1, E.2.2.2.1, E.2.2.2.2.1, E.2.2.2.2.2.1⟩ hM ⟨g_cn E.2.2.2.2.2.1 L.1 (E.2.2.2.2.2.2.2.2.2.1 _ L.2.1) hc0 hs0 ⟨hF, hL⟩, E.2.2.2.2.2.1 _ L.2.2, trivial⟩ (g_preS E h) rfl hn hl.1 hst (lv_room hroom) hdg ⟨hCe, hSl⟩) kk
theorem g_callSNri {y : MethodName} {cy : ByteArray} {my n idx : Nat} {ry : Option FieldType} {rm : Room} {lv : List (Nat × Value)} {st0 As : List Value} {X : Int32} {host : String} (E : gE p s m args meth c P own cc nL ret) (h : gH P s G H locs) (hl : lv_has ls nL lv) (hM : gMri l y cy my ry rm As P G X) (L : gLSN own host idx y cy my ry n)
    (hF : rm.frames + 1 ≤ R.frames) (hL : 8 + (my + 11) + rm.locals ≤ R.locals) (hCe : cells ≤ R.cells) (hSl : slots ≤ R.slots) (hroom : (rest.map fun v => v.category).sum ≤ 8) (hc0 : rm.cells = 0) (hs0 : rm.slots = 0) (hn : As.length = n) (hst : st0 = As.reverse ++ rest) (hdg : decode cc pc = .ok (.invokestatic idx, 3))
    (kk : ∀ (H1 : Heap) (locs1 : List Loc), gH P s G H1 locs1 → W p l e R s m args below meth c H1 locs1 cells slots Q (F0 m (pc + 3) ls (.int X :: rest))) : W p l e R s m args below meth c H locs cells slots Q (F0 m pc ls st0) :=
  g_endi h (va_runSN ⟨E.1, E.2.1, E.2.2.2.1, E.2.2.2.2.1, E.2.2.2.2.2.1⟩ hM ⟨g_cn E.2.2.2.2.2.1 L.1 (E.2.2.2.2.2.2.2.2.2.1 _ L.2.1) hc0 hs0 ⟨hF, hL⟩, E.2.2.2.2.2.1 _ L.2.2, trivial⟩ (g_preS E h) rfl hn hl.1 hst (lv_room hroom) hdg ⟨hCe, hSl⟩) kk
theorem g_callSNrz {y : MethodName} {cy : ByteArray} {my n idx : Nat} {ry : Option FieldType} {rm : Room} {lv : List (Nat × Value)} {st0 As : List Value} {X : Int32} {host : String} (E : gE p s m args meth c P own cc nL ret) (h : gH P s G H locs) (hl : lv_has ls nL lv) (hM : gMrz l y cy my ry rm As P G X) (L : gLSN own host idx y cy my ry n)
    (hF : rm.frames + 1 ≤ R.frames) (hL : 8 + (my + 11) + rm.locals ≤ R.locals) (hCe : cells ≤ R.cells) (hSl : slots ≤ R.slots) (hroom : (rest.map fun v => v.category).sum ≤ 8) (hc0 : rm.cells = 0) (hs0 : rm.slots = 0) (hn : As.length = n) (hst : st0 = As.reverse ++ rest) (hdg : decode cc pc = .ok (.invokestatic idx, 3))
    (kk : ∀ (H1 : Heap) (locs1 : List Loc), gH P s G H1 locs1 → isB X → W p l e R s m args below meth c H1 locs1 cells slots Q (F0 m (pc + 3) ls (.int X :: rest))) : W p l e R s m args below meth c H locs cells slots Q (F0 m pc ls st0) :=
  g_endz h (va_runSN ⟨E.1, E.2.1, E.2.2.2.1, E.2.2.2.2.1, E.2.2.2.2.2.1⟩ hM ⟨g_cn E.2.2.2.2.2.1 L.1 (E.2.2.2.2.2.2.2.2.2.1 _ L.2.1) hc0 hs0 ⟨hF, hL⟩, E.2.2.2.2.2.1 _ L.2.2, trivial⟩ (g_preS E h) rfl hn hl.1 hst (lv_room hroom) hdg ⟨hCe, hSl⟩) kk
theorem g_vret {X : Mem} (E : gE p s m args meth c P own cc nL none) (h : gH P s G H locs) (hX : X = G) (hdg : decode cc pc = .ok (.return_, 1)) : W p l e R s m args below meth c H locs cells slots (MQ below (va_Qv (fun u : Mem => X = u) (fun u t => va_P (gDD P) vwCl (gw P u) t.heap) (gA P)) args s cells slots (gA P)) (F0 m pc ls []) :=
  W.vret E.1 E.2.1 E.2.2.1 (fun t ht _ => ⟨⟨G, rfl, hX, by show va_P _ _ _ t.heap; rw [ht]; exact h.1⟩, h.2.F ht⟩) h.2.2.2 hdg E.2.2.2.2.2.2.1
theorem g_iret {X : Int32 × Mem} {v : Int32} (E : gE p s m args meth c P own cc nL (some .int)) (h : gH P s G H locs) (hX : X = (v, G)) (hdg : decode cc pc = .ok (.ireturn, 1)) : W p l e R s m args below meth c H locs cells slots (MQ below (va_Qi (fun (r : Int32) (u : Mem) => X = (r, u)) (fun u t => va_P (gDD P) vwCl (gw P u) t.heap) (gA P)) args s cells slots (gA P)) (F0 m pc ls [.int v]) :=
  W.iret E.1 E.2.1 E.2.2.1 (fun t ht _ => ⟨⟨v, G, rfl, hX, by show va_P _ _ _ t.heap; rw [ht]; exact h.1⟩, h.2.F ht⟩) h.2.2.2 hdg E.2.2.2.2.2.2.1
theorem g_zret {X : Int32 × Mem} {v : Int32} (E : gE p s m args meth c P own cc nL (some .boolean)) (h : gH P s G H locs) (hX : X = (v, G)) (hz : isB v) (hdg : decode cc pc = .ok (.ireturn, 1)) : W p l e R s m args below meth c H locs cells slots (MQ below (va_Qi (fun (r : Int32) (u : Mem) => X = (r, u) ∧ isB r) (fun u t => va_P (gDD P) vwCl (gw P u) t.heap) (gA P)) args s cells slots (gA P)) (F0 m pc ls [.int v]) :=
  W.zret E.1 E.2.1 E.2.2.1 hz.1 (fun t ht _ => ⟨⟨v, G, rfl, ⟨hX, hz⟩, by show va_P _ _ _ t.heap; rw [ht]; exact h.1⟩, h.2.F ht⟩) h.2.2.2 hdg E.2.2.2.2.2.2.1
theorem g_riret {X : Int32} {v : Int32} (E : gE p s m args meth c P own cc nL (some .int)) (h : gH P s G H locs) (hX : X = v) (hdg : decode cc pc = .ok (.ireturn, 1)) : W p l e R s m args below meth c H locs cells slots (MQ below (va_Qi (fun (r : Int32) (u : Mem) => (X, G) = (r, u)) (fun u t => va_P (gDD P) vwCl (gw P u) t.heap) (gA P)) args s cells slots (gA P)) (F0 m pc ls [.int v]) := g_iret E h (by rw [hX]) hdg
theorem g_rzret {X : Int32} {v : Int32} (E : gE p s m args meth c P own cc nL (some .boolean)) (h : gH P s G H locs) (hX : X = v) (hz : isB v) (hdg : decode cc pc = .ok (.ireturn, 1)) : W p l e R s m args below meth c H locs cells slots (MQ below (va_Qi (fun (r : Int32) (u : Mem) => (X, G) = (r, u) ∧ isB r) (fun u t => va_P (gDD P) vwCl (gw P u) t.heap) (gA P)) args s cells slots (gA P)) (F0 m pc ls [.int v]) := g_zret E h (by rw [hX]) hz hdg
end GR
abbrev b_A_init : ByteArray := prog_2_method_1_code
def y_A_init : MethodName := ⟨"FramedLine$Arrivals", "<init>", "()V"⟩
abbrev b_A_change : ByteArray := prog_2_method_2_code
def y_A_change : MethodName := ⟨"FramedLine$Arrivals", "change", "(II)Z"⟩
abbrev b_A_doubleNext : ByteArray := prog_2_method_3_code
def y_A_doubleNext : MethodName := ⟨"FramedLine$Arrivals", "doubleNext", "()Z"⟩
abbrev b_A_asItComes : ByteArray := prog_2_method_4_code
def y_A_asItComes : MethodName := ⟨"FramedLine$Arrivals", "asItComes", "(II)I"⟩
abbrev b_A_comings : ByteArray := prog_2_method_5_code
def y_A_comings : MethodName := ⟨"FramedLine$Arrivals", "comings", "()I"⟩
abbrev b_A_placeOf : ByteArray := prog_2_method_6_code
def y_A_placeOf : MethodName := ⟨"FramedLine$Arrivals", "placeOf", "(I)I"⟩
abbrev b_D_init : ByteArray := prog_3_method_1_code
def y_D_init : MethodName := ⟨"FramedLine$Decoder", "<init>", "()V"⟩
abbrev b_D_bitBehind : ByteArray := prog_3_method_2_code
def y_D_bitBehind : MethodName := ⟨"FramedLine$Decoder", "bitBehind", "(I)I"⟩
abbrev b_D_takeZero : ByteArray := prog_3_method_3_code
def y_D_takeZero : MethodName := ⟨"FramedLine$Decoder", "takeZero", "()V"⟩
abbrev b_D_takePulse : ByteArray := prog_3_method_4_code
def y_D_takePulse : MethodName := ⟨"FramedLine$Decoder", "takePulse", "(I)V"⟩
abbrev b_D_takeV : ByteArray := prog_3_method_5_code
def y_D_takeV : MethodName := ⟨"FramedLine$Decoder", "takeV", "(I)V"⟩
abbrev b_E_init : ByteArray := prog_4_method_1_code
def y_E_init : MethodName := ⟨"FramedLine$Encoder", "<init>", "()V"⟩
abbrev b_E_symbolBehind : ByteArray := prog_4_method_2_code
def y_E_symbolBehind : MethodName := ⟨"FramedLine$Encoder", "symbolBehind", "(I)I"⟩
abbrev b_E_pulseOfOne : ByteArray := prog_4_method_3_code
def y_E_pulseOfOne : MethodName := ⟨"FramedLine$Encoder", "pulseOfOne", "()I"⟩
abbrev b_E_symbolOfZero : ByteArray := prog_4_method_4_code
def y_E_symbolOfZero : MethodName := ⟨"FramedLine$Encoder", "symbolOfZero", "()I"⟩
abbrev b_N_init : ByteArray := prog_5_method_1_code
def y_N_init : MethodName := ⟨"FramedLine$End", "<init>", "()V"⟩
abbrev b_N_send : ByteArray := prog_5_method_2_code
def y_N_send : MethodName := ⟨"FramedLine$End", "send", "()I"⟩
abbrev b_N_receive : ByteArray := prog_5_method_3_code
def y_N_receive : MethodName := ⟨"FramedLine$End", "receive", "(II)V"⟩
abbrev b_R_init : ByteArray := prog_6_method_1_code
def y_R_init : MethodName := ⟨"FramedLine$Receiver", "<init>", "()V"⟩
abbrev b_R_isAligned : ByteArray := prog_6_method_2_code
def y_R_isAligned : MethodName := ⟨"FramedLine$Receiver", "isAligned", "()Z"⟩
abbrev b_R_byteOf : ByteArray := prog_6_method_3_code
def y_R_byteOf : MethodName := ⟨"FramedLine$Receiver", "byteOf", "(I)I"⟩
abbrev b_R_takeBit : ByteArray := prog_6_method_4_code
def y_R_takeBit : MethodName := ⟨"FramedLine$Receiver", "takeBit", "(I)V"⟩
abbrev b_R_search : ByteArray := prog_6_method_5_code
def y_R_search : MethodName := ⟨"FramedLine$Receiver", "search", "()V"⟩
abbrev b_R_tryWord : ByteArray := prog_6_method_6_code
def y_R_tryWord : MethodName := ⟨"FramedLine$Receiver", "tryWord", "(I)V"⟩
abbrev b_R_align : ByteArray := prog_6_method_7_code
def y_R_align : MethodName := ⟨"FramedLine$Receiver", "align", "()V"⟩
abbrev b_R_lookAtWord : ByteArray := prog_6_method_8_code
def y_R_lookAtWord : MethodName := ⟨"FramedLine$Receiver", "lookAtWord", "()V"⟩
abbrev b_R_complete : ByteArray := prog_6_method_9_code
def y_R_complete : MethodName := ⟨"FramedLine$Receiver", "complete", "()V"⟩
abbrev b_R_wordStands : ByteArray := prog_6_method_10_code
def y_R_wordStands : MethodName := ⟨"FramedLine$Receiver", "wordStands", "()Z"⟩
abbrev b_R_enter : ByteArray := prog_6_method_11_code
def y_R_enter : MethodName := ⟨"FramedLine$Receiver", "enter", "(LFramedLine$State;)V"⟩
abbrev b_O_init : ByteArray := prog_7_method_1_code
def y_O_init : MethodName := ⟨"FramedLine$Rounds", "<init>", "()V"⟩
abbrev b_O_startAnew : ByteArray := prog_7_method_2_code
def y_O_startAnew : MethodName := ⟨"FramedLine$Rounds", "startAnew", "()V"⟩
abbrev b_O_takeFrame : ByteArray := prog_7_method_3_code
def y_O_takeFrame : MethodName := ⟨"FramedLine$Rounds", "takeFrame", "(IZ)V"⟩
abbrev b_O_findNumber : ByteArray := prog_7_method_4_code
def y_O_findNumber : MethodName := ⟨"FramedLine$Rounds", "findNumber", "(Z)V"⟩
abbrev b_O_judgeRoundWord : ByteArray := prog_7_method_5_code
def y_O_judgeRoundWord : MethodName := ⟨"FramedLine$Rounds", "judgeRoundWord", "()V"⟩
abbrev b_O_endHalf : ByteArray := prog_7_method_6_code
def y_O_endHalf : MethodName := ⟨"FramedLine$Rounds", "endHalf", "()V"⟩
abbrev b_O_judgeHalfBefore : ByteArray := prog_7_method_7_code
def y_O_judgeHalfBefore : MethodName := ⟨"FramedLine$Rounds", "judgeHalfBefore", "()V"⟩
abbrev b_O_forgetNumber : ByteArray := prog_7_method_8_code
def y_O_forgetNumber : MethodName := ⟨"FramedLine$Rounds", "forgetNumber", "()V"⟩
abbrev b_S_init : ByteArray := prog_8_method_1_code
def y_S_init : MethodName := ⟨"FramedLine$Sender", "<init>", "()V"⟩
abbrev b_S_exchange : ByteArray := prog_8_method_2_code
def y_S_exchange : MethodName := ⟨"FramedLine$Sender", "exchange", "(II)I"⟩
abbrev b_S_isBetweenFrames : ByteArray := prog_8_method_3_code
def y_S_isBetweenFrames : MethodName := ⟨"FramedLine$Sender", "isBetweenFrames", "()Z"⟩
abbrev b_S_beginFrame : ByteArray := prog_8_method_4_code
def y_S_beginFrame : MethodName := ⟨"FramedLine$Sender", "beginFrame", "(LFramedLine$Receiver;)V"⟩
abbrev b_S_nextBit : ByteArray := prog_8_method_5_code
def y_S_nextBit : MethodName := ⟨"FramedLine$Sender", "nextBit", "()I"⟩
abbrev b_S_evenSlotZero : ByteArray := prog_8_method_6_code
def y_S_evenSlotZero : MethodName := ⟨"FramedLine$Sender", "evenSlotZero", "()I"⟩
abbrev b_S_oddSlotZero : ByteArray := prog_8_method_7_code
def y_S_oddSlotZero : MethodName := ⟨"FramedLine$Sender", "oddSlotZero", "(LFramedLine$Receiver;)I"⟩
abbrev b_S_firstBitOfOdd : ByteArray := prog_8_method_8_code
def y_S_firstBitOfOdd : MethodName := ⟨"FramedLine$Sender", "firstBitOfOdd", "(LFramedLine$Rounds;)I"⟩
abbrev b_F_init : ByteArray := prog_1_method_1_code
def y_F_init : MethodName := ⟨"FramedLine", "<init>", "()V"⟩
abbrev b_F_load : ByteArray := prog_1_method_2_code
def y_F_load : MethodName := ⟨"FramedLine", "load", "(III)I"⟩
abbrev b_F_disturb : ByteArray := prog_1_method_3_code
def y_F_disturb : MethodName := ⟨"FramedLine", "disturb", "(III)I"⟩
abbrev b_F_slip : ByteArray := prog_1_method_4_code
def y_F_slip : MethodName := ⟨"FramedLine", "slip", "(I)Z"⟩
abbrev b_F_pass : ByteArray := prog_1_method_5_code
def y_F_pass : MethodName := ⟨"FramedLine", "pass", "(I)I"⟩
abbrev b_F_symbol : ByteArray := prog_1_method_6_code
def y_F_symbol : MethodName := ⟨"FramedLine", "symbol", "(I)I"⟩
abbrev b_F_aligned : ByteArray := prog_1_method_7_code
def y_F_aligned : MethodName := ⟨"FramedLine", "aligned", "(I)Z"⟩
abbrev b_F_frame : ByteArray := prog_1_method_8_code
def y_F_frame : MethodName := ⟨"FramedLine", "frame", "(I)I"⟩
abbrev b_F_slot : ByteArray := prog_1_method_9_code
def y_F_slot : MethodName := ⟨"FramedLine", "slot", "(II)I"⟩
abbrev b_F_alarm : ByteArray := prog_1_method_10_code
def y_F_alarm : MethodName := ⟨"FramedLine", "alarm", "(I)Z"⟩
abbrev b_F_count : ByteArray := prog_1_method_11_code
def y_F_count : MethodName := ⟨"FramedLine", "count", "(II)I"⟩
abbrev b_F_endOf : ByteArray := prog_1_method_12_code
def y_F_endOf : MethodName := ⟨"FramedLine", "endOf", "(I)LFramedLine$End;"⟩
abbrev b_F_require : ByteArray := prog_1_method_13_code
def y_F_require : MethodName := ⟨"FramedLine", "require", "(Z)V"⟩
abbrev b_F_checkOver : ByteArray := prog_1_method_14_code
def y_F_checkOver : MethodName := ⟨"FramedLine", "checkOver", "(II)I"⟩
abbrev b_F_endsHalf : ByteArray := prog_1_method_15_code
def y_F_endsHalf : MethodName := ⟨"FramedLine", "endsHalf", "(I)Z"⟩
abbrev b_L_load : ByteArray := method_3_code
def y_L_load : MethodName := ⟨"FramedLineLaw", "load", "(LFramedLine;III[J)I"⟩
abbrev b_L_disturb : ByteArray := method_4_code
def y_L_disturb : MethodName := ⟨"FramedLineLaw", "disturb", "(LFramedLine;III[J)I"⟩
abbrev b_L_slip : ByteArray := method_5_code
def y_L_slip : MethodName := ⟨"FramedLineLaw", "slip", "(LFramedLine;I[J)I"⟩
abbrev b_L_pass : ByteArray := method_6_code
def y_L_pass : MethodName := ⟨"FramedLineLaw", "pass", "(LFramedLine;I[J)I"⟩
abbrev b_L_symbol : ByteArray := method_7_code
def y_L_symbol : MethodName := ⟨"FramedLineLaw", "symbol", "(LFramedLine;I[J)I"⟩
abbrev b_L_aligned : ByteArray := method_8_code
def y_L_aligned : MethodName := ⟨"FramedLineLaw", "aligned", "(LFramedLine;I[J)I"⟩
abbrev b_L_frame : ByteArray := method_9_code
def y_L_frame : MethodName := ⟨"FramedLineLaw", "frame", "(LFramedLine;I[J)I"⟩
abbrev b_L_slot : ByteArray := method_10_code
def y_L_slot : MethodName := ⟨"FramedLineLaw", "slot", "(LFramedLine;II[J)I"⟩
abbrev b_L_alarm : ByteArray := method_11_code
def y_L_alarm : MethodName := ⟨"FramedLineLaw", "alarm", "(LFramedLine;I[J)I"⟩
abbrev b_L_count : ByteArray := method_12_code
def y_L_count : MethodName := ⟨"FramedLineLaw", "count", "(LFramedLine;II[J)I"⟩
abbrev b_L_law : ByteArray := code
abbrev b_M_init : ByteArray := prog_11_method_1_code
def y_M_init : MethodName := ⟨"FramedLineModel", "<init>", "()V"⟩
abbrev b_M_thrown : ByteArray := prog_11_method_2_code
def y_M_thrown : MethodName := ⟨"FramedLineModel", "thrown", "()I"⟩
abbrev b_M_within : ByteArray := prog_11_method_3_code
def y_M_within : MethodName := ⟨"FramedLineModel", "within", "(III)Z"⟩
abbrev b_M_isEnd : ByteArray := prog_11_method_4_code
def y_M_isEnd : MethodName := ⟨"FramedLineModel", "isEnd", "(I)Z"⟩
abbrev b_M_with : ByteArray := prog_11_method_5_code
def y_M_with : MethodName := ⟨"FramedLineModel", "with", "(II)I"⟩
abbrev b_M_mark : ByteArray := prog_11_method_6_code
def y_M_mark : MethodName := ⟨"FramedLineModel", "mark", "(II)I"⟩
abbrev b_M_beginFrame : ByteArray := prog_11_method_7_code
def y_M_beginFrame : MethodName := ⟨"FramedLineModel", "beginFrame", "(I)V"⟩
abbrev b_M_nextBit : ByteArray := prog_11_method_8_code
def y_M_nextBit : MethodName := ⟨"FramedLineModel", "nextBit", "(I)I"⟩
abbrev b_M_turned : ByteArray := prog_11_method_9_code
def y_M_turned : MethodName := ⟨"FramedLineModel", "turned", "(I)I"⟩
abbrev b_M_send : ByteArray := prog_11_method_10_code
def y_M_send : MethodName := ⟨"FramedLineModel", "send", "(I)I"⟩
abbrev b_M_said : ByteArray := prog_11_method_11_code
def y_M_said : MethodName := ⟨"FramedLineModel", "said", "(II)I"⟩
abbrev b_M_coming : ByteArray := prog_11_method_12_code
def y_M_coming : MethodName := ⟨"FramedLineModel", "coming", "(II)I"⟩
abbrev b_M_fault : ByteArray := prog_11_method_13_code
def y_M_fault : MethodName := ⟨"FramedLineModel", "fault", "(IZI)V"⟩
abbrev b_M_take : ByteArray := prog_11_method_14_code
def y_M_take : MethodName := ⟨"FramedLineModel", "take", "(II)V"⟩
abbrev b_M_search : ByteArray := prog_11_method_15_code
def y_M_search : MethodName := ⟨"FramedLineModel", "search", "(I)V"⟩
abbrev b_M_forget : ByteArray := prog_11_method_16_code
def y_M_forget : MethodName := ⟨"FramedLineModel", "forget", "(I)V"⟩
abbrev b_M_isWord : ByteArray := prog_11_method_17_code
def y_M_isWord : MethodName := ⟨"FramedLineModel", "isWord", "(I)Z"⟩
abbrev b_M_make : ByteArray := prog_11_method_18_code
def y_M_make : MethodName := ⟨"FramedLineModel", "make", "(II)V"⟩
abbrev b_M_frameBit : ByteArray := prog_11_method_19_code
def y_M_frameBit : MethodName := ⟨"FramedLineModel", "frameBit", "(I)V"⟩
abbrev b_M_complete : ByteArray := prog_11_method_20_code
def y_M_complete : MethodName := ⟨"FramedLineModel", "complete", "(I)V"⟩
abbrev b_M_halves : ByteArray := prog_11_method_21_code
def y_M_halves : MethodName := ⟨"FramedLineModel", "halves", "(III)V"⟩
abbrev b_M_load : ByteArray := prog_11_method_22_code
def y_M_load : MethodName := ⟨"FramedLineModel", "load", "(III)I"⟩
abbrev b_M_disturb : ByteArray := prog_11_method_23_code
def y_M_disturb : MethodName := ⟨"FramedLineModel", "disturb", "(III)I"⟩
abbrev b_M_slip : ByteArray := prog_11_method_24_code
def y_M_slip : MethodName := ⟨"FramedLineModel", "slip", "(I)Z"⟩
abbrev b_M_pass : ByteArray := prog_11_method_25_code
def y_M_pass : MethodName := ⟨"FramedLineModel", "pass", "(I)I"⟩
abbrev b_M_arrive : ByteArray := prog_11_method_26_code
def y_M_arrive : MethodName := ⟨"FramedLineModel", "arrive", "(II)V"⟩
abbrev b_M_symbol : ByteArray := prog_11_method_27_code
def y_M_symbol : MethodName := ⟨"FramedLineModel", "symbol", "(I)I"⟩
abbrev b_M_aligned : ByteArray := prog_11_method_28_code
def y_M_aligned : MethodName := ⟨"FramedLineModel", "aligned", "(I)Z"⟩
abbrev b_M_frame : ByteArray := prog_11_method_29_code
def y_M_frame : MethodName := ⟨"FramedLineModel", "frame", "(I)I"⟩
abbrev b_M_slot : ByteArray := prog_11_method_30_code
def y_M_slot : MethodName := ⟨"FramedLineModel", "slot", "(II)I"⟩
abbrev b_M_alarm : ByteArray := prog_11_method_31_code
def y_M_alarm : MethodName := ⟨"FramedLineModel", "alarm", "(I)Z"⟩
abbrev b_M_count : ByteArray := prog_11_method_32_code
def y_M_count : MethodName := ⟨"FramedLineModel", "count", "(II)I"⟩
theorem cl_A : gCl 0 "FramedLine$Arrivals" T_A 4 := ⟨rfl, by
  show ∀ w ∈ (List.range 4).map (u_lay "FramedLine$Arrivals" T_A), w ∈ GW
  intro w hw
  obtain ⟨k, hk, rfl⟩ := List.mem_map.mp hw
  have hk := List.mem_range.mp hk
  match k, hk with
  | 0, _ => exact GW_at 133 (by decide +kernel) (by decide +kernel)
  | 1, _ => exact GW_at 135 (by decide +kernel) (by decide +kernel)
  | 2, _ => exact GW_at 137 (by decide +kernel) (by decide +kernel)
  | 3, _ => exact GW_at 139 (by decide +kernel) (by decide +kernel)⟩
theorem ct_A : gCt "FramedLine$Arrivals" T_A 4 t_A := ⟨by decide +kernel, by decide +kernel⟩
theorem cl_D : gCl 1 "FramedLine$Decoder" T_D 7 := ⟨rfl, by
  show ∀ w ∈ (List.range 7).map (u_lay "FramedLine$Decoder" T_D), w ∈ GW
  intro w hw
  obtain ⟨k, hk, rfl⟩ := List.mem_map.mp hw
  have hk := List.mem_range.mp hk
  match k, hk with
  | 0, _ => exact GW_at 157 (by decide +kernel) (by decide +kernel)
  | 1, _ => exact GW_at 159 (by decide +kernel) (by decide +kernel)
  | 2, _ => exact GW_at 161 (by decide +kernel) (by decide +kernel)
  | 3, _ => exact GW_at 163 (by decide +kernel) (by decide +kernel)
  | 4, _ => exact GW_at 165 (by decide +kernel) (by decide +kernel)
  | 5, _ => exact GW_at 167 (by decide +kernel) (by decide +kernel)
  | 6, _ => exact GW_at 169 (by decide +kernel) (by decide +kernel)⟩
theorem ct_D : gCt "FramedLine$Decoder" T_D 7 t_D := ⟨by decide +kernel, by decide +kernel⟩
theorem cl_E : gCl 2 "FramedLine$Encoder" T_E 6 := ⟨rfl, by
  show ∀ w ∈ (List.range 6).map (u_lay "FramedLine$Encoder" T_E), w ∈ GW
  intro w hw
  obtain ⟨k, hk, rfl⟩ := List.mem_map.mp hw
  have hk := List.mem_range.mp hk
  match k, hk with
  | 0, _ => exact GW_at 109 (by decide +kernel) (by decide +kernel)
  | 1, _ => exact GW_at 111 (by decide +kernel) (by decide +kernel)
  | 2, _ => exact GW_at 113 (by decide +kernel) (by decide +kernel)
  | 3, _ => exact GW_at 115 (by decide +kernel) (by decide +kernel)
  | 4, _ => exact GW_at 117 (by decide +kernel) (by decide +kernel)
  | 5, _ => exact GW_at 119 (by decide +kernel) (by decide +kernel)⟩
theorem ct_E : gCt "FramedLine$Encoder" T_E 6 t_E := ⟨by decide +kernel, by decide +kernel⟩
theorem cl_N : gCl 3 "FramedLine$End" T_N 5 := ⟨rfl, by
  show ∀ w ∈ (List.range 5).map (u_lay "FramedLine$End" T_N), w ∈ GW
  intro w hw
  obtain ⟨k, hk, rfl⟩ := List.mem_map.mp hw
  have hk := List.mem_range.mp hk
  match k, hk with
  | 0, _ => exact GW_at 276 (by decide +kernel) (by decide +kernel)
  | 1, _ => exact GW_at 278 (by decide +kernel) (by decide +kernel)
  | 2, _ => exact GW_at 280 (by decide +kernel) (by decide +kernel)
  | 3, _ => exact GW_at 282 (by decide +kernel) (by decide +kernel)
  | 4, _ => exact GW_at 284 (by decide +kernel) (by decide +kernel)⟩
theorem ct_N : gCt "FramedLine$End" T_N 5 t_N := ⟨by decide +kernel, by decide +kernel⟩
theorem cl_R : gCl 4 "FramedLine$Receiver" T_R 10 := ⟨rfl, by
  show ∀ w ∈ (List.range 10).map (u_lay "FramedLine$Receiver" T_R), w ∈ GW
  intro w hw
  obtain ⟨k, hk, rfl⟩ := List.mem_map.mp hw
  have hk := List.mem_range.mp hk
  match k, hk with
  | 0, _ => exact GW_at 246 (by decide +kernel) (by decide +kernel)
  | 1, _ => exact GW_at 248 (by decide +kernel) (by decide +kernel)
  | 2, _ => exact GW_at 250 (by decide +kernel) (by decide +kernel)
  | 3, _ => exact GW_at 252 (by decide +kernel) (by decide +kernel)
  | 4, _ => exact GW_at 254 (by decide +kernel) (by decide +kernel)
  | 5, _ => exact GW_at 256 (by decide +kernel) (by decide +kernel)
  | 6, _ => exact GW_at 258 (by decide +kernel) (by decide +kernel)
  | 7, _ => exact GW_at 260 (by decide +kernel) (by decide +kernel)
  | 8, _ => exact GW_at 262 (by decide +kernel) (by decide +kernel)
  | 9, _ => exact GW_at 264 (by decide +kernel) (by decide +kernel)⟩
theorem ct_R : gCt "FramedLine$Receiver" T_R 10 t_R := ⟨by decide +kernel, by decide +kernel⟩
theorem cl_O : gCl 5 "FramedLine$Rounds" T_O 13 := ⟨rfl, by
  show ∀ w ∈ (List.range 13).map (u_lay "FramedLine$Rounds" T_O), w ∈ GW
  intro w hw
  obtain ⟨k, hk, rfl⟩ := List.mem_map.mp hw
  have hk := List.mem_range.mp hk
  match k, hk with
  | 0, _ => exact GW_at 202 (by decide +kernel) (by decide +kernel)
  | 1, _ => exact GW_at 204 (by decide +kernel) (by decide +kernel)
  | 2, _ => exact GW_at 206 (by decide +kernel) (by decide +kernel)
  | 3, _ => exact GW_at 208 (by decide +kernel) (by decide +kernel)
  | 4, _ => exact GW_at 210 (by decide +kernel) (by decide +kernel)
  | 5, _ => exact GW_at 212 (by decide +kernel) (by decide +kernel)
  | 6, _ => exact GW_at 214 (by decide +kernel) (by decide +kernel)
  | 7, _ => exact GW_at 216 (by decide +kernel) (by decide +kernel)
  | 8, _ => exact GW_at 218 (by decide +kernel) (by decide +kernel)
  | 9, _ => exact GW_at 220 (by decide +kernel) (by decide +kernel)
  | 10, _ => exact GW_at 222 (by decide +kernel) (by decide +kernel)
  | 11, _ => exact GW_at 224 (by decide +kernel) (by decide +kernel)
  | 12, _ => exact GW_at 226 (by decide +kernel) (by decide +kernel)⟩
theorem ct_O : gCt "FramedLine$Rounds" T_O 13 t_O := ⟨by decide +kernel, by decide +kernel⟩
theorem cl_S : gCl 6 "FramedLine$Sender" T_S 6 := ⟨rfl, by
  show ∀ w ∈ (List.range 6).map (u_lay "FramedLine$Sender" T_S), w ∈ GW
  intro w hw
  obtain ⟨k, hk, rfl⟩ := List.mem_map.mp hw
  have hk := List.mem_range.mp hk
  match k, hk with
  | 0, _ => exact GW_at 83 (by decide +kernel) (by decide +kernel)
  | 1, _ => exact GW_at 85 (by decide +kernel) (by decide +kernel)
  | 2, _ => exact GW_at 87 (by decide +kernel) (by decide +kernel)
  | 3, _ => exact GW_at 89 (by decide +kernel) (by decide +kernel)
  | 4, _ => exact GW_at 91 (by decide +kernel) (by decide +kernel)
  | 5, _ => exact GW_at 93 (by decide +kernel) (by decide +kernel)⟩
theorem ct_S : gCt "FramedLine$Sender" T_S 6 t_S := ⟨by decide +kernel, by decide +kernel⟩
theorem cl_F : gCl 7 "FramedLine" T_F 3 := ⟨rfl, by
  show ∀ w ∈ (List.range 3).map (u_lay "FramedLine" T_F), w ∈ GW
  intro w hw
  obtain ⟨k, hk, rfl⟩ := List.mem_map.mp hw
  have hk := List.mem_range.mp hk
  match k, hk with
  | 0, _ => exact GW_at 290 (by decide +kernel) (by decide +kernel)
  | 1, _ => exact GW_at 292 (by decide +kernel) (by decide +kernel)
  | 2, _ => exact GW_at 294 (by decide +kernel) (by decide +kernel)⟩
theorem ct_F : gCt "FramedLine" T_F 3 t_F := ⟨by decide +kernel, by decide +kernel⟩
theorem cl_M : gCl 8 "FramedLineModel" T_M 44 := ⟨rfl, by
  show ∀ w ∈ (List.range 44).map (u_lay "FramedLineModel" T_M), w ∈ GW
  intro w hw
  obtain ⟨k, hk, rfl⟩ := List.mem_map.mp hw
  have hk := List.mem_range.mp hk
  match k, hk with
  | 0, _ => exact GW_at 678 (by decide +kernel) (by decide +kernel)
  | 1, _ => exact GW_at 680 (by decide +kernel) (by decide +kernel)
  | 2, _ => exact GW_at 682 (by decide +kernel) (by decide +kernel)
  | 3, _ => exact GW_at 684 (by decide +kernel) (by decide +kernel)
  | 4, _ => exact GW_at 686 (by decide +kernel) (by decide +kernel)
  | 5, _ => exact GW_at 688 (by decide +kernel) (by decide +kernel)
  | 6, _ => exact GW_at 690 (by decide +kernel) (by decide +kernel)
  | 7, _ => exact GW_at 692 (by decide +kernel) (by decide +kernel)
  | 8, _ => exact GW_at 694 (by decide +kernel) (by decide +kernel)
  | 9, _ => exact GW_at 696 (by decide +kernel) (by decide +kernel)
  | 10, _ => exact GW_at 698 (by decide +kernel) (by decide +kernel)
  | 11, _ => exact GW_at 700 (by decide +kernel) (by decide +kernel)
  | 12, _ => exact GW_at 702 (by decide +kernel) (by decide +kernel)
  | 13, _ => exact GW_at 704 (by decide +kernel) (by decide +kernel)
  | 14, _ => exact GW_at 706 (by decide +kernel) (by decide +kernel)
  | 15, _ => exact GW_at 708 (by decide +kernel) (by decide +kernel)
  | 16, _ => exact GW_at 710 (by decide +kernel) (by decide +kernel)
  | 17, _ => exact GW_at 712 (by decide +kernel) (by decide +kernel)
  | 18, _ => exact GW_at 714 (by decide +kernel) (by decide +kernel)
  | 19, _ => exact GW_at 716 (by decide +kernel) (by decide +kernel)
  | 20, _ => exact GW_at 718 (by decide +kernel) (by decide +kernel)
  | 21, _ => exact GW_at 720 (by decide +kernel) (by decide +kernel)
  | 22, _ => exact GW_at 722 (by decide +kernel) (by decide +kernel)
  | 23, _ => exact GW_at 724 (by decide +kernel) (by decide +kernel)
  | 24, _ => exact GW_at 726 (by decide +kernel) (by decide +kernel)
  | 25, _ => exact GW_at 728 (by decide +kernel) (by decide +kernel)
  | 26, _ => exact GW_at 730 (by decide +kernel) (by decide +kernel)
  | 27, _ => exact GW_at 732 (by decide +kernel) (by decide +kernel)
  | 28, _ => exact GW_at 734 (by decide +kernel) (by decide +kernel)
  | 29, _ => exact GW_at 736 (by decide +kernel) (by decide +kernel)
  | 30, _ => exact GW_at 738 (by decide +kernel) (by decide +kernel)
  | 31, _ => exact GW_at 740 (by decide +kernel) (by decide +kernel)
  | 32, _ => exact GW_at 742 (by decide +kernel) (by decide +kernel)
  | 33, _ => exact GW_at 744 (by decide +kernel) (by decide +kernel)
  | 34, _ => exact GW_at 746 (by decide +kernel) (by decide +kernel)
  | 35, _ => exact GW_at 748 (by decide +kernel) (by decide +kernel)
  | 36, _ => exact GW_at 750 (by decide +kernel) (by decide +kernel)
  | 37, _ => exact GW_at 752 (by decide +kernel) (by decide +kernel)
  | 38, _ => exact GW_at 754 (by decide +kernel) (by decide +kernel)
  | 39, _ => exact GW_at 756 (by decide +kernel) (by decide +kernel)
  | 40, _ => exact GW_at 758 (by decide +kernel) (by decide +kernel)
  | 41, _ => exact GW_at 760 (by decide +kernel) (by decide +kernel)
  | 42, _ => exact GW_at 762 (by decide +kernel) (by decide +kernel)
  | 43, _ => exact GW_at 764 (by decide +kernel) (by decide +kernel)
  | j + 44, h => exact absurd h (by omega)⟩
theorem ct_M : gCt "FramedLineModel" T_M 44 t_M := ⟨by decide +kernel, by decide +kernel⟩
end
section
theorem lf_D_15 : Cond.fieldLink "FramedLine$Decoder" 15 "FramedLine$Decoder" "latestPulse" "I" ∈ GW := GW_at 150 (by decide +kernel) (by decide +kernel)
theorem lf_D_18 : Cond.fieldLink "FramedLine$Decoder" 18 "FramedLine$Decoder" "latestV" "I" ∈ GW := GW_at 151 (by decide +kernel) (by decide +kernel)
theorem lf_D_21 : Cond.fieldLink "FramedLine$Decoder" 21 "FramedLine$Decoder" "zeros" "I" ∈ GW := GW_at 152 (by decide +kernel) (by decide +kernel)
theorem lf_D_24 : Cond.fieldLink "FramedLine$Decoder" 24 "FramedLine$Decoder" "latestBits" "I" ∈ GW := GW_at 153 (by decide +kernel) (by decide +kernel)
theorem lf_D_27 : Cond.fieldLink "FramedLine$Decoder" 27 "FramedLine$Decoder" "symbolsAhead" "I" ∈ GW := GW_at 154 (by decide +kernel) (by decide +kernel)
theorem lf_D_30 : Cond.fieldLink "FramedLine$Decoder" 30 "FramedLine$Decoder" "faults" "I" ∈ GW := GW_at 155 (by decide +kernel) (by decide +kernel)
theorem lf_D_9 : Cond.fieldLink "FramedLine$Decoder" 9 "FramedLine$Decoder" "latestSymbol" "I" ∈ GW := GW_at 148 (by decide +kernel) (by decide +kernel)
theorem mc_D_takeZero : Cond.code y_D_takeZero b_D_takeZero 1 none ∈ GW ∧ Cond.initialized (y_D_takeZero).cls ∈ GW ∧ ((y_D_takeZero).cls ≠ "java/lang/invoke/MethodHandle" ∧ (y_D_takeZero).cls ≠ "java/lang/invoke/VarHandle" ∧ (parseMethodDescriptor (y_D_takeZero).desc).map (fun d => d.parameters.length) = some 0) := ⟨GW_at 505 (by decide +kernel) (by decide +kernel), GW_at 46 (by decide +kernel) (by decide +kernel), by decide +kernel⟩
theorem lm_D_33 : gLV "FramedLine$Decoder" "FramedLine$Decoder" 33 y_D_takeZero b_D_takeZero 1 none 0 := ⟨mc_D_takeZero, GW_at 502 (by decide +kernel) (by decide +kernel), GW_at 504 (by decide +kernel) (by decide +kernel), GW_at 8 (by decide +kernel) (by decide +kernel)⟩
theorem mc_D_takePulse : Cond.code y_D_takePulse b_D_takePulse 3 none ∈ GW ∧ Cond.initialized (y_D_takePulse).cls ∈ GW ∧ ((y_D_takePulse).cls ≠ "java/lang/invoke/MethodHandle" ∧ (y_D_takePulse).cls ≠ "java/lang/invoke/VarHandle" ∧ (parseMethodDescriptor (y_D_takePulse).desc).map (fun d => d.parameters.length) = some 1) := ⟨GW_at 509 (by decide +kernel) (by decide +kernel), GW_at 46 (by decide +kernel) (by decide +kernel), by decide +kernel⟩
theorem lm_D_36 : gLV "FramedLine$Decoder" "FramedLine$Decoder" 36 y_D_takePulse b_D_takePulse 3 none 1 := ⟨mc_D_takePulse, GW_at 506 (by decide +kernel) (by decide +kernel), GW_at 508 (by decide +kernel) (by decide +kernel), GW_at 9 (by decide +kernel) (by decide +kernel)⟩
theorem mc_D_takeV : Cond.code y_D_takeV b_D_takeV 2 none ∈ GW ∧ Cond.initialized (y_D_takeV).cls ∈ GW ∧ ((y_D_takeV).cls ≠ "java/lang/invoke/MethodHandle" ∧ (y_D_takeV).cls ≠ "java/lang/invoke/VarHandle" ∧ (parseMethodDescriptor (y_D_takeV).desc).map (fun d => d.parameters.length) = some 1) := ⟨GW_at 513 (by decide +kernel) (by decide +kernel), GW_at 46 (by decide +kernel) (by decide +kernel), by decide +kernel⟩
theorem lm_D_40 : gLV "FramedLine$Decoder" "FramedLine$Decoder" 40 y_D_takeV b_D_takeV 2 none 1 := ⟨mc_D_takeV, GW_at 510 (by decide +kernel) (by decide +kernel), GW_at 512 (by decide +kernel) (by decide +kernel), GW_at 10 (by decide +kernel) (by decide +kernel)⟩
end
section
theorem d_D_bitBehind_0 : decode b_D_bitBehind 0 = .ok (.aload_n 0, 1) := by decide +kernel
theorem d_D_bitBehind_1 : decode b_D_bitBehind 1 = .ok (.iload_n 1, 1) := by decide +kernel
theorem d_D_bitBehind_2 : decode b_D_bitBehind 2 = .ok (.putfield 9, 3) := by decide +kernel
theorem d_D_bitBehind_5 : decode b_D_bitBehind 5 = .ok (.iload_n 1, 1) := by decide +kernel
theorem d_D_bitBehind_6 : decode b_D_bitBehind 6 = .ok (.ifCond .ne 10, 3) := by decide +kernel
theorem d_D_bitBehind_9 : decode b_D_bitBehind 9 = .ok (.aload_n 0, 1) := by decide +kernel
theorem d_D_bitBehind_10 : decode b_D_bitBehind 10 = .ok (.invokevirtual 33, 3) := by decide +kernel
theorem d_D_bitBehind_13 : decode b_D_bitBehind 13 = .ok (.goto 8, 3) := by decide +kernel
theorem d_D_bitBehind_16 : decode b_D_bitBehind 16 = .ok (.aload_n 0, 1) := by decide +kernel
theorem d_D_bitBehind_17 : decode b_D_bitBehind 17 = .ok (.iload_n 1, 1) := by decide +kernel
theorem d_D_bitBehind_18 : decode b_D_bitBehind 18 = .ok (.invokevirtual 36, 3) := by decide +kernel
theorem d_D_bitBehind_21 : decode b_D_bitBehind 21 = .ok (.aload_n 0, 1) := by decide +kernel
theorem d_D_bitBehind_22 : decode b_D_bitBehind 22 = .ok (.getfield 27, 3) := by decide +kernel
theorem d_D_bitBehind_25 : decode b_D_bitBehind 25 = .ok (.iconst 3, 1) := by decide +kernel
theorem d_D_bitBehind_26 : decode b_D_bitBehind 26 = .ok (.if_icmp .ge 15, 3) := by decide +kernel
theorem d_D_bitBehind_29 : decode b_D_bitBehind 29 = .ok (.aload_n 0, 1) := by decide +kernel
theorem d_D_bitBehind_30 : decode b_D_bitBehind 30 = .ok (.dup, 1) := by decide +kernel
theorem d_D_bitBehind_31 : decode b_D_bitBehind 31 = .ok (.getfield 27, 3) := by decide +kernel
theorem d_D_bitBehind_34 : decode b_D_bitBehind 34 = .ok (.iconst 1, 1) := by decide +kernel
theorem d_D_bitBehind_35 : decode b_D_bitBehind 35 = .ok (.iadd, 1) := by decide +kernel
theorem d_D_bitBehind_36 : decode b_D_bitBehind 36 = .ok (.putfield 27, 3) := by decide +kernel
theorem d_D_bitBehind_39 : decode b_D_bitBehind 39 = .ok (.iconst (-1), 1) := by decide +kernel
theorem d_D_bitBehind_40 : decode b_D_bitBehind 40 = .ok (.ireturn, 1) := by decide +kernel
theorem d_D_bitBehind_41 : decode b_D_bitBehind 41 = .ok (.aload_n 0, 1) := by decide +kernel
theorem d_D_bitBehind_42 : decode b_D_bitBehind 42 = .ok (.getfield 24, 3) := by decide +kernel
theorem d_D_bitBehind_45 : decode b_D_bitBehind 45 = .ok (.iconst 3, 1) := by decide +kernel
theorem d_D_bitBehind_46 : decode b_D_bitBehind 46 = .ok (.ishr, 1) := by decide +kernel
theorem d_D_bitBehind_47 : decode b_D_bitBehind 47 = .ok (.iconst 1, 1) := by decide +kernel
theorem d_D_bitBehind_48 : decode b_D_bitBehind 48 = .ok (.iand, 1) := by decide +kernel
theorem d_D_bitBehind_49 : decode b_D_bitBehind 49 = .ok (.ireturn, 1) := by decide +kernel
theorem d_D_takeZero_0 : decode b_D_takeZero 0 = .ok (.aload_n 0, 1) := by decide +kernel
theorem d_D_takeZero_1 : decode b_D_takeZero 1 = .ok (.aload_n 0, 1) := by decide +kernel
theorem d_D_takeZero_2 : decode b_D_takeZero 2 = .ok (.getfield 24, 3) := by decide +kernel
theorem d_D_takeZero_5 : decode b_D_takeZero 5 = .ok (.iconst 1, 1) := by decide +kernel
theorem d_D_takeZero_6 : decode b_D_takeZero 6 = .ok (.ishl, 1) := by decide +kernel
theorem d_D_takeZero_7 : decode b_D_takeZero 7 = .ok (.bipush 15, 2) := by decide +kernel
theorem d_D_takeZero_9 : decode b_D_takeZero 9 = .ok (.iand, 1) := by decide +kernel
theorem d_D_takeZero_10 : decode b_D_takeZero 10 = .ok (.putfield 24, 3) := by decide +kernel
theorem d_D_takeZero_13 : decode b_D_takeZero 13 = .ok (.aload_n 0, 1) := by decide +kernel
theorem d_D_takeZero_14 : decode b_D_takeZero 14 = .ok (.dup, 1) := by decide +kernel
theorem d_D_takeZero_15 : decode b_D_takeZero 15 = .ok (.getfield 21, 3) := by decide +kernel
theorem d_D_takeZero_18 : decode b_D_takeZero 18 = .ok (.iconst 1, 1) := by decide +kernel
theorem d_D_takeZero_19 : decode b_D_takeZero 19 = .ok (.iadd, 1) := by decide +kernel
theorem d_D_takeZero_20 : decode b_D_takeZero 20 = .ok (.putfield 21, 3) := by decide +kernel
theorem d_D_takeZero_23 : decode b_D_takeZero 23 = .ok (.aload_n 0, 1) := by decide +kernel
theorem d_D_takeZero_24 : decode b_D_takeZero 24 = .ok (.getfield 15, 3) := by decide +kernel
theorem d_D_takeZero_27 : decode b_D_takeZero 27 = .ok (.ifCond .eq 22, 3) := by decide +kernel
theorem d_D_takeZero_30 : decode b_D_takeZero 30 = .ok (.aload_n 0, 1) := by decide +kernel
theorem d_D_takeZero_31 : decode b_D_takeZero 31 = .ok (.getfield 21, 3) := by decide +kernel
theorem d_D_takeZero_34 : decode b_D_takeZero 34 = .ok (.iconst 3, 1) := by decide +kernel
theorem d_D_takeZero_35 : decode b_D_takeZero 35 = .ok (.iand, 1) := by decide +kernel
theorem d_D_takeZero_36 : decode b_D_takeZero 36 = .ok (.ifCond .ne 13, 3) := by decide +kernel
theorem d_D_takeZero_39 : decode b_D_takeZero 39 = .ok (.aload_n 0, 1) := by decide +kernel
theorem d_D_takeZero_40 : decode b_D_takeZero 40 = .ok (.dup, 1) := by decide +kernel
theorem d_D_takeZero_41 : decode b_D_takeZero 41 = .ok (.getfield 30, 3) := by decide +kernel
theorem d_D_takeZero_44 : decode b_D_takeZero 44 = .ok (.iconst 1, 1) := by decide +kernel
theorem d_D_takeZero_45 : decode b_D_takeZero 45 = .ok (.iadd, 1) := by decide +kernel
theorem d_D_takeZero_46 : decode b_D_takeZero 46 = .ok (.putfield 30, 3) := by decide +kernel
theorem d_D_takeZero_49 : decode b_D_takeZero 49 = .ok (.return_, 1) := by decide +kernel
theorem d_D_takePulse_0 : decode b_D_takePulse 0 = .ok (.iload_n 1, 1) := by decide +kernel
theorem d_D_takePulse_1 : decode b_D_takePulse 1 = .ok (.aload_n 0, 1) := by decide +kernel
theorem d_D_takePulse_2 : decode b_D_takePulse 2 = .ok (.getfield 15, 3) := by decide +kernel
theorem d_D_takePulse_5 : decode b_D_takePulse 5 = .ok (.if_icmp .ne 7, 3) := by decide +kernel
theorem d_D_takePulse_8 : decode b_D_takePulse 8 = .ok (.iconst 1, 1) := by decide +kernel
theorem d_D_takePulse_9 : decode b_D_takePulse 9 = .ok (.goto 4, 3) := by decide +kernel
theorem d_D_takePulse_12 : decode b_D_takePulse 12 = .ok (.iconst 0, 1) := by decide +kernel
theorem d_D_takePulse_13 : decode b_D_takePulse 13 = .ok (.istore_n 2, 1) := by decide +kernel
theorem d_D_takePulse_14 : decode b_D_takePulse 14 = .ok (.iload_n 2, 1) := by decide +kernel
theorem d_D_takePulse_15 : decode b_D_takePulse 15 = .ok (.ifCond .eq 19, 3) := by decide +kernel
theorem d_D_takePulse_18 : decode b_D_takePulse 18 = .ok (.aload_n 0, 1) := by decide +kernel
theorem d_D_takePulse_19 : decode b_D_takePulse 19 = .ok (.getfield 21, 3) := by decide +kernel
theorem d_D_takePulse_22 : decode b_D_takePulse 22 = .ok (.iconst 2, 1) := by decide +kernel
theorem d_D_takePulse_23 : decode b_D_takePulse 23 = .ok (.if_icmp .lt 11, 3) := by decide +kernel
theorem d_D_takePulse_26 : decode b_D_takePulse 26 = .ok (.aload_n 0, 1) := by decide +kernel
theorem d_D_takePulse_27 : decode b_D_takePulse 27 = .ok (.iload_n 1, 1) := by decide +kernel
theorem d_D_takePulse_28 : decode b_D_takePulse 28 = .ok (.invokevirtual 40, 3) := by decide +kernel
theorem d_D_takePulse_31 : decode b_D_takePulse 31 = .ok (.goto 32, 3) := by decide +kernel
theorem d_D_takePulse_34 : decode b_D_takePulse 34 = .ok (.aload_n 0, 1) := by decide +kernel
theorem d_D_takePulse_35 : decode b_D_takePulse 35 = .ok (.aload_n 0, 1) := by decide +kernel
theorem d_D_takePulse_36 : decode b_D_takePulse 36 = .ok (.getfield 24, 3) := by decide +kernel
theorem d_D_takePulse_39 : decode b_D_takePulse 39 = .ok (.iconst 1, 1) := by decide +kernel
theorem d_D_takePulse_40 : decode b_D_takePulse 40 = .ok (.ishl, 1) := by decide +kernel
theorem d_D_takePulse_41 : decode b_D_takePulse 41 = .ok (.iconst 1, 1) := by decide +kernel
theorem d_D_takePulse_42 : decode b_D_takePulse 42 = .ok (.ior, 1) := by decide +kernel
theorem d_D_takePulse_43 : decode b_D_takePulse 43 = .ok (.bipush 15, 2) := by decide +kernel
theorem d_D_takePulse_45 : decode b_D_takePulse 45 = .ok (.iand, 1) := by decide +kernel
theorem d_D_takePulse_46 : decode b_D_takePulse 46 = .ok (.putfield 24, 3) := by decide +kernel
theorem d_D_takePulse_49 : decode b_D_takePulse 49 = .ok (.iload_n 2, 1) := by decide +kernel
theorem d_D_takePulse_50 : decode b_D_takePulse 50 = .ok (.ifCond .eq 13, 3) := by decide +kernel
theorem d_D_takePulse_53 : decode b_D_takePulse 53 = .ok (.aload_n 0, 1) := by decide +kernel
theorem d_D_takePulse_54 : decode b_D_takePulse 54 = .ok (.dup, 1) := by decide +kernel
theorem d_D_takePulse_55 : decode b_D_takePulse 55 = .ok (.getfield 30, 3) := by decide +kernel
theorem d_D_takePulse_58 : decode b_D_takePulse 58 = .ok (.iconst 1, 1) := by decide +kernel
theorem d_D_takePulse_59 : decode b_D_takePulse 59 = .ok (.iadd, 1) := by decide +kernel
theorem d_D_takePulse_60 : decode b_D_takePulse 60 = .ok (.putfield 30, 3) := by decide +kernel
theorem d_D_takePulse_63 : decode b_D_takePulse 63 = .ok (.aload_n 0, 1) := by decide +kernel
theorem d_D_takePulse_64 : decode b_D_takePulse 64 = .ok (.iload_n 1, 1) := by decide +kernel
theorem d_D_takePulse_65 : decode b_D_takePulse 65 = .ok (.putfield 15, 3) := by decide +kernel
theorem d_D_takePulse_68 : decode b_D_takePulse 68 = .ok (.aload_n 0, 1) := by decide +kernel
theorem d_D_takePulse_69 : decode b_D_takePulse 69 = .ok (.iconst 0, 1) := by decide +kernel
theorem d_D_takePulse_70 : decode b_D_takePulse 70 = .ok (.putfield 21, 3) := by decide +kernel
theorem d_D_takePulse_73 : decode b_D_takePulse 73 = .ok (.return_, 1) := by decide +kernel
theorem d_D_takeV_0 : decode b_D_takeV 0 = .ok (.aload_n 0, 1) := by decide +kernel
theorem d_D_takeV_1 : decode b_D_takeV 1 = .ok (.iconst 0, 1) := by decide +kernel
theorem d_D_takeV_2 : decode b_D_takeV 2 = .ok (.putfield 24, 3) := by decide +kernel
theorem d_D_takeV_5 : decode b_D_takeV 5 = .ok (.iload_n 1, 1) := by decide +kernel
theorem d_D_takeV_6 : decode b_D_takeV 6 = .ok (.aload_n 0, 1) := by decide +kernel
theorem d_D_takeV_7 : decode b_D_takeV 7 = .ok (.getfield 18, 3) := by decide +kernel
theorem d_D_takeV_10 : decode b_D_takeV 10 = .ok (.if_icmp .ne 13, 3) := by decide +kernel
theorem d_D_takeV_13 : decode b_D_takeV 13 = .ok (.aload_n 0, 1) := by decide +kernel
theorem d_D_takeV_14 : decode b_D_takeV 14 = .ok (.dup, 1) := by decide +kernel
theorem d_D_takeV_15 : decode b_D_takeV 15 = .ok (.getfield 30, 3) := by decide +kernel
theorem d_D_takeV_18 : decode b_D_takeV 18 = .ok (.iconst 1, 1) := by decide +kernel
theorem d_D_takeV_19 : decode b_D_takeV 19 = .ok (.iadd, 1) := by decide +kernel
theorem d_D_takeV_20 : decode b_D_takeV 20 = .ok (.putfield 30, 3) := by decide +kernel
theorem d_D_takeV_23 : decode b_D_takeV 23 = .ok (.aload_n 0, 1) := by decide +kernel
theorem d_D_takeV_24 : decode b_D_takeV 24 = .ok (.iload_n 1, 1) := by decide +kernel
theorem d_D_takeV_25 : decode b_D_takeV 25 = .ok (.putfield 18, 3) := by decide +kernel
theorem d_D_takeV_28 : decode b_D_takeV 28 = .ok (.return_, 1) := by decide +kernel
end
section
theorem tn_nI {w : Nat} (h : w < 2 ^ 31) : tn (nI w) = w := nI_clamp h
theorem co_back {x : Int32} {d : Nat} (h : x = nI (d + 1) - 2 ∧ d + 1 ≤ 33 ∧ 1 ≤ d + 1) (h1 : ¬ x < 0) : x + (-1) = nI d - 2 ∧ d ≤ 33 ∧ 1 ≤ d := by
  obtain ⟨rfl, h2, -⟩ := h
  have key : ∀ d, d < 33 → ¬ (nI (d + 1) - 2 < 0) → nI (d + 1) - 2 + (-1) = nI d - 2 ∧ d ≤ 33 ∧ 1 ≤ d := by decide +kernel
  exact key d (by omega) h1
end
section
def sp_D_takeV (c : Nat) (G0 : Mem) (a1 : Int32) : Mem :=
  (if a1 = (G0 c 2) then (wr (wr (wr G0 c 4 0) c 6 ((G0 c 6) + 1)) c 2 a1) else (wr (wr G0 c 4 0) c 2 a1))
set_option maxHeartbeats 4000000 in
set_option maxRecDepth 100000 in
theorem c_D_takeV (l : Launch) (P : gP) (G0 : Mem) (c : Nat) (a1 : Int32) (hc : kD c) : gMv l y_D_takeV b_D_takeV 2 none ({ frames := 0, cells := 0, slots := 0, locals := 0 }) [.ref (gad P c), .int a1] P G0 (sp_D_takeV c G0 a1) := by
  refine Met.ofW (cc := b_D_takeV) (maxL := 2) (ret := none) (by decide) rfl ?_
  intro p e s m args below meth c0 s₁ B hml hv
  obtain ⟨rfl, hpre⟩ := hv
  obtain ⟨E, hH⟩ := gE_of B hml hpre
  replace E : gE p s m args meth c0 P "FramedLine$Decoder" b_D_takeV 2 none := E
  have hcU := hc
  unfold kD at hcU
  have hx := E.1
  have hb := E.2.1
  have hl := lv_entry ([.ref (gad P c), .int a1]) (n := 2) (Nat.le_of_ble_eq_true rfl)
  rw [lg_entry_eq]
  generalize (lg_sl ([.ref (gad P c), .int a1]) ++ List.replicate (2 - (lg_sl ([.ref (gad P c), .int a1])).length) Slot.unset).toArray = ls at hl ⊢
  have hl : lv_has ls 2 [(0, .ref (gad P c)), (1, .int a1)] := hl
  have hsp : sp_D_takeV c G0 a1 = sp_D_takeV c G0 a1 := rfl
  refine lv_aload_n hx hb d_D_takeV_0 rfl (lv_at hl 0 rfl) ?_
  refine lv_iconst (v := 0) hx hb d_D_takeV_1 (by decide) ?_
  refine g_puti E hH (gc_D hc) cl_D ct_D 4 (by decide) lf_D_24 rfl (by decide +kernel) (fun _ _ => rfl) (by decide) d_D_takeV_2 (fun H locs hH => ?_)
  refine lv_iload_n hx hb d_D_takeV_5 rfl (lv_at hl 1 rfl) ?_
  refine lv_aload_n hx hb d_D_takeV_6 rfl (lv_at hl 0 rfl) ?_
  refine g_geti (v := (G0 c 2)) E hH (gc_D hc) cl_D 2 (by decide) lf_D_18 (fun _ => rfl) (wr_k _ _ _ _ (by decide)) d_D_takeV_7 ?_
  refine lv_icmp_ne (tgt := 23) hx hb d_D_takeV_10 (by decide) (fun h1 => ?_) (fun h1 => ?_)
  · refine lv_aload_n hx hb d_D_takeV_23 rfl (lv_at hl 0 rfl) ?_
    refine lv_iload_n hx hb d_D_takeV_24 rfl (lv_at hl 1 rfl) ?_
    refine g_puti E hH (gc_D hc) cl_D ct_D 2 (by decide) lf_D_18 rfl (by decide +kernel) (fun _ _ => rfl) (by decide) d_D_takeV_25 (fun H locs hH => ?_)
    exact g_vret E hH (hsp.trans (by simp only [sp_D_takeV, if_neg h1])) d_D_takeV_28
  · refine lv_aload_n hx hb d_D_takeV_13 rfl (lv_at hl 0 rfl) ?_
    refine lv_dup hx hb d_D_takeV_14 rfl ?_
    refine g_geti (v := (G0 c 6)) E hH (gc_D hc) cl_D 6 (by decide) lf_D_30 (fun _ => rfl) (wr_k _ _ _ _ (by decide)) d_D_takeV_15 ?_
    refine lv_iconst (v := 1) hx hb d_D_takeV_18 (by decide) ?_
    refine lv_iadd hx hb d_D_takeV_19 ?_
    refine g_puti E hH (gc_D hc) cl_D ct_D 6 (by decide) lf_D_30 rfl (by decide +kernel) (fun _ _ => rfl) (by decide) d_D_takeV_20 (fun H locs hH => ?_)
    refine lv_aload_n hx hb d_D_takeV_23 rfl (lv_at hl 0 rfl) ?_
    refine lv_iload_n hx hb d_D_takeV_24 rfl (lv_at hl 1 rfl) ?_
    refine g_puti E hH (gc_D hc) cl_D ct_D 2 (by decide) lf_D_18 rfl (by decide +kernel) (fun _ _ => rfl) (by decide) d_D_takeV_25 (fun H locs hH => ?_)
    exact g_vret E hH (hsp.trans (by simp only [sp_D_takeV, if_pos h1])) d_D_takeV_28

def sp_D_takeZero (c : Nat) (G0 : Mem)  : Mem :=
  (if (G0 c 1) = 0 then (wr (wr G0 c 4 (((G0 c 4) <<< (1 &&& 31)) &&& 15)) c 3 ((G0 c 3) + 1)) else (if (((G0 c 3) + 1) &&& 3) = 0 then (wr (wr (wr G0 c 4 (((G0 c 4) <<< (1 &&& 31)) &&& 15)) c 3 ((G0 c 3) + 1)) c 6 ((G0 c 6) + 1)) else (wr (wr G0 c 4 (((G0 c 4) <<< (1 &&& 31)) &&& 15)) c 3 ((G0 c 3) + 1))))
set_option maxHeartbeats 4000000 in
set_option maxRecDepth 100000 in
theorem c_D_takeZero (l : Launch) (P : gP) (G0 : Mem) (c : Nat)  (hc : kD c) : gMv l y_D_takeZero b_D_takeZero 1 none ({ frames := 0, cells := 0, slots := 0, locals := 0 }) [.ref (gad P c)] P G0 (sp_D_takeZero c G0) := by
  refine Met.ofW (cc := b_D_takeZero) (maxL := 1) (ret := none) (by decide) rfl ?_
  intro p e s m args below meth c0 s₁ B hml hv
  obtain ⟨rfl, hpre⟩ := hv
  obtain ⟨E, hH⟩ := gE_of B hml hpre
  replace E : gE p s m args meth c0 P "FramedLine$Decoder" b_D_takeZero 1 none := E
  have hcU := hc
  unfold kD at hcU
  have hx := E.1
  have hb := E.2.1
  have hl := lv_entry ([.ref (gad P c)]) (n := 1) (Nat.le_of_ble_eq_true rfl)
  rw [lg_entry_eq]
  generalize (lg_sl ([.ref (gad P c)]) ++ List.replicate (1 - (lg_sl ([.ref (gad P c)])).length) Slot.unset).toArray = ls at hl ⊢
  have hl : lv_has ls 1 [(0, .ref (gad P c))] := hl
  have hsp : sp_D_takeZero c G0 = sp_D_takeZero c G0 := rfl
  refine lv_aload_n hx hb d_D_takeZero_0 rfl (lv_at hl 0 rfl) ?_
  refine lv_aload_n hx hb d_D_takeZero_1 rfl (lv_at hl 0 rfl) ?_
  refine g_geti (v := (G0 c 4)) E hH (gc_D hc) cl_D 4 (by decide) lf_D_24 (fun _ => rfl) rfl d_D_takeZero_2 ?_
  refine lv_iconst (v := 1) hx hb d_D_takeZero_5 (by decide) ?_
  refine lv_ishl hx hb d_D_takeZero_6 ?_
  refine lv_bipush (v := 15) hx hb d_D_takeZero_7 (by decide) ?_
  refine lv_iand hx hb d_D_takeZero_9 ?_
  refine g_puti E hH (gc_D hc) cl_D ct_D 4 (by decide) lf_D_24 rfl (by decide +kernel) (fun _ _ => rfl) (by decide) d_D_takeZero_10 (fun H locs hH => ?_)
  refine lv_aload_n hx hb d_D_takeZero_13 rfl (lv_at hl 0 rfl) ?_
  refine lv_dup hx hb d_D_takeZero_14 rfl ?_
  refine g_geti (v := (G0 c 3)) E hH (gc_D hc) cl_D 3 (by decide) lf_D_21 (fun _ => rfl) (wr_k _ _ _ _ (by decide)) d_D_takeZero_15 ?_
  refine lv_iconst (v := 1) hx hb d_D_takeZero_18 (by decide) ?_
  refine lv_iadd hx hb d_D_takeZero_19 ?_
  refine g_puti E hH (gc_D hc) cl_D ct_D 3 (by decide) lf_D_21 rfl (by decide +kernel) (fun _ _ => rfl) (by decide) d_D_takeZero_20 (fun H locs hH => ?_)
  refine lv_aload_n hx hb d_D_takeZero_23 rfl (lv_at hl 0 rfl) ?_
  refine g_geti (v := (G0 c 1)) E hH (gc_D hc) cl_D 1 (by decide) lf_D_15 (fun _ => rfl) ((wr_k _ _ _ _ (by decide)).trans (wr_k _ _ _ _ (by decide))) d_D_takeZero_24 ?_
  refine lv_if_eq (tgt := 49) hx hb d_D_takeZero_27 (by decide) (fun h1 => ?_) (fun h1 => ?_)
  · exact g_vret E hH (hsp.trans (by simp only [sp_D_takeZero, if_pos h1])) d_D_takeZero_49
  · refine lv_aload_n hx hb d_D_takeZero_30 rfl (lv_at hl 0 rfl) ?_
    refine g_geti (v := ((G0 c 3) + 1)) E hH (gc_D hc) cl_D 3 (by decide) lf_D_21 (fun _ => rfl) (wr_same _ _ _ _) d_D_takeZero_31 ?_
    refine lv_iconst (v := 3) hx hb d_D_takeZero_34 (by decide) ?_
    refine lv_iand hx hb d_D_takeZero_35 ?_
    refine lv_if_ne (tgt := 49) hx hb d_D_takeZero_36 (by decide) (fun h2 => ?_) (fun h2 => ?_)
    · exact g_vret E hH (hsp.trans (by simp only [sp_D_takeZero, if_neg h1, if_neg h2])) d_D_takeZero_49
    · refine lv_aload_n hx hb d_D_takeZero_39 rfl (lv_at hl 0 rfl) ?_
      refine lv_dup hx hb d_D_takeZero_40 rfl ?_
      refine g_geti (v := (G0 c 6)) E hH (gc_D hc) cl_D 6 (by decide) lf_D_30 (fun _ => rfl) ((wr_k _ _ _ _ (by decide)).trans (wr_k _ _ _ _ (by decide))) d_D_takeZero_41 ?_
      refine lv_iconst (v := 1) hx hb d_D_takeZero_44 (by decide) ?_
      refine lv_iadd hx hb d_D_takeZero_45 ?_
      refine g_puti E hH (gc_D hc) cl_D ct_D 6 (by decide) lf_D_30 rfl (by decide +kernel) (fun _ _ => rfl) (by decide) d_D_takeZero_46 (fun H locs hH => ?_)
      exact g_vret E hH (hsp.trans (by simp only [sp_D_takeZero, if_neg h1, if_pos h2])) d_D_takeZero_49

def sp_D_takePulse (c : Nat) (G0 : Mem) (a1 : Int32) : Mem :=
  (if (if a1 = (G0 c 1) then 1 else 0) = 0 then (wr (wr (wr G0 c 4 ((((G0 c 4) <<< (1 &&& 31)) ||| 1) &&& 15)) c 1 a1) c 3 0) else (if (G0 c 3) < 2 then (wr (wr (wr (wr G0 c 4 ((((G0 c 4) <<< (1 &&& 31)) ||| 1) &&& 15)) c 6 ((G0 c 6) + 1)) c 1 a1) c 3 0) else (wr (wr (sp_D_takeV c G0 a1) c 1 a1) c 3 0)))
set_option maxHeartbeats 4000000 in
set_option maxRecDepth 100000 in
theorem c_D_takePulse (l : Launch) (P : gP) (G0 : Mem) (c : Nat) (a1 : Int32) (hc : kD c) : gMv l y_D_takePulse b_D_takePulse 3 none ({ frames := 1, cells := 0, slots := 0, locals := 21 }) [.ref (gad P c), .int a1] P G0 (sp_D_takePulse c G0 a1) := by
  refine Met.ofW (cc := b_D_takePulse) (maxL := 3) (ret := none) (by decide) rfl ?_
  intro p e s m args below meth c0 s₁ B hml hv
  obtain ⟨rfl, hpre⟩ := hv
  obtain ⟨E, hH⟩ := gE_of B hml hpre
  replace E : gE p s m args meth c0 P "FramedLine$Decoder" b_D_takePulse 3 none := E
  have hcU := hc
  unfold kD at hcU
  have hx := E.1
  have hb := E.2.1
  have hl := lv_entry ([.ref (gad P c), .int a1]) (n := 3) (Nat.le_of_ble_eq_true rfl)
  rw [lg_entry_eq]
  generalize (lg_sl ([.ref (gad P c), .int a1]) ++ List.replicate (3 - (lg_sl ([.ref (gad P c), .int a1])).length) Slot.unset).toArray = ls at hl ⊢
  have hl : lv_has ls 3 [(0, .ref (gad P c)), (1, .int a1)] := hl
  have hsp : sp_D_takePulse c G0 a1 = sp_D_takePulse c G0 a1 := rfl
  refine lv_iload_n hx hb d_D_takePulse_0 rfl (lv_at hl 1 rfl) ?_
  refine lv_aload_n hx hb d_D_takePulse_1 rfl (lv_at hl 0 rfl) ?_
  refine g_geti (v := (G0 c 1)) E hH (gc_D hc) cl_D 1 (by decide) lf_D_15 (fun _ => rfl) rfl d_D_takePulse_2 ?_
  refine jn (α := Int32) (fun z H1 locs1 => z = (if a1 = (G0 c 1) then 1 else 0) ∧ isB z ∧ gH P s G0 H1 locs1) (fun z => F0 m 13 ls (.int z :: [])) (fun z H locs h9 => ?_) (fun hJ => ?_)
  · obtain ⟨rfl, hz13, hH⟩ := h9
    refine lv_istore_n hx hb d_D_takePulse_13 rfl hl (by decide) rfl (fun ls hl => ?_)
    refine lv_iload_n hx hb d_D_takePulse_14 rfl (lv_at hl 0 rfl) ?_
    refine lv_if_eq (tgt := 34) hx hb d_D_takePulse_15 (by decide) (fun h1 => ?_) (fun h1 => ?_)
    · refine lv_aload_n hx hb d_D_takePulse_34 rfl (lv_at hl 1 rfl) ?_
      refine lv_aload_n hx hb d_D_takePulse_35 rfl (lv_at hl 1 rfl) ?_
      refine g_geti (v := (G0 c 4)) E hH (gc_D hc) cl_D 4 (by decide) lf_D_24 (fun _ => rfl) rfl d_D_takePulse_36 ?_
      refine lv_iconst (v := 1) hx hb d_D_takePulse_39 (by decide) ?_
      refine lv_ishl hx hb d_D_takePulse_40 ?_
      refine lv_iconst (v := 1) hx hb d_D_takePulse_41 (by decide) ?_
      refine lv_ior hx hb d_D_takePulse_42 ?_
      refine lv_bipush (v := 15) hx hb d_D_takePulse_43 (by decide) ?_
      refine lv_iand hx hb d_D_takePulse_45 ?_
      refine g_puti E hH (gc_D hc) cl_D ct_D 4 (by decide) lf_D_24 rfl (by decide +kernel) (fun _ _ => rfl) (by decide) d_D_takePulse_46 (fun H locs hH => ?_)
      refine lv_iload_n hx hb d_D_takePulse_49 rfl (lv_at hl 0 rfl) ?_
      refine lv_if_eq (tgt := 63) hx hb d_D_takePulse_50 (by decide) (fun _ => ?_) (fun h0 => absurd h1 h0)
      refine lv_aload_n hx hb d_D_takePulse_63 rfl (lv_at hl 1 rfl) ?_
      refine lv_iload_n hx hb d_D_takePulse_64 rfl (lv_at hl 2 rfl) ?_
      refine g_puti E hH (gc_D hc) cl_D ct_D 1 (by decide) lf_D_15 rfl (by decide +kernel) (fun _ _ => rfl) (by decide) d_D_takePulse_65 (fun H locs hH => ?_)
      refine lv_aload_n hx hb d_D_takePulse_68 rfl (lv_at hl 1 rfl) ?_
      refine lv_iconst (v := 0) hx hb d_D_takePulse_69 (by decide) ?_
      refine g_puti E hH (gc_D hc) cl_D ct_D 3 (by decide) lf_D_21 rfl (by decide +kernel) (fun _ _ => rfl) (by decide) d_D_takePulse_70 (fun H locs hH => ?_)
      exact g_vret E hH (hsp.trans (by simp only [sp_D_takePulse, if_pos h1])) d_D_takePulse_73
    · refine lv_aload_n hx hb d_D_takePulse_18 rfl (lv_at hl 1 rfl) ?_
      refine g_geti (v := (G0 c 3)) E hH (gc_D hc) cl_D 3 (by decide) lf_D_21 (fun _ => rfl) rfl d_D_takePulse_19 ?_
      refine lv_iconst (v := 2) hx hb d_D_takePulse_22 (by decide) ?_
      refine lv_icmp_lt (tgt := 34) hx hb d_D_takePulse_23 (by decide) (fun h2 => ?_) (fun h2 => ?_)
      · refine lv_aload_n hx hb d_D_takePulse_34 rfl (lv_at hl 1 rfl) ?_
        refine lv_aload_n hx hb d_D_takePulse_35 rfl (lv_at hl 1 rfl) ?_
        refine g_geti (v := (G0 c 4)) E hH (gc_D hc) cl_D 4 (by decide) lf_D_24 (fun _ => rfl) rfl d_D_takePulse_36 ?_
        refine lv_iconst (v := 1) hx hb d_D_takePulse_39 (by decide) ?_
        refine lv_ishl hx hb d_D_takePulse_40 ?_
        refine lv_iconst (v := 1) hx hb d_D_takePulse_41 (by decide) ?_
        refine lv_ior hx hb d_D_takePulse_42 ?_
        refine lv_bipush (v := 15) hx hb d_D_takePulse_43 (by decide) ?_
        refine lv_iand hx hb d_D_takePulse_45 ?_
        refine g_puti E hH (gc_D hc) cl_D ct_D 4 (by decide) lf_D_24 rfl (by decide +kernel) (fun _ _ => rfl) (by decide) d_D_takePulse_46 (fun H locs hH => ?_)
        refine lv_iload_n hx hb d_D_takePulse_49 rfl (lv_at hl 0 rfl) ?_
        refine lv_if_eq (tgt := 63) hx hb d_D_takePulse_50 (by decide) (fun h0 => absurd h0 h1) (fun _ => ?_)
        refine lv_aload_n hx hb d_D_takePulse_53 rfl (lv_at hl 1 rfl) ?_
        refine lv_dup hx hb d_D_takePulse_54 rfl ?_
        refine g_geti (v := (G0 c 6)) E hH (gc_D hc) cl_D 6 (by decide) lf_D_30 (fun _ => rfl) (wr_k _ _ _ _ (by decide)) d_D_takePulse_55 ?_
        refine lv_iconst (v := 1) hx hb d_D_takePulse_58 (by decide) ?_
        refine lv_iadd hx hb d_D_takePulse_59 ?_
        refine g_puti E hH (gc_D hc) cl_D ct_D 6 (by decide) lf_D_30 rfl (by decide +kernel) (fun _ _ => rfl) (by decide) d_D_takePulse_60 (fun H locs hH => ?_)
        refine lv_aload_n hx hb d_D_takePulse_63 rfl (lv_at hl 1 rfl) ?_
        refine lv_iload_n hx hb d_D_takePulse_64 rfl (lv_at hl 2 rfl) ?_
        refine g_puti E hH (gc_D hc) cl_D ct_D 1 (by decide) lf_D_15 rfl (by decide +kernel) (fun _ _ => rfl) (by decide) d_D_takePulse_65 (fun H locs hH => ?_)
        refine lv_aload_n hx hb d_D_takePulse_68 rfl (lv_at hl 1 rfl) ?_
        refine lv_iconst (v := 0) hx hb d_D_takePulse_69 (by decide) ?_
        refine g_puti E hH (gc_D hc) cl_D ct_D 3 (by decide) lf_D_21 rfl (by decide +kernel) (fun _ _ => rfl) (by decide) d_D_takePulse_70 (fun H locs hH => ?_)
        exact g_vret E hH (hsp.trans (by simp only [sp_D_takePulse, if_neg h1, if_pos h2])) d_D_takePulse_73
      · refine lv_aload_n hx hb d_D_takePulse_26 rfl (lv_at hl 1 rfl) ?_
        refine lv_iload_n hx hb d_D_takePulse_27 rfl (lv_at hl 2 rfl) ?_
        refine g_callVv (As := [.int _]) E hH hl (c_D_takeV l P _ c _ hc) lm_D_40 (gc_D hc) cl_D (Nat.le_of_ble_eq_true rfl) (Nat.le_of_ble_eq_true rfl) (Nat.le_of_ble_eq_true rfl) (Nat.le_of_ble_eq_true rfl) (Nat.le_of_ble_eq_true rfl) rfl rfl rfl rfl d_D_takePulse_28 (fun H locs hH => ?_)
        refine lv_goto (tgt := 63) hx hb d_D_takePulse_31 (by decide) ?_
        refine lv_aload_n hx hb d_D_takePulse_63 rfl (lv_at hl 1 rfl) ?_
        refine lv_iload_n hx hb d_D_takePulse_64 rfl (lv_at hl 2 rfl) ?_
        refine g_puti E hH (gc_D hc) cl_D ct_D 1 (by decide) lf_D_15 rfl (by decide +kernel) (fun _ _ => rfl) (by decide) d_D_takePulse_65 (fun H locs hH => ?_)
        refine lv_aload_n hx hb d_D_takePulse_68 rfl (lv_at hl 1 rfl) ?_
        refine lv_iconst (v := 0) hx hb d_D_takePulse_69 (by decide) ?_
        refine g_puti E hH (gc_D hc) cl_D ct_D 3 (by decide) lf_D_21 rfl (by decide +kernel) (fun _ _ => rfl) (by decide) d_D_takePulse_70 (fun H locs hH => ?_)
        exact g_vret E hH (hsp.trans (by simp only [sp_D_takePulse, if_neg h1, if_neg h2])) d_D_takePulse_73
  · refine lv_icmp_ne (tgt := 12) hx hb d_D_takePulse_5 (by decide) (fun h3 => ?_) (fun h3 => ?_)
    · refine lv_iconst (v := 0) hx hb d_D_takePulse_12 (by decide) ?_
      exact hJ _ _ _ ⟨by simp only [if_neg h3], isB_0, hH⟩
    · refine lv_iconst (v := 1) hx hb d_D_takePulse_8 (by decide) ?_
      refine lv_goto (tgt := 13) hx hb d_D_takePulse_9 (by decide) ?_
      exact hJ _ _ _ ⟨by simp only [if_pos h3], isB_1, hH⟩

def sp_D_bitBehind (c : Nat) (G0 : Mem) (a1 : Int32) : Int32 × Mem :=
  (if a1 = 0 then (if 3 ≤ ((sp_D_takeZero c (wr G0 c 0 a1)) c 5) then (((((sp_D_takeZero c (wr G0 c 0 a1)) c 4) >>> (3 &&& 31)) &&& 1), (sp_D_takeZero c (wr G0 c 0 a1))) else (((-1) : Int32), (wr (sp_D_takeZero c (wr G0 c 0 a1)) c 5 (((sp_D_takeZero c (wr G0 c 0 a1)) c 5) + 1)))) else (if 3 ≤ ((sp_D_takePulse c (wr G0 c 0 a1) a1) c 5) then (((((sp_D_takePulse c (wr G0 c 0 a1) a1) c 4) >>> (3 &&& 31)) &&& 1), (sp_D_takePulse c (wr G0 c 0 a1) a1)) else (((-1) : Int32), (wr (sp_D_takePulse c (wr G0 c 0 a1) a1) c 5 (((sp_D_takePulse c (wr G0 c 0 a1) a1) c 5) + 1)))))
set_option maxHeartbeats 4000000 in
set_option maxRecDepth 100000 in
theorem c_D_bitBehind (l : Launch) (P : gP) (G0 : Mem) (c : Nat) (a1 : Int32) (hc : kD c) : gMi l y_D_bitBehind b_D_bitBehind 2 (some .int) ({ frames := 2, cells := 0, slots := 0, locals := 43 }) [.ref (gad P c), .int a1] P G0 (sp_D_bitBehind c G0 a1) := by
  refine Met.ofW (cc := b_D_bitBehind) (maxL := 2) (ret := (some .int)) (by decide) rfl ?_
  intro p e s m args below meth c0 s₁ B hml hv
  obtain ⟨rfl, hpre⟩ := hv
  obtain ⟨E, hH⟩ := gE_of B hml hpre
  replace E : gE p s m args meth c0 P "FramedLine$Decoder" b_D_bitBehind 2 (some .int) := E
  have hcU := hc
  unfold kD at hcU
  have hx := E.1
  have hb := E.2.1
  have hl := lv_entry ([.ref (gad P c), .int a1]) (n := 2) (Nat.le_of_ble_eq_true rfl)
  rw [lg_entry_eq]
  generalize (lg_sl ([.ref (gad P c), .int a1]) ++ List.replicate (2 - (lg_sl ([.ref (gad P c), .int a1])).length) Slot.unset).toArray = ls at hl ⊢
  have hl : lv_has ls 2 [(0, .ref (gad P c)), (1, .int a1)] := hl
  have hsp : sp_D_bitBehind c G0 a1 = sp_D_bitBehind c G0 a1 := rfl
  refine lv_aload_n hx hb d_D_bitBehind_0 rfl (lv_at hl 0 rfl) ?_
  refine lv_iload_n hx hb d_D_bitBehind_1 rfl (lv_at hl 1 rfl) ?_
  refine g_puti E hH (gc_D hc) cl_D ct_D 0 (by decide) lf_D_9 rfl (by decide +kernel) (fun _ _ => rfl) (by decide) d_D_bitBehind_2 (fun H locs hH => ?_)
  refine lv_iload_n hx hb d_D_bitBehind_5 rfl (lv_at hl 1 rfl) ?_
  refine lv_if_ne (tgt := 16) hx hb d_D_bitBehind_6 (by decide) (fun h1 => ?_) (fun h1 => ?_)
  · refine lv_aload_n hx hb d_D_bitBehind_16 rfl (lv_at hl 0 rfl) ?_
    refine lv_iload_n hx hb d_D_bitBehind_17 rfl (lv_at hl 1 rfl) ?_
    refine g_callVv (As := [.int _]) E hH hl (c_D_takePulse l P _ c _ hc) lm_D_36 (gc_D hc) cl_D (Nat.le_of_ble_eq_true rfl) (Nat.le_of_ble_eq_true rfl) (Nat.le_of_ble_eq_true rfl) (Nat.le_of_ble_eq_true rfl) (Nat.le_of_ble_eq_true rfl) rfl rfl rfl rfl d_D_bitBehind_18 (fun H locs hH => ?_)
    refine lv_aload_n hx hb d_D_bitBehind_21 rfl (lv_at hl 0 rfl) ?_
    refine g_geti (v := ((sp_D_takePulse c (wr G0 c 0 a1) a1) c 5)) E hH (gc_D hc) cl_D 5 (by decide) lf_D_27 (fun _ => rfl) rfl d_D_bitBehind_22 ?_
    refine lv_iconst (v := 3) hx hb d_D_bitBehind_25 (by decide) ?_
    refine lv_icmp_ge (tgt := 41) hx hb d_D_bitBehind_26 (by decide) (fun h2 => ?_) (fun h2 => ?_)
    · refine lv_aload_n hx hb d_D_bitBehind_41 rfl (lv_at hl 0 rfl) ?_
      refine g_geti (v := ((sp_D_takePulse c (wr G0 c 0 a1) a1) c 4)) E hH (gc_D hc) cl_D 4 (by decide) lf_D_24 (fun _ => rfl) rfl d_D_bitBehind_42 ?_
      refine lv_iconst (v := 3) hx hb d_D_bitBehind_45 (by decide) ?_
      refine lv_ishr hx hb d_D_bitBehind_46 ?_
      refine lv_iconst (v := 1) hx hb d_D_bitBehind_47 (by decide) ?_
      refine lv_iand hx hb d_D_bitBehind_48 ?_
      exact g_iret E hH (hsp.trans (by simp only [sp_D_bitBehind, if_neg h1, if_pos h2])) d_D_bitBehind_49
    · refine lv_aload_n hx hb d_D_bitBehind_29 rfl (lv_at hl 0 rfl) ?_
      refine lv_dup hx hb d_D_bitBehind_30 rfl ?_
      refine g_geti (v := ((sp_D_takePulse c (wr G0 c 0 a1) a1) c 5)) E hH (gc_D hc) cl_D 5 (by decide) lf_D_27 (fun _ => rfl) rfl d_D_bitBehind_31 ?_
      refine lv_iconst (v := 1) hx hb d_D_bitBehind_34 (by decide) ?_
      refine lv_iadd hx hb d_D_bitBehind_35 ?_
      refine g_puti E hH (gc_D hc) cl_D ct_D 5 (by decide) lf_D_27 rfl (by decide +kernel) (fun _ _ => rfl) (by decide) d_D_bitBehind_36 (fun H locs hH => ?_)
      refine lv_iconst (v := (-1)) hx hb d_D_bitBehind_39 (by decide) ?_
      exact g_iret E hH (hsp.trans (by simp only [sp_D_bitBehind, if_neg h1, if_neg h2])) d_D_bitBehind_40
  · refine lv_aload_n hx hb d_D_bitBehind_9 rfl (lv_at hl 0 rfl) ?_
    refine g_callVv (As := []) E hH hl (c_D_takeZero l P _ c hc) lm_D_33 (gc_D hc) cl_D (Nat.le_of_ble_eq_true rfl) (Nat.le_of_ble_eq_true rfl) (Nat.le_of_ble_eq_true rfl) (Nat.le_of_ble_eq_true rfl) (Nat.le_of_ble_eq_true rfl) rfl rfl rfl rfl d_D_bitBehind_10 (fun H locs hH => ?_)
    refine lv_goto (tgt := 21) hx hb d_D_bitBehind_13 (by decide) ?_
    refine lv_aload_n hx hb d_D_bitBehind_21 rfl (lv_at hl 0 rfl) ?_
    refine g_geti (v := ((sp_D_takeZero c (wr G0 c 0 a1)) c 5)) E hH (gc_D hc) cl_D 5 (by decide) lf_D_27 (fun _ => rfl) rfl d_D_bitBehind_22 ?_
    refine lv_iconst (v := 3) hx hb d_D_bitBehind_25 (by decide) ?_
    refine lv_icmp_ge (tgt := 41) hx hb d_D_bitBehind_26 (by decide) (fun h3 => ?_) (fun h3 => ?_)
    · refine lv_aload_n hx hb d_D_bitBehind_41 rfl (lv_at hl 0 rfl) ?_
      refine g_geti (v := ((sp_D_takeZero c (wr G0 c 0 a1)) c 4)) E hH (gc_D hc) cl_D 4 (by decide) lf_D_24 (fun _ => rfl) rfl d_D_bitBehind_42 ?_
      refine lv_iconst (v := 3) hx hb d_D_bitBehind_45 (by decide) ?_
      refine lv_ishr hx hb d_D_bitBehind_46 ?_
      refine lv_iconst (v := 1) hx hb d_D_bitBehind_47 (by decide) ?_
      refine lv_iand hx hb d_D_bitBehind_48 ?_
      exact g_iret E hH (hsp.trans (by simp only [sp_D_bitBehind, if_pos h1, if_pos h3])) d_D_bitBehind_49
    · refine lv_aload_n hx hb d_D_bitBehind_29 rfl (lv_at hl 0 rfl) ?_
      refine lv_dup hx hb d_D_bitBehind_30 rfl ?_
      refine g_geti (v := ((sp_D_takeZero c (wr G0 c 0 a1)) c 5)) E hH (gc_D hc) cl_D 5 (by decide) lf_D_27 (fun _ => rfl) rfl d_D_bitBehind_31 ?_
      refine lv_iconst (v := 1) hx hb d_D_bitBehind_34 (by decide) ?_
      refine lv_iadd hx hb d_D_bitBehind_35 ?_
      refine g_puti E hH (gc_D hc) cl_D ct_D 5 (by decide) lf_D_27 rfl (by decide +kernel) (fun _ _ => rfl) (by decide) d_D_bitBehind_36 (fun H locs hH => ?_)
      refine lv_iconst (v := (-1)) hx hb d_D_bitBehind_39 (by decide) ?_
      exact g_iret E hH (hsp.trans (by simp only [sp_D_bitBehind, if_pos h1, if_neg h3])) d_D_bitBehind_40
end
