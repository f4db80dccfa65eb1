theorem nmm {x y : Nat} {S : List Nat} (h : x ∉ S) (hy : y ∈ S) : x ≠ y := fun e => h (e ▸ hy)
theorem fr_D_takeV {c : Nat} {G0 : Mem} {a1 : Int32} {x : Nat} (h : x ∉ ([c] : List Nat)) : (sp_D_takeV c G0 a1) x = G0 x := by
  unfold sp_D_takeV
  repeat' split
  all_goals first | rfl | simp only [wr_c _ _ _ _ (nmm h (by simp) : x ≠ c)]
theorem fr_D_takeZero {c : Nat} {G0 : Mem} {x : Nat} (h : x ∉ ([c] : List Nat)) : (sp_D_takeZero c G0) x = G0 x := by
  unfold sp_D_takeZero
  repeat' split
  all_goals first | rfl | simp only [wr_c _ _ _ _ (nmm h (by simp) : x ≠ c)]
theorem fr_D_takePulse {c : Nat} {G0 : Mem} {a1 : Int32} {x : Nat} (h : x ∉ ([c] : List Nat)) : (sp_D_takePulse c G0 a1) x = G0 x := by
  unfold sp_D_takePulse
  repeat' split
  all_goals first | rfl | simp only [wr_c _ _ _ _ (nmm h (by simp) : x ≠ c), fr_D_takeV (c := c) (x := x) (by simp only [List.mem_cons, List.not_mem_nil, or_false, not_or] at h ⊢; omega)]
theorem fr_D_bitBehind {c : Nat} {G0 : Mem} {a1 : Int32} {x : Nat} (h : x ∉ ([c] : List Nat)) : (sp_D_bitBehind c G0 a1).2 x = G0 x := by
  unfold sp_D_bitBehind
  repeat' split
  all_goals first | rfl | simp only [wr_c _ _ _ _ (nmm h (by simp) : x ≠ c), fr_D_takeZero (c := c) (x := x) (by simp only [List.mem_cons, List.not_mem_nil, or_false, not_or] at h ⊢; omega), fr_D_takePulse (c := c) (x := x) (by simp only [List.mem_cons, List.not_mem_nil, or_false, not_or] at h ⊢; omega)]
theorem fr_E_pulseOfOne {c : Nat} {G0 : Mem} {x : Nat} (h : x ∉ ([c] : List Nat)) : (sp_E_pulseOfOne c G0).2 x = G0 x := by
  unfold sp_E_pulseOfOne
  repeat' split
  all_goals first | rfl | simp only [wr_c _ _ _ _ (nmm h (by simp) : x ≠ c)]
theorem fr_E_symbolOfZero {c : Nat} {G0 : Mem} {x : Nat} (h : x ∉ ([c] : List Nat)) : (sp_E_symbolOfZero c G0).2 x = G0 x := by
  unfold sp_E_symbolOfZero
  repeat' split
  all_goals first | rfl | simp only [wr_c _ _ _ _ (nmm h (by simp) : x ≠ c)]
theorem fr_E_symbolBehind {c : Nat} {G0 : Mem} {a1 : Int32} {x : Nat} (h : x ∉ ([c] : List Nat)) : (sp_E_symbolBehind c G0 a1).2 x = G0 x := by
  unfold sp_E_symbolBehind
  repeat' split
  all_goals first | rfl | simp only [wr_c _ _ _ _ (nmm h (by simp) : x ≠ c), fr_E_pulseOfOne (c := c) (x := x) (by simp only [List.mem_cons, List.not_mem_nil, or_false, not_or] at h ⊢; omega), fr_E_symbolOfZero (c := c) (x := x) (by simp only [List.mem_cons, List.not_mem_nil, or_false, not_or] at h ⊢; omega)]
theorem fr_O_forgetNumber {c : Nat} {G0 : Mem} {x : Nat} (h : x ∉ ([c] : List Nat)) : (sp_O_forgetNumber c G0) x = G0 x := by
  unfold sp_O_forgetNumber
  repeat' split
  all_goals first | rfl | simp only [wr_c _ _ _ _ (nmm h (by simp) : x ≠ c)]
theorem fr_O_startAnew {c : Nat} {G0 : Mem} {x : Nat} (h : x ∉ ([c] : List Nat)) : (sp_O_startAnew c G0) x = G0 x := by
  unfold sp_O_startAnew
  repeat' split
  all_goals first | rfl | simp only [wr_c _ _ _ _ (nmm h (by simp) : x ≠ c), fr_O_forgetNumber (c := c) (x := x) (by simp only [List.mem_cons, List.not_mem_nil, or_false, not_or] at h ⊢; omega)]
theorem fr_O_judgeHalfBefore {c : Nat} {G0 : Mem} {x : Nat} (h : x ∉ ([c] : List Nat)) : (sp_O_judgeHalfBefore c G0) x = G0 x := by
  unfold sp_O_judgeHalfBefore
  repeat' split
  all_goals first | rfl | simp only [wr_c _ _ _ _ (nmm h (by simp) : x ≠ c)]
theorem fr_O_endHalf {c : Nat} {G0 : Mem} {x : Nat} (h : x ∉ ([c] : List Nat)) : (sp_O_endHalf c G0) x = G0 x := by
  unfold sp_O_endHalf
  repeat' split
  all_goals first | rfl | simp only [wr_c _ _ _ _ (nmm h (by simp) : x ≠ c), fr_O_judgeHalfBefore (c := c) (x := x) (by simp only [List.mem_cons, List.not_mem_nil, or_false, not_or] at h ⊢; omega)]
theorem fr_O_judgeRoundWord {c : Nat} {G0 : Mem} {x : Nat} (h : x ∉ ([c] : List Nat)) : (sp_O_judgeRoundWord c G0) x = G0 x := by
  unfold sp_O_judgeRoundWord
  repeat' split
  all_goals first | rfl | simp only [wr_c _ _ _ _ (nmm h (by simp) : x ≠ c), fr_O_forgetNumber (c := c) (x := x) (by simp only [List.mem_cons, List.not_mem_nil, or_false, not_or] at h ⊢; omega)]
theorem fr_O_findNumber {c : Nat} {G0 : Mem} {a1 : Int32} {x : Nat} (h : x ∉ ([c] : List Nat)) : (sp_O_findNumber c G0 a1) x = G0 x := by
  unfold sp_O_findNumber
  repeat' split
  all_goals first | rfl | simp only [wr_c _ _ _ _ (nmm h (by simp) : x ≠ c)]
theorem fr_O_takeFrame {c : Nat} {G0 : Mem} {a1 : Int32} {a2 : Int32} {x : Nat} (h : x ∉ ([c] : List Nat)) : (sp_O_takeFrame c G0 a1 a2) x = G0 x := by
  unfold sp_O_takeFrame
  repeat' split
  all_goals first | rfl | simp only [wr_c _ _ _ _ (nmm h (by simp) : x ≠ c), fr_O_findNumber (c := c) (x := x) (by simp only [List.mem_cons, List.not_mem_nil, or_false, not_or] at h ⊢; omega), fr_O_judgeRoundWord (c := c) (x := x) (by simp only [List.mem_cons, List.not_mem_nil, or_false, not_or] at h ⊢; omega), fr_O_endHalf (c := c) (x := x) (by simp only [List.mem_cons, List.not_mem_nil, or_false, not_or] at h ⊢; omega)]
theorem fr_R_enter {c : Nat} {G0 : Mem} {a1 : Int32} {x : Nat} (h : x ∉ ([c] : List Nat)) : (sp_R_enter c G0 a1) x = G0 x := by
  unfold sp_R_enter
  repeat' split
  all_goals first | rfl | simp only [wr_c _ _ _ _ (nmm h (by simp) : x ≠ c)]
theorem fr_R_search {c : Nat} {G0 : Mem} {x : Nat} (h : x ∉ ([c] : List Nat)) : (sp_R_search c G0) x = G0 x := by
  unfold sp_R_search
  repeat' split
  all_goals first | rfl | simp only [fr_R_enter (c := c) (x := x) (by simp only [List.mem_cons, List.not_mem_nil, or_false, not_or] at h ⊢; omega)]
theorem fr_R_align {c : Nat} {G0 : Mem} {x : Nat} (h : x ∉ ([c] : List Nat)) : (sp_R_align c G0) x = G0 x := by
  unfold sp_R_align
  repeat' split
  all_goals first | rfl | simp only [wr_c _ _ _ _ (nmm h (by simp) : x ≠ c), fr_R_enter (c := c) (x := x) (by simp only [List.mem_cons, List.not_mem_nil, or_false, not_or] at h ⊢; omega)]
theorem fr_R_tryWord {c : Nat} {G0 : Mem} {a1 : Int32} {x : Nat} (h : x ∉ ([c] : List Nat)) : (sp_R_tryWord c G0 a1) x = G0 x := by
  unfold sp_R_tryWord
  repeat' split
  all_goals first | rfl | simp only [fr_R_enter (c := c) (x := x) (by simp only [List.mem_cons, List.not_mem_nil, or_false, not_or] at h ⊢; omega), fr_R_align (c := c) (x := x) (by simp only [List.mem_cons, List.not_mem_nil, or_false, not_or] at h ⊢; omega)]
theorem fr_R_lookAtWord {c : Nat} {G0 : Mem} {x : Nat} (h : x ∉ ([c, c + 1] : List Nat)) : (sp_R_lookAtWord c G0) x = G0 x := by
  unfold sp_R_lookAtWord
  repeat' split
  all_goals first | rfl | simp only [wr_c _ _ _ _ (nmm h (by simp) : x ≠ c), fr_O_startAnew (c := (c + 1)) (x := x) (by simp only [List.mem_cons, List.not_mem_nil, or_false, not_or] at h ⊢; omega), fr_R_enter (c := c) (x := x) (by simp only [List.mem_cons, List.not_mem_nil, or_false, not_or] at h ⊢; omega)]
theorem fr_R_complete {c : Nat} {G0 : Mem} {x : Nat} (h : x ∉ ([c, c + 1] : List Nat)) : (sp_R_complete c G0) x = G0 x := by
  unfold sp_R_complete
  repeat' split
  all_goals first | rfl | simp only [wr_c _ _ _ _ (nmm h (by simp) : x ≠ c), fr_O_takeFrame (c := (c + 1)) (x := x) (by simp only [List.mem_cons, List.not_mem_nil, or_false, not_or] at h ⊢; omega)]
theorem fr_R_takeBit {c : Nat} {G0 : Mem} {a1 : Int32} {x : Nat} (h : x ∉ ([c, c + 1] : List Nat)) : (sp_R_takeBit c G0 a1) x = G0 x := by
  unfold sp_R_takeBit
  repeat' split
  all_goals first | rfl | simp only [wr_c _ _ _ _ (nmm h (by simp) : x ≠ c), fr_R_search (c := c) (x := x) (by simp only [List.mem_cons, List.not_mem_nil, or_false, not_or] at h ⊢; omega), fr_R_tryWord (c := c) (x := x) (by simp only [List.mem_cons, List.not_mem_nil, or_false, not_or] at h ⊢; omega), fr_R_complete (c := c) (x := x) (by simp only [List.mem_cons, List.not_mem_nil, or_false, not_or] at h ⊢; omega), fr_R_lookAtWord (c := c) (x := x) (by simp only [List.mem_cons, List.not_mem_nil, or_false, not_or] at h ⊢; omega)]
theorem fr_S_exchange {c : Nat} {G0 : Mem} {a1 : Int32} {a2 : Int32} {x : Nat} (h : x ∉ ([c + 1] : List Nat)) : (sp_S_exchange c G0 a1 a2).2 x = G0 x := by
  unfold sp_S_exchange
  repeat' split
  all_goals first | rfl | simp only [wr_c _ _ _ _ (nmm h (by simp) : x ≠ c + 1)]
theorem fr_S_nextBit {c : Nat} {G0 : Mem} {x : Nat} (h : x ∉ ([c] : List Nat)) : (sp_S_nextBit c G0).2 x = G0 x := by
  unfold sp_S_nextBit
  repeat' split
  all_goals first | rfl | simp only [wr_c _ _ _ _ (nmm h (by simp) : x ≠ c)]
theorem fr_S_beginFrame {c : Nat} {c2 : Nat} {G0 : Mem} {x : Nat} (h : x ∉ ([c] : List Nat)) : (sp_S_beginFrame c c2 G0) x = G0 x := by
  unfold sp_S_beginFrame
  repeat' split
  all_goals first | rfl | simp only [wr_c _ _ _ _ (nmm h (by simp) : x ≠ c)]
theorem fr_N_send {c : Nat} {G0 : Mem} {x : Nat} (h : x ∉ ([c + 1, c + 3] : List Nat)) : (sp_N_send c G0).2 x = G0 x := by
  unfold sp_N_send
  repeat' split
  all_goals first | rfl | simp only [fr_E_symbolBehind (c := (c + 3)) (x := x) (by simp only [List.mem_cons, List.not_mem_nil, or_false, not_or] at h ⊢; omega), fr_S_nextBit (c := (c + 1)) (x := x) (by simp only [List.mem_cons, List.not_mem_nil, or_false, not_or] at h ⊢; omega), fr_S_beginFrame (c := (c + 1)) (x := x) (by simp only [List.mem_cons, List.not_mem_nil, or_false, not_or] at h ⊢; omega)]
theorem fr_A_doubleNext {c : Nat} {G0 : Mem} {x : Nat} (h : x ∉ ([c] : List Nat)) : (sp_A_doubleNext c G0).2 x = G0 x := by
  unfold sp_A_doubleNext
  repeat' split
  all_goals first | rfl | simp only [wr_c _ _ _ _ (nmm h (by simp) : x ≠ c)]
theorem fr_A_comings {c : Nat} {G0 : Mem} {x : Nat} (h : x ∉ ([c] : List Nat)) : (sp_A_comings c G0).2 x = G0 x := by
  unfold sp_A_comings
  repeat' split
  all_goals first | rfl | simp only [wr_c _ _ _ _ (nmm h (by simp) : x ≠ c)]
theorem fr_M_fault {G0 : Mem} {a1 : Int32} {a2 : Int32} {a3 : Int32} {x : Nat} (h : x ∉ ([63] : List Nat)) : (sp_M_fault G0 a1 a2 a3) x = G0 x := by
  unfold sp_M_fault
  repeat' split
  all_goals first | rfl | simp only [wr_c _ _ _ _ (nmm h (by simp) : x ≠ 63)]
theorem fr_M_forget {G0 : Mem} {a1 : Int32} {x : Nat} (h : x ∉ ([52, 57, 60, 62] : List Nat)) : (sp_M_forget G0 a1) x = G0 x := by
  unfold sp_M_forget
  repeat' split
  all_goals first | rfl | simp only [wr_c _ _ _ _ (nmm h (by simp) : x ≠ 52), wr_c _ _ _ _ (nmm h (by simp) : x ≠ 57), wr_c _ _ _ _ (nmm h (by simp) : x ≠ 60), wr_c _ _ _ _ (nmm h (by simp) : x ≠ 62)]
theorem fr_M_search {G0 : Mem} {a1 : Int32} {x : Nat} (h : x ∉ ([43, 44, 52, 57, 60, 62] : List Nat)) : (sp_M_search G0 a1) x = G0 x := by
  unfold sp_M_search
  repeat' split
  all_goals first | rfl | simp only [wr_c _ _ _ _ (nmm h (by simp) : x ≠ 43), wr_c _ _ _ _ (nmm h (by simp) : x ≠ 44), fr_M_forget (x := x) (by simp only [List.mem_cons, List.not_mem_nil, or_false, not_or] at h ⊢; omega)]
theorem fr_M_turned {G0 : Mem} {a1 : Int32} {x : Nat} (h : x ∉ ([30] : List Nat)) : (sp_M_turned G0 a1).2 x = G0 x := by
  unfold sp_M_turned
  repeat' split
  all_goals first | rfl | simp only [wr_c _ _ _ _ (nmm h (by simp) : x ≠ 30)]
theorem fr_M_beginFrame {G0 : Mem} {a1 : Int32} {x : Nat} (h : x ∉ ([23] : List Nat)) : (sp_M_beginFrame G0 a1) x = G0 x := by
  unfold sp_M_beginFrame
  repeat' split
  all_goals first | rfl | simp only [wr_c _ _ _ _ (nmm h (by simp) : x ≠ 23)]
theorem fr_M_nextBit {G0 : Mem} {a1 : Int32} {x : Nat} (h : x ∉ ([23, 24, 25, 26, 27] : List Nat)) : (sp_M_nextBit G0 a1).2 x = G0 x := by
  unfold sp_M_nextBit
  repeat' split
  all_goals first | rfl | simp only [wr_c _ _ _ _ (nmm h (by simp) : x ≠ 24), wr_c _ _ _ _ (nmm h (by simp) : x ≠ 25), wr_c _ _ _ _ (nmm h (by simp) : x ≠ 26), wr_c _ _ _ _ (nmm h (by simp) : x ≠ 27), fr_M_beginFrame (x := x) (by simp only [List.mem_cons, List.not_mem_nil, or_false, not_or] at h ⊢; omega)]
theorem fr_M_send {G0 : Mem} {a1 : Int32} {x : Nat} (h : x ∉ ([23, 24, 25, 26, 27, 28, 29, 30, 31] : List Nat)) : (sp_M_send G0 a1).2 x = G0 x := by
  unfold sp_M_send
  repeat' split
  all_goals first | rfl | simp only [wr_c _ _ _ _ (nmm h (by simp) : x ≠ 28), wr_c _ _ _ _ (nmm h (by simp) : x ≠ 29), wr_c _ _ _ _ (nmm h (by simp) : x ≠ 31), fr_M_nextBit (x := x) (by simp only [List.mem_cons, List.not_mem_nil, or_false, not_or] at h ⊢; omega), fr_M_turned (x := x) (by simp only [List.mem_cons, List.not_mem_nil, or_false, not_or] at h ⊢; omega)]
theorem fr_M_halves_213 {a1 : Int32} {a2 : Int32} {a3 : Int32} {G : Mem} {x : Nat} (h : x ∉ ([60, 61] : List Nat)) : (sp_M_halves_213 a1 a2 a3 G) x = G x := by
  unfold sp_M_halves_213
  repeat' split
  all_goals first | rfl | simp only [wr_c _ _ _ _ (nmm h (by simp) : x ≠ 60), wr_c _ _ _ _ (nmm h (by simp) : x ≠ 61)]
theorem fr_M_halves_99 {a1 : Int32} {a2 : Int32} {a3 : Int32} {G : Mem} {x : Nat} (h : x ∉ ([59, 60, 61, 62, 63] : List Nat)) : (sp_M_halves_99 a1 a2 a3 G) x = G x := by
  unfold sp_M_halves_99
  repeat' split
  all_goals first | rfl | simp only [wr_c _ _ _ _ (nmm h (by simp) : x ≠ 59), wr_c _ _ _ _ (nmm h (by simp) : x ≠ 62), fr_M_halves_213 (x := x) (by simp only [List.mem_cons, List.not_mem_nil, or_false, not_or] at h ⊢; omega), fr_M_fault (x := x) (by simp only [List.mem_cons, List.not_mem_nil, or_false, not_or] at h ⊢; omega)]
theorem fr_M_halves_47 {a1 : Int32} {a2 : Int32} {a3 : Int32} {x : Nat} (h : x ∉ ([58, 59, 60, 61, 62, 63] : List Nat)) : ∀ (d : Nat) (G : Mem) (x4 : Int32), (sp_M_halves_47 a1 a2 a3 d G x4) x = G x := by
  intro d
  induction d with
  | zero => intros; rfl
  | succ d ih =>
    intros
    rw [sp_M_halves_47]
    repeat' split
    all_goals first | rfl | simp only [wr_c _ _ _ _ (nmm h (by simp) : x ≠ 58), fr_M_halves_99 (x := x) (by simp only [List.mem_cons, List.not_mem_nil, or_false, not_or] at h ⊢; omega), ih]
theorem fr_M_halves_33 {a1 : Int32} {a2 : Int32} {a3 : Int32} {G : Mem} {x : Nat} (h : x ∉ ([58, 59, 60, 61, 62, 63] : List Nat)) : (sp_M_halves_33 a1 a2 a3 G) x = G x := by
  unfold sp_M_halves_33
  repeat' split
  all_goals first | rfl | simp only [fr_M_halves_47 (x := x) (by simp only [List.mem_cons, List.not_mem_nil, or_false, not_or] at h ⊢; omega)]
theorem fr_M_halves {G0 : Mem} {a1 : Int32} {a2 : Int32} {a3 : Int32} {x : Nat} (h : x ∉ ([57, 58, 59, 60, 61, 62, 63] : List Nat)) : (sp_M_halves G0 a1 a2 a3) x = G0 x := by
  unfold sp_M_halves
  repeat' split
  all_goals first | rfl | simp only [wr_c _ _ _ _ (nmm h (by simp) : x ≠ 57), wr_c _ _ _ _ (nmm h (by simp) : x ≠ 58), wr_c _ _ _ _ (nmm h (by simp) : x ≠ 59), fr_M_halves_33 (x := x) (by simp only [List.mem_cons, List.not_mem_nil, or_false, not_or] at h ⊢; omega)]
theorem fr_M_complete_252 {a1 : Int32} {G : Mem} {x2 : Int32} {x3 : Int32} {x : Nat} (h : x ∉ ([57, 58, 59, 60, 61, 62, 63] : List Nat)) : (sp_M_complete_252 a1 G x2 x3) x = G x := by
  unfold sp_M_complete_252
  repeat' split
  all_goals first | rfl | simp only [fr_M_halves (x := x) (by simp only [List.mem_cons, List.not_mem_nil, or_false, not_or] at h ⊢; omega), fr_M_fault (x := x) (by simp only [List.mem_cons, List.not_mem_nil, or_false, not_or] at h ⊢; omega)]
theorem fr_M_complete_152 {a1 : Int32} {G : Mem} {x2 : Int32} {x3 : Int32} {x4 : Int32} {x : Nat} (h : x ∉ ([52, 53, 56, 57, 58, 59, 60, 61, 62, 63] : List Nat)) : (sp_M_complete_152 a1 G x2 x3 x4) x = G x := by
  unfold sp_M_complete_152
  repeat' split
  all_goals first | rfl | simp only [wr_c _ _ _ _ (nmm h (by simp) : x ≠ 52), wr_c _ _ _ _ (nmm h (by simp) : x ≠ 53), wr_c _ _ _ _ (nmm h (by simp) : x ≠ 56), fr_M_forget (x := x) (by simp only [List.mem_cons, List.not_mem_nil, or_false, not_or] at h ⊢; omega), fr_M_complete_252 (x := x) (by simp only [List.mem_cons, List.not_mem_nil, or_false, not_or] at h ⊢; omega)]
theorem fr_M_complete_114 {a1 : Int32} {G : Mem} {x2 : Int32} {x3 : Int32} {x : Nat} (h : x ∉ ([52, 53, 56, 57, 58, 59, 60, 61, 62, 63] : List Nat)) : (sp_M_complete_114 a1 G x2 x3) x = G x := by
  unfold sp_M_complete_114
  repeat' split
  all_goals first | rfl | simp only [fr_M_complete_152 (x := x) (by simp only [List.mem_cons, List.not_mem_nil, or_false, not_or] at h ⊢; omega)]
theorem fr_M_complete_35 {a1 : Int32} {G : Mem} {x2 : Int32} {x3 : Int32} {x : Nat} (h : x ∉ ([51, 52, 53, 54, 55, 56, 57, 58, 59, 60, 61, 62, 63] : List Nat)) : (sp_M_complete_35 a1 G x2 x3) x = G x := by
  unfold sp_M_complete_35
  repeat' split
  all_goals first | rfl | simp only [wr_c _ _ _ _ (nmm h (by simp) : x ≠ 51), wr_c _ _ _ _ (nmm h (by simp) : x ≠ 54), wr_c _ _ _ _ (nmm h (by simp) : x ≠ 55), fr_M_complete_114 (x := x) (by simp only [List.mem_cons, List.not_mem_nil, or_false, not_or] at h ⊢; omega)]
theorem fr_M_complete {G0 : Mem} {a1 : Int32} {x : Nat} (h : x ∉ ([49, 50, 51, 52, 53, 54, 55, 56, 57, 58, 59, 60, 61, 62, 63] : List Nat)) : (sp_M_complete G0 a1) x = G0 x := by
  unfold sp_M_complete
  repeat' split
  all_goals first | rfl | simp only [wr_c _ _ _ _ (nmm h (by simp) : x ≠ 49), wr_c _ _ _ _ (nmm h (by simp) : x ≠ 50), fr_M_complete_35 (x := x) (by simp only [List.mem_cons, List.not_mem_nil, or_false, not_or] at h ⊢; omega), fr_M_fault (x := x) (by simp only [List.mem_cons, List.not_mem_nil, or_false, not_or] at h ⊢; omega)]
theorem fr_M_frameBit {G0 : Mem} {a1 : Int32} {x : Nat} (h : x ∉ ([43, 44, 46, 47, 48, 49, 50, 51, 52, 53, 54, 55, 56, 57, 58, 59, 60, 61, 62, 63] : List Nat)) : (sp_M_frameBit G0 a1) x = G0 x := by
  unfold sp_M_frameBit
  repeat' split
  all_goals first | rfl | simp only [wr_c _ _ _ _ (nmm h (by simp) : x ≠ 46), wr_c _ _ _ _ (nmm h (by simp) : x ≠ 47), wr_c _ _ _ _ (nmm h (by simp) : x ≠ 48), fr_M_complete (x := x) (by simp only [List.mem_cons, List.not_mem_nil, or_false, not_or] at h ⊢; omega), fr_M_search (x := x) (by simp only [List.mem_cons, List.not_mem_nil, or_false, not_or] at h ⊢; omega), fr_M_fault (x := x) (by simp only [List.mem_cons, List.not_mem_nil, or_false, not_or] at h ⊢; omega)]
theorem fr_M_make {G0 : Mem} {a1 : Int32} {a2 : Int32} {x : Nat} (h : x ∉ ([43, 44, 45, 46, 47, 48, 49, 50, 51, 52, 53, 54, 55, 56, 57, 58, 59, 60, 61, 62, 63] : List Nat)) : (sp_M_make G0 a1 a2) x = G0 x := by
  unfold sp_M_make
  repeat' split
  all_goals first | rfl | simp only [wr_c _ _ _ _ (nmm h (by simp) : x ≠ 43), wr_c _ _ _ _ (nmm h (by simp) : x ≠ 44), wr_c _ _ _ _ (nmm h (by simp) : x ≠ 45), wr_c _ _ _ _ (nmm h (by simp) : x ≠ 46), wr_c _ _ _ _ (nmm h (by simp) : x ≠ 47), wr_c _ _ _ _ (nmm h (by simp) : x ≠ 48), wr_c _ _ _ _ (nmm h (by simp) : x ≠ 54), wr_c _ _ _ _ (nmm h (by simp) : x ≠ 55), fr_M_frameBit (x := x) (by simp only [List.mem_cons, List.not_mem_nil, or_false, not_or] at h ⊢; omega), fr_M_search (x := x) (by simp only [List.mem_cons, List.not_mem_nil, or_false, not_or] at h ⊢; omega)]
theorem fr_M_take_280 {a1 : Int32} {a2 : Int32} {G : Mem} {x5 : Int32} {x6 : Int32} {x : Nat} (h : x ∉ ([38, 39, 43, 44, 45, 46, 47, 48, 49, 50, 51, 52, 53, 54, 55, 56, 57, 58, 59, 60, 61, 62, 63] : List Nat)) : (sp_M_take_280 a1 a2 G x5 x6) x = G x := by
  unfold sp_M_take_280
  repeat' split
  all_goals first | rfl | simp only [wr_c _ _ _ _ (nmm h (by simp) : x ≠ 38), wr_c _ _ _ _ (nmm h (by simp) : x ≠ 39), fr_M_make (x := x) (by simp only [List.mem_cons, List.not_mem_nil, or_false, not_or] at h ⊢; omega)]
theorem fr_M_take_212 {a1 : Int32} {a2 : Int32} {G : Mem} {x5 : Int32} {x : Nat} (h : x ∉ ([38, 39, 40, 42, 43, 44, 45, 46, 47, 48, 49, 50, 51, 52, 53, 54, 55, 56, 57, 58, 59, 60, 61, 62, 63] : List Nat)) : (sp_M_take_212 a1 a2 G x5) x = G x := by
  unfold sp_M_take_212
  repeat' split
  all_goals first | rfl | simp only [wr_c _ _ _ _ (nmm h (by simp) : x ≠ 40), wr_c _ _ _ _ (nmm h (by simp) : x ≠ 42), fr_M_take_280 (x := x) (by simp only [List.mem_cons, List.not_mem_nil, or_false, not_or] at h ⊢; omega)]
theorem fr_M_take_139 {a1 : Int32} {a2 : Int32} {G : Mem} {x5 : Int32} {x : Nat} (h : x ∉ ([38, 39, 40, 41, 42, 43, 44, 45, 46, 47, 48, 49, 50, 51, 52, 53, 54, 55, 56, 57, 58, 59, 60, 61, 62, 63] : List Nat)) : (sp_M_take_139 a1 a2 G x5) x = G x := by
  unfold sp_M_take_139
  repeat' split
  all_goals first | rfl | simp only [wr_c _ _ _ _ (nmm h (by simp) : x ≠ 41), wr_c _ _ _ _ (nmm h (by simp) : x ≠ 42), fr_M_take_212 (x := x) (by simp only [List.mem_cons, List.not_mem_nil, or_false, not_or] at h ⊢; omega), fr_M_fault (x := x) (by simp only [List.mem_cons, List.not_mem_nil, or_false, not_or] at h ⊢; omega)]
theorem fr_M_take_92 {a1 : Int32} {a2 : Int32} {G : Mem} {x4 : Int32} {x5 : Int32} {x : Nat} (h : x ∉ ([38, 39, 40, 41, 42, 43, 44, 45, 46, 47, 48, 49, 50, 51, 52, 53, 54, 55, 56, 57, 58, 59, 60, 61, 62, 63] : List Nat)) : (sp_M_take_92 a1 a2 G x4 x5) x = G x := by
  unfold sp_M_take_92
  repeat' split
  all_goals first | rfl | simp only [fr_M_take_139 (x := x) (by simp only [List.mem_cons, List.not_mem_nil, or_false, not_or] at h ⊢; omega), fr_M_fault (x := x) (by simp only [List.mem_cons, List.not_mem_nil, or_false, not_or] at h ⊢; omega)]
theorem fr_M_take {G0 : Mem} {a1 : Int32} {a2 : Int32} {x : Nat} (h : x ∉ ([36, 37, 38, 39, 40, 41, 42, 43, 44, 45, 46, 47, 48, 49, 50, 51, 52, 53, 54, 55, 56, 57, 58, 59, 60, 61, 62, 63] : List Nat)) : (sp_M_take G0 a1 a2) x = G0 x := by
  unfold sp_M_take
  repeat' split
  all_goals first | rfl | simp only [wr_c _ _ _ _ (nmm h (by simp) : x ≠ 36), wr_c _ _ _ _ (nmm h (by simp) : x ≠ 37), fr_M_take_92 (x := x) (by simp only [List.mem_cons, List.not_mem_nil, or_false, not_or] at h ⊢; omega)]
theorem fr_A_change {c : Nat} {G0 : Mem} {a1 : Int32} {a2 : Int32} {x : Nat} (h : x ∉ ([c, c + 1, c + 2] : List Nat)) : (sp_A_change c G0 a1 a2).2 x = G0 x := by
  unfold sp_A_change
  repeat' split
  all_goals first | rfl | simp only [wr_c _ _ _ _ (nmm h (by simp) : x ≠ c + 1), wr_c _ _ _ _ (nmm h (by simp) : x ≠ c + 2), wr_c _ _ _ _ (nmm h (by simp) : x ≠ c)]
theorem fr_A_asItComes {c : Nat} {G0 : Mem} {a1 : Int32} {a2 : Int32} {x : Nat} (h : x ∉ ([c, c + 1, c + 2] : List Nat)) : (sp_A_asItComes c G0 a1 a2).2 x = G0 x := by
  unfold sp_A_asItComes
  repeat' split
  all_goals first | rfl | simp only [wr_c _ _ _ _ (nmm h (by simp) : x ≠ c + 1), wr_c _ _ _ _ (nmm h (by simp) : x ≠ c + 2), wr_c _ _ _ _ (nmm h (by simp) : x ≠ c)]
theorem fr_N_receive_22 {c : Nat} {a1 : Int32} {a2 : Int32} {x : Nat} (h : x ∉ ([c + 7, c + 8, c + 9] : List Nat)) : ∀ (d : Nat) (G : Mem) (x3 : Int32) (x4 : Int32) (x5 : Int32), (sp_N_receive_22 c a1 a2 d G x3 x4 x5) x = G x := by
  intro d
  induction d with
  | zero => intros; rfl
  | succ d ih =>
    intros
    rw [sp_N_receive_22]
    repeat' split
    all_goals first | rfl | simp only [fr_D_bitBehind (c := (c + 7)) (x := x) (by simp only [List.mem_cons, List.not_mem_nil, or_false, not_or] at h ⊢; omega), fr_R_takeBit (c := (c + 8)) (x := x) (by simp only [List.mem_cons, List.not_mem_nil, or_false, not_or] at h ⊢; omega), ih]
theorem fr_N_receive {c : Nat} {G0 : Mem} {a1 : Int32} {a2 : Int32} {x : Nat} (h : x ∉ ([c + 4, c + 5, c + 6, c + 7, c + 8, c + 9] : List Nat)) : (sp_N_receive c G0 a1 a2) x = G0 x := by
  unfold sp_N_receive
  repeat' split
  all_goals first | rfl | simp only [fr_N_receive_22 (c := c) (x := x) (by simp only [List.mem_cons, List.not_mem_nil, or_false, not_or] at h ⊢; omega), fr_A_comings (c := (c + 4)) (x := x) (by simp only [List.mem_cons, List.not_mem_nil, or_false, not_or] at h ⊢; omega), fr_A_asItComes (c := (c + 4)) (x := x) (by simp only [List.mem_cons, List.not_mem_nil, or_false, not_or] at h ⊢; omega)]
theorem fr_M_coming {G0 : Mem} {a1 : Int32} {a2 : Int32} {x : Nat} (h : x ∉ ([32, 33, 34] : List Nat)) : (sp_M_coming G0 a1 a2).2 x = G0 x := by
  unfold sp_M_coming
  repeat' split
  all_goals first | rfl | simp only [wr_c _ _ _ _ (nmm h (by simp) : x ≠ 32), wr_c _ _ _ _ (nmm h (by simp) : x ≠ 33), wr_c _ _ _ _ (nmm h (by simp) : x ≠ 34)]
theorem fr_M_arrive {G0 : Mem} {a1 : Int32} {a2 : Int32} {x : Nat} (h : x ∉ ([32, 33, 34, 35, 36, 37, 38, 39, 40, 41, 42, 43, 44, 45, 46, 47, 48, 49, 50, 51, 52, 53, 54, 55, 56, 57, 58, 59, 60, 61, 62, 63] : List Nat)) : (sp_M_arrive G0 a1 a2) x = G0 x := by
  unfold sp_M_arrive
  repeat' split
  all_goals first | rfl | simp only [wr_c _ _ _ _ (nmm h (by simp) : x ≠ 35), fr_M_take (x := x) (by simp only [List.mem_cons, List.not_mem_nil, or_false, not_or] at h ⊢; omega), fr_M_coming (x := x) (by simp only [List.mem_cons, List.not_mem_nil, or_false, not_or] at h ⊢; omega)]
theorem fr_M_symbol {G0 : Mem} {a1 : Int32} {x : Nat} (h : x ∉ ([21] : List Nat)) : (sp_M_symbol G0 a1).2 x = G0 x := by
  unfold sp_M_symbol
  repeat' split
  all_goals first | rfl | simp only [wr_c _ _ _ _ (nmm h (by simp) : x ≠ 21)]
theorem fr_M_frame {G0 : Mem} {a1 : Int32} {x : Nat} (h : x ∉ ([21] : List Nat)) : (sp_M_frame G0 a1).2 x = G0 x := by
  unfold sp_M_frame
  repeat' split
  all_goals first | rfl | simp only [wr_c _ _ _ _ (nmm h (by simp) : x ≠ 21)]
theorem fr_M_slip {G0 : Mem} {a1 : Int32} {x : Nat} (h : x ∉ ([21, 35] : List Nat)) : (sp_M_slip G0 a1).2 x = G0 x := by
  unfold sp_M_slip
  repeat' split
  all_goals first | rfl | simp only [wr_c _ _ _ _ (nmm h (by simp) : x ≠ 21), wr_c _ _ _ _ (nmm h (by simp) : x ≠ 35)]
theorem fr_M_aligned {G0 : Mem} {a1 : Int32} {x : Nat} (h : x ∉ ([21] : List Nat)) : (sp_M_aligned G0 a1).2 x = G0 x := by
  unfold sp_M_aligned
  repeat' split
  all_goals first | rfl | simp only [wr_c _ _ _ _ (nmm h (by simp) : x ≠ 21)]
theorem fr_M_alarm {G0 : Mem} {a1 : Int32} {x : Nat} (h : x ∉ ([21] : List Nat)) : (sp_M_alarm G0 a1).2 x = G0 x := by
  unfold sp_M_alarm
  repeat' split
  all_goals first | rfl | simp only [wr_c _ _ _ _ (nmm h (by simp) : x ≠ 21)]
theorem fr_M_slot {G0 : Mem} {a1 : Int32} {a2 : Int32} {x : Nat} (h : x ∉ ([21] : List Nat)) : (sp_M_slot G0 a1 a2).2 x = G0 x := by
  unfold sp_M_slot
  repeat' split
  all_goals first | rfl | simp only [wr_c _ _ _ _ (nmm h (by simp) : x ≠ 21)]
theorem fr_M_count {G0 : Mem} {a1 : Int32} {a2 : Int32} {x : Nat} (h : x ∉ ([21] : List Nat)) : (sp_M_count G0 a1 a2).2 x = G0 x := by
  unfold sp_M_count
  repeat' split
  all_goals first | rfl | simp only [wr_c _ _ _ _ (nmm h (by simp) : x ≠ 21)]
theorem fr_M_load {G0 : Mem} {a1 : Int32} {a2 : Int32} {a3 : Int32} {x : Nat} (h : x ∉ ([21, 22] : List Nat)) : (sp_M_load G0 a1 a2 a3).2 x = G0 x := by
  unfold sp_M_load
  repeat' split
  all_goals first | rfl | simp only [wr_c _ _ _ _ (nmm h (by simp) : x ≠ 21), wr_c _ _ _ _ (nmm h (by simp) : x ≠ 22)]

