/-! the sender -/
def cWd (c c2 : Nat) (A : Mem) : Int32 := ((((if (if (A c 1 &&& (1 : Int32)) = 1 then 1 else 0 : Int32) = 0 then sp_S_evenSlotZero c A else sp_S_oddSlotZero c c2 A) <<< ((24 : Int32) &&& 31)) ||| ((A (c + 1) 1) <<< ((16 : Int32) &&& 31))) ||| ((A (c + 1) 2) <<< ((8 : Int32) &&& 31))) ||| (A (c + 1) 3)
def cKd (c c2 : Nat) (A : Mem) : Int32 := ck (cWd c c2 A) 31 (wf (A c 4) (if (if (A c 1 &&& (1 : Int32)) = 1 then 1 else 0 : Int32) = 0 then 0 else iu (cWd c c2 A) 31))
theorem bF_eq (c c2 : Nat) (A : Mem) : sp_S_beginFrame c c2 A = if A c 1 = 7 ∨ A c 1 = 15 then wr (wr (wr (wr (wr (wr A c 2 (cWd c c2 A)) c 4 (cKd c c2 A)) c 3 0) c 5 (cKd c c2 A)) c 4 0) c 1 ((A c 1 + 1) &&& 15) else wr (wr (wr (wr A c 2 (cWd c c2 A)) c 4 (cKd c c2 A)) c 3 0) c 1 ((A c 1 + 1) &&& 15) := by
  unfold sp_S_beginFrame
  simp only [co_eq, ck_32]
  by_cases h : A c 1 = 7 ∨ A c 1 = 15
  · rw [if_pos h, if_neg (by rw [ends_eq]; exact fun h9 => h9 h)]
    rfl
  · rw [if_neg h, if_pos (by rw [ends_eq]; exact h)]
    rfl
theorem bF_rd (c c2 : Nat) (A : Mem) : sp_S_beginFrame c c2 A c 1 = ((A c 1 + 1) &&& 15) ∧ sp_S_beginFrame c c2 A c 2 = cWd c c2 A ∧ sp_S_beginFrame c c2 A c 3 = 0 ∧ (sp_S_beginFrame c c2 A c 4 = if A c 1 = 7 ∨ A c 1 = 15 then 0 else cKd c c2 A) ∧ (sp_S_beginFrame c c2 A c 5 = if A c 1 = 7 ∨ A c 1 = 15 then cKd c c2 A else A c 5) := by
  rw [bF_eq]
  generalize cWd c c2 A = w
  generalize cKd c c2 A = K
  by_cases h : A c 1 = 7 ∨ A c 1 = 15
  · simp only [if_pos h, wr_r]; simp
  · simp only [if_neg h, wr_r]; simp
theorem mbF_eq (B : Mem) (e : Int32) : sp_M_beginFrame B e = wr B 23 (tn e) (sp_M_beginFrame B e 23 (tn e)) := by
  unfold sp_M_beginFrame
  split <;> rw [wr_same]
theorem b01 (x : Int32) : x &&& 1 = 0 ∨ x &&& 1 = 1 := by
  obtain ⟨j, hj, e⟩ := pk_andE x (m := 1) 1 (by decide)
  have : j = 0 ∨ j = 1 := by omega
  rcases this with rfl | rfl
  · exact Or.inl e
  · exact Or.inr e
theorem sl_ev : ∀ k, k < 16 → (3 - ((nI k >>> ((1 : Int32) &&& 31)) &&& (3 : Int32)) : Int32) = (3 - ((nI k - nI k / 8 * 8) / 2)) ∧ ((if (nI k &&& (1 : Int32)) = 1 then 1 else 0 : Int32) = 0 ↔ k % 2 = 0) ∧ ((nI k - nI k / 2 * 2 : Int32) = 0 ↔ k % 2 = 0) := by decide +kernel
theorem sl_od : ∀ k, k < 16 → k % 2 = 1 → (11 < nI k → k = 13 ∨ k = 15) ∧ (¬ 11 < nI k → (((11 : Int32) >>> ((5 - (nI k >>> ((1 : Int32) &&& 31))) &&& 31)) &&& (1 : Int32)) = (if nI k = 5 then 1 else (if nI k ≤ 8 then 0 else 1))) := by decide +kernel
theorem fb_eq {A B : Mem} {b : Nat} {e : Int32} {k : Nat} (hk : k < 16) (ho : k % 2 = 1) (h1 : A (b + 1) 1 = nI k) (h9 : zb (A (b + 9) 9) = B 62 (tn (2 * e))) (h10 : zb (A (b + 9) 10) = B 62 (tn (2 * e + 1))) (he : e = 0 ∨ e = 1) : sp_S_firstBitOfOdd (b + 1) (b + 9) A = sp_M_mark B e (nI k) := by
  unfold sp_S_firstBitOfOdd sp_M_mark
  rw [h1]
  obtain ⟨s1, s2⟩ := sl_od k hk ho
  by_cases h : 11 < nI k
  · rw [if_pos h, if_neg (show ¬ nI k ≤ 11 from Int32.not_le.mpr h)]
    rcases s1 h with rfl | rfl
    · rw [if_pos (show nI 13 = 13 from rfl), if_pos (show nI 13 = 13 from rfl), h9]
      rw [show tn (2 * e + 0) = tn (2 * e) from by rcases he with rfl | rfl <;> rfl]
    · rw [if_neg (show ¬ nI 15 = 13 by decide), if_neg (show ¬ nI 15 = 13 by decide), h10]
  · rw [if_neg h, if_pos (show nI k ≤ 11 from Int32.not_lt.mp h), s2 h]
theorem mark_01 (B : Mem) (e k : Int32) : sp_M_mark B e k = 0 ∨ sp_M_mark B e k = 1 := by
  unfold sp_M_mark
  by_cases h1 : k ≤ 11
  · rw [if_pos h1]
    by_cases h2 : k = 5
    · rw [if_pos h2]; exact Or.inr rfl
    · rw [if_neg h2]
      by_cases h3 : k ≤ 8
      · rw [if_pos h3]; exact Or.inl rfl
      · rw [if_neg h3]; exact Or.inr rfl
  · rw [if_neg h1]
    generalize B 62 _ = z
    by_cases h3 : z = 0
    · rw [if_pos h3]; exact Or.inr rfl
    · rw [if_neg h3]; exact Or.inl rfl
theorem n3_if {x : Int32} (h : x = 0 ∨ x = 1 ∨ x = 2) : (if n3 x = n3 2 then 1 else 0 : Int32) = if x = 2 then 1 else 0 := by
  rcases h with rfl | rfl | rfl <;> decide
theorem wd_eq {A B : Mem} {b : Nat} {e : Int32} {k : Nat} (he : e = 0 ∨ e = 1) (hk : k < 16) (h1 : A (b + 1) 1 = nI k) (h24 : B 24 (tn e) = nI k) (h5 : A (b + 1) 5 = B 27 (tn e)) (l1 : A (b + 2) 1 = B 22 (tn (4 * e + 1))) (l2 : A (b + 2) 2 = B 22 (tn (4 * e + 2))) (l3 : A (b + 2) 3 = B 22 (tn (4 * e + 3)))
    (hm : A (b + 8) 1 = B 43 (tn e)) (hm3 : B 43 (tn e) = 0 ∨ B 43 (tn e) = 1 ∨ B 43 (tn e) = 2) (h9 : zb (A (b + 9) 9) = B 62 (tn (2 * e))) (h10 : zb (A (b + 9) 10) = B 62 (tn (2 * e + 1))) : cWd (b + 1) (b + 8) A = sp_M_beginFrame B e 23 (tn e) := by
  obtain ⟨s1, s2, s3⟩ := sl_ev k hk
  unfold cWd sp_M_beginFrame
  show _ ||| (A (b + 2) 1 <<< _) ||| (A (b + 2) 2 <<< _) ||| A (b + 2) 3 = _
  rw [h1, h24, l1, l2, l3]
  by_cases hp : k % 2 = 0
  · rw [if_pos (s2.mpr hp), if_pos (s3.mpr hp), wr_same]
    unfold sp_S_evenSlotZero
    rw [h1, h5, s1]
    rcases b01 (B 27 (tn e) >>> ((3 - ((nI k - nI k / 8 * 8) / 2)) &&& 31)) with h | h <;> rw [h] <;> rfl
  · rw [if_neg (fun h => hp (s2.mp h)), if_neg (fun h => hp (s3.mp h)), wr_same]
    unfold sp_S_oddSlotZero sp_R_isAligned
    rw [hm, n3_if hm3]
    show (((((sp_S_firstBitOfOdd (b + 1) (b + 9) A) <<< ((7 : Int32) &&& 31)) ||| (95 : Int32)) ||| _) <<< _) ||| _ ||| _ ||| _ = _
    rw [fb_eq hk (by omega) h1 h9 h10 he]
    rcases mark_01 B e (nI k) with h | h <;> rw [h] <;> rcases hm3 with h4 | h4 | h4 <;> rw [h4] <;> rfl
def RS (A B : Mem) (b : Nat) (e : Int32) : Prop :=
  A (b + 2) 1 = B 22 (tn (4 * e + 1)) ∧ A (b + 2) 2 = B 22 (tn (4 * e + 2)) ∧ A (b + 2) 3 = B 22 (tn (4 * e + 3)) ∧ ∃ i k : Nat, i < 32 ∧ k < 16 ∧ B 25 (tn e) = nI i ∧ B 24 (tn e) = nI k ∧
  (i = 0 → A (b + 1) 3 = 32 ∧ A (b + 1) 1 = nI k ∧ A (b + 1) 4 = B 26 (tn e) ∧ A (b + 1) 5 = B 27 (tn e)) ∧
  (i ≠ 0 → A (b + 1) 3 = nI i ∧ A (b + 1) 2 = B 23 (tn e) ∧ A (b + 1) 1 = nI ((k + 1) % 16) ∧ (k % 8 = 7 → A (b + 1) 5 = ck (B 23 (tn e)) (32 - i) (B 26 (tn e)) ∧ A (b + 1) 4 = 0) ∧ (k % 8 ≠ 7 → A (b + 1) 4 = ck (B 23 (tn e)) (32 - i) (B 26 (tn e)) ∧ A (b + 1) 5 = B 27 (tn e)))
def cS (b : Nat) (A : Mem) : Int32 × Mem := sp_S_nextBit (b + 1) (if sp_S_isBetweenFrames (b + 1) A = 0 then A else sp_S_beginFrame (b + 1) (b + 8) A)
theorem cS_send (b : Nat) (A : Mem) : sp_N_send b A = sp_E_symbolBehind (b + 3) (cS b A).2 (cS b A).1 := by
  unfold sp_N_send cS
  by_cases h : sp_S_isBetweenFrames (b + 1) A = 0
  · rw [if_pos h, if_pos h]
  · rw [if_neg h, if_neg h]
def nbB (B : Mem) (e : Int32) : Int32 := (B 23 (tn e) >>> ((31 - B 25 (tn e)) &&& 31)) &&& (1 : Int32)
def nbC (B : Mem) (e : Int32) : Int32 := wf (B 26 (tn e)) (if B 25 (tn e) = 0 then (if (B 24 (tn e) - B 24 (tn e) / 2 * 2) = 0 then 0 else nbB B e) else nbB B e)
def nbN (B : Mem) (e : Int32) : Int32 := (B 24 (tn e) + 1) - (B 24 (tn e) + 1) / 16 * 16
def nbT (B : Mem) (e : Int32) : Mem := if B 25 (tn e) + 1 = 32 then (if nbN B e - nbN B e / 8 * 8 = 0 then wr (wr (wr (wr (wr (wr B 26 (tn e) (nbC B e)) 25 (tn e) (B 25 (tn e) + 1)) 25 (tn e) 0) 24 (tn e) (nbN B e)) 27 (tn e) (nbC B e)) 26 (tn e) 0 else wr (wr (wr (wr B 26 (tn e) (nbC B e)) 25 (tn e) (B 25 (tn e) + 1)) 25 (tn e) 0) 24 (tn e) (nbN B e)) else wr (wr B 26 (tn e) (nbC B e)) 25 (tn e) (B 25 (tn e) + 1)
theorem nb_eq (B : Mem) (e : Int32) : sp_M_nextBit B e = (nbB (if B 25 (tn e) = 0 then sp_M_beginFrame B e else B) e, nbT (if B 25 (tn e) = 0 then sp_M_beginFrame B e else B) e) := by
  by_cases h : B 25 (tn e) = 0
  · rw [if_pos h]
    unfold sp_M_nextBit
    rw [if_pos h]
    unfold nbT
    split
    · split
      · rename_i h1 h2; rw [if_pos (show nbN _ e - nbN _ e / 8 * 8 = 0 from h2)]; rfl
      · rename_i h1 h2; rw [if_neg (show ¬ nbN _ e - nbN _ e / 8 * 8 = 0 from h2)]; rfl
    · rfl
  · rw [if_neg h]
    unfold sp_M_nextBit
    rw [if_neg h]
    unfold nbT nbC
    rw [if_neg h]
    split
    · split
      · rename_i h1 h2; rw [if_pos (show nbN _ e - nbN _ e / 8 * 8 = 0 from h2)]; rfl
      · rename_i h1 h2; rw [if_neg (show ¬ nbN _ e - nbN _ e / 8 * 8 = 0 from h2)]; rfl
    · rfl
