/-! the encoder: the class is ahead of the reference by three bits -/
abbrev E6 : Type := Int32 × Int32 × Int32 × Int32 × Int32 × Int32
def eC (s : E6) (x : Int32) : Int32 × E6 :=
  if x = 1 then (s.2.2.2.1, (-s.1, (if s.2.1 = 0 then 1 else 0), 0, s.2.2.2.2.1, s.2.2.2.2.2, -s.1))
  else if 3 < s.2.2.1 + 1 then (if s.2.1 = 0 then (-s.1, (-s.1, 0, 0, s.2.2.2.2.1, s.2.2.2.2.2, -s.1)) else (s.2.2.2.1, (s.1, 0, 0, s.2.2.2.2.1, s.2.2.2.2.2, s.1)))
  else (s.2.2.2.1, (s.1, s.2.1, s.2.2.1 + 1, s.2.2.2.2.1, s.2.2.2.2.2, 0))
def eR (c : Nat) (A : Mem) : E6 := (A c 0, zb (A c 1), A c 2, A c 3, A c 4, A c 5)
theorem zb_if (p : Prop) [Decidable p] : zb (if p then 1 else 0) = if p then 1 else 0 := by
  by_cases h : p
  · rw [if_pos h]; rfl
  · rw [if_neg h]; rfl
theorem zb_0 : zb 0 = 0 := by decide
theorem zb_1 : zb 1 = 1 := by decide
theorem eC_eq (c : Nat) (A : Mem) (x : Int32) : (sp_E_symbolBehind c A x).1 = (eC (eR c A) x).1 ∧ eR c (sp_E_symbolBehind c A x).2 = (eC (eR c A) x).2 := by
  unfold sp_E_symbolBehind eC eR
  by_cases h : x = 1
  · rw [if_pos h, if_pos h]
    unfold sp_E_pulseOfOne
    simp only [wr_r]
    simp [zb_if]
  · rw [if_neg h, if_neg h]
    unfold sp_E_symbolOfZero
    by_cases h2 : 3 < A c 2 + 1
    · simp only [if_pos h2]
      by_cases h3 : zb (A c 1) = 0
      · simp only [if_pos h3, wr_r]
        simp [zb_0]
      · simp only [if_neg h3, wr_r]
        simp [zb_0]
    · simp only [if_neg h2, wr_r]
      simp
def mE (q : Bool) (p o g a x : Int32) : Int32 × Int32 × Int32 × Int32 × Int32 :=
  if q = true then (if g ≤ 0 then (if ((a <<< ((1 : Int32) &&& 31)) ||| x) &&& (15 : Int32) = 0 then (if o = 0 then ((if p = 0 then 1 else -p), (if p = 0 then 1 else -p), o, 3, ((a <<< ((1 : Int32) &&& 31)) ||| x) &&& (15 : Int32)) else (0, p, o, 3, ((a <<< ((1 : Int32) &&& 31)) ||| x) &&& (15 : Int32)))
      else (if 8 ≤ ((a <<< ((1 : Int32) &&& 31)) ||| x) &&& (15 : Int32) then ((if p = 0 then 1 else -p), (if p = 0 then 1 else -p), zb (if o = 0 then 1 else 0), g, ((a <<< ((1 : Int32) &&& 31)) ||| x) &&& (15 : Int32)) else (0, p, o, g, ((a <<< ((1 : Int32) &&& 31)) ||| x) &&& (15 : Int32))))
    else ((if g - 1 = 0 then p else 0), p, zb (if g - 1 ≤ 0 then 0 else (if o = 0 then 0 else 1)), g - 1, ((a <<< ((1 : Int32) &&& 31)) ||| x) &&& (15 : Int32)))
  else (0, p, o, g, ((a <<< ((1 : Int32) &&& 31)) ||| x) &&& (15 : Int32))
def mR (B : Mem) (e : Int32) : Int32 × Int32 × Int32 × Int32 := (B 30 (tn e), B 31 (tn e), B 29 (tn e), B 28 (tn e))
theorem mE_eq (B : Mem) (e : Int32) : (sp_M_send B e).1 = (mE (decide (4 ≤ B 21 1)) (B 30 (tn e)) (B 31 (tn e)) (B 29 (tn e)) (B 28 (tn e)) (sp_M_nextBit B e).1).1 ∧ mR (sp_M_send B e).2 e = (mE (decide (4 ≤ B 21 1)) (B 30 (tn e)) (B 31 (tn e)) (B 29 (tn e)) (B 28 (tn e)) (sp_M_nextBit B e).1).2 := by
  have n21 : (sp_M_nextBit B e).2 21 = B 21 := fr_M_nextBit (by decide)
  have n28 : (sp_M_nextBit B e).2 28 = B 28 := fr_M_nextBit (by decide)
  have n29 : (sp_M_nextBit B e).2 29 = B 29 := fr_M_nextBit (by decide)
  have n30 : (sp_M_nextBit B e).2 30 = B 30 := fr_M_nextBit (by decide)
  have n31 : (sp_M_nextBit B e).2 31 = B 31 := fr_M_nextBit (by decide)
  unfold sp_M_send mE mR
  rw [n21, n29, n30, n31]
  generalize (B 28 (tn e) <<< ((1 : Int32) &&& 31) ||| (sp_M_nextBit B e).1) &&& (15 : Int32) = y
  simp only [decide_eq_true_eq]
  unfold sp_M_turned
  by_cases h4 : 4 ≤ B 21 1
  · rw [if_pos h4, if_pos h4]
    by_cases hg : B 29 (tn e) ≤ 0
    · rw [if_pos hg, if_pos hg]
      by_cases hy : y = 0
      · rw [if_pos hy, if_pos hy]
        by_cases ho : B 31 (tn e) = 0
        · rw [if_pos ho, if_pos ho]
          simp only [wr_r]
          simp [n29, n30, n31]
        · rw [if_neg ho, if_neg ho]
          simp only [wr_r]
          simp [n29, n30, n31]
      · rw [if_neg hy, if_neg hy]
        by_cases h8 : 8 ≤ y
        · rw [if_pos h8, if_pos h8]
          simp only [wr_r]
          simp [n29, n30, n31]
        · rw [if_neg h8, if_neg h8]
          simp only [wr_r]
          simp [n29, n30, n31]
    · rw [if_neg hg, if_neg hg]
      simp only [wr_r]
      simp [n29, n30, n31]
  · rw [if_neg h4, if_neg h4]
    simp only [wr_r]
    simp [n29, n30, n31]
theorem fr_M_send2 {B : Mem} {e : Int32} {x : Nat} (h : x ∉ ([28, 29, 30, 31] : List Nat)) : (sp_M_send B e).2 x = (sp_M_nextBit B e).2 x := by
  simp only [List.mem_cons, List.not_mem_nil, or_false, not_or] at h
  obtain ⟨h28, h29, h30, h31⟩ := h
  unfold sp_M_send sp_M_turned
  split
  · split
    · split
      · split
        · show (wr (wr (wr _ 28 _ _) 29 _ _) 30 _ _) x = _
          rw [wr_c _ _ _ _ h30, wr_c _ _ _ _ h29, wr_c _ _ _ _ h28]
        · show (wr (wr _ 28 _ _) 29 _ _) x = _
          rw [wr_c _ _ _ _ h29, wr_c _ _ _ _ h28]
      · split
        · show (wr (wr (wr _ 28 _ _) 31 _ _) 30 _ _) x = _
          rw [wr_c _ _ _ _ h30, wr_c _ _ _ _ h31, wr_c _ _ _ _ h28]
        · show (wr _ 28 _ _) x = _
          rw [wr_c _ _ _ _ h28]
    · show (wr (wr (wr _ 28 _ _) 29 _ _) 31 _ _) x = _
      rw [wr_c _ _ _ _ h31, wr_c _ _ _ _ h29, wr_c _ _ _ _ h28]
  · show (wr _ 28 _ _) x = _
    rw [wr_c _ _ _ _ h28]
def eRun (s : E6) : List Nat → E6
  | [] => s
  | x :: l => eRun (eC s (nI x)).2 l
def encF (m : Nat) (p o g : Int32) (a : Nat) : E6 :=
  if g = 0 then eRun ((if p = 0 then -1 else p), o, 0, 0, 0, 0) ([a / 4 % 2, a / 2 % 2, a % 2].drop (3 - m))
  else if g = 1 then eRun (p, 0, 0, 0, 0, p) [a / 2 % 2, a % 2]
  else if g = 2 then eRun (p, 0, 0, 0, 0, p) [a % 2]
  else (p, 0, 0, 0, 0, p)
def okE (m : Nat) (p o g : Int32) (a : Nat) : Bool :=
  (o == 0 || p != 0) && (m == 3 || (p == 0 && o == 0 && g == 0 && decide (a < 2 ^ m))) &&
  (g == 0 || (p != 0 && (if g = 1 then a % 8 / 4 == 0 else if g = 2 then a % 8 / 2 == 0 else a % 8 == 0)))
def nxE (m : Nat) (p o g : Int32) (a x : Nat) : Bool :=
  !okE m p o g a || (let r := mE (m == 3) p o g (nI a) (nI x); let c := eC (encF m p o g a) (nI x)
    r.1 == c.1 && r.2.2.2.2 == nI ((2 * a + x) % 16) && okE (min (m + 1) 3) r.2.1 r.2.2.1 r.2.2.2.1 ((2 * a + x) % 16) && encF (min (m + 1) 3) r.2.1 r.2.2.1 r.2.2.2.1 ((2 * a + x) % 16) == c.2 &&
    [-1, 0, 1].contains r.2.1 && [0, 1].contains r.2.2.1 && [0, 1, 2, 3].contains r.2.2.2.1)
theorem nxE_all : ∀ m ∈ [0, 1, 2, 3], ∀ p ∈ ([-1, 0, 1] : List Int32), ∀ o ∈ ([0, 1] : List Int32), ∀ g ∈ ([0, 1, 2, 3] : List Int32), ∀ a ∈ List.range 16, ∀ x ∈ [0, 1], nxE m p o g a x = true := by decide +kernel
