theorem wr_r (G : Mem) (c k : Nat) (v : Int32) (c1 k1 : Nat) : wr G c k v c1 k1 = if c1 = c ∧ k1 = k then v else G c1 k1 := by
  by_cases h : c1 = c
  · subst h
    by_cases h2 : k1 = k
    · subst h2; rw [wr_same]; simp
    · rw [wr_k _ _ _ _ h2]; simp [h2]
  · rw [wr_ck _ _ _ _ h]; simp [h]
theorem zb_01 {x : Int32} (h : x = 0 ∨ x = 1) : zb x = x := by rcases h with rfl | rfl <;> rfl
/-- the reference's take, without make -/
def tkv (B : Mem) (e s : Int32) : Int32 := if s = 0 then 0 else (if s = (B 40 (tn e)) then 1 else 0)
def tki (B : Mem) (e s : Int32) : Int32 := if tkv B e s = 0 then 0 else (if B 38 (tn (3 * e)) = 0 then (if B 38 (tn (3 * e + 1)) = 0 then 1 else 0) else 0)
def tkz (B : Mem) (e s : Int32) : Int32 := if s = 0 then (if B 40 (tn e) = 0 then 0 else B 42 (tn e) + 1) else 0
def tkb (B : Mem) (e s : Int32) : Int32 := if B 38 (tn (3 * e + 2)) = 0 then 0 else (if B 39 (tn (3 * e + 2)) = 0 then (if tki B e s = 0 then 1 else 0) else 0)
def inc (x : Int32) (p : Prop) [Decidable p] : Int32 := if p then x + 1 else x
theorem tn_0 : tn 0 = 0 := rfl
theorem tn_1 : tn 1 = 1 := rfl
theorem tn_2 : tn 2 = 2 := rfl
theorem tn_3 : tn 3 = 3 := rfl
theorem tn_4 : tn 4 = 4 := rfl
theorem tn_5 : tn 5 = 5 := rfl
theorem tn_6 : tn 6 = 6 := rfl
theorem tn_7 : tn 7 = 7 := rfl
theorem tn_8 : tn 8 = 8 := rfl
theorem tn_9 : tn 9 = 9 := rfl
def tkA (B : Mem) (e s : Int32) : Mem := sp_M_fault (sp_M_fault (wr (wr B 37 (tn e) s) 36 (tn e) (if 4 ≤ (B 36 (tn e)) then 4 else ((B 36 (tn e)) + 1))) e (if tkv B e s = 0 then 0 else (if tki B e s = 0 then 1 else 0)) 1) e (if tki B e s = 0 then 0 else (if B 41 (tn e) = s then 1 else 0)) 1
def tkC (B : Mem) (e s : Int32) : Mem := sp_M_fault (wr (wr (tkA B e s) 41 (tn e) (if tki B e s = 0 then B 41 (tn e) else s)) 42 (tn e) (tkz B e s)) e (if tkz B e s = 4 then 1 else 0) 1
def tkD (B : Mem) (e s : Int32) : Mem := wr (wr (tkC B e s) 42 (tn e) (tkz B e s - tkz B e s / 4 * 4)) 40 (tn e) (if s = 0 then B 40 (tn e) else s)
def tkY (B : Mem) (e s : Int32) : Mem := wr (wr (wr (wr (wr (wr (tkD B e s) 38 (tn (3 * e + 2)) (B 38 (tn (3 * e + 1)))) 39 (tn (3 * e + 2)) (zb (B 39 (tn (3 * e + 1))))) 38 (tn (3 * e + 1)) (B 38 (tn (3 * e)))) 39 (tn (3 * e + 1)) (zb (B 39 (tn (3 * e))))) 38 (tn (3 * e)) s) 39 (tn (3 * e)) (zb (tki B e s))
theorem tkA_c {B : Mem} {e s : Int32} {c k : Nat} (h : c ∉ [36, 37, 63]) : tkA B e s c k = B c k := by
  simp only [List.mem_cons, List.not_mem_nil, or_false, not_or] at h
  unfold tkA sp_M_fault
  simp [wr_r, h]
theorem tkC_c {B : Mem} {e s : Int32} {c k : Nat} (h : c ∉ [36, 37, 41, 42, 63]) : tkC B e s c k = B c k := by
  simp only [List.mem_cons, List.not_mem_nil, or_false, not_or] at h
  unfold tkC sp_M_fault
  simp [wr_r, h, tkA_c]
theorem tkD_c {B : Mem} {e s : Int32} {c k : Nat} (h : c ∉ [36, 37, 40, 41, 42, 63]) : tkD B e s c k = B c k := by
  simp only [List.mem_cons, List.not_mem_nil, or_false, not_or] at h
  unfold tkD
  simp [wr_r, h, tkC_c]
theorem tkA_36 {B : Mem} {e s : Int32} : tkA B e s 36 (tn e) = (if 4 ≤ (B 36 (tn e)) then 4 else ((B 36 (tn e)) + 1)) := by
  unfold tkA sp_M_fault
  simp [wr_r]
theorem tkA_37 {B : Mem} {e s : Int32} : tkA B e s 37 (tn e) = s := by
  unfold tkA sp_M_fault
  simp [wr_r]
theorem tkD_36 {B : Mem} {e s : Int32} : tkD B e s 36 (tn e) = (if 4 ≤ (B 36 (tn e)) then 4 else ((B 36 (tn e)) + 1)) := by
  unfold tkD tkC sp_M_fault
  simp [wr_r, tkA_36]
theorem take_eq (B : Mem) (e s : Int32) (he : e = 0 ∨ e = 1) : sp_M_take B e s = if (if 4 ≤ B 36 (tn e) then 4 else B 36 (tn e) + 1 : Int32) = 4 then sp_M_make (tkY B e s) e (tkb B e s) else tkY B e s := by
  have e1 : sp_M_take B e s = sp_M_take_92 e s (wr (wr B 37 (tn e) s) 36 (tn e) (if 4 ≤ (B 36 (tn e)) then 4 else ((B 36 (tn e)) + 1))) (tkv B e s) (tki B e s) := rfl
  have e2 : sp_M_take B e s = sp_M_take_139 e s (tkA B e s) (tki B e s) := by
    rw [e1]
    unfold sp_M_take_92 tkA
    congr 3
  have e3 : sp_M_take B e s = sp_M_take_212 e s (tkC B e s) (tki B e s) := by
    rw [e2]
    unfold sp_M_take_139 tkC tkz
    rw [tkA_c (c := 41) (by decide), tkA_c (c := 40) (by decide), tkA_c (c := 42) (by decide)]
  have e4 : sp_M_take B e s = sp_M_take_280 e s (tkD B e s) (tki B e s) (tkb B e s) := by
    rw [e3]
    unfold sp_M_take_212 tkD tkb
    rw [tkC_c (c := 40) (by decide), tkC_c (c := 38) (by decide), tkC_c (c := 39) (by decide)]
    have : tkC B e s 42 (tn e) = tkz B e s := by unfold tkC sp_M_fault; simp [wr_r]
    rw [this]
  rw [e4]
  unfold sp_M_take_280 tkY
  rw [tkD_36, tkD_c (c := 38) (by decide), tkD_c (c := 38) (by decide), tkD_c (c := 39) (by decide), tkD_c (c := 39) (by decide)]
  have i1 : tn (3 * e + 2 - 1) = tn (3 * e + 1) := by rcases he with rfl | rfl <;> rfl
  have i2 : tn (3 * e + 1 - 1) = tn (3 * e) := by rcases he with rfl | rfl <;> rfl
  rw [i1, i2]
theorem inc_f (x : Int32) (p q : Prop) [Decidable p] [Decidable q] {y : Int32} (h : (y = 0 ↔ ¬ p)) : (if y = 0 then x else x + 1) = inc x p := by
  unfold inc
  by_cases hp : p
  · rw [if_pos hp, if_neg (fun h9 => h.mp h9 hp)]
  · rw [if_neg hp, if_pos (h.mpr hp)]
theorem tki_01 (B : Mem) (e s : Int32) : tki B e s = 0 ∨ tki B e s = 1 := by
  unfold tki
  by_cases h1 : tkv B e s = 0 <;> by_cases h2 : B 38 (tn (3 * e)) = 0 <;> by_cases h3 : B 38 (tn (3 * e + 1)) = 0 <;> simp [h1, h2, h3]
theorem tkY_rd (B : Mem) (e s : Int32) (he : e = 0 ∨ e = 1) :
    tkY B e s 37 (tn e) = s ∧ tkY B e s 36 (tn e) = (if 4 ≤ B 36 (tn e) then 4 else B 36 (tn e) + 1) ∧ tkY B e s 40 (tn e) = (if s = 0 then B 40 (tn e) else s) ∧ tkY B e s 41 (tn e) = (if tki B e s = 0 then B 41 (tn e) else s) ∧ tkY B e s 42 (tn e) = tkz B e s - tkz B e s / 4 * 4 ∧
    tkY B e s 38 (tn (3 * e)) = s ∧ tkY B e s 38 (tn (3 * e + 1)) = B 38 (tn (3 * e)) ∧ tkY B e s 38 (tn (3 * e + 2)) = B 38 (tn (3 * e + 1)) ∧ tkY B e s 39 (tn (3 * e)) = tki B e s ∧ tkY B e s 39 (tn (3 * e + 1)) = zb (B 39 (tn (3 * e))) ∧ tkY B e s 39 (tn (3 * e + 2)) = zb (B 39 (tn (3 * e + 1))) ∧
    tkY B e s 63 (tn (5 * e + 1)) = inc (inc (inc (B 63 (tn (5 * e + 1))) (tkv B e s ≠ 0 ∧ tki B e s = 0)) (tki B e s ≠ 0 ∧ B 41 (tn e) = s)) (tkz B e s = 4) ∧
    (∀ k, k ≠ tn (5 * e + 1) → tkY B e s 63 k = B 63 k) ∧ (∀ c k, c ∉ [36, 37, 38, 39, 40, 41, 42, 63] → tkY B e s c k = B c k) := by
  refine ⟨?_, ?_, ?_, ?_, ?_, ?_, ?_, ?_, ?_, ?_, ?_, ?_, ?_, ?_⟩
  · unfold tkY tkD tkC sp_M_fault; simp [wr_r, tkA_37]
  · unfold tkY; simp [wr_r, tkD_36]
  · unfold tkY tkD; simp [wr_r]
  · unfold tkY tkD tkC sp_M_fault; simp [wr_r]
  · unfold tkY tkD; simp [wr_r]
  · unfold tkY; simp [wr_r]
  · unfold tkY; rcases he with rfl | rfl <;> simp [wr_r, tn_0, tn_1, tn_2, tn_3, tn_4, tn_5]
  · unfold tkY; rcases he with rfl | rfl <;> simp [wr_r, tn_0, tn_1, tn_2, tn_3, tn_4, tn_5]
  · unfold tkY; rw [zb_01 (tki_01 B e s)]; simp [wr_r]
  · unfold tkY; rcases he with rfl | rfl <;> simp [wr_r, tn_0, tn_1, tn_2, tn_3, tn_4, tn_5]
  · unfold tkY; rcases he with rfl | rfl <;> simp [wr_r, tn_0, tn_1, tn_2, tn_3, tn_4, tn_5]
  · unfold tkY tkD tkC tkA sp_M_fault inc
    simp [wr_r]
    by_cases h1 : tkv B e s = 0 <;> by_cases h2 : tki B e s = 0 <;> by_cases h3 : B 41 (tn e) = s <;> by_cases h4 : tkz B e s = 4 <;> simp [h1, h2, h3, h4]
  · intro k hk
    unfold tkY tkD tkC tkA sp_M_fault
    simp [wr_r, hk]
  · intro c k h
    simp only [List.mem_cons, List.not_mem_nil, or_false, not_or] at h
    unfold tkY
    simp [wr_r, h, tkD_c]
