/-! the rounds: the class's takeFrame in steps -/
def tf1 (c : Nat) (A : Mem) (w o : Int32) : Mem := if o = 0 then wr A c 8 (((A c 8 <<< ((1 : Int32) &&& 31)) ||| (iu w 31)) &&& (15 : Int32)) else wr (wr A c 1 (A c 1 + 1)) c 2 (((A c 2 <<< ((1 : Int32) &&& 31)) ||| (iu w 31)) &&& (63 : Int32))
def tf2 (c : Nat) (A : Mem) (w o : Int32) : Mem := wr (wr (tf1 c A w o) c 0 ((A c 0 + 1) &&& (15 : Int32))) c 6 (ck w 31 (wf (A c 6) (if o = 0 then 0 else iu w 31)))
def tf3 (c : Nat) (A : Mem) (f : Int32) : Mem := if A c 0 = 11 then sp_O_judgeRoundWord c A else if f = 0 ∧ (A c 0 = 13 ∨ A c 0 = 15) then wr A c 12 (A c 12 + 1) else A
def tf4 (c : Nat) (A : Mem) : Mem := if A c 0 = 7 ∨ A c 0 = 15 then sp_O_endHalf c A else A
theorem ends_eq (G : Mem) (x : Int32) : (sp_F_endsHalf G x = 0) = ¬ (x = 7 ∨ x = 15) := by
  unfold sp_F_endsHalf
  by_cases h1 : x = 7 <;> by_cases h2 : x = 15 <;> simp [h1, h2]
set_option maxHeartbeats 4000000 in
set_option maxRecDepth 100000 in
theorem tf_eq (c : Nat) (A : Mem) (w o : Int32) : sp_O_takeFrame c A w o = if A c 0 = -1 then sp_O_findNumber c (tf1 c A w o) o else tf4 c (tf3 c (tf2 c A w o) (iu w 31)) := by
  have hk : ∀ G : Mem, sp_F_checkOver G (A c 6) (w &&& 2147483647) = ck w 31 (wf (A c 6) 0) := fun G => by
    rw [co_eq]; exact ck_32 w (A c 6) 0
  have hk2 : ∀ G : Mem, sp_F_checkOver G (A c 6) w = ck w 31 (wf (A c 6) (iu w 31)) := fun G => by
    rw [co_eq]; exact ck_32 w (A c 6) 1
  unfold sp_O_takeFrame
  simp only [hk, hk2, ends_eq]
  unfold tf4 tf3 tf2 tf1
  by_cases h0 : o = 0
  · by_cases h1 : A c 0 = -1
    · simp [h0, h1]
    · by_cases h2 : (A c 0 + 1) &&& (15 : Int32) = 11
      · simp [h0, h1, h2, wr_r]
        generalize sp_O_judgeRoundWord c _ = X
        by_cases a1 : X c 0 = 7 <;> by_cases a2 : X c 0 = 15 <;> simp [a1, a2]
      · by_cases h3 : iu w 31 = 0 <;> by_cases h4 : (A c 0 + 1) &&& (15 : Int32) = 13 <;> by_cases h5 : (A c 0 + 1) &&& (15 : Int32) = 15 <;> by_cases h6 : (A c 0 + 1) &&& (15 : Int32) = 7 <;> simp [h0, h1, h2, h3, h4, h5, h6, wr_r]
  · by_cases h1 : A c 0 = -1
    · simp [h0, h1, wr_r]
    · by_cases h2 : (A c 0 + 1) &&& (15 : Int32) = 11
      · simp [h0, h1, h2, wr_r]
        generalize sp_O_judgeRoundWord c _ = X
        by_cases a1 : X c 0 = 7 <;> by_cases a2 : X c 0 = 15 <;> simp [a1, a2]
      · by_cases h3 : iu w 31 = 0 <;> by_cases h4 : (A c 0 + 1) &&& (15 : Int32) = 13 <;> by_cases h5 : (A c 0 + 1) &&& (15 : Int32) = 15 <;> by_cases h6 : (A c 0 + 1) &&& (15 : Int32) = 7 <;> simp [h0, h1, h2, h3, h4, h5, h6, wr_r]
/-- the reference's complete in steps -/
def cm1 (B : Mem) (e : Int32) : Mem := sp_M_fault (wr (wr B 50 (tn e) (B 45 (tn e))) 49 (tn e) (zb 1)) e 1 0
def cm2 (B : Mem) (e : Int32) : Mem := if B 47 (tn e) = 0 then wr (wr (wr (cm1 B e) 51 (tn e) (zb (if ((B 45 (tn e) >>> ((29 : Int32) &&& 31)) &&& (1 : Int32)) = 1 then 1 else 0))) 54 (tn e) (((B 54 (tn e) <<< ((1 : Int32) &&& 31)) ||| iu (B 45 (tn e)) 31) &&& (63 : Int32))) 55 (tn e) (if 6 ≤ B 55 (tn e) then 6 else B 55 (tn e) + 1) else cm1 B e
def cmk (B : Mem) (e : Int32) : Int32 := if B 47 (tn e) = 0 then (if cm2 B e 55 (tn e) = 6 then (if cm2 B e 54 (tn e) = 11 then 1 else 0) else 0) else 0
theorem cm1_c {B : Mem} {e : Int32} {c k : Nat} (h : c ∉ [49, 50, 63]) : cm1 B e c k = B c k := by
  simp only [List.mem_cons, List.not_mem_nil, or_false, not_or] at h
  unfold cm1 sp_M_fault
  simp [wr_r, h]
theorem cm2_c {B : Mem} {e : Int32} {c k : Nat} (h : c ∉ [49, 50, 51, 54, 55, 63]) : cm2 B e c k = B c k := by
  simp only [List.mem_cons, List.not_mem_nil, or_false, not_or] at h
  unfold cm2
  split
  · simp [wr_r, h, cm1_c]
  · exact cm1_c (by simp [h])
theorem cm2_63 {B : Mem} {e : Int32} {k : Nat} : cm2 B e 63 k = if k = tn (5 * e + 0) then B 63 k + 1 else B 63 k := by
  unfold cm2 cm1 sp_M_fault
  split <;> (simp [wr_r]; by_cases h : k = tn (5 * e) <;> simp [h])
theorem cmp_eq (B : Mem) (e : Int32) : sp_M_complete B e = sp_M_complete_152 e (cm2 B e) (B 45 (tn e)) (iu (B 45 (tn e)) 31) (cmk B e) := by
  have e31 : (B 45 (tn e) >>> ((31 : Int32) &&& 31)) &&& (1 : Int32) = iu (B 45 (tn e)) 31 := (iu_sr 31 (by omega) _).trans (iu_31 _)
  unfold sp_M_complete
  rw [e31]
  show sp_M_complete_35 e (cm1 B e) _ _ = _
  unfold sp_M_complete_35 cmk
  rw [cm1_c (c := 47) (by decide), cm1_c (c := 54) (by decide), cm1_c (c := 55) (by decide)]
  by_cases h : B 47 (tn e) = 0
  · rw [if_pos h, if_pos h]
    have h2 : cm2 B e = wr (wr (wr (cm1 B e) 51 (tn e) (zb (if ((B 45 (tn e) >>> ((29 : Int32) &&& 31)) &&& (1 : Int32)) = 1 then 1 else 0))) 54 (tn e) (((B 54 (tn e) <<< ((1 : Int32) &&& 31)) ||| iu (B 45 (tn e)) 31) &&& (63 : Int32))) 55 (tn e) (if 6 ≤ B 55 (tn e) then 6 else B 55 (tn e) + 1) := by unfold cm2; rw [if_pos h]
    rw [← h2]
    unfold sp_M_complete_114
    rw [cm2_c (c := 47) (by decide), if_pos h]
  · rw [if_neg h, if_neg h]
    have h2 : cm2 B e = cm1 B e := by unfold cm2; rw [if_neg h]
    rw [← h2]
    unfold sp_M_complete_114
    rw [cm2_c (c := 47) (by decide), if_neg h]
/-- the halves, as one memory -/
def hvW (G : Mem) (e : Int32) (q : Nat) : Mem := if q % 8 = 0 then wr (wr (wr G 57 (tn e) 1) 58 (tn e) 0) 59 (tn e) 0 else G
def hvK (G : Mem) (e K f : Int32) : Mem := wr (wr G 58 (tn e) K) 59 (tn e) (if G 47 (tn e) = 0 then G 59 (tn e) else (G 59 (tn e) <<< ((1 : Int32) &&& 31)) ||| f)
def hv3 (G : Mem) (e w f : Int32) : Mem := hvK G e (ck w 31 (wf (G 58 (tn e)) (if G 47 (tn e) = 0 then iu w 31 else 0))) f
def hv4 (G : Mem) (e : Int32) (q : Nat) : Mem := wr (wr (if G 60 (tn e) = 0 then G else wr (sp_M_fault G e (if G 59 (tn e) = G 61 (tn e) then 0 else 1) 3) 62 (tn (2 * e + (if q = 15 then 0 else 1))) (if G 59 (tn e) = G 61 (tn e) then 0 else 1)) 60 (tn e) 1) 61 (tn e) (G 58 (tn e))
theorem m8 : ∀ q, q < 16 → (nI q - nI q / 8 * 8 : Int32) = nI (q % 8) := by decide +kernel
theorem m8_0 : ∀ q, q < 16 → ((nI (q % 8) = (0 : Int32)) ↔ q % 8 = 0) ∧ ((nI (q % 8) = (7 : Int32)) ↔ q % 8 = 7) ∧ ((nI q = (15 : Int32)) ↔ q = 15) ∧ ((nI q = (11 : Int32)) ↔ q = 11) ∧ ((nI q = (13 : Int32)) ↔ q = 13) ∧ ((nI q = (7 : Int32)) ↔ q = 7) ∧ ¬ nI q = (-1 : Int32) := by decide +kernel
theorem h99_eq (G1 : Mem) (e w f K : Int32) (q : Nat) (hq : q < 16) (h53' : G1 53 (tn e) = nI q) : sp_M_halves_99 e w f (wr G1 58 (tn e) K) = if q % 8 = 7 then hv4 (hvK G1 e K f) e q else hvK G1 e K f := by
  unfold sp_M_halves_99
  have a53 : wr G1 58 (tn e) K 53 (tn e) = nI q := by simp [wr_r, h53']
  have a47 : wr G1 58 (tn e) K 47 (tn e) = G1 47 (tn e) := by simp [wr_r]
  have a59 : wr G1 58 (tn e) K 59 (tn e) = G1 59 (tn e) := by simp [wr_r]
  rw [a53, a47, a59, m8 q hq]
  by_cases h7 : q % 8 = 7
  · rw [if_pos ((m8_0 q hq).2.1.mpr h7), if_pos h7]
    have b60 : hvK G1 e K f 60 (tn e) = G1 60 (tn e) := by unfold hvK; simp [wr_r]
    have b61 : hvK G1 e K f 61 (tn e) = G1 61 (tn e) := by unfold hvK; simp [wr_r]
    have b59 : hvK G1 e K f 59 (tn e) = (if G1 47 (tn e) = 0 then G1 59 (tn e) else (G1 59 (tn e) <<< ((1 : Int32) &&& 31)) ||| f) := by unfold hvK; simp [wr_r]
    have b58 : hvK G1 e K f 58 (tn e) = K := by unfold hvK; simp [wr_r]
    have b3 : wr (wr G1 58 (tn e) K) 59 (tn e) (if G1 47 (tn e) = 0 then G1 59 (tn e) else (G1 59 (tn e) <<< ((1 : Int32) &&& 31)) ||| f) = hvK G1 e K f := rfl
    have a60 : wr G1 58 (tn e) K 60 (tn e) = G1 60 (tn e) := by simp [wr_r]
    have a61 : wr G1 58 (tn e) K 61 (tn e) = G1 61 (tn e) := by simp [wr_r]
    have b53 : hvK G1 e K f 53 (tn e) = nI q := by unfold hvK; simp [wr_r, h53']
    unfold hv4
    rw [b60, b61, b59, a60, a61, b3]
    generalize hvK G1 e K f = G2 at b60 b61 b59 b58 b53
    have z1 : zb 1 = 1 := rfl
    by_cases h60 : G1 60 (tn e) = 0
    · rw [if_pos h60, if_pos h60]
      unfold sp_M_halves_213
      rw [z1]
    · rw [if_neg h60, if_neg h60]
      unfold sp_M_halves_213
      have c53 : ∀ x, sp_M_fault G2 e x 3 53 (tn e) = nI q := fun x => by unfold sp_M_fault; simp [wr_r, b53]
      rw [c53]
      have hz : ∀ p : Prop, ∀ [Decidable p], zb (if p then 0 else 1) = if p then 0 else 1 := by intro p _; by_cases hp : p <;> simp [hp] <;> rfl
      have h15 : (if nI q = (15 : Int32) then 0 else 1 : Int32) = if q = 15 then 0 else 1 := by
        by_cases h9 : q = 15
        · rw [if_pos h9, if_pos ((m8_0 q hq).2.2.1.mpr h9)]
        · rw [if_neg h9, if_neg (fun h8 => h9 ((m8_0 q hq).2.2.1.mp h8))]
      rw [hz, h15, z1]
      have d58 : ∀ i v x, wr (sp_M_fault G2 e x 3) 62 i v 58 (tn e) = G2 58 (tn e) := fun i v x => by unfold sp_M_fault; simp [wr_r]
      rw [d58]
  · rw [if_neg (fun h9 => h7 ((m8_0 q hq).2.1.mp h9)), if_neg h7]
    rfl
theorem hvs_eq (G : Mem) (e w f : Int32) (q : Nat) (hq : q < 16) (h53 : G 53 (tn e) = nI q) : sp_M_halves G e w f = if hvW G e q 57 (tn e) = 0 then hvW G e q else (if q % 8 = 7 then hv4 (hv3 (hvW G e q) e w f) e q else hv3 (hvW G e q) e w f) := by
  have hw : sp_M_halves G e w f = sp_M_halves_33 e w f (hvW G e q) := by
    unfold sp_M_halves hvW
    rw [h53, m8 q hq]
    by_cases h : q % 8 = 0
    · rw [if_pos ((m8_0 q hq).1.mpr h), if_pos h]; rfl
    · rw [if_neg (fun h9 => h ((m8_0 q hq).1.mp h9)), if_neg h]
  rw [hw]
  have h53' : hvW G e q 53 (tn e) = nI q := by
    unfold hvW
    split
    · simp [wr_r, h53]
    · exact h53
  generalize hvW G e q = G1 at h53'
  unfold sp_M_halves_33
  by_cases h57 : G1 57 (tn e) = 0
  · rw [if_pos h57, if_pos h57]
  · rw [if_neg h57, if_neg h57, hv_eq, h99_eq _ _ _ _ _ q hq h53']
    unfold hv3
    rfl
