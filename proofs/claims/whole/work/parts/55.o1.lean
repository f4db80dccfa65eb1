/-! checks over a frame -/
def wf (c b : Int32) : Int32 := if (b ^^^ (c >>> ((3 : Int32) &&& 31))) = 1 then (((c <<< ((1 : Int32) &&& 31)) &&& (15 : Int32)) ^^^ (3 : Int32)) else ((c <<< ((1 : Int32) &&& 31)) &&& (15 : Int32))
def ck (w : Int32) : Nat → Int32 → Int32
  | 0, c => c
  | j + 1, c => ck w j (wf c (iu w (nI j) &&& 1))
theorem nI_m1 (j : Nat) : nI j + (-1) = nI j - 1 := by
  rw [Int32.sub_eq_add_neg]
theorem m1_neg : (nI 0 - 1 : Int32) < 0 := by decide
theorem nI_sub1 (j : Nat) : nI (j + 1) - 1 = nI j := nI_pred j
theorem co_ck (a1 w : Int32) (G : Mem) : ∀ (j : Nat) (c : Int32), j ≤ 32 → sp_F_checkOver_5 a1 w (j + 1) G c (nI j - 1) = ck w j c := by
  intro j
  induction j with
  | zero => intro c _; rw [sp_F_checkOver_5, if_pos m1_neg]; rfl
  | succ j ih =>
    intro c hj
    rw [sp_F_checkOver_5, nI_sub1, if_neg (nI_pos (by omega)), nI_m1]
    show _ = ck w j (wf c (iu w (nI j) &&& 1))
    unfold wf
    by_cases h : ((iu w (nI j) &&& 1) ^^^ (c >>> ((3 : Int32) &&& 31))) = 1
    · rw [if_pos h, if_pos h, ih _ (by omega)]
    · rw [if_neg h, if_neg h, ih _ (by omega)]
theorem co_eq (G : Mem) (c w : Int32) : sp_F_checkOver G c w = ck w 32 c := co_ck c w G 32 c (by omega)
theorem iu_bt (n : Nat) (hn : n < 32) (x : Int32) (i : Nat) : bt (iu x (nI n)) i = bt x (n + i) := b_ushr n hn x i
theorem b_1 (i : Nat) : bt 1 i = decide (i = 0) := by
  rcases Nat.lt_or_ge i 32 with h | h
  · exact (by decide +kernel : ∀ i, i < 32 → bt 1 i = decide (i = 0)) i h
  · rw [b_big h, decide_eq_false (by omega)]
theorem iu_sr (n : Nat) (hn : n < 32) (x : Int32) : (x >>> (nI n &&& 31)) &&& 1 = iu x (nI n) &&& 1 := by
  apply b_ext
  intro i hi
  rw [b_and, b_and, b_1, iu_bt n hn, b_sshr n hn x hi]
  by_cases h : i = 0
  · subst h; simp [hn]
  · simp [h]
theorem iu_31 (x : Int32) : iu x 31 &&& 1 = iu x 31 := by
  apply b_ext
  intro i hi
  rw [b_and, b_1, show (31 : Int32) = nI 31 from rfl, iu_bt 31 (by omega)]
  by_cases h : i = 0
  · subst h; simp
  · rw [b_big (show 32 ≤ 31 + i by omega)]; simp
theorem iu_31_or (x : Int32) : iu x 31 = 0 ∨ iu x 31 = 1 := by
  rw [← iu_31]
  obtain ⟨j, hj, e⟩ := pk_andE (iu x 31) (m := 1) 1 (by decide)
  have : j = 0 ∨ j = 1 := by omega
  rcases this with rfl | rfl
  · exact Or.inl e
  · exact Or.inr e
theorem b_max (i : Nat) : bt 2147483647 i = decide (i < 31) := by
  rcases Nat.lt_or_ge i 32 with h | h
  · exact (by decide +kernel : ∀ i, i < 32 → bt 2147483647 i = decide (i < 31)) i h
  · rw [b_big h, decide_eq_false (by omega)]
theorem iu_mask (x : Int32) (j : Nat) (hj : j < 31) : iu (x &&& 2147483647) (nI j) &&& 1 = iu x (nI j) &&& 1 := by
  apply b_ext
  intro i hi
  rw [b_and, b_and, b_1, iu_bt j (by omega), iu_bt j (by omega), b_and, b_max]
  by_cases h : i = 0
  · subst h; simp [hj]
  · simp [h]
theorem iu_mask31 (x : Int32) : iu (x &&& 2147483647) (nI 31) &&& 1 = 0 := by
  apply b_ext
  intro i hi
  rw [b_and, b_1, iu_bt 31 (by omega), b_and, b_max, b_0]
  by_cases h : i = 0
  · subst h; simp
  · simp [h]
theorem ck_mask (x : Int32) : ∀ (j : Nat) (c : Int32), j ≤ 31 → ck (x &&& 2147483647) j c = ck x j c := by
  intro j
  induction j with
  | zero => intro c _; rfl
  | succ j ih =>
    intro c hj
    show ck _ j _ = ck x j _
    rw [iu_mask x j (by omega), ih _ (by omega)]
/-- a whole frame's check: the first bit as it counts, then the other 31 -/
theorem ck_32 (x c o : Int32) : ck (if o = 0 then x &&& 2147483647 else x) 32 c = ck x 31 (wf c (if o = 0 then 0 else iu x 31)) := by
  by_cases h : o = 0
  · rw [if_pos h, if_pos h]
    show ck _ 31 _ = _
    rw [iu_mask31, ck_mask x 31 _ (by omega)]
  · rw [if_neg h, if_neg h]
    show ck x 31 (wf c (iu x (nI 31) &&& 1)) = _
    rw [show nI 31 = (31 : Int32) from rfl, iu_31]
theorem wr_wr (G : Mem) (c k : Nat) (v u : Int32) : wr (wr G c k v) c k u = wr G c k u := by
  funext c1 k1
  rw [wr_r, wr_r, wr_r]
  by_cases h : c1 = c ∧ k1 = k <;> simp [h]
theorem wr_id (G : Mem) (c k : Nat) : wr G c k (G c k) = G := by
  funext c1 k1
  rw [wr_r]
  by_cases h : c1 = c ∧ k1 = k
  · rw [if_pos h, h.1, h.2]
  · rw [if_neg h]
/-- the reference's loop over a frame's bits -/
theorem hv_ck (e w f : Int32) : ∀ (j : Nat) (G : Mem), j ≤ 31 → sp_M_halves_47 e w f (j + 1) G (nI j - 1) = sp_M_halves_99 e w f (wr G 58 (tn e) (ck w j (G 58 (tn e)))) := by
  intro j
  induction j with
  | zero => intro G _; rw [sp_M_halves_47, if_pos m1_neg]; show _ = sp_M_halves_99 e w f (wr G 58 (tn e) (G 58 (tn e))); rw [wr_id]
  | succ j ih =>
    intro G hj
    rw [sp_M_halves_47, nI_sub1, if_neg (nI_pos (by omega)), nI_m1, ih _ (by omega), wr_wr, wr_same]
    have h31 : ¬ nI j = (31 : Int32) := fun h9 => by have := nI_inj (b := 31) (by omega) (by omega) h9; omega
    rw [if_neg h31, iu_sr j (by omega)]
    rfl
theorem hv_eq (e w f : Int32) (G : Mem) : sp_M_halves_47 e w f 33 G 31 = sp_M_halves_99 e w f (wr G 58 (tn e) (ck w 31 (wf (G 58 (tn e)) (if G 47 (tn e) = 0 then iu w 31 else 0)))) := by
  rw [sp_M_halves_47, if_neg (by decide), show ((31 : Int32) + -1) = nI 31 - 1 from by decide, hv_ck e w f 31 _ (by omega), wr_wr, wr_same, if_pos rfl]
  have : (w >>> ((31 : Int32) &&& 31)) &&& 1 = iu w 31 := (iu_sr 31 (by omega) w).trans (iu_31 w)
  rw [this]
  rfl
