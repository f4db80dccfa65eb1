def sp_M_within  (G0 : Mem) (a1 : Int32) (a2 : Int32) (a3 : Int32) : Int32 :=
  ((if a1 < a2 then 0 else (if a3 < a1 then 0 else 1)) : Int32)
set_option maxHeartbeats 4000000 in
set_option maxRecDepth 100000 in
theorem c_M_within (l : Launch) (P : gP) (G0 : Mem)  (a1 : Int32) (a2 : Int32) (a3 : Int32)  : gMrz l y_M_within b_M_within 3 (some .boolean) ({ frames := 0, cells := 0, slots := 0, locals := 0 }) [.int a1, .int a2, .int a3] P G0 (sp_M_within G0 a1 a2 a3) := by
  refine Met.ofW (cc := b_M_within) (maxL := 3) (ret := (some .boolean)) (by decide) rfl ?_
  intro p e s m args below meth c0 s₁ B hml hv
  obtain ⟨rfl, hpre⟩ := hv
  obtain ⟨E, hH⟩ := gE_of B hml hpre
  replace E : gE p s m _ meth c0 P "FramedLineModel" b_M_within 3 (some .boolean) := E
  have hx := E.1
  have hb := E.2.1
  have hl := lv_entry ([.int a1, .int a2, .int a3]) (n := 3) (Nat.le_of_ble_eq_true rfl)
  rw [lg_entry_eq]
  generalize (lg_sl ([.int a1, .int a2, .int a3]) ++ List.replicate (3 - (lg_sl ([.int a1, .int a2, .int a3])).length) Slot.unset).toArray = ls at hl ⊢
  replace hl : lv_has ls 3 [(0, .int a1), (1, .int a2), (2, .int a3)] := hl
  have hsp : sp_M_within G0 a1 a2 a3 = sp_M_within G0 a1 a2 a3 := rfl
  refine lv_iload_n hx hb d_M_within_0 rfl (lv_at hl 0 rfl) ?_
  refine lv_iload_n hx hb d_M_within_1 rfl (lv_at hl 1 rfl) ?_
  refine jn (α := Int32) (fun z H1 locs1 => z = ((if a1 < a2 then 0 else (if a3 < a1 then 0 else 1)) : Int32) ∧ isB z ∧ gH P s G0 H1 locs1) (fun z => F0 m 15 ls (.int z :: [])) (fun z H locs h9 => ?_) (fun hJ => ?_)
  · obtain ⟨rfl, hz15, hH⟩ := h9
    exact g_rzret E hH (hsp.trans (by rw [sp_M_within])) hz15 d_M_within_15
  · refine lv_icmp_lt (tgt := 14) hx hb d_M_within_2 (by decide) (fun h1 => ?_) (fun h1 => ?_)
    · refine lv_iconst (v := 0) hx hb d_M_within_14 (by decide) ?_
      exact hJ _ _ _ ⟨by simp only [if_pos h1], isB_0, hH⟩
    · refine lv_iload_n hx hb d_M_within_5 rfl (lv_at hl 0 rfl) ?_
      refine lv_iload_n hx hb d_M_within_6 rfl (lv_at hl 2 rfl) ?_
      refine lv_icmp_gt (tgt := 14) hx hb d_M_within_7 (by decide) (fun h2 => ?_) (fun h2 => ?_)
      · refine lv_iconst (v := 0) hx hb d_M_within_14 (by decide) ?_
        exact hJ _ _ _ ⟨by simp only [if_neg h1, if_pos h2], isB_0, hH⟩
      · refine lv_iconst (v := 1) hx hb d_M_within_10 (by decide) ?_
        refine lv_goto (tgt := 15) hx hb d_M_within_11 (by decide) ?_
        exact hJ _ _ _ ⟨by simp only [if_neg h1, if_neg h2], isB_1, hH⟩

def sp_M_isEnd  (G0 : Mem) (a1 : Int32) : Int32 :=
  ((if a1 = 0 then 1 else (if a1 = 1 then 1 else 0)) : Int32)
set_option maxHeartbeats 4000000 in
set_option maxRecDepth 100000 in
theorem c_M_isEnd (l : Launch) (P : gP) (G0 : Mem)  (a1 : Int32)  : gMrz l y_M_isEnd b_M_isEnd 1 (some .boolean) ({ frames := 0, cells := 0, slots := 0, locals := 0 }) [.int a1] P G0 (sp_M_isEnd G0 a1) := by
  refine Met.ofW (cc := b_M_isEnd) (maxL := 1) (ret := (some .boolean)) (by decide) rfl ?_
  intro p e s m args below meth c0 s₁ B hml hv
  obtain ⟨rfl, hpre⟩ := hv
  obtain ⟨E, hH⟩ := gE_of B hml hpre
  replace E : gE p s m _ meth c0 P "FramedLineModel" b_M_isEnd 1 (some .boolean) := E
  have hx := E.1
  have hb := E.2.1
  have hl := lv_entry ([.int a1]) (n := 1) (Nat.le_of_ble_eq_true rfl)
  rw [lg_entry_eq]
  generalize (lg_sl ([.int a1]) ++ List.replicate (1 - (lg_sl ([.int a1])).length) Slot.unset).toArray = ls at hl ⊢
  replace hl : lv_has ls 1 [(0, .int a1)] := hl
  have hsp : sp_M_isEnd G0 a1 = sp_M_isEnd G0 a1 := rfl
  refine lv_iload_n hx hb d_M_isEnd_0 rfl (lv_at hl 0 rfl) ?_
  refine jn (α := Int32) (fun z H1 locs1 => z = ((if a1 = 0 then 1 else (if a1 = 1 then 1 else 0)) : Int32) ∧ isB z ∧ gH P s G0 H1 locs1) (fun z => F0 m 14 ls (.int z :: [])) (fun z H locs h9 => ?_) (fun hJ => ?_)
  · obtain ⟨rfl, hz14, hH⟩ := h9
    exact g_rzret E hH (hsp.trans (by rw [sp_M_isEnd])) hz14 d_M_isEnd_14
  · refine lv_if_eq (tgt := 9) hx hb d_M_isEnd_1 (by decide) (fun h1 => ?_) (fun h1 => ?_)
    · refine lv_iconst (v := 1) hx hb d_M_isEnd_9 (by decide) ?_
      refine lv_goto (tgt := 14) hx hb d_M_isEnd_10 (by decide) ?_
      exact hJ _ _ _ ⟨by simp only [if_pos h1], isB_1, hH⟩
    · refine lv_iload_n hx hb d_M_isEnd_4 rfl (lv_at hl 0 rfl) ?_
      refine lv_iconst (v := 1) hx hb d_M_isEnd_5 (by decide) ?_
      refine lv_icmp_ne (tgt := 13) hx hb d_M_isEnd_6 (by decide) (fun h2 => ?_) (fun h2 => ?_)
      · refine lv_iconst (v := 0) hx hb d_M_isEnd_13 (by decide) ?_
        exact hJ _ _ _ ⟨by simp only [if_neg h1, if_neg h2], isB_0, hH⟩
      · refine lv_iconst (v := 1) hx hb d_M_isEnd_9 (by decide) ?_
        refine lv_goto (tgt := 14) hx hb d_M_isEnd_10 (by decide) ?_
        exact hJ _ _ _ ⟨by simp only [if_neg h1, if_pos h2], isB_1, hH⟩

def sp_M_with  (G0 : Mem) (a1 : Int32) (a2 : Int32) : Int32 :=
  ((if (a2 ^^^ (a1 >>> ((3 : Int32) &&& 31))) = 1 then (((a1 <<< ((1 : Int32) &&& 31)) &&& (15 : Int32)) ^^^ (3 : Int32)) else ((a1 <<< ((1 : Int32) &&& 31)) &&& (15 : Int32))) : Int32)
set_option maxHeartbeats 4000000 in
set_option maxRecDepth 100000 in
theorem c_M_with (l : Launch) (P : gP) (G0 : Mem)  (a1 : Int32) (a2 : Int32)  : gMri l y_M_with b_M_with 4 (some .int) ({ frames := 0, cells := 0, slots := 0, locals := 0 }) [.int a1, .int a2] P G0 (sp_M_with G0 a1 a2) := by
  refine Met.ofW (cc := b_M_with) (maxL := 4) (ret := (some .int)) (by decide) rfl ?_
  intro p e s m args below meth c0 s₁ B hml hv
  obtain ⟨rfl, hpre⟩ := hv
  obtain ⟨E, hH⟩ := gE_of B hml hpre
  replace E : gE p s m _ meth c0 P "FramedLineModel" b_M_with 4 (some .int) := E
  have hx := E.1
  have hb := E.2.1
  have hl := lv_entry ([.int a1, .int a2]) (n := 4) (Nat.le_of_ble_eq_true rfl)
  rw [lg_entry_eq]
  generalize (lg_sl ([.int a1, .int a2]) ++ List.replicate (4 - (lg_sl ([.int a1, .int a2])).length) Slot.unset).toArray = ls at hl ⊢
  replace hl : lv_has ls 4 [(0, .int a1), (1, .int a2)] := hl
  have hsp : sp_M_with G0 a1 a2 = sp_M_with G0 a1 a2 := rfl
  refine lv_iload_n hx hb d_M_with_0 rfl (lv_at hl 1 rfl) ?_
  refine lv_iload_n hx hb d_M_with_1 rfl (lv_at hl 0 rfl) ?_
  refine lv_iconst (v := 3) hx hb d_M_with_2 (by decide) ?_
  refine lv_ishr hx hb d_M_with_3 ?_
  refine lv_ixor hx hb d_M_with_4 ?_
  refine lv_istore_n hx hb d_M_with_5 rfl hl (by decide) rfl (fun ls hl => ?_)
  refine lv_iload_n hx hb d_M_with_6 rfl (lv_at hl 1 rfl) ?_
  refine lv_iconst (v := 1) hx hb d_M_with_7 (by decide) ?_
  refine lv_ishl hx hb d_M_with_8 ?_
  refine lv_bipush (v := 15) hx hb d_M_with_9 (by decide) ?_
  refine lv_iand hx hb d_M_with_11 ?_
  refine lv_istore_n hx hb d_M_with_12 rfl hl (by decide) rfl (fun ls hl => ?_)
  refine lv_iload_n hx hb d_M_with_13 rfl (lv_at hl 1 rfl) ?_
  refine lv_iconst (v := 1) hx hb d_M_with_14 (by decide) ?_
  refine jn (α := Int32) (fun z H1 locs1 => z = ((if (a2 ^^^ (a1 >>> ((3 : Int32) &&& 31))) = 1 then (((a1 <<< ((1 : Int32) &&& 31)) &&& (15 : Int32)) ^^^ (3 : Int32)) else ((a1 <<< ((1 : Int32) &&& 31)) &&& (15 : Int32))) : Int32) ∧ gH P s G0 H1 locs1) (fun z => F0 m 25 ls (.int z :: [])) (fun z H locs h9 => ?_) (fun hJ => ?_)
  · obtain ⟨rfl, hH⟩ := h9
    exact g_riret E hH (hsp.trans (by rw [sp_M_with])) d_M_with_25
  · refine lv_icmp_ne (tgt := 24) hx hb d_M_with_15 (by decide) (fun h1 => ?_) (fun h1 => ?_)
    · refine lv_iload_n hx hb d_M_with_24 rfl (lv_at hl 0 rfl) ?_
      exact hJ _ _ _ ⟨by simp only [if_neg h1], hH⟩
    · refine lv_iload_n hx hb d_M_with_18 rfl (lv_at hl 0 rfl) ?_
      refine lv_iconst (v := 3) hx hb d_M_with_19 (by decide) ?_
      refine lv_ixor hx hb d_M_with_20 ?_
      refine lv_goto (tgt := 25) hx hb d_M_with_21 (by decide) ?_
      exact hJ _ _ _ ⟨by simp only [if_pos h1], hH⟩

def sp_M_thrown  (G0 : Mem)  : Int32 :=
  (G0 21 0)
set_option maxHeartbeats 4000000 in
set_option maxRecDepth 100000 in
theorem c_M_thrown (l : Launch) (P : gP) (G0 : Mem)    : gMri l y_M_thrown b_M_thrown 1 (some .int) ({ frames := 0, cells := 0, slots := 0, locals := 0 }) [.ref (gad P 21)] P G0 (sp_M_thrown G0) := by
  refine Met.ofW (cc := b_M_thrown) (maxL := 1) (ret := (some .int)) (by decide) rfl ?_
  intro p e s m args below meth c0 s₁ B hml hv
  obtain ⟨rfl, hpre⟩ := hv
  obtain ⟨E, hH⟩ := gE_of B hml hpre
  replace E : gE p s m _ meth c0 P "FramedLineModel" b_M_thrown 1 (some .int) := E
  have hx := E.1
  have hb := E.2.1
  have hl := lv_entry ([.ref (gad P 21)]) (n := 1) (Nat.le_of_ble_eq_true rfl)
  rw [lg_entry_eq]
  generalize (lg_sl ([.ref (gad P 21)]) ++ List.replicate (1 - (lg_sl ([.ref (gad P 21)])).length) Slot.unset).toArray = ls at hl ⊢
  replace hl : lv_has ls 1 [(0, .ref (gad P 21))] := hl
  have hsp : sp_M_thrown G0 = sp_M_thrown G0 := rfl
  refine lv_aload_n hx hb d_M_thrown_0 rfl (lv_at hl 0 rfl) ?_
  refine g_geti (v := (G0 21 0)) E hH (gc_M rfl) cl_M 0 (by decide) lf_M_137 (fun _ => rfl) rfl d_M_thrown_1 ?_
  exact g_riret E hH (hsp.trans (by rw [sp_M_thrown])) d_M_thrown_4

def sp_M_mark  (G0 : Mem) (a1 : Int32) (a2 : Int32) : Int32 :=
  (if a2 ≤ 11 then ((if a2 = 5 then 1 else (if a2 ≤ 8 then 0 else 1)) : Int32) else ((if (G0 62 (tn ((2 * a1) + ((if a2 = 13 then 0 else 1) : Int32)))) = 0 then 1 else 0) : Int32))
set_option maxHeartbeats 4000000 in
set_option maxRecDepth 100000 in
theorem c_M_mark (l : Launch) (P : gP) (G0 : Mem)  (a1 : Int32) (a2 : Int32) (he : a1 = 0 ∨ a1 = 1) : gMri l y_M_mark b_M_mark 3 (some .int) ({ frames := 0, cells := 0, slots := 0, locals := 0 }) [.ref (gad P 21), .int a1, .int a2] P G0 (sp_M_mark G0 a1 a2) := by
  refine Met.ofW (cc := b_M_mark) (maxL := 3) (ret := (some .int)) (by decide) rfl ?_
  intro p e s m args below meth c0 s₁ B hml hv
  obtain ⟨rfl, hpre⟩ := hv
  obtain ⟨E, hH⟩ := gE_of B hml hpre
  replace E : gE p s m _ meth c0 P "FramedLineModel" b_M_mark 3 (some .int) := E
  have hx := E.1
  have hb := E.2.1
  have hl := lv_entry ([.ref (gad P 21), .int a1, .int a2]) (n := 3) (Nat.le_of_ble_eq_true rfl)
  rw [lg_entry_eq]
  generalize (lg_sl ([.ref (gad P 21), .int a1, .int a2]) ++ List.replicate (3 - (lg_sl ([.ref (gad P 21), .int a1, .int a2])).length) Slot.unset).toArray = ls at hl ⊢
  replace hl : lv_has ls 3 [(0, .ref (gad P 21)), (1, .int a1), (2, .int a2)] := hl
  have hsp : sp_M_mark G0 a1 a2 = sp_M_mark G0 a1 a2 := rfl
  refine lv_iload_n hx hb d_M_mark_0 rfl (lv_at hl 2 rfl) ?_
  refine lv_bipush (v := 11) hx hb d_M_mark_1 (by decide) ?_
  refine lv_icmp_le (tgt := 35) hx hb d_M_mark_3 (by decide) (fun h1 => ?_) (fun h1 => ?_)
  · refine lv_iload_n hx hb d_M_mark_35 rfl (lv_at hl 2 rfl) ?_
    refine lv_iconst (v := 5) hx hb d_M_mark_36 (by decide) ?_
    refine jn (α := Int32) (fun z H1 locs1 => z = ((if a2 = 5 then 1 else (if a2 ≤ 8 then 0 else 1)) : Int32) ∧ isB z ∧ gH P s G0 H1 locs1) (fun z => F0 m 51 ls (.int z :: [])) (fun z H locs h9 => ?_) (fun hJ => ?_)
    · obtain ⟨rfl, hz51, hH⟩ := h9
      exact g_riret E hH (hsp.trans (by simp only [sp_M_mark, if_pos h1])) d_M_mark_51
    · refine lv_icmp_eq (tgt := 46) hx hb d_M_mark_37 (by decide) (fun h2 => ?_) (fun h2 => ?_)
      · refine lv_iconst (v := 1) hx hb d_M_mark_46 (by decide) ?_
        refine lv_goto (tgt := 51) hx hb d_M_mark_47 (by decide) ?_
        exact hJ _ _ _ ⟨by simp only [if_pos h2], isB_1, hH⟩
      · refine lv_iload_n hx hb d_M_mark_40 rfl (lv_at hl 2 rfl) ?_
        refine lv_bipush (v := 8) hx hb d_M_mark_41 (by decide) ?_
        refine lv_icmp_le (tgt := 50) hx hb d_M_mark_43 (by decide) (fun h3 => ?_) (fun h3 => ?_)
        · refine lv_iconst (v := 0) hx hb d_M_mark_50 (by decide) ?_
          exact hJ _ _ _ ⟨by simp only [if_neg h2, if_pos h3], isB_0, hH⟩
        · refine lv_iconst (v := 1) hx hb d_M_mark_46 (by decide) ?_
          refine lv_goto (tgt := 51) hx hb d_M_mark_47 (by decide) ?_
          exact hJ _ _ _ ⟨by simp only [if_neg h2, if_neg h3], isB_1, hH⟩
  · refine lv_aload_n hx hb d_M_mark_6 rfl (lv_at hl 0 rfl) ?_
    refine g_get E hH (gc_M rfl) cl_M 42 (by decide) lf_M_131 rfl d_M_mark_7 ?_
    refine lv_iconst (v := 2) hx hb d_M_mark_10 (by decide) ?_
    refine lv_iload_n hx hb d_M_mark_11 rfl (lv_at hl 1 rfl) ?_
    refine lv_imul hx hb d_M_mark_12 ?_
    refine lv_iload_n hx hb d_M_mark_13 rfl (lv_at hl 2 rfl) ?_
    refine lv_bipush (v := 13) hx hb d_M_mark_14 (by decide) ?_
    refine jn (α := Int32) (fun z H1 locs1 => z = ((if a2 = 13 then 0 else 1) : Int32) ∧ isB z ∧ gH P s G0 H1 locs1) (fun z => F0 m 24 ls (.int z :: .int (2 * a1) :: .ref (gad P 62) :: [])) (fun z H locs h9 => ?_) (fun hJ => ?_)
    · obtain ⟨rfl, hz24, hH⟩ := h9
      refine lv_iadd hx hb d_M_mark_24 ?_
      refine g_baload (k := (tn ((2 * a1) + ((if a2 = 13 then 0 else 1) : Int32)))) (v := (G0 62 (tn ((2 * a1) + ((if a2 = 13 then 0 else 1) : Int32))))) E hH ⟨by decide, fun _ => rfl⟩ (by rcases he with rfl | rfl <;> (unfold vp_in; first | decide | (split <;> decide))) rfl rfl d_M_mark_25 ?_
      refine jn (α := Int32) (fun z H1 locs1 => z = ((if (G0 62 (tn ((2 * a1) + ((if a2 = 13 then 0 else 1) : Int32)))) = 0 then 1 else 0) : Int32) ∧ isB z ∧ gH P s G0 H1 locs1) (fun z => F0 m 34 ls (.int z :: [])) (fun z H locs h9 => ?_) (fun hJ => ?_)
      · obtain ⟨rfl, hz34, hH⟩ := h9
        exact g_riret E hH (hsp.trans (by simp only [sp_M_mark, if_neg h1])) d_M_mark_34
      · refine lv_if_eq (tgt := 33) hx hb d_M_mark_26 (by decide) (fun h4 => ?_) (fun h4 => ?_)
        · refine lv_iconst (v := 1) hx hb d_M_mark_33 (by decide) ?_
          exact hJ _ _ _ ⟨by simp only [if_pos h4], isB_1, hH⟩
        · refine lv_iconst (v := 0) hx hb d_M_mark_29 (by decide) ?_
          refine lv_goto (tgt := 34) hx hb d_M_mark_30 (by decide) ?_
          exact hJ _ _ _ ⟨by simp only [if_neg h4], isB_0, hH⟩
    · refine lv_icmp_ne (tgt := 23) hx hb d_M_mark_16 (by decide) (fun h5 => ?_) (fun h5 => ?_)
      · refine lv_iconst (v := 1) hx hb d_M_mark_23 (by decide) ?_
        exact hJ _ _ _ ⟨by simp only [if_neg h5], isB_1, hH⟩
      · refine lv_iconst (v := 0) hx hb d_M_mark_19 (by decide) ?_
        refine lv_goto (tgt := 24) hx hb d_M_mark_20 (by decide) ?_
        exact hJ _ _ _ ⟨by simp only [if_pos h5], isB_0, hH⟩

def sp_M_fault  (G0 : Mem) (a1 : Int32) (a2 : Int32) (a3 : Int32) : Mem :=
  (wr G0 63 (tn ((5 * a1) + a3)) ((if a2 = 0 then (G0 63 (tn ((5 * a1) + a3))) else ((G0 63 (tn ((5 * a1) + a3))) + 1)) : Int32))
set_option maxHeartbeats 4000000 in
set_option maxRecDepth 100000 in
theorem c_M_fault (l : Launch) (P : gP) (G0 : Mem)  (a1 : Int32) (a2 : Int32) (a3 : Int32) (he : a1 = 0 ∨ a1 = 1) (hk : a3 = 0 ∨ a3 = 1 ∨ a3 = 2 ∨ a3 = 3 ∨ a3 = 4) : gMv l y_M_fault b_M_fault 4 none ({ frames := 0, cells := 0, slots := 0, locals := 0 }) [.ref (gad P 21), .int a1, .int a2, .int a3] P G0 (sp_M_fault G0 a1 a2 a3) := by
  refine Met.ofW (cc := b_M_fault) (maxL := 4) (ret := none) (by decide) rfl ?_
  intro p e s m args below meth c0 s₁ B hml hv
  obtain ⟨rfl, hpre⟩ := hv
  obtain ⟨E, hH⟩ := gE_of B hml hpre
  replace E : gE p s m _ meth c0 P "FramedLineModel" b_M_fault 4 none := E
  have hx := E.1
  have hb := E.2.1
  have hl := lv_entry ([.ref (gad P 21), .int a1, .int a2, .int a3]) (n := 4) (Nat.le_of_ble_eq_true rfl)
  rw [lg_entry_eq]
  generalize (lg_sl ([.ref (gad P 21), .int a1, .int a2, .int a3]) ++ List.replicate (4 - (lg_sl ([.ref (gad P 21), .int a1, .int a2, .int a3])).length) Slot.unset).toArray = ls at hl ⊢
  replace hl : lv_has ls 4 [(0, .ref (gad P 21)), (1, .int a1), (2, .int a2), (3, .int a3)] := hl
  have hsp : sp_M_fault G0 a1 a2 a3 = sp_M_fault G0 a1 a2 a3 := rfl
  refine lv_aload_n hx hb d_M_fault_0 rfl (lv_at hl 0 rfl) ?_
  refine g_get E hH (gc_M rfl) cl_M 43 (by decide) lf_M_134 rfl d_M_fault_1 ?_
  refine lv_iconst (v := 5) hx hb d_M_fault_4 (by decide) ?_
  refine lv_iload_n hx hb d_M_fault_5 rfl (lv_at hl 1 rfl) ?_
  refine lv_imul hx hb d_M_fault_6 ?_
  refine lv_iload_n hx hb d_M_fault_7 rfl (lv_at hl 3 rfl) ?_
  refine lv_iadd hx hb d_M_fault_8 ?_
  refine lv_iload_n hx hb d_M_fault_9 rfl (lv_at hl 2 rfl) ?_
  refine jn (α := Int32) (fun z H1 locs1 => z = ((if a2 = 0 then (G0 63 (tn ((5 * a1) + a3))) else ((G0 63 (tn ((5 * a1) + a3))) + 1)) : Int32) ∧ gH P s G0 H1 locs1) (fun z => F0 m 38 ls (.int z :: .int ((5 * a1) + a3) :: .ref (gad P 63) :: [])) (fun z H locs h9 => ?_) (fun hJ => ?_)
  · obtain ⟨rfl, hH⟩ := h9
    refine g_iastore (k := (tn ((5 * a1) + a3))) E hH ⟨by decide, fun _ => rfl⟩ (by rcases he with rfl | rfl <;> rcases hk with rfl | rfl | rfl | rfl | rfl <;> (unfold vp_in; decide)) rfl d_M_fault_38 (fun H locs hH => ?_)
    exact g_vret E hH (hsp.trans (by rw [sp_M_fault])) d_M_fault_39
  · refine lv_if_eq (tgt := 28) hx hb d_M_fault_10 (by decide) (fun h1 => ?_) (fun h1 => ?_)
    · refine lv_aload_n hx hb d_M_fault_28 rfl (lv_at hl 0 rfl) ?_
      refine g_get E hH (gc_M rfl) cl_M 43 (by decide) lf_M_134 rfl d_M_fault_29 ?_
      refine lv_iconst (v := 5) hx hb d_M_fault_32 (by decide) ?_
      refine lv_iload_n hx hb d_M_fault_33 rfl (lv_at hl 1 rfl) ?_
      refine lv_imul hx hb d_M_fault_34 ?_
      refine lv_iload_n hx hb d_M_fault_35 rfl (lv_at hl 3 rfl) ?_
      refine lv_iadd hx hb d_M_fault_36 ?_
      refine g_iaload (k := (tn ((5 * a1) + a3))) (v := (G0 63 (tn ((5 * a1) + a3)))) E hH ⟨by decide, fun _ => rfl⟩ (by rcases he with rfl | rfl <;> rcases hk with rfl | rfl | rfl | rfl | rfl <;> (unfold vp_in; decide)) rfl rfl d_M_fault_37 ?_
      exact hJ _ _ _ ⟨by simp only [if_pos h1], hH⟩
    · refine lv_aload_n hx hb d_M_fault_13 rfl (lv_at hl 0 rfl) ?_
      refine g_get E hH (gc_M rfl) cl_M 43 (by decide) lf_M_134 rfl d_M_fault_14 ?_
      refine lv_iconst (v := 5) hx hb d_M_fault_17 (by decide) ?_
      refine lv_iload_n hx hb d_M_fault_18 rfl (lv_at hl 1 rfl) ?_
      refine lv_imul hx hb d_M_fault_19 ?_
      refine lv_iload_n hx hb d_M_fault_20 rfl (lv_at hl 3 rfl) ?_
      refine lv_iadd hx hb d_M_fault_21 ?_
      refine g_iaload (k := (tn ((5 * a1) + a3))) (v := (G0 63 (tn ((5 * a1) + a3)))) E hH ⟨by decide, fun _ => rfl⟩ (by rcases he with rfl | rfl <;> rcases hk with rfl | rfl | rfl | rfl | rfl <;> (unfold vp_in; decide)) rfl rfl d_M_fault_22 ?_
      refine lv_iconst (v := 1) hx hb d_M_fault_23 (by decide) ?_
      refine lv_iadd hx hb d_M_fault_24 ?_
      refine lv_goto (tgt := 38) hx hb d_M_fault_25 (by decide) ?_
      exact hJ _ _ _ ⟨by simp only [if_neg h1], hH⟩

def sp_M_forget  (G0 : Mem) (a1 : Int32) : Mem :=
  (wr (wr (wr (wr (wr G0 52 (tn a1) (zb 0)) 57 (tn a1) (zb 0)) 60 (tn a1) (zb 0)) 62 (tn (2 * a1)) (zb 0)) 62 (tn ((2 * a1) + 1)) (zb 0))
set_option maxHeartbeats 4000000 in
set_option maxRecDepth 100000 in
theorem c_M_forget (l : Launch) (P : gP) (G0 : Mem)  (a1 : Int32) (he : a1 = 0 ∨ a1 = 1) : gMv l y_M_forget b_M_forget 2 none ({ frames := 0, cells := 0, slots := 0, locals := 0 }) [.ref (gad P 21), .int a1] P G0 (sp_M_forget G0 a1) := by
  refine Met.ofW (cc := b_M_forget) (maxL := 2) (ret := none) (by decide) rfl ?_
  intro p e s m args below meth c0 s₁ B hml hv
  obtain ⟨rfl, hpre⟩ := hv
  obtain ⟨E, hH⟩ := gE_of B hml hpre
  replace E : gE p s m _ meth c0 P "FramedLineModel" b_M_forget 2 none := E
  have hx := E.1
  have hb := E.2.1
  have hl := lv_entry ([.ref (gad P 21), .int a1]) (n := 2) (Nat.le_of_ble_eq_true rfl)
  rw [lg_entry_eq]
  generalize (lg_sl ([.ref (gad P 21), .int a1]) ++ List.replicate (2 - (lg_sl ([.ref (gad P 21), .int a1])).length) Slot.unset).toArray = ls at hl ⊢
  replace hl : lv_has ls 2 [(0, .ref (gad P 21)), (1, .int a1)] := hl
  have hsp : sp_M_forget G0 a1 = sp_M_forget G0 a1 := rfl
  refine lv_aload_n hx hb d_M_forget_0 rfl (lv_at hl 0 rfl) ?_
  refine g_get E hH (gc_M rfl) cl_M 32 (by decide) lf_M_101 rfl d_M_forget_1 ?_
  refine lv_iload_n hx hb d_M_forget_4 rfl (lv_at hl 1 rfl) ?_
  refine lv_iconst (v := 0) hx hb d_M_forget_5 (by decide) ?_
  refine g_bastore (k := (tn a1)) E hH ⟨by decide, fun _ => rfl⟩ (by rcases he with rfl | rfl <;> (unfold vp_in; first | decide | (split <;> decide))) rfl d_M_forget_6 (fun H locs hH => ?_)
  refine lv_aload_n hx hb d_M_forget_7 rfl (lv_at hl 0 rfl) ?_
  refine g_get E hH (gc_M rfl) cl_M 37 (by decide) lf_M_116 rfl d_M_forget_8 ?_
  refine lv_iload_n hx hb d_M_forget_11 rfl (lv_at hl 1 rfl) ?_
  refine lv_iconst (v := 0) hx hb d_M_forget_12 (by decide) ?_
  refine g_bastore (k := (tn a1)) E hH ⟨by decide, fun _ => rfl⟩ (by rcases he with rfl | rfl <;> (unfold vp_in; first | decide | (split <;> decide))) rfl d_M_forget_13 (fun H locs hH => ?_)
  refine lv_aload_n hx hb d_M_forget_14 rfl (lv_at hl 0 rfl) ?_
  refine g_get E hH (gc_M rfl) cl_M 40 (by decide) lf_M_125 rfl d_M_forget_15 ?_
  refine lv_iload_n hx hb d_M_forget_18 rfl (lv_at hl 1 rfl) ?_
  refine lv_iconst (v := 0) hx hb d_M_forget_19 (by decide) ?_
  refine g_bastore (k := (tn a1)) E hH ⟨by decide, fun _ => rfl⟩ (by rcases he with rfl | rfl <;> (unfold vp_in; first | decide | (split <;> decide))) rfl d_M_forget_20 (fun H locs hH => ?_)
  refine lv_aload_n hx hb d_M_forget_21 rfl (lv_at hl 0 rfl) ?_
  refine g_get E hH (gc_M rfl) cl_M 42 (by decide) lf_M_131 rfl d_M_forget_22 ?_
  refine lv_iconst (v := 2) hx hb d_M_forget_25 (by decide) ?_
  refine lv_iload_n hx hb d_M_forget_26 rfl (lv_at hl 1 rfl) ?_
  refine lv_imul hx hb d_M_forget_27 ?_
  refine lv_iconst (v := 0) hx hb d_M_forget_28 (by decide) ?_
  refine g_bastore (k := (tn (2 * a1))) E hH ⟨by decide, fun _ => rfl⟩ (by rcases he with rfl | rfl <;> (unfold vp_in; first | decide | (split <;> decide))) rfl d_M_forget_29 (fun H locs hH => ?_)
  refine lv_aload_n hx hb d_M_forget_30 rfl (lv_at hl 0 rfl) ?_
  refine g_get E hH (gc_M rfl) cl_M 42 (by decide) lf_M_131 rfl d_M_forget_31 ?_
  refine lv_iconst (v := 2) hx hb d_M_forget_34 (by decide) ?_
  refine lv_iload_n hx hb d_M_forget_35 rfl (lv_at hl 1 rfl) ?_
  refine lv_imul hx hb d_M_forget_36 ?_
  refine lv_iconst (v := 1) hx hb d_M_forget_37 (by decide) ?_
  refine lv_iadd hx hb d_M_forget_38 ?_
  refine lv_iconst (v := 0) hx hb d_M_forget_39 (by decide) ?_
  refine g_bastore (k := (tn ((2 * a1) + 1))) E hH ⟨by decide, fun _ => rfl⟩ (by rcases he with rfl | rfl <;> (unfold vp_in; first | decide | (split <;> decide))) rfl d_M_forget_40 (fun H locs hH => ?_)
  exact g_vret E hH (hsp.trans (by rw [sp_M_forget])) d_M_forget_41

def sp_M_isWord  (G0 : Mem) (a1 : Int32) : Int32 :=
  ((if ((G0 45 (tn a1)) &&& (127 : Int32)) = 27 then 1 else 0) : Int32)
set_option maxHeartbeats 4000000 in
set_option maxRecDepth 100000 in
theorem c_M_isWord (l : Launch) (P : gP) (G0 : Mem)  (a1 : Int32) (he : a1 = 0 ∨ a1 = 1) : gMrz l y_M_isWord b_M_isWord 2 (some .boolean) ({ frames := 0, cells := 0, slots := 0, locals := 0 }) [.ref (gad P 21), .int a1] P G0 (sp_M_isWord G0 a1) := by
  refine Met.ofW (cc := b_M_isWord) (maxL := 2) (ret := (some .boolean)) (by decide) rfl ?_
  intro p e s m args below meth c0 s₁ B hml hv
  obtain ⟨rfl, hpre⟩ := hv
  obtain ⟨E, hH⟩ := gE_of B hml hpre
  replace E : gE p s m _ meth c0 P "FramedLineModel" b_M_isWord 2 (some .boolean) := E
  have hx := E.1
  have hb := E.2.1
  have hl := lv_entry ([.ref (gad P 21), .int a1]) (n := 2) (Nat.le_of_ble_eq_true rfl)
  rw [lg_entry_eq]
  generalize (lg_sl ([.ref (gad P 21), .int a1]) ++ List.replicate (2 - (lg_sl ([.ref (gad P 21), .int a1])).length) Slot.unset).toArray = ls at hl ⊢
  replace hl : lv_has ls 2 [(0, .ref (gad P 21)), (1, .int a1)] := hl
  have hsp : sp_M_isWord G0 a1 = sp_M_isWord G0 a1 := rfl
  refine lv_aload_n hx hb d_M_isWord_0 rfl (lv_at hl 0 rfl) ?_
  refine g_get E hH (gc_M rfl) cl_M 25 (by decide) lf_M_80 rfl d_M_isWord_1 ?_
  refine lv_iload_n hx hb d_M_isWord_4 rfl (lv_at hl 1 rfl) ?_
  refine g_iaload (k := (tn a1)) (v := (G0 45 (tn a1))) E hH ⟨by decide, fun _ => rfl⟩ (by rcases he with rfl | rfl <;> (unfold vp_in; first | decide | (split <;> decide))) rfl rfl d_M_isWord_5 ?_
  refine lv_bipush (v := 127) hx hb d_M_isWord_6 (by decide) ?_
  refine lv_iand hx hb d_M_isWord_8 ?_
  refine lv_bipush (v := 27) hx hb d_M_isWord_9 (by decide) ?_
  refine jn (α := Int32) (fun z H1 locs1 => z = ((if ((G0 45 (tn a1)) &&& (127 : Int32)) = 27 then 1 else 0) : Int32) ∧ isB z ∧ gH P s G0 H1 locs1) (fun z => F0 m 19 ls (.int z :: [])) (fun z H locs h9 => ?_) (fun hJ => ?_)
  · obtain ⟨rfl, hz19, hH⟩ := h9
    exact g_rzret E hH (hsp.trans (by rw [sp_M_isWord])) hz19 d_M_isWord_19
  · refine lv_icmp_ne (tgt := 18) hx hb d_M_isWord_11 (by decide) (fun h1 => ?_) (fun h1 => ?_)
    · refine lv_iconst (v := 0) hx hb d_M_isWord_18 (by decide) ?_
      exact hJ _ _ _ ⟨by simp only [if_neg h1], isB_0, hH⟩
    · refine lv_iconst (v := 1) hx hb d_M_isWord_14 (by decide) ?_
      refine lv_goto (tgt := 19) hx hb d_M_isWord_15 (by decide) ?_
      exact hJ _ _ _ ⟨by simp only [if_pos h1], isB_1, hH⟩

def sp_M_search  (G0 : Mem) (a1 : Int32) : Mem :=
  (sp_M_forget (wr (wr G0 43 (tn a1) 0) 44 (tn a1) 0) a1)
set_option maxHeartbeats 4000000 in
set_option maxRecDepth 100000 in
theorem c_M_search (l : Launch) (P : gP) (G0 : Mem)  (a1 : Int32) (he : a1 = 0 ∨ a1 = 1) : gMv l y_M_search b_M_search 2 none ({ frames := 1, cells := 0, slots := 0, locals := 21 }) [.ref (gad P 21), .int a1] P G0 (sp_M_search G0 a1) := by
  refine Met.ofW (cc := b_M_search) (maxL := 2) (ret := none) (by decide) rfl ?_
  intro p e s m args below meth c0 s₁ B hml hv
  obtain ⟨rfl, hpre⟩ := hv
  obtain ⟨E, hH⟩ := gE_of B hml hpre
  replace E : gE p s m _ meth c0 P "FramedLineModel" b_M_search 2 none := E
  have hx := E.1
  have hb := E.2.1
  have hl := lv_entry ([.ref (gad P 21), .int a1]) (n := 2) (Nat.le_of_ble_eq_true rfl)
  rw [lg_entry_eq]
  generalize (lg_sl ([.ref (gad P 21), .int a1]) ++ List.replicate (2 - (lg_sl ([.ref (gad P 21), .int a1])).length) Slot.unset).toArray = ls at hl ⊢
  replace hl : lv_has ls 2 [(0, .ref (gad P 21)), (1, .int a1)] := hl
  have hsp : sp_M_search G0 a1 = sp_M_search G0 a1 := rfl
  refine lv_aload_n hx hb d_M_search_0 rfl (lv_at hl 0 rfl) ?_
  refine g_get E hH (gc_M rfl) cl_M 23 (by decide) lf_M_74 rfl d_M_search_1 ?_
  refine lv_iload_n hx hb d_M_search_4 rfl (lv_at hl 1 rfl) ?_
  refine lv_iconst (v := 0) hx hb d_M_search_5 (by decide) ?_
  refine g_iastore (k := (tn a1)) E hH ⟨by decide, fun _ => rfl⟩ (by rcases he with rfl | rfl <;> (unfold vp_in; first | decide | (split <;> decide))) rfl d_M_search_6 (fun H locs hH => ?_)
  refine lv_aload_n hx hb d_M_search_7 rfl (lv_at hl 0 rfl) ?_
  refine g_get E hH (gc_M rfl) cl_M 24 (by decide) lf_M_77 rfl d_M_search_8 ?_
  refine lv_iload_n hx hb d_M_search_11 rfl (lv_at hl 1 rfl) ?_
  refine lv_iconst (v := 0) hx hb d_M_search_12 (by decide) ?_
  refine g_iastore (k := (tn a1)) E hH ⟨by decide, fun _ => rfl⟩ (by rcases he with rfl | rfl <;> (unfold vp_in; first | decide | (split <;> decide))) rfl d_M_search_13 (fun H locs hH => ?_)
  refine lv_aload_n hx hb d_M_search_14 rfl (lv_at hl 0 rfl) ?_
  refine lv_iload_n hx hb d_M_search_15 rfl (lv_at hl 1 rfl) ?_
  refine g_callVv (As := [.int _]) E hH hl (c_M_forget l P _ _ he) lm_M_173 (gc_M rfl) cl_M (Nat.le_of_ble_eq_true rfl) (Nat.le_of_ble_eq_true rfl) (Nat.le_of_ble_eq_true rfl) (Nat.le_of_ble_eq_true rfl) (Nat.le_of_ble_eq_true rfl) rfl rfl rfl rfl d_M_search_16 (fun H locs hH => ?_)
  exact g_vret E hH (hsp.trans (by rw [sp_M_search])) d_M_search_19

def sp_M_turned  (G0 : Mem) (a1 : Int32) : Int32 × Mem :=
  (((if (G0 30 (tn a1)) = 0 then 1 else (-(G0 30 (tn a1)))) : Int32), (wr G0 30 (tn a1) ((if (G0 30 (tn a1)) = 0 then 1 else (-(G0 30 (tn a1)))) : Int32)))
set_option maxHeartbeats 4000000 in
set_option maxRecDepth 100000 in
theorem c_M_turned (l : Launch) (P : gP) (G0 : Mem)  (a1 : Int32) (he : a1 = 0 ∨ a1 = 1) : gMi l y_M_turned b_M_turned 2 (some .int) ({ frames := 0, cells := 0, slots := 0, locals := 0 }) [.ref (gad P 21), .int a1] P G0 (sp_M_turned G0 a1) := by
  refine Met.ofW (cc := b_M_turned) (maxL := 2) (ret := (some .int)) (by decide) rfl ?_
  intro p e s m args below meth c0 s₁ B hml hv
  obtain ⟨rfl, hpre⟩ := hv
  obtain ⟨E, hH⟩ := gE_of B hml hpre
  replace E : gE p s m _ meth c0 P "FramedLineModel" b_M_turned 2 (some .int) := E
  have hx := E.1
  have hb := E.2.1
  have hl := lv_entry ([.ref (gad P 21), .int a1]) (n := 2) (Nat.le_of_ble_eq_true rfl)
  rw [lg_entry_eq]
  generalize (lg_sl ([.ref (gad P 21), .int a1]) ++ List.replicate (2 - (lg_sl ([.ref (gad P 21), .int a1])).length) Slot.unset).toArray = ls at hl ⊢
  replace hl : lv_has ls 2 [(0, .ref (gad P 21)), (1, .int a1)] := hl
  have hsp : sp_M_turned G0 a1 = sp_M_turned G0 a1 := rfl
  refine lv_aload_n hx hb d_M_turned_0 rfl (lv_at hl 0 rfl) ?_
  refine g_get E hH (gc_M rfl) cl_M 10 (by decide) lf_M_34 rfl d_M_turned_1 ?_
  refine lv_iload_n hx hb d_M_turned_4 rfl (lv_at hl 1 rfl) ?_
  refine lv_aload_n hx hb d_M_turned_5 rfl (lv_at hl 0 rfl) ?_
  refine g_get E hH (gc_M rfl) cl_M 10 (by decide) lf_M_34 rfl d_M_turned_6 ?_
  refine lv_iload_n hx hb d_M_turned_9 rfl (lv_at hl 1 rfl) ?_
  refine g_iaload (k := (tn a1)) (v := (G0 30 (tn a1))) E hH ⟨by decide, fun _ => rfl⟩ (by rcases he with rfl | rfl <;> (unfold vp_in; first | decide | (split <;> decide))) rfl rfl d_M_turned_10 ?_
  refine jn (α := Int32) (fun z H1 locs1 => z = ((if (G0 30 (tn a1)) = 0 then 1 else (-(G0 30 (tn a1)))) : Int32) ∧ gH P s G0 H1 locs1) (fun z => F0 m 25 ls (.int z :: .int a1 :: .ref (gad P 30) :: [])) (fun z H locs h9 => ?_) (fun hJ => ?_)
  · obtain ⟨rfl, hH⟩ := h9
    refine g_iastore (k := (tn a1)) E hH ⟨by decide, fun _ => rfl⟩ (by rcases he with rfl | rfl <;> (unfold vp_in; first | decide | (split <;> decide))) rfl d_M_turned_25 (fun H locs hH => ?_)
    refine lv_aload_n hx hb d_M_turned_26 rfl (lv_at hl 0 rfl) ?_
    refine g_get E hH (gc_M rfl) cl_M 10 (by decide) lf_M_34 rfl d_M_turned_27 ?_
    refine lv_iload_n hx hb d_M_turned_30 rfl (lv_at hl 1 rfl) ?_
    refine g_iaload (k := (tn a1)) (v := ((if (G0 30 (tn a1)) = 0 then 1 else (-(G0 30 (tn a1)))) : Int32)) E hH ⟨by decide, fun _ => rfl⟩ (by rcases he with rfl | rfl <;> (unfold vp_in; first | decide | (split <;> decide))) rfl (wr_same _ _ _ _) d_M_turned_31 ?_
    exact g_iret E hH (hsp.trans (by rw [sp_M_turned])) d_M_turned_32
  · refine lv_if_ne (tgt := 18) hx hb d_M_turned_11 (by decide) (fun h1 => ?_) (fun h1 => ?_)
    · refine lv_aload_n hx hb d_M_turned_18 rfl (lv_at hl 0 rfl) ?_
      refine g_get E hH (gc_M rfl) cl_M 10 (by decide) lf_M_34 rfl d_M_turned_19 ?_
      refine lv_iload_n hx hb d_M_turned_22 rfl (lv_at hl 1 rfl) ?_
      refine g_iaload (k := (tn a1)) (v := (G0 30 (tn a1))) E hH ⟨by decide, fun _ => rfl⟩ (by rcases he with rfl | rfl <;> (unfold vp_in; first | decide | (split <;> decide))) rfl rfl d_M_turned_23 ?_
      refine lv_ineg hx hb d_M_turned_24 ?_
      exact hJ _ _ _ ⟨by simp only [if_neg h1], hH⟩
    · refine lv_iconst (v := 1) hx hb d_M_turned_14 (by decide) ?_
      refine lv_goto (tgt := 25) hx hb d_M_turned_15 (by decide) ?_
      exact hJ _ _ _ ⟨by simp only [if_pos h1], hH⟩

def sp_M_said_5 (a1 : Int32) (a2 : Int32) : Nat → Mem → Int32 → Int32 → Int32
 | 0, G0, x3, x4 => 0
  | d + 1, G0, x3, x4 =>
  (if (G0 32 (tn a1)) ≤ x4 then x3 else (sp_M_said_5 a1 a2 d G0 ((if (G0 33 (tn ((8 * a1) + x4))) = a2 then x4 else x3) : Int32) (x4 + 1)))
def sp_M_said  (G0 : Mem) (a1 : Int32) (a2 : Int32) : Int32 :=
  (sp_M_said_5 a1 a2 (tn (G0 32 (tn a1)) + 1) G0 (-1) 0)
set_option maxHeartbeats 4000000 in
set_option maxRecDepth 100000 in
theorem c_M_said (l : Launch) (P : gP) (G0 : Mem)  (a1 : Int32) (a2 : Int32) (he : a1 = 0 ∨ a1 = 1) (hm : ∃ w : Nat, w ≤ 8 ∧ G0 32 (tn a1) = nI w) : gMri l y_M_said b_M_said 5 (some .int) ({ frames := 0, cells := 0, slots := 0, locals := 0 }) [.ref (gad P 21), .int a1, .int a2] P G0 (sp_M_said G0 a1 a2) := by
  refine Met.ofW (cc := b_M_said) (maxL := 5) (ret := (some .int)) (by decide) rfl ?_
  intro p e s m args below meth c0 s₁ B hml hv
  obtain ⟨rfl, hpre⟩ := hv
  obtain ⟨E, hH⟩ := gE_of B hml hpre
  replace E : gE p s m _ meth c0 P "FramedLineModel" b_M_said 5 (some .int) := E
  have hx := E.1
  have hb := E.2.1
  have hl := lv_entry ([.ref (gad P 21), .int a1, .int a2]) (n := 5) (Nat.le_of_ble_eq_true rfl)
  rw [lg_entry_eq]
  generalize (lg_sl ([.ref (gad P 21), .int a1, .int a2]) ++ List.replicate (5 - (lg_sl ([.ref (gad P 21), .int a1, .int a2])).length) Slot.unset).toArray = ls at hl ⊢
  replace hl : lv_has ls 5 [(0, .ref (gad P 21)), (1, .int a1), (2, .int a2)] := hl
  have hsp : sp_M_said G0 a1 a2 = sp_M_said G0 a1 a2 := rfl
  refine jl (α := Nat × Array Slot × Int32 × Int32) (fun q H1 locs1 => sp_M_said G0 a1 a2 = sp_M_said_5 a1 a2 q.1 G0 q.2.2.1 q.2.2.2 ∧ (∃ j w : Nat, j ≤ w ∧ w ≤ 8 ∧ G0 32 (tn a1) = nI w ∧ q.2.2.2 = nI j ∧ q.1 = w - j + 1) ∧ lv_has q.2.1 5 [(0, .ref (gad P 21)), (1, .int a1), (2, .int a2), (3, .int q.2.2.1), (4, .int q.2.2.2)] ∧ gH P s G0 H1 locs1) (fun q => F0 m 5 q.2.1 []) (fun q => q.1) (fun q H locs h9 ih5 => ?_) (fun hC5 => ?_)
  · clear hsp hl hH ls
    obtain ⟨n, ls, x3, x4⟩ := q
    obtain ⟨hsp, hinv, hl, hH⟩ := h9
    dsimp only at hinv
    obtain ⟨d, rfl⟩ : ∃ d, n = d + 1 := by obtain ⟨j, w, -, -, -, -, h⟩ := hinv; exact ⟨n - 1, by omega⟩
    change lv_has ls 5 [(0, .ref (gad P 21)), (1, .int a1), (2, .int a2), (3, .int x3), (4, .int x4)] at hl
    dsimp only at hsp hH ⊢
    refine lv_iload hx hb d_M_said_5 (lv_at hl 4 rfl) ?_
    refine lv_aload_n hx hb d_M_said_7 rfl (lv_at hl 0 rfl) ?_
    refine g_get E hH (gc_M rfl) cl_M 12 (by decide) lf_M_41 rfl d_M_said_8 ?_
    refine lv_iload_n hx hb d_M_said_11 rfl (lv_at hl 1 rfl) ?_
    refine g_iaload (k := (tn a1)) (v := (G0 32 (tn a1))) E hH ⟨by decide, fun _ => rfl⟩ (by rcases he with rfl | rfl <;> (unfold vp_in; first | decide | (split <;> decide))) rfl rfl d_M_said_12 ?_
    refine lv_icmp_ge (tgt := 45) hx hb d_M_said_13 (by decide) (fun h1 => ?_) (fun h1 => ?_)
    · refine lv_iload_n hx hb d_M_said_45 rfl (lv_at hl 3 rfl) ?_
      exact g_riret E hH (hsp.trans (by simp only [sp_M_said_5, if_pos h1])) d_M_said_46
    · refine lv_aload_n hx hb d_M_said_16 rfl (lv_at hl 0 rfl) ?_
      refine g_get E hH (gc_M rfl) cl_M 13 (by decide) lf_M_44 rfl d_M_said_17 ?_
      refine lv_bipush (v := 8) hx hb d_M_said_20 (by decide) ?_
      refine lv_iload_n hx hb d_M_said_22 rfl (lv_at hl 1 rfl) ?_
      refine lv_imul hx hb d_M_said_23 ?_
      refine lv_iload hx hb d_M_said_24 (lv_at hl 4 rfl) ?_
      refine lv_iadd hx hb d_M_said_26 ?_
      refine g_iaload (k := (tn ((8 * a1) + x4))) (v := (G0 33 (tn ((8 * a1) + x4)))) E hH ⟨by decide, fun _ => rfl⟩ (sd_in he hinv h1) rfl rfl d_M_said_27 ?_
      refine lv_iload_n hx hb d_M_said_28 rfl (lv_at hl 2 rfl) ?_
      refine jn (α := Int32) (fun z H1 locs1 => z = ((if (G0 33 (tn ((8 * a1) + x4))) = a2 then x4 else x3) : Int32) ∧ gH P s G0 H1 locs1) (fun z => F0 m 38 ls (.int z :: [])) (fun z H locs h9 => ?_) (fun hJ => ?_)
      · obtain ⟨rfl, hH⟩ := h9
        refine lv_istore_n hx hb d_M_said_38 rfl hl (by decide) rfl (fun ls hl => ?_)
        refine lv_iinc (k := 4) (v := (x4 + 1)) hx hb d_M_said_39 hl rfl rfl (by decide) rfl (fun ls hl => ?_)
        refine lv_goto (tgt := 5) hx hb d_M_said_42 (by decide) ?_
        exact ih5 (d, _, ((if (G0 33 (tn ((8 * a1) + x4))) = a2 then x4 else x3) : Int32), (x4 + 1)) _ _ (Nat.lt_succ_self _) ⟨hsp.trans (by simp only [sp_M_said_5, if_neg h1]), (wl_back hinv h1), lv_sub hl [2, 3, 4, 1, 0] rfl, hH⟩
      · refine lv_icmp_ne (tgt := 37) hx hb d_M_said_29 (by decide) (fun h2 => ?_) (fun h2 => ?_)
        · refine lv_iload_n hx hb d_M_said_37 rfl (lv_at hl 3 rfl) ?_
          exact hJ _ _ _ ⟨by simp only [if_neg h2], hH⟩
        · refine lv_iload hx hb d_M_said_32 (lv_at hl 4 rfl) ?_
          refine lv_goto (tgt := 38) hx hb d_M_said_34 (by decide) ?_
          exact hJ _ _ _ ⟨by simp only [if_pos h2], hH⟩
  refine lv_iconst (v := (-1)) hx hb d_M_said_0 (by decide) ?_
  refine lv_istore_n hx hb d_M_said_1 rfl hl (by decide) rfl (fun ls hl => ?_)
  refine lv_iconst (v := 0) hx hb d_M_said_2 (by decide) ?_
  refine lv_istore hx hb d_M_said_3 hl (by decide) rfl (fun ls hl => ?_)
  exact hC5 ((tn (G0 32 (tn a1)) + 1), _, (-1), 0) _ _ ⟨hsp.trans (by rw [sp_M_said]), (wl_first hm), lv_sub hl [2, 3, 4, 1, 0] rfl, hH⟩
