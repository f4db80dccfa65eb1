def sp_M_symbol  (G0 : Mem) (a1 : Int32) : Int32 × Mem :=
  (((if ((if ((sp_M_isEnd G0 a1)) = 0 then 1 else 0) : Int32) ≤ 0 then (G0 37 (tn a1)) else 0) : Int32), (wr G0 21 0 ((if ((sp_M_isEnd G0 a1)) = 0 then 1 else 0) : Int32)))
set_option maxHeartbeats 4000000 in
set_option maxRecDepth 100000 in
theorem c_M_symbol (l : Launch) (P : gP) (G0 : Mem)  (a1 : Int32)  : gMi l y_M_symbol b_M_symbol 2 (some .int) ({ frames := 1, cells := 0, slots := 0, locals := 20 }) [.ref (gad P 21), .int a1] P G0 (sp_M_symbol G0 a1) := by
  refine Met.ofW (cc := b_M_symbol) (maxL := 2) (ret := (some .int)) (by decide) rfl ?_
  intro p e s m args below meth c0 s₁ B hml hv
  obtain ⟨rfl, hpre⟩ := hv
  obtain ⟨E, hH⟩ := gE_of B hml hpre
  replace E : gE p s m _ meth c0 P "FramedLineModel" b_M_symbol 2 (some .int) := E
  have hx := E.1
  have hb := E.2.1
  have hl := lv_entry ([.ref (gad P 21), .int a1]) (n := 2) (Nat.le_of_ble_eq_true rfl)
  rw [lg_entry_eq]
  generalize (lg_sl ([.ref (gad P 21), .int a1]) ++ List.replicate (2 - (lg_sl ([.ref (gad P 21), .int a1])).length) Slot.unset).toArray = ls at hl ⊢
  replace hl : lv_has ls 2 [(0, .ref (gad P 21)), (1, .int a1)] := hl
  have hsp : sp_M_symbol G0 a1 = sp_M_symbol G0 a1 := rfl
  refine lv_aload_n hx hb d_M_symbol_0 rfl (lv_at hl 0 rfl) ?_
  refine lv_iload_n hx hb d_M_symbol_1 rfl (lv_at hl 1 rfl) ?_
  refine g_callSrz (As := [.int _]) E hH hl (c_M_isEnd l P _ _) lm_M_193 (Nat.le_of_ble_eq_true rfl) (Nat.le_of_ble_eq_true rfl) (Nat.le_of_ble_eq_true rfl) (Nat.le_of_ble_eq_true rfl) (Nat.le_of_ble_eq_true rfl) rfl rfl rfl rfl d_M_symbol_2 (fun H locs hH hz2 => ?_)
  refine jn (α := Int32) (fun z H1 locs1 => z = ((if ((sp_M_isEnd G0 a1)) = 0 then 1 else 0) : Int32) ∧ isB z ∧ gH P s G0 H1 locs1) (fun z => F0 m 13 ls (.int z :: .ref (gad P 21) :: [])) (fun z H locs h9 => ?_) (fun hJ => ?_)
  · obtain ⟨rfl, hz13, hH⟩ := h9
    refine g_puti E hH (gc_M rfl) cl_M ct_M 0 (by decide) lf_M_137 rfl (by decide +kernel) (fun _ _ => rfl) (Nat.le_of_ble_eq_true rfl) d_M_symbol_13 (fun H locs hH => ?_)
    refine lv_aload_n hx hb d_M_symbol_16 rfl (lv_at hl 0 rfl) ?_
    refine g_geti (v := ((if ((sp_M_isEnd G0 a1)) = 0 then 1 else 0) : Int32)) E hH (gc_M rfl) cl_M 0 (by decide) lf_M_137 (fun _ => rfl) (wr_same _ _ _ _) d_M_symbol_17 ?_
    refine jn (α := Int32) (fun z H1 locs1 => z = ((if ((if ((sp_M_isEnd G0 a1)) = 0 then 1 else 0) : Int32) ≤ 0 then (G0 37 (tn a1)) else 0) : Int32) ∧ gH P s (wr G0 21 0 ((if ((sp_M_isEnd G0 a1)) = 0 then 1 else 0) : Int32)) H1 locs1) (fun z => F0 m 33 ls (.int z :: [])) (fun z H locs h9 => ?_) (fun hJ => ?_)
    · obtain ⟨rfl, hH⟩ := h9
      exact g_iret E hH (hsp.trans (by rw [sp_M_symbol])) d_M_symbol_33
    · refine lv_if_le (tgt := 27) hx hb d_M_symbol_20 (by decide) (fun h1 => ?_) (fun h1 => ?_)
      · refine lv_aload_n hx hb d_M_symbol_27 rfl (lv_at hl 0 rfl) ?_
        refine g_get E hH (gc_M rfl) cl_M 17 (by decide) lf_M_56 rfl d_M_symbol_28 ?_
        refine lv_iload_n hx hb d_M_symbol_31 rfl (lv_at hl 1 rfl) ?_
        refine g_iaload (k := (tn a1)) (v := (G0 37 (tn a1))) E hH ⟨by decide, fun _ => rfl⟩ (e_in (ok1 h1)) rfl (wr_ck _ _ _ _ (by decide)) d_M_symbol_32 ?_
        exact hJ _ _ _ ⟨by simp only [if_pos h1], hH⟩
      · refine lv_iconst (v := 0) hx hb d_M_symbol_23 (by decide) ?_
        refine lv_goto (tgt := 33) hx hb d_M_symbol_24 (by decide) ?_
        exact hJ _ _ _ ⟨by simp only [if_neg h1], hH⟩
  · refine lv_if_eq (tgt := 12) hx hb d_M_symbol_5 (by decide) (fun h2 => ?_) (fun h2 => ?_)
    · refine lv_iconst (v := 1) hx hb d_M_symbol_12 (by decide) ?_
      exact hJ _ _ _ ⟨by simp only [if_pos h2], isB_1, hH⟩
    · refine lv_iconst (v := 0) hx hb d_M_symbol_8 (by decide) ?_
      refine lv_goto (tgt := 13) hx hb d_M_symbol_9 (by decide) ?_
      exact hJ _ _ _ ⟨by simp only [if_neg h2], isB_0, hH⟩

def sp_M_frame  (G0 : Mem) (a1 : Int32) : Int32 × Mem :=
  (((if ((if ((sp_M_isEnd G0 a1)) = 0 then 1 else 0) : Int32) ≤ 0 then (if (G0 52 (tn a1)) = 0 then (-1) else (G0 53 (tn a1))) else 0) : Int32), (wr G0 21 0 ((if ((sp_M_isEnd G0 a1)) = 0 then 1 else 0) : Int32)))
set_option maxHeartbeats 4000000 in
set_option maxRecDepth 100000 in
theorem c_M_frame (l : Launch) (P : gP) (G0 : Mem)  (a1 : Int32)  : gMi l y_M_frame b_M_frame 2 (some .int) ({ frames := 1, cells := 0, slots := 0, locals := 20 }) [.ref (gad P 21), .int a1] P G0 (sp_M_frame G0 a1) := by
  refine Met.ofW (cc := b_M_frame) (maxL := 2) (ret := (some .int)) (by decide) rfl ?_
  intro p e s m args below meth c0 s₁ B hml hv
  obtain ⟨rfl, hpre⟩ := hv
  obtain ⟨E, hH⟩ := gE_of B hml hpre
  replace E : gE p s m _ meth c0 P "FramedLineModel" b_M_frame 2 (some .int) := E
  have hx := E.1
  have hb := E.2.1
  have hl := lv_entry ([.ref (gad P 21), .int a1]) (n := 2) (Nat.le_of_ble_eq_true rfl)
  rw [lg_entry_eq]
  generalize (lg_sl ([.ref (gad P 21), .int a1]) ++ List.replicate (2 - (lg_sl ([.ref (gad P 21), .int a1])).length) Slot.unset).toArray = ls at hl ⊢
  replace hl : lv_has ls 2 [(0, .ref (gad P 21)), (1, .int a1)] := hl
  have hsp : sp_M_frame G0 a1 = sp_M_frame G0 a1 := rfl
  refine lv_aload_n hx hb d_M_frame_0 rfl (lv_at hl 0 rfl) ?_
  refine lv_iload_n hx hb d_M_frame_1 rfl (lv_at hl 1 rfl) ?_
  refine g_callSrz (As := [.int _]) E hH hl (c_M_isEnd l P _ _) lm_M_193 (Nat.le_of_ble_eq_true rfl) (Nat.le_of_ble_eq_true rfl) (Nat.le_of_ble_eq_true rfl) (Nat.le_of_ble_eq_true rfl) (Nat.le_of_ble_eq_true rfl) rfl rfl rfl rfl d_M_frame_2 (fun H locs hH hz2 => ?_)
  refine jn (α := Int32) (fun z H1 locs1 => z = ((if ((sp_M_isEnd G0 a1)) = 0 then 1 else 0) : Int32) ∧ isB z ∧ gH P s G0 H1 locs1) (fun z => F0 m 13 ls (.int z :: .ref (gad P 21) :: [])) (fun z H locs h9 => ?_) (fun hJ => ?_)
  · obtain ⟨rfl, hz13, hH⟩ := h9
    refine g_puti E hH (gc_M rfl) cl_M ct_M 0 (by decide) lf_M_137 rfl (by decide +kernel) (fun _ _ => rfl) (Nat.le_of_ble_eq_true rfl) d_M_frame_13 (fun H locs hH => ?_)
    refine lv_aload_n hx hb d_M_frame_16 rfl (lv_at hl 0 rfl) ?_
    refine g_geti (v := ((if ((sp_M_isEnd G0 a1)) = 0 then 1 else 0) : Int32)) E hH (gc_M rfl) cl_M 0 (by decide) lf_M_137 (fun _ => rfl) (wr_same _ _ _ _) d_M_frame_17 ?_
    refine jn (α := Int32) (fun z H1 locs1 => z = ((if ((if ((sp_M_isEnd G0 a1)) = 0 then 1 else 0) : Int32) ≤ 0 then (if (G0 52 (tn a1)) = 0 then (-1) else (G0 53 (tn a1))) else 0) : Int32) ∧ gH P s (wr G0 21 0 ((if ((sp_M_isEnd G0 a1)) = 0 then 1 else 0) : Int32)) H1 locs1) (fun z => F0 m 46 ls (.int z :: [])) (fun z H locs h9 => ?_) (fun hJ => ?_)
    · obtain ⟨rfl, hH⟩ := h9
      exact g_iret E hH (hsp.trans (by rw [sp_M_frame])) d_M_frame_46
    · refine lv_if_le (tgt := 27) hx hb d_M_frame_20 (by decide) (fun h1 => ?_) (fun h1 => ?_)
      · refine lv_aload_n hx hb d_M_frame_27 rfl (lv_at hl 0 rfl) ?_
        refine g_get E hH (gc_M rfl) cl_M 32 (by decide) lf_M_101 rfl d_M_frame_28 ?_
        refine lv_iload_n hx hb d_M_frame_31 rfl (lv_at hl 1 rfl) ?_
        refine g_baload (k := (tn a1)) (v := (G0 52 (tn a1))) E hH ⟨by decide, fun _ => rfl⟩ (e_in (ok1 h1)) rfl (wr_ck _ _ _ _ (by decide)) d_M_frame_32 ?_
        refine lv_if_eq (tgt := 45) hx hb d_M_frame_33 (by decide) (fun h2 => ?_) (fun h2 => ?_)
        · refine lv_iconst (v := (-1)) hx hb d_M_frame_45 (by decide) ?_
          exact hJ _ _ _ ⟨by simp only [if_pos h1, if_pos h2], hH⟩
        · refine lv_aload_n hx hb d_M_frame_36 rfl (lv_at hl 0 rfl) ?_
          refine g_get E hH (gc_M rfl) cl_M 33 (by decide) lf_M_104 rfl d_M_frame_37 ?_
          refine lv_iload_n hx hb d_M_frame_40 rfl (lv_at hl 1 rfl) ?_
          refine g_iaload (k := (tn a1)) (v := (G0 53 (tn a1))) E hH ⟨by decide, fun _ => rfl⟩ (e_in (ok1 h1)) rfl (wr_ck _ _ _ _ (by decide)) d_M_frame_41 ?_
          refine lv_goto (tgt := 46) hx hb d_M_frame_42 (by decide) ?_
          exact hJ _ _ _ ⟨by simp only [if_pos h1, if_neg h2], hH⟩
      · refine lv_iconst (v := 0) hx hb d_M_frame_23 (by decide) ?_
        refine lv_goto (tgt := 46) hx hb d_M_frame_24 (by decide) ?_
        exact hJ _ _ _ ⟨by simp only [if_neg h1], hH⟩
  · refine lv_if_eq (tgt := 12) hx hb d_M_frame_5 (by decide) (fun h3 => ?_) (fun h3 => ?_)
    · refine lv_iconst (v := 1) hx hb d_M_frame_12 (by decide) ?_
      exact hJ _ _ _ ⟨by simp only [if_pos h3], isB_1, hH⟩
    · refine lv_iconst (v := 0) hx hb d_M_frame_8 (by decide) ?_
      refine lv_goto (tgt := 13) hx hb d_M_frame_9 (by decide) ?_
      exact hJ _ _ _ ⟨by simp only [if_neg h3], isB_0, hH⟩

def sp_M_slip  (G0 : Mem) (a1 : Int32) : Int32 × Mem :=
  (if ((if ((sp_M_isEnd G0 a1)) = 0 then 1 else 0) : Int32) ≤ 0 then (((if (G0 35 (tn a1)) = 0 then 1 else 0) : Int32), (wr (wr G0 21 0 ((if ((sp_M_isEnd G0 a1)) = 0 then 1 else 0) : Int32)) 35 (tn a1) (zb 1))) else ((0 : Int32), (wr G0 21 0 ((if ((sp_M_isEnd G0 a1)) = 0 then 1 else 0) : Int32))))
set_option maxHeartbeats 4000000 in
set_option maxRecDepth 100000 in
theorem c_M_slip (l : Launch) (P : gP) (G0 : Mem)  (a1 : Int32)  : gMz l y_M_slip b_M_slip 3 (some .boolean) ({ frames := 1, cells := 0, slots := 0, locals := 20 }) [.ref (gad P 21), .int a1] P G0 (sp_M_slip G0 a1) := by
  refine Met.ofW (cc := b_M_slip) (maxL := 3) (ret := (some .boolean)) (by decide) rfl ?_
  intro p e s m args below meth c0 s₁ B hml hv
  obtain ⟨rfl, hpre⟩ := hv
  obtain ⟨E, hH⟩ := gE_of B hml hpre
  replace E : gE p s m _ meth c0 P "FramedLineModel" b_M_slip 3 (some .boolean) := E
  have hx := E.1
  have hb := E.2.1
  have hl := lv_entry ([.ref (gad P 21), .int a1]) (n := 3) (Nat.le_of_ble_eq_true rfl)
  rw [lg_entry_eq]
  generalize (lg_sl ([.ref (gad P 21), .int a1]) ++ List.replicate (3 - (lg_sl ([.ref (gad P 21), .int a1])).length) Slot.unset).toArray = ls at hl ⊢
  replace hl : lv_has ls 3 [(0, .ref (gad P 21)), (1, .int a1)] := hl
  have hsp : sp_M_slip G0 a1 = sp_M_slip G0 a1 := rfl
  refine lv_aload_n hx hb d_M_slip_0 rfl (lv_at hl 0 rfl) ?_
  refine lv_iload_n hx hb d_M_slip_1 rfl (lv_at hl 1 rfl) ?_
  refine g_callSrz (As := [.int _]) E hH hl (c_M_isEnd l P _ _) lm_M_193 (Nat.le_of_ble_eq_true rfl) (Nat.le_of_ble_eq_true rfl) (Nat.le_of_ble_eq_true rfl) (Nat.le_of_ble_eq_true rfl) (Nat.le_of_ble_eq_true rfl) rfl rfl rfl rfl d_M_slip_2 (fun H locs hH hz2 => ?_)
  refine jn (α := Int32) (fun z H1 locs1 => z = ((if ((sp_M_isEnd G0 a1)) = 0 then 1 else 0) : Int32) ∧ isB z ∧ gH P s G0 H1 locs1) (fun z => F0 m 13 ls (.int z :: .ref (gad P 21) :: [])) (fun z H locs h9 => ?_) (fun hJ => ?_)
  · obtain ⟨rfl, hz13, hH⟩ := h9
    refine g_puti E hH (gc_M rfl) cl_M ct_M 0 (by decide) lf_M_137 rfl (by decide +kernel) (fun _ _ => rfl) (Nat.le_of_ble_eq_true rfl) d_M_slip_13 (fun H locs hH => ?_)
    refine lv_aload_n hx hb d_M_slip_16 rfl (lv_at hl 0 rfl) ?_
    refine g_geti (v := ((if ((sp_M_isEnd G0 a1)) = 0 then 1 else 0) : Int32)) E hH (gc_M rfl) cl_M 0 (by decide) lf_M_137 (fun _ => rfl) (wr_same _ _ _ _) d_M_slip_17 ?_
    refine lv_if_le (tgt := 25) hx hb d_M_slip_20 (by decide) (fun h1 => ?_) (fun h1 => ?_)
    · refine lv_aload_n hx hb d_M_slip_25 rfl (lv_at hl 0 rfl) ?_
      refine g_get E hH (gc_M rfl) cl_M 15 (by decide) lf_M_50 rfl d_M_slip_26 ?_
      refine lv_iload_n hx hb d_M_slip_29 rfl (lv_at hl 1 rfl) ?_
      refine g_baload (k := (tn a1)) (v := (G0 35 (tn a1))) E hH ⟨by decide, fun _ => rfl⟩ (e_in (ok1 h1)) rfl (wr_ck _ _ _ _ (by decide)) d_M_slip_30 ?_
      refine jn (α := Int32) (fun z H1 locs1 => z = ((if (G0 35 (tn a1)) = 0 then 1 else 0) : Int32) ∧ isB z ∧ gH P s (wr G0 21 0 ((if ((sp_M_isEnd G0 a1)) = 0 then 1 else 0) : Int32)) H1 locs1) (fun z => F0 m 39 ls (.int z :: [])) (fun z H locs h9 => ?_) (fun hJ => ?_)
      · obtain ⟨rfl, hz39, hH⟩ := h9
        refine lv_istore_n hx hb d_M_slip_39 rfl hl (by decide) rfl (fun ls hl => ?_)
        refine lv_aload_n hx hb d_M_slip_40 rfl (lv_at hl 1 rfl) ?_
        refine g_get E hH (gc_M rfl) cl_M 15 (by decide) lf_M_50 rfl d_M_slip_41 ?_
        refine lv_iload_n hx hb d_M_slip_44 rfl (lv_at hl 2 rfl) ?_
        refine lv_iconst (v := 1) hx hb d_M_slip_45 (by decide) ?_
        refine g_bastore (k := (tn a1)) E hH ⟨by decide, fun _ => rfl⟩ (e_in (ok1 h1)) rfl d_M_slip_46 (fun H locs hH => ?_)
        refine lv_iload_n hx hb d_M_slip_47 rfl (lv_at hl 0 rfl) ?_
        exact g_zret E hH (hsp.trans (by simp only [sp_M_slip, if_pos h1])) hz39 d_M_slip_48
      · refine lv_if_ne (tgt := 38) hx hb d_M_slip_31 (by decide) (fun h2 => ?_) (fun h2 => ?_)
        · refine lv_iconst (v := 0) hx hb d_M_slip_38 (by decide) ?_
          exact hJ _ _ _ ⟨by simp only [if_neg h2], isB_0, hH⟩
        · refine lv_iconst (v := 1) hx hb d_M_slip_34 (by decide) ?_
          refine lv_goto (tgt := 39) hx hb d_M_slip_35 (by decide) ?_
          exact hJ _ _ _ ⟨by simp only [if_pos h2], isB_1, hH⟩
    · refine lv_iconst (v := 0) hx hb d_M_slip_23 (by decide) ?_
      exact g_zret E hH (hsp.trans (by simp only [sp_M_slip, if_neg h1])) isB_0 d_M_slip_24
  · refine lv_if_eq (tgt := 12) hx hb d_M_slip_5 (by decide) (fun h3 => ?_) (fun h3 => ?_)
    · refine lv_iconst (v := 1) hx hb d_M_slip_12 (by decide) ?_
      exact hJ _ _ _ ⟨by simp only [if_pos h3], isB_1, hH⟩
    · refine lv_iconst (v := 0) hx hb d_M_slip_8 (by decide) ?_
      refine lv_goto (tgt := 13) hx hb d_M_slip_9 (by decide) ?_
      exact hJ _ _ _ ⟨by simp only [if_neg h3], isB_0, hH⟩

def sp_M_aligned  (G0 : Mem) (a1 : Int32) : Int32 × Mem :=
  (((if ((if ((sp_M_isEnd G0 a1)) = 0 then 1 else 0) : Int32) = 0 then (if (G0 43 (tn a1)) = 2 then 1 else 0) else 0) : Int32), (wr G0 21 0 ((if ((sp_M_isEnd G0 a1)) = 0 then 1 else 0) : Int32)))
set_option maxHeartbeats 4000000 in
set_option maxRecDepth 100000 in
theorem c_M_aligned (l : Launch) (P : gP) (G0 : Mem)  (a1 : Int32)  : gMz l y_M_aligned b_M_aligned 2 (some .boolean) ({ frames := 1, cells := 0, slots := 0, locals := 20 }) [.ref (gad P 21), .int a1] P G0 (sp_M_aligned G0 a1) := by
  refine Met.ofW (cc := b_M_aligned) (maxL := 2) (ret := (some .boolean)) (by decide) rfl ?_
  intro p e s m args below meth c0 s₁ B hml hv
  obtain ⟨rfl, hpre⟩ := hv
  obtain ⟨E, hH⟩ := gE_of B hml hpre
  replace E : gE p s m _ meth c0 P "FramedLineModel" b_M_aligned 2 (some .boolean) := E
  have hx := E.1
  have hb := E.2.1
  have hl := lv_entry ([.ref (gad P 21), .int a1]) (n := 2) (Nat.le_of_ble_eq_true rfl)
  rw [lg_entry_eq]
  generalize (lg_sl ([.ref (gad P 21), .int a1]) ++ List.replicate (2 - (lg_sl ([.ref (gad P 21), .int a1])).length) Slot.unset).toArray = ls at hl ⊢
  replace hl : lv_has ls 2 [(0, .ref (gad P 21)), (1, .int a1)] := hl
  have hsp : sp_M_aligned G0 a1 = sp_M_aligned G0 a1 := rfl
  refine lv_aload_n hx hb d_M_aligned_0 rfl (lv_at hl 0 rfl) ?_
  refine lv_iload_n hx hb d_M_aligned_1 rfl (lv_at hl 1 rfl) ?_
  refine g_callSrz (As := [.int _]) E hH hl (c_M_isEnd l P _ _) lm_M_193 (Nat.le_of_ble_eq_true rfl) (Nat.le_of_ble_eq_true rfl) (Nat.le_of_ble_eq_true rfl) (Nat.le_of_ble_eq_true rfl) (Nat.le_of_ble_eq_true rfl) rfl rfl rfl rfl d_M_aligned_2 (fun H locs hH hz2 => ?_)
  refine jn (α := Int32) (fun z H1 locs1 => z = ((if ((sp_M_isEnd G0 a1)) = 0 then 1 else 0) : Int32) ∧ isB z ∧ gH P s G0 H1 locs1) (fun z => F0 m 13 ls (.int z :: .ref (gad P 21) :: [])) (fun z H locs h9 => ?_) (fun hJ => ?_)
  · obtain ⟨rfl, hz13, hH⟩ := h9
    refine g_puti E hH (gc_M rfl) cl_M ct_M 0 (by decide) lf_M_137 rfl (by decide +kernel) (fun _ _ => rfl) (Nat.le_of_ble_eq_true rfl) d_M_aligned_13 (fun H locs hH => ?_)
    refine lv_aload_n hx hb d_M_aligned_16 rfl (lv_at hl 0 rfl) ?_
    refine g_geti (v := ((if ((sp_M_isEnd G0 a1)) = 0 then 1 else 0) : Int32)) E hH (gc_M rfl) cl_M 0 (by decide) lf_M_137 (fun _ => rfl) (wr_same _ _ _ _) d_M_aligned_17 ?_
    refine jn (α := Int32) (fun z H1 locs1 => z = ((if ((if ((sp_M_isEnd G0 a1)) = 0 then 1 else 0) : Int32) = 0 then (if (G0 43 (tn a1)) = 2 then 1 else 0) else 0) : Int32) ∧ isB z ∧ gH P s (wr G0 21 0 ((if ((sp_M_isEnd G0 a1)) = 0 then 1 else 0) : Int32)) H1 locs1) (fun z => F0 m 38 ls (.int z :: [])) (fun z H locs h9 => ?_) (fun hJ => ?_)
    · obtain ⟨rfl, hz38, hH⟩ := h9
      exact g_zret E hH (hsp.trans (by rw [sp_M_aligned])) hz38 d_M_aligned_38
    · refine lv_if_ne (tgt := 37) hx hb d_M_aligned_20 (by decide) (fun h1 => ?_) (fun h1 => ?_)
      · refine lv_iconst (v := 0) hx hb d_M_aligned_37 (by decide) ?_
        exact hJ _ _ _ ⟨by simp only [if_neg h1], isB_0, hH⟩
      · refine lv_aload_n hx hb d_M_aligned_23 rfl (lv_at hl 0 rfl) ?_
        refine g_get E hH (gc_M rfl) cl_M 23 (by decide) lf_M_74 rfl d_M_aligned_24 ?_
        refine lv_iload_n hx hb d_M_aligned_27 rfl (lv_at hl 1 rfl) ?_
        refine g_iaload (k := (tn a1)) (v := (G0 43 (tn a1))) E hH ⟨by decide, fun _ => rfl⟩ (e_in (ok1e h1)) rfl (wr_ck _ _ _ _ (by decide)) d_M_aligned_28 ?_
        refine lv_iconst (v := 2) hx hb d_M_aligned_29 (by decide) ?_
        refine lv_icmp_ne (tgt := 37) hx hb d_M_aligned_30 (by decide) (fun h2 => ?_) (fun h2 => ?_)
        · refine lv_iconst (v := 0) hx hb d_M_aligned_37 (by decide) ?_
          exact hJ _ _ _ ⟨by simp only [if_pos h1, if_neg h2], isB_0, hH⟩
        · refine lv_iconst (v := 1) hx hb d_M_aligned_33 (by decide) ?_
          refine lv_goto (tgt := 38) hx hb d_M_aligned_34 (by decide) ?_
          exact hJ _ _ _ ⟨by simp only [if_pos h1, if_pos h2], isB_1, hH⟩
  · refine lv_if_eq (tgt := 12) hx hb d_M_aligned_5 (by decide) (fun h3 => ?_) (fun h3 => ?_)
    · refine lv_iconst (v := 1) hx hb d_M_aligned_12 (by decide) ?_
      exact hJ _ _ _ ⟨by simp only [if_pos h3], isB_1, hH⟩
    · refine lv_iconst (v := 0) hx hb d_M_aligned_8 (by decide) ?_
      refine lv_goto (tgt := 13) hx hb d_M_aligned_9 (by decide) ?_
      exact hJ _ _ _ ⟨by simp only [if_neg h3], isB_0, hH⟩

def sp_M_alarm  (G0 : Mem) (a1 : Int32) : Int32 × Mem :=
  (((if ((if ((sp_M_isEnd G0 a1)) = 0 then 1 else 0) : Int32) = 0 then (if (G0 51 (tn a1)) = 0 then 0 else 1) else 0) : Int32), (wr G0 21 0 ((if ((sp_M_isEnd G0 a1)) = 0 then 1 else 0) : Int32)))
set_option maxHeartbeats 4000000 in
set_option maxRecDepth 100000 in
theorem c_M_alarm (l : Launch) (P : gP) (G0 : Mem)  (a1 : Int32)  : gMz l y_M_alarm b_M_alarm 2 (some .boolean) ({ frames := 1, cells := 0, slots := 0, locals := 20 }) [.ref (gad P 21), .int a1] P G0 (sp_M_alarm G0 a1) := by
  refine Met.ofW (cc := b_M_alarm) (maxL := 2) (ret := (some .boolean)) (by decide) rfl ?_
  intro p e s m args below meth c0 s₁ B hml hv
  obtain ⟨rfl, hpre⟩ := hv
  obtain ⟨E, hH⟩ := gE_of B hml hpre
  replace E : gE p s m _ meth c0 P "FramedLineModel" b_M_alarm 2 (some .boolean) := E
  have hx := E.1
  have hb := E.2.1
  have hl := lv_entry ([.ref (gad P 21), .int a1]) (n := 2) (Nat.le_of_ble_eq_true rfl)
  rw [lg_entry_eq]
  generalize (lg_sl ([.ref (gad P 21), .int a1]) ++ List.replicate (2 - (lg_sl ([.ref (gad P 21), .int a1])).length) Slot.unset).toArray = ls at hl ⊢
  replace hl : lv_has ls 2 [(0, .ref (gad P 21)), (1, .int a1)] := hl
  have hsp : sp_M_alarm G0 a1 = sp_M_alarm G0 a1 := rfl
  refine lv_aload_n hx hb d_M_alarm_0 rfl (lv_at hl 0 rfl) ?_
  refine lv_iload_n hx hb d_M_alarm_1 rfl (lv_at hl 1 rfl) ?_
  refine g_callSrz (As := [.int _]) E hH hl (c_M_isEnd l P _ _) lm_M_193 (Nat.le_of_ble_eq_true rfl) (Nat.le_of_ble_eq_true rfl) (Nat.le_of_ble_eq_true rfl) (Nat.le_of_ble_eq_true rfl) (Nat.le_of_ble_eq_true rfl) rfl rfl rfl rfl d_M_alarm_2 (fun H locs hH hz2 => ?_)
  refine jn (α := Int32) (fun z H1 locs1 => z = ((if ((sp_M_isEnd G0 a1)) = 0 then 1 else 0) : Int32) ∧ isB z ∧ gH P s G0 H1 locs1) (fun z => F0 m 13 ls (.int z :: .ref (gad P 21) :: [])) (fun z H locs h9 => ?_) (fun hJ => ?_)
  · obtain ⟨rfl, hz13, hH⟩ := h9
    refine g_puti E hH (gc_M rfl) cl_M ct_M 0 (by decide) lf_M_137 rfl (by decide +kernel) (fun _ _ => rfl) (Nat.le_of_ble_eq_true rfl) d_M_alarm_13 (fun H locs hH => ?_)
    refine lv_aload_n hx hb d_M_alarm_16 rfl (lv_at hl 0 rfl) ?_
    refine g_geti (v := ((if ((sp_M_isEnd G0 a1)) = 0 then 1 else 0) : Int32)) E hH (gc_M rfl) cl_M 0 (by decide) lf_M_137 (fun _ => rfl) (wr_same _ _ _ _) d_M_alarm_17 ?_
    refine jn (α := Int32) (fun z H1 locs1 => z = ((if ((if ((sp_M_isEnd G0 a1)) = 0 then 1 else 0) : Int32) = 0 then (if (G0 51 (tn a1)) = 0 then 0 else 1) else 0) : Int32) ∧ isB z ∧ gH P s (wr G0 21 0 ((if ((sp_M_isEnd G0 a1)) = 0 then 1 else 0) : Int32)) H1 locs1) (fun z => F0 m 37 ls (.int z :: [])) (fun z H locs h9 => ?_) (fun hJ => ?_)
    · obtain ⟨rfl, hz37, hH⟩ := h9
      exact g_zret E hH (hsp.trans (by rw [sp_M_alarm])) hz37 d_M_alarm_37
    · refine lv_if_ne (tgt := 36) hx hb d_M_alarm_20 (by decide) (fun h1 => ?_) (fun h1 => ?_)
      · refine lv_iconst (v := 0) hx hb d_M_alarm_36 (by decide) ?_
        exact hJ _ _ _ ⟨by simp only [if_neg h1], isB_0, hH⟩
      · refine lv_aload_n hx hb d_M_alarm_23 rfl (lv_at hl 0 rfl) ?_
        refine g_get E hH (gc_M rfl) cl_M 31 (by decide) lf_M_98 rfl d_M_alarm_24 ?_
        refine lv_iload_n hx hb d_M_alarm_27 rfl (lv_at hl 1 rfl) ?_
        refine g_baload (k := (tn a1)) (v := (G0 51 (tn a1))) E hH ⟨by decide, fun _ => rfl⟩ (e_in (ok1e h1)) rfl (wr_ck _ _ _ _ (by decide)) d_M_alarm_28 ?_
        refine lv_if_eq (tgt := 36) hx hb d_M_alarm_29 (by decide) (fun h2 => ?_) (fun h2 => ?_)
        · refine lv_iconst (v := 0) hx hb d_M_alarm_36 (by decide) ?_
          exact hJ _ _ _ ⟨by simp only [if_pos h1, if_pos h2], isB_0, hH⟩
        · refine lv_iconst (v := 1) hx hb d_M_alarm_32 (by decide) ?_
          refine lv_goto (tgt := 37) hx hb d_M_alarm_33 (by decide) ?_
          exact hJ _ _ _ ⟨by simp only [if_pos h1, if_neg h2], isB_1, hH⟩
  · refine lv_if_eq (tgt := 12) hx hb d_M_alarm_5 (by decide) (fun h3 => ?_) (fun h3 => ?_)
    · refine lv_iconst (v := 1) hx hb d_M_alarm_12 (by decide) ?_
      exact hJ _ _ _ ⟨by simp only [if_pos h3], isB_1, hH⟩
    · refine lv_iconst (v := 0) hx hb d_M_alarm_8 (by decide) ?_
      refine lv_goto (tgt := 13) hx hb d_M_alarm_9 (by decide) ?_
      exact hJ _ _ _ ⟨by simp only [if_neg h3], isB_0, hH⟩

def sp_M_slot  (G0 : Mem) (a1 : Int32) (a2 : Int32) : Int32 × Mem :=
  (((if ((if ((sp_M_isEnd G0 a1)) = 0 then 1 else (if ((sp_M_within G0 a2 0 3)) = 0 then 1 else 0)) : Int32) ≤ 0 then (if (G0 49 (tn a1)) = 0 then (-1) else (((G0 50 (tn a1)) >>> ((24 - (8 * a2)) &&& 31)) &&& (255 : Int32))) else 0) : Int32), (wr G0 21 0 ((if ((sp_M_isEnd G0 a1)) = 0 then 1 else (if ((sp_M_within G0 a2 0 3)) = 0 then 1 else 0)) : Int32)))
set_option maxHeartbeats 4000000 in
set_option maxRecDepth 100000 in
theorem c_M_slot (l : Launch) (P : gP) (G0 : Mem)  (a1 : Int32) (a2 : Int32)  : gMi l y_M_slot b_M_slot 3 (some .int) ({ frames := 1, cells := 0, slots := 0, locals := 22 }) [.ref (gad P 21), .int a1, .int a2] P G0 (sp_M_slot G0 a1 a2) := by
  refine Met.ofW (cc := b_M_slot) (maxL := 3) (ret := (some .int)) (by decide) rfl ?_
  intro p e s m args below meth c0 s₁ B hml hv
  obtain ⟨rfl, hpre⟩ := hv
  obtain ⟨E, hH⟩ := gE_of B hml hpre
  replace E : gE p s m _ meth c0 P "FramedLineModel" b_M_slot 3 (some .int) := E
  have hx := E.1
  have hb := E.2.1
  have hl := lv_entry ([.ref (gad P 21), .int a1, .int a2]) (n := 3) (Nat.le_of_ble_eq_true rfl)
  rw [lg_entry_eq]
  generalize (lg_sl ([.ref (gad P 21), .int a1, .int a2]) ++ List.replicate (3 - (lg_sl ([.ref (gad P 21), .int a1, .int a2])).length) Slot.unset).toArray = ls at hl ⊢
  replace hl : lv_has ls 3 [(0, .ref (gad P 21)), (1, .int a1), (2, .int a2)] := hl
  have hsp : sp_M_slot G0 a1 a2 = sp_M_slot G0 a1 a2 := rfl
  refine lv_aload_n hx hb d_M_slot_0 rfl (lv_at hl 0 rfl) ?_
  refine lv_iload_n hx hb d_M_slot_1 rfl (lv_at hl 1 rfl) ?_
  refine g_callSrz (As := [.int _]) E hH hl (c_M_isEnd l P _ _) lm_M_193 (Nat.le_of_ble_eq_true rfl) (Nat.le_of_ble_eq_true rfl) (Nat.le_of_ble_eq_true rfl) (Nat.le_of_ble_eq_true rfl) (Nat.le_of_ble_eq_true rfl) rfl rfl rfl rfl d_M_slot_2 (fun H locs hH hz2 => ?_)
  refine jn (α := Int32) (fun z H1 locs1 => z = ((if ((sp_M_isEnd G0 a1)) = 0 then 1 else (if ((sp_M_within G0 a2 0 3)) = 0 then 1 else 0)) : Int32) ∧ isB z ∧ gH P s G0 H1 locs1) (fun z => F0 m 22 ls (.int z :: .ref (gad P 21) :: [])) (fun z H locs h9 => ?_) (fun hJ => ?_)
  · obtain ⟨rfl, hz22, hH⟩ := h9
    refine g_puti E hH (gc_M rfl) cl_M ct_M 0 (by decide) lf_M_137 rfl (by decide +kernel) (fun _ _ => rfl) (Nat.le_of_ble_eq_true rfl) d_M_slot_22 (fun H locs hH => ?_)
    refine lv_aload_n hx hb d_M_slot_25 rfl (lv_at hl 0 rfl) ?_
    refine g_geti (v := ((if ((sp_M_isEnd G0 a1)) = 0 then 1 else (if ((sp_M_within G0 a2 0 3)) = 0 then 1 else 0)) : Int32)) E hH (gc_M rfl) cl_M 0 (by decide) lf_M_137 (fun _ => rfl) (wr_same _ _ _ _) d_M_slot_26 ?_
    refine jn (α := Int32) (fun z H1 locs1 => z = ((if ((if ((sp_M_isEnd G0 a1)) = 0 then 1 else (if ((sp_M_within G0 a2 0 3)) = 0 then 1 else 0)) : Int32) ≤ 0 then (if (G0 49 (tn a1)) = 0 then (-1) else (((G0 50 (tn a1)) >>> ((24 - (8 * a2)) &&& 31)) &&& (255 : Int32))) else 0) : Int32) ∧ gH P s (wr G0 21 0 ((if ((sp_M_isEnd G0 a1)) = 0 then 1 else (if ((sp_M_within G0 a2 0 3)) = 0 then 1 else 0)) : Int32)) H1 locs1) (fun z => F0 m 67 ls (.int z :: [])) (fun z H locs h9 => ?_) (fun hJ => ?_)
    · obtain ⟨rfl, hH⟩ := h9
      exact g_iret E hH (hsp.trans (by rw [sp_M_slot])) d_M_slot_67
    · refine lv_if_le (tgt := 36) hx hb d_M_slot_29 (by decide) (fun h1 => ?_) (fun h1 => ?_)
      · refine lv_aload_n hx hb d_M_slot_36 rfl (lv_at hl 0 rfl) ?_
        refine g_get E hH (gc_M rfl) cl_M 29 (by decide) lf_M_92 rfl d_M_slot_37 ?_
        refine lv_iload_n hx hb d_M_slot_40 rfl (lv_at hl 1 rfl) ?_
        refine g_baload (k := (tn a1)) (v := (G0 49 (tn a1))) E hH ⟨by decide, fun _ => rfl⟩ (e_in (ok1 h1)) rfl (wr_ck _ _ _ _ (by decide)) d_M_slot_41 ?_
        refine lv_if_eq (tgt := 66) hx hb d_M_slot_42 (by decide) (fun h2 => ?_) (fun h2 => ?_)
        · refine lv_iconst (v := (-1)) hx hb d_M_slot_66 (by decide) ?_
          exact hJ _ _ _ ⟨by simp only [if_pos h1, if_pos h2], hH⟩
        · refine lv_aload_n hx hb d_M_slot_45 rfl (lv_at hl 0 rfl) ?_
          refine g_get E hH (gc_M rfl) cl_M 30 (by decide) lf_M_95 rfl d_M_slot_46 ?_
          refine lv_iload_n hx hb d_M_slot_49 rfl (lv_at hl 1 rfl) ?_
          refine g_iaload (k := (tn a1)) (v := (G0 50 (tn a1))) E hH ⟨by decide, fun _ => rfl⟩ (e_in (ok1 h1)) rfl (wr_ck _ _ _ _ (by decide)) d_M_slot_50 ?_
          refine lv_bipush (v := 24) hx hb d_M_slot_51 (by decide) ?_
          refine lv_bipush (v := 8) hx hb d_M_slot_53 (by decide) ?_
          refine lv_iload_n hx hb d_M_slot_55 rfl (lv_at hl 2 rfl) ?_
          refine lv_imul hx hb d_M_slot_56 ?_
          refine lv_isub hx hb d_M_slot_57 ?_
          refine lv_ishr hx hb d_M_slot_58 ?_
          refine lv_sipush (v := 255) hx hb d_M_slot_59 (by decide) ?_
          refine lv_iand hx hb d_M_slot_62 ?_
          refine lv_goto (tgt := 67) hx hb d_M_slot_63 (by decide) ?_
          exact hJ _ _ _ ⟨by simp only [if_pos h1, if_neg h2], hH⟩
      · refine lv_iconst (v := 0) hx hb d_M_slot_32 (by decide) ?_
        refine lv_goto (tgt := 67) hx hb d_M_slot_33 (by decide) ?_
        exact hJ _ _ _ ⟨by simp only [if_neg h1], hH⟩
  · refine lv_if_eq (tgt := 21) hx hb d_M_slot_5 (by decide) (fun h3 => ?_) (fun h3 => ?_)
    · refine lv_iconst (v := 1) hx hb d_M_slot_21 (by decide) ?_
      exact hJ _ _ _ ⟨by simp only [if_pos h3], isB_1, hH⟩
    · refine lv_iload_n hx hb d_M_slot_8 rfl (lv_at hl 2 rfl) ?_
      refine lv_iconst (v := 0) hx hb d_M_slot_9 (by decide) ?_
      refine lv_iconst (v := 3) hx hb d_M_slot_10 (by decide) ?_
      refine g_callSrz (As := [.int _, .int _, .int _]) E hH hl (c_M_within l P _ _ _ _) lm_M_196 (Nat.le_of_ble_eq_true rfl) (Nat.le_of_ble_eq_true rfl) (Nat.le_of_ble_eq_true rfl) (Nat.le_of_ble_eq_true rfl) (Nat.le_of_ble_eq_true rfl) rfl rfl rfl rfl d_M_slot_11 (fun H locs hH hz11 => ?_)
      refine lv_if_eq (tgt := 21) hx hb d_M_slot_14 (by decide) (fun h4 => ?_) (fun h4 => ?_)
      · refine lv_iconst (v := 1) hx hb d_M_slot_21 (by decide) ?_
        exact hJ _ _ _ ⟨by simp only [if_neg h3, if_pos h4], isB_1, hH⟩
      · refine lv_iconst (v := 0) hx hb d_M_slot_17 (by decide) ?_
        refine lv_goto (tgt := 22) hx hb d_M_slot_18 (by decide) ?_
        exact hJ _ _ _ ⟨by simp only [if_neg h3, if_neg h4], isB_0, hH⟩

def sp_M_count  (G0 : Mem) (a1 : Int32) (a2 : Int32) : Int32 × Mem :=
  (((if ((if ((sp_M_isEnd G0 a1)) = 0 then 1 else (if ((sp_M_within G0 a2 0 4)) = 0 then 1 else 0)) : Int32) ≤ 0 then (G0 63 (tn ((5 * a1) + a2))) else 0) : Int32), (wr G0 21 0 ((if ((sp_M_isEnd G0 a1)) = 0 then 1 else (if ((sp_M_within G0 a2 0 4)) = 0 then 1 else 0)) : Int32)))
set_option maxHeartbeats 4000000 in
set_option maxRecDepth 100000 in
theorem c_M_count (l : Launch) (P : gP) (G0 : Mem)  (a1 : Int32) (a2 : Int32)  : gMi l y_M_count b_M_count 3 (some .int) ({ frames := 1, cells := 0, slots := 0, locals := 22 }) [.ref (gad P 21), .int a1, .int a2] P G0 (sp_M_count G0 a1 a2) := by
  refine Met.ofW (cc := b_M_count) (maxL := 3) (ret := (some .int)) (by decide) rfl ?_
  intro p e s m args below meth c0 s₁ B hml hv
  obtain ⟨rfl, hpre⟩ := hv
  obtain ⟨E, hH⟩ := gE_of B hml hpre
  replace E : gE p s m _ meth c0 P "FramedLineModel" b_M_count 3 (some .int) := E
  have hx := E.1
  have hb := E.2.1
  have hl := lv_entry ([.ref (gad P 21), .int a1, .int a2]) (n := 3) (Nat.le_of_ble_eq_true rfl)
  rw [lg_entry_eq]
  generalize (lg_sl ([.ref (gad P 21), .int a1, .int a2]) ++ List.replicate (3 - (lg_sl ([.ref (gad P 21), .int a1, .int a2])).length) Slot.unset).toArray = ls at hl ⊢
  replace hl : lv_has ls 3 [(0, .ref (gad P 21)), (1, .int a1), (2, .int a2)] := hl
  have hsp : sp_M_count G0 a1 a2 = sp_M_count G0 a1 a2 := rfl
  refine lv_aload_n hx hb d_M_count_0 rfl (lv_at hl 0 rfl) ?_
  refine lv_iload_n hx hb d_M_count_1 rfl (lv_at hl 1 rfl) ?_
  refine g_callSrz (As := [.int _]) E hH hl (c_M_isEnd l P _ _) lm_M_193 (Nat.le_of_ble_eq_true rfl) (Nat.le_of_ble_eq_true rfl) (Nat.le_of_ble_eq_true rfl) (Nat.le_of_ble_eq_true rfl) (Nat.le_of_ble_eq_true rfl) rfl rfl rfl rfl d_M_count_2 (fun H locs hH hz2 => ?_)
  refine jn (α := Int32) (fun z H1 locs1 => z = ((if ((sp_M_isEnd G0 a1)) = 0 then 1 else (if ((sp_M_within G0 a2 0 4)) = 0 then 1 else 0)) : Int32) ∧ isB z ∧ gH P s G0 H1 locs1) (fun z => F0 m 22 ls (.int z :: .ref (gad P 21) :: [])) (fun z H locs h9 => ?_) (fun hJ => ?_)
  · obtain ⟨rfl, hz22, hH⟩ := h9
    refine g_puti E hH (gc_M rfl) cl_M ct_M 0 (by decide) lf_M_137 rfl (by decide +kernel) (fun _ _ => rfl) (Nat.le_of_ble_eq_true rfl) d_M_count_22 (fun H locs hH => ?_)
    refine lv_aload_n hx hb d_M_count_25 rfl (lv_at hl 0 rfl) ?_
    refine g_geti (v := ((if ((sp_M_isEnd G0 a1)) = 0 then 1 else (if ((sp_M_within G0 a2 0 4)) = 0 then 1 else 0)) : Int32)) E hH (gc_M rfl) cl_M 0 (by decide) lf_M_137 (fun _ => rfl) (wr_same _ _ _ _) d_M_count_26 ?_
    refine jn (α := Int32) (fun z H1 locs1 => z = ((if ((if ((sp_M_isEnd G0 a1)) = 0 then 1 else (if ((sp_M_within G0 a2 0 4)) = 0 then 1 else 0)) : Int32) ≤ 0 then (G0 63 (tn ((5 * a1) + a2))) else 0) : Int32) ∧ gH P s (wr G0 21 0 ((if ((sp_M_isEnd G0 a1)) = 0 then 1 else (if ((sp_M_within G0 a2 0 4)) = 0 then 1 else 0)) : Int32)) H1 locs1) (fun z => F0 m 46 ls (.int z :: [])) (fun z H locs h9 => ?_) (fun hJ => ?_)
    · obtain ⟨rfl, hH⟩ := h9
      exact g_iret E hH (hsp.trans (by rw [sp_M_count])) d_M_count_46
    · refine lv_if_le (tgt := 36) hx hb d_M_count_29 (by decide) (fun h1 => ?_) (fun h1 => ?_)
      · refine lv_aload_n hx hb d_M_count_36 rfl (lv_at hl 0 rfl) ?_
        refine g_get E hH (gc_M rfl) cl_M 43 (by decide) lf_M_134 rfl d_M_count_37 ?_
        refine lv_iconst (v := 5) hx hb d_M_count_40 (by decide) ?_
        refine lv_iload_n hx hb d_M_count_41 rfl (lv_at hl 1 rfl) ?_
        refine lv_imul hx hb d_M_count_42 ?_
        refine lv_iload_n hx hb d_M_count_43 rfl (lv_at hl 2 rfl) ?_
        refine lv_iadd hx hb d_M_count_44 ?_
        refine g_iaload (k := (tn ((5 * a1) + a2))) (v := (G0 63 (tn ((5 * a1) + a2)))) E hH ⟨by decide, fun _ => rfl⟩ (count_in (ok1 h1) (ok2 h1)) rfl (wr_ck _ _ _ _ (by decide)) d_M_count_45 ?_
        exact hJ _ _ _ ⟨by simp only [if_pos h1], hH⟩
      · refine lv_iconst (v := 0) hx hb d_M_count_32 (by decide) ?_
        refine lv_goto (tgt := 46) hx hb d_M_count_33 (by decide) ?_
        exact hJ _ _ _ ⟨by simp only [if_neg h1], hH⟩
  · refine lv_if_eq (tgt := 21) hx hb d_M_count_5 (by decide) (fun h2 => ?_) (fun h2 => ?_)
    · refine lv_iconst (v := 1) hx hb d_M_count_21 (by decide) ?_
      exact hJ _ _ _ ⟨by simp only [if_pos h2], isB_1, hH⟩
    · refine lv_iload_n hx hb d_M_count_8 rfl (lv_at hl 2 rfl) ?_
      refine lv_iconst (v := 0) hx hb d_M_count_9 (by decide) ?_
      refine lv_iconst (v := 4) hx hb d_M_count_10 (by decide) ?_
      refine g_callSrz (As := [.int _, .int _, .int _]) E hH hl (c_M_within l P _ _ _ _) lm_M_196 (Nat.le_of_ble_eq_true rfl) (Nat.le_of_ble_eq_true rfl) (Nat.le_of_ble_eq_true rfl) (Nat.le_of_ble_eq_true rfl) (Nat.le_of_ble_eq_true rfl) rfl rfl rfl rfl d_M_count_11 (fun H locs hH hz11 => ?_)
      refine lv_if_eq (tgt := 21) hx hb d_M_count_14 (by decide) (fun h3 => ?_) (fun h3 => ?_)
      · refine lv_iconst (v := 1) hx hb d_M_count_21 (by decide) ?_
        exact hJ _ _ _ ⟨by simp only [if_neg h2, if_pos h3], isB_1, hH⟩
      · refine lv_iconst (v := 0) hx hb d_M_count_17 (by decide) ?_
        refine lv_goto (tgt := 22) hx hb d_M_count_18 (by decide) ?_
        exact hJ _ _ _ ⟨by simp only [if_neg h2, if_neg h3], isB_0, hH⟩

def sp_M_load  (G0 : Mem) (a1 : Int32) (a2 : Int32) (a3 : Int32) : Int32 × Mem :=
  (if ((if ((sp_M_isEnd G0 a1)) = 0 then 1 else (if ((sp_M_within G0 a2 1 3)) = 0 then 1 else (if ((sp_M_within G0 a3 0 255)) = 0 then 1 else 0))) : Int32) ≤ 0 then ((G0 22 (tn ((4 * a1) + a2))), (wr (wr G0 21 0 ((if ((sp_M_isEnd G0 a1)) = 0 then 1 else (if ((sp_M_within G0 a2 1 3)) = 0 then 1 else (if ((sp_M_within G0 a3 0 255)) = 0 then 1 else 0))) : Int32)) 22 (tn ((4 * a1) + a2)) a3)) else ((0 : Int32), (wr G0 21 0 ((if ((sp_M_isEnd G0 a1)) = 0 then 1 else (if ((sp_M_within G0 a2 1 3)) = 0 then 1 else (if ((sp_M_within G0 a3 0 255)) = 0 then 1 else 0))) : Int32))))
set_option maxHeartbeats 4000000 in
set_option maxRecDepth 100000 in
theorem c_M_load (l : Launch) (P : gP) (G0 : Mem)  (a1 : Int32) (a2 : Int32) (a3 : Int32)  : gMi l y_M_load b_M_load 5 (some .int) ({ frames := 1, cells := 0, slots := 0, locals := 22 }) [.ref (gad P 21), .int a1, .int a2, .int a3] P G0 (sp_M_load G0 a1 a2 a3) := by
  refine Met.ofW (cc := b_M_load) (maxL := 5) (ret := (some .int)) (by decide) rfl ?_
  intro p e s m args below meth c0 s₁ B hml hv
  obtain ⟨rfl, hpre⟩ := hv
  obtain ⟨E, hH⟩ := gE_of B hml hpre
  replace E : gE p s m _ meth c0 P "FramedLineModel" b_M_load 5 (some .int) := E
  have hx := E.1
  have hb := E.2.1
  have hl := lv_entry ([.ref (gad P 21), .int a1, .int a2, .int a3]) (n := 5) (Nat.le_of_ble_eq_true rfl)
  rw [lg_entry_eq]
  generalize (lg_sl ([.ref (gad P 21), .int a1, .int a2, .int a3]) ++ List.replicate (5 - (lg_sl ([.ref (gad P 21), .int a1, .int a2, .int a3])).length) Slot.unset).toArray = ls at hl ⊢
  replace hl : lv_has ls 5 [(0, .ref (gad P 21)), (1, .int a1), (2, .int a2), (3, .int a3)] := hl
  have hsp : sp_M_load G0 a1 a2 a3 = sp_M_load G0 a1 a2 a3 := rfl
  refine lv_aload_n hx hb d_M_load_0 rfl (lv_at hl 0 rfl) ?_
  refine lv_iload_n hx hb d_M_load_1 rfl (lv_at hl 1 rfl) ?_
  refine g_callSrz (As := [.int _]) E hH hl (c_M_isEnd l P _ _) lm_M_193 (Nat.le_of_ble_eq_true rfl) (Nat.le_of_ble_eq_true rfl) (Nat.le_of_ble_eq_true rfl) (Nat.le_of_ble_eq_true rfl) (Nat.le_of_ble_eq_true rfl) rfl rfl rfl rfl d_M_load_2 (fun H locs hH hz2 => ?_)
  refine jn (α := Int32) (fun z H1 locs1 => z = ((if ((sp_M_isEnd G0 a1)) = 0 then 1 else (if ((sp_M_within G0 a2 1 3)) = 0 then 1 else (if ((sp_M_within G0 a3 0 255)) = 0 then 1 else 0))) : Int32) ∧ isB z ∧ gH P s G0 H1 locs1) (fun z => F0 m 33 ls (.int z :: .ref (gad P 21) :: [])) (fun z H locs h9 => ?_) (fun hJ => ?_)
  · obtain ⟨rfl, hz33, hH⟩ := h9
    refine g_puti E hH (gc_M rfl) cl_M ct_M 0 (by decide) lf_M_137 rfl (by decide +kernel) (fun _ _ => rfl) (Nat.le_of_ble_eq_true rfl) d_M_load_33 (fun H locs hH => ?_)
    refine lv_aload_n hx hb d_M_load_36 rfl (lv_at hl 0 rfl) ?_
    refine g_geti (v := ((if ((sp_M_isEnd G0 a1)) = 0 then 1 else (if ((sp_M_within G0 a2 1 3)) = 0 then 1 else (if ((sp_M_within G0 a3 0 255)) = 0 then 1 else 0))) : Int32)) E hH (gc_M rfl) cl_M 0 (by decide) lf_M_137 (fun _ => rfl) (wr_same _ _ _ _) d_M_load_37 ?_
    refine lv_if_le (tgt := 45) hx hb d_M_load_40 (by decide) (fun h1 => ?_) (fun h1 => ?_)
    · refine lv_aload_n hx hb d_M_load_45 rfl (lv_at hl 0 rfl) ?_
      refine g_get E hH (gc_M rfl) cl_M 2 (by decide) lf_M_7 rfl d_M_load_46 ?_
      refine lv_iconst (v := 4) hx hb d_M_load_49 (by decide) ?_
      refine lv_iload_n hx hb d_M_load_50 rfl (lv_at hl 1 rfl) ?_
      refine lv_imul hx hb d_M_load_51 ?_
      refine lv_iload_n hx hb d_M_load_52 rfl (lv_at hl 2 rfl) ?_
      refine lv_iadd hx hb d_M_load_53 ?_
      refine g_iaload (k := (tn ((4 * a1) + a2))) (v := (G0 22 (tn ((4 * a1) + a2)))) E hH ⟨by decide, fun _ => rfl⟩ (load_in (ok1 h1) (ok2 h1)) rfl (wr_ck _ _ _ _ (by decide)) d_M_load_54 ?_
      refine lv_istore hx hb d_M_load_55 hl (by decide) rfl (fun ls hl => ?_)
      refine lv_aload_n hx hb d_M_load_57 rfl (lv_at hl 1 rfl) ?_
      refine g_get E hH (gc_M rfl) cl_M 2 (by decide) lf_M_7 rfl d_M_load_58 ?_
      refine lv_iconst (v := 4) hx hb d_M_load_61 (by decide) ?_
      refine lv_iload_n hx hb d_M_load_62 rfl (lv_at hl 2 rfl) ?_
      refine lv_imul hx hb d_M_load_63 ?_
      refine lv_iload_n hx hb d_M_load_64 rfl (lv_at hl 3 rfl) ?_
      refine lv_iadd hx hb d_M_load_65 ?_
      refine lv_iload_n hx hb d_M_load_66 rfl (lv_at hl 4 rfl) ?_
      refine g_iastore (k := (tn ((4 * a1) + a2))) E hH ⟨by decide, fun _ => rfl⟩ (load_in (ok1 h1) (ok2 h1)) rfl d_M_load_67 (fun H locs hH => ?_)
      refine lv_iload hx hb d_M_load_68 (lv_at hl 0 rfl) ?_
      exact g_iret E hH (hsp.trans (by simp only [sp_M_load, if_pos h1])) d_M_load_70
    · refine lv_iconst (v := 0) hx hb d_M_load_43 (by decide) ?_
      exact g_iret E hH (hsp.trans (by simp only [sp_M_load, if_neg h1])) d_M_load_44
  · refine lv_if_eq (tgt := 32) hx hb d_M_load_5 (by decide) (fun h2 => ?_) (fun h2 => ?_)
    · refine lv_iconst (v := 1) hx hb d_M_load_32 (by decide) ?_
      exact hJ _ _ _ ⟨by simp only [if_pos h2], isB_1, hH⟩
    · refine lv_iload_n hx hb d_M_load_8 rfl (lv_at hl 2 rfl) ?_
      refine lv_iconst (v := 1) hx hb d_M_load_9 (by decide) ?_
      refine lv_iconst (v := 3) hx hb d_M_load_10 (by decide) ?_
      refine g_callSrz (As := [.int _, .int _, .int _]) E hH hl (c_M_within l P _ _ _ _) lm_M_196 (Nat.le_of_ble_eq_true rfl) (Nat.le_of_ble_eq_true rfl) (Nat.le_of_ble_eq_true rfl) (Nat.le_of_ble_eq_true rfl) (Nat.le_of_ble_eq_true rfl) rfl rfl rfl rfl d_M_load_11 (fun H locs hH hz11 => ?_)
      refine lv_if_eq (tgt := 32) hx hb d_M_load_14 (by decide) (fun h3 => ?_) (fun h3 => ?_)
      · refine lv_iconst (v := 1) hx hb d_M_load_32 (by decide) ?_
        exact hJ _ _ _ ⟨by simp only [if_neg h2, if_pos h3], isB_1, hH⟩
      · refine lv_iload_n hx hb d_M_load_17 rfl (lv_at hl 3 rfl) ?_
        refine lv_iconst (v := 0) hx hb d_M_load_18 (by decide) ?_
        refine lv_sipush (v := 255) hx hb d_M_load_19 (by decide) ?_
        refine g_callSrz (As := [.int _, .int _, .int _]) E hH hl (c_M_within l P _ _ _ _) lm_M_196 (Nat.le_of_ble_eq_true rfl) (Nat.le_of_ble_eq_true rfl) (Nat.le_of_ble_eq_true rfl) (Nat.le_of_ble_eq_true rfl) (Nat.le_of_ble_eq_true rfl) rfl rfl rfl rfl d_M_load_22 (fun H locs hH hz22 => ?_)
        refine lv_if_eq (tgt := 32) hx hb d_M_load_25 (by decide) (fun h4 => ?_) (fun h4 => ?_)
        · refine lv_iconst (v := 1) hx hb d_M_load_32 (by decide) ?_
          exact hJ _ _ _ ⟨by simp only [if_neg h2, if_neg h3, if_pos h4], isB_1, hH⟩
        · refine lv_iconst (v := 0) hx hb d_M_load_28 (by decide) ?_
          refine lv_goto (tgt := 33) hx hb d_M_load_29 (by decide) ?_
          exact hJ _ _ _ ⟨by simp only [if_neg h2, if_neg h3, if_neg h4], isB_0, hH⟩
