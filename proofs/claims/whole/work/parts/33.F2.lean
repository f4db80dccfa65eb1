def sp_F_load  (G0 : Mem) (a1 : Int32) (a2 : Int32) (a3 : Int32) : Int32 × Int32 × Mem :=
  (if (sp_F_endOf G0 a1).1 = 0 then (if (sp_F_require ((sp_F_endOf G0 a1).2.2) ((if a2 < 1 then 0 else (if 4 ≤ a2 then 0 else (if a3 < 0 then 0 else (if 255 < a3 then 0 else 1)))) : Int32)).1 = 0 then (0, ((sp_S_exchange ((tn (sp_F_endOf G0 a1).2.1) + 1) ((sp_F_require ((sp_F_endOf G0 a1).2.2) ((if a2 < 1 then 0 else (if 4 ≤ a2 then 0 else (if a3 < 0 then 0 else (if 255 < a3 then 0 else 1)))) : Int32)).2.2) a2 a3)).1, ((sp_S_exchange ((tn (sp_F_endOf G0 a1).2.1) + 1) ((sp_F_require ((sp_F_endOf G0 a1).2.2) ((if a2 < 1 then 0 else (if 4 ≤ a2 then 0 else (if a3 < 0 then 0 else (if 255 < a3 then 0 else 1)))) : Int32)).2.2) a2 a3)).2) else ((sp_F_require ((sp_F_endOf G0 a1).2.2) ((if a2 < 1 then 0 else (if 4 ≤ a2 then 0 else (if a3 < 0 then 0 else (if 255 < a3 then 0 else 1)))) : Int32)).1, 0, (sp_F_require ((sp_F_endOf G0 a1).2.2) ((if a2 < 1 then 0 else (if 4 ≤ a2 then 0 else (if a3 < 0 then 0 else (if 255 < a3 then 0 else 1)))) : Int32)).2.2)) else ((sp_F_endOf G0 a1).1, 0, (sp_F_endOf G0 a1).2.2))
set_option maxHeartbeats 4000000 in
set_option maxRecDepth 100000 in
theorem c_F_load (l : Launch) (htr : l.stackTraces = false) (P : gP) (G0 : Mem)  (a1 : Int32) (a2 : Int32) (a3 : Int32)  : xMet l y_F_load b_F_load 5 (some .int) ({ frames := 8, cells := 1, slots := 6, locals := 131 }) [.ref (gad P 0), .int a1, .int a2, .int a3] vI P G0 (sp_F_load G0 a1 a2 a3) := by
  refine xMet.ofW (by decide) ?_
  intro p e s m args below meth c0 s₁ B hml hv
  obtain ⟨rfl, hpre⟩ := hv
  obtain ⟨⟨E, hH⟩, hx0, hno⟩ := gE_ofX B hml hpre
  replace E : gE p s m _ meth c0 P "FramedLine" b_F_load 5 (some .int) := E
  have hx := E.1
  have hb := E.2.1
  have hl := lv_entry ([.ref (gad P 0), .int a1, .int a2, .int a3]) (n := 5) (Nat.le_of_ble_eq_true rfl)
  rw [lg_entry_eq]
  generalize (lg_sl ([.ref (gad P 0), .int a1, .int a2, .int a3]) ++ List.replicate (5 - (lg_sl ([.ref (gad P 0), .int a1, .int a2, .int a3])).length) Slot.unset).toArray = ls at hl ⊢
  replace hl : lv_has ls 5 [(0, .ref (gad P 0)), (1, .int a1), (2, .int a2), (3, .int a3)] := hl
  have hsp : sp_F_load G0 a1 a2 a3 = sp_F_load G0 a1 a2 a3 := rfl
  refine lv_aload_n hx hb d_F_load_0 rfl (lv_at hl 0 rfl) ?_
  refine lv_iload_n hx hb d_F_load_1 rfl (lv_at hl 1 rfl) ?_
  refine x_callV (As := [.int _]) E hx0 hH hl (c_F_endOf l htr P _ _) lm_F_23 (gc_F rfl) cl_F (Nat.le_of_ble_eq_true rfl) (Nat.le_of_ble_eq_true rfl) (Nat.le_of_ble_eq_true rfl) (Nat.le_of_ble_eq_true rfl) (Nat.le_of_ble_eq_true rfl) rfl rfl d_F_load_2 (fun h1 H locs hH => ?_) (fun h1 q ce H locs hH hce hcv hcl => ?_)
  · refine lv_astore hx hb d_F_load_5 hl (by decide) rfl (fun ls hl => ?_)
    refine lv_iload_n hx hb d_F_load_7 rfl (lv_at hl 3 rfl) ?_
    refine lv_iconst (v := 1) hx hb d_F_load_8 (by decide) ?_
    refine jn (α := Int32) (fun z H1 locs1 => z = ((if a2 < 1 then 0 else (if 4 ≤ a2 then 0 else (if a3 < 0 then 0 else (if 255 < a3 then 0 else 1)))) : Int32) ∧ isB z ∧ gH P s ((sp_F_endOf G0 a1).2.2) H1 locs1) (fun z => F0 m 33 ls (.int z :: [])) (fun z H locs h9 => ?_) (fun hJ => ?_)
    · obtain ⟨rfl, hz33, hH⟩ := h9
      refine x_callS (As := [.int _]) E hx0 hH hl (c_F_require l htr P _ _) lm_F_27 (Nat.le_of_ble_eq_true rfl) (Nat.le_of_ble_eq_true rfl) (Nat.le_of_ble_eq_true rfl) (Nat.le_of_ble_eq_true rfl) (Nat.le_of_ble_eq_true rfl) rfl rfl d_F_load_33 (fun h2 H locs hH => ?_) (fun h2 q ce H locs hH hce hcv hcl => ?_)
      · refine lv_aload hx hb d_F_load_36 (lv_at hl 0 rfl) ?_
        refine g_getN E hH (gc_N (endOf_N h1)) cl_N 0 (by decide) lf_F_31 rfl d_F_load_38 ?_
        refine lv_iload_n hx hb d_F_load_41 rfl (lv_at hl 3 rfl) ?_
        refine lv_iload_n hx hb d_F_load_42 rfl (lv_at hl 4 rfl) ?_
        refine g_callVi (As := [.int _, .int _]) E hH hl (c_S_exchange l P _ ((tn (sp_F_endOf G0 a1).2.1) + 1) _ _ (kN_sender (endOf_N h1)) (ld_hi h2)) lm_F_35 (gc_S (kN_sender (endOf_N h1))) cl_S (Nat.le_of_ble_eq_true rfl) (Nat.le_of_ble_eq_true rfl) (Nat.le_of_ble_eq_true rfl) (Nat.le_of_ble_eq_true rfl) (Nat.le_of_ble_eq_true rfl) rfl rfl rfl rfl d_F_load_43 (fun H locs hH => ?_)
        exact x_iret E hH (hsp.trans (by rw [sp_F_load]; exact ((if_pos h1).trans (if_pos h2)))) d_F_load_46
      · exact x_on E hno h2 (hsp.trans (by rw [sp_F_load]; exact ((if_pos h1).trans (if_neg h2)))) hH hce hcv hcl
    · refine lv_icmp_lt (tgt := 32) hx hb d_F_load_9 (by decide) (fun h3 => ?_) (fun h3 => ?_)
      · refine lv_iconst (v := 0) hx hb d_F_load_32 (by decide) ?_
        exact hJ _ _ _ ⟨by simp only [if_pos h3], isB_0, hH⟩
      · refine lv_iload_n hx hb d_F_load_12 rfl (lv_at hl 3 rfl) ?_
        refine lv_iconst (v := 4) hx hb d_F_load_13 (by decide) ?_
        refine lv_icmp_ge (tgt := 32) hx hb d_F_load_14 (by decide) (fun h4 => ?_) (fun h4 => ?_)
        · refine lv_iconst (v := 0) hx hb d_F_load_32 (by decide) ?_
          exact hJ _ _ _ ⟨by simp only [if_neg h3, if_pos h4], isB_0, hH⟩
        · refine lv_iload_n hx hb d_F_load_17 rfl (lv_at hl 4 rfl) ?_
          refine lv_if_lt (tgt := 32) hx hb d_F_load_18 (by decide) (fun h5 => ?_) (fun h5 => ?_)
          · refine lv_iconst (v := 0) hx hb d_F_load_32 (by decide) ?_
            exact hJ _ _ _ ⟨by simp only [if_neg h3, if_neg h4, if_pos h5], isB_0, hH⟩
          · refine lv_iload_n hx hb d_F_load_21 rfl (lv_at hl 4 rfl) ?_
            refine lv_sipush (v := 255) hx hb d_F_load_22 (by decide) ?_
            refine lv_icmp_gt (tgt := 32) hx hb d_F_load_25 (by decide) (fun h6 => ?_) (fun h6 => ?_)
            · refine lv_iconst (v := 0) hx hb d_F_load_32 (by decide) ?_
              exact hJ _ _ _ ⟨by simp only [if_neg h3, if_neg h4, if_neg h5, if_pos h6], isB_0, hH⟩
            · refine lv_iconst (v := 1) hx hb d_F_load_28 (by decide) ?_
              refine lv_goto (tgt := 33) hx hb d_F_load_29 (by decide) ?_
              exact hJ _ _ _ ⟨by simp only [if_neg h3, if_neg h4, if_neg h5, if_neg h6], isB_1, hH⟩
  · exact x_on E hno h1 (hsp.trans (by rw [sp_F_load]; exact (if_neg h1))) hH hce hcv hcl

def sp_F_slip  (G0 : Mem) (a1 : Int32) : Int32 × Int32 × Mem :=
  (if (sp_F_endOf G0 a1).1 = 0 then (0, ((sp_A_doubleNext ((tn (sp_F_endOf G0 a1).2.1) + 4) ((sp_F_endOf G0 a1).2.2))).1, ((sp_A_doubleNext ((tn (sp_F_endOf G0 a1).2.1) + 4) ((sp_F_endOf G0 a1).2.2))).2) else ((sp_F_endOf G0 a1).1, 0, (sp_F_endOf G0 a1).2.2))
set_option maxHeartbeats 4000000 in
set_option maxRecDepth 100000 in
theorem c_F_slip (l : Launch) (htr : l.stackTraces = false) (P : gP) (G0 : Mem)  (a1 : Int32)  : xMet l y_F_slip b_F_slip 2 (some .boolean) ({ frames := 8, cells := 1, slots := 6, locals := 131 }) [.ref (gad P 0), .int a1] vI P G0 (sp_F_slip G0 a1) := by
  refine xMet.ofW (by decide) ?_
  intro p e s m args below meth c0 s₁ B hml hv
  obtain ⟨rfl, hpre⟩ := hv
  obtain ⟨⟨E, hH⟩, hx0, hno⟩ := gE_ofX B hml hpre
  replace E : gE p s m _ meth c0 P "FramedLine" b_F_slip 2 (some .boolean) := E
  have hx := E.1
  have hb := E.2.1
  have hl := lv_entry ([.ref (gad P 0), .int a1]) (n := 2) (Nat.le_of_ble_eq_true rfl)
  rw [lg_entry_eq]
  generalize (lg_sl ([.ref (gad P 0), .int a1]) ++ List.replicate (2 - (lg_sl ([.ref (gad P 0), .int a1])).length) Slot.unset).toArray = ls at hl ⊢
  replace hl : lv_has ls 2 [(0, .ref (gad P 0)), (1, .int a1)] := hl
  have hsp : sp_F_slip G0 a1 = sp_F_slip G0 a1 := rfl
  refine lv_aload_n hx hb d_F_slip_0 rfl (lv_at hl 0 rfl) ?_
  refine lv_iload_n hx hb d_F_slip_1 rfl (lv_at hl 1 rfl) ?_
  refine x_callV (As := [.int _]) E hx0 hH hl (c_F_endOf l htr P _ _) lm_F_23 (gc_F rfl) cl_F (Nat.le_of_ble_eq_true rfl) (Nat.le_of_ble_eq_true rfl) (Nat.le_of_ble_eq_true rfl) (Nat.le_of_ble_eq_true rfl) (Nat.le_of_ble_eq_true rfl) rfl rfl d_F_slip_2 (fun h1 H locs hH => ?_) (fun h1 q ce H locs hH hce hcv hcl => ?_)
  · refine g_getN E hH (gc_N (endOf_N h1)) cl_N 2 (by decide) lf_F_41 rfl d_F_slip_5 ?_
    refine g_callVz (As := []) E hH hl (c_A_doubleNext l P _ ((tn (sp_F_endOf G0 a1).2.1) + 4) (kN_arrivals (endOf_N h1))) lm_F_61 (gc_A (kN_arrivals (endOf_N h1))) cl_A (Nat.le_of_ble_eq_true rfl) (Nat.le_of_ble_eq_true rfl) (Nat.le_of_ble_eq_true rfl) (Nat.le_of_ble_eq_true rfl) (Nat.le_of_ble_eq_true rfl) rfl rfl rfl rfl d_F_slip_8 (fun H locs hH hz8 => ?_)
    exact x_zret E hH (hsp.trans (by rw [sp_F_slip]; exact (if_pos h1))) hz8 d_F_slip_11
  · exact x_on E hno h1 (hsp.trans (by rw [sp_F_slip]; exact (if_neg h1))) hH hce hcv hcl

def sp_F_symbol  (G0 : Mem) (a1 : Int32) : Int32 × Int32 × Mem :=
  (if (sp_F_endOf G0 a1).1 = 0 then (0, ((sp_F_endOf G0 a1).2.2 ((tn (sp_F_endOf G0 a1).2.1) + 7) 0), (sp_F_endOf G0 a1).2.2) else ((sp_F_endOf G0 a1).1, 0, (sp_F_endOf G0 a1).2.2))
set_option maxHeartbeats 4000000 in
set_option maxRecDepth 100000 in
theorem c_F_symbol (l : Launch) (htr : l.stackTraces = false) (P : gP) (G0 : Mem)  (a1 : Int32)  : xMet l y_F_symbol b_F_symbol 2 (some .int) ({ frames := 8, cells := 1, slots := 6, locals := 131 }) [.ref (gad P 0), .int a1] vI P G0 (sp_F_symbol G0 a1) := by
  refine xMet.ofW (by decide) ?_
  intro p e s m args below meth c0 s₁ B hml hv
  obtain ⟨rfl, hpre⟩ := hv
  obtain ⟨⟨E, hH⟩, hx0, hno⟩ := gE_ofX B hml hpre
  replace E : gE p s m _ meth c0 P "FramedLine" b_F_symbol 2 (some .int) := E
  have hx := E.1
  have hb := E.2.1
  have hl := lv_entry ([.ref (gad P 0), .int a1]) (n := 2) (Nat.le_of_ble_eq_true rfl)
  rw [lg_entry_eq]
  generalize (lg_sl ([.ref (gad P 0), .int a1]) ++ List.replicate (2 - (lg_sl ([.ref (gad P 0), .int a1])).length) Slot.unset).toArray = ls at hl ⊢
  replace hl : lv_has ls 2 [(0, .ref (gad P 0)), (1, .int a1)] := hl
  have hsp : sp_F_symbol G0 a1 = sp_F_symbol G0 a1 := rfl
  refine lv_aload_n hx hb d_F_symbol_0 rfl (lv_at hl 0 rfl) ?_
  refine lv_iload_n hx hb d_F_symbol_1 rfl (lv_at hl 1 rfl) ?_
  refine x_callV (As := [.int _]) E hx0 hH hl (c_F_endOf l htr P _ _) lm_F_23 (gc_F rfl) cl_F (Nat.le_of_ble_eq_true rfl) (Nat.le_of_ble_eq_true rfl) (Nat.le_of_ble_eq_true rfl) (Nat.le_of_ble_eq_true rfl) (Nat.le_of_ble_eq_true rfl) rfl rfl d_F_symbol_2 (fun h1 H locs hH => ?_) (fun h1 q ce H locs hH hce hcv hcl => ?_)
  · refine g_getN E hH (gc_N (endOf_N h1)) cl_N 3 (by decide) lf_F_73 rfl d_F_symbol_5 ?_
    refine g_getiN (v := ((sp_F_endOf G0 a1).2.2 ((tn (sp_F_endOf G0 a1).2.1) + 7) 0)) E hH (gc_D (kN_decoder (endOf_N h1))) cl_D 0 (by decide) lf_F_77 (fun _ => rfl) rfl d_F_symbol_8 ?_
    exact x_iret E hH (hsp.trans (by rw [sp_F_symbol]; exact (if_pos h1))) d_F_symbol_11
  · exact x_on E hno h1 (hsp.trans (by rw [sp_F_symbol]; exact (if_neg h1))) hH hce hcv hcl

def sp_F_aligned  (G0 : Mem) (a1 : Int32) : Int32 × Int32 × Mem :=
  (if (sp_F_endOf G0 a1).1 = 0 then (0, ((sp_R_isAligned ((tn (sp_F_endOf G0 a1).2.1) + 8) ((sp_F_endOf G0 a1).2.2))), (sp_F_endOf G0 a1).2.2) else ((sp_F_endOf G0 a1).1, 0, (sp_F_endOf G0 a1).2.2))
set_option maxHeartbeats 4000000 in
set_option maxRecDepth 100000 in
theorem c_F_aligned (l : Launch) (htr : l.stackTraces = false) (P : gP) (G0 : Mem)  (a1 : Int32)  : xMet l y_F_aligned b_F_aligned 2 (some .boolean) ({ frames := 8, cells := 1, slots := 6, locals := 131 }) [.ref (gad P 0), .int a1] vI P G0 (sp_F_aligned G0 a1) := by
  refine xMet.ofW (by decide) ?_
  intro p e s m args below meth c0 s₁ B hml hv
  obtain ⟨rfl, hpre⟩ := hv
  obtain ⟨⟨E, hH⟩, hx0, hno⟩ := gE_ofX B hml hpre
  replace E : gE p s m _ meth c0 P "FramedLine" b_F_aligned 2 (some .boolean) := E
  have hx := E.1
  have hb := E.2.1
  have hl := lv_entry ([.ref (gad P 0), .int a1]) (n := 2) (Nat.le_of_ble_eq_true rfl)
  rw [lg_entry_eq]
  generalize (lg_sl ([.ref (gad P 0), .int a1]) ++ List.replicate (2 - (lg_sl ([.ref (gad P 0), .int a1])).length) Slot.unset).toArray = ls at hl ⊢
  replace hl : lv_has ls 2 [(0, .ref (gad P 0)), (1, .int a1)] := hl
  have hsp : sp_F_aligned G0 a1 = sp_F_aligned G0 a1 := rfl
  refine lv_aload_n hx hb d_F_aligned_0 rfl (lv_at hl 0 rfl) ?_
  refine lv_iload_n hx hb d_F_aligned_1 rfl (lv_at hl 1 rfl) ?_
  refine x_callV (As := [.int _]) E hx0 hH hl (c_F_endOf l htr P _ _) lm_F_23 (gc_F rfl) cl_F (Nat.le_of_ble_eq_true rfl) (Nat.le_of_ble_eq_true rfl) (Nat.le_of_ble_eq_true rfl) (Nat.le_of_ble_eq_true rfl) (Nat.le_of_ble_eq_true rfl) rfl rfl d_F_aligned_2 (fun h1 H locs hH => ?_) (fun h1 q ce H locs hH hce hcv hcl => ?_)
  · refine g_getN E hH (gc_N (endOf_N h1)) cl_N 4 (by decide) lf_F_82 rfl d_F_aligned_5 ?_
    refine g_callVrz (As := []) E hH hl (c_R_isAligned l P _ ((tn (sp_F_endOf G0 a1).2.1) + 8) (kN_receiver (endOf_N h1))) lm_F_86 (gc_R (kN_receiver (endOf_N h1))) cl_R (Nat.le_of_ble_eq_true rfl) (Nat.le_of_ble_eq_true rfl) (Nat.le_of_ble_eq_true rfl) (Nat.le_of_ble_eq_true rfl) (Nat.le_of_ble_eq_true rfl) rfl rfl rfl rfl d_F_aligned_8 (fun H locs hH hz8 => ?_)
    exact x_zret E hH (hsp.trans (by rw [sp_F_aligned]; exact (if_pos h1))) hz8 d_F_aligned_11
  · exact x_on E hno h1 (hsp.trans (by rw [sp_F_aligned]; exact (if_neg h1))) hH hce hcv hcl

def sp_F_frame  (G0 : Mem) (a1 : Int32) : Int32 × Int32 × Mem :=
  (if (sp_F_endOf G0 a1).1 = 0 then (0, ((sp_F_endOf G0 a1).2.2 (((tn (sp_F_endOf G0 a1).2.1) + 8) + 1) 0), (sp_F_endOf G0 a1).2.2) else ((sp_F_endOf G0 a1).1, 0, (sp_F_endOf G0 a1).2.2))
set_option maxHeartbeats 4000000 in
set_option maxRecDepth 100000 in
theorem c_F_frame (l : Launch) (htr : l.stackTraces = false) (P : gP) (G0 : Mem)  (a1 : Int32)  : xMet l y_F_frame b_F_frame 2 (some .int) ({ frames := 8, cells := 1, slots := 6, locals := 131 }) [.ref (gad P 0), .int a1] vI P G0 (sp_F_frame G0 a1) := by
  refine xMet.ofW (by decide) ?_
  intro p e s m args below meth c0 s₁ B hml hv
  obtain ⟨rfl, hpre⟩ := hv
  obtain ⟨⟨E, hH⟩, hx0, hno⟩ := gE_ofX B hml hpre
  replace E : gE p s m _ meth c0 P "FramedLine" b_F_frame 2 (some .int) := E
  have hx := E.1
  have hb := E.2.1
  have hl := lv_entry ([.ref (gad P 0), .int a1]) (n := 2) (Nat.le_of_ble_eq_true rfl)
  rw [lg_entry_eq]
  generalize (lg_sl ([.ref (gad P 0), .int a1]) ++ List.replicate (2 - (lg_sl ([.ref (gad P 0), .int a1])).length) Slot.unset).toArray = ls at hl ⊢
  replace hl : lv_has ls 2 [(0, .ref (gad P 0)), (1, .int a1)] := hl
  have hsp : sp_F_frame G0 a1 = sp_F_frame G0 a1 := rfl
  refine lv_aload_n hx hb d_F_frame_0 rfl (lv_at hl 0 rfl) ?_
  refine lv_iload_n hx hb d_F_frame_1 rfl (lv_at hl 1 rfl) ?_
  refine x_callV (As := [.int _]) E hx0 hH hl (c_F_endOf l htr P _ _) lm_F_23 (gc_F rfl) cl_F (Nat.le_of_ble_eq_true rfl) (Nat.le_of_ble_eq_true rfl) (Nat.le_of_ble_eq_true rfl) (Nat.le_of_ble_eq_true rfl) (Nat.le_of_ble_eq_true rfl) rfl rfl d_F_frame_2 (fun h1 H locs hH => ?_) (fun h1 q ce H locs hH hce hcv hcl => ?_)
  · refine g_getN E hH (gc_N (endOf_N h1)) cl_N 4 (by decide) lf_F_82 rfl d_F_frame_5 ?_
    refine g_getN E hH (gc_R (kN_receiver (endOf_N h1))) cl_R 0 (by decide) lf_F_91 rfl d_F_frame_8 ?_
    refine g_getiN (v := ((sp_F_endOf G0 a1).2.2 (((tn (sp_F_endOf G0 a1).2.1) + 8) + 1) 0)) E hH (gc_O (kR_rounds (kN_receiver (endOf_N h1)))) cl_O 0 (by decide) lf_F_95 (fun _ => rfl) rfl d_F_frame_11 ?_
    exact x_iret E hH (hsp.trans (by rw [sp_F_frame]; exact (if_pos h1))) d_F_frame_14
  · exact x_on E hno h1 (hsp.trans (by rw [sp_F_frame]; exact (if_neg h1))) hH hce hcv hcl

def sp_F_slot  (G0 : Mem) (a1 : Int32) (a2 : Int32) : Int32 × Int32 × Mem :=
  (if (sp_F_endOf G0 a1).1 = 0 then (if (sp_F_require ((sp_F_endOf G0 a1).2.2) ((if a2 < 0 then 0 else (if 4 ≤ a2 then 0 else 1)) : Int32)).1 = 0 then (0, ((sp_R_byteOf ((tn (sp_F_endOf G0 a1).2.1) + 8) ((sp_F_require ((sp_F_endOf G0 a1).2.2) ((if a2 < 0 then 0 else (if 4 ≤ a2 then 0 else 1)) : Int32)).2.2) a2)), (sp_F_require ((sp_F_endOf G0 a1).2.2) ((if a2 < 0 then 0 else (if 4 ≤ a2 then 0 else 1)) : Int32)).2.2) else ((sp_F_require ((sp_F_endOf G0 a1).2.2) ((if a2 < 0 then 0 else (if 4 ≤ a2 then 0 else 1)) : Int32)).1, 0, (sp_F_require ((sp_F_endOf G0 a1).2.2) ((if a2 < 0 then 0 else (if 4 ≤ a2 then 0 else 1)) : Int32)).2.2)) else ((sp_F_endOf G0 a1).1, 0, (sp_F_endOf G0 a1).2.2))
set_option maxHeartbeats 4000000 in
set_option maxRecDepth 100000 in
theorem c_F_slot (l : Launch) (htr : l.stackTraces = false) (P : gP) (G0 : Mem)  (a1 : Int32) (a2 : Int32)  : xMet l y_F_slot b_F_slot 4 (some .int) ({ frames := 8, cells := 1, slots := 6, locals := 131 }) [.ref (gad P 0), .int a1, .int a2] vI P G0 (sp_F_slot G0 a1 a2) := by
  refine xMet.ofW (by decide) ?_
  intro p e s m args below meth c0 s₁ B hml hv
  obtain ⟨rfl, hpre⟩ := hv
  obtain ⟨⟨E, hH⟩, hx0, hno⟩ := gE_ofX B hml hpre
  replace E : gE p s m _ meth c0 P "FramedLine" b_F_slot 4 (some .int) := E
  have hx := E.1
  have hb := E.2.1
  have hl := lv_entry ([.ref (gad P 0), .int a1, .int a2]) (n := 4) (Nat.le_of_ble_eq_true rfl)
  rw [lg_entry_eq]
  generalize (lg_sl ([.ref (gad P 0), .int a1, .int a2]) ++ List.replicate (4 - (lg_sl ([.ref (gad P 0), .int a1, .int a2])).length) Slot.unset).toArray = ls at hl ⊢
  replace hl : lv_has ls 4 [(0, .ref (gad P 0)), (1, .int a1), (2, .int a2)] := hl
  have hsp : sp_F_slot G0 a1 a2 = sp_F_slot G0 a1 a2 := rfl
  refine lv_aload_n hx hb d_F_slot_0 rfl (lv_at hl 0 rfl) ?_
  refine lv_iload_n hx hb d_F_slot_1 rfl (lv_at hl 1 rfl) ?_
  refine x_callV (As := [.int _]) E hx0 hH hl (c_F_endOf l htr P _ _) lm_F_23 (gc_F rfl) cl_F (Nat.le_of_ble_eq_true rfl) (Nat.le_of_ble_eq_true rfl) (Nat.le_of_ble_eq_true rfl) (Nat.le_of_ble_eq_true rfl) (Nat.le_of_ble_eq_true rfl) rfl rfl d_F_slot_2 (fun h1 H locs hH => ?_) (fun h1 q ce H locs hH hce hcv hcl => ?_)
  · refine lv_astore_n hx hb d_F_slot_5 rfl hl (by decide) rfl (fun ls hl => ?_)
    refine lv_iload_n hx hb d_F_slot_6 rfl (lv_at hl 3 rfl) ?_
    refine jn (α := Int32) (fun z H1 locs1 => z = ((if a2 < 0 then 0 else (if 4 ≤ a2 then 0 else 1)) : Int32) ∧ isB z ∧ gH P s ((sp_F_endOf G0 a1).2.2) H1 locs1) (fun z => F0 m 20 ls (.int z :: [])) (fun z H locs h9 => ?_) (fun hJ => ?_)
    · obtain ⟨rfl, hz20, hH⟩ := h9
      refine x_callS (As := [.int _]) E hx0 hH hl (c_F_require l htr P _ _) lm_F_27 (Nat.le_of_ble_eq_true rfl) (Nat.le_of_ble_eq_true rfl) (Nat.le_of_ble_eq_true rfl) (Nat.le_of_ble_eq_true rfl) (Nat.le_of_ble_eq_true rfl) rfl rfl d_F_slot_20 (fun h2 H locs hH => ?_) (fun h2 q ce H locs hH hce hcv hcl => ?_)
      · refine lv_aload_n hx hb d_F_slot_23 rfl (lv_at hl 0 rfl) ?_
        refine g_getN E hH (gc_N (endOf_N h1)) cl_N 4 (by decide) lf_F_82 rfl d_F_slot_24 ?_
        refine lv_iload_n hx hb d_F_slot_27 rfl (lv_at hl 3 rfl) ?_
        refine g_callVri (As := [.int _]) E hH hl (c_R_byteOf l P _ ((tn (sp_F_endOf G0 a1).2.1) + 8) _ (kN_receiver (endOf_N h1))) lm_F_100 (gc_R (kN_receiver (endOf_N h1))) cl_R (Nat.le_of_ble_eq_true rfl) (Nat.le_of_ble_eq_true rfl) (Nat.le_of_ble_eq_true rfl) (Nat.le_of_ble_eq_true rfl) (Nat.le_of_ble_eq_true rfl) rfl rfl rfl rfl d_F_slot_28 (fun H locs hH => ?_)
        exact x_iret E hH (hsp.trans (by rw [sp_F_slot]; exact ((if_pos h1).trans (if_pos h2)))) d_F_slot_31
      · exact x_on E hno h2 (hsp.trans (by rw [sp_F_slot]; exact ((if_pos h1).trans (if_neg h2)))) hH hce hcv hcl
    · refine lv_if_lt (tgt := 19) hx hb d_F_slot_7 (by decide) (fun h3 => ?_) (fun h3 => ?_)
      · refine lv_iconst (v := 0) hx hb d_F_slot_19 (by decide) ?_
        exact hJ _ _ _ ⟨by simp only [if_pos h3], isB_0, hH⟩
      · refine lv_iload_n hx hb d_F_slot_10 rfl (lv_at hl 3 rfl) ?_
        refine lv_iconst (v := 4) hx hb d_F_slot_11 (by decide) ?_
        refine lv_icmp_ge (tgt := 19) hx hb d_F_slot_12 (by decide) (fun h4 => ?_) (fun h4 => ?_)
        · refine lv_iconst (v := 0) hx hb d_F_slot_19 (by decide) ?_
          exact hJ _ _ _ ⟨by simp only [if_neg h3, if_pos h4], isB_0, hH⟩
        · refine lv_iconst (v := 1) hx hb d_F_slot_15 (by decide) ?_
          refine lv_goto (tgt := 20) hx hb d_F_slot_16 (by decide) ?_
          exact hJ _ _ _ ⟨by simp only [if_neg h3, if_neg h4], isB_1, hH⟩
  · exact x_on E hno h1 (hsp.trans (by rw [sp_F_slot]; exact (if_neg h1))) hH hce hcv hcl

def sp_F_alarm  (G0 : Mem) (a1 : Int32) : Int32 × Int32 × Mem :=
  (if (sp_F_endOf G0 a1).1 = 0 then (0, (zb ((sp_F_endOf G0 a1).2.2 ((tn (sp_F_endOf G0 a1).2.1) + 8) 9)), (sp_F_endOf G0 a1).2.2) else ((sp_F_endOf G0 a1).1, 0, (sp_F_endOf G0 a1).2.2))
set_option maxHeartbeats 4000000 in
set_option maxRecDepth 100000 in
theorem c_F_alarm (l : Launch) (htr : l.stackTraces = false) (P : gP) (G0 : Mem)  (a1 : Int32)  : xMet l y_F_alarm b_F_alarm 2 (some .boolean) ({ frames := 8, cells := 1, slots := 6, locals := 131 }) [.ref (gad P 0), .int a1] vI P G0 (sp_F_alarm G0 a1) := by
  refine xMet.ofW (by decide) ?_
  intro p e s m args below meth c0 s₁ B hml hv
  obtain ⟨rfl, hpre⟩ := hv
  obtain ⟨⟨E, hH⟩, hx0, hno⟩ := gE_ofX B hml hpre
  replace E : gE p s m _ meth c0 P "FramedLine" b_F_alarm 2 (some .boolean) := E
  have hx := E.1
  have hb := E.2.1
  have hl := lv_entry ([.ref (gad P 0), .int a1]) (n := 2) (Nat.le_of_ble_eq_true rfl)
  rw [lg_entry_eq]
  generalize (lg_sl ([.ref (gad P 0), .int a1]) ++ List.replicate (2 - (lg_sl ([.ref (gad P 0), .int a1])).length) Slot.unset).toArray = ls at hl ⊢
  replace hl : lv_has ls 2 [(0, .ref (gad P 0)), (1, .int a1)] := hl
  have hsp : sp_F_alarm G0 a1 = sp_F_alarm G0 a1 := rfl
  refine lv_aload_n hx hb d_F_alarm_0 rfl (lv_at hl 0 rfl) ?_
  refine lv_iload_n hx hb d_F_alarm_1 rfl (lv_at hl 1 rfl) ?_
  refine x_callV (As := [.int _]) E hx0 hH hl (c_F_endOf l htr P _ _) lm_F_23 (gc_F rfl) cl_F (Nat.le_of_ble_eq_true rfl) (Nat.le_of_ble_eq_true rfl) (Nat.le_of_ble_eq_true rfl) (Nat.le_of_ble_eq_true rfl) (Nat.le_of_ble_eq_true rfl) rfl rfl d_F_alarm_2 (fun h1 H locs hH => ?_) (fun h1 q ce H locs hH hce hcv hcl => ?_)
  · refine g_getN E hH (gc_N (endOf_N h1)) cl_N 4 (by decide) lf_F_82 rfl d_F_alarm_5 ?_
    refine g_getzN (v := ((sp_F_endOf G0 a1).2.2 ((tn (sp_F_endOf G0 a1).2.1) + 8) 9)) E hH (gc_R (kN_receiver (endOf_N h1))) cl_R 9 (by decide) lf_F_104 (fun _ => rfl) rfl d_F_alarm_8 ?_
    exact x_zret E hH (hsp.trans (by rw [sp_F_alarm]; exact (if_pos h1))) (isB_zb _) d_F_alarm_11
  · exact x_on E hno h1 (hsp.trans (by rw [sp_F_alarm]; exact (if_neg h1))) hH hce hcv hcl

def sp_F_count  (G0 : Mem) (a1 : Int32) (a2 : Int32) : Int32 × Int32 × Mem :=
  (if (sp_F_endOf G0 a1).1 = 0 then (if a2 = 0 then (0, ((sp_F_endOf G0 a1).2.2 ((tn (sp_F_endOf G0 a1).2.1) + 8) 7), (sp_F_endOf G0 a1).2.2) else (if a2 = 1 then (0, ((sp_F_endOf G0 a1).2.2 ((tn (sp_F_endOf G0 a1).2.1) + 7) 6), (sp_F_endOf G0 a1).2.2) else (if a2 = 2 then (0, ((sp_F_endOf G0 a1).2.2 ((tn (sp_F_endOf G0 a1).2.1) + 8) 8), (sp_F_endOf G0 a1).2.2) else (if a2 = 3 then (0, ((sp_F_endOf G0 a1).2.2 (((tn (sp_F_endOf G0 a1).2.1) + 8) + 1) 11), (sp_F_endOf G0 a1).2.2) else (if a2 = 4 then (0, ((sp_F_endOf G0 a1).2.2 (((tn (sp_F_endOf G0 a1).2.1) + 8) + 1) 12), (sp_F_endOf G0 a1).2.2) else (1, 0, (sp_F_endOf G0 a1).2.2)))))) else ((sp_F_endOf G0 a1).1, 0, (sp_F_endOf G0 a1).2.2))
set_option maxHeartbeats 4000000 in
set_option maxRecDepth 100000 in
theorem c_F_count (l : Launch) (htr : l.stackTraces = false) (P : gP) (G0 : Mem)  (a1 : Int32) (a2 : Int32)  : xMet l y_F_count b_F_count 4 (some .int) ({ frames := 8, cells := 1, slots := 6, locals := 131 }) [.ref (gad P 0), .int a1, .int a2] vI P G0 (sp_F_count G0 a1 a2) := by
  refine xMet.ofW (by decide) ?_
  intro p e s m args below meth c0 s₁ B hml hv
  obtain ⟨rfl, hpre⟩ := hv
  obtain ⟨⟨E, hH⟩, hx0, hno⟩ := gE_ofX B hml hpre
  replace E : gE p s m _ meth c0 P "FramedLine" b_F_count 4 (some .int) := E
  have hx := E.1
  have hb := E.2.1
  have hl := lv_entry ([.ref (gad P 0), .int a1, .int a2]) (n := 4) (Nat.le_of_ble_eq_true rfl)
  rw [lg_entry_eq]
  generalize (lg_sl ([.ref (gad P 0), .int a1, .int a2]) ++ List.replicate (4 - (lg_sl ([.ref (gad P 0), .int a1, .int a2])).length) Slot.unset).toArray = ls at hl ⊢
  replace hl : lv_has ls 4 [(0, .ref (gad P 0)), (1, .int a1), (2, .int a2)] := hl
  have hsp : sp_F_count G0 a1 a2 = sp_F_count G0 a1 a2 := rfl
  refine lv_aload_n hx hb d_F_count_0 rfl (lv_at hl 0 rfl) ?_
  refine lv_iload_n hx hb d_F_count_1 rfl (lv_at hl 1 rfl) ?_
  refine x_callV (As := [.int _]) E hx0 hH hl (c_F_endOf l htr P _ _) lm_F_23 (gc_F rfl) cl_F (Nat.le_of_ble_eq_true rfl) (Nat.le_of_ble_eq_true rfl) (Nat.le_of_ble_eq_true rfl) (Nat.le_of_ble_eq_true rfl) (Nat.le_of_ble_eq_true rfl) rfl rfl d_F_count_2 (fun h1 H locs hH => ?_) (fun h1 q ce H locs hH hce hcv hcl => ?_)
  · refine lv_astore_n hx hb d_F_count_5 rfl hl (by decide) rfl (fun ls hl => ?_)
    refine lv_iload_n hx hb d_F_count_6 rfl (lv_at hl 3 rfl) ?_
    by_cases h2 : a2 = 0
    · refine lv_tableIn (off := 33) (tgt := 40) hx hb d_F_count_7 (by rw [h2]; decide) (by rw [h2]; decide) (by rw [h2]; rfl) (by decide) ?_
      refine lv_aload_n hx hb d_F_count_40 rfl (lv_at hl 0 rfl) ?_
      refine g_getN E hH (gc_N (endOf_N h1)) cl_N 4 (by decide) lf_F_82 rfl d_F_count_41 ?_
      refine g_getiN (v := ((sp_F_endOf G0 a1).2.2 ((tn (sp_F_endOf G0 a1).2.1) + 8) 7)) E hH (gc_R (kN_receiver (endOf_N h1))) cl_R 7 (by decide) lf_F_108 (fun _ => rfl) rfl d_F_count_44 ?_
      exact x_iret E hH (hsp.trans (by rw [sp_F_count]; exact ((if_pos h1).trans (if_pos h2)))) d_F_count_47
    · by_cases h3 : a2 = 1
      · refine lv_tableIn (off := 41) (tgt := 48) hx hb d_F_count_7 (by rw [h3]; decide) (by rw [h3]; decide) (by rw [h3]; rfl) (by decide) ?_
        refine lv_aload_n hx hb d_F_count_48 rfl (lv_at hl 0 rfl) ?_
        refine g_getN E hH (gc_N (endOf_N h1)) cl_N 3 (by decide) lf_F_73 rfl d_F_count_49 ?_
        refine g_getiN (v := ((sp_F_endOf G0 a1).2.2 ((tn (sp_F_endOf G0 a1).2.1) + 7) 6)) E hH (gc_D (kN_decoder (endOf_N h1))) cl_D 6 (by decide) lf_F_111 (fun _ => rfl) rfl d_F_count_52 ?_
        exact x_iret E hH (hsp.trans (by rw [sp_F_count]; exact ((if_pos h1).trans ((if_neg h2).trans (if_pos h3))))) d_F_count_55
      · by_cases h4 : a2 = 2
        · refine lv_tableIn (off := 49) (tgt := 56) hx hb d_F_count_7 (by rw [h4]; decide) (by rw [h4]; decide) (by rw [h4]; rfl) (by decide) ?_
          refine lv_aload_n hx hb d_F_count_56 rfl (lv_at hl 0 rfl) ?_
          refine g_getN E hH (gc_N (endOf_N h1)) cl_N 4 (by decide) lf_F_82 rfl d_F_count_57 ?_
          refine g_getiN (v := ((sp_F_endOf G0 a1).2.2 ((tn (sp_F_endOf G0 a1).2.1) + 8) 8)) E hH (gc_R (kN_receiver (endOf_N h1))) cl_R 8 (by decide) lf_F_114 (fun _ => rfl) rfl d_F_count_60 ?_
          exact x_iret E hH (hsp.trans (by rw [sp_F_count]; exact ((if_pos h1).trans ((if_neg h2).trans ((if_neg h3).trans (if_pos h4)))))) d_F_count_63
        · by_cases h5 : a2 = 3
          · refine lv_tableIn (off := 57) (tgt := 64) hx hb d_F_count_7 (by rw [h5]; decide) (by rw [h5]; decide) (by rw [h5]; rfl) (by decide) ?_
            refine lv_aload_n hx hb d_F_count_64 rfl (lv_at hl 0 rfl) ?_
            refine g_getN E hH (gc_N (endOf_N h1)) cl_N 4 (by decide) lf_F_82 rfl d_F_count_65 ?_
            refine g_getN E hH (gc_R (kN_receiver (endOf_N h1))) cl_R 0 (by decide) lf_F_91 rfl d_F_count_68 ?_
            refine g_getiN (v := ((sp_F_endOf G0 a1).2.2 (((tn (sp_F_endOf G0 a1).2.1) + 8) + 1) 11)) E hH (gc_O (kR_rounds (kN_receiver (endOf_N h1)))) cl_O 11 (by decide) lf_F_117 (fun _ => rfl) rfl d_F_count_71 ?_
            exact x_iret E hH (hsp.trans (by rw [sp_F_count]; exact ((if_pos h1).trans ((if_neg h2).trans ((if_neg h3).trans ((if_neg h4).trans (if_pos h5))))))) d_F_count_74
          · by_cases h6 : a2 = 4
            · refine lv_tableIn (off := 68) (tgt := 75) hx hb d_F_count_7 (by rw [h6]; decide) (by rw [h6]; decide) (by rw [h6]; rfl) (by decide) ?_
              refine lv_aload_n hx hb d_F_count_75 rfl (lv_at hl 0 rfl) ?_
              refine g_getN E hH (gc_N (endOf_N h1)) cl_N 4 (by decide) lf_F_82 rfl d_F_count_76 ?_
              refine g_getN E hH (gc_R (kN_receiver (endOf_N h1))) cl_R 0 (by decide) lf_F_91 rfl d_F_count_79 ?_
              refine g_getiN (v := ((sp_F_endOf G0 a1).2.2 (((tn (sp_F_endOf G0 a1).2.1) + 8) + 1) 12)) E hH (gc_O (kR_rounds (kN_receiver (endOf_N h1)))) cl_O 12 (by decide) lf_F_120 (fun _ => rfl) rfl d_F_count_82 ?_
              exact x_iret E hH (hsp.trans (by rw [sp_F_count]; exact ((if_pos h1).trans ((if_neg h2).trans ((if_neg h3).trans ((if_neg h4).trans ((if_neg h5).trans (if_pos h6)))))))) d_F_count_85
            · refine lv_tableOut (tgt := 86) hx hb d_F_count_7 (tb5_out h2 h3 h4 h5 h6) (by decide) ?_
              have hX : sp_F_count G0 a1 a2 = (1, 0, (sp_F_endOf G0 a1).2.2) := (hsp.trans (by rw [sp_F_count]; exact ((if_pos h1).trans ((if_neg h2).trans ((if_neg h3).trans ((if_neg h4).trans ((if_neg h5).trans (if_neg h6))))))))
              exact x_throw E hx0 hH hl htr hno (by rw [hX]; show (1 : Int32) ≠ 0; decide) (by rw [hX]; rfl) (by rw [hX]) xOk_a (by decide +kernel) lk_F_123 li_IllegalArgumentException hx0.2.2.2.2.2.1 (Nat.le_of_ble_eq_true rfl) (Nat.le_of_ble_eq_true rfl) (Nat.le_of_ble_eq_true rfl) (Nat.le_of_ble_eq_true rfl) d_F_count_86 d_F_count_89 d_F_count_90 d_F_count_92 d_F_count_95
  · exact x_on E hno h1 (hsp.trans (by rw [sp_F_count]; exact (if_neg h1))) hH hce hcv hcl
