def sp_R_isAligned (c : Nat) (G0 : Mem)  : Int32 :=
  ((if n3 (G0 c 1) = n3 2 then 1 else 0) : Int32)
set_option maxHeartbeats 4000000 in
set_option maxRecDepth 100000 in
theorem c_R_isAligned (l : Launch) (P : gP) (G0 : Mem) (c : Nat)  (hc : kR c) : gMrz l y_R_isAligned b_R_isAligned 1 (some .boolean) ({ frames := 0, cells := 0, slots := 0, locals := 0 }) [.ref (gad P c)] P G0 (sp_R_isAligned c G0) := by
  refine Met.ofW (cc := b_R_isAligned) (maxL := 1) (ret := (some .boolean)) (by decide) rfl ?_
  intro p e s m args below meth c0 s₁ B hml hv
  obtain ⟨rfl, hpre⟩ := hv
  obtain ⟨E, hH⟩ := gE_of B hml hpre
  replace E : gE p s m _ meth c0 P "FramedLine$Receiver" b_R_isAligned 1 (some .boolean) := E
  have hcU := hc
  unfold kR at hcU
  have hx := E.1
  have hb := E.2.1
  have hl := lv_entry ([.ref (gad P c)]) (n := 1) (Nat.le_of_ble_eq_true rfl)
  rw [lg_entry_eq]
  generalize (lg_sl ([.ref (gad P c)]) ++ List.replicate (1 - (lg_sl ([.ref (gad P c)])).length) Slot.unset).toArray = ls at hl ⊢
  replace hl : lv_has ls 1 [(0, .ref (gad P c))] := hl
  have hsp : sp_R_isAligned c G0 = sp_R_isAligned c G0 := rfl
  refine lv_aload_n hx hb d_R_isAligned_0 rfl (lv_at hl 0 rfl) ?_
  refine g_gete (v := (G0 c 1)) E hH (gc_R hc) cl_R 1 (by decide) lf_R_24 (fun _ => rfl) rfl d_R_isAligned_1 ?_
  refine g_gets (x := 2) E hH 2 (by decide) (by decide) lf_R_53 d_R_isAligned_4 ?_
  refine jn (α := Int32) (fun z H1 locs1 => z = ((if n3 (G0 c 1) = n3 2 then 1 else 0) : Int32) ∧ isB z ∧ gH P s G0 H1 locs1) (fun z => F0 m 15 ls (.int z :: [])) (fun z H locs h9 => ?_) (fun hJ => ?_)
  · obtain ⟨rfl, hz15, hH⟩ := h9
    exact g_rzret E hH (hsp.trans (by rw [sp_R_isAligned])) hz15 d_R_isAligned_15
  · refine g_acmp_ne (tgt := 14) E hb d_R_isAligned_7 (by decide) (fun h1 => ?_) (fun h1 => ?_)
    · refine lv_iconst (v := 0) hx hb d_R_isAligned_14 (by decide) ?_
      exact hJ _ _ _ ⟨by simp only [if_neg h1], isB_0, hH⟩
    · refine lv_iconst (v := 1) hx hb d_R_isAligned_10 (by decide) ?_
      refine lv_goto (tgt := 15) hx hb d_R_isAligned_11 (by decide) ?_
      exact hJ _ _ _ ⟨by simp only [if_pos h1], isB_1, hH⟩

def sp_R_byteOf (c : Nat) (G0 : Mem) (a1 : Int32) : Int32 :=
  (if (G0 c 7) = 0 then ((-1) : Int32) else ((iu (G0 c 6) (32 - (8 * (a1 + 1)))) &&& (255 : Int32)))
set_option maxHeartbeats 4000000 in
set_option maxRecDepth 100000 in
theorem c_R_byteOf (l : Launch) (P : gP) (G0 : Mem) (c : Nat) (a1 : Int32) (hc : kR c) : gMri l y_R_byteOf b_R_byteOf 2 (some .int) ({ frames := 0, cells := 0, slots := 0, locals := 0 }) [.ref (gad P c), .int a1] P G0 (sp_R_byteOf c G0 a1) := by
  refine Met.ofW (cc := b_R_byteOf) (maxL := 2) (ret := (some .int)) (by decide) rfl ?_
  intro p e s m args below meth c0 s₁ B hml hv
  obtain ⟨rfl, hpre⟩ := hv
  obtain ⟨E, hH⟩ := gE_of B hml hpre
  replace E : gE p s m _ meth c0 P "FramedLine$Receiver" b_R_byteOf 2 (some .int) := E
  have hcU := hc
  unfold kR at hcU
  have hx := E.1
  have hb := E.2.1
  have hl := lv_entry ([.ref (gad P c), .int a1]) (n := 2) (Nat.le_of_ble_eq_true rfl)
  rw [lg_entry_eq]
  generalize (lg_sl ([.ref (gad P c), .int a1]) ++ List.replicate (2 - (lg_sl ([.ref (gad P c), .int a1])).length) Slot.unset).toArray = ls at hl ⊢
  replace hl : lv_has ls 2 [(0, .ref (gad P c)), (1, .int a1)] := hl
  have hsp : sp_R_byteOf c G0 a1 = sp_R_byteOf c G0 a1 := rfl
  refine lv_aload_n hx hb d_R_byteOf_0 rfl (lv_at hl 0 rfl) ?_
  refine g_geti (v := (G0 c 7)) E hH (gc_R hc) cl_R 7 (by decide) lf_R_44 (fun _ => rfl) rfl d_R_byteOf_1 ?_
  refine lv_if_ne (tgt := 9) hx hb d_R_byteOf_4 (by decide) (fun h1 => ?_) (fun h1 => ?_)
  · refine lv_aload_n hx hb d_R_byteOf_9 rfl (lv_at hl 0 rfl) ?_
    refine g_geti (v := (G0 c 6)) E hH (gc_R hc) cl_R 6 (by decide) lf_R_41 (fun _ => rfl) rfl d_R_byteOf_10 ?_
    refine lv_bipush (v := 32) hx hb d_R_byteOf_13 (by decide) ?_
    refine lv_bipush (v := 8) hx hb d_R_byteOf_15 (by decide) ?_
    refine lv_iload_n hx hb d_R_byteOf_17 rfl (lv_at hl 1 rfl) ?_
    refine lv_iconst (v := 1) hx hb d_R_byteOf_18 (by decide) ?_
    refine lv_iadd hx hb d_R_byteOf_19 ?_
    refine lv_imul hx hb d_R_byteOf_20 ?_
    refine lv_isub hx hb d_R_byteOf_21 ?_
    refine lv_iushr (v := (iu (G0 c 6) (32 - (8 * (a1 + 1))))) hx hb d_R_byteOf_22 rfl ?_
    refine lv_sipush (v := 255) hx hb d_R_byteOf_23 (by decide) ?_
    refine lv_iand hx hb d_R_byteOf_26 ?_
    exact g_riret E hH (hsp.trans (by simp only [sp_R_byteOf, if_neg h1])) d_R_byteOf_27
  · refine lv_iconst (v := (-1)) hx hb d_R_byteOf_7 (by decide) ?_
    exact g_riret E hH (hsp.trans (by simp only [sp_R_byteOf, if_pos h1])) d_R_byteOf_8

def sp_R_wordStands (c : Nat) (G0 : Mem)  : Int32 :=
  ((if ((G0 c 2) &&& (127 : Int32)) = 27 then 1 else 0) : Int32)
set_option maxHeartbeats 4000000 in
set_option maxRecDepth 100000 in
theorem c_R_wordStands (l : Launch) (P : gP) (G0 : Mem) (c : Nat)  (hc : kR c) : gMrz l y_R_wordStands b_R_wordStands 1 (some .boolean) ({ frames := 0, cells := 0, slots := 0, locals := 0 }) [.ref (gad P c)] P G0 (sp_R_wordStands c G0) := by
  refine Met.ofW (cc := b_R_wordStands) (maxL := 1) (ret := (some .boolean)) (by decide) rfl ?_
  intro p e s m args below meth c0 s₁ B hml hv
  obtain ⟨rfl, hpre⟩ := hv
  obtain ⟨E, hH⟩ := gE_of B hml hpre
  replace E : gE p s m _ meth c0 P "FramedLine$Receiver" b_R_wordStands 1 (some .boolean) := E
  have hcU := hc
  unfold kR at hcU
  have hx := E.1
  have hb := E.2.1
  have hl := lv_entry ([.ref (gad P c)]) (n := 1) (Nat.le_of_ble_eq_true rfl)
  rw [lg_entry_eq]
  generalize (lg_sl ([.ref (gad P c)]) ++ List.replicate (1 - (lg_sl ([.ref (gad P c)])).length) Slot.unset).toArray = ls at hl ⊢
  replace hl : lv_has ls 1 [(0, .ref (gad P c))] := hl
  have hsp : sp_R_wordStands c G0 = sp_R_wordStands c G0 := rfl
  refine lv_aload_n hx hb d_R_wordStands_0 rfl (lv_at hl 0 rfl) ?_
  refine g_geti (v := (G0 c 2)) E hH (gc_R hc) cl_R 2 (by decide) lf_R_27 (fun _ => rfl) rfl d_R_wordStands_1 ?_
  refine lv_bipush (v := 127) hx hb d_R_wordStands_4 (by decide) ?_
  refine lv_iand hx hb d_R_wordStands_6 ?_
  refine lv_bipush (v := 27) hx hb d_R_wordStands_7 (by decide) ?_
  refine jn (α := Int32) (fun z H1 locs1 => z = ((if ((G0 c 2) &&& (127 : Int32)) = 27 then 1 else 0) : Int32) ∧ isB z ∧ gH P s G0 H1 locs1) (fun z => F0 m 17 ls (.int z :: [])) (fun z H locs h9 => ?_) (fun hJ => ?_)
  · obtain ⟨rfl, hz17, hH⟩ := h9
    exact g_rzret E hH (hsp.trans (by rw [sp_R_wordStands])) hz17 d_R_wordStands_17
  · refine lv_icmp_ne (tgt := 16) hx hb d_R_wordStands_9 (by decide) (fun h1 => ?_) (fun h1 => ?_)
    · refine lv_iconst (v := 0) hx hb d_R_wordStands_16 (by decide) ?_
      exact hJ _ _ _ ⟨by simp only [if_neg h1], isB_0, hH⟩
    · refine lv_iconst (v := 1) hx hb d_R_wordStands_12 (by decide) ?_
      refine lv_goto (tgt := 17) hx hb d_R_wordStands_13 (by decide) ?_
      exact hJ _ _ _ ⟨by simp only [if_pos h1], isB_1, hH⟩

def sp_R_enter (c : Nat) (G0 : Mem) (a1 : Int32) : Mem :=
  (wr (wr G0 c 1 a1) c 3 0)
set_option maxHeartbeats 4000000 in
set_option maxRecDepth 100000 in
theorem c_R_enter (l : Launch) (P : gP) (G0 : Mem) (c : Nat) (a1 : Int32) (hc : kR c) : gMv l y_R_enter b_R_enter 2 none ({ frames := 0, cells := 0, slots := 0, locals := 0 }) [.ref (gad P c), .ref (gae P a1)] P G0 (sp_R_enter c G0 a1) := by
  refine Met.ofW (cc := b_R_enter) (maxL := 2) (ret := none) (by decide) rfl ?_
  intro p e s m args below meth c0 s₁ B hml hv
  obtain ⟨rfl, hpre⟩ := hv
  obtain ⟨E, hH⟩ := gE_of B hml hpre
  replace E : gE p s m _ meth c0 P "FramedLine$Receiver" b_R_enter 2 none := E
  have hcU := hc
  unfold kR at hcU
  have hx := E.1
  have hb := E.2.1
  have hl := lv_entry ([.ref (gad P c), .ref (gae P a1)]) (n := 2) (Nat.le_of_ble_eq_true rfl)
  rw [lg_entry_eq]
  generalize (lg_sl ([.ref (gad P c), .ref (gae P a1)]) ++ List.replicate (2 - (lg_sl ([.ref (gad P c), .ref (gae P a1)])).length) Slot.unset).toArray = ls at hl ⊢
  replace hl : lv_has ls 2 [(0, .ref (gad P c)), (1, .ref (gae P a1))] := hl
  have hsp : sp_R_enter c G0 a1 = sp_R_enter c G0 a1 := rfl
  refine lv_aload_n hx hb d_R_enter_0 rfl (lv_at hl 0 rfl) ?_
  refine lv_aload_n hx hb d_R_enter_1 rfl (lv_at hl 1 rfl) ?_
  refine g_pute E hH (gc_R hc) cl_R ct_R 1 (by decide) lf_R_24 rfl (by decide +kernel) (fun _ _ => rfl) (Nat.le_of_ble_eq_true rfl) d_R_enter_2 (fun H locs hH => ?_)
  refine lv_aload_n hx hb d_R_enter_5 rfl (lv_at hl 0 rfl) ?_
  refine lv_iconst (v := 0) hx hb d_R_enter_6 (by decide) ?_
  refine g_puti E hH (gc_R hc) cl_R ct_R 3 (by decide) lf_R_31 rfl (by decide +kernel) (fun _ _ => rfl) (Nat.le_of_ble_eq_true rfl) d_R_enter_7 (fun H locs hH => ?_)
  exact g_vret E hH (hsp.trans (by rw [sp_R_enter])) d_R_enter_10

def sp_R_search (c : Nat) (G0 : Mem)  : Mem :=
  (if (G0 c 3) < 7 then G0 else (if ((sp_R_wordStands c G0)) = 0 then G0 else (sp_R_enter c G0 1)))
set_option maxHeartbeats 4000000 in
set_option maxRecDepth 100000 in
theorem c_R_search (l : Launch) (P : gP) (G0 : Mem) (c : Nat)  (hc : kR c) : gMv l y_R_search b_R_search 1 none ({ frames := 1, cells := 0, slots := 0, locals := 21 }) [.ref (gad P c)] P G0 (sp_R_search c G0) := by
  refine Met.ofW (cc := b_R_search) (maxL := 1) (ret := none) (by decide) rfl ?_
  intro p e s m args below meth c0 s₁ B hml hv
  obtain ⟨rfl, hpre⟩ := hv
  obtain ⟨E, hH⟩ := gE_of B hml hpre
  replace E : gE p s m _ meth c0 P "FramedLine$Receiver" b_R_search 1 none := E
  have hcU := hc
  unfold kR at hcU
  have hx := E.1
  have hb := E.2.1
  have hl := lv_entry ([.ref (gad P c)]) (n := 1) (Nat.le_of_ble_eq_true rfl)
  rw [lg_entry_eq]
  generalize (lg_sl ([.ref (gad P c)]) ++ List.replicate (1 - (lg_sl ([.ref (gad P c)])).length) Slot.unset).toArray = ls at hl ⊢
  replace hl : lv_has ls 1 [(0, .ref (gad P c))] := hl
  have hsp : sp_R_search c G0 = sp_R_search c G0 := rfl
  refine lv_aload_n hx hb d_R_search_0 rfl (lv_at hl 0 rfl) ?_
  refine g_geti (v := (G0 c 3)) E hH (gc_R hc) cl_R 3 (by decide) lf_R_31 (fun _ => rfl) rfl d_R_search_1 ?_
  refine lv_bipush (v := 7) hx hb d_R_search_4 (by decide) ?_
  refine lv_icmp_lt (tgt := 23) hx hb d_R_search_6 (by decide) (fun h1 => ?_) (fun h1 => ?_)
  · exact g_vret E hH (hsp.trans (by simp only [sp_R_search, if_pos h1])) d_R_search_23
  · refine lv_aload_n hx hb d_R_search_9 rfl (lv_at hl 0 rfl) ?_
    refine g_callVrz (As := []) E hH hl (c_R_wordStands l P _ c hc) lm_R_72 (gc_R hc) cl_R (Nat.le_of_ble_eq_true rfl) (Nat.le_of_ble_eq_true rfl) (Nat.le_of_ble_eq_true rfl) (Nat.le_of_ble_eq_true rfl) (Nat.le_of_ble_eq_true rfl) rfl rfl rfl rfl d_R_search_10 (fun H locs hH hz10 => ?_)
    refine lv_if_eq (tgt := 23) hx hb d_R_search_13 (by decide) (fun h2 => ?_) (fun h2 => ?_)
    · exact g_vret E hH (hsp.trans (by simp only [sp_R_search, if_neg h1, if_pos h2])) d_R_search_23
    · refine lv_aload_n hx hb d_R_search_16 rfl (lv_at hl 0 rfl) ?_
      refine g_gets (x := 1) E hH 1 (by decide) (by decide) lf_R_59 d_R_search_17 ?_
      refine g_callVv (As := [.ref (gae P 1)]) E hH hl (c_R_enter l P _ c _ hc) lm_R_76 (gc_R hc) cl_R (Nat.le_of_ble_eq_true rfl) (Nat.le_of_ble_eq_true rfl) (Nat.le_of_ble_eq_true rfl) (Nat.le_of_ble_eq_true rfl) (Nat.le_of_ble_eq_true rfl) rfl rfl rfl rfl d_R_search_20 (fun H locs hH => ?_)
      exact g_vret E hH (hsp.trans (by simp only [sp_R_search, if_neg h1, if_neg h2])) d_R_search_23

def sp_R_align (c : Nat) (G0 : Mem)  : Mem :=
  (wr (wr (wr (sp_R_enter c G0 2) c 3 8) c 4 0) c 5 0)
set_option maxHeartbeats 4000000 in
set_option maxRecDepth 100000 in
theorem c_R_align (l : Launch) (P : gP) (G0 : Mem) (c : Nat)  (hc : kR c) : gMv l y_R_align b_R_align 1 none ({ frames := 1, cells := 0, slots := 0, locals := 21 }) [.ref (gad P c)] P G0 (sp_R_align c G0) := by
  refine Met.ofW (cc := b_R_align) (maxL := 1) (ret := none) (by decide) rfl ?_
  intro p e s m args below meth c0 s₁ B hml hv
  obtain ⟨rfl, hpre⟩ := hv
  obtain ⟨E, hH⟩ := gE_of B hml hpre
  replace E : gE p s m _ meth c0 P "FramedLine$Receiver" b_R_align 1 none := E
  have hcU := hc
  unfold kR at hcU
  have hx := E.1
  have hb := E.2.1
  have hl := lv_entry ([.ref (gad P c)]) (n := 1) (Nat.le_of_ble_eq_true rfl)
  rw [lg_entry_eq]
  generalize (lg_sl ([.ref (gad P c)]) ++ List.replicate (1 - (lg_sl ([.ref (gad P c)])).length) Slot.unset).toArray = ls at hl ⊢
  replace hl : lv_has ls 1 [(0, .ref (gad P c))] := hl
  have hsp : sp_R_align c G0 = sp_R_align c G0 := rfl
  refine lv_aload_n hx hb d_R_align_0 rfl (lv_at hl 0 rfl) ?_
  refine g_gets (x := 2) E hH 2 (by decide) (by decide) lf_R_53 d_R_align_1 ?_
  refine g_callVv (As := [.ref (gae P 2)]) E hH hl (c_R_enter l P _ c _ hc) lm_R_76 (gc_R hc) cl_R (Nat.le_of_ble_eq_true rfl) (Nat.le_of_ble_eq_true rfl) (Nat.le_of_ble_eq_true rfl) (Nat.le_of_ble_eq_true rfl) (Nat.le_of_ble_eq_true rfl) rfl rfl rfl rfl d_R_align_4 (fun H locs hH => ?_)
  refine lv_aload_n hx hb d_R_align_7 rfl (lv_at hl 0 rfl) ?_
  refine lv_bipush (v := 8) hx hb d_R_align_8 (by decide) ?_
  refine g_puti E hH (gc_R hc) cl_R ct_R 3 (by decide) lf_R_31 rfl (by decide +kernel) (fun _ _ => rfl) (Nat.le_of_ble_eq_true rfl) d_R_align_10 (fun H locs hH => ?_)
  refine lv_aload_n hx hb d_R_align_13 rfl (lv_at hl 0 rfl) ?_
  refine lv_iconst (v := 0) hx hb d_R_align_14 (by decide) ?_
  refine g_putz E hH (gc_R hc) cl_R ct_R 4 (by decide) lf_R_34 rfl (by decide +kernel) (set_R4 _ _) isB_0 (Nat.le_of_ble_eq_true rfl) d_R_align_15 (fun H locs hH => ?_)
  refine lv_aload_n hx hb d_R_align_18 rfl (lv_at hl 0 rfl) ?_
  refine lv_iconst (v := 0) hx hb d_R_align_19 (by decide) ?_
  refine g_puti E hH (gc_R hc) cl_R ct_R 5 (by decide) lf_R_38 rfl (by decide +kernel) (fun _ _ => rfl) (Nat.le_of_ble_eq_true rfl) d_R_align_20 (fun H locs hH => ?_)
  exact g_vret E hH (hsp.trans (by rw [sp_R_align])) d_R_align_23

def sp_R_tryWord (c : Nat) (G0 : Mem) (a1 : Int32) : Mem :=
  (if (G0 c 3) = 26 then (if a1 = 0 then (sp_R_enter c G0 0) else (if (G0 c 3) = 64 then (if ((sp_R_wordStands c G0)) = 0 then (sp_R_enter c G0 0) else (sp_R_align c G0)) else G0)) else (if (G0 c 3) = 64 then (if ((sp_R_wordStands c G0)) = 0 then (sp_R_enter c G0 0) else (sp_R_align c G0)) else G0))
set_option maxHeartbeats 4000000 in
set_option maxRecDepth 100000 in
theorem c_R_tryWord (l : Launch) (P : gP) (G0 : Mem) (c : Nat) (a1 : Int32) (hc : kR c) : gMv l y_R_tryWord b_R_tryWord 2 none ({ frames := 2, cells := 0, slots := 0, locals := 41 }) [.ref (gad P c), .int a1] P G0 (sp_R_tryWord c G0 a1) := by
  refine Met.ofW (cc := b_R_tryWord) (maxL := 2) (ret := none) (by decide) rfl ?_
  intro p e s m args below meth c0 s₁ B hml hv
  obtain ⟨rfl, hpre⟩ := hv
  obtain ⟨E, hH⟩ := gE_of B hml hpre
  replace E : gE p s m _ meth c0 P "FramedLine$Receiver" b_R_tryWord 2 none := E
  have hcU := hc
  unfold kR at hcU
  have hx := E.1
  have hb := E.2.1
  have hl := lv_entry ([.ref (gad P c), .int a1]) (n := 2) (Nat.le_of_ble_eq_true rfl)
  rw [lg_entry_eq]
  generalize (lg_sl ([.ref (gad P c), .int a1]) ++ List.replicate (2 - (lg_sl ([.ref (gad P c), .int a1])).length) Slot.unset).toArray = ls at hl ⊢
  replace hl : lv_has ls 2 [(0, .ref (gad P c)), (1, .int a1)] := hl
  have hsp : sp_R_tryWord c G0 a1 = sp_R_tryWord c G0 a1 := rfl
  refine lv_aload_n hx hb d_R_tryWord_0 rfl (lv_at hl 0 rfl) ?_
  refine g_geti (v := (G0 c 3)) E hH (gc_R hc) cl_R 3 (by decide) lf_R_31 (fun _ => rfl) rfl d_R_tryWord_1 ?_
  refine lv_bipush (v := 26) hx hb d_R_tryWord_4 (by decide) ?_
  refine lv_icmp_ne (tgt := 23) hx hb d_R_tryWord_6 (by decide) (fun h1 => ?_) (fun h1 => ?_)
  · refine lv_aload_n hx hb d_R_tryWord_23 rfl (lv_at hl 0 rfl) ?_
    refine g_geti (v := (G0 c 3)) E hH (gc_R hc) cl_R 3 (by decide) lf_R_31 (fun _ => rfl) rfl d_R_tryWord_24 ?_
    refine lv_bipush (v := 64) hx hb d_R_tryWord_27 (by decide) ?_
    refine lv_icmp_ne (tgt := 53) hx hb d_R_tryWord_29 (by decide) (fun h2 => ?_) (fun h2 => ?_)
    · exact g_vret E hH (hsp.trans (by simp only [sp_R_tryWord, if_neg h1, if_neg h2])) d_R_tryWord_53
    · refine lv_aload_n hx hb d_R_tryWord_32 rfl (lv_at hl 0 rfl) ?_
      refine g_callVrz (As := []) E hH hl (c_R_wordStands l P _ c hc) lm_R_72 (gc_R hc) cl_R (Nat.le_of_ble_eq_true rfl) (Nat.le_of_ble_eq_true rfl) (Nat.le_of_ble_eq_true rfl) (Nat.le_of_ble_eq_true rfl) (Nat.le_of_ble_eq_true rfl) rfl rfl rfl rfl d_R_tryWord_33 (fun H locs hH hz33 => ?_)
      refine lv_if_eq (tgt := 46) hx hb d_R_tryWord_36 (by decide) (fun h3 => ?_) (fun h3 => ?_)
      · refine lv_aload_n hx hb d_R_tryWord_46 rfl (lv_at hl 0 rfl) ?_
        refine g_gets (x := 0) E hH 0 (by decide) (by decide) lf_R_18 d_R_tryWord_47 ?_
        refine g_callVv (As := [.ref (gae P 0)]) E hH hl (c_R_enter l P _ c _ hc) lm_R_76 (gc_R hc) cl_R (Nat.le_of_ble_eq_true rfl) (Nat.le_of_ble_eq_true rfl) (Nat.le_of_ble_eq_true rfl) (Nat.le_of_ble_eq_true rfl) (Nat.le_of_ble_eq_true rfl) rfl rfl rfl rfl d_R_tryWord_50 (fun H locs hH => ?_)
        exact g_vret E hH (hsp.trans (by simp only [sp_R_tryWord, if_neg h1, if_pos h2, if_pos h3])) d_R_tryWord_53
      · refine lv_aload_n hx hb d_R_tryWord_39 rfl (lv_at hl 0 rfl) ?_
        refine g_callVv (As := []) E hH hl (c_R_align l P _ c hc) lm_R_80 (gc_R hc) cl_R (Nat.le_of_ble_eq_true rfl) (Nat.le_of_ble_eq_true rfl) (Nat.le_of_ble_eq_true rfl) (Nat.le_of_ble_eq_true rfl) (Nat.le_of_ble_eq_true rfl) rfl rfl rfl rfl d_R_tryWord_40 (fun H locs hH => ?_)
        refine lv_goto (tgt := 53) hx hb d_R_tryWord_43 (by decide) ?_
        exact g_vret E hH (hsp.trans (by simp only [sp_R_tryWord, if_neg h1, if_pos h2, if_neg h3])) d_R_tryWord_53
  · refine lv_iload_n hx hb d_R_tryWord_9 rfl (lv_at hl 1 rfl) ?_
    refine lv_if_ne (tgt := 23) hx hb d_R_tryWord_10 (by decide) (fun h4 => ?_) (fun h4 => ?_)
    · refine lv_aload_n hx hb d_R_tryWord_23 rfl (lv_at hl 0 rfl) ?_
      refine g_geti (v := (G0 c 3)) E hH (gc_R hc) cl_R 3 (by decide) lf_R_31 (fun _ => rfl) rfl d_R_tryWord_24 ?_
      refine lv_bipush (v := 64) hx hb d_R_tryWord_27 (by decide) ?_
      refine lv_icmp_ne (tgt := 53) hx hb d_R_tryWord_29 (by decide) (fun h5 => ?_) (fun h5 => ?_)
      · exact g_vret E hH (hsp.trans (by simp only [sp_R_tryWord, if_pos h1, if_neg h4, if_neg h5])) d_R_tryWord_53
      · refine lv_aload_n hx hb d_R_tryWord_32 rfl (lv_at hl 0 rfl) ?_
        refine g_callVrz (As := []) E hH hl (c_R_wordStands l P _ c hc) lm_R_72 (gc_R hc) cl_R (Nat.le_of_ble_eq_true rfl) (Nat.le_of_ble_eq_true rfl) (Nat.le_of_ble_eq_true rfl) (Nat.le_of_ble_eq_true rfl) (Nat.le_of_ble_eq_true rfl) rfl rfl rfl rfl d_R_tryWord_33 (fun H locs hH hz33 => ?_)
        refine lv_if_eq (tgt := 46) hx hb d_R_tryWord_36 (by decide) (fun h6 => ?_) (fun h6 => ?_)
        · refine lv_aload_n hx hb d_R_tryWord_46 rfl (lv_at hl 0 rfl) ?_
          refine g_gets (x := 0) E hH 0 (by decide) (by decide) lf_R_18 d_R_tryWord_47 ?_
          refine g_callVv (As := [.ref (gae P 0)]) E hH hl (c_R_enter l P _ c _ hc) lm_R_76 (gc_R hc) cl_R (Nat.le_of_ble_eq_true rfl) (Nat.le_of_ble_eq_true rfl) (Nat.le_of_ble_eq_true rfl) (Nat.le_of_ble_eq_true rfl) (Nat.le_of_ble_eq_true rfl) rfl rfl rfl rfl d_R_tryWord_50 (fun H locs hH => ?_)
          exact g_vret E hH (hsp.trans (by simp only [sp_R_tryWord, if_pos h1, if_neg h4, if_pos h5, if_pos h6])) d_R_tryWord_53
        · refine lv_aload_n hx hb d_R_tryWord_39 rfl (lv_at hl 0 rfl) ?_
          refine g_callVv (As := []) E hH hl (c_R_align l P _ c hc) lm_R_80 (gc_R hc) cl_R (Nat.le_of_ble_eq_true rfl) (Nat.le_of_ble_eq_true rfl) (Nat.le_of_ble_eq_true rfl) (Nat.le_of_ble_eq_true rfl) (Nat.le_of_ble_eq_true rfl) rfl rfl rfl rfl d_R_tryWord_40 (fun H locs hH => ?_)
          refine lv_goto (tgt := 53) hx hb d_R_tryWord_43 (by decide) ?_
          exact g_vret E hH (hsp.trans (by simp only [sp_R_tryWord, if_pos h1, if_neg h4, if_pos h5, if_neg h6])) d_R_tryWord_53
    · refine lv_aload_n hx hb d_R_tryWord_13 rfl (lv_at hl 0 rfl) ?_
      refine g_gets (x := 0) E hH 0 (by decide) (by decide) lf_R_18 d_R_tryWord_14 ?_
      refine g_callVv (As := [.ref (gae P 0)]) E hH hl (c_R_enter l P _ c _ hc) lm_R_76 (gc_R hc) cl_R (Nat.le_of_ble_eq_true rfl) (Nat.le_of_ble_eq_true rfl) (Nat.le_of_ble_eq_true rfl) (Nat.le_of_ble_eq_true rfl) (Nat.le_of_ble_eq_true rfl) rfl rfl rfl rfl d_R_tryWord_17 (fun H locs hH => ?_)
      refine lv_goto (tgt := 53) hx hb d_R_tryWord_20 (by decide) ?_
      exact g_vret E hH (hsp.trans (by simp only [sp_R_tryWord, if_pos h1, if_pos h4])) d_R_tryWord_53

def sp_R_lookAtWord (c : Nat) (G0 : Mem)  : Mem :=
  (if ((if ((sp_R_wordStands c G0)) = 0 then ((G0 c 5) + 1) else 0) : Int32) = 3 then (sp_O_startAnew (c + 1) (sp_R_enter c (wr (wr G0 c 5 ((if ((sp_R_wordStands c G0)) = 0 then ((G0 c 5) + 1) else 0) : Int32)) c 8 ((G0 c 8) + 1)) 0)) else (wr G0 c 5 ((if ((sp_R_wordStands c G0)) = 0 then ((G0 c 5) + 1) else 0) : Int32)))
set_option maxHeartbeats 4000000 in
set_option maxRecDepth 100000 in
theorem c_R_lookAtWord (l : Launch) (P : gP) (G0 : Mem) (c : Nat)  (hc : kR c) : gMv l y_R_lookAtWord b_R_lookAtWord 1 none ({ frames := 2, cells := 0, slots := 0, locals := 40 }) [.ref (gad P c)] P G0 (sp_R_lookAtWord c G0) := by
  refine Met.ofW (cc := b_R_lookAtWord) (maxL := 1) (ret := none) (by decide) rfl ?_
  intro p e s m args below meth c0 s₁ B hml hv
  obtain ⟨rfl, hpre⟩ := hv
  obtain ⟨E, hH⟩ := gE_of B hml hpre
  replace E : gE p s m _ meth c0 P "FramedLine$Receiver" b_R_lookAtWord 1 none := E
  have hcU := hc
  unfold kR at hcU
  have hx := E.1
  have hb := E.2.1
  have hl := lv_entry ([.ref (gad P c)]) (n := 1) (Nat.le_of_ble_eq_true rfl)
  rw [lg_entry_eq]
  generalize (lg_sl ([.ref (gad P c)]) ++ List.replicate (1 - (lg_sl ([.ref (gad P c)])).length) Slot.unset).toArray = ls at hl ⊢
  replace hl : lv_has ls 1 [(0, .ref (gad P c))] := hl
  have hsp : sp_R_lookAtWord c G0 = sp_R_lookAtWord c G0 := rfl
  refine lv_aload_n hx hb d_R_lookAtWord_0 rfl (lv_at hl 0 rfl) ?_
  refine lv_aload_n hx hb d_R_lookAtWord_1 rfl (lv_at hl 0 rfl) ?_
  refine g_callVrz (As := []) E hH hl (c_R_wordStands l P _ c hc) lm_R_72 (gc_R hc) cl_R (Nat.le_of_ble_eq_true rfl) (Nat.le_of_ble_eq_true rfl) (Nat.le_of_ble_eq_true rfl) (Nat.le_of_ble_eq_true rfl) (Nat.le_of_ble_eq_true rfl) rfl rfl rfl rfl d_R_lookAtWord_2 (fun H locs hH hz2 => ?_)
  refine jn (α := Int32) (fun z H1 locs1 => z = ((if ((sp_R_wordStands c G0)) = 0 then ((G0 c 5) + 1) else 0) : Int32) ∧ gH P s G0 H1 locs1) (fun z => F0 m 18 ls (.int z :: .ref (gad P c) :: [])) (fun z H locs h9 => ?_) (fun hJ => ?_)
  · obtain ⟨rfl, hH⟩ := h9
    refine g_puti E hH (gc_R hc) cl_R ct_R 5 (by decide) lf_R_38 rfl (by decide +kernel) (fun _ _ => rfl) (Nat.le_of_ble_eq_true rfl) d_R_lookAtWord_18 (fun H locs hH => ?_)
    refine lv_aload_n hx hb d_R_lookAtWord_21 rfl (lv_at hl 0 rfl) ?_
    refine g_geti (v := ((if ((sp_R_wordStands c G0)) = 0 then ((G0 c 5) + 1) else 0) : Int32)) E hH (gc_R hc) cl_R 5 (by decide) lf_R_38 (fun _ => rfl) (wr_same _ _ _ _) d_R_lookAtWord_22 ?_
    refine lv_iconst (v := 3) hx hb d_R_lookAtWord_25 (by decide) ?_
    refine lv_icmp_ne (tgt := 53) hx hb d_R_lookAtWord_26 (by decide) (fun h1 => ?_) (fun h1 => ?_)
    · exact g_vret E hH (hsp.trans (by simp only [sp_R_lookAtWord, if_neg h1])) d_R_lookAtWord_53
    · refine lv_aload_n hx hb d_R_lookAtWord_29 rfl (lv_at hl 0 rfl) ?_
      refine lv_dup hx hb d_R_lookAtWord_30 rfl ?_
      refine g_geti (v := (G0 c 8)) E hH (gc_R hc) cl_R 8 (by decide) lf_R_47 (fun _ => rfl) (wr_k _ _ _ _ (by decide)) d_R_lookAtWord_31 ?_
      refine lv_iconst (v := 1) hx hb d_R_lookAtWord_34 (by decide) ?_
      refine lv_iadd hx hb d_R_lookAtWord_35 ?_
      refine g_puti E hH (gc_R hc) cl_R ct_R 8 (by decide) lf_R_47 rfl (by decide +kernel) (fun _ _ => rfl) (Nat.le_of_ble_eq_true rfl) d_R_lookAtWord_36 (fun H locs hH => ?_)
      refine lv_aload_n hx hb d_R_lookAtWord_39 rfl (lv_at hl 0 rfl) ?_
      refine g_gets (x := 0) E hH 0 (by decide) (by decide) lf_R_18 d_R_lookAtWord_40 ?_
      refine g_callVv (As := [.ref (gae P 0)]) E hH hl (c_R_enter l P _ c _ hc) lm_R_76 (gc_R hc) cl_R (Nat.le_of_ble_eq_true rfl) (Nat.le_of_ble_eq_true rfl) (Nat.le_of_ble_eq_true rfl) (Nat.le_of_ble_eq_true rfl) (Nat.le_of_ble_eq_true rfl) rfl rfl rfl rfl d_R_lookAtWord_43 (fun H locs hH => ?_)
      refine lv_aload_n hx hb d_R_lookAtWord_46 rfl (lv_at hl 0 rfl) ?_
      refine g_get E hH (gc_R hc) cl_R 0 (by decide) lf_R_12 rfl d_R_lookAtWord_47 ?_
      refine g_callVv (As := []) E hH hl (c_O_startAnew l P _ (c + 1) (kR_rounds hc)) lm_R_83 (gc_O (kR_rounds hc)) cl_O (Nat.le_of_ble_eq_true rfl) (Nat.le_of_ble_eq_true rfl) (Nat.le_of_ble_eq_true rfl) (Nat.le_of_ble_eq_true rfl) (Nat.le_of_ble_eq_true rfl) rfl rfl rfl rfl d_R_lookAtWord_50 (fun H locs hH => ?_)
      exact g_vret E hH (hsp.trans (by simp only [sp_R_lookAtWord, if_pos h1])) d_R_lookAtWord_53
  · refine lv_if_eq (tgt := 12) hx hb d_R_lookAtWord_5 (by decide) (fun h2 => ?_) (fun h2 => ?_)
    · refine lv_aload_n hx hb d_R_lookAtWord_12 rfl (lv_at hl 0 rfl) ?_
      refine g_geti (v := (G0 c 5)) E hH (gc_R hc) cl_R 5 (by decide) lf_R_38 (fun _ => rfl) rfl d_R_lookAtWord_13 ?_
      refine lv_iconst (v := 1) hx hb d_R_lookAtWord_16 (by decide) ?_
      refine lv_iadd hx hb d_R_lookAtWord_17 ?_
      exact hJ _ _ _ ⟨by simp only [if_pos h2], hH⟩
    · refine lv_iconst (v := 0) hx hb d_R_lookAtWord_8 (by decide) ?_
      refine lv_goto (tgt := 18) hx hb d_R_lookAtWord_9 (by decide) ?_
      exact hJ _ _ _ ⟨by simp only [if_neg h2], hH⟩

def sp_R_complete (c : Nat) (G0 : Mem)  : Mem :=
  (if (zb (G0 c 4)) = 0 then (wr (wr (sp_O_takeFrame (c + 1) (wr (wr G0 c 6 (G0 c 2)) c 7 ((G0 c 7) + 1)) (G0 c 2) (zb (G0 c 4))) c 4 ((if (zb ((sp_O_takeFrame (c + 1) (wr (wr G0 c 6 (G0 c 2)) c 7 ((G0 c 7) + 1)) (G0 c 2) (zb (G0 c 4))) c 4)) = 0 then 1 else 0) : Int32)) c 3 0) else (wr (wr (sp_O_takeFrame (c + 1) (wr (wr (wr G0 c 6 (G0 c 2)) c 7 ((G0 c 7) + 1)) c 9 ((if (((sp_R_byteOf c (wr (wr G0 c 6 (G0 c 2)) c 7 ((G0 c 7) + 1)) 0)) &&& (32 : Int32)) = 0 then 0 else 1) : Int32)) (G0 c 2) (zb (G0 c 4))) c 4 ((if (zb ((sp_O_takeFrame (c + 1) (wr (wr (wr G0 c 6 (G0 c 2)) c 7 ((G0 c 7) + 1)) c 9 ((if (((sp_R_byteOf c (wr (wr G0 c 6 (G0 c 2)) c 7 ((G0 c 7) + 1)) 0)) &&& (32 : Int32)) = 0 then 0 else 1) : Int32)) (G0 c 2) (zb (G0 c 4))) c 4)) = 0 then 1 else 0) : Int32)) c 3 0))
set_option maxHeartbeats 4000000 in
set_option maxRecDepth 100000 in
theorem c_R_complete (l : Launch) (P : gP) (G0 : Mem) (c : Nat)  (hc : kR c) : gMv l y_R_complete b_R_complete 1 none ({ frames := 3, cells := 0, slots := 0, locals := 64 }) [.ref (gad P c)] P G0 (sp_R_complete c G0) := by
  refine Met.ofW (cc := b_R_complete) (maxL := 1) (ret := none) (by decide) rfl ?_
  intro p e s m args below meth c0 s₁ B hml hv
  obtain ⟨rfl, hpre⟩ := hv
  obtain ⟨E, hH⟩ := gE_of B hml hpre
  replace E : gE p s m _ meth c0 P "FramedLine$Receiver" b_R_complete 1 none := E
  have hcU := hc
  unfold kR at hcU
  have hx := E.1
  have hb := E.2.1
  have hl := lv_entry ([.ref (gad P c)]) (n := 1) (Nat.le_of_ble_eq_true rfl)
  rw [lg_entry_eq]
  generalize (lg_sl ([.ref (gad P c)]) ++ List.replicate (1 - (lg_sl ([.ref (gad P c)])).length) Slot.unset).toArray = ls at hl ⊢
  replace hl : lv_has ls 1 [(0, .ref (gad P c))] := hl
  have hsp : sp_R_complete c G0 = sp_R_complete c G0 := rfl
  refine lv_aload_n hx hb d_R_complete_0 rfl (lv_at hl 0 rfl) ?_
  refine lv_aload_n hx hb d_R_complete_1 rfl (lv_at hl 0 rfl) ?_
  refine g_geti (v := (G0 c 2)) E hH (gc_R hc) cl_R 2 (by decide) lf_R_27 (fun _ => rfl) rfl d_R_complete_2 ?_
  refine g_puti E hH (gc_R hc) cl_R ct_R 6 (by decide) lf_R_41 rfl (by decide +kernel) (fun _ _ => rfl) (Nat.le_of_ble_eq_true rfl) d_R_complete_5 (fun H locs hH => ?_)
  refine lv_aload_n hx hb d_R_complete_8 rfl (lv_at hl 0 rfl) ?_
  refine lv_dup hx hb d_R_complete_9 rfl ?_
  refine g_geti (v := (G0 c 7)) E hH (gc_R hc) cl_R 7 (by decide) lf_R_44 (fun _ => rfl) (wr_k _ _ _ _ (by decide)) d_R_complete_10 ?_
  refine lv_iconst (v := 1) hx hb d_R_complete_13 (by decide) ?_
  refine lv_iadd hx hb d_R_complete_14 ?_
  refine g_puti E hH (gc_R hc) cl_R ct_R 7 (by decide) lf_R_44 rfl (by decide +kernel) (fun _ _ => rfl) (Nat.le_of_ble_eq_true rfl) d_R_complete_15 (fun H locs hH => ?_)
  refine lv_aload_n hx hb d_R_complete_18 rfl (lv_at hl 0 rfl) ?_
  refine g_getz (v := (G0 c 4)) E hH (gc_R hc) cl_R 4 (by decide) lf_R_34 (fun _ => rfl) ((wr_k _ _ _ _ (by decide)).trans (wr_k _ _ _ _ (by decide))) d_R_complete_19 ?_
  refine lv_if_eq (tgt := 45) hx hb d_R_complete_22 (by decide) (fun h1 => ?_) (fun h1 => ?_)
  · refine lv_aload_n hx hb d_R_complete_45 rfl (lv_at hl 0 rfl) ?_
    refine g_get E hH (gc_R hc) cl_R 0 (by decide) lf_R_12 rfl d_R_complete_46 ?_
    refine lv_aload_n hx hb d_R_complete_49 rfl (lv_at hl 0 rfl) ?_
    refine g_geti (v := (G0 c 2)) E hH (gc_R hc) cl_R 6 (by decide) lf_R_41 (fun _ => rfl) ((wr_k _ _ _ _ (by decide)).trans (wr_same _ _ _ _)) d_R_complete_50 ?_
    refine lv_aload_n hx hb d_R_complete_53 rfl (lv_at hl 0 rfl) ?_
    refine g_getz (v := (G0 c 4)) E hH (gc_R hc) cl_R 4 (by decide) lf_R_34 (fun _ => rfl) ((wr_k _ _ _ _ (by decide)).trans (wr_k _ _ _ _ (by decide))) d_R_complete_54 ?_
    refine g_callVv (As := [.int _, .int _]) E hH hl (c_O_takeFrame l P _ (c + 1) _ _ (kR_rounds hc)) lm_R_90 (gc_O (kR_rounds hc)) cl_O (Nat.le_of_ble_eq_true rfl) (Nat.le_of_ble_eq_true rfl) (Nat.le_of_ble_eq_true rfl) (Nat.le_of_ble_eq_true rfl) (Nat.le_of_ble_eq_true rfl) rfl rfl rfl rfl d_R_complete_57 (fun H locs hH => ?_)
    refine lv_aload_n hx hb d_R_complete_60 rfl (lv_at hl 0 rfl) ?_
    refine lv_aload_n hx hb d_R_complete_61 rfl (lv_at hl 0 rfl) ?_
    refine g_getz (v := ((sp_O_takeFrame (c + 1) (wr (wr G0 c 6 (G0 c 2)) c 7 ((G0 c 7) + 1)) (G0 c 2) (zb (G0 c 4))) c 4)) E hH (gc_R hc) cl_R 4 (by decide) lf_R_34 (fun _ => rfl) rfl d_R_complete_62 ?_
    refine jn (α := Int32) (fun z H1 locs1 => z = ((if (zb ((sp_O_takeFrame (c + 1) (wr (wr G0 c 6 (G0 c 2)) c 7 ((G0 c 7) + 1)) (G0 c 2) (zb (G0 c 4))) c 4)) = 0 then 1 else 0) : Int32) ∧ isB z ∧ gH P s (sp_O_takeFrame (c + 1) (wr (wr G0 c 6 (G0 c 2)) c 7 ((G0 c 7) + 1)) (G0 c 2) (zb (G0 c 4))) H1 locs1) (fun z => F0 m 73 ls (.int z :: .ref (gad P c) :: [])) (fun z H locs h9 => ?_) (fun hJ => ?_)
    · obtain ⟨rfl, hz73, hH⟩ := h9
      refine g_putz E hH (gc_R hc) cl_R ct_R 4 (by decide) lf_R_34 rfl (by decide +kernel) (set_R4 _ _) hz73 (Nat.le_of_ble_eq_true rfl) d_R_complete_73 (fun H locs hH => ?_)
      refine lv_aload_n hx hb d_R_complete_76 rfl (lv_at hl 0 rfl) ?_
      refine lv_iconst (v := 0) hx hb d_R_complete_77 (by decide) ?_
      refine g_puti E hH (gc_R hc) cl_R ct_R 3 (by decide) lf_R_31 rfl (by decide +kernel) (fun _ _ => rfl) (Nat.le_of_ble_eq_true rfl) d_R_complete_78 (fun H locs hH => ?_)
      exact g_vret E hH (hsp.trans (by simp only [sp_R_complete, if_pos h1])) d_R_complete_81
    · refine lv_if_ne (tgt := 72) hx hb d_R_complete_65 (by decide) (fun h2 => ?_) (fun h2 => ?_)
      · refine lv_iconst (v := 0) hx hb d_R_complete_72 (by decide) ?_
        exact hJ _ _ _ ⟨by simp only [if_neg h2], isB_0, hH⟩
      · refine lv_iconst (v := 1) hx hb d_R_complete_68 (by decide) ?_
        refine lv_goto (tgt := 73) hx hb d_R_complete_69 (by decide) ?_
        exact hJ _ _ _ ⟨by simp only [if_pos h2], isB_1, hH⟩
  · refine lv_aload_n hx hb d_R_complete_25 rfl (lv_at hl 0 rfl) ?_
    refine lv_aload_n hx hb d_R_complete_26 rfl (lv_at hl 0 rfl) ?_
    refine lv_iconst (v := 0) hx hb d_R_complete_27 (by decide) ?_
    refine g_callVri (As := [.int _]) E hH hl (c_R_byteOf l P _ c _ hc) lm_R_86 (gc_R hc) cl_R (Nat.le_of_ble_eq_true rfl) (Nat.le_of_ble_eq_true rfl) (Nat.le_of_ble_eq_true rfl) (Nat.le_of_ble_eq_true rfl) (Nat.le_of_ble_eq_true rfl) rfl rfl rfl rfl d_R_complete_28 (fun H locs hH => ?_)
    refine lv_bipush (v := 32) hx hb d_R_complete_31 (by decide) ?_
    refine lv_iand hx hb d_R_complete_33 ?_
    refine jn (α := Int32) (fun z H1 locs1 => z = ((if (((sp_R_byteOf c (wr (wr G0 c 6 (G0 c 2)) c 7 ((G0 c 7) + 1)) 0)) &&& (32 : Int32)) = 0 then 0 else 1) : Int32) ∧ isB z ∧ gH P s (wr (wr G0 c 6 (G0 c 2)) c 7 ((G0 c 7) + 1)) H1 locs1) (fun z => F0 m 42 ls (.int z :: .ref (gad P c) :: [])) (fun z H locs h9 => ?_) (fun hJ => ?_)
    · obtain ⟨rfl, hz42, hH⟩ := h9
      refine g_putz E hH (gc_R hc) cl_R ct_R 9 (by decide) lf_R_50 rfl (by decide +kernel) (set_R9 _ _) hz42 (Nat.le_of_ble_eq_true rfl) d_R_complete_42 (fun H locs hH => ?_)
      refine lv_aload_n hx hb d_R_complete_45 rfl (lv_at hl 0 rfl) ?_
      refine g_get E hH (gc_R hc) cl_R 0 (by decide) lf_R_12 rfl d_R_complete_46 ?_
      refine lv_aload_n hx hb d_R_complete_49 rfl (lv_at hl 0 rfl) ?_
      refine g_geti (v := (G0 c 2)) E hH (gc_R hc) cl_R 6 (by decide) lf_R_41 (fun _ => rfl) ((wr_k _ _ _ _ (by decide)).trans ((wr_k _ _ _ _ (by decide)).trans (wr_same _ _ _ _))) d_R_complete_50 ?_
      refine lv_aload_n hx hb d_R_complete_53 rfl (lv_at hl 0 rfl) ?_
      refine g_getz (v := (G0 c 4)) E hH (gc_R hc) cl_R 4 (by decide) lf_R_34 (fun _ => rfl) ((wr_k _ _ _ _ (by decide)).trans ((wr_k _ _ _ _ (by decide)).trans (wr_k _ _ _ _ (by decide)))) d_R_complete_54 ?_
      refine g_callVv (As := [.int _, .int _]) E hH hl (c_O_takeFrame l P _ (c + 1) _ _ (kR_rounds hc)) lm_R_90 (gc_O (kR_rounds hc)) cl_O (Nat.le_of_ble_eq_true rfl) (Nat.le_of_ble_eq_true rfl) (Nat.le_of_ble_eq_true rfl) (Nat.le_of_ble_eq_true rfl) (Nat.le_of_ble_eq_true rfl) rfl rfl rfl rfl d_R_complete_57 (fun H locs hH => ?_)
      refine lv_aload_n hx hb d_R_complete_60 rfl (lv_at hl 0 rfl) ?_
      refine lv_aload_n hx hb d_R_complete_61 rfl (lv_at hl 0 rfl) ?_
      refine g_getz (v := ((sp_O_takeFrame (c + 1) (wr (wr (wr G0 c 6 (G0 c 2)) c 7 ((G0 c 7) + 1)) c 9 ((if (((sp_R_byteOf c (wr (wr G0 c 6 (G0 c 2)) c 7 ((G0 c 7) + 1)) 0)) &&& (32 : Int32)) = 0 then 0 else 1) : Int32)) (G0 c 2) (zb (G0 c 4))) c 4)) E hH (gc_R hc) cl_R 4 (by decide) lf_R_34 (fun _ => rfl) rfl d_R_complete_62 ?_
      refine jn (α := Int32) (fun z H1 locs1 => z = ((if (zb ((sp_O_takeFrame (c + 1) (wr (wr (wr G0 c 6 (G0 c 2)) c 7 ((G0 c 7) + 1)) c 9 ((if (((sp_R_byteOf c (wr (wr G0 c 6 (G0 c 2)) c 7 ((G0 c 7) + 1)) 0)) &&& (32 : Int32)) = 0 then 0 else 1) : Int32)) (G0 c 2) (zb (G0 c 4))) c 4)) = 0 then 1 else 0) : Int32) ∧ isB z ∧ gH P s (sp_O_takeFrame (c + 1) (wr (wr (wr G0 c 6 (G0 c 2)) c 7 ((G0 c 7) + 1)) c 9 ((if (((sp_R_byteOf c (wr (wr G0 c 6 (G0 c 2)) c 7 ((G0 c 7) + 1)) 0)) &&& (32 : Int32)) = 0 then 0 else 1) : Int32)) (G0 c 2) (zb (G0 c 4))) H1 locs1) (fun z => F0 m 73 ls (.int z :: .ref (gad P c) :: [])) (fun z H locs h9 => ?_) (fun hJ => ?_)
      · obtain ⟨rfl, hz73, hH⟩ := h9
        refine g_putz E hH (gc_R hc) cl_R ct_R 4 (by decide) lf_R_34 rfl (by decide +kernel) (set_R4 _ _) hz73 (Nat.le_of_ble_eq_true rfl) d_R_complete_73 (fun H locs hH => ?_)
        refine lv_aload_n hx hb d_R_complete_76 rfl (lv_at hl 0 rfl) ?_
        refine lv_iconst (v := 0) hx hb d_R_complete_77 (by decide) ?_
        refine g_puti E hH (gc_R hc) cl_R ct_R 3 (by decide) lf_R_31 rfl (by decide +kernel) (fun _ _ => rfl) (Nat.le_of_ble_eq_true rfl) d_R_complete_78 (fun H locs hH => ?_)
        exact g_vret E hH (hsp.trans (by simp only [sp_R_complete, if_neg h1])) d_R_complete_81
      · refine lv_if_ne (tgt := 72) hx hb d_R_complete_65 (by decide) (fun h3 => ?_) (fun h3 => ?_)
        · refine lv_iconst (v := 0) hx hb d_R_complete_72 (by decide) ?_
          exact hJ _ _ _ ⟨by simp only [if_neg h3], isB_0, hH⟩
        · refine lv_iconst (v := 1) hx hb d_R_complete_68 (by decide) ?_
          refine lv_goto (tgt := 73) hx hb d_R_complete_69 (by decide) ?_
          exact hJ _ _ _ ⟨by simp only [if_pos h3], isB_1, hH⟩
    · refine lv_if_eq (tgt := 41) hx hb d_R_complete_34 (by decide) (fun h4 => ?_) (fun h4 => ?_)
      · refine lv_iconst (v := 0) hx hb d_R_complete_41 (by decide) ?_
        exact hJ _ _ _ ⟨by simp only [if_pos h4], isB_0, hH⟩
      · refine lv_iconst (v := 1) hx hb d_R_complete_37 (by decide) ?_
        refine lv_goto (tgt := 42) hx hb d_R_complete_38 (by decide) ?_
        exact hJ _ _ _ ⟨by simp only [if_neg h4], isB_1, hH⟩

def sp_R_takeBit (c : Nat) (G0 : Mem) (a1 : Int32) : Mem :=
  (if n3 (G0 c 1) = n3 0 then (sp_R_search c (wr (wr G0 c 2 (((G0 c 2) <<< ((1 : Int32) &&& 31)) ||| a1)) c 3 ((G0 c 3) + 1))) else (if n3 (G0 c 1) = n3 1 then (sp_R_tryWord c (wr (wr G0 c 2 (((G0 c 2) <<< ((1 : Int32) &&& 31)) ||| a1)) c 3 ((G0 c 3) + 1)) a1) else (if ((G0 c 3) + 1) = 32 then (sp_R_complete c (wr (wr G0 c 2 (((G0 c 2) <<< ((1 : Int32) &&& 31)) ||| a1)) c 3 ((G0 c 3) + 1))) else (if ((G0 c 3) + 1) = 8 then (if (zb (G0 c 4)) = 0 then (sp_R_lookAtWord c (wr (wr G0 c 2 (((G0 c 2) <<< ((1 : Int32) &&& 31)) ||| a1)) c 3 ((G0 c 3) + 1))) else (wr (wr G0 c 2 (((G0 c 2) <<< ((1 : Int32) &&& 31)) ||| a1)) c 3 ((G0 c 3) + 1))) else (wr (wr G0 c 2 (((G0 c 2) <<< ((1 : Int32) &&& 31)) ||| a1)) c 3 ((G0 c 3) + 1))))))
set_option maxHeartbeats 4000000 in
set_option maxRecDepth 100000 in
theorem c_R_takeBit (l : Launch) (P : gP) (G0 : Mem) (c : Nat) (a1 : Int32) (hc : kR c) : gMv l y_R_takeBit b_R_takeBit 2 none ({ frames := 4, cells := 0, slots := 0, locals := 84 }) [.ref (gad P c), .int a1] P G0 (sp_R_takeBit c G0 a1) := by
  refine Met.ofW (cc := b_R_takeBit) (maxL := 2) (ret := none) (by decide) rfl ?_
  intro p e s m args below meth c0 s₁ B hml hv
  obtain ⟨rfl, hpre⟩ := hv
  obtain ⟨E, hH⟩ := gE_of B hml hpre
  replace E : gE p s m _ meth c0 P "FramedLine$Receiver" b_R_takeBit 2 none := E
  have hcU := hc
  unfold kR at hcU
  have hx := E.1
  have hb := E.2.1
  have hl := lv_entry ([.ref (gad P c), .int a1]) (n := 2) (Nat.le_of_ble_eq_true rfl)
  rw [lg_entry_eq]
  generalize (lg_sl ([.ref (gad P c), .int a1]) ++ List.replicate (2 - (lg_sl ([.ref (gad P c), .int a1])).length) Slot.unset).toArray = ls at hl ⊢
  replace hl : lv_has ls 2 [(0, .ref (gad P c)), (1, .int a1)] := hl
  have hsp : sp_R_takeBit c G0 a1 = sp_R_takeBit c G0 a1 := rfl
  refine lv_aload_n hx hb d_R_takeBit_0 rfl (lv_at hl 0 rfl) ?_
  refine lv_aload_n hx hb d_R_takeBit_1 rfl (lv_at hl 0 rfl) ?_
  refine g_geti (v := (G0 c 2)) E hH (gc_R hc) cl_R 2 (by decide) lf_R_27 (fun _ => rfl) rfl d_R_takeBit_2 ?_
  refine lv_iconst (v := 1) hx hb d_R_takeBit_5 (by decide) ?_
  refine lv_ishl hx hb d_R_takeBit_6 ?_
  refine lv_iload_n hx hb d_R_takeBit_7 rfl (lv_at hl 1 rfl) ?_
  refine lv_ior hx hb d_R_takeBit_8 ?_
  refine g_puti E hH (gc_R hc) cl_R ct_R 2 (by decide) lf_R_27 rfl (by decide +kernel) (fun _ _ => rfl) (Nat.le_of_ble_eq_true rfl) d_R_takeBit_9 (fun H locs hH => ?_)
  refine lv_aload_n hx hb d_R_takeBit_12 rfl (lv_at hl 0 rfl) ?_
  refine lv_dup hx hb d_R_takeBit_13 rfl ?_
  refine g_geti (v := (G0 c 3)) E hH (gc_R hc) cl_R 3 (by decide) lf_R_31 (fun _ => rfl) (wr_k _ _ _ _ (by decide)) d_R_takeBit_14 ?_
  refine lv_iconst (v := 1) hx hb d_R_takeBit_17 (by decide) ?_
  refine lv_iadd hx hb d_R_takeBit_18 ?_
  refine g_puti E hH (gc_R hc) cl_R ct_R 3 (by decide) lf_R_31 rfl (by decide +kernel) (fun _ _ => rfl) (Nat.le_of_ble_eq_true rfl) d_R_takeBit_19 (fun H locs hH => ?_)
  refine lv_aload_n hx hb d_R_takeBit_22 rfl (lv_at hl 0 rfl) ?_
  refine g_gete (v := (G0 c 1)) E hH (gc_R hc) cl_R 1 (by decide) lf_R_24 (fun _ => rfl) ((wr_k _ _ _ _ (by decide)).trans (wr_k _ _ _ _ (by decide))) d_R_takeBit_23 ?_
  refine g_gets (x := 0) E hH 0 (by decide) (by decide) lf_R_18 d_R_takeBit_26 ?_
  refine g_acmp_ne (tgt := 39) E hb d_R_takeBit_29 (by decide) (fun h1 => ?_) (fun h1 => ?_)
  · refine lv_aload_n hx hb d_R_takeBit_39 rfl (lv_at hl 0 rfl) ?_
    refine g_gete (v := (G0 c 1)) E hH (gc_R hc) cl_R 1 (by decide) lf_R_24 (fun _ => rfl) ((wr_k _ _ _ _ (by decide)).trans (wr_k _ _ _ _ (by decide))) d_R_takeBit_40 ?_
    refine g_gets (x := 1) E hH 1 (by decide) (by decide) lf_R_59 d_R_takeBit_43 ?_
    refine g_acmp_ne (tgt := 57) E hb d_R_takeBit_46 (by decide) (fun h2 => ?_) (fun h2 => ?_)
    · refine lv_aload_n hx hb d_R_takeBit_57 rfl (lv_at hl 0 rfl) ?_
      refine g_geti (v := ((G0 c 3) + 1)) E hH (gc_R hc) cl_R 3 (by decide) lf_R_31 (fun _ => rfl) (wr_same _ _ _ _) d_R_takeBit_58 ?_
      refine lv_bipush (v := 32) hx hb d_R_takeBit_61 (by decide) ?_
      refine lv_icmp_ne (tgt := 73) hx hb d_R_takeBit_63 (by decide) (fun h3 => ?_) (fun h3 => ?_)
      · refine lv_aload_n hx hb d_R_takeBit_73 rfl (lv_at hl 0 rfl) ?_
        refine g_geti (v := ((G0 c 3) + 1)) E hH (gc_R hc) cl_R 3 (by decide) lf_R_31 (fun _ => rfl) (wr_same _ _ _ _) d_R_takeBit_74 ?_
        refine lv_bipush (v := 8) hx hb d_R_takeBit_77 (by decide) ?_
        refine lv_icmp_ne (tgt := 93) hx hb d_R_takeBit_79 (by decide) (fun h4 => ?_) (fun h4 => ?_)
        · exact g_vret E hH (hsp.trans (by simp only [sp_R_takeBit, if_neg h1, if_neg h2, if_neg h3, if_neg h4])) d_R_takeBit_93
        · refine lv_aload_n hx hb d_R_takeBit_82 rfl (lv_at hl 0 rfl) ?_
          refine g_getz (v := (G0 c 4)) E hH (gc_R hc) cl_R 4 (by decide) lf_R_34 (fun _ => rfl) ((wr_k _ _ _ _ (by decide)).trans (wr_k _ _ _ _ (by decide))) d_R_takeBit_83 ?_
          refine lv_if_ne (tgt := 93) hx hb d_R_takeBit_86 (by decide) (fun h5 => ?_) (fun h5 => ?_)
          · exact g_vret E hH (hsp.trans (by simp only [sp_R_takeBit, if_neg h1, if_neg h2, if_neg h3, if_pos h4, if_neg h5])) d_R_takeBit_93
          · refine lv_aload_n hx hb d_R_takeBit_89 rfl (lv_at hl 0 rfl) ?_
            refine g_callVv (As := []) E hH hl (c_R_lookAtWord l P _ c hc) lm_R_69 (gc_R hc) cl_R (Nat.le_of_ble_eq_true rfl) (Nat.le_of_ble_eq_true rfl) (Nat.le_of_ble_eq_true rfl) (Nat.le_of_ble_eq_true rfl) (Nat.le_of_ble_eq_true rfl) rfl rfl rfl rfl d_R_takeBit_90 (fun H locs hH => ?_)
            exact g_vret E hH (hsp.trans (by simp only [sp_R_takeBit, if_neg h1, if_neg h2, if_neg h3, if_pos h4, if_pos h5])) d_R_takeBit_93
      · refine lv_aload_n hx hb d_R_takeBit_66 rfl (lv_at hl 0 rfl) ?_
        refine g_callVv (As := []) E hH hl (c_R_complete l P _ c hc) lm_R_66 (gc_R hc) cl_R (Nat.le_of_ble_eq_true rfl) (Nat.le_of_ble_eq_true rfl) (Nat.le_of_ble_eq_true rfl) (Nat.le_of_ble_eq_true rfl) (Nat.le_of_ble_eq_true rfl) rfl rfl rfl rfl d_R_takeBit_67 (fun H locs hH => ?_)
        refine lv_goto (tgt := 93) hx hb d_R_takeBit_70 (by decide) ?_
        exact g_vret E hH (hsp.trans (by simp only [sp_R_takeBit, if_neg h1, if_neg h2, if_pos h3])) d_R_takeBit_93
    · refine lv_aload_n hx hb d_R_takeBit_49 rfl (lv_at hl 0 rfl) ?_
      refine lv_iload_n hx hb d_R_takeBit_50 rfl (lv_at hl 1 rfl) ?_
      refine g_callVv (As := [.int _]) E hH hl (c_R_tryWord l P _ c _ hc) lm_R_62 (gc_R hc) cl_R (Nat.le_of_ble_eq_true rfl) (Nat.le_of_ble_eq_true rfl) (Nat.le_of_ble_eq_true rfl) (Nat.le_of_ble_eq_true rfl) (Nat.le_of_ble_eq_true rfl) rfl rfl rfl rfl d_R_takeBit_51 (fun H locs hH => ?_)
      refine lv_goto (tgt := 93) hx hb d_R_takeBit_54 (by decide) ?_
      exact g_vret E hH (hsp.trans (by simp only [sp_R_takeBit, if_neg h1, if_pos h2])) d_R_takeBit_93
  · refine lv_aload_n hx hb d_R_takeBit_32 rfl (lv_at hl 0 rfl) ?_
    refine g_callVv (As := []) E hH hl (c_R_search l P _ c hc) lm_R_56 (gc_R hc) cl_R (Nat.le_of_ble_eq_true rfl) (Nat.le_of_ble_eq_true rfl) (Nat.le_of_ble_eq_true rfl) (Nat.le_of_ble_eq_true rfl) (Nat.le_of_ble_eq_true rfl) rfl rfl rfl rfl d_R_takeBit_33 (fun H locs hH => ?_)
    refine lv_goto (tgt := 93) hx hb d_R_takeBit_36 (by decide) ?_
    exact g_vret E hH (hsp.trans (by simp only [sp_R_takeBit, if_pos h1])) d_R_takeBit_93
