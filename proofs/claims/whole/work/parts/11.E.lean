def sp_E_pulseOfOne (c : Nat) (G0 : Mem)  : Int32 × Mem :=
  ((-(G0 c 0)), (wr (wr (wr G0 c 2 0) c 1 ((if (zb (G0 c 1)) = 0 then 1 else 0) : Int32)) c 0 (-(G0 c 0))))
set_option maxHeartbeats 4000000 in
set_option maxRecDepth 100000 in
theorem c_E_pulseOfOne (l : Launch) (P : gP) (G0 : Mem) (c : Nat)  (hc : kE c) : gMi l y_E_pulseOfOne b_E_pulseOfOne 1 (some .int) ({ frames := 0, cells := 0, slots := 0, locals := 0 }) [.ref (gad P c)] P G0 (sp_E_pulseOfOne c G0) := by
  refine Met.ofW (cc := b_E_pulseOfOne) (maxL := 1) (ret := (some .int)) (by decide) rfl ?_
  intro p e s m args below meth c0 s₁ B hml hv
  obtain ⟨rfl, hpre⟩ := hv
  obtain ⟨E, hH⟩ := gE_of B hml hpre
  replace E : gE p s m _ meth c0 P "FramedLine$Encoder" b_E_pulseOfOne 1 (some .int) := E
  have hcU := hc
  unfold kE at hcU
  have hx := E.1
  have hb := E.2.1
  have hl := lv_entry ([.ref (gad P c)]) (n := 1) (Nat.le_of_ble_eq_true rfl)
  rw [lg_entry_eq]
  generalize (lg_sl ([.ref (gad P c)]) ++ List.replicate (1 - (lg_sl ([.ref (gad P c)])).length) Slot.unset).toArray = ls at hl ⊢
  replace hl : lv_has ls 1 [(0, .ref (gad P c))] := hl
  have hsp : sp_E_pulseOfOne c G0 = sp_E_pulseOfOne c G0 := rfl
  refine lv_aload_n hx hb d_E_pulseOfOne_0 rfl (lv_at hl 0 rfl) ?_
  refine lv_iconst (v := 0) hx hb d_E_pulseOfOne_1 (by decide) ?_
  refine g_puti E hH (gc_E hc) cl_E ct_E 2 (by decide) lf_E_19 rfl (by decide +kernel) (fun _ _ => rfl) (Nat.le_of_ble_eq_true rfl) d_E_pulseOfOne_2 (fun H locs hH => ?_)
  refine lv_aload_n hx hb d_E_pulseOfOne_5 rfl (lv_at hl 0 rfl) ?_
  refine lv_aload_n hx hb d_E_pulseOfOne_6 rfl (lv_at hl 0 rfl) ?_
  refine g_getz (v := (G0 c 1)) E hH (gc_E hc) cl_E 1 (by decide) lf_E_15 (fun _ => rfl) (wr_k _ _ _ _ (by decide)) d_E_pulseOfOne_7 ?_
  refine jn (α := Int32) (fun z H1 locs1 => z = ((if (zb (G0 c 1)) = 0 then 1 else 0) : Int32) ∧ isB z ∧ gH P s (wr G0 c 2 0) H1 locs1) (fun z => F0 m 18 ls (.int z :: .ref (gad P c) :: [])) (fun z H locs h9 => ?_) (fun hJ => ?_)
  · obtain ⟨rfl, hz18, hH⟩ := h9
    refine g_putz E hH (gc_E hc) cl_E ct_E 1 (by decide) lf_E_15 rfl (by decide +kernel) (set_E1 _ _) hz18 (Nat.le_of_ble_eq_true rfl) d_E_pulseOfOne_18 (fun H locs hH => ?_)
    refine lv_aload_n hx hb d_E_pulseOfOne_21 rfl (lv_at hl 0 rfl) ?_
    refine lv_aload_n hx hb d_E_pulseOfOne_22 rfl (lv_at hl 0 rfl) ?_
    refine g_geti (v := (G0 c 0)) E hH (gc_E hc) cl_E 0 (by decide) lf_E_9 (fun _ => rfl) ((wr_k _ _ _ _ (by decide)).trans (wr_k _ _ _ _ (by decide))) d_E_pulseOfOne_23 ?_
    refine lv_ineg hx hb d_E_pulseOfOne_26 ?_
    refine g_puti E hH (gc_E hc) cl_E ct_E 0 (by decide) lf_E_9 rfl (by decide +kernel) (fun _ _ => rfl) (Nat.le_of_ble_eq_true rfl) d_E_pulseOfOne_27 (fun H locs hH => ?_)
    refine lv_aload_n hx hb d_E_pulseOfOne_30 rfl (lv_at hl 0 rfl) ?_
    refine g_geti (v := (-(G0 c 0))) E hH (gc_E hc) cl_E 0 (by decide) lf_E_9 (fun _ => rfl) (wr_same _ _ _ _) d_E_pulseOfOne_31 ?_
    exact g_iret E hH (hsp.trans (by rw [sp_E_pulseOfOne])) d_E_pulseOfOne_34
  · refine lv_if_ne (tgt := 17) hx hb d_E_pulseOfOne_10 (by decide) (fun h1 => ?_) (fun h1 => ?_)
    · refine lv_iconst (v := 0) hx hb d_E_pulseOfOne_17 (by decide) ?_
      exact hJ _ _ _ ⟨by simp only [if_neg h1], isB_0, hH⟩
    · refine lv_iconst (v := 1) hx hb d_E_pulseOfOne_13 (by decide) ?_
      refine lv_goto (tgt := 18) hx hb d_E_pulseOfOne_14 (by decide) ?_
      exact hJ _ _ _ ⟨by simp only [if_pos h1], isB_1, hH⟩

def sp_E_symbolOfZero (c : Nat) (G0 : Mem)  : Int32 × Mem :=
  (if 3 < ((G0 c 2) + 1) then (if (zb (G0 c 1)) = 0 then ((-(G0 c 0)), (wr (wr (wr (wr (wr G0 c 2 ((G0 c 2) + 1)) c 0 (-(G0 c 0))) c 3 (-(G0 c 0))) c 2 0) c 1 0)) else ((G0 c 0), (wr (wr (wr G0 c 2 ((G0 c 2) + 1)) c 2 0) c 1 0))) else ((0 : Int32), (wr G0 c 2 ((G0 c 2) + 1))))
set_option maxHeartbeats 4000000 in
set_option maxRecDepth 100000 in
theorem c_E_symbolOfZero (l : Launch) (P : gP) (G0 : Mem) (c : Nat)  (hc : kE c) : gMi l y_E_symbolOfZero b_E_symbolOfZero 1 (some .int) ({ frames := 0, cells := 0, slots := 0, locals := 0 }) [.ref (gad P c)] P G0 (sp_E_symbolOfZero c G0) := by
  refine Met.ofW (cc := b_E_symbolOfZero) (maxL := 1) (ret := (some .int)) (by decide) rfl ?_
  intro p e s m args below meth c0 s₁ B hml hv
  obtain ⟨rfl, hpre⟩ := hv
  obtain ⟨E, hH⟩ := gE_of B hml hpre
  replace E : gE p s m _ meth c0 P "FramedLine$Encoder" b_E_symbolOfZero 1 (some .int) := E
  have hcU := hc
  unfold kE at hcU
  have hx := E.1
  have hb := E.2.1
  have hl := lv_entry ([.ref (gad P c)]) (n := 1) (Nat.le_of_ble_eq_true rfl)
  rw [lg_entry_eq]
  generalize (lg_sl ([.ref (gad P c)]) ++ List.replicate (1 - (lg_sl ([.ref (gad P c)])).length) Slot.unset).toArray = ls at hl ⊢
  replace hl : lv_has ls 1 [(0, .ref (gad P c))] := hl
  have hsp : sp_E_symbolOfZero c G0 = sp_E_symbolOfZero c G0 := rfl
  refine lv_aload_n hx hb d_E_symbolOfZero_0 rfl (lv_at hl 0 rfl) ?_
  refine lv_dup hx hb d_E_symbolOfZero_1 rfl ?_
  refine g_geti (v := (G0 c 2)) E hH (gc_E hc) cl_E 2 (by decide) lf_E_19 (fun _ => rfl) rfl d_E_symbolOfZero_2 ?_
  refine lv_iconst (v := 1) hx hb d_E_symbolOfZero_5 (by decide) ?_
  refine lv_iadd hx hb d_E_symbolOfZero_6 ?_
  refine g_puti E hH (gc_E hc) cl_E ct_E 2 (by decide) lf_E_19 rfl (by decide +kernel) (fun _ _ => rfl) (Nat.le_of_ble_eq_true rfl) d_E_symbolOfZero_7 (fun H locs hH => ?_)
  refine lv_aload_n hx hb d_E_symbolOfZero_10 rfl (lv_at hl 0 rfl) ?_
  refine g_geti (v := ((G0 c 2) + 1)) E hH (gc_E hc) cl_E 2 (by decide) lf_E_19 (fun _ => rfl) (wr_same _ _ _ _) d_E_symbolOfZero_11 ?_
  refine lv_iconst (v := 3) hx hb d_E_symbolOfZero_14 (by decide) ?_
  refine lv_icmp_gt (tgt := 20) hx hb d_E_symbolOfZero_15 (by decide) (fun h1 => ?_) (fun h1 => ?_)
  · refine lv_aload_n hx hb d_E_symbolOfZero_20 rfl (lv_at hl 0 rfl) ?_
    refine g_getz (v := (G0 c 1)) E hH (gc_E hc) cl_E 1 (by decide) lf_E_15 (fun _ => rfl) (wr_k _ _ _ _ (by decide)) d_E_symbolOfZero_21 ?_
    refine lv_if_ne (tgt := 44) hx hb d_E_symbolOfZero_24 (by decide) (fun h2 => ?_) (fun h2 => ?_)
    · refine lv_aload_n hx hb d_E_symbolOfZero_44 rfl (lv_at hl 0 rfl) ?_
      refine lv_iconst (v := 0) hx hb d_E_symbolOfZero_45 (by decide) ?_
      refine g_puti E hH (gc_E hc) cl_E ct_E 2 (by decide) lf_E_19 rfl (by decide +kernel) (fun _ _ => rfl) (Nat.le_of_ble_eq_true rfl) d_E_symbolOfZero_46 (fun H locs hH => ?_)
      refine lv_aload_n hx hb d_E_symbolOfZero_49 rfl (lv_at hl 0 rfl) ?_
      refine lv_iconst (v := 0) hx hb d_E_symbolOfZero_50 (by decide) ?_
      refine g_putz E hH (gc_E hc) cl_E ct_E 1 (by decide) lf_E_15 rfl (by decide +kernel) (set_E1 _ _) isB_0 (Nat.le_of_ble_eq_true rfl) d_E_symbolOfZero_51 (fun H locs hH => ?_)
      refine lv_aload_n hx hb d_E_symbolOfZero_54 rfl (lv_at hl 0 rfl) ?_
      refine g_geti (v := (G0 c 0)) E hH (gc_E hc) cl_E 0 (by decide) lf_E_9 (fun _ => rfl) ((wr_k _ _ _ _ (by decide)).trans ((wr_k _ _ _ _ (by decide)).trans (wr_k _ _ _ _ (by decide)))) d_E_symbolOfZero_55 ?_
      exact g_iret E hH (hsp.trans (by simp only [sp_E_symbolOfZero, if_pos h1, if_neg h2])) d_E_symbolOfZero_58
    · refine lv_aload_n hx hb d_E_symbolOfZero_27 rfl (lv_at hl 0 rfl) ?_
      refine lv_aload_n hx hb d_E_symbolOfZero_28 rfl (lv_at hl 0 rfl) ?_
      refine g_geti (v := (G0 c 0)) E hH (gc_E hc) cl_E 0 (by decide) lf_E_9 (fun _ => rfl) (wr_k _ _ _ _ (by decide)) d_E_symbolOfZero_29 ?_
      refine lv_ineg hx hb d_E_symbolOfZero_32 ?_
      refine g_puti E hH (gc_E hc) cl_E ct_E 0 (by decide) lf_E_9 rfl (by decide +kernel) (fun _ _ => rfl) (Nat.le_of_ble_eq_true rfl) d_E_symbolOfZero_33 (fun H locs hH => ?_)
      refine lv_aload_n hx hb d_E_symbolOfZero_36 rfl (lv_at hl 0 rfl) ?_
      refine lv_aload_n hx hb d_E_symbolOfZero_37 rfl (lv_at hl 0 rfl) ?_
      refine g_geti (v := (-(G0 c 0))) E hH (gc_E hc) cl_E 0 (by decide) lf_E_9 (fun _ => rfl) (wr_same _ _ _ _) d_E_symbolOfZero_38 ?_
      refine g_puti E hH (gc_E hc) cl_E ct_E 3 (by decide) lf_E_22 rfl (by decide +kernel) (fun _ _ => rfl) (Nat.le_of_ble_eq_true rfl) d_E_symbolOfZero_41 (fun H locs hH => ?_)
      refine lv_aload_n hx hb d_E_symbolOfZero_44 rfl (lv_at hl 0 rfl) ?_
      refine lv_iconst (v := 0) hx hb d_E_symbolOfZero_45 (by decide) ?_
      refine g_puti E hH (gc_E hc) cl_E ct_E 2 (by decide) lf_E_19 rfl (by decide +kernel) (fun _ _ => rfl) (Nat.le_of_ble_eq_true rfl) d_E_symbolOfZero_46 (fun H locs hH => ?_)
      refine lv_aload_n hx hb d_E_symbolOfZero_49 rfl (lv_at hl 0 rfl) ?_
      refine lv_iconst (v := 0) hx hb d_E_symbolOfZero_50 (by decide) ?_
      refine g_putz E hH (gc_E hc) cl_E ct_E 1 (by decide) lf_E_15 rfl (by decide +kernel) (set_E1 _ _) isB_0 (Nat.le_of_ble_eq_true rfl) d_E_symbolOfZero_51 (fun H locs hH => ?_)
      refine lv_aload_n hx hb d_E_symbolOfZero_54 rfl (lv_at hl 0 rfl) ?_
      refine g_geti (v := (-(G0 c 0))) E hH (gc_E hc) cl_E 0 (by decide) lf_E_9 (fun _ => rfl) ((wr_k _ _ _ _ (by decide)).trans ((wr_k _ _ _ _ (by decide)).trans ((wr_k _ _ _ _ (by decide)).trans (wr_same _ _ _ _)))) d_E_symbolOfZero_55 ?_
      exact g_iret E hH (hsp.trans (by simp only [sp_E_symbolOfZero, if_pos h1, if_pos h2])) d_E_symbolOfZero_58
  · refine lv_iconst (v := 0) hx hb d_E_symbolOfZero_18 (by decide) ?_
    exact g_iret E hH (hsp.trans (by simp only [sp_E_symbolOfZero, if_neg h1])) d_E_symbolOfZero_19

def sp_E_symbolBehind (c : Nat) (G0 : Mem) (a1 : Int32) : Int32 × Mem :=
  (if a1 = 1 then ((((sp_E_pulseOfOne c G0)).2 c 3), (wr (wr (wr ((sp_E_pulseOfOne c G0)).2 c 3 (((sp_E_pulseOfOne c G0)).2 c 4)) c 4 (((sp_E_pulseOfOne c G0)).2 c 5)) c 5 (((sp_E_pulseOfOne c G0)).1))) else ((((sp_E_symbolOfZero c G0)).2 c 3), (wr (wr (wr ((sp_E_symbolOfZero c G0)).2 c 3 (((sp_E_symbolOfZero c G0)).2 c 4)) c 4 (((sp_E_symbolOfZero c G0)).2 c 5)) c 5 (((sp_E_symbolOfZero c G0)).1))))
set_option maxHeartbeats 4000000 in
set_option maxRecDepth 100000 in
theorem c_E_symbolBehind (l : Launch) (P : gP) (G0 : Mem) (c : Nat) (a1 : Int32) (hc : kE c) : gMi l y_E_symbolBehind b_E_symbolBehind 4 (some .int) ({ frames := 1, cells := 0, slots := 0, locals := 20 }) [.ref (gad P c), .int a1] P G0 (sp_E_symbolBehind c G0 a1) := by
  refine Met.ofW (cc := b_E_symbolBehind) (maxL := 4) (ret := (some .int)) (by decide) rfl ?_
  intro p e s m args below meth c0 s₁ B hml hv
  obtain ⟨rfl, hpre⟩ := hv
  obtain ⟨E, hH⟩ := gE_of B hml hpre
  replace E : gE p s m _ meth c0 P "FramedLine$Encoder" b_E_symbolBehind 4 (some .int) := E
  have hcU := hc
  unfold kE at hcU
  have hx := E.1
  have hb := E.2.1
  have hl := lv_entry ([.ref (gad P c), .int a1]) (n := 4) (Nat.le_of_ble_eq_true rfl)
  rw [lg_entry_eq]
  generalize (lg_sl ([.ref (gad P c), .int a1]) ++ List.replicate (4 - (lg_sl ([.ref (gad P c), .int a1])).length) Slot.unset).toArray = ls at hl ⊢
  replace hl : lv_has ls 4 [(0, .ref (gad P c)), (1, .int a1)] := hl
  have hsp : sp_E_symbolBehind c G0 a1 = sp_E_symbolBehind c G0 a1 := rfl
  refine lv_iload_n hx hb d_E_symbolBehind_0 rfl (lv_at hl 1 rfl) ?_
  refine lv_iconst (v := 1) hx hb d_E_symbolBehind_1 (by decide) ?_
  refine lv_icmp_ne (tgt := 12) hx hb d_E_symbolBehind_2 (by decide) (fun h1 => ?_) (fun h1 => ?_)
  · refine lv_aload_n hx hb d_E_symbolBehind_12 rfl (lv_at hl 0 rfl) ?_
    refine g_callVi (As := []) E hH hl (c_E_symbolOfZero l P _ c hc) lm_E_35 (gc_E hc) cl_E (Nat.le_of_ble_eq_true rfl) (Nat.le_of_ble_eq_true rfl) (Nat.le_of_ble_eq_true rfl) (Nat.le_of_ble_eq_true rfl) (Nat.le_of_ble_eq_true rfl) rfl rfl rfl rfl d_E_symbolBehind_13 (fun H locs hH => ?_)
    refine lv_istore_n hx hb d_E_symbolBehind_16 rfl hl (by decide) rfl (fun ls hl => ?_)
    refine lv_aload_n hx hb d_E_symbolBehind_17 rfl (lv_at hl 1 rfl) ?_
    refine g_geti (v := (((sp_E_symbolOfZero c G0)).2 c 3)) E hH (gc_E hc) cl_E 3 (by decide) lf_E_22 (fun _ => rfl) rfl d_E_symbolBehind_18 ?_
    refine lv_istore_n hx hb d_E_symbolBehind_21 rfl hl (by decide) rfl (fun ls hl => ?_)
    refine lv_aload_n hx hb d_E_symbolBehind_22 rfl (lv_at hl 2 rfl) ?_
    refine lv_aload_n hx hb d_E_symbolBehind_23 rfl (lv_at hl 2 rfl) ?_
    refine g_geti (v := (((sp_E_symbolOfZero c G0)).2 c 4)) E hH (gc_E hc) cl_E 4 (by decide) lf_E_25 (fun _ => rfl) rfl d_E_symbolBehind_24 ?_
    refine g_puti E hH (gc_E hc) cl_E ct_E 3 (by decide) lf_E_22 rfl (by decide +kernel) (fun _ _ => rfl) (Nat.le_of_ble_eq_true rfl) d_E_symbolBehind_27 (fun H locs hH => ?_)
    refine lv_aload_n hx hb d_E_symbolBehind_30 rfl (lv_at hl 2 rfl) ?_
    refine lv_aload_n hx hb d_E_symbolBehind_31 rfl (lv_at hl 2 rfl) ?_
    refine g_geti (v := (((sp_E_symbolOfZero c G0)).2 c 5)) E hH (gc_E hc) cl_E 5 (by decide) lf_E_28 (fun _ => rfl) (wr_k _ _ _ _ (by decide)) d_E_symbolBehind_32 ?_
    refine g_puti E hH (gc_E hc) cl_E ct_E 4 (by decide) lf_E_25 rfl (by decide +kernel) (fun _ _ => rfl) (Nat.le_of_ble_eq_true rfl) d_E_symbolBehind_35 (fun H locs hH => ?_)
    refine lv_aload_n hx hb d_E_symbolBehind_38 rfl (lv_at hl 2 rfl) ?_
    refine lv_iload_n hx hb d_E_symbolBehind_39 rfl (lv_at hl 1 rfl) ?_
    refine g_puti E hH (gc_E hc) cl_E ct_E 5 (by decide) lf_E_28 rfl (by decide +kernel) (fun _ _ => rfl) (Nat.le_of_ble_eq_true rfl) d_E_symbolBehind_40 (fun H locs hH => ?_)
    refine lv_iload_n hx hb d_E_symbolBehind_43 rfl (lv_at hl 0 rfl) ?_
    exact g_iret E hH (hsp.trans (by simp only [sp_E_symbolBehind, if_neg h1])) d_E_symbolBehind_44
  · refine lv_aload_n hx hb d_E_symbolBehind_5 rfl (lv_at hl 0 rfl) ?_
    refine g_callVi (As := []) E hH hl (c_E_pulseOfOne l P _ c hc) lm_E_31 (gc_E hc) cl_E (Nat.le_of_ble_eq_true rfl) (Nat.le_of_ble_eq_true rfl) (Nat.le_of_ble_eq_true rfl) (Nat.le_of_ble_eq_true rfl) (Nat.le_of_ble_eq_true rfl) rfl rfl rfl rfl d_E_symbolBehind_6 (fun H locs hH => ?_)
    refine lv_goto (tgt := 16) hx hb d_E_symbolBehind_9 (by decide) ?_
    refine lv_istore_n hx hb d_E_symbolBehind_16 rfl hl (by decide) rfl (fun ls hl => ?_)
    refine lv_aload_n hx hb d_E_symbolBehind_17 rfl (lv_at hl 1 rfl) ?_
    refine g_geti (v := (((sp_E_pulseOfOne c G0)).2 c 3)) E hH (gc_E hc) cl_E 3 (by decide) lf_E_22 (fun _ => rfl) rfl d_E_symbolBehind_18 ?_
    refine lv_istore_n hx hb d_E_symbolBehind_21 rfl hl (by decide) rfl (fun ls hl => ?_)
    refine lv_aload_n hx hb d_E_symbolBehind_22 rfl (lv_at hl 2 rfl) ?_
    refine lv_aload_n hx hb d_E_symbolBehind_23 rfl (lv_at hl 2 rfl) ?_
    refine g_geti (v := (((sp_E_pulseOfOne c G0)).2 c 4)) E hH (gc_E hc) cl_E 4 (by decide) lf_E_25 (fun _ => rfl) rfl d_E_symbolBehind_24 ?_
    refine g_puti E hH (gc_E hc) cl_E ct_E 3 (by decide) lf_E_22 rfl (by decide +kernel) (fun _ _ => rfl) (Nat.le_of_ble_eq_true rfl) d_E_symbolBehind_27 (fun H locs hH => ?_)
    refine lv_aload_n hx hb d_E_symbolBehind_30 rfl (lv_at hl 2 rfl) ?_
    refine lv_aload_n hx hb d_E_symbolBehind_31 rfl (lv_at hl 2 rfl) ?_
    refine g_geti (v := (((sp_E_pulseOfOne c G0)).2 c 5)) E hH (gc_E hc) cl_E 5 (by decide) lf_E_28 (fun _ => rfl) (wr_k _ _ _ _ (by decide)) d_E_symbolBehind_32 ?_
    refine g_puti E hH (gc_E hc) cl_E ct_E 4 (by decide) lf_E_25 rfl (by decide +kernel) (fun _ _ => rfl) (Nat.le_of_ble_eq_true rfl) d_E_symbolBehind_35 (fun H locs hH => ?_)
    refine lv_aload_n hx hb d_E_symbolBehind_38 rfl (lv_at hl 2 rfl) ?_
    refine lv_iload_n hx hb d_E_symbolBehind_39 rfl (lv_at hl 1 rfl) ?_
    refine g_puti E hH (gc_E hc) cl_E ct_E 5 (by decide) lf_E_28 rfl (by decide +kernel) (fun _ _ => rfl) (Nat.le_of_ble_eq_true rfl) d_E_symbolBehind_40 (fun H locs hH => ?_)
    refine lv_iload_n hx hb d_E_symbolBehind_43 rfl (lv_at hl 0 rfl) ?_
    exact g_iret E hH (hsp.trans (by simp only [sp_E_symbolBehind, if_pos h1])) d_E_symbolBehind_44
