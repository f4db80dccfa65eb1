def sp_D_takeV (c : Nat) (G0 : Mem) (a1 : Int32) : Mem :=
  (if a1 = (G0 c 2) then (wr (wr (wr G0 c 4 0) c 6 ((G0 c 6) + 1)) c 2 a1) else (wr (wr G0 c 4 0) c 2 a1))
set_option maxHeartbeats 4000000 in
set_option maxRecDepth 100000 in
theorem c_D_takeV (l : Launch) (P : gP) (G0 : Mem) (c : Nat) (a1 : Int32) (hc : kD c) : gMv l y_D_takeV b_D_takeV 2 none ({ frames := 0, cells := 0, slots := 0, locals := 0 }) [.ref (gad P c), .int a1] P G0 (sp_D_takeV c G0 a1) := by
  refine Met.ofW (cc := b_D_takeV) (maxL := 2) (ret := none) (by decide) rfl ?_
  intro p e s m args below meth c0 s₁ B hml hv
  obtain ⟨rfl, hpre⟩ := hv
  obtain ⟨E, hH⟩ := gE_of B hml hpre
  replace E : gE p s m _ meth c0 P "FramedLine$Decoder" b_D_takeV 2 none := E
  have hcU := hc
  unfold kD at hcU
  have hx := E.1
  have hb := E.2.1
  have hl := lv_entry ([.ref (gad P c), .int a1]) (n := 2) (Nat.le_of_ble_eq_true rfl)
  rw [lg_entry_eq]
  generalize (lg_sl ([.ref (gad P c), .int a1]) ++ List.replicate (2 - (lg_sl ([.ref (gad P c), .int a1])).length) Slot.unset).toArray = ls at hl ⊢
  replace hl : lv_has ls 2 [(0, .ref (gad P c)), (1, .int a1)] := hl
  have hsp : sp_D_takeV c G0 a1 = sp_D_takeV c G0 a1 := rfl
  refine lv_aload_n hx hb d_D_takeV_0 rfl (lv_at hl 0 rfl) ?_
  refine lv_iconst (v := 0) hx hb d_D_takeV_1 (by decide) ?_
  refine g_puti E hH (gc_D hc) cl_D ct_D 4 (by decide) lf_D_24 rfl (by decide +kernel) (fun _ _ => rfl) (Nat.le_of_ble_eq_true rfl) d_D_takeV_2 (fun H locs hH => ?_)
  refine lv_iload_n hx hb d_D_takeV_5 rfl (lv_at hl 1 rfl) ?_
  refine lv_aload_n hx hb d_D_takeV_6 rfl (lv_at hl 0 rfl) ?_
  refine g_geti (v := (G0 c 2)) E hH (gc_D hc) cl_D 2 (by decide) lf_D_18 (fun _ => rfl) (wr_k _ _ _ _ (by decide)) d_D_takeV_7 ?_
  refine lv_icmp_ne (tgt := 23) hx hb d_D_takeV_10 (by decide) (fun h1 => ?_) (fun h1 => ?_)
  · refine lv_aload_n hx hb d_D_takeV_23 rfl (lv_at hl 0 rfl) ?_
    refine lv_iload_n hx hb d_D_takeV_24 rfl (lv_at hl 1 rfl) ?_
    refine g_puti E hH (gc_D hc) cl_D ct_D 2 (by decide) lf_D_18 rfl (by decide +kernel) (fun _ _ => rfl) (Nat.le_of_ble_eq_true rfl) d_D_takeV_25 (fun H locs hH => ?_)
    exact g_vret E hH (hsp.trans (by simp only [sp_D_takeV, if_neg h1])) d_D_takeV_28
  · refine lv_aload_n hx hb d_D_takeV_13 rfl (lv_at hl 0 rfl) ?_
    refine lv_dup hx hb d_D_takeV_14 rfl ?_
    refine g_geti (v := (G0 c 6)) E hH (gc_D hc) cl_D 6 (by decide) lf_D_30 (fun _ => rfl) (wr_k _ _ _ _ (by decide)) d_D_takeV_15 ?_
    refine lv_iconst (v := 1) hx hb d_D_takeV_18 (by decide) ?_
    refine lv_iadd hx hb d_D_takeV_19 ?_
    refine g_puti E hH (gc_D hc) cl_D ct_D 6 (by decide) lf_D_30 rfl (by decide +kernel) (fun _ _ => rfl) (Nat.le_of_ble_eq_true rfl) d_D_takeV_20 (fun H locs hH => ?_)
    refine lv_aload_n hx hb d_D_takeV_23 rfl (lv_at hl 0 rfl) ?_
    refine lv_iload_n hx hb d_D_takeV_24 rfl (lv_at hl 1 rfl) ?_
    refine g_puti E hH (gc_D hc) cl_D ct_D 2 (by decide) lf_D_18 rfl (by decide +kernel) (fun _ _ => rfl) (Nat.le_of_ble_eq_true rfl) d_D_takeV_25 (fun H locs hH => ?_)
    exact g_vret E hH (hsp.trans (by simp only [sp_D_takeV, if_pos h1])) d_D_takeV_28

def sp_D_takeZero (c : Nat) (G0 : Mem)  : Mem :=
  (if (G0 c 1) = 0 then (wr (wr G0 c 4 (((G0 c 4) <<< ((1 : Int32) &&& 31)) &&& (15 : Int32))) c 3 ((G0 c 3) + 1)) else (if (((G0 c 3) + 1) &&& (3 : Int32)) = 0 then (wr (wr (wr G0 c 4 (((G0 c 4) <<< ((1 : Int32) &&& 31)) &&& (15 : Int32))) c 3 ((G0 c 3) + 1)) c 6 ((G0 c 6) + 1)) else (wr (wr G0 c 4 (((G0 c 4) <<< ((1 : Int32) &&& 31)) &&& (15 : Int32))) c 3 ((G0 c 3) + 1))))
set_option maxHeartbeats 4000000 in
set_option maxRecDepth 100000 in
theorem c_D_takeZero (l : Launch) (P : gP) (G0 : Mem) (c : Nat)  (hc : kD c) : gMv l y_D_takeZero b_D_takeZero 1 none ({ frames := 0, cells := 0, slots := 0, locals := 0 }) [.ref (gad P c)] P G0 (sp_D_takeZero c G0) := by
  refine Met.ofW (cc := b_D_takeZero) (maxL := 1) (ret := none) (by decide) rfl ?_
  intro p e s m args below meth c0 s₁ B hml hv
  obtain ⟨rfl, hpre⟩ := hv
  obtain ⟨E, hH⟩ := gE_of B hml hpre
  replace E : gE p s m _ meth c0 P "FramedLine$Decoder" b_D_takeZero 1 none := E
  have hcU := hc
  unfold kD at hcU
  have hx := E.1
  have hb := E.2.1
  have hl := lv_entry ([.ref (gad P c)]) (n := 1) (Nat.le_of_ble_eq_true rfl)
  rw [lg_entry_eq]
  generalize (lg_sl ([.ref (gad P c)]) ++ List.replicate (1 - (lg_sl ([.ref (gad P c)])).length) Slot.unset).toArray = ls at hl ⊢
  replace hl : lv_has ls 1 [(0, .ref (gad P c))] := hl
  have hsp : sp_D_takeZero c G0 = sp_D_takeZero c G0 := rfl
  refine lv_aload_n hx hb d_D_takeZero_0 rfl (lv_at hl 0 rfl) ?_
  refine lv_aload_n hx hb d_D_takeZero_1 rfl (lv_at hl 0 rfl) ?_
  refine g_geti (v := (G0 c 4)) E hH (gc_D hc) cl_D 4 (by decide) lf_D_24 (fun _ => rfl) rfl d_D_takeZero_2 ?_
  refine lv_iconst (v := 1) hx hb d_D_takeZero_5 (by decide) ?_
  refine lv_ishl hx hb d_D_takeZero_6 ?_
  refine lv_bipush (v := 15) hx hb d_D_takeZero_7 (by decide) ?_
  refine lv_iand hx hb d_D_takeZero_9 ?_
  refine g_puti E hH (gc_D hc) cl_D ct_D 4 (by decide) lf_D_24 rfl (by decide +kernel) (fun _ _ => rfl) (Nat.le_of_ble_eq_true rfl) d_D_takeZero_10 (fun H locs hH => ?_)
  refine lv_aload_n hx hb d_D_takeZero_13 rfl (lv_at hl 0 rfl) ?_
  refine lv_dup hx hb d_D_takeZero_14 rfl ?_
  refine g_geti (v := (G0 c 3)) E hH (gc_D hc) cl_D 3 (by decide) lf_D_21 (fun _ => rfl) (wr_k _ _ _ _ (by decide)) d_D_takeZero_15 ?_
  refine lv_iconst (v := 1) hx hb d_D_takeZero_18 (by decide) ?_
  refine lv_iadd hx hb d_D_takeZero_19 ?_
  refine g_puti E hH (gc_D hc) cl_D ct_D 3 (by decide) lf_D_21 rfl (by decide +kernel) (fun _ _ => rfl) (Nat.le_of_ble_eq_true rfl) d_D_takeZero_20 (fun H locs hH => ?_)
  refine lv_aload_n hx hb d_D_takeZero_23 rfl (lv_at hl 0 rfl) ?_
  refine g_geti (v := (G0 c 1)) E hH (gc_D hc) cl_D 1 (by decide) lf_D_15 (fun _ => rfl) ((wr_k _ _ _ _ (by decide)).trans (wr_k _ _ _ _ (by decide))) d_D_takeZero_24 ?_
  refine lv_if_eq (tgt := 49) hx hb d_D_takeZero_27 (by decide) (fun h1 => ?_) (fun h1 => ?_)
  · exact g_vret E hH (hsp.trans (by simp only [sp_D_takeZero, if_pos h1])) d_D_takeZero_49
  · refine lv_aload_n hx hb d_D_takeZero_30 rfl (lv_at hl 0 rfl) ?_
    refine g_geti (v := ((G0 c 3) + 1)) E hH (gc_D hc) cl_D 3 (by decide) lf_D_21 (fun _ => rfl) (wr_same _ _ _ _) d_D_takeZero_31 ?_
    refine lv_iconst (v := 3) hx hb d_D_takeZero_34 (by decide) ?_
    refine lv_iand hx hb d_D_takeZero_35 ?_
    refine lv_if_ne (tgt := 49) hx hb d_D_takeZero_36 (by decide) (fun h2 => ?_) (fun h2 => ?_)
    · exact g_vret E hH (hsp.trans (by simp only [sp_D_takeZero, if_neg h1, if_neg h2])) d_D_takeZero_49
    · refine lv_aload_n hx hb d_D_takeZero_39 rfl (lv_at hl 0 rfl) ?_
      refine lv_dup hx hb d_D_takeZero_40 rfl ?_
      refine g_geti (v := (G0 c 6)) E hH (gc_D hc) cl_D 6 (by decide) lf_D_30 (fun _ => rfl) ((wr_k _ _ _ _ (by decide)).trans (wr_k _ _ _ _ (by decide))) d_D_takeZero_41 ?_
      refine lv_iconst (v := 1) hx hb d_D_takeZero_44 (by decide) ?_
      refine lv_iadd hx hb d_D_takeZero_45 ?_
      refine g_puti E hH (gc_D hc) cl_D ct_D 6 (by decide) lf_D_30 rfl (by decide +kernel) (fun _ _ => rfl) (Nat.le_of_ble_eq_true rfl) d_D_takeZero_46 (fun H locs hH => ?_)
      exact g_vret E hH (hsp.trans (by simp only [sp_D_takeZero, if_neg h1, if_pos h2])) d_D_takeZero_49

def sp_D_takePulse (c : Nat) (G0 : Mem) (a1 : Int32) : Mem :=
  (if ((if a1 = (G0 c 1) then 1 else 0) : Int32) = 0 then (wr (wr (wr G0 c 4 ((((G0 c 4) <<< ((1 : Int32) &&& 31)) ||| (1 : Int32)) &&& (15 : Int32))) c 1 a1) c 3 0) else (if (G0 c 3) < 2 then (wr (wr (wr (wr G0 c 4 ((((G0 c 4) <<< ((1 : Int32) &&& 31)) ||| (1 : Int32)) &&& (15 : Int32))) c 6 ((G0 c 6) + 1)) c 1 a1) c 3 0) else (wr (wr (sp_D_takeV c G0 a1) c 1 a1) c 3 0)))
set_option maxHeartbeats 4000000 in
set_option maxRecDepth 100000 in
theorem c_D_takePulse (l : Launch) (P : gP) (G0 : Mem) (c : Nat) (a1 : Int32) (hc : kD c) : gMv l y_D_takePulse b_D_takePulse 3 none ({ frames := 1, cells := 0, slots := 0, locals := 21 }) [.ref (gad P c), .int a1] P G0 (sp_D_takePulse c G0 a1) := by
  refine Met.ofW (cc := b_D_takePulse) (maxL := 3) (ret := none) (by decide) rfl ?_
  intro p e s m args below meth c0 s₁ B hml hv
  obtain ⟨rfl, hpre⟩ := hv
  obtain ⟨E, hH⟩ := gE_of B hml hpre
  replace E : gE p s m _ meth c0 P "FramedLine$Decoder" b_D_takePulse 3 none := E
  have hcU := hc
  unfold kD at hcU
  have hx := E.1
  have hb := E.2.1
  have hl := lv_entry ([.ref (gad P c), .int a1]) (n := 3) (Nat.le_of_ble_eq_true rfl)
  rw [lg_entry_eq]
  generalize (lg_sl ([.ref (gad P c), .int a1]) ++ List.replicate (3 - (lg_sl ([.ref (gad P c), .int a1])).length) Slot.unset).toArray = ls at hl ⊢
  replace hl : lv_has ls 3 [(0, .ref (gad P c)), (1, .int a1)] := hl
  have hsp : sp_D_takePulse c G0 a1 = sp_D_takePulse c G0 a1 := rfl
  refine lv_iload_n hx hb d_D_takePulse_0 rfl (lv_at hl 1 rfl) ?_
  refine lv_aload_n hx hb d_D_takePulse_1 rfl (lv_at hl 0 rfl) ?_
  refine g_geti (v := (G0 c 1)) E hH (gc_D hc) cl_D 1 (by decide) lf_D_15 (fun _ => rfl) rfl d_D_takePulse_2 ?_
  refine jn (α := Int32) (fun z H1 locs1 => z = ((if a1 = (G0 c 1) then 1 else 0) : Int32) ∧ isB z ∧ gH P s G0 H1 locs1) (fun z => F0 m 13 ls (.int z :: [])) (fun z H locs h9 => ?_) (fun hJ => ?_)
  · obtain ⟨rfl, hz13, hH⟩ := h9
    refine lv_istore_n hx hb d_D_takePulse_13 rfl hl (by decide) rfl (fun ls hl => ?_)
    refine lv_iload_n hx hb d_D_takePulse_14 rfl (lv_at hl 0 rfl) ?_
    refine lv_if_eq (tgt := 34) hx hb d_D_takePulse_15 (by decide) (fun h1 => ?_) (fun h1 => ?_)
    · refine lv_aload_n hx hb d_D_takePulse_34 rfl (lv_at hl 1 rfl) ?_
      refine lv_aload_n hx hb d_D_takePulse_35 rfl (lv_at hl 1 rfl) ?_
      refine g_geti (v := (G0 c 4)) E hH (gc_D hc) cl_D 4 (by decide) lf_D_24 (fun _ => rfl) rfl d_D_takePulse_36 ?_
      refine lv_iconst (v := 1) hx hb d_D_takePulse_39 (by decide) ?_
      refine lv_ishl hx hb d_D_takePulse_40 ?_
      refine lv_iconst (v := 1) hx hb d_D_takePulse_41 (by decide) ?_
      refine lv_ior hx hb d_D_takePulse_42 ?_
      refine lv_bipush (v := 15) hx hb d_D_takePulse_43 (by decide) ?_
      refine lv_iand hx hb d_D_takePulse_45 ?_
      refine g_puti E hH (gc_D hc) cl_D ct_D 4 (by decide) lf_D_24 rfl (by decide +kernel) (fun _ _ => rfl) (Nat.le_of_ble_eq_true rfl) d_D_takePulse_46 (fun H locs hH => ?_)
      refine lv_iload_n hx hb d_D_takePulse_49 rfl (lv_at hl 0 rfl) ?_
      refine lv_if_eq (tgt := 63) hx hb d_D_takePulse_50 (by decide) (fun _ => ?_) (fun h0 => absurd h1 h0)
      refine lv_aload_n hx hb d_D_takePulse_63 rfl (lv_at hl 1 rfl) ?_
      refine lv_iload_n hx hb d_D_takePulse_64 rfl (lv_at hl 2 rfl) ?_
      refine g_puti E hH (gc_D hc) cl_D ct_D 1 (by decide) lf_D_15 rfl (by decide +kernel) (fun _ _ => rfl) (Nat.le_of_ble_eq_true rfl) d_D_takePulse_65 (fun H locs hH => ?_)
      refine lv_aload_n hx hb d_D_takePulse_68 rfl (lv_at hl 1 rfl) ?_
      refine lv_iconst (v := 0) hx hb d_D_takePulse_69 (by decide) ?_
      refine g_puti E hH (gc_D hc) cl_D ct_D 3 (by decide) lf_D_21 rfl (by decide +kernel) (fun _ _ => rfl) (Nat.le_of_ble_eq_true rfl) d_D_takePulse_70 (fun H locs hH => ?_)
      exact g_vret E hH (hsp.trans (by simp only [sp_D_takePulse, if_pos h1])) d_D_takePulse_73
    · refine lv_aload_n hx hb d_D_takePulse_18 rfl (lv_at hl 1 rfl) ?_
      refine g_geti (v := (G0 c 3)) E hH (gc_D hc) cl_D 3 (by decide) lf_D_21 (fun _ => rfl) rfl d_D_takePulse_19 ?_
      refine lv_iconst (v := 2) hx hb d_D_takePulse_22 (by decide) ?_
      refine lv_icmp_lt (tgt := 34) hx hb d_D_takePulse_23 (by decide) (fun h2 => ?_) (fun h2 => ?_)
      · refine lv_aload_n hx hb d_D_takePulse_34 rfl (lv_at hl 1 rfl) ?_
        refine lv_aload_n hx hb d_D_takePulse_35 rfl (lv_at hl 1 rfl) ?_
        refine g_geti (v := (G0 c 4)) E hH (gc_D hc) cl_D 4 (by decide) lf_D_24 (fun _ => rfl) rfl d_D_takePulse_36 ?_
        refine lv_iconst (v := 1) hx hb d_D_takePulse_39 (by decide) ?_
        refine lv_ishl hx hb d_D_takePulse_40 ?_
        refine lv_iconst (v := 1) hx hb d_D_takePulse_41 (by decide) ?_
        refine lv_ior hx hb d_D_takePulse_42 ?_
        refine lv_bipush (v := 15) hx hb d_D_takePulse_43 (by decide) ?_
        refine lv_iand hx hb d_D_takePulse_45 ?_
        refine g_puti E hH (gc_D hc) cl_D ct_D 4 (by decide) lf_D_24 rfl (by decide +kernel) (fun _ _ => rfl) (Nat.le_of_ble_eq_true rfl) d_D_takePulse_46 (fun H locs hH => ?_)
        refine lv_iload_n hx hb d_D_takePulse_49 rfl (lv_at hl 0 rfl) ?_
        refine lv_if_eq (tgt := 63) hx hb d_D_takePulse_50 (by decide) (fun h0 => absurd h0 h1) (fun _ => ?_)
        refine lv_aload_n hx hb d_D_takePulse_53 rfl (lv_at hl 1 rfl) ?_
        refine lv_dup hx hb d_D_takePulse_54 rfl ?_
        refine g_geti (v := (G0 c 6)) E hH (gc_D hc) cl_D 6 (by decide) lf_D_30 (fun _ => rfl) (wr_k _ _ _ _ (by decide)) d_D_takePulse_55 ?_
        refine lv_iconst (v := 1) hx hb d_D_takePulse_58 (by decide) ?_
        refine lv_iadd hx hb d_D_takePulse_59 ?_
        refine g_puti E hH (gc_D hc) cl_D ct_D 6 (by decide) lf_D_30 rfl (by decide +kernel) (fun _ _ => rfl) (Nat.le_of_ble_eq_true rfl) d_D_takePulse_60 (fun H locs hH => ?_)
        refine lv_aload_n hx hb d_D_takePulse_63 rfl (lv_at hl 1 rfl) ?_
        refine lv_iload_n hx hb d_D_takePulse_64 rfl (lv_at hl 2 rfl) ?_
        refine g_puti E hH (gc_D hc) cl_D ct_D 1 (by decide) lf_D_15 rfl (by decide +kernel) (fun _ _ => rfl) (Nat.le_of_ble_eq_true rfl) d_D_takePulse_65 (fun H locs hH => ?_)
        refine lv_aload_n hx hb d_D_takePulse_68 rfl (lv_at hl 1 rfl) ?_
        refine lv_iconst (v := 0) hx hb d_D_takePulse_69 (by decide) ?_
        refine g_puti E hH (gc_D hc) cl_D ct_D 3 (by decide) lf_D_21 rfl (by decide +kernel) (fun _ _ => rfl) (Nat.le_of_ble_eq_true rfl) d_D_takePulse_70 (fun H locs hH => ?_)
        exact g_vret E hH (hsp.trans (by simp only [sp_D_takePulse, if_neg h1, if_pos h2])) d_D_takePulse_73
      · refine lv_aload_n hx hb d_D_takePulse_26 rfl (lv_at hl 1 rfl) ?_
        refine lv_iload_n hx hb d_D_takePulse_27 rfl (lv_at hl 2 rfl) ?_
        refine g_callVv (As := [.int _]) E hH hl (c_D_takeV l P _ c _ hc) lm_D_40 (gc_D hc) cl_D (Nat.le_of_ble_eq_true rfl) (Nat.le_of_ble_eq_true rfl) (Nat.le_of_ble_eq_true rfl) (Nat.le_of_ble_eq_true rfl) (Nat.le_of_ble_eq_true rfl) rfl rfl rfl rfl d_D_takePulse_28 (fun H locs hH => ?_)
        refine lv_goto (tgt := 63) hx hb d_D_takePulse_31 (by decide) ?_
        refine lv_aload_n hx hb d_D_takePulse_63 rfl (lv_at hl 1 rfl) ?_
        refine lv_iload_n hx hb d_D_takePulse_64 rfl (lv_at hl 2 rfl) ?_
        refine g_puti E hH (gc_D hc) cl_D ct_D 1 (by decide) lf_D_15 rfl (by decide +kernel) (fun _ _ => rfl) (Nat.le_of_ble_eq_true rfl) d_D_takePulse_65 (fun H locs hH => ?_)
        refine lv_aload_n hx hb d_D_takePulse_68 rfl (lv_at hl 1 rfl) ?_
        refine lv_iconst (v := 0) hx hb d_D_takePulse_69 (by decide) ?_
        refine g_puti E hH (gc_D hc) cl_D ct_D 3 (by decide) lf_D_21 rfl (by decide +kernel) (fun _ _ => rfl) (Nat.le_of_ble_eq_true rfl) d_D_takePulse_70 (fun H locs hH => ?_)
        exact g_vret E hH (hsp.trans (by simp only [sp_D_takePulse, if_neg h1, if_neg h2])) d_D_takePulse_73
  · refine lv_icmp_ne (tgt := 12) hx hb d_D_takePulse_5 (by decide) (fun h3 => ?_) (fun h3 => ?_)
    · refine lv_iconst (v := 0) hx hb d_D_takePulse_12 (by decide) ?_
      exact hJ _ _ _ ⟨by simp only [if_neg h3], isB_0, hH⟩
    · refine lv_iconst (v := 1) hx hb d_D_takePulse_8 (by decide) ?_
      refine lv_goto (tgt := 13) hx hb d_D_takePulse_9 (by decide) ?_
      exact hJ _ _ _ ⟨by simp only [if_pos h3], isB_1, hH⟩

def sp_D_bitBehind (c : Nat) (G0 : Mem) (a1 : Int32) : Int32 × Mem :=
  (if a1 = 0 then (if 3 ≤ ((sp_D_takeZero c (wr G0 c 0 a1)) c 5) then (((((sp_D_takeZero c (wr G0 c 0 a1)) c 4) >>> ((3 : Int32) &&& 31)) &&& (1 : Int32)), (sp_D_takeZero c (wr G0 c 0 a1))) else (((-1) : Int32), (wr (sp_D_takeZero c (wr G0 c 0 a1)) c 5 (((sp_D_takeZero c (wr G0 c 0 a1)) c 5) + 1)))) else (if 3 ≤ ((sp_D_takePulse c (wr G0 c 0 a1) a1) c 5) then (((((sp_D_takePulse c (wr G0 c 0 a1) a1) c 4) >>> ((3 : Int32) &&& 31)) &&& (1 : Int32)), (sp_D_takePulse c (wr G0 c 0 a1) a1)) else (((-1) : Int32), (wr (sp_D_takePulse c (wr G0 c 0 a1) a1) c 5 (((sp_D_takePulse c (wr G0 c 0 a1) a1) c 5) + 1)))))
set_option maxHeartbeats 4000000 in
set_option maxRecDepth 100000 in
theorem c_D_bitBehind (l : Launch) (P : gP) (G0 : Mem) (c : Nat) (a1 : Int32) (hc : kD c) : gMi l y_D_bitBehind b_D_bitBehind 2 (some .int) ({ frames := 2, cells := 0, slots := 0, locals := 43 }) [.ref (gad P c), .int a1] P G0 (sp_D_bitBehind c G0 a1) := by
  refine Met.ofW (cc := b_D_bitBehind) (maxL := 2) (ret := (some .int)) (by decide) rfl ?_
  intro p e s m args below meth c0 s₁ B hml hv
  obtain ⟨rfl, hpre⟩ := hv
  obtain ⟨E, hH⟩ := gE_of B hml hpre
  replace E : gE p s m _ meth c0 P "FramedLine$Decoder" b_D_bitBehind 2 (some .int) := E
  have hcU := hc
  unfold kD at hcU
  have hx := E.1
  have hb := E.2.1
  have hl := lv_entry ([.ref (gad P c), .int a1]) (n := 2) (Nat.le_of_ble_eq_true rfl)
  rw [lg_entry_eq]
  generalize (lg_sl ([.ref (gad P c), .int a1]) ++ List.replicate (2 - (lg_sl ([.ref (gad P c), .int a1])).length) Slot.unset).toArray = ls at hl ⊢
  replace hl : lv_has ls 2 [(0, .ref (gad P c)), (1, .int a1)] := hl
  have hsp : sp_D_bitBehind c G0 a1 = sp_D_bitBehind c G0 a1 := rfl
  refine lv_aload_n hx hb d_D_bitBehind_0 rfl (lv_at hl 0 rfl) ?_
  refine lv_iload_n hx hb d_D_bitBehind_1 rfl (lv_at hl 1 rfl) ?_
  refine g_puti E hH (gc_D hc) cl_D ct_D 0 (by decide) lf_D_9 rfl (by decide +kernel) (fun _ _ => rfl) (Nat.le_of_ble_eq_true rfl) d_D_bitBehind_2 (fun H locs hH => ?_)
  refine lv_iload_n hx hb d_D_bitBehind_5 rfl (lv_at hl 1 rfl) ?_
  refine lv_if_ne (tgt := 16) hx hb d_D_bitBehind_6 (by decide) (fun h1 => ?_) (fun h1 => ?_)
  · refine lv_aload_n hx hb d_D_bitBehind_16 rfl (lv_at hl 0 rfl) ?_
    refine lv_iload_n hx hb d_D_bitBehind_17 rfl (lv_at hl 1 rfl) ?_
    refine g_callVv (As := [.int _]) E hH hl (c_D_takePulse l P _ c _ hc) lm_D_36 (gc_D hc) cl_D (Nat.le_of_ble_eq_true rfl) (Nat.le_of_ble_eq_true rfl) (Nat.le_of_ble_eq_true rfl) (Nat.le_of_ble_eq_true rfl) (Nat.le_of_ble_eq_true rfl) rfl rfl rfl rfl d_D_bitBehind_18 (fun H locs hH => ?_)
    refine lv_aload_n hx hb d_D_bitBehind_21 rfl (lv_at hl 0 rfl) ?_
    refine g_geti (v := ((sp_D_takePulse c (wr G0 c 0 a1) a1) c 5)) E hH (gc_D hc) cl_D 5 (by decide) lf_D_27 (fun _ => rfl) rfl d_D_bitBehind_22 ?_
    refine lv_iconst (v := 3) hx hb d_D_bitBehind_25 (by decide) ?_
    refine lv_icmp_ge (tgt := 41) hx hb d_D_bitBehind_26 (by decide) (fun h2 => ?_) (fun h2 => ?_)
    · refine lv_aload_n hx hb d_D_bitBehind_41 rfl (lv_at hl 0 rfl) ?_
      refine g_geti (v := ((sp_D_takePulse c (wr G0 c 0 a1) a1) c 4)) E hH (gc_D hc) cl_D 4 (by decide) lf_D_24 (fun _ => rfl) rfl d_D_bitBehind_42 ?_
      refine lv_iconst (v := 3) hx hb d_D_bitBehind_45 (by decide) ?_
      refine lv_ishr hx hb d_D_bitBehind_46 ?_
      refine lv_iconst (v := 1) hx hb d_D_bitBehind_47 (by decide) ?_
      refine lv_iand hx hb d_D_bitBehind_48 ?_
      exact g_iret E hH (hsp.trans (by simp only [sp_D_bitBehind, if_neg h1, if_pos h2])) d_D_bitBehind_49
    · refine lv_aload_n hx hb d_D_bitBehind_29 rfl (lv_at hl 0 rfl) ?_
      refine lv_dup hx hb d_D_bitBehind_30 rfl ?_
      refine g_geti (v := ((sp_D_takePulse c (wr G0 c 0 a1) a1) c 5)) E hH (gc_D hc) cl_D 5 (by decide) lf_D_27 (fun _ => rfl) rfl d_D_bitBehind_31 ?_
      refine lv_iconst (v := 1) hx hb d_D_bitBehind_34 (by decide) ?_
      refine lv_iadd hx hb d_D_bitBehind_35 ?_
      refine g_puti E hH (gc_D hc) cl_D ct_D 5 (by decide) lf_D_27 rfl (by decide +kernel) (fun _ _ => rfl) (Nat.le_of_ble_eq_true rfl) d_D_bitBehind_36 (fun H locs hH => ?_)
      refine lv_iconst (v := (-1)) hx hb d_D_bitBehind_39 (by decide) ?_
      exact g_iret E hH (hsp.trans (by simp only [sp_D_bitBehind, if_neg h1, if_neg h2])) d_D_bitBehind_40
  · refine lv_aload_n hx hb d_D_bitBehind_9 rfl (lv_at hl 0 rfl) ?_
    refine g_callVv (As := []) E hH hl (c_D_takeZero l P _ c hc) lm_D_33 (gc_D hc) cl_D (Nat.le_of_ble_eq_true rfl) (Nat.le_of_ble_eq_true rfl) (Nat.le_of_ble_eq_true rfl) (Nat.le_of_ble_eq_true rfl) (Nat.le_of_ble_eq_true rfl) rfl rfl rfl rfl d_D_bitBehind_10 (fun H locs hH => ?_)
    refine lv_goto (tgt := 21) hx hb d_D_bitBehind_13 (by decide) ?_
    refine lv_aload_n hx hb d_D_bitBehind_21 rfl (lv_at hl 0 rfl) ?_
    refine g_geti (v := ((sp_D_takeZero c (wr G0 c 0 a1)) c 5)) E hH (gc_D hc) cl_D 5 (by decide) lf_D_27 (fun _ => rfl) rfl d_D_bitBehind_22 ?_
    refine lv_iconst (v := 3) hx hb d_D_bitBehind_25 (by decide) ?_
    refine lv_icmp_ge (tgt := 41) hx hb d_D_bitBehind_26 (by decide) (fun h3 => ?_) (fun h3 => ?_)
    · refine lv_aload_n hx hb d_D_bitBehind_41 rfl (lv_at hl 0 rfl) ?_
      refine g_geti (v := ((sp_D_takeZero c (wr G0 c 0 a1)) c 4)) E hH (gc_D hc) cl_D 4 (by decide) lf_D_24 (fun _ => rfl) rfl d_D_bitBehind_42 ?_
      refine lv_iconst (v := 3) hx hb d_D_bitBehind_45 (by decide) ?_
      refine lv_ishr hx hb d_D_bitBehind_46 ?_
      refine lv_iconst (v := 1) hx hb d_D_bitBehind_47 (by decide) ?_
      refine lv_iand hx hb d_D_bitBehind_48 ?_
      exact g_iret E hH (hsp.trans (by simp only [sp_D_bitBehind, if_pos h1, if_pos h3])) d_D_bitBehind_49
    · refine lv_aload_n hx hb d_D_bitBehind_29 rfl (lv_at hl 0 rfl) ?_
      refine lv_dup hx hb d_D_bitBehind_30 rfl ?_
      refine g_geti (v := ((sp_D_takeZero c (wr G0 c 0 a1)) c 5)) E hH (gc_D hc) cl_D 5 (by decide) lf_D_27 (fun _ => rfl) rfl d_D_bitBehind_31 ?_
      refine lv_iconst (v := 1) hx hb d_D_bitBehind_34 (by decide) ?_
      refine lv_iadd hx hb d_D_bitBehind_35 ?_
      refine g_puti E hH (gc_D hc) cl_D ct_D 5 (by decide) lf_D_27 rfl (by decide +kernel) (fun _ _ => rfl) (Nat.le_of_ble_eq_true rfl) d_D_bitBehind_36 (fun H locs hH => ?_)
      refine lv_iconst (v := (-1)) hx hb d_D_bitBehind_39 (by decide) ?_
      exact g_iret E hH (hsp.trans (by simp only [sp_D_bitBehind, if_pos h1, if_neg h3])) d_D_bitBehind_40
