def sp_S_exchange (c : Nat) (G0 : Mem) (a1 : Int32) (a2 : Int32) : Int32 × Mem :=
  ((G0 (c + 1) (tn a1)), (wr G0 (c + 1) (tn a1) a2))
set_option maxHeartbeats 4000000 in
set_option maxRecDepth 100000 in
theorem c_S_exchange (l : Launch) (P : gP) (G0 : Mem) (c : Nat) (a1 : Int32) (a2 : Int32) (hc : kS c) (hi : vp_in a1 4) : gMi l y_S_exchange b_S_exchange 4 (some .int) ({ frames := 0, cells := 0, slots := 0, locals := 0 }) [.ref (gad P c), .int a1, .int a2] P G0 (sp_S_exchange c G0 a1 a2) := by
  refine Met.ofW (cc := b_S_exchange) (maxL := 4) (ret := (some .int)) (by decide) rfl ?_
  intro p e s m args below meth c0 s₁ B hml hv
  obtain ⟨rfl, hpre⟩ := hv
  obtain ⟨E, hH⟩ := gE_of B hml hpre
  replace E : gE p s m _ meth c0 P "FramedLine$Sender" b_S_exchange 4 (some .int) := E
  have hcU := hc
  unfold kS at hcU
  have hx := E.1
  have hb := E.2.1
  have hl := lv_entry ([.ref (gad P c), .int a1, .int a2]) (n := 4) (Nat.le_of_ble_eq_true rfl)
  rw [lg_entry_eq]
  generalize (lg_sl ([.ref (gad P c), .int a1, .int a2]) ++ List.replicate (4 - (lg_sl ([.ref (gad P c), .int a1, .int a2])).length) Slot.unset).toArray = ls at hl ⊢
  replace hl : lv_has ls 4 [(0, .ref (gad P c)), (1, .int a1), (2, .int a2)] := hl
  have hsp : sp_S_exchange c G0 a1 a2 = sp_S_exchange c G0 a1 a2 := rfl
  refine lv_aload_n hx hb d_S_exchange_0 rfl (lv_at hl 0 rfl) ?_
  refine g_get E hH (gc_S hc) cl_S 0 (by decide) lf_S_9 rfl d_S_exchange_1 ?_
  refine lv_iload_n hx hb d_S_exchange_4 rfl (lv_at hl 1 rfl) ?_
  refine g_iaload (k := (tn a1)) (v := (G0 (c + 1) (tn a1))) E hH (ga_I4 (kS_loaded hc)) hi rfl rfl d_S_exchange_5 ?_
  refine lv_istore_n hx hb d_S_exchange_6 rfl hl (by decide) rfl (fun ls hl => ?_)
  refine lv_aload_n hx hb d_S_exchange_7 rfl (lv_at hl 1 rfl) ?_
  refine g_get E hH (gc_S hc) cl_S 0 (by decide) lf_S_9 rfl d_S_exchange_8 ?_
  refine lv_iload_n hx hb d_S_exchange_11 rfl (lv_at hl 2 rfl) ?_
  refine lv_iload_n hx hb d_S_exchange_12 rfl (lv_at hl 3 rfl) ?_
  refine g_iastore (k := (tn a1)) E hH (ga_I4 (kS_loaded hc)) hi rfl d_S_exchange_13 (fun H locs hH => ?_)
  refine lv_iload_n hx hb d_S_exchange_14 rfl (lv_at hl 0 rfl) ?_
  exact g_iret E hH (hsp.trans (by rw [sp_S_exchange])) d_S_exchange_15

def sp_S_isBetweenFrames (c : Nat) (G0 : Mem)  : Int32 :=
  ((if (G0 c 3) = 32 then 1 else 0) : Int32)
set_option maxHeartbeats 4000000 in
set_option maxRecDepth 100000 in
theorem c_S_isBetweenFrames (l : Launch) (P : gP) (G0 : Mem) (c : Nat)  (hc : kS c) : gMrz l y_S_isBetweenFrames b_S_isBetweenFrames 1 (some .boolean) ({ frames := 0, cells := 0, slots := 0, locals := 0 }) [.ref (gad P c)] P G0 (sp_S_isBetweenFrames c G0) := by
  refine Met.ofW (cc := b_S_isBetweenFrames) (maxL := 1) (ret := (some .boolean)) (by decide) rfl ?_
  intro p e s m args below meth c0 s₁ B hml hv
  obtain ⟨rfl, hpre⟩ := hv
  obtain ⟨E, hH⟩ := gE_of B hml hpre
  replace E : gE p s m _ meth c0 P "FramedLine$Sender" b_S_isBetweenFrames 1 (some .boolean) := E
  have hcU := hc
  unfold kS at hcU
  have hx := E.1
  have hb := E.2.1
  have hl := lv_entry ([.ref (gad P c)]) (n := 1) (Nat.le_of_ble_eq_true rfl)
  rw [lg_entry_eq]
  generalize (lg_sl ([.ref (gad P c)]) ++ List.replicate (1 - (lg_sl ([.ref (gad P c)])).length) Slot.unset).toArray = ls at hl ⊢
  replace hl : lv_has ls 1 [(0, .ref (gad P c))] := hl
  have hsp : sp_S_isBetweenFrames c G0 = sp_S_isBetweenFrames c G0 := rfl
  refine lv_aload_n hx hb d_S_isBetweenFrames_0 rfl (lv_at hl 0 rfl) ?_
  refine g_geti (v := (G0 c 3)) E hH (gc_S hc) cl_S 3 (by decide) lf_S_22 (fun _ => rfl) rfl d_S_isBetweenFrames_1 ?_
  refine lv_bipush (v := 32) hx hb d_S_isBetweenFrames_4 (by decide) ?_
  refine jn (α := Int32) (fun z H1 locs1 => z = ((if (G0 c 3) = 32 then 1 else 0) : Int32) ∧ isB z ∧ gH P s G0 H1 locs1) (fun z => F0 m 14 ls (.int z :: [])) (fun z H locs h9 => ?_) (fun hJ => ?_)
  · obtain ⟨rfl, hz14, hH⟩ := h9
    exact g_rzret E hH (hsp.trans (by rw [sp_S_isBetweenFrames])) hz14 d_S_isBetweenFrames_14
  · refine lv_icmp_ne (tgt := 13) hx hb d_S_isBetweenFrames_6 (by decide) (fun h1 => ?_) (fun h1 => ?_)
    · refine lv_iconst (v := 0) hx hb d_S_isBetweenFrames_13 (by decide) ?_
      exact hJ _ _ _ ⟨by simp only [if_neg h1], isB_0, hH⟩
    · refine lv_iconst (v := 1) hx hb d_S_isBetweenFrames_9 (by decide) ?_
      refine lv_goto (tgt := 14) hx hb d_S_isBetweenFrames_10 (by decide) ?_
      exact hJ _ _ _ ⟨by simp only [if_pos h1], isB_1, hH⟩

def sp_S_nextBit (c : Nat) (G0 : Mem)  : Int32 × Mem :=
  (((iu (G0 c 2) (32 - ((G0 c 3) + 1))) &&& (1 : Int32)), (wr G0 c 3 ((G0 c 3) + 1)))
set_option maxHeartbeats 4000000 in
set_option maxRecDepth 100000 in
theorem c_S_nextBit (l : Launch) (P : gP) (G0 : Mem) (c : Nat)  (hc : kS c) : gMi l y_S_nextBit b_S_nextBit 1 (some .int) ({ frames := 0, cells := 0, slots := 0, locals := 0 }) [.ref (gad P c)] P G0 (sp_S_nextBit c G0) := by
  refine Met.ofW (cc := b_S_nextBit) (maxL := 1) (ret := (some .int)) (by decide) rfl ?_
  intro p e s m args below meth c0 s₁ B hml hv
  obtain ⟨rfl, hpre⟩ := hv
  obtain ⟨E, hH⟩ := gE_of B hml hpre
  replace E : gE p s m _ meth c0 P "FramedLine$Sender" b_S_nextBit 1 (some .int) := E
  have hcU := hc
  unfold kS at hcU
  have hx := E.1
  have hb := E.2.1
  have hl := lv_entry ([.ref (gad P c)]) (n := 1) (Nat.le_of_ble_eq_true rfl)
  rw [lg_entry_eq]
  generalize (lg_sl ([.ref (gad P c)]) ++ List.replicate (1 - (lg_sl ([.ref (gad P c)])).length) Slot.unset).toArray = ls at hl ⊢
  replace hl : lv_has ls 1 [(0, .ref (gad P c))] := hl
  have hsp : sp_S_nextBit c G0 = sp_S_nextBit c G0 := rfl
  refine lv_aload_n hx hb d_S_nextBit_0 rfl (lv_at hl 0 rfl) ?_
  refine lv_dup hx hb d_S_nextBit_1 rfl ?_
  refine g_geti (v := (G0 c 3)) E hH (gc_S hc) cl_S 3 (by decide) lf_S_22 (fun _ => rfl) rfl d_S_nextBit_2 ?_
  refine lv_iconst (v := 1) hx hb d_S_nextBit_5 (by decide) ?_
  refine lv_iadd hx hb d_S_nextBit_6 ?_
  refine g_puti E hH (gc_S hc) cl_S ct_S 3 (by decide) lf_S_22 rfl (by decide +kernel) (fun _ _ => rfl) (Nat.le_of_ble_eq_true rfl) d_S_nextBit_7 (fun H locs hH => ?_)
  refine lv_aload_n hx hb d_S_nextBit_10 rfl (lv_at hl 0 rfl) ?_
  refine g_geti (v := (G0 c 2)) E hH (gc_S hc) cl_S 2 (by decide) lf_S_19 (fun _ => rfl) (wr_k _ _ _ _ (by decide)) d_S_nextBit_11 ?_
  refine lv_bipush (v := 32) hx hb d_S_nextBit_14 (by decide) ?_
  refine lv_aload_n hx hb d_S_nextBit_16 rfl (lv_at hl 0 rfl) ?_
  refine g_geti (v := ((G0 c 3) + 1)) E hH (gc_S hc) cl_S 3 (by decide) lf_S_22 (fun _ => rfl) (wr_same _ _ _ _) d_S_nextBit_17 ?_
  refine lv_isub hx hb d_S_nextBit_20 ?_
  refine lv_iushr (v := (iu (G0 c 2) (32 - ((G0 c 3) + 1)))) hx hb d_S_nextBit_21 rfl ?_
  refine lv_iconst (v := 1) hx hb d_S_nextBit_22 (by decide) ?_
  refine lv_iand hx hb d_S_nextBit_23 ?_
  exact g_iret E hH (hsp.trans (by rw [sp_S_nextBit])) d_S_nextBit_24

def sp_S_evenSlotZero (c : Nat) (G0 : Mem)  : Int32 :=
  (((((G0 c 5) >>> ((3 - (((G0 c 1) >>> ((1 : Int32) &&& 31)) &&& (3 : Int32))) &&& 31)) &&& (1 : Int32)) <<< ((7 : Int32) &&& 31)) ||| (27 : Int32))
set_option maxHeartbeats 4000000 in
set_option maxRecDepth 100000 in
theorem c_S_evenSlotZero (l : Launch) (P : gP) (G0 : Mem) (c : Nat)  (hc : kS c) : gMri l y_S_evenSlotZero b_S_evenSlotZero 3 (some .int) ({ frames := 0, cells := 0, slots := 0, locals := 0 }) [.ref (gad P c)] P G0 (sp_S_evenSlotZero c G0) := by
  refine Met.ofW (cc := b_S_evenSlotZero) (maxL := 3) (ret := (some .int)) (by decide) rfl ?_
  intro p e s m args below meth c0 s₁ B hml hv
  obtain ⟨rfl, hpre⟩ := hv
  obtain ⟨E, hH⟩ := gE_of B hml hpre
  replace E : gE p s m _ meth c0 P "FramedLine$Sender" b_S_evenSlotZero 3 (some .int) := E
  have hcU := hc
  unfold kS at hcU
  have hx := E.1
  have hb := E.2.1
  have hl := lv_entry ([.ref (gad P c)]) (n := 3) (Nat.le_of_ble_eq_true rfl)
  rw [lg_entry_eq]
  generalize (lg_sl ([.ref (gad P c)]) ++ List.replicate (3 - (lg_sl ([.ref (gad P c)])).length) Slot.unset).toArray = ls at hl ⊢
  replace hl : lv_has ls 3 [(0, .ref (gad P c))] := hl
  have hsp : sp_S_evenSlotZero c G0 = sp_S_evenSlotZero c G0 := rfl
  refine lv_aload_n hx hb d_S_evenSlotZero_0 rfl (lv_at hl 0 rfl) ?_
  refine g_geti (v := (G0 c 1)) E hH (gc_S hc) cl_S 1 (by decide) lf_S_15 (fun _ => rfl) rfl d_S_evenSlotZero_1 ?_
  refine lv_iconst (v := 1) hx hb d_S_evenSlotZero_4 (by decide) ?_
  refine lv_ishr hx hb d_S_evenSlotZero_5 ?_
  refine lv_iconst (v := 3) hx hb d_S_evenSlotZero_6 (by decide) ?_
  refine lv_iand hx hb d_S_evenSlotZero_7 ?_
  refine lv_istore_n hx hb d_S_evenSlotZero_8 rfl hl (by decide) rfl (fun ls hl => ?_)
  refine lv_aload_n hx hb d_S_evenSlotZero_9 rfl (lv_at hl 1 rfl) ?_
  refine g_geti (v := (G0 c 5)) E hH (gc_S hc) cl_S 5 (by decide) lf_S_28 (fun _ => rfl) rfl d_S_evenSlotZero_10 ?_
  refine lv_iconst (v := 3) hx hb d_S_evenSlotZero_13 (by decide) ?_
  refine lv_iload_n hx hb d_S_evenSlotZero_14 rfl (lv_at hl 0 rfl) ?_
  refine lv_isub hx hb d_S_evenSlotZero_15 ?_
  refine lv_ishr hx hb d_S_evenSlotZero_16 ?_
  refine lv_iconst (v := 1) hx hb d_S_evenSlotZero_17 (by decide) ?_
  refine lv_iand hx hb d_S_evenSlotZero_18 ?_
  refine lv_istore_n hx hb d_S_evenSlotZero_19 rfl hl (by decide) rfl (fun ls hl => ?_)
  refine lv_iload_n hx hb d_S_evenSlotZero_20 rfl (lv_at hl 0 rfl) ?_
  refine lv_bipush (v := 7) hx hb d_S_evenSlotZero_21 (by decide) ?_
  refine lv_ishl hx hb d_S_evenSlotZero_23 ?_
  refine lv_bipush (v := 27) hx hb d_S_evenSlotZero_24 (by decide) ?_
  refine lv_ior hx hb d_S_evenSlotZero_26 ?_
  exact g_riret E hH (hsp.trans (by rw [sp_S_evenSlotZero])) d_S_evenSlotZero_27

def sp_S_firstBitOfOdd (c : Nat) (c2 : Nat) (G0 : Mem)  : Int32 :=
  (if 11 < (G0 c 1) then ((if ((if (G0 c 1) = 13 then (zb (G0 c2 9)) else (zb (G0 c2 10))) : Int32) = 0 then 1 else 0) : Int32) else (((11 : Int32) >>> ((5 - ((G0 c 1) >>> ((1 : Int32) &&& 31))) &&& 31)) &&& (1 : Int32)))
set_option maxHeartbeats 4000000 in
set_option maxRecDepth 100000 in
theorem c_S_firstBitOfOdd (l : Launch) (P : gP) (G0 : Mem) (c : Nat) (c2 : Nat)  (hc : kS c) (hc2 : kO c2) : gMri l y_S_firstBitOfOdd b_S_firstBitOfOdd 3 (some .int) ({ frames := 0, cells := 0, slots := 0, locals := 0 }) [.ref (gad P c), .ref (gad P c2)] P G0 (sp_S_firstBitOfOdd c c2 G0) := by
  refine Met.ofW (cc := b_S_firstBitOfOdd) (maxL := 3) (ret := (some .int)) (by decide) rfl ?_
  intro p e s m args below meth c0 s₁ B hml hv
  obtain ⟨rfl, hpre⟩ := hv
  obtain ⟨E, hH⟩ := gE_of B hml hpre
  replace E : gE p s m _ meth c0 P "FramedLine$Sender" b_S_firstBitOfOdd 3 (some .int) := E
  have hcU := hc
  unfold kS at hcU
  have hc2U := hc2
  unfold kO at hc2U
  have hx := E.1
  have hb := E.2.1
  have hl := lv_entry ([.ref (gad P c), .ref (gad P c2)]) (n := 3) (Nat.le_of_ble_eq_true rfl)
  rw [lg_entry_eq]
  generalize (lg_sl ([.ref (gad P c), .ref (gad P c2)]) ++ List.replicate (3 - (lg_sl ([.ref (gad P c), .ref (gad P c2)])).length) Slot.unset).toArray = ls at hl ⊢
  replace hl : lv_has ls 3 [(0, .ref (gad P c)), (1, .ref (gad P c2))] := hl
  have hsp : sp_S_firstBitOfOdd c c2 G0 = sp_S_firstBitOfOdd c c2 G0 := rfl
  refine lv_aload_n hx hb d_S_firstBitOfOdd_0 rfl (lv_at hl 0 rfl) ?_
  refine g_geti (v := (G0 c 1)) E hH (gc_S hc) cl_S 1 (by decide) lf_S_15 (fun _ => rfl) rfl d_S_firstBitOfOdd_1 ?_
  refine lv_bipush (v := 11) hx hb d_S_firstBitOfOdd_4 (by decide) ?_
  refine lv_icmp_gt (tgt := 23) hx hb d_S_firstBitOfOdd_6 (by decide) (fun h1 => ?_) (fun h1 => ?_)
  · refine lv_aload_n hx hb d_S_firstBitOfOdd_23 rfl (lv_at hl 0 rfl) ?_
    refine g_geti (v := (G0 c 1)) E hH (gc_S hc) cl_S 1 (by decide) lf_S_15 (fun _ => rfl) rfl d_S_firstBitOfOdd_24 ?_
    refine lv_bipush (v := 13) hx hb d_S_firstBitOfOdd_27 (by decide) ?_
    refine jn (α := Int32) (fun z H1 locs1 => z = ((if (G0 c 1) = 13 then (zb (G0 c2 9)) else (zb (G0 c2 10))) : Int32) ∧ isB z ∧ gH P s G0 H1 locs1) (fun z => F0 m 43 ls (.int z :: [])) (fun z H locs h9 => ?_) (fun hJ => ?_)
    · obtain ⟨rfl, hz43, hH⟩ := h9
      refine lv_istore_n hx hb d_S_firstBitOfOdd_43 rfl hl (by decide) rfl (fun ls hl => ?_)
      refine lv_iload_n hx hb d_S_firstBitOfOdd_44 rfl (lv_at hl 0 rfl) ?_
      refine jn (α := Int32) (fun z H1 locs1 => z = ((if ((if (G0 c 1) = 13 then (zb (G0 c2 9)) else (zb (G0 c2 10))) : Int32) = 0 then 1 else 0) : Int32) ∧ isB z ∧ gH P s G0 H1 locs1) (fun z => F0 m 53 ls (.int z :: [])) (fun z H locs h9 => ?_) (fun hJ => ?_)
      · obtain ⟨rfl, hz53, hH⟩ := h9
        exact g_riret E hH (hsp.trans (by simp only [sp_S_firstBitOfOdd, if_pos h1])) d_S_firstBitOfOdd_53
      · refine lv_if_eq (tgt := 52) hx hb d_S_firstBitOfOdd_45 (by decide) (fun h2 => ?_) (fun h2 => ?_)
        · refine lv_iconst (v := 1) hx hb d_S_firstBitOfOdd_52 (by decide) ?_
          exact hJ _ _ _ ⟨by simp only [if_pos h2], isB_1, hH⟩
        · refine lv_iconst (v := 0) hx hb d_S_firstBitOfOdd_48 (by decide) ?_
          refine lv_goto (tgt := 53) hx hb d_S_firstBitOfOdd_49 (by decide) ?_
          exact hJ _ _ _ ⟨by simp only [if_neg h2], isB_0, hH⟩
    · refine lv_icmp_ne (tgt := 39) hx hb d_S_firstBitOfOdd_29 (by decide) (fun h3 => ?_) (fun h3 => ?_)
      · refine lv_aload_n hx hb d_S_firstBitOfOdd_39 rfl (lv_at hl 1 rfl) ?_
        refine g_getzN (v := (G0 c2 10)) E hH (gc_O hc2) cl_O 10 (by decide) lf_S_68 (fun _ => rfl) rfl d_S_firstBitOfOdd_40 ?_
        exact hJ _ _ _ ⟨by simp only [if_neg h3], (isB_zb _), hH⟩
      · refine lv_aload_n hx hb d_S_firstBitOfOdd_32 rfl (lv_at hl 1 rfl) ?_
        refine g_getzN (v := (G0 c2 9)) E hH (gc_O hc2) cl_O 9 (by decide) lf_S_62 (fun _ => rfl) rfl d_S_firstBitOfOdd_33 ?_
        refine lv_goto (tgt := 43) hx hb d_S_firstBitOfOdd_36 (by decide) ?_
        exact hJ _ _ _ ⟨by simp only [if_pos h3], (isB_zb _), hH⟩
  · refine lv_bipush (v := 11) hx hb d_S_firstBitOfOdd_9 (by decide) ?_
    refine lv_iconst (v := 5) hx hb d_S_firstBitOfOdd_11 (by decide) ?_
    refine lv_aload_n hx hb d_S_firstBitOfOdd_12 rfl (lv_at hl 0 rfl) ?_
    refine g_geti (v := (G0 c 1)) E hH (gc_S hc) cl_S 1 (by decide) lf_S_15 (fun _ => rfl) rfl d_S_firstBitOfOdd_13 ?_
    refine lv_iconst (v := 1) hx hb d_S_firstBitOfOdd_16 (by decide) ?_
    refine lv_ishr hx hb d_S_firstBitOfOdd_17 ?_
    refine lv_isub hx hb d_S_firstBitOfOdd_18 ?_
    refine lv_ishr hx hb d_S_firstBitOfOdd_19 ?_
    refine lv_iconst (v := 1) hx hb d_S_firstBitOfOdd_20 (by decide) ?_
    refine lv_iand hx hb d_S_firstBitOfOdd_21 ?_
    exact g_riret E hH (hsp.trans (by simp only [sp_S_firstBitOfOdd, if_neg h1])) d_S_firstBitOfOdd_22

def sp_S_oddSlotZero (c : Nat) (c2 : Nat) (G0 : Mem)  : Int32 :=
  (((((sp_S_firstBitOfOdd c (c2 + 1) G0)) <<< ((7 : Int32) &&& 31)) ||| (95 : Int32)) ||| ((if ((sp_R_isAligned c2 G0)) = 0 then 32 else 0) : Int32))
set_option maxHeartbeats 4000000 in
set_option maxRecDepth 100000 in
theorem c_S_oddSlotZero (l : Launch) (P : gP) (G0 : Mem) (c : Nat) (c2 : Nat)  (hc : kS c) (hc2 : kR c2) : gMri l y_S_oddSlotZero b_S_oddSlotZero 3 (some .int) ({ frames := 1, cells := 0, slots := 0, locals := 22 }) [.ref (gad P c), .ref (gad P c2)] P G0 (sp_S_oddSlotZero c c2 G0) := by
  refine Met.ofW (cc := b_S_oddSlotZero) (maxL := 3) (ret := (some .int)) (by decide) rfl ?_
  intro p e s m args below meth c0 s₁ B hml hv
  obtain ⟨rfl, hpre⟩ := hv
  obtain ⟨E, hH⟩ := gE_of B hml hpre
  replace E : gE p s m _ meth c0 P "FramedLine$Sender" b_S_oddSlotZero 3 (some .int) := E
  have hcU := hc
  unfold kS at hcU
  have hc2U := hc2
  unfold kR at hc2U
  have hx := E.1
  have hb := E.2.1
  have hl := lv_entry ([.ref (gad P c), .ref (gad P c2)]) (n := 3) (Nat.le_of_ble_eq_true rfl)
  rw [lg_entry_eq]
  generalize (lg_sl ([.ref (gad P c), .ref (gad P c2)]) ++ List.replicate (3 - (lg_sl ([.ref (gad P c), .ref (gad P c2)])).length) Slot.unset).toArray = ls at hl ⊢
  replace hl : lv_has ls 3 [(0, .ref (gad P c)), (1, .ref (gad P c2))] := hl
  have hsp : sp_S_oddSlotZero c c2 G0 = sp_S_oddSlotZero c c2 G0 := rfl
  refine lv_aload_n hx hb d_S_oddSlotZero_0 rfl (lv_at hl 1 rfl) ?_
  refine g_callVrz (As := []) E hH hl (c_R_isAligned l P _ c2 hc2) lm_S_48 (gc_R hc2) cl_R (Nat.le_of_ble_eq_true rfl) (Nat.le_of_ble_eq_true rfl) (Nat.le_of_ble_eq_true rfl) (Nat.le_of_ble_eq_true rfl) (Nat.le_of_ble_eq_true rfl) rfl rfl rfl rfl d_S_oddSlotZero_1 (fun H locs hH hz1 => ?_)
  refine jn (α := Int32) (fun z H1 locs1 => z = ((if ((sp_R_isAligned c2 G0)) = 0 then 32 else 0) : Int32) ∧ gH P s G0 H1 locs1) (fun z => F0 m 13 ls (.int z :: [])) (fun z H locs h9 => ?_) (fun hJ => ?_)
  · obtain ⟨rfl, hH⟩ := h9
    refine lv_istore_n hx hb d_S_oddSlotZero_13 rfl hl (by decide) rfl (fun ls hl => ?_)
    refine lv_aload_n hx hb d_S_oddSlotZero_14 rfl (lv_at hl 1 rfl) ?_
    refine lv_aload_n hx hb d_S_oddSlotZero_15 rfl (lv_at hl 2 rfl) ?_
    refine g_getN E hH (gc_R hc2) cl_R 0 (by decide) lf_S_54 rfl d_S_oddSlotZero_16 ?_
    refine g_callVri (As := [.ref (gad P (c2 + 1))]) E hH hl (c_S_firstBitOfOdd l P _ c (c2 + 1) hc (kR_rounds hc2)) lm_S_58 (gc_S hc) cl_S (Nat.le_of_ble_eq_true rfl) (Nat.le_of_ble_eq_true rfl) (Nat.le_of_ble_eq_true rfl) (Nat.le_of_ble_eq_true rfl) (Nat.le_of_ble_eq_true rfl) rfl rfl rfl rfl d_S_oddSlotZero_19 (fun H locs hH => ?_)
    refine lv_bipush (v := 7) hx hb d_S_oddSlotZero_22 (by decide) ?_
    refine lv_ishl hx hb d_S_oddSlotZero_24 ?_
    refine lv_bipush (v := 95) hx hb d_S_oddSlotZero_25 (by decide) ?_
    refine lv_ior hx hb d_S_oddSlotZero_27 ?_
    refine lv_iload_n hx hb d_S_oddSlotZero_28 rfl (lv_at hl 0 rfl) ?_
    refine lv_ior hx hb d_S_oddSlotZero_29 ?_
    exact g_riret E hH (hsp.trans (by rw [sp_S_oddSlotZero])) d_S_oddSlotZero_30
  · refine lv_if_eq (tgt := 11) hx hb d_S_oddSlotZero_4 (by decide) (fun h1 => ?_) (fun h1 => ?_)
    · refine lv_bipush (v := 32) hx hb d_S_oddSlotZero_11 (by decide) ?_
      exact hJ _ _ _ ⟨by simp only [if_pos h1], hH⟩
    · refine lv_iconst (v := 0) hx hb d_S_oddSlotZero_7 (by decide) ?_
      refine lv_goto (tgt := 13) hx hb d_S_oddSlotZero_8 (by decide) ?_
      exact hJ _ _ _ ⟨by simp only [if_neg h1], hH⟩

def sp_S_beginFrame (c : Nat) (c2 : Nat) (G0 : Mem)  : Mem :=
  (if ((sp_F_endsHalf (wr (wr (wr G0 c 2 ((((((if ((if ((G0 c 1) &&& (1 : Int32)) = 1 then 1 else 0) : Int32) = 0 then ((sp_S_evenSlotZero c G0)) else ((sp_S_oddSlotZero c c2 G0))) : Int32) <<< ((24 : Int32) &&& 31)) ||| ((G0 (c + 1) 1) <<< ((16 : Int32) &&& 31))) ||| ((G0 (c + 1) 2) <<< ((8 : Int32) &&& 31))) ||| (G0 (c + 1) 3))) c 4 ((sp_F_checkOver (wr G0 c 2 ((((((if ((if ((G0 c 1) &&& (1 : Int32)) = 1 then 1 else 0) : Int32) = 0 then ((sp_S_evenSlotZero c G0)) else ((sp_S_oddSlotZero c c2 G0))) : Int32) <<< ((24 : Int32) &&& 31)) ||| ((G0 (c + 1) 1) <<< ((16 : Int32) &&& 31))) ||| ((G0 (c + 1) 2) <<< ((8 : Int32) &&& 31))) ||| (G0 (c + 1) 3))) (G0 c 4) ((if ((if ((G0 c 1) &&& (1 : Int32)) = 1 then 1 else 0) : Int32) = 0 then (((((((if ((if ((G0 c 1) &&& (1 : Int32)) = 1 then 1 else 0) : Int32) = 0 then ((sp_S_evenSlotZero c G0)) else ((sp_S_oddSlotZero c c2 G0))) : Int32) <<< ((24 : Int32) &&& 31)) ||| ((G0 (c + 1) 1) <<< ((16 : Int32) &&& 31))) ||| ((G0 (c + 1) 2) <<< ((8 : Int32) &&& 31))) ||| (G0 (c + 1) 3)) &&& (2147483647 : Int32)) else ((((((if ((if ((G0 c 1) &&& (1 : Int32)) = 1 then 1 else 0) : Int32) = 0 then ((sp_S_evenSlotZero c G0)) else ((sp_S_oddSlotZero c c2 G0))) : Int32) <<< ((24 : Int32) &&& 31)) ||| ((G0 (c + 1) 1) <<< ((16 : Int32) &&& 31))) ||| ((G0 (c + 1) 2) <<< ((8 : Int32) &&& 31))) ||| (G0 (c + 1) 3))) : Int32)))) c 3 0) (G0 c 1))) = 0 then (wr (wr (wr (wr G0 c 2 ((((((if ((if ((G0 c 1) &&& (1 : Int32)) = 1 then 1 else 0) : Int32) = 0 then ((sp_S_evenSlotZero c G0)) else ((sp_S_oddSlotZero c c2 G0))) : Int32) <<< ((24 : Int32) &&& 31)) ||| ((G0 (c + 1) 1) <<< ((16 : Int32) &&& 31))) ||| ((G0 (c + 1) 2) <<< ((8 : Int32) &&& 31))) ||| (G0 (c + 1) 3))) c 4 ((sp_F_checkOver (wr G0 c 2 ((((((if ((if ((G0 c 1) &&& (1 : Int32)) = 1 then 1 else 0) : Int32) = 0 then ((sp_S_evenSlotZero c G0)) else ((sp_S_oddSlotZero c c2 G0))) : Int32) <<< ((24 : Int32) &&& 31)) ||| ((G0 (c + 1) 1) <<< ((16 : Int32) &&& 31))) ||| ((G0 (c + 1) 2) <<< ((8 : Int32) &&& 31))) ||| (G0 (c + 1) 3))) (G0 c 4) ((if ((if ((G0 c 1) &&& (1 : Int32)) = 1 then 1 else 0) : Int32) = 0 then (((((((if ((if ((G0 c 1) &&& (1 : Int32)) = 1 then 1 else 0) : Int32) = 0 then ((sp_S_evenSlotZero c G0)) else ((sp_S_oddSlotZero c c2 G0))) : Int32) <<< ((24 : Int32) &&& 31)) ||| ((G0 (c + 1) 1) <<< ((16 : Int32) &&& 31))) ||| ((G0 (c + 1) 2) <<< ((8 : Int32) &&& 31))) ||| (G0 (c + 1) 3)) &&& (2147483647 : Int32)) else ((((((if ((if ((G0 c 1) &&& (1 : Int32)) = 1 then 1 else 0) : Int32) = 0 then ((sp_S_evenSlotZero c G0)) else ((sp_S_oddSlotZero c c2 G0))) : Int32) <<< ((24 : Int32) &&& 31)) ||| ((G0 (c + 1) 1) <<< ((16 : Int32) &&& 31))) ||| ((G0 (c + 1) 2) <<< ((8 : Int32) &&& 31))) ||| (G0 (c + 1) 3))) : Int32)))) c 3 0) c 1 (((G0 c 1) + 1) &&& (15 : Int32))) else (wr (wr (wr (wr (wr (wr G0 c 2 ((((((if ((if ((G0 c 1) &&& (1 : Int32)) = 1 then 1 else 0) : Int32) = 0 then ((sp_S_evenSlotZero c G0)) else ((sp_S_oddSlotZero c c2 G0))) : Int32) <<< ((24 : Int32) &&& 31)) ||| ((G0 (c + 1) 1) <<< ((16 : Int32) &&& 31))) ||| ((G0 (c + 1) 2) <<< ((8 : Int32) &&& 31))) ||| (G0 (c + 1) 3))) c 4 ((sp_F_checkOver (wr G0 c 2 ((((((if ((if ((G0 c 1) &&& (1 : Int32)) = 1 then 1 else 0) : Int32) = 0 then ((sp_S_evenSlotZero c G0)) else ((sp_S_oddSlotZero c c2 G0))) : Int32) <<< ((24 : Int32) &&& 31)) ||| ((G0 (c + 1) 1) <<< ((16 : Int32) &&& 31))) ||| ((G0 (c + 1) 2) <<< ((8 : Int32) &&& 31))) ||| (G0 (c + 1) 3))) (G0 c 4) ((if ((if ((G0 c 1) &&& (1 : Int32)) = 1 then 1 else 0) : Int32) = 0 then (((((((if ((if ((G0 c 1) &&& (1 : Int32)) = 1 then 1 else 0) : Int32) = 0 then ((sp_S_evenSlotZero c G0)) else ((sp_S_oddSlotZero c c2 G0))) : Int32) <<< ((24 : Int32) &&& 31)) ||| ((G0 (c + 1) 1) <<< ((16 : Int32) &&& 31))) ||| ((G0 (c + 1) 2) <<< ((8 : Int32) &&& 31))) ||| (G0 (c + 1) 3)) &&& (2147483647 : Int32)) else ((((((if ((if ((G0 c 1) &&& (1 : Int32)) = 1 then 1 else 0) : Int32) = 0 then ((sp_S_evenSlotZero c G0)) else ((sp_S_oddSlotZero c c2 G0))) : Int32) <<< ((24 : Int32) &&& 31)) ||| ((G0 (c + 1) 1) <<< ((16 : Int32) &&& 31))) ||| ((G0 (c + 1) 2) <<< ((8 : Int32) &&& 31))) ||| (G0 (c + 1) 3))) : Int32)))) c 3 0) c 5 ((sp_F_checkOver (wr G0 c 2 ((((((if ((if ((G0 c 1) &&& (1 : Int32)) = 1 then 1 else 0) : Int32) = 0 then ((sp_S_evenSlotZero c G0)) else ((sp_S_oddSlotZero c c2 G0))) : Int32) <<< ((24 : Int32) &&& 31)) ||| ((G0 (c + 1) 1) <<< ((16 : Int32) &&& 31))) ||| ((G0 (c + 1) 2) <<< ((8 : Int32) &&& 31))) ||| (G0 (c + 1) 3))) (G0 c 4) ((if ((if ((G0 c 1) &&& (1 : Int32)) = 1 then 1 else 0) : Int32) = 0 then (((((((if ((if ((G0 c 1) &&& (1 : Int32)) = 1 then 1 else 0) : Int32) = 0 then ((sp_S_evenSlotZero c G0)) else ((sp_S_oddSlotZero c c2 G0))) : Int32) <<< ((24 : Int32) &&& 31)) ||| ((G0 (c + 1) 1) <<< ((16 : Int32) &&& 31))) ||| ((G0 (c + 1) 2) <<< ((8 : Int32) &&& 31))) ||| (G0 (c + 1) 3)) &&& (2147483647 : Int32)) else ((((((if ((if ((G0 c 1) &&& (1 : Int32)) = 1 then 1 else 0) : Int32) = 0 then ((sp_S_evenSlotZero c G0)) else ((sp_S_oddSlotZero c c2 G0))) : Int32) <<< ((24 : Int32) &&& 31)) ||| ((G0 (c + 1) 1) <<< ((16 : Int32) &&& 31))) ||| ((G0 (c + 1) 2) <<< ((8 : Int32) &&& 31))) ||| (G0 (c + 1) 3))) : Int32)))) c 4 0) c 1 (((G0 c 1) + 1) &&& (15 : Int32))))
set_option maxHeartbeats 4000000 in
set_option maxRecDepth 100000 in
theorem c_S_beginFrame (l : Launch) (P : gP) (G0 : Mem) (c : Nat) (c2 : Nat)  (hc : kS c) (hc2 : kR c2) : gMv l y_S_beginFrame b_S_beginFrame 4 none ({ frames := 2, cells := 0, slots := 0, locals := 44 }) [.ref (gad P c), .ref (gad P c2)] P G0 (sp_S_beginFrame c c2 G0) := by
  refine Met.ofW (cc := b_S_beginFrame) (maxL := 4) (ret := none) (by decide) rfl ?_
  intro p e s m args below meth c0 s₁ B hml hv
  obtain ⟨rfl, hpre⟩ := hv
  obtain ⟨E, hH⟩ := gE_of B hml hpre
  replace E : gE p s m _ meth c0 P "FramedLine$Sender" b_S_beginFrame 4 none := E
  have hcU := hc
  unfold kS at hcU
  have hc2U := hc2
  unfold kR at hc2U
  have hx := E.1
  have hb := E.2.1
  have hl := lv_entry ([.ref (gad P c), .ref (gad P c2)]) (n := 4) (Nat.le_of_ble_eq_true rfl)
  rw [lg_entry_eq]
  generalize (lg_sl ([.ref (gad P c), .ref (gad P c2)]) ++ List.replicate (4 - (lg_sl ([.ref (gad P c), .ref (gad P c2)])).length) Slot.unset).toArray = ls at hl ⊢
  replace hl : lv_has ls 4 [(0, .ref (gad P c)), (1, .ref (gad P c2))] := hl
  have hsp : sp_S_beginFrame c c2 G0 = sp_S_beginFrame c c2 G0 := rfl
  refine lv_aload_n hx hb d_S_beginFrame_0 rfl (lv_at hl 0 rfl) ?_
  refine g_geti (v := (G0 c 1)) E hH (gc_S hc) cl_S 1 (by decide) lf_S_15 (fun _ => rfl) rfl d_S_beginFrame_1 ?_
  refine lv_iconst (v := 1) hx hb d_S_beginFrame_4 (by decide) ?_
  refine lv_iand hx hb d_S_beginFrame_5 ?_
  refine lv_iconst (v := 1) hx hb d_S_beginFrame_6 (by decide) ?_
  refine jn (α := Int32) (fun z H1 locs1 => z = ((if ((G0 c 1) &&& (1 : Int32)) = 1 then 1 else 0) : Int32) ∧ isB z ∧ gH P s G0 H1 locs1) (fun z => F0 m 15 ls (.int z :: [])) (fun z H locs h9 => ?_) (fun hJ => ?_)
  · obtain ⟨rfl, hz15, hH⟩ := h9
    refine lv_istore_n hx hb d_S_beginFrame_15 rfl hl (by decide) rfl (fun ls hl => ?_)
    refine lv_iload_n hx hb d_S_beginFrame_16 rfl (lv_at hl 0 rfl) ?_
    refine jn (α := Int32) (fun z H1 locs1 => z = ((if ((if ((G0 c 1) &&& (1 : Int32)) = 1 then 1 else 0) : Int32) = 0 then ((sp_S_evenSlotZero c G0)) else ((sp_S_oddSlotZero c c2 G0))) : Int32) ∧ gH P s G0 H1 locs1) (fun z => F0 m 32 ls (.int z :: [])) (fun z H locs h9 => ?_) (fun hJ => ?_)
    · obtain ⟨rfl, hH⟩ := h9
      refine lv_istore_n hx hb d_S_beginFrame_32 rfl hl (by decide) rfl (fun ls hl => ?_)
      refine lv_aload_n hx hb d_S_beginFrame_33 rfl (lv_at hl 2 rfl) ?_
      refine lv_iload_n hx hb d_S_beginFrame_34 rfl (lv_at hl 0 rfl) ?_
      refine lv_bipush (v := 24) hx hb d_S_beginFrame_35 (by decide) ?_
      refine lv_ishl hx hb d_S_beginFrame_37 ?_
      refine lv_aload_n hx hb d_S_beginFrame_38 rfl (lv_at hl 2 rfl) ?_
      refine g_get E hH (gc_S hc) cl_S 0 (by decide) lf_S_9 rfl d_S_beginFrame_39 ?_
      refine lv_iconst (v := 1) hx hb d_S_beginFrame_42 (by decide) ?_
      refine g_iaload (k := 1) (v := (G0 (c + 1) 1)) E hH (ga_I4 (kS_loaded hc)) (by unfold vp_in; decide) (by decide) rfl d_S_beginFrame_43 ?_
      refine lv_bipush (v := 16) hx hb d_S_beginFrame_44 (by decide) ?_
      refine lv_ishl hx hb d_S_beginFrame_46 ?_
      refine lv_ior hx hb d_S_beginFrame_47 ?_
      refine lv_aload_n hx hb d_S_beginFrame_48 rfl (lv_at hl 2 rfl) ?_
      refine g_get E hH (gc_S hc) cl_S 0 (by decide) lf_S_9 rfl d_S_beginFrame_49 ?_
      refine lv_iconst (v := 2) hx hb d_S_beginFrame_52 (by decide) ?_
      refine g_iaload (k := 2) (v := (G0 (c + 1) 2)) E hH (ga_I4 (kS_loaded hc)) (by unfold vp_in; decide) (by decide) rfl d_S_beginFrame_53 ?_
      refine lv_bipush (v := 8) hx hb d_S_beginFrame_54 (by decide) ?_
      refine lv_ishl hx hb d_S_beginFrame_56 ?_
      refine lv_ior hx hb d_S_beginFrame_57 ?_
      refine lv_aload_n hx hb d_S_beginFrame_58 rfl (lv_at hl 2 rfl) ?_
      refine g_get E hH (gc_S hc) cl_S 0 (by decide) lf_S_9 rfl d_S_beginFrame_59 ?_
      refine lv_iconst (v := 3) hx hb d_S_beginFrame_62 (by decide) ?_
      refine g_iaload (k := 3) (v := (G0 (c + 1) 3)) E hH (ga_I4 (kS_loaded hc)) (by unfold vp_in; decide) (by decide) rfl d_S_beginFrame_63 ?_
      refine lv_ior hx hb d_S_beginFrame_64 ?_
      refine g_puti E hH (gc_S hc) cl_S ct_S 2 (by decide) lf_S_19 rfl (by decide +kernel) (fun _ _ => rfl) (Nat.le_of_ble_eq_true rfl) d_S_beginFrame_65 (fun H locs hH => ?_)
      refine lv_aload_n hx hb d_S_beginFrame_68 rfl (lv_at hl 2 rfl) ?_
      refine lv_aload_n hx hb d_S_beginFrame_69 rfl (lv_at hl 2 rfl) ?_
      refine g_geti (v := (G0 c 4)) E hH (gc_S hc) cl_S 4 (by decide) lf_S_25 (fun _ => rfl) (wr_k _ _ _ _ (by decide)) d_S_beginFrame_70 ?_
      refine lv_iload_n hx hb d_S_beginFrame_73 rfl (lv_at hl 1 rfl) ?_
      refine jn (α := Int32) (fun z H1 locs1 => z = ((if ((if ((G0 c 1) &&& (1 : Int32)) = 1 then 1 else 0) : Int32) = 0 then (((((((if ((if ((G0 c 1) &&& (1 : Int32)) = 1 then 1 else 0) : Int32) = 0 then ((sp_S_evenSlotZero c G0)) else ((sp_S_oddSlotZero c c2 G0))) : Int32) <<< ((24 : Int32) &&& 31)) ||| ((G0 (c + 1) 1) <<< ((16 : Int32) &&& 31))) ||| ((G0 (c + 1) 2) <<< ((8 : Int32) &&& 31))) ||| (G0 (c + 1) 3)) &&& (2147483647 : Int32)) else ((((((if ((if ((G0 c 1) &&& (1 : Int32)) = 1 then 1 else 0) : Int32) = 0 then ((sp_S_evenSlotZero c G0)) else ((sp_S_oddSlotZero c c2 G0))) : Int32) <<< ((24 : Int32) &&& 31)) ||| ((G0 (c + 1) 1) <<< ((16 : Int32) &&& 31))) ||| ((G0 (c + 1) 2) <<< ((8 : Int32) &&& 31))) ||| (G0 (c + 1) 3))) : Int32) ∧ gH P s (wr G0 c 2 ((((((if ((if ((G0 c 1) &&& (1 : Int32)) = 1 then 1 else 0) : Int32) = 0 then ((sp_S_evenSlotZero c G0)) else ((sp_S_oddSlotZero c c2 G0))) : Int32) <<< ((24 : Int32) &&& 31)) ||| ((G0 (c + 1) 1) <<< ((16 : Int32) &&& 31))) ||| ((G0 (c + 1) 2) <<< ((8 : Int32) &&& 31))) ||| (G0 (c + 1) 3))) H1 locs1) (fun z => F0 m 91 ls (.int z :: .int (G0 c 4) :: .ref (gad P c) :: [])) (fun z H locs h9 => ?_) (fun hJ => ?_)
      · obtain ⟨rfl, hH⟩ := h9
        refine g_callSNri (As := [.int _, .int _]) E hH hl (c_F_checkOver l P _ _ _) lm_S_40 (Nat.le_of_ble_eq_true rfl) (Nat.le_of_ble_eq_true rfl) (Nat.le_of_ble_eq_true rfl) (Nat.le_of_ble_eq_true rfl) (Nat.le_of_ble_eq_true rfl) rfl rfl rfl rfl d_S_beginFrame_91 (fun H locs hH => ?_)
        refine g_puti E hH (gc_S hc) cl_S ct_S 4 (by decide) lf_S_25 rfl (by decide +kernel) (fun _ _ => rfl) (Nat.le_of_ble_eq_true rfl) d_S_beginFrame_94 (fun H locs hH => ?_)
        refine lv_aload_n hx hb d_S_beginFrame_97 rfl (lv_at hl 2 rfl) ?_
        refine lv_iconst (v := 0) hx hb d_S_beginFrame_98 (by decide) ?_
        refine g_puti E hH (gc_S hc) cl_S ct_S 3 (by decide) lf_S_22 rfl (by decide +kernel) (fun _ _ => rfl) (Nat.le_of_ble_eq_true rfl) d_S_beginFrame_99 (fun H locs hH => ?_)
        refine lv_aload_n hx hb d_S_beginFrame_102 rfl (lv_at hl 2 rfl) ?_
        refine g_geti (v := (G0 c 1)) E hH (gc_S hc) cl_S 1 (by decide) lf_S_15 (fun _ => rfl) ((wr_k _ _ _ _ (by decide)).trans ((wr_k _ _ _ _ (by decide)).trans (wr_k _ _ _ _ (by decide)))) d_S_beginFrame_103 ?_
        refine g_callSNrz (As := [.int _]) E hH hl (c_F_endsHalf l P _ _) lm_S_44 (Nat.le_of_ble_eq_true rfl) (Nat.le_of_ble_eq_true rfl) (Nat.le_of_ble_eq_true rfl) (Nat.le_of_ble_eq_true rfl) (Nat.le_of_ble_eq_true rfl) rfl rfl rfl rfl d_S_beginFrame_106 (fun H locs hH hz106 => ?_)
        refine lv_if_eq (tgt := 125) hx hb d_S_beginFrame_109 (by decide) (fun h1 => ?_) (fun h1 => ?_)
        · refine lv_aload_n hx hb d_S_beginFrame_125 rfl (lv_at hl 2 rfl) ?_
          refine lv_aload_n hx hb d_S_beginFrame_126 rfl (lv_at hl 2 rfl) ?_
          refine g_geti (v := (G0 c 1)) E hH (gc_S hc) cl_S 1 (by decide) lf_S_15 (fun _ => rfl) ((wr_k _ _ _ _ (by decide)).trans ((wr_k _ _ _ _ (by decide)).trans (wr_k _ _ _ _ (by decide)))) d_S_beginFrame_127 ?_
          refine lv_iconst (v := 1) hx hb d_S_beginFrame_130 (by decide) ?_
          refine lv_iadd hx hb d_S_beginFrame_131 ?_
          refine lv_bipush (v := 15) hx hb d_S_beginFrame_132 (by decide) ?_
          refine lv_iand hx hb d_S_beginFrame_134 ?_
          refine g_puti E hH (gc_S hc) cl_S ct_S 1 (by decide) lf_S_15 rfl (by decide +kernel) (fun _ _ => rfl) (Nat.le_of_ble_eq_true rfl) d_S_beginFrame_135 (fun H locs hH => ?_)
          exact g_vret E hH (hsp.trans (by simp only [sp_S_beginFrame, if_pos h1])) d_S_beginFrame_138
        · refine lv_aload_n hx hb d_S_beginFrame_112 rfl (lv_at hl 2 rfl) ?_
          refine lv_aload_n hx hb d_S_beginFrame_113 rfl (lv_at hl 2 rfl) ?_
          refine g_geti (v := ((sp_F_checkOver (wr G0 c 2 ((((((if ((if ((G0 c 1) &&& (1 : Int32)) = 1 then 1 else 0) : Int32) = 0 then ((sp_S_evenSlotZero c G0)) else ((sp_S_oddSlotZero c c2 G0))) : Int32) <<< ((24 : Int32) &&& 31)) ||| ((G0 (c + 1) 1) <<< ((16 : Int32) &&& 31))) ||| ((G0 (c + 1) 2) <<< ((8 : Int32) &&& 31))) ||| (G0 (c + 1) 3))) (G0 c 4) ((if ((if ((G0 c 1) &&& (1 : Int32)) = 1 then 1 else 0) : Int32) = 0 then (((((((if ((if ((G0 c 1) &&& (1 : Int32)) = 1 then 1 else 0) : Int32) = 0 then ((sp_S_evenSlotZero c G0)) else ((sp_S_oddSlotZero c c2 G0))) : Int32) <<< ((24 : Int32) &&& 31)) ||| ((G0 (c + 1) 1) <<< ((16 : Int32) &&& 31))) ||| ((G0 (c + 1) 2) <<< ((8 : Int32) &&& 31))) ||| (G0 (c + 1) 3)) &&& (2147483647 : Int32)) else ((((((if ((if ((G0 c 1) &&& (1 : Int32)) = 1 then 1 else 0) : Int32) = 0 then ((sp_S_evenSlotZero c G0)) else ((sp_S_oddSlotZero c c2 G0))) : Int32) <<< ((24 : Int32) &&& 31)) ||| ((G0 (c + 1) 1) <<< ((16 : Int32) &&& 31))) ||| ((G0 (c + 1) 2) <<< ((8 : Int32) &&& 31))) ||| (G0 (c + 1) 3))) : Int32)))) E hH (gc_S hc) cl_S 4 (by decide) lf_S_25 (fun _ => rfl) ((wr_k _ _ _ _ (by decide)).trans (wr_same _ _ _ _)) d_S_beginFrame_114 ?_
          refine g_puti E hH (gc_S hc) cl_S ct_S 5 (by decide) lf_S_28 rfl (by decide +kernel) (fun _ _ => rfl) (Nat.le_of_ble_eq_true rfl) d_S_beginFrame_117 (fun H locs hH => ?_)
          refine lv_aload_n hx hb d_S_beginFrame_120 rfl (lv_at hl 2 rfl) ?_
          refine lv_iconst (v := 0) hx hb d_S_beginFrame_121 (by decide) ?_
          refine g_puti E hH (gc_S hc) cl_S ct_S 4 (by decide) lf_S_25 rfl (by decide +kernel) (fun _ _ => rfl) (Nat.le_of_ble_eq_true rfl) d_S_beginFrame_122 (fun H locs hH => ?_)
          refine lv_aload_n hx hb d_S_beginFrame_125 rfl (lv_at hl 2 rfl) ?_
          refine lv_aload_n hx hb d_S_beginFrame_126 rfl (lv_at hl 2 rfl) ?_
          refine g_geti (v := (G0 c 1)) E hH (gc_S hc) cl_S 1 (by decide) lf_S_15 (fun _ => rfl) ((wr_k _ _ _ _ (by decide)).trans ((wr_k _ _ _ _ (by decide)).trans ((wr_k _ _ _ _ (by decide)).trans ((wr_k _ _ _ _ (by decide)).trans (wr_k _ _ _ _ (by decide)))))) d_S_beginFrame_127 ?_
          refine lv_iconst (v := 1) hx hb d_S_beginFrame_130 (by decide) ?_
          refine lv_iadd hx hb d_S_beginFrame_131 ?_
          refine lv_bipush (v := 15) hx hb d_S_beginFrame_132 (by decide) ?_
          refine lv_iand hx hb d_S_beginFrame_134 ?_
          refine g_puti E hH (gc_S hc) cl_S ct_S 1 (by decide) lf_S_15 rfl (by decide +kernel) (fun _ _ => rfl) (Nat.le_of_ble_eq_true rfl) d_S_beginFrame_135 (fun H locs hH => ?_)
          exact g_vret E hH (hsp.trans (by simp only [sp_S_beginFrame, if_neg h1])) d_S_beginFrame_138
      · refine lv_if_eq (tgt := 84) hx hb d_S_beginFrame_74 (by decide) (fun h2 => ?_) (fun h2 => ?_)
        · refine lv_aload_n hx hb d_S_beginFrame_84 rfl (lv_at hl 2 rfl) ?_
          refine g_geti (v := ((((((if ((if ((G0 c 1) &&& (1 : Int32)) = 1 then 1 else 0) : Int32) = 0 then ((sp_S_evenSlotZero c G0)) else ((sp_S_oddSlotZero c c2 G0))) : Int32) <<< ((24 : Int32) &&& 31)) ||| ((G0 (c + 1) 1) <<< ((16 : Int32) &&& 31))) ||| ((G0 (c + 1) 2) <<< ((8 : Int32) &&& 31))) ||| (G0 (c + 1) 3))) E hH (gc_S hc) cl_S 2 (by decide) lf_S_19 (fun _ => rfl) (wr_same _ _ _ _) d_S_beginFrame_85 ?_
          refine lv_ldc (v := 2147483647) hx hb E.2.2.2.2.1 (E.2.2.2.2.2.1 _ lc_S_39) d_S_beginFrame_88 ?_
          refine lv_iand hx hb d_S_beginFrame_90 ?_
          exact hJ _ _ _ ⟨by simp only [if_pos h2], hH⟩
        · refine lv_aload_n hx hb d_S_beginFrame_77 rfl (lv_at hl 2 rfl) ?_
          refine g_geti (v := ((((((if ((if ((G0 c 1) &&& (1 : Int32)) = 1 then 1 else 0) : Int32) = 0 then ((sp_S_evenSlotZero c G0)) else ((sp_S_oddSlotZero c c2 G0))) : Int32) <<< ((24 : Int32) &&& 31)) ||| ((G0 (c + 1) 1) <<< ((16 : Int32) &&& 31))) ||| ((G0 (c + 1) 2) <<< ((8 : Int32) &&& 31))) ||| (G0 (c + 1) 3))) E hH (gc_S hc) cl_S 2 (by decide) lf_S_19 (fun _ => rfl) (wr_same _ _ _ _) d_S_beginFrame_78 ?_
          refine lv_goto (tgt := 91) hx hb d_S_beginFrame_81 (by decide) ?_
          exact hJ _ _ _ ⟨by simp only [if_neg h2], hH⟩
    · refine lv_if_eq (tgt := 28) hx hb d_S_beginFrame_17 (by decide) (fun h3 => ?_) (fun h3 => ?_)
      · refine lv_aload_n hx hb d_S_beginFrame_28 rfl (lv_at hl 1 rfl) ?_
        refine g_callVri (As := []) E hH hl (c_S_evenSlotZero l P _ c hc) lm_S_35 (gc_S hc) cl_S (Nat.le_of_ble_eq_true rfl) (Nat.le_of_ble_eq_true rfl) (Nat.le_of_ble_eq_true rfl) (Nat.le_of_ble_eq_true rfl) (Nat.le_of_ble_eq_true rfl) rfl rfl rfl rfl d_S_beginFrame_29 (fun H locs hH => ?_)
        exact hJ _ _ _ ⟨by simp only [if_pos h3], hH⟩
      · refine lv_aload_n hx hb d_S_beginFrame_20 rfl (lv_at hl 1 rfl) ?_
        refine lv_aload_n hx hb d_S_beginFrame_21 rfl (lv_at hl 2 rfl) ?_
        refine g_callVri (As := [.ref (gad P c2)]) E hH hl (c_S_oddSlotZero l P _ c c2 hc hc2) lm_S_31 (gc_S hc) cl_S (Nat.le_of_ble_eq_true rfl) (Nat.le_of_ble_eq_true rfl) (Nat.le_of_ble_eq_true rfl) (Nat.le_of_ble_eq_true rfl) (Nat.le_of_ble_eq_true rfl) rfl rfl rfl rfl d_S_beginFrame_22 (fun H locs hH => ?_)
        refine lv_goto (tgt := 32) hx hb d_S_beginFrame_25 (by decide) ?_
        exact hJ _ _ _ ⟨by simp only [if_neg h3], hH⟩
  · refine lv_icmp_ne (tgt := 14) hx hb d_S_beginFrame_7 (by decide) (fun h4 => ?_) (fun h4 => ?_)
    · refine lv_iconst (v := 0) hx hb d_S_beginFrame_14 (by decide) ?_
      exact hJ _ _ _ ⟨by simp only [if_neg h4], isB_0, hH⟩
    · refine lv_iconst (v := 1) hx hb d_S_beginFrame_10 (by decide) ?_
      refine lv_goto (tgt := 15) hx hb d_S_beginFrame_11 (by decide) ?_
      exact hJ _ _ _ ⟨by simp only [if_pos h4], isB_1, hH⟩

def sp_N_send (c : Nat) (G0 : Mem)  : Int32 × Mem :=
  (if ((sp_S_isBetweenFrames (c + 1) G0)) = 0 then (((sp_E_symbolBehind (c + 3) (((sp_S_nextBit (c + 1) G0)).2) (((sp_S_nextBit (c + 1) G0)).1))).1, ((sp_E_symbolBehind (c + 3) (((sp_S_nextBit (c + 1) G0)).2) (((sp_S_nextBit (c + 1) G0)).1))).2) else (((sp_E_symbolBehind (c + 3) (((sp_S_nextBit (c + 1) (sp_S_beginFrame (c + 1) (c + 8) G0))).2) (((sp_S_nextBit (c + 1) (sp_S_beginFrame (c + 1) (c + 8) G0))).1))).1, ((sp_E_symbolBehind (c + 3) (((sp_S_nextBit (c + 1) (sp_S_beginFrame (c + 1) (c + 8) G0))).2) (((sp_S_nextBit (c + 1) (sp_S_beginFrame (c + 1) (c + 8) G0))).1))).2))
set_option maxHeartbeats 4000000 in
set_option maxRecDepth 100000 in
theorem c_N_send (l : Launch) (P : gP) (G0 : Mem) (c : Nat)  (hc : kN c) : gMi l y_N_send b_N_send 1 (some .int) ({ frames := 3, cells := 0, slots := 0, locals := 67 }) [.ref (gad P c)] P G0 (sp_N_send c G0) := by
  refine Met.ofW (cc := b_N_send) (maxL := 1) (ret := (some .int)) (by decide) rfl ?_
  intro p e s m args below meth c0 s₁ B hml hv
  obtain ⟨rfl, hpre⟩ := hv
  obtain ⟨E, hH⟩ := gE_of B hml hpre
  replace E : gE p s m _ meth c0 P "FramedLine$End" b_N_send 1 (some .int) := E
  have hcU := hc
  unfold kN at hcU
  have hx := E.1
  have hb := E.2.1
  have hl := lv_entry ([.ref (gad P c)]) (n := 1) (Nat.le_of_ble_eq_true rfl)
  rw [lg_entry_eq]
  generalize (lg_sl ([.ref (gad P c)]) ++ List.replicate (1 - (lg_sl ([.ref (gad P c)])).length) Slot.unset).toArray = ls at hl ⊢
  replace hl : lv_has ls 1 [(0, .ref (gad P c))] := hl
  have hsp : sp_N_send c G0 = sp_N_send c G0 := rfl
  refine lv_aload_n hx hb d_N_send_0 rfl (lv_at hl 0 rfl) ?_
  refine g_get E hH (gc_N hc) cl_N 0 (by decide) lf_N_12 rfl d_N_send_1 ?_
  refine g_callVrz (As := []) E hH hl (c_S_isBetweenFrames l P _ (c + 1) (kN_sender hc)) lm_N_46 (gc_S (kN_sender hc)) cl_S (Nat.le_of_ble_eq_true rfl) (Nat.le_of_ble_eq_true rfl) (Nat.le_of_ble_eq_true rfl) (Nat.le_of_ble_eq_true rfl) (Nat.le_of_ble_eq_true rfl) rfl rfl rfl rfl d_N_send_4 (fun H locs hH hz4 => ?_)
  refine lv_if_eq (tgt := 21) hx hb d_N_send_7 (by decide) (fun h1 => ?_) (fun h1 => ?_)
  · refine lv_aload_n hx hb d_N_send_21 rfl (lv_at hl 0 rfl) ?_
    refine g_get E hH (gc_N hc) cl_N 1 (by decide) lf_N_21 rfl d_N_send_22 ?_
    refine lv_aload_n hx hb d_N_send_25 rfl (lv_at hl 0 rfl) ?_
    refine g_get E hH (gc_N hc) cl_N 0 (by decide) lf_N_12 rfl d_N_send_26 ?_
    refine g_callVi (As := []) E hH hl (c_S_nextBit l P _ (c + 1) (kN_sender hc)) lm_N_54 (gc_S (kN_sender hc)) cl_S (Nat.le_of_ble_eq_true rfl) (Nat.le_of_ble_eq_true rfl) (Nat.le_of_ble_eq_true rfl) (Nat.le_of_ble_eq_true rfl) (Nat.le_of_ble_eq_true rfl) rfl rfl rfl rfl d_N_send_29 (fun H locs hH => ?_)
    refine g_callVi (As := [.int _]) E hH hl (c_E_symbolBehind l P _ (c + 3) _ (kN_encoder hc)) lm_N_58 (gc_E (kN_encoder hc)) cl_E (Nat.le_of_ble_eq_true rfl) (Nat.le_of_ble_eq_true rfl) (Nat.le_of_ble_eq_true rfl) (Nat.le_of_ble_eq_true rfl) (Nat.le_of_ble_eq_true rfl) rfl rfl rfl rfl d_N_send_32 (fun H locs hH => ?_)
    exact g_iret E hH (hsp.trans (by simp only [sp_N_send, if_pos h1])) d_N_send_35
  · refine lv_aload_n hx hb d_N_send_10 rfl (lv_at hl 0 rfl) ?_
    refine g_get E hH (gc_N hc) cl_N 0 (by decide) lf_N_12 rfl d_N_send_11 ?_
    refine lv_aload_n hx hb d_N_send_14 rfl (lv_at hl 0 rfl) ?_
    refine g_get E hH (gc_N hc) cl_N 4 (by decide) lf_N_42 rfl d_N_send_15 ?_
    refine g_callVv (As := [.ref (gad P (c + 8))]) E hH hl (c_S_beginFrame l P _ (c + 1) (c + 8) (kN_sender hc) (kN_receiver hc)) lm_N_50 (gc_S (kN_sender hc)) cl_S (Nat.le_of_ble_eq_true rfl) (Nat.le_of_ble_eq_true rfl) (Nat.le_of_ble_eq_true rfl) (Nat.le_of_ble_eq_true rfl) (Nat.le_of_ble_eq_true rfl) rfl rfl rfl rfl d_N_send_18 (fun H locs hH => ?_)
    refine lv_aload_n hx hb d_N_send_21 rfl (lv_at hl 0 rfl) ?_
    refine g_get E hH (gc_N hc) cl_N 1 (by decide) lf_N_21 rfl d_N_send_22 ?_
    refine lv_aload_n hx hb d_N_send_25 rfl (lv_at hl 0 rfl) ?_
    refine g_get E hH (gc_N hc) cl_N 0 (by decide) lf_N_12 rfl d_N_send_26 ?_
    refine g_callVi (As := []) E hH hl (c_S_nextBit l P _ (c + 1) (kN_sender hc)) lm_N_54 (gc_S (kN_sender hc)) cl_S (Nat.le_of_ble_eq_true rfl) (Nat.le_of_ble_eq_true rfl) (Nat.le_of_ble_eq_true rfl) (Nat.le_of_ble_eq_true rfl) (Nat.le_of_ble_eq_true rfl) rfl rfl rfl rfl d_N_send_29 (fun H locs hH => ?_)
    refine g_callVi (As := [.int _]) E hH hl (c_E_symbolBehind l P _ (c + 3) _ (kN_encoder hc)) lm_N_58 (gc_E (kN_encoder hc)) cl_E (Nat.le_of_ble_eq_true rfl) (Nat.le_of_ble_eq_true rfl) (Nat.le_of_ble_eq_true rfl) (Nat.le_of_ble_eq_true rfl) (Nat.le_of_ble_eq_true rfl) rfl rfl rfl rfl d_N_send_32 (fun H locs hH => ?_)
    exact g_iret E hH (hsp.trans (by simp only [sp_N_send, if_neg h1])) d_N_send_35

def sp_A_doubleNext (c : Nat) (G0 : Mem)  : Int32 × Mem :=
  (((if (zb (G0 c 3)) = 0 then 1 else 0) : Int32), (wr G0 c 3 1))
set_option maxHeartbeats 4000000 in
set_option maxRecDepth 100000 in
theorem c_A_doubleNext (l : Launch) (P : gP) (G0 : Mem) (c : Nat)  (hc : kA c) : gMz l y_A_doubleNext b_A_doubleNext 2 (some .boolean) ({ frames := 0, cells := 0, slots := 0, locals := 0 }) [.ref (gad P c)] P G0 (sp_A_doubleNext c G0) := by
  refine Met.ofW (cc := b_A_doubleNext) (maxL := 2) (ret := (some .boolean)) (by decide) rfl ?_
  intro p e s m args below meth c0 s₁ B hml hv
  obtain ⟨rfl, hpre⟩ := hv
  obtain ⟨E, hH⟩ := gE_of B hml hpre
  replace E : gE p s m _ meth c0 P "FramedLine$Arrivals" b_A_doubleNext 2 (some .boolean) := E
  have hcU := hc
  unfold kA at hcU
  have hx := E.1
  have hb := E.2.1
  have hl := lv_entry ([.ref (gad P c)]) (n := 2) (Nat.le_of_ble_eq_true rfl)
  rw [lg_entry_eq]
  generalize (lg_sl ([.ref (gad P c)]) ++ List.replicate (2 - (lg_sl ([.ref (gad P c)])).length) Slot.unset).toArray = ls at hl ⊢
  replace hl : lv_has ls 2 [(0, .ref (gad P c))] := hl
  have hsp : sp_A_doubleNext c G0 = sp_A_doubleNext c G0 := rfl
  refine lv_aload_n hx hb d_A_doubleNext_0 rfl (lv_at hl 0 rfl) ?_
  refine g_getz (v := (G0 c 3)) E hH (gc_A hc) cl_A 3 (by decide) lf_A_22 (fun _ => rfl) rfl d_A_doubleNext_1 ?_
  refine jn (α := Int32) (fun z H1 locs1 => z = ((if (zb (G0 c 3)) = 0 then 1 else 0) : Int32) ∧ isB z ∧ gH P s G0 H1 locs1) (fun z => F0 m 12 ls (.int z :: [])) (fun z H locs h9 => ?_) (fun hJ => ?_)
  · obtain ⟨rfl, hz12, hH⟩ := h9
    refine lv_istore_n hx hb d_A_doubleNext_12 rfl hl (by decide) rfl (fun ls hl => ?_)
    refine lv_aload_n hx hb d_A_doubleNext_13 rfl (lv_at hl 1 rfl) ?_
    refine lv_iconst (v := 1) hx hb d_A_doubleNext_14 (by decide) ?_
    refine g_putz E hH (gc_A hc) cl_A ct_A 3 (by decide) lf_A_22 rfl (by decide +kernel) (set_A3 _ _) isB_1 (Nat.le_of_ble_eq_true rfl) d_A_doubleNext_15 (fun H locs hH => ?_)
    refine lv_iload_n hx hb d_A_doubleNext_18 rfl (lv_at hl 0 rfl) ?_
    exact g_zret E hH (hsp.trans (by rw [sp_A_doubleNext])) hz12 d_A_doubleNext_19
  · refine lv_if_ne (tgt := 11) hx hb d_A_doubleNext_4 (by decide) (fun h1 => ?_) (fun h1 => ?_)
    · refine lv_iconst (v := 0) hx hb d_A_doubleNext_11 (by decide) ?_
      exact hJ _ _ _ ⟨by simp only [if_neg h1], isB_0, hH⟩
    · refine lv_iconst (v := 1) hx hb d_A_doubleNext_7 (by decide) ?_
      refine lv_goto (tgt := 12) hx hb d_A_doubleNext_8 (by decide) ?_
      exact hJ _ _ _ ⟨by simp only [if_pos h1], isB_1, hH⟩

def sp_A_comings (c : Nat) (G0 : Mem)  : Int32 × Mem :=
  (((if (zb (G0 c 3)) = 0 then 1 else 2) : Int32), (wr G0 c 3 0))
set_option maxHeartbeats 4000000 in
set_option maxRecDepth 100000 in
theorem c_A_comings (l : Launch) (P : gP) (G0 : Mem) (c : Nat)  (hc : kA c) : gMi l y_A_comings b_A_comings 2 (some .int) ({ frames := 0, cells := 0, slots := 0, locals := 0 }) [.ref (gad P c)] P G0 (sp_A_comings c G0) := by
  refine Met.ofW (cc := b_A_comings) (maxL := 2) (ret := (some .int)) (by decide) rfl ?_
  intro p e s m args below meth c0 s₁ B hml hv
  obtain ⟨rfl, hpre⟩ := hv
  obtain ⟨E, hH⟩ := gE_of B hml hpre
  replace E : gE p s m _ meth c0 P "FramedLine$Arrivals" b_A_comings 2 (some .int) := E
  have hcU := hc
  unfold kA at hcU
  have hx := E.1
  have hb := E.2.1
  have hl := lv_entry ([.ref (gad P c)]) (n := 2) (Nat.le_of_ble_eq_true rfl)
  rw [lg_entry_eq]
  generalize (lg_sl ([.ref (gad P c)]) ++ List.replicate (2 - (lg_sl ([.ref (gad P c)])).length) Slot.unset).toArray = ls at hl ⊢
  replace hl : lv_has ls 2 [(0, .ref (gad P c))] := hl
  have hsp : sp_A_comings c G0 = sp_A_comings c G0 := rfl
  refine lv_aload_n hx hb d_A_comings_0 rfl (lv_at hl 0 rfl) ?_
  refine g_getz (v := (G0 c 3)) E hH (gc_A hc) cl_A 3 (by decide) lf_A_22 (fun _ => rfl) rfl d_A_comings_1 ?_
  refine jn (α := Int32) (fun z H1 locs1 => z = ((if (zb (G0 c 3)) = 0 then 1 else 2) : Int32) ∧ gH P s G0 H1 locs1) (fun z => F0 m 12 ls (.int z :: [])) (fun z H locs h9 => ?_) (fun hJ => ?_)
  · obtain ⟨rfl, hH⟩ := h9
    refine lv_istore_n hx hb d_A_comings_12 rfl hl (by decide) rfl (fun ls hl => ?_)
    refine lv_aload_n hx hb d_A_comings_13 rfl (lv_at hl 1 rfl) ?_
    refine lv_iconst (v := 0) hx hb d_A_comings_14 (by decide) ?_
    refine g_putz E hH (gc_A hc) cl_A ct_A 3 (by decide) lf_A_22 rfl (by decide +kernel) (set_A3 _ _) isB_0 (Nat.le_of_ble_eq_true rfl) d_A_comings_15 (fun H locs hH => ?_)
    refine lv_iload_n hx hb d_A_comings_18 rfl (lv_at hl 0 rfl) ?_
    exact g_iret E hH (hsp.trans (by rw [sp_A_comings])) d_A_comings_19
  · refine lv_if_eq (tgt := 11) hx hb d_A_comings_4 (by decide) (fun h1 => ?_) (fun h1 => ?_)
    · refine lv_iconst (v := 1) hx hb d_A_comings_11 (by decide) ?_
      exact hJ _ _ _ ⟨by simp only [if_pos h1], hH⟩
    · refine lv_iconst (v := 2) hx hb d_A_comings_7 (by decide) ?_
      refine lv_goto (tgt := 12) hx hb d_A_comings_8 (by decide) ?_
      exact hJ _ _ _ ⟨by simp only [if_neg h1], hH⟩
