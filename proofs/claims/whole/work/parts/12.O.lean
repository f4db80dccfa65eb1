def sp_F_endsHalf  (G0 : Mem) (a1 : Int32) : Int32 :=
  ((if a1 = 7 then 1 else (if a1 = 15 then 1 else 0)) : Int32)
set_option maxHeartbeats 4000000 in
set_option maxRecDepth 100000 in
theorem c_F_endsHalf (l : Launch) (P : gP) (G0 : Mem)  (a1 : Int32)  : gMrz l y_F_endsHalf b_F_endsHalf 1 (some .boolean) ({ frames := 0, cells := 0, slots := 0, locals := 0 }) [.int a1] P G0 (sp_F_endsHalf G0 a1) := by
  refine Met.ofW (cc := b_F_endsHalf) (maxL := 1) (ret := (some .boolean)) (by decide) rfl ?_
  intro p e s m args below meth c0 s₁ B hml hv
  obtain ⟨rfl, hpre⟩ := hv
  obtain ⟨E, hH⟩ := gE_of B hml hpre
  replace E : gE p s m _ meth c0 P "FramedLine" b_F_endsHalf 1 (some .boolean) := E
  have hx := E.1
  have hb := E.2.1
  have hl := lv_entry ([.int a1]) (n := 1) (Nat.le_of_ble_eq_true rfl)
  rw [lg_entry_eq]
  generalize (lg_sl ([.int a1]) ++ List.replicate (1 - (lg_sl ([.int a1])).length) Slot.unset).toArray = ls at hl ⊢
  replace hl : lv_has ls 1 [(0, .int a1)] := hl
  have hsp : sp_F_endsHalf G0 a1 = sp_F_endsHalf G0 a1 := rfl
  refine lv_iload_n hx hb d_F_endsHalf_0 rfl (lv_at hl 0 rfl) ?_
  refine lv_bipush (v := 7) hx hb d_F_endsHalf_1 (by decide) ?_
  refine jn (α := Int32) (fun z H1 locs1 => z = ((if a1 = 7 then 1 else (if a1 = 15 then 1 else 0)) : Int32) ∧ isB z ∧ gH P s G0 H1 locs1) (fun z => F0 m 17 ls (.int z :: [])) (fun z H locs h9 => ?_) (fun hJ => ?_)
  · obtain ⟨rfl, hz17, hH⟩ := h9
    exact g_rzret E hH (hsp.trans (by rw [sp_F_endsHalf])) hz17 d_F_endsHalf_17
  · refine lv_icmp_eq (tgt := 12) hx hb d_F_endsHalf_3 (by decide) (fun h1 => ?_) (fun h1 => ?_)
    · refine lv_iconst (v := 1) hx hb d_F_endsHalf_12 (by decide) ?_
      refine lv_goto (tgt := 17) hx hb d_F_endsHalf_13 (by decide) ?_
      exact hJ _ _ _ ⟨by simp only [if_pos h1], isB_1, hH⟩
    · refine lv_iload_n hx hb d_F_endsHalf_6 rfl (lv_at hl 0 rfl) ?_
      refine lv_bipush (v := 15) hx hb d_F_endsHalf_7 (by decide) ?_
      refine lv_icmp_ne (tgt := 16) hx hb d_F_endsHalf_9 (by decide) (fun h2 => ?_) (fun h2 => ?_)
      · refine lv_iconst (v := 0) hx hb d_F_endsHalf_16 (by decide) ?_
        exact hJ _ _ _ ⟨by simp only [if_neg h1, if_neg h2], isB_0, hH⟩
      · refine lv_iconst (v := 1) hx hb d_F_endsHalf_12 (by decide) ?_
        refine lv_goto (tgt := 17) hx hb d_F_endsHalf_13 (by decide) ?_
        exact hJ _ _ _ ⟨by simp only [if_neg h1, if_pos h2], isB_1, hH⟩

def sp_F_checkOver_5 (a1 : Int32) (a2 : Int32) : Nat → Mem → Int32 → Int32 → Int32
 | 0, G0, x2, x3 => 0
  | d + 1, G0, x2, x3 =>
  (if x3 < 0 then x2 else (if (((iu a2 x3) &&& (1 : Int32)) ^^^ (x2 >>> ((3 : Int32) &&& 31))) = 1 then (sp_F_checkOver_5 a1 a2 d G0 (((x2 <<< ((1 : Int32) &&& 31)) &&& (15 : Int32)) ^^^ (3 : Int32)) (x3 + (-1))) else (sp_F_checkOver_5 a1 a2 d G0 ((x2 <<< ((1 : Int32) &&& 31)) &&& (15 : Int32)) (x3 + (-1)))))
def sp_F_checkOver  (G0 : Mem) (a1 : Int32) (a2 : Int32) : Int32 :=
  (sp_F_checkOver_5 a1 a2 33 G0 a1 31)
set_option maxHeartbeats 4000000 in
set_option maxRecDepth 100000 in
theorem c_F_checkOver (l : Launch) (P : gP) (G0 : Mem)  (a1 : Int32) (a2 : Int32)  : gMri l y_F_checkOver b_F_checkOver 5 (some .int) ({ frames := 0, cells := 0, slots := 0, locals := 0 }) [.int a1, .int a2] P G0 (sp_F_checkOver G0 a1 a2) := by
  refine Met.ofW (cc := b_F_checkOver) (maxL := 5) (ret := (some .int)) (by decide) rfl ?_
  intro p e s m args below meth c0 s₁ B hml hv
  obtain ⟨rfl, hpre⟩ := hv
  obtain ⟨E, hH⟩ := gE_of B hml hpre
  replace E : gE p s m _ meth c0 P "FramedLine" b_F_checkOver 5 (some .int) := E
  have hx := E.1
  have hb := E.2.1
  have hl := lv_entry ([.int a1, .int a2]) (n := 5) (Nat.le_of_ble_eq_true rfl)
  rw [lg_entry_eq]
  generalize (lg_sl ([.int a1, .int a2]) ++ List.replicate (5 - (lg_sl ([.int a1, .int a2])).length) Slot.unset).toArray = ls at hl ⊢
  replace hl : lv_has ls 5 [(0, .int a1), (1, .int a2)] := hl
  have hsp : sp_F_checkOver G0 a1 a2 = sp_F_checkOver G0 a1 a2 := rfl
  refine jl (α := Nat × Array Slot × Int32 × Int32) (fun q H1 locs1 => sp_F_checkOver G0 a1 a2 = sp_F_checkOver_5 a1 a2 q.1 G0 q.2.2.1 q.2.2.2 ∧ (q.2.2.2 = nI q.1 - 2 ∧ q.1 ≤ 33 ∧ 1 ≤ q.1) ∧ lv_has q.2.1 5 [(0, .int a1), (1, .int a2), (2, .int q.2.2.1), (3, .int q.2.2.2)] ∧ gH P s G0 H1 locs1) (fun q => F0 m 5 q.2.1 []) (fun q => q.1) (fun q H locs h9 ih5 => ?_) (fun hC5 => ?_)
  · clear hsp hl hH ls
    obtain ⟨n, ls, x2, x3⟩ := q
    obtain ⟨hsp, hinv, hl, hH⟩ := h9
    dsimp only at hinv
    obtain ⟨d, rfl⟩ : ∃ d, n = d + 1 := ⟨n - 1, by omega⟩
    change lv_has ls 5 [(0, .int a1), (1, .int a2), (2, .int x2), (3, .int x3)] at hl
    dsimp only at hsp hH ⊢
    refine lv_iload_n hx hb d_F_checkOver_5 rfl (lv_at hl 3 rfl) ?_
    refine lv_if_lt (tgt := 43) hx hb d_F_checkOver_6 (by decide) (fun h1 => ?_) (fun h1 => ?_)
    · refine lv_iload_n hx hb d_F_checkOver_43 rfl (lv_at hl 2 rfl) ?_
      exact g_riret E hH (hsp.trans (by simp only [sp_F_checkOver_5, if_pos h1])) d_F_checkOver_44
    · refine lv_iload_n hx hb d_F_checkOver_9 rfl (lv_at hl 1 rfl) ?_
      refine lv_iload_n hx hb d_F_checkOver_10 rfl (lv_at hl 3 rfl) ?_
      refine lv_iushr (v := (iu a2 x3)) hx hb d_F_checkOver_11 rfl ?_
      refine lv_iconst (v := 1) hx hb d_F_checkOver_12 (by decide) ?_
      refine lv_iand hx hb d_F_checkOver_13 ?_
      refine lv_iload_n hx hb d_F_checkOver_14 rfl (lv_at hl 2 rfl) ?_
      refine lv_iconst (v := 3) hx hb d_F_checkOver_15 (by decide) ?_
      refine lv_ishr hx hb d_F_checkOver_16 ?_
      refine lv_ixor hx hb d_F_checkOver_17 ?_
      refine lv_istore hx hb d_F_checkOver_18 hl (by decide) rfl (fun ls hl => ?_)
      refine lv_iload_n hx hb d_F_checkOver_20 rfl (lv_at hl 3 rfl) ?_
      refine lv_iconst (v := 1) hx hb d_F_checkOver_21 (by decide) ?_
      refine lv_ishl hx hb d_F_checkOver_22 ?_
      refine lv_bipush (v := 15) hx hb d_F_checkOver_23 (by decide) ?_
      refine lv_iand hx hb d_F_checkOver_25 ?_
      refine lv_istore_n hx hb d_F_checkOver_26 rfl hl (by decide) rfl (fun ls hl => ?_)
      refine lv_iload hx hb d_F_checkOver_27 (lv_at hl 1 rfl) ?_
      refine lv_iconst (v := 1) hx hb d_F_checkOver_29 (by decide) ?_
      refine lv_icmp_ne (tgt := 37) hx hb d_F_checkOver_30 (by decide) (fun h2 => ?_) (fun h2 => ?_)
      · refine lv_iinc (k := 4) (v := (x3 + (-1))) hx hb d_F_checkOver_37 hl rfl rfl (by decide) rfl (fun ls hl => ?_)
        refine lv_goto (tgt := 5) hx hb d_F_checkOver_40 (by decide) ?_
        exact ih5 (d, _, ((x2 <<< ((1 : Int32) &&& 31)) &&& (15 : Int32)), (x3 + (-1))) _ _ (Nat.lt_succ_self _) ⟨hsp.trans (by simp only [sp_F_checkOver_5, if_neg h1, if_neg h2]), (co_back hinv h1), lv_sub hl [3, 4, 1, 0] rfl, hH⟩
      · refine lv_iload_n hx hb d_F_checkOver_33 rfl (lv_at hl 0 rfl) ?_
        refine lv_iconst (v := 3) hx hb d_F_checkOver_34 (by decide) ?_
        refine lv_ixor hx hb d_F_checkOver_35 ?_
        refine lv_istore_n hx hb d_F_checkOver_36 rfl hl (by decide) rfl (fun ls hl => ?_)
        refine lv_iinc (k := 4) (v := (x3 + (-1))) hx hb d_F_checkOver_37 hl rfl rfl (by decide) rfl (fun ls hl => ?_)
        refine lv_goto (tgt := 5) hx hb d_F_checkOver_40 (by decide) ?_
        exact ih5 (d, _, (((x2 <<< ((1 : Int32) &&& 31)) &&& (15 : Int32)) ^^^ (3 : Int32)), (x3 + (-1))) _ _ (Nat.lt_succ_self _) ⟨hsp.trans (by simp only [sp_F_checkOver_5, if_neg h1, if_pos h2]), (co_back hinv h1), lv_sub hl [3, 4, 1, 0] rfl, hH⟩
  refine lv_iload_n hx hb d_F_checkOver_0 rfl (lv_at hl 0 rfl) ?_
  refine lv_istore_n hx hb d_F_checkOver_1 rfl hl (by decide) rfl (fun ls hl => ?_)
  refine lv_bipush (v := 31) hx hb d_F_checkOver_2 (by decide) ?_
  refine lv_istore_n hx hb d_F_checkOver_4 rfl hl (by decide) rfl (fun ls hl => ?_)
  exact hC5 (33, _, a1, 31) _ _ ⟨hsp.trans (by rw [sp_F_checkOver]), (by dsimp only; decide), lv_sub hl [2, 3, 1, 0] rfl, hH⟩

def sp_O_forgetNumber (c : Nat) (G0 : Mem)  : Mem :=
  (wr (wr (wr (wr (wr G0 c 0 (-1)) c 4 0) c 5 0) c 9 0) c 10 0)
set_option maxHeartbeats 4000000 in
set_option maxRecDepth 100000 in
theorem c_O_forgetNumber (l : Launch) (P : gP) (G0 : Mem) (c : Nat)  (hc : kO c) : gMv l y_O_forgetNumber b_O_forgetNumber 1 none ({ frames := 0, cells := 0, slots := 0, locals := 0 }) [.ref (gad P c)] P G0 (sp_O_forgetNumber c G0) := by
  refine Met.ofW (cc := b_O_forgetNumber) (maxL := 1) (ret := none) (by decide) rfl ?_
  intro p e s m args below meth c0 s₁ B hml hv
  obtain ⟨rfl, hpre⟩ := hv
  obtain ⟨E, hH⟩ := gE_of B hml hpre
  replace E : gE p s m _ meth c0 P "FramedLine$Rounds" b_O_forgetNumber 1 none := E
  have hcU := hc
  unfold kO at hcU
  have hx := E.1
  have hb := E.2.1
  have hl := lv_entry ([.ref (gad P c)]) (n := 1) (Nat.le_of_ble_eq_true rfl)
  rw [lg_entry_eq]
  generalize (lg_sl ([.ref (gad P c)]) ++ List.replicate (1 - (lg_sl ([.ref (gad P c)])).length) Slot.unset).toArray = ls at hl ⊢
  replace hl : lv_has ls 1 [(0, .ref (gad P c))] := hl
  have hsp : sp_O_forgetNumber c G0 = sp_O_forgetNumber c G0 := rfl
  refine lv_aload_n hx hb d_O_forgetNumber_0 rfl (lv_at hl 0 rfl) ?_
  refine lv_iconst (v := (-1)) hx hb d_O_forgetNumber_1 (by decide) ?_
  refine g_puti E hH (gc_O hc) cl_O ct_O 0 (by decide) lf_O_9 rfl (by decide +kernel) (fun _ _ => rfl) (Nat.le_of_ble_eq_true rfl) d_O_forgetNumber_2 (fun H locs hH => ?_)
  refine lv_aload_n hx hb d_O_forgetNumber_5 rfl (lv_at hl 0 rfl) ?_
  refine lv_iconst (v := 0) hx hb d_O_forgetNumber_6 (by decide) ?_
  refine g_putz E hH (gc_O hc) cl_O ct_O 4 (by decide) lf_O_24 rfl (by decide +kernel) (set_O4 _ _) isB_0 (Nat.le_of_ble_eq_true rfl) d_O_forgetNumber_7 (fun H locs hH => ?_)
  refine lv_aload_n hx hb d_O_forgetNumber_10 rfl (lv_at hl 0 rfl) ?_
  refine lv_iconst (v := 0) hx hb d_O_forgetNumber_11 (by decide) ?_
  refine g_putz E hH (gc_O hc) cl_O ct_O 5 (by decide) lf_O_28 rfl (by decide +kernel) (set_O5 _ _) isB_0 (Nat.le_of_ble_eq_true rfl) d_O_forgetNumber_12 (fun H locs hH => ?_)
  refine lv_aload_n hx hb d_O_forgetNumber_15 rfl (lv_at hl 0 rfl) ?_
  refine lv_iconst (v := 0) hx hb d_O_forgetNumber_16 (by decide) ?_
  refine g_putz E hH (gc_O hc) cl_O ct_O 9 (by decide) lf_O_40 rfl (by decide +kernel) (set_O9 _ _) isB_0 (Nat.le_of_ble_eq_true rfl) d_O_forgetNumber_17 (fun H locs hH => ?_)
  refine lv_aload_n hx hb d_O_forgetNumber_20 rfl (lv_at hl 0 rfl) ?_
  refine lv_iconst (v := 0) hx hb d_O_forgetNumber_21 (by decide) ?_
  refine g_putz E hH (gc_O hc) cl_O ct_O 10 (by decide) lf_O_43 rfl (by decide +kernel) (set_O10 _ _) isB_0 (Nat.le_of_ble_eq_true rfl) d_O_forgetNumber_22 (fun H locs hH => ?_)
  exact g_vret E hH (hsp.trans (by rw [sp_O_forgetNumber])) d_O_forgetNumber_25

def sp_O_startAnew (c : Nat) (G0 : Mem)  : Mem :=
  (wr (sp_O_forgetNumber c G0) c 1 0)
set_option maxHeartbeats 4000000 in
set_option maxRecDepth 100000 in
theorem c_O_startAnew (l : Launch) (P : gP) (G0 : Mem) (c : Nat)  (hc : kO c) : gMv l y_O_startAnew b_O_startAnew 1 none ({ frames := 1, cells := 0, slots := 0, locals := 20 }) [.ref (gad P c)] P G0 (sp_O_startAnew c G0) := by
  refine Met.ofW (cc := b_O_startAnew) (maxL := 1) (ret := none) (by decide) rfl ?_
  intro p e s m args below meth c0 s₁ B hml hv
  obtain ⟨rfl, hpre⟩ := hv
  obtain ⟨E, hH⟩ := gE_of B hml hpre
  replace E : gE p s m _ meth c0 P "FramedLine$Rounds" b_O_startAnew 1 none := E
  have hcU := hc
  unfold kO at hcU
  have hx := E.1
  have hb := E.2.1
  have hl := lv_entry ([.ref (gad P c)]) (n := 1) (Nat.le_of_ble_eq_true rfl)
  rw [lg_entry_eq]
  generalize (lg_sl ([.ref (gad P c)]) ++ List.replicate (1 - (lg_sl ([.ref (gad P c)])).length) Slot.unset).toArray = ls at hl ⊢
  replace hl : lv_has ls 1 [(0, .ref (gad P c))] := hl
  have hsp : sp_O_startAnew c G0 = sp_O_startAnew c G0 := rfl
  refine lv_aload_n hx hb d_O_startAnew_0 rfl (lv_at hl 0 rfl) ?_
  refine g_callVv (As := []) E hH hl (c_O_forgetNumber l P _ c hc) lm_O_52 (gc_O hc) cl_O (Nat.le_of_ble_eq_true rfl) (Nat.le_of_ble_eq_true rfl) (Nat.le_of_ble_eq_true rfl) (Nat.le_of_ble_eq_true rfl) (Nat.le_of_ble_eq_true rfl) rfl rfl rfl rfl d_O_startAnew_1 (fun H locs hH => ?_)
  refine lv_aload_n hx hb d_O_startAnew_4 rfl (lv_at hl 0 rfl) ?_
  refine lv_iconst (v := 0) hx hb d_O_startAnew_5 (by decide) ?_
  refine g_puti E hH (gc_O hc) cl_O ct_O 1 (by decide) lf_O_15 rfl (by decide +kernel) (fun _ _ => rfl) (Nat.le_of_ble_eq_true rfl) d_O_startAnew_6 (fun H locs hH => ?_)
  exact g_vret E hH (hsp.trans (by rw [sp_O_startAnew])) d_O_startAnew_9

def sp_O_judgeHalfBefore (c : Nat) (G0 : Mem)  : Mem :=
  (if ((if (G0 c 8) = (G0 c 7) then 0 else 1) : Int32) = 0 then (if (G0 c 0) = 15 then (wr G0 c 9 ((if (G0 c 8) = (G0 c 7) then 0 else 1) : Int32)) else (wr G0 c 10 ((if (G0 c 8) = (G0 c 7) then 0 else 1) : Int32))) else (if (G0 c 0) = 15 then (wr (wr G0 c 11 ((G0 c 11) + 1)) c 9 ((if (G0 c 8) = (G0 c 7) then 0 else 1) : Int32)) else (wr (wr G0 c 11 ((G0 c 11) + 1)) c 10 ((if (G0 c 8) = (G0 c 7) then 0 else 1) : Int32))))
set_option maxHeartbeats 4000000 in
set_option maxRecDepth 100000 in
theorem c_O_judgeHalfBefore (l : Launch) (P : gP) (G0 : Mem) (c : Nat)  (hc : kO c) : gMv l y_O_judgeHalfBefore b_O_judgeHalfBefore 2 none ({ frames := 0, cells := 0, slots := 0, locals := 0 }) [.ref (gad P c)] P G0 (sp_O_judgeHalfBefore c G0) := by
  refine Met.ofW (cc := b_O_judgeHalfBefore) (maxL := 2) (ret := none) (by decide) rfl ?_
  intro p e s m args below meth c0 s₁ B hml hv
  obtain ⟨rfl, hpre⟩ := hv
  obtain ⟨E, hH⟩ := gE_of B hml hpre
  replace E : gE p s m _ meth c0 P "FramedLine$Rounds" b_O_judgeHalfBefore 2 none := E
  have hcU := hc
  unfold kO at hcU
  have hx := E.1
  have hb := E.2.1
  have hl := lv_entry ([.ref (gad P c)]) (n := 2) (Nat.le_of_ble_eq_true rfl)
  rw [lg_entry_eq]
  generalize (lg_sl ([.ref (gad P c)]) ++ List.replicate (2 - (lg_sl ([.ref (gad P c)])).length) Slot.unset).toArray = ls at hl ⊢
  replace hl : lv_has ls 2 [(0, .ref (gad P c))] := hl
  have hsp : sp_O_judgeHalfBefore c G0 = sp_O_judgeHalfBefore c G0 := rfl
  refine lv_aload_n hx hb d_O_judgeHalfBefore_0 rfl (lv_at hl 0 rfl) ?_
  refine g_geti (v := (G0 c 8)) E hH (gc_O hc) cl_O 8 (by decide) lf_O_37 (fun _ => rfl) rfl d_O_judgeHalfBefore_1 ?_
  refine lv_aload_n hx hb d_O_judgeHalfBefore_4 rfl (lv_at hl 0 rfl) ?_
  refine g_geti (v := (G0 c 7)) E hH (gc_O hc) cl_O 7 (by decide) lf_O_34 (fun _ => rfl) rfl d_O_judgeHalfBefore_5 ?_
  refine jn (α := Int32) (fun z H1 locs1 => z = ((if (G0 c 8) = (G0 c 7) then 0 else 1) : Int32) ∧ isB z ∧ gH P s G0 H1 locs1) (fun z => F0 m 16 ls (.int z :: [])) (fun z H locs h9 => ?_) (fun hJ => ?_)
  · obtain ⟨rfl, hz16, hH⟩ := h9
    refine lv_istore_n hx hb d_O_judgeHalfBefore_16 rfl hl (by decide) rfl (fun ls hl => ?_)
    refine lv_iload_n hx hb d_O_judgeHalfBefore_17 rfl (lv_at hl 0 rfl) ?_
    refine lv_if_eq (tgt := 31) hx hb d_O_judgeHalfBefore_18 (by decide) (fun h1 => ?_) (fun h1 => ?_)
    · refine lv_aload_n hx hb d_O_judgeHalfBefore_31 rfl (lv_at hl 1 rfl) ?_
      refine g_geti (v := (G0 c 0)) E hH (gc_O hc) cl_O 0 (by decide) lf_O_9 (fun _ => rfl) rfl d_O_judgeHalfBefore_32 ?_
      refine lv_bipush (v := 15) hx hb d_O_judgeHalfBefore_35 (by decide) ?_
      refine lv_icmp_ne (tgt := 48) hx hb d_O_judgeHalfBefore_37 (by decide) (fun h2 => ?_) (fun h2 => ?_)
      · refine lv_aload_n hx hb d_O_judgeHalfBefore_48 rfl (lv_at hl 1 rfl) ?_
        refine lv_iload_n hx hb d_O_judgeHalfBefore_49 rfl (lv_at hl 0 rfl) ?_
        refine g_putz E hH (gc_O hc) cl_O ct_O 10 (by decide) lf_O_43 rfl (by decide +kernel) (set_O10 _ _) hz16 (Nat.le_of_ble_eq_true rfl) d_O_judgeHalfBefore_50 (fun H locs hH => ?_)
        exact g_vret E hH (hsp.trans (by simp only [sp_O_judgeHalfBefore, if_pos h1, if_neg h2])) d_O_judgeHalfBefore_53
      · refine lv_aload_n hx hb d_O_judgeHalfBefore_40 rfl (lv_at hl 1 rfl) ?_
        refine lv_iload_n hx hb d_O_judgeHalfBefore_41 rfl (lv_at hl 0 rfl) ?_
        refine g_putz E hH (gc_O hc) cl_O ct_O 9 (by decide) lf_O_40 rfl (by decide +kernel) (set_O9 _ _) hz16 (Nat.le_of_ble_eq_true rfl) d_O_judgeHalfBefore_42 (fun H locs hH => ?_)
        refine lv_goto (tgt := 53) hx hb d_O_judgeHalfBefore_45 (by decide) ?_
        exact g_vret E hH (hsp.trans (by simp only [sp_O_judgeHalfBefore, if_pos h1, if_pos h2])) d_O_judgeHalfBefore_53
    · refine lv_aload_n hx hb d_O_judgeHalfBefore_21 rfl (lv_at hl 1 rfl) ?_
      refine lv_dup hx hb d_O_judgeHalfBefore_22 rfl ?_
      refine g_geti (v := (G0 c 11)) E hH (gc_O hc) cl_O 11 (by decide) lf_O_46 (fun _ => rfl) rfl d_O_judgeHalfBefore_23 ?_
      refine lv_iconst (v := 1) hx hb d_O_judgeHalfBefore_26 (by decide) ?_
      refine lv_iadd hx hb d_O_judgeHalfBefore_27 ?_
      refine g_puti E hH (gc_O hc) cl_O ct_O 11 (by decide) lf_O_46 rfl (by decide +kernel) (fun _ _ => rfl) (Nat.le_of_ble_eq_true rfl) d_O_judgeHalfBefore_28 (fun H locs hH => ?_)
      refine lv_aload_n hx hb d_O_judgeHalfBefore_31 rfl (lv_at hl 1 rfl) ?_
      refine g_geti (v := (G0 c 0)) E hH (gc_O hc) cl_O 0 (by decide) lf_O_9 (fun _ => rfl) (wr_k _ _ _ _ (by decide)) d_O_judgeHalfBefore_32 ?_
      refine lv_bipush (v := 15) hx hb d_O_judgeHalfBefore_35 (by decide) ?_
      refine lv_icmp_ne (tgt := 48) hx hb d_O_judgeHalfBefore_37 (by decide) (fun h3 => ?_) (fun h3 => ?_)
      · refine lv_aload_n hx hb d_O_judgeHalfBefore_48 rfl (lv_at hl 1 rfl) ?_
        refine lv_iload_n hx hb d_O_judgeHalfBefore_49 rfl (lv_at hl 0 rfl) ?_
        refine g_putz E hH (gc_O hc) cl_O ct_O 10 (by decide) lf_O_43 rfl (by decide +kernel) (set_O10 _ _) hz16 (Nat.le_of_ble_eq_true rfl) d_O_judgeHalfBefore_50 (fun H locs hH => ?_)
        exact g_vret E hH (hsp.trans (by simp only [sp_O_judgeHalfBefore, if_neg h1, if_neg h3])) d_O_judgeHalfBefore_53
      · refine lv_aload_n hx hb d_O_judgeHalfBefore_40 rfl (lv_at hl 1 rfl) ?_
        refine lv_iload_n hx hb d_O_judgeHalfBefore_41 rfl (lv_at hl 0 rfl) ?_
        refine g_putz E hH (gc_O hc) cl_O ct_O 9 (by decide) lf_O_40 rfl (by decide +kernel) (set_O9 _ _) hz16 (Nat.le_of_ble_eq_true rfl) d_O_judgeHalfBefore_42 (fun H locs hH => ?_)
        refine lv_goto (tgt := 53) hx hb d_O_judgeHalfBefore_45 (by decide) ?_
        exact g_vret E hH (hsp.trans (by simp only [sp_O_judgeHalfBefore, if_neg h1, if_pos h3])) d_O_judgeHalfBefore_53
  · refine lv_icmp_eq (tgt := 15) hx hb d_O_judgeHalfBefore_8 (by decide) (fun h4 => ?_) (fun h4 => ?_)
    · refine lv_iconst (v := 0) hx hb d_O_judgeHalfBefore_15 (by decide) ?_
      exact hJ _ _ _ ⟨by simp only [if_pos h4], isB_0, hH⟩
    · refine lv_iconst (v := 1) hx hb d_O_judgeHalfBefore_11 (by decide) ?_
      refine lv_goto (tgt := 16) hx hb d_O_judgeHalfBefore_12 (by decide) ?_
      exact hJ _ _ _ ⟨by simp only [if_neg h4], isB_1, hH⟩

def sp_O_endHalf (c : Nat) (G0 : Mem)  : Mem :=
  (if (zb (G0 c 5)) = 0 then (wr (wr (wr (wr G0 c 5 (zb (G0 c 4))) c 7 (G0 c 6)) c 4 1) c 6 0) else (wr (wr (wr (wr (sp_O_judgeHalfBefore c G0) c 5 (zb ((sp_O_judgeHalfBefore c G0) c 4))) c 7 ((sp_O_judgeHalfBefore c G0) c 6)) c 4 1) c 6 0))
set_option maxHeartbeats 4000000 in
set_option maxRecDepth 100000 in
theorem c_O_endHalf (l : Launch) (P : gP) (G0 : Mem) (c : Nat)  (hc : kO c) : gMv l y_O_endHalf b_O_endHalf 1 none ({ frames := 1, cells := 0, slots := 0, locals := 21 }) [.ref (gad P c)] P G0 (sp_O_endHalf c G0) := by
  refine Met.ofW (cc := b_O_endHalf) (maxL := 1) (ret := none) (by decide) rfl ?_
  intro p e s m args below meth c0 s₁ B hml hv
  obtain ⟨rfl, hpre⟩ := hv
  obtain ⟨E, hH⟩ := gE_of B hml hpre
  replace E : gE p s m _ meth c0 P "FramedLine$Rounds" b_O_endHalf 1 none := E
  have hcU := hc
  unfold kO at hcU
  have hx := E.1
  have hb := E.2.1
  have hl := lv_entry ([.ref (gad P c)]) (n := 1) (Nat.le_of_ble_eq_true rfl)
  rw [lg_entry_eq]
  generalize (lg_sl ([.ref (gad P c)]) ++ List.replicate (1 - (lg_sl ([.ref (gad P c)])).length) Slot.unset).toArray = ls at hl ⊢
  replace hl : lv_has ls 1 [(0, .ref (gad P c))] := hl
  have hsp : sp_O_endHalf c G0 = sp_O_endHalf c G0 := rfl
  refine lv_aload_n hx hb d_O_endHalf_0 rfl (lv_at hl 0 rfl) ?_
  refine g_getz (v := (G0 c 5)) E hH (gc_O hc) cl_O 5 (by decide) lf_O_28 (fun _ => rfl) rfl d_O_endHalf_1 ?_
  refine lv_if_eq (tgt := 11) hx hb d_O_endHalf_4 (by decide) (fun h1 => ?_) (fun h1 => ?_)
  · refine lv_aload_n hx hb d_O_endHalf_11 rfl (lv_at hl 0 rfl) ?_
    refine lv_aload_n hx hb d_O_endHalf_12 rfl (lv_at hl 0 rfl) ?_
    refine g_getz (v := (G0 c 4)) E hH (gc_O hc) cl_O 4 (by decide) lf_O_24 (fun _ => rfl) rfl d_O_endHalf_13 ?_
    refine g_putz E hH (gc_O hc) cl_O ct_O 5 (by decide) lf_O_28 rfl (by decide +kernel) (set_O5 _ _) (isB_zb _) (Nat.le_of_ble_eq_true rfl) d_O_endHalf_16 (fun H locs hH => ?_)
    refine lv_aload_n hx hb d_O_endHalf_19 rfl (lv_at hl 0 rfl) ?_
    refine lv_aload_n hx hb d_O_endHalf_20 rfl (lv_at hl 0 rfl) ?_
    refine g_geti (v := (G0 c 6)) E hH (gc_O hc) cl_O 6 (by decide) lf_O_31 (fun _ => rfl) (wr_k _ _ _ _ (by decide)) d_O_endHalf_21 ?_
    refine g_puti E hH (gc_O hc) cl_O ct_O 7 (by decide) lf_O_34 rfl (by decide +kernel) (fun _ _ => rfl) (Nat.le_of_ble_eq_true rfl) d_O_endHalf_24 (fun H locs hH => ?_)
    refine lv_aload_n hx hb d_O_endHalf_27 rfl (lv_at hl 0 rfl) ?_
    refine lv_iconst (v := 1) hx hb d_O_endHalf_28 (by decide) ?_
    refine g_putz E hH (gc_O hc) cl_O ct_O 4 (by decide) lf_O_24 rfl (by decide +kernel) (set_O4 _ _) isB_1 (Nat.le_of_ble_eq_true rfl) d_O_endHalf_29 (fun H locs hH => ?_)
    refine lv_aload_n hx hb d_O_endHalf_32 rfl (lv_at hl 0 rfl) ?_
    refine lv_iconst (v := 0) hx hb d_O_endHalf_33 (by decide) ?_
    refine g_puti E hH (gc_O hc) cl_O ct_O 6 (by decide) lf_O_31 rfl (by decide +kernel) (fun _ _ => rfl) (Nat.le_of_ble_eq_true rfl) d_O_endHalf_34 (fun H locs hH => ?_)
    exact g_vret E hH (hsp.trans (by simp only [sp_O_endHalf, if_pos h1])) d_O_endHalf_37
  · refine lv_aload_n hx hb d_O_endHalf_7 rfl (lv_at hl 0 rfl) ?_
    refine g_callVv (As := []) E hH hl (c_O_judgeHalfBefore l P _ c hc) lm_O_74 (gc_O hc) cl_O (Nat.le_of_ble_eq_true rfl) (Nat.le_of_ble_eq_true rfl) (Nat.le_of_ble_eq_true rfl) (Nat.le_of_ble_eq_true rfl) (Nat.le_of_ble_eq_true rfl) rfl rfl rfl rfl d_O_endHalf_8 (fun H locs hH => ?_)
    refine lv_aload_n hx hb d_O_endHalf_11 rfl (lv_at hl 0 rfl) ?_
    refine lv_aload_n hx hb d_O_endHalf_12 rfl (lv_at hl 0 rfl) ?_
    refine g_getz (v := ((sp_O_judgeHalfBefore c G0) c 4)) E hH (gc_O hc) cl_O 4 (by decide) lf_O_24 (fun _ => rfl) rfl d_O_endHalf_13 ?_
    refine g_putz E hH (gc_O hc) cl_O ct_O 5 (by decide) lf_O_28 rfl (by decide +kernel) (set_O5 _ _) (isB_zb _) (Nat.le_of_ble_eq_true rfl) d_O_endHalf_16 (fun H locs hH => ?_)
    refine lv_aload_n hx hb d_O_endHalf_19 rfl (lv_at hl 0 rfl) ?_
    refine lv_aload_n hx hb d_O_endHalf_20 rfl (lv_at hl 0 rfl) ?_
    refine g_geti (v := ((sp_O_judgeHalfBefore c G0) c 6)) E hH (gc_O hc) cl_O 6 (by decide) lf_O_31 (fun _ => rfl) (wr_k _ _ _ _ (by decide)) d_O_endHalf_21 ?_
    refine g_puti E hH (gc_O hc) cl_O ct_O 7 (by decide) lf_O_34 rfl (by decide +kernel) (fun _ _ => rfl) (Nat.le_of_ble_eq_true rfl) d_O_endHalf_24 (fun H locs hH => ?_)
    refine lv_aload_n hx hb d_O_endHalf_27 rfl (lv_at hl 0 rfl) ?_
    refine lv_iconst (v := 1) hx hb d_O_endHalf_28 (by decide) ?_
    refine g_putz E hH (gc_O hc) cl_O ct_O 4 (by decide) lf_O_24 rfl (by decide +kernel) (set_O4 _ _) isB_1 (Nat.le_of_ble_eq_true rfl) d_O_endHalf_29 (fun H locs hH => ?_)
    refine lv_aload_n hx hb d_O_endHalf_32 rfl (lv_at hl 0 rfl) ?_
    refine lv_iconst (v := 0) hx hb d_O_endHalf_33 (by decide) ?_
    refine g_puti E hH (gc_O hc) cl_O ct_O 6 (by decide) lf_O_31 rfl (by decide +kernel) (fun _ _ => rfl) (Nat.le_of_ble_eq_true rfl) d_O_endHalf_34 (fun H locs hH => ?_)
    exact g_vret E hH (hsp.trans (by simp only [sp_O_endHalf, if_neg h1])) d_O_endHalf_37

def sp_O_judgeRoundWord (c : Nat) (G0 : Mem)  : Mem :=
  (if ((if (G0 c 2) = 11 then 0 else ((G0 c 3) + 1)) : Int32) = 2 then (sp_O_forgetNumber c (wr G0 c 3 ((if (G0 c 2) = 11 then 0 else ((G0 c 3) + 1)) : Int32))) else (wr G0 c 3 ((if (G0 c 2) = 11 then 0 else ((G0 c 3) + 1)) : Int32)))
set_option maxHeartbeats 4000000 in
set_option maxRecDepth 100000 in
theorem c_O_judgeRoundWord (l : Launch) (P : gP) (G0 : Mem) (c : Nat)  (hc : kO c) : gMv l y_O_judgeRoundWord b_O_judgeRoundWord 1 none ({ frames := 1, cells := 0, slots := 0, locals := 20 }) [.ref (gad P c)] P G0 (sp_O_judgeRoundWord c G0) := by
  refine Met.ofW (cc := b_O_judgeRoundWord) (maxL := 1) (ret := none) (by decide) rfl ?_
  intro p e s m args below meth c0 s₁ B hml hv
  obtain ⟨rfl, hpre⟩ := hv
  obtain ⟨E, hH⟩ := gE_of B hml hpre
  replace E : gE p s m _ meth c0 P "FramedLine$Rounds" b_O_judgeRoundWord 1 none := E
  have hcU := hc
  unfold kO at hcU
  have hx := E.1
  have hb := E.2.1
  have hl := lv_entry ([.ref (gad P c)]) (n := 1) (Nat.le_of_ble_eq_true rfl)
  rw [lg_entry_eq]
  generalize (lg_sl ([.ref (gad P c)]) ++ List.replicate (1 - (lg_sl ([.ref (gad P c)])).length) Slot.unset).toArray = ls at hl ⊢
  replace hl : lv_has ls 1 [(0, .ref (gad P c))] := hl
  have hsp : sp_O_judgeRoundWord c G0 = sp_O_judgeRoundWord c G0 := rfl
  refine lv_aload_n hx hb d_O_judgeRoundWord_0 rfl (lv_at hl 0 rfl) ?_
  refine lv_aload_n hx hb d_O_judgeRoundWord_1 rfl (lv_at hl 0 rfl) ?_
  refine g_geti (v := (G0 c 2)) E hH (gc_O hc) cl_O 2 (by decide) lf_O_18 (fun _ => rfl) rfl d_O_judgeRoundWord_2 ?_
  refine lv_bipush (v := 11) hx hb d_O_judgeRoundWord_5 (by decide) ?_
  refine jn (α := Int32) (fun z H1 locs1 => z = ((if (G0 c 2) = 11 then 0 else ((G0 c 3) + 1)) : Int32) ∧ gH P s G0 H1 locs1) (fun z => F0 m 20 ls (.int z :: .ref (gad P c) :: [])) (fun z H locs h9 => ?_) (fun hJ => ?_)
  · obtain ⟨rfl, hH⟩ := h9
    refine g_puti E hH (gc_O hc) cl_O ct_O 3 (by decide) lf_O_21 rfl (by decide +kernel) (fun _ _ => rfl) (Nat.le_of_ble_eq_true rfl) d_O_judgeRoundWord_20 (fun H locs hH => ?_)
    refine lv_aload_n hx hb d_O_judgeRoundWord_23 rfl (lv_at hl 0 rfl) ?_
    refine g_geti (v := ((if (G0 c 2) = 11 then 0 else ((G0 c 3) + 1)) : Int32)) E hH (gc_O hc) cl_O 3 (by decide) lf_O_21 (fun _ => rfl) (wr_same _ _ _ _) d_O_judgeRoundWord_24 ?_
    refine lv_iconst (v := 2) hx hb d_O_judgeRoundWord_27 (by decide) ?_
    refine lv_icmp_ne (tgt := 35) hx hb d_O_judgeRoundWord_28 (by decide) (fun h1 => ?_) (fun h1 => ?_)
    · exact g_vret E hH (hsp.trans (by simp only [sp_O_judgeRoundWord, if_neg h1])) d_O_judgeRoundWord_35
    · refine lv_aload_n hx hb d_O_judgeRoundWord_31 rfl (lv_at hl 0 rfl) ?_
      refine g_callVv (As := []) E hH hl (c_O_forgetNumber l P _ c hc) lm_O_52 (gc_O hc) cl_O (Nat.le_of_ble_eq_true rfl) (Nat.le_of_ble_eq_true rfl) (Nat.le_of_ble_eq_true rfl) (Nat.le_of_ble_eq_true rfl) (Nat.le_of_ble_eq_true rfl) rfl rfl rfl rfl d_O_judgeRoundWord_32 (fun H locs hH => ?_)
      exact g_vret E hH (hsp.trans (by simp only [sp_O_judgeRoundWord, if_pos h1])) d_O_judgeRoundWord_35
  · refine lv_icmp_ne (tgt := 14) hx hb d_O_judgeRoundWord_7 (by decide) (fun h2 => ?_) (fun h2 => ?_)
    · refine lv_aload_n hx hb d_O_judgeRoundWord_14 rfl (lv_at hl 0 rfl) ?_
      refine g_geti (v := (G0 c 3)) E hH (gc_O hc) cl_O 3 (by decide) lf_O_21 (fun _ => rfl) rfl d_O_judgeRoundWord_15 ?_
      refine lv_iconst (v := 1) hx hb d_O_judgeRoundWord_18 (by decide) ?_
      refine lv_iadd hx hb d_O_judgeRoundWord_19 ?_
      exact hJ _ _ _ ⟨by simp only [if_neg h2], hH⟩
    · refine lv_iconst (v := 0) hx hb d_O_judgeRoundWord_10 (by decide) ?_
      refine lv_goto (tgt := 20) hx hb d_O_judgeRoundWord_11 (by decide) ?_
      exact hJ _ _ _ ⟨by simp only [if_pos h2], hH⟩

def sp_O_findNumber (c : Nat) (G0 : Mem) (a1 : Int32) : Mem :=
  (if a1 = 0 then G0 else (if (G0 c 1) < 6 then G0 else (if (G0 c 2) = 11 then (wr (wr G0 c 0 11) c 3 0) else G0)))
set_option maxHeartbeats 4000000 in
set_option maxRecDepth 100000 in
theorem c_O_findNumber (l : Launch) (P : gP) (G0 : Mem) (c : Nat) (a1 : Int32) (hc : kO c) : gMv l y_O_findNumber b_O_findNumber 2 none ({ frames := 0, cells := 0, slots := 0, locals := 0 }) [.ref (gad P c), .int a1] P G0 (sp_O_findNumber c G0 a1) := by
  refine Met.ofW (cc := b_O_findNumber) (maxL := 2) (ret := none) (by decide) rfl ?_
  intro p e s m args below meth c0 s₁ B hml hv
  obtain ⟨rfl, hpre⟩ := hv
  obtain ⟨E, hH⟩ := gE_of B hml hpre
  replace E : gE p s m _ meth c0 P "FramedLine$Rounds" b_O_findNumber 2 none := E
  have hcU := hc
  unfold kO at hcU
  have hx := E.1
  have hb := E.2.1
  have hl := lv_entry ([.ref (gad P c), .int a1]) (n := 2) (Nat.le_of_ble_eq_true rfl)
  rw [lg_entry_eq]
  generalize (lg_sl ([.ref (gad P c), .int a1]) ++ List.replicate (2 - (lg_sl ([.ref (gad P c), .int a1])).length) Slot.unset).toArray = ls at hl ⊢
  replace hl : lv_has ls 2 [(0, .ref (gad P c)), (1, .int a1)] := hl
  have hsp : sp_O_findNumber c G0 a1 = sp_O_findNumber c G0 a1 := rfl
  refine lv_iload_n hx hb d_O_findNumber_0 rfl (lv_at hl 1 rfl) ?_
  refine lv_if_eq (tgt := 33) hx hb d_O_findNumber_1 (by decide) (fun h1 => ?_) (fun h1 => ?_)
  · exact g_vret E hH (hsp.trans (by simp only [sp_O_findNumber, if_pos h1])) d_O_findNumber_33
  · refine lv_aload_n hx hb d_O_findNumber_4 rfl (lv_at hl 0 rfl) ?_
    refine g_geti (v := (G0 c 1)) E hH (gc_O hc) cl_O 1 (by decide) lf_O_15 (fun _ => rfl) rfl d_O_findNumber_5 ?_
    refine lv_bipush (v := 6) hx hb d_O_findNumber_8 (by decide) ?_
    refine lv_icmp_lt (tgt := 33) hx hb d_O_findNumber_10 (by decide) (fun h2 => ?_) (fun h2 => ?_)
    · exact g_vret E hH (hsp.trans (by simp only [sp_O_findNumber, if_neg h1, if_pos h2])) d_O_findNumber_33
    · refine lv_aload_n hx hb d_O_findNumber_13 rfl (lv_at hl 0 rfl) ?_
      refine g_geti (v := (G0 c 2)) E hH (gc_O hc) cl_O 2 (by decide) lf_O_18 (fun _ => rfl) rfl d_O_findNumber_14 ?_
      refine lv_bipush (v := 11) hx hb d_O_findNumber_17 (by decide) ?_
      refine lv_icmp_ne (tgt := 33) hx hb d_O_findNumber_19 (by decide) (fun h3 => ?_) (fun h3 => ?_)
      · exact g_vret E hH (hsp.trans (by simp only [sp_O_findNumber, if_neg h1, if_neg h2, if_neg h3])) d_O_findNumber_33
      · refine lv_aload_n hx hb d_O_findNumber_22 rfl (lv_at hl 0 rfl) ?_
        refine lv_bipush (v := 11) hx hb d_O_findNumber_23 (by decide) ?_
        refine g_puti E hH (gc_O hc) cl_O ct_O 0 (by decide) lf_O_9 rfl (by decide +kernel) (fun _ _ => rfl) (Nat.le_of_ble_eq_true rfl) d_O_findNumber_25 (fun H locs hH => ?_)
        refine lv_aload_n hx hb d_O_findNumber_28 rfl (lv_at hl 0 rfl) ?_
        refine lv_iconst (v := 0) hx hb d_O_findNumber_29 (by decide) ?_
        refine g_puti E hH (gc_O hc) cl_O ct_O 3 (by decide) lf_O_21 rfl (by decide +kernel) (fun _ _ => rfl) (Nat.le_of_ble_eq_true rfl) d_O_findNumber_30 (fun H locs hH => ?_)
        exact g_vret E hH (hsp.trans (by simp only [sp_O_findNumber, if_neg h1, if_neg h2, if_pos h3])) d_O_findNumber_33

def sp_O_takeFrame (c : Nat) (G0 : Mem) (a1 : Int32) (a2 : Int32) : Mem :=
  (if a2 = 0 then (if (G0 c 0) = (-1) then (sp_O_findNumber c (wr G0 c 8 ((((G0 c 8) <<< ((1 : Int32) &&& 31)) ||| (iu a1 31)) &&& (15 : Int32))) a2) else (if (((G0 c 0) + 1) &&& (15 : Int32)) = 11 then (if ((sp_F_endsHalf (sp_O_judgeRoundWord c (wr (wr (wr G0 c 8 ((((G0 c 8) <<< ((1 : Int32) &&& 31)) ||| (iu a1 31)) &&& (15 : Int32))) c 0 (((G0 c 0) + 1) &&& (15 : Int32))) c 6 ((sp_F_checkOver (wr (wr G0 c 8 ((((G0 c 8) <<< ((1 : Int32) &&& 31)) ||| (iu a1 31)) &&& (15 : Int32))) c 0 (((G0 c 0) + 1) &&& (15 : Int32))) (G0 c 6) (a1 &&& (2147483647 : Int32)))))) ((sp_O_judgeRoundWord c (wr (wr (wr G0 c 8 ((((G0 c 8) <<< ((1 : Int32) &&& 31)) ||| (iu a1 31)) &&& (15 : Int32))) c 0 (((G0 c 0) + 1) &&& (15 : Int32))) c 6 ((sp_F_checkOver (wr (wr G0 c 8 ((((G0 c 8) <<< ((1 : Int32) &&& 31)) ||| (iu a1 31)) &&& (15 : Int32))) c 0 (((G0 c 0) + 1) &&& (15 : Int32))) (G0 c 6) (a1 &&& (2147483647 : Int32)))))) c 0))) = 0 then (sp_O_judgeRoundWord c (wr (wr (wr G0 c 8 ((((G0 c 8) <<< ((1 : Int32) &&& 31)) ||| (iu a1 31)) &&& (15 : Int32))) c 0 (((G0 c 0) + 1) &&& (15 : Int32))) c 6 ((sp_F_checkOver (wr (wr G0 c 8 ((((G0 c 8) <<< ((1 : Int32) &&& 31)) ||| (iu a1 31)) &&& (15 : Int32))) c 0 (((G0 c 0) + 1) &&& (15 : Int32))) (G0 c 6) (a1 &&& (2147483647 : Int32)))))) else (sp_O_endHalf c (sp_O_judgeRoundWord c (wr (wr (wr G0 c 8 ((((G0 c 8) <<< ((1 : Int32) &&& 31)) ||| (iu a1 31)) &&& (15 : Int32))) c 0 (((G0 c 0) + 1) &&& (15 : Int32))) c 6 ((sp_F_checkOver (wr (wr G0 c 8 ((((G0 c 8) <<< ((1 : Int32) &&& 31)) ||| (iu a1 31)) &&& (15 : Int32))) c 0 (((G0 c 0) + 1) &&& (15 : Int32))) (G0 c 6) (a1 &&& (2147483647 : Int32)))))))) else (if (iu a1 31) = 0 then (if (((G0 c 0) + 1) &&& (15 : Int32)) = 13 then (if ((sp_F_endsHalf (wr (wr (wr (wr G0 c 8 ((((G0 c 8) <<< ((1 : Int32) &&& 31)) ||| (iu a1 31)) &&& (15 : Int32))) c 0 (((G0 c 0) + 1) &&& (15 : Int32))) c 6 ((sp_F_checkOver (wr (wr G0 c 8 ((((G0 c 8) <<< ((1 : Int32) &&& 31)) ||| (iu a1 31)) &&& (15 : Int32))) c 0 (((G0 c 0) + 1) &&& (15 : Int32))) (G0 c 6) (a1 &&& (2147483647 : Int32))))) c 12 ((G0 c 12) + 1)) (((G0 c 0) + 1) &&& (15 : Int32)))) = 0 then (wr (wr (wr (wr G0 c 8 ((((G0 c 8) <<< ((1 : Int32) &&& 31)) ||| (iu a1 31)) &&& (15 : Int32))) c 0 (((G0 c 0) + 1) &&& (15 : Int32))) c 6 ((sp_F_checkOver (wr (wr G0 c 8 ((((G0 c 8) <<< ((1 : Int32) &&& 31)) ||| (iu a1 31)) &&& (15 : Int32))) c 0 (((G0 c 0) + 1) &&& (15 : Int32))) (G0 c 6) (a1 &&& (2147483647 : Int32))))) c 12 ((G0 c 12) + 1)) else (sp_O_endHalf c (wr (wr (wr (wr G0 c 8 ((((G0 c 8) <<< ((1 : Int32) &&& 31)) ||| (iu a1 31)) &&& (15 : Int32))) c 0 (((G0 c 0) + 1) &&& (15 : Int32))) c 6 ((sp_F_checkOver (wr (wr G0 c 8 ((((G0 c 8) <<< ((1 : Int32) &&& 31)) ||| (iu a1 31)) &&& (15 : Int32))) c 0 (((G0 c 0) + 1) &&& (15 : Int32))) (G0 c 6) (a1 &&& (2147483647 : Int32))))) c 12 ((G0 c 12) + 1)))) else (if (((G0 c 0) + 1) &&& (15 : Int32)) = 15 then (if ((sp_F_endsHalf (wr (wr (wr (wr G0 c 8 ((((G0 c 8) <<< ((1 : Int32) &&& 31)) ||| (iu a1 31)) &&& (15 : Int32))) c 0 (((G0 c 0) + 1) &&& (15 : Int32))) c 6 ((sp_F_checkOver (wr (wr G0 c 8 ((((G0 c 8) <<< ((1 : Int32) &&& 31)) ||| (iu a1 31)) &&& (15 : Int32))) c 0 (((G0 c 0) + 1) &&& (15 : Int32))) (G0 c 6) (a1 &&& (2147483647 : Int32))))) c 12 ((G0 c 12) + 1)) (((G0 c 0) + 1) &&& (15 : Int32)))) = 0 then (wr (wr (wr (wr G0 c 8 ((((G0 c 8) <<< ((1 : Int32) &&& 31)) ||| (iu a1 31)) &&& (15 : Int32))) c 0 (((G0 c 0) + 1) &&& (15 : Int32))) c 6 ((sp_F_checkOver (wr (wr G0 c 8 ((((G0 c 8) <<< ((1 : Int32) &&& 31)) ||| (iu a1 31)) &&& (15 : Int32))) c 0 (((G0 c 0) + 1) &&& (15 : Int32))) (G0 c 6) (a1 &&& (2147483647 : Int32))))) c 12 ((G0 c 12) + 1)) else (sp_O_endHalf c (wr (wr (wr (wr G0 c 8 ((((G0 c 8) <<< ((1 : Int32) &&& 31)) ||| (iu a1 31)) &&& (15 : Int32))) c 0 (((G0 c 0) + 1) &&& (15 : Int32))) c 6 ((sp_F_checkOver (wr (wr G0 c 8 ((((G0 c 8) <<< ((1 : Int32) &&& 31)) ||| (iu a1 31)) &&& (15 : Int32))) c 0 (((G0 c 0) + 1) &&& (15 : Int32))) (G0 c 6) (a1 &&& (2147483647 : Int32))))) c 12 ((G0 c 12) + 1)))) else (if ((sp_F_endsHalf (wr (wr (wr G0 c 8 ((((G0 c 8) <<< ((1 : Int32) &&& 31)) ||| (iu a1 31)) &&& (15 : Int32))) c 0 (((G0 c 0) + 1) &&& (15 : Int32))) c 6 ((sp_F_checkOver (wr (wr G0 c 8 ((((G0 c 8) <<< ((1 : Int32) &&& 31)) ||| (iu a1 31)) &&& (15 : Int32))) c 0 (((G0 c 0) + 1) &&& (15 : Int32))) (G0 c 6) (a1 &&& (2147483647 : Int32))))) (((G0 c 0) + 1) &&& (15 : Int32)))) = 0 then (wr (wr (wr G0 c 8 ((((G0 c 8) <<< ((1 : Int32) &&& 31)) ||| (iu a1 31)) &&& (15 : Int32))) c 0 (((G0 c 0) + 1) &&& (15 : Int32))) c 6 ((sp_F_checkOver (wr (wr G0 c 8 ((((G0 c 8) <<< ((1 : Int32) &&& 31)) ||| (iu a1 31)) &&& (15 : Int32))) c 0 (((G0 c 0) + 1) &&& (15 : Int32))) (G0 c 6) (a1 &&& (2147483647 : Int32))))) else (sp_O_endHalf c (wr (wr (wr G0 c 8 ((((G0 c 8) <<< ((1 : Int32) &&& 31)) ||| (iu a1 31)) &&& (15 : Int32))) c 0 (((G0 c 0) + 1) &&& (15 : Int32))) c 6 ((sp_F_checkOver (wr (wr G0 c 8 ((((G0 c 8) <<< ((1 : Int32) &&& 31)) ||| (iu a1 31)) &&& (15 : Int32))) c 0 (((G0 c 0) + 1) &&& (15 : Int32))) (G0 c 6) (a1 &&& (2147483647 : Int32))))))))) else (if ((sp_F_endsHalf (wr (wr (wr G0 c 8 ((((G0 c 8) <<< ((1 : Int32) &&& 31)) ||| (iu a1 31)) &&& (15 : Int32))) c 0 (((G0 c 0) + 1) &&& (15 : Int32))) c 6 ((sp_F_checkOver (wr (wr G0 c 8 ((((G0 c 8) <<< ((1 : Int32) &&& 31)) ||| (iu a1 31)) &&& (15 : Int32))) c 0 (((G0 c 0) + 1) &&& (15 : Int32))) (G0 c 6) (a1 &&& (2147483647 : Int32))))) (((G0 c 0) + 1) &&& (15 : Int32)))) = 0 then (wr (wr (wr G0 c 8 ((((G0 c 8) <<< ((1 : Int32) &&& 31)) ||| (iu a1 31)) &&& (15 : Int32))) c 0 (((G0 c 0) + 1) &&& (15 : Int32))) c 6 ((sp_F_checkOver (wr (wr G0 c 8 ((((G0 c 8) <<< ((1 : Int32) &&& 31)) ||| (iu a1 31)) &&& (15 : Int32))) c 0 (((G0 c 0) + 1) &&& (15 : Int32))) (G0 c 6) (a1 &&& (2147483647 : Int32))))) else (sp_O_endHalf c (wr (wr (wr G0 c 8 ((((G0 c 8) <<< ((1 : Int32) &&& 31)) ||| (iu a1 31)) &&& (15 : Int32))) c 0 (((G0 c 0) + 1) &&& (15 : Int32))) c 6 ((sp_F_checkOver (wr (wr G0 c 8 ((((G0 c 8) <<< ((1 : Int32) &&& 31)) ||| (iu a1 31)) &&& (15 : Int32))) c 0 (((G0 c 0) + 1) &&& (15 : Int32))) (G0 c 6) (a1 &&& (2147483647 : Int32)))))))))) else (if (G0 c 0) = (-1) then (sp_O_findNumber c (wr (wr G0 c 1 ((G0 c 1) + 1)) c 2 ((((G0 c 2) <<< ((1 : Int32) &&& 31)) ||| (iu a1 31)) &&& (63 : Int32))) a2) else (if (((G0 c 0) + 1) &&& (15 : Int32)) = 11 then (if ((sp_F_endsHalf (sp_O_judgeRoundWord c (wr (wr (wr (wr G0 c 1 ((G0 c 1) + 1)) c 2 ((((G0 c 2) <<< ((1 : Int32) &&& 31)) ||| (iu a1 31)) &&& (63 : Int32))) c 0 (((G0 c 0) + 1) &&& (15 : Int32))) c 6 ((sp_F_checkOver (wr (wr (wr G0 c 1 ((G0 c 1) + 1)) c 2 ((((G0 c 2) <<< ((1 : Int32) &&& 31)) ||| (iu a1 31)) &&& (63 : Int32))) c 0 (((G0 c 0) + 1) &&& (15 : Int32))) (G0 c 6) a1)))) ((sp_O_judgeRoundWord c (wr (wr (wr (wr G0 c 1 ((G0 c 1) + 1)) c 2 ((((G0 c 2) <<< ((1 : Int32) &&& 31)) ||| (iu a1 31)) &&& (63 : Int32))) c 0 (((G0 c 0) + 1) &&& (15 : Int32))) c 6 ((sp_F_checkOver (wr (wr (wr G0 c 1 ((G0 c 1) + 1)) c 2 ((((G0 c 2) <<< ((1 : Int32) &&& 31)) ||| (iu a1 31)) &&& (63 : Int32))) c 0 (((G0 c 0) + 1) &&& (15 : Int32))) (G0 c 6) a1)))) c 0))) = 0 then (sp_O_judgeRoundWord c (wr (wr (wr (wr G0 c 1 ((G0 c 1) + 1)) c 2 ((((G0 c 2) <<< ((1 : Int32) &&& 31)) ||| (iu a1 31)) &&& (63 : Int32))) c 0 (((G0 c 0) + 1) &&& (15 : Int32))) c 6 ((sp_F_checkOver (wr (wr (wr G0 c 1 ((G0 c 1) + 1)) c 2 ((((G0 c 2) <<< ((1 : Int32) &&& 31)) ||| (iu a1 31)) &&& (63 : Int32))) c 0 (((G0 c 0) + 1) &&& (15 : Int32))) (G0 c 6) a1)))) else (sp_O_endHalf c (sp_O_judgeRoundWord c (wr (wr (wr (wr G0 c 1 ((G0 c 1) + 1)) c 2 ((((G0 c 2) <<< ((1 : Int32) &&& 31)) ||| (iu a1 31)) &&& (63 : Int32))) c 0 (((G0 c 0) + 1) &&& (15 : Int32))) c 6 ((sp_F_checkOver (wr (wr (wr G0 c 1 ((G0 c 1) + 1)) c 2 ((((G0 c 2) <<< ((1 : Int32) &&& 31)) ||| (iu a1 31)) &&& (63 : Int32))) c 0 (((G0 c 0) + 1) &&& (15 : Int32))) (G0 c 6) a1)))))) else (if (iu a1 31) = 0 then (if (((G0 c 0) + 1) &&& (15 : Int32)) = 13 then (if ((sp_F_endsHalf (wr (wr (wr (wr (wr G0 c 1 ((G0 c 1) + 1)) c 2 ((((G0 c 2) <<< ((1 : Int32) &&& 31)) ||| (iu a1 31)) &&& (63 : Int32))) c 0 (((G0 c 0) + 1) &&& (15 : Int32))) c 6 ((sp_F_checkOver (wr (wr (wr G0 c 1 ((G0 c 1) + 1)) c 2 ((((G0 c 2) <<< ((1 : Int32) &&& 31)) ||| (iu a1 31)) &&& (63 : Int32))) c 0 (((G0 c 0) + 1) &&& (15 : Int32))) (G0 c 6) a1))) c 12 ((G0 c 12) + 1)) (((G0 c 0) + 1) &&& (15 : Int32)))) = 0 then (wr (wr (wr (wr (wr G0 c 1 ((G0 c 1) + 1)) c 2 ((((G0 c 2) <<< ((1 : Int32) &&& 31)) ||| (iu a1 31)) &&& (63 : Int32))) c 0 (((G0 c 0) + 1) &&& (15 : Int32))) c 6 ((sp_F_checkOver (wr (wr (wr G0 c 1 ((G0 c 1) + 1)) c 2 ((((G0 c 2) <<< ((1 : Int32) &&& 31)) ||| (iu a1 31)) &&& (63 : Int32))) c 0 (((G0 c 0) + 1) &&& (15 : Int32))) (G0 c 6) a1))) c 12 ((G0 c 12) + 1)) else (sp_O_endHalf c (wr (wr (wr (wr (wr G0 c 1 ((G0 c 1) + 1)) c 2 ((((G0 c 2) <<< ((1 : Int32) &&& 31)) ||| (iu a1 31)) &&& (63 : Int32))) c 0 (((G0 c 0) + 1) &&& (15 : Int32))) c 6 ((sp_F_checkOver (wr (wr (wr G0 c 1 ((G0 c 1) + 1)) c 2 ((((G0 c 2) <<< ((1 : Int32) &&& 31)) ||| (iu a1 31)) &&& (63 : Int32))) c 0 (((G0 c 0) + 1) &&& (15 : Int32))) (G0 c 6) a1))) c 12 ((G0 c 12) + 1)))) else (if (((G0 c 0) + 1) &&& (15 : Int32)) = 15 then (if ((sp_F_endsHalf (wr (wr (wr (wr (wr G0 c 1 ((G0 c 1) + 1)) c 2 ((((G0 c 2) <<< ((1 : Int32) &&& 31)) ||| (iu a1 31)) &&& (63 : Int32))) c 0 (((G0 c 0) + 1) &&& (15 : Int32))) c 6 ((sp_F_checkOver (wr (wr (wr G0 c 1 ((G0 c 1) + 1)) c 2 ((((G0 c 2) <<< ((1 : Int32) &&& 31)) ||| (iu a1 31)) &&& (63 : Int32))) c 0 (((G0 c 0) + 1) &&& (15 : Int32))) (G0 c 6) a1))) c 12 ((G0 c 12) + 1)) (((G0 c 0) + 1) &&& (15 : Int32)))) = 0 then (wr (wr (wr (wr (wr G0 c 1 ((G0 c 1) + 1)) c 2 ((((G0 c 2) <<< ((1 : Int32) &&& 31)) ||| (iu a1 31)) &&& (63 : Int32))) c 0 (((G0 c 0) + 1) &&& (15 : Int32))) c 6 ((sp_F_checkOver (wr (wr (wr G0 c 1 ((G0 c 1) + 1)) c 2 ((((G0 c 2) <<< ((1 : Int32) &&& 31)) ||| (iu a1 31)) &&& (63 : Int32))) c 0 (((G0 c 0) + 1) &&& (15 : Int32))) (G0 c 6) a1))) c 12 ((G0 c 12) + 1)) else (sp_O_endHalf c (wr (wr (wr (wr (wr G0 c 1 ((G0 c 1) + 1)) c 2 ((((G0 c 2) <<< ((1 : Int32) &&& 31)) ||| (iu a1 31)) &&& (63 : Int32))) c 0 (((G0 c 0) + 1) &&& (15 : Int32))) c 6 ((sp_F_checkOver (wr (wr (wr G0 c 1 ((G0 c 1) + 1)) c 2 ((((G0 c 2) <<< ((1 : Int32) &&& 31)) ||| (iu a1 31)) &&& (63 : Int32))) c 0 (((G0 c 0) + 1) &&& (15 : Int32))) (G0 c 6) a1))) c 12 ((G0 c 12) + 1)))) else (if ((sp_F_endsHalf (wr (wr (wr (wr G0 c 1 ((G0 c 1) + 1)) c 2 ((((G0 c 2) <<< ((1 : Int32) &&& 31)) ||| (iu a1 31)) &&& (63 : Int32))) c 0 (((G0 c 0) + 1) &&& (15 : Int32))) c 6 ((sp_F_checkOver (wr (wr (wr G0 c 1 ((G0 c 1) + 1)) c 2 ((((G0 c 2) <<< ((1 : Int32) &&& 31)) ||| (iu a1 31)) &&& (63 : Int32))) c 0 (((G0 c 0) + 1) &&& (15 : Int32))) (G0 c 6) a1))) (((G0 c 0) + 1) &&& (15 : Int32)))) = 0 then (wr (wr (wr (wr G0 c 1 ((G0 c 1) + 1)) c 2 ((((G0 c 2) <<< ((1 : Int32) &&& 31)) ||| (iu a1 31)) &&& (63 : Int32))) c 0 (((G0 c 0) + 1) &&& (15 : Int32))) c 6 ((sp_F_checkOver (wr (wr (wr G0 c 1 ((G0 c 1) + 1)) c 2 ((((G0 c 2) <<< ((1 : Int32) &&& 31)) ||| (iu a1 31)) &&& (63 : Int32))) c 0 (((G0 c 0) + 1) &&& (15 : Int32))) (G0 c 6) a1))) else (sp_O_endHalf c (wr (wr (wr (wr G0 c 1 ((G0 c 1) + 1)) c 2 ((((G0 c 2) <<< ((1 : Int32) &&& 31)) ||| (iu a1 31)) &&& (63 : Int32))) c 0 (((G0 c 0) + 1) &&& (15 : Int32))) c 6 ((sp_F_checkOver (wr (wr (wr G0 c 1 ((G0 c 1) + 1)) c 2 ((((G0 c 2) <<< ((1 : Int32) &&& 31)) ||| (iu a1 31)) &&& (63 : Int32))) c 0 (((G0 c 0) + 1) &&& (15 : Int32))) (G0 c 6) a1))))))) else (if ((sp_F_endsHalf (wr (wr (wr (wr G0 c 1 ((G0 c 1) + 1)) c 2 ((((G0 c 2) <<< ((1 : Int32) &&& 31)) ||| (iu a1 31)) &&& (63 : Int32))) c 0 (((G0 c 0) + 1) &&& (15 : Int32))) c 6 ((sp_F_checkOver (wr (wr (wr G0 c 1 ((G0 c 1) + 1)) c 2 ((((G0 c 2) <<< ((1 : Int32) &&& 31)) ||| (iu a1 31)) &&& (63 : Int32))) c 0 (((G0 c 0) + 1) &&& (15 : Int32))) (G0 c 6) a1))) (((G0 c 0) + 1) &&& (15 : Int32)))) = 0 then (wr (wr (wr (wr G0 c 1 ((G0 c 1) + 1)) c 2 ((((G0 c 2) <<< ((1 : Int32) &&& 31)) ||| (iu a1 31)) &&& (63 : Int32))) c 0 (((G0 c 0) + 1) &&& (15 : Int32))) c 6 ((sp_F_checkOver (wr (wr (wr G0 c 1 ((G0 c 1) + 1)) c 2 ((((G0 c 2) <<< ((1 : Int32) &&& 31)) ||| (iu a1 31)) &&& (63 : Int32))) c 0 (((G0 c 0) + 1) &&& (15 : Int32))) (G0 c 6) a1))) else (sp_O_endHalf c (wr (wr (wr (wr G0 c 1 ((G0 c 1) + 1)) c 2 ((((G0 c 2) <<< ((1 : Int32) &&& 31)) ||| (iu a1 31)) &&& (63 : Int32))) c 0 (((G0 c 0) + 1) &&& (15 : Int32))) c 6 ((sp_F_checkOver (wr (wr (wr G0 c 1 ((G0 c 1) + 1)) c 2 ((((G0 c 2) <<< ((1 : Int32) &&& 31)) ||| (iu a1 31)) &&& (63 : Int32))) c 0 (((G0 c 0) + 1) &&& (15 : Int32))) (G0 c 6) a1)))))))))
set_option maxHeartbeats 4000000 in
set_option maxRecDepth 100000 in
theorem c_O_takeFrame (l : Launch) (P : gP) (G0 : Mem) (c : Nat) (a1 : Int32) (a2 : Int32) (hc : kO c) : gMv l y_O_takeFrame b_O_takeFrame 4 none ({ frames := 2, cells := 0, slots := 0, locals := 41 }) [.ref (gad P c), .int a1, .int a2] P G0 (sp_O_takeFrame c G0 a1 a2) := by
  refine Met.ofW (cc := b_O_takeFrame) (maxL := 4) (ret := none) (by decide) rfl ?_
  intro p e s m args below meth c0 s₁ B hml hv
  obtain ⟨rfl, hpre⟩ := hv
  obtain ⟨E, hH⟩ := gE_of B hml hpre
  replace E : gE p s m _ meth c0 P "FramedLine$Rounds" b_O_takeFrame 4 none := E
  have hcU := hc
  unfold kO at hcU
  have hx := E.1
  have hb := E.2.1
  have hl := lv_entry ([.ref (gad P c), .int a1, .int a2]) (n := 4) (Nat.le_of_ble_eq_true rfl)
  rw [lg_entry_eq]
  generalize (lg_sl ([.ref (gad P c), .int a1, .int a2]) ++ List.replicate (4 - (lg_sl ([.ref (gad P c), .int a1, .int a2])).length) Slot.unset).toArray = ls at hl ⊢
  replace hl : lv_has ls 4 [(0, .ref (gad P c)), (1, .int a1), (2, .int a2)] := hl
  have hsp : sp_O_takeFrame c G0 a1 a2 = sp_O_takeFrame c G0 a1 a2 := rfl
  refine lv_iload_n hx hb d_O_takeFrame_0 rfl (lv_at hl 1 rfl) ?_
  refine lv_bipush (v := 31) hx hb d_O_takeFrame_1 (by decide) ?_
  refine lv_iushr (v := (iu a1 31)) hx hb d_O_takeFrame_3 rfl ?_
  refine lv_istore_n hx hb d_O_takeFrame_4 rfl hl (by decide) rfl (fun ls hl => ?_)
  refine lv_iload_n hx hb d_O_takeFrame_5 rfl (lv_at hl 3 rfl) ?_
  refine lv_if_eq (tgt := 37) hx hb d_O_takeFrame_6 (by decide) (fun h1 => ?_) (fun h1 => ?_)
  · refine lv_aload_n hx hb d_O_takeFrame_37 rfl (lv_at hl 1 rfl) ?_
    refine lv_aload_n hx hb d_O_takeFrame_38 rfl (lv_at hl 1 rfl) ?_
    refine g_geti (v := (G0 c 8)) E hH (gc_O hc) cl_O 8 (by decide) lf_O_37 (fun _ => rfl) rfl d_O_takeFrame_39 ?_
    refine lv_iconst (v := 1) hx hb d_O_takeFrame_42 (by decide) ?_
    refine lv_ishl hx hb d_O_takeFrame_43 ?_
    refine lv_iload_n hx hb d_O_takeFrame_44 rfl (lv_at hl 0 rfl) ?_
    refine lv_ior hx hb d_O_takeFrame_45 ?_
    refine lv_bipush (v := 15) hx hb d_O_takeFrame_46 (by decide) ?_
    refine lv_iand hx hb d_O_takeFrame_48 ?_
    refine g_puti E hH (gc_O hc) cl_O ct_O 8 (by decide) lf_O_37 rfl (by decide +kernel) (fun _ _ => rfl) (Nat.le_of_ble_eq_true rfl) d_O_takeFrame_49 (fun H locs hH => ?_)
    refine lv_aload_n hx hb d_O_takeFrame_52 rfl (lv_at hl 1 rfl) ?_
    refine g_geti (v := (G0 c 0)) E hH (gc_O hc) cl_O 0 (by decide) lf_O_9 (fun _ => rfl) (wr_k _ _ _ _ (by decide)) d_O_takeFrame_53 ?_
    refine lv_iconst (v := (-1)) hx hb d_O_takeFrame_56 (by decide) ?_
    refine lv_icmp_ne (tgt := 66) hx hb d_O_takeFrame_57 (by decide) (fun h2 => ?_) (fun h2 => ?_)
    · refine lv_aload_n hx hb d_O_takeFrame_66 rfl (lv_at hl 1 rfl) ?_
      refine lv_aload_n hx hb d_O_takeFrame_67 rfl (lv_at hl 1 rfl) ?_
      refine g_geti (v := (G0 c 0)) E hH (gc_O hc) cl_O 0 (by decide) lf_O_9 (fun _ => rfl) (wr_k _ _ _ _ (by decide)) d_O_takeFrame_68 ?_
      refine lv_iconst (v := 1) hx hb d_O_takeFrame_71 (by decide) ?_
      refine lv_iadd hx hb d_O_takeFrame_72 ?_
      refine lv_bipush (v := 15) hx hb d_O_takeFrame_73 (by decide) ?_
      refine lv_iand hx hb d_O_takeFrame_75 ?_
      refine g_puti E hH (gc_O hc) cl_O ct_O 0 (by decide) lf_O_9 rfl (by decide +kernel) (fun _ _ => rfl) (Nat.le_of_ble_eq_true rfl) d_O_takeFrame_76 (fun H locs hH => ?_)
      refine lv_aload_n hx hb d_O_takeFrame_79 rfl (lv_at hl 1 rfl) ?_
      refine lv_aload_n hx hb d_O_takeFrame_80 rfl (lv_at hl 1 rfl) ?_
      refine g_geti (v := (G0 c 6)) E hH (gc_O hc) cl_O 6 (by decide) lf_O_31 (fun _ => rfl) ((wr_k _ _ _ _ (by decide)).trans (wr_k _ _ _ _ (by decide))) d_O_takeFrame_81 ?_
      refine lv_iload_n hx hb d_O_takeFrame_84 rfl (lv_at hl 3 rfl) ?_
      refine lv_if_eq (tgt := 92) hx hb d_O_takeFrame_85 (by decide) (fun _ => ?_) (fun h0 => absurd h1 h0)
      refine lv_iload_n hx hb d_O_takeFrame_92 rfl (lv_at hl 2 rfl) ?_
      refine lv_ldc (v := 2147483647) hx hb E.2.2.2.2.1 (E.2.2.2.2.2.1 _ lc_O_59) d_O_takeFrame_93 ?_
      refine lv_iand hx hb d_O_takeFrame_95 ?_
      refine g_callSNri (As := [.int _, .int _]) E hH hl (c_F_checkOver l P _ _ _) lm_O_60 (Nat.le_of_ble_eq_true rfl) (Nat.le_of_ble_eq_true rfl) (Nat.le_of_ble_eq_true rfl) (Nat.le_of_ble_eq_true rfl) (Nat.le_of_ble_eq_true rfl) rfl rfl rfl rfl d_O_takeFrame_96 (fun H locs hH => ?_)
      refine g_puti E hH (gc_O hc) cl_O ct_O 6 (by decide) lf_O_31 rfl (by decide +kernel) (fun _ _ => rfl) (Nat.le_of_ble_eq_true rfl) d_O_takeFrame_99 (fun H locs hH => ?_)
      refine lv_aload_n hx hb d_O_takeFrame_102 rfl (lv_at hl 1 rfl) ?_
      refine g_geti (v := (((G0 c 0) + 1) &&& (15 : Int32))) E hH (gc_O hc) cl_O 0 (by decide) lf_O_9 (fun _ => rfl) ((wr_k _ _ _ _ (by decide)).trans (wr_same _ _ _ _)) d_O_takeFrame_103 ?_
      refine lv_bipush (v := 11) hx hb d_O_takeFrame_106 (by decide) ?_
      refine lv_icmp_ne (tgt := 118) hx hb d_O_takeFrame_108 (by decide) (fun h3 => ?_) (fun h3 => ?_)
      · refine lv_iload_n hx hb d_O_takeFrame_118 rfl (lv_at hl 0 rfl) ?_
        refine lv_if_ne (tgt := 150) hx hb d_O_takeFrame_119 (by decide) (fun h4 => ?_) (fun h4 => ?_)
        · refine lv_aload_n hx hb d_O_takeFrame_150 rfl (lv_at hl 1 rfl) ?_
          refine g_geti (v := (((G0 c 0) + 1) &&& (15 : Int32))) E hH (gc_O hc) cl_O 0 (by decide) lf_O_9 (fun _ => rfl) ((wr_k _ _ _ _ (by decide)).trans (wr_same _ _ _ _)) d_O_takeFrame_151 ?_
          refine g_callSNrz (As := [.int _]) E hH hl (c_F_endsHalf l P _ _) lm_O_67 (Nat.le_of_ble_eq_true rfl) (Nat.le_of_ble_eq_true rfl) (Nat.le_of_ble_eq_true rfl) (Nat.le_of_ble_eq_true rfl) (Nat.le_of_ble_eq_true rfl) rfl rfl rfl rfl d_O_takeFrame_154 (fun H locs hH hz154 => ?_)
          refine lv_if_eq (tgt := 164) hx hb d_O_takeFrame_157 (by decide) (fun h5 => ?_) (fun h5 => ?_)
          · exact g_vret E hH (hsp.trans (by simp only [sp_O_takeFrame, if_pos h1, if_neg h2, if_neg h3, if_neg h4, if_pos h5])) d_O_takeFrame_164
          · refine lv_aload_n hx hb d_O_takeFrame_160 rfl (lv_at hl 1 rfl) ?_
            refine g_callVv (As := []) E hH hl (c_O_endHalf l P _ c hc) lm_O_71 (gc_O hc) cl_O (Nat.le_of_ble_eq_true rfl) (Nat.le_of_ble_eq_true rfl) (Nat.le_of_ble_eq_true rfl) (Nat.le_of_ble_eq_true rfl) (Nat.le_of_ble_eq_true rfl) rfl rfl rfl rfl d_O_takeFrame_161 (fun H locs hH => ?_)
            exact g_vret E hH (hsp.trans (by simp only [sp_O_takeFrame, if_pos h1, if_neg h2, if_neg h3, if_neg h4, if_neg h5])) d_O_takeFrame_164
        · refine lv_aload_n hx hb d_O_takeFrame_122 rfl (lv_at hl 1 rfl) ?_
          refine g_geti (v := (((G0 c 0) + 1) &&& (15 : Int32))) E hH (gc_O hc) cl_O 0 (by decide) lf_O_9 (fun _ => rfl) ((wr_k _ _ _ _ (by decide)).trans (wr_same _ _ _ _)) d_O_takeFrame_123 ?_
          refine lv_bipush (v := 13) hx hb d_O_takeFrame_126 (by decide) ?_
          refine lv_icmp_eq (tgt := 140) hx hb d_O_takeFrame_128 (by decide) (fun h6 => ?_) (fun h6 => ?_)
          · refine lv_aload_n hx hb d_O_takeFrame_140 rfl (lv_at hl 1 rfl) ?_
            refine lv_dup hx hb d_O_takeFrame_141 rfl ?_
            refine g_geti (v := (G0 c 12)) E hH (gc_O hc) cl_O 12 (by decide) lf_O_49 (fun _ => rfl) ((wr_k _ _ _ _ (by decide)).trans ((wr_k _ _ _ _ (by decide)).trans (wr_k _ _ _ _ (by decide)))) d_O_takeFrame_142 ?_
            refine lv_iconst (v := 1) hx hb d_O_takeFrame_145 (by decide) ?_
            refine lv_iadd hx hb d_O_takeFrame_146 ?_
            refine g_puti E hH (gc_O hc) cl_O ct_O 12 (by decide) lf_O_49 rfl (by decide +kernel) (fun _ _ => rfl) (Nat.le_of_ble_eq_true rfl) d_O_takeFrame_147 (fun H locs hH => ?_)
            refine lv_aload_n hx hb d_O_takeFrame_150 rfl (lv_at hl 1 rfl) ?_
            refine g_geti (v := (((G0 c 0) + 1) &&& (15 : Int32))) E hH (gc_O hc) cl_O 0 (by decide) lf_O_9 (fun _ => rfl) ((wr_k _ _ _ _ (by decide)).trans ((wr_k _ _ _ _ (by decide)).trans (wr_same _ _ _ _))) d_O_takeFrame_151 ?_
            refine g_callSNrz (As := [.int _]) E hH hl (c_F_endsHalf l P _ _) lm_O_67 (Nat.le_of_ble_eq_true rfl) (Nat.le_of_ble_eq_true rfl) (Nat.le_of_ble_eq_true rfl) (Nat.le_of_ble_eq_true rfl) (Nat.le_of_ble_eq_true rfl) rfl rfl rfl rfl d_O_takeFrame_154 (fun H locs hH hz154 => ?_)
            refine lv_if_eq (tgt := 164) hx hb d_O_takeFrame_157 (by decide) (fun h7 => ?_) (fun h7 => ?_)
            · exact g_vret E hH (hsp.trans (by simp only [sp_O_takeFrame, if_pos h1, if_neg h2, if_neg h3, if_pos h4, if_pos h6, if_pos h7])) d_O_takeFrame_164
            · refine lv_aload_n hx hb d_O_takeFrame_160 rfl (lv_at hl 1 rfl) ?_
              refine g_callVv (As := []) E hH hl (c_O_endHalf l P _ c hc) lm_O_71 (gc_O hc) cl_O (Nat.le_of_ble_eq_true rfl) (Nat.le_of_ble_eq_true rfl) (Nat.le_of_ble_eq_true rfl) (Nat.le_of_ble_eq_true rfl) (Nat.le_of_ble_eq_true rfl) rfl rfl rfl rfl d_O_takeFrame_161 (fun H locs hH => ?_)
              exact g_vret E hH (hsp.trans (by simp only [sp_O_takeFrame, if_pos h1, if_neg h2, if_neg h3, if_pos h4, if_pos h6, if_neg h7])) d_O_takeFrame_164
          · refine lv_aload_n hx hb d_O_takeFrame_131 rfl (lv_at hl 1 rfl) ?_
            refine g_geti (v := (((G0 c 0) + 1) &&& (15 : Int32))) E hH (gc_O hc) cl_O 0 (by decide) lf_O_9 (fun _ => rfl) ((wr_k _ _ _ _ (by decide)).trans (wr_same _ _ _ _)) d_O_takeFrame_132 ?_
            refine lv_bipush (v := 15) hx hb d_O_takeFrame_135 (by decide) ?_
            refine lv_icmp_ne (tgt := 150) hx hb d_O_takeFrame_137 (by decide) (fun h8 => ?_) (fun h8 => ?_)
            · refine lv_aload_n hx hb d_O_takeFrame_150 rfl (lv_at hl 1 rfl) ?_
              refine g_geti (v := (((G0 c 0) + 1) &&& (15 : Int32))) E hH (gc_O hc) cl_O 0 (by decide) lf_O_9 (fun _ => rfl) ((wr_k _ _ _ _ (by decide)).trans (wr_same _ _ _ _)) d_O_takeFrame_151 ?_
              refine g_callSNrz (As := [.int _]) E hH hl (c_F_endsHalf l P _ _) lm_O_67 (Nat.le_of_ble_eq_true rfl) (Nat.le_of_ble_eq_true rfl) (Nat.le_of_ble_eq_true rfl) (Nat.le_of_ble_eq_true rfl) (Nat.le_of_ble_eq_true rfl) rfl rfl rfl rfl d_O_takeFrame_154 (fun H locs hH hz154 => ?_)
              refine lv_if_eq (tgt := 164) hx hb d_O_takeFrame_157 (by decide) (fun h9 => ?_) (fun h9 => ?_)
              · exact g_vret E hH (hsp.trans (by simp only [sp_O_takeFrame, if_pos h1, if_neg h2, if_neg h3, if_pos h4, if_neg h6, if_neg h8, if_pos h9])) d_O_takeFrame_164
              · refine lv_aload_n hx hb d_O_takeFrame_160 rfl (lv_at hl 1 rfl) ?_
                refine g_callVv (As := []) E hH hl (c_O_endHalf l P _ c hc) lm_O_71 (gc_O hc) cl_O (Nat.le_of_ble_eq_true rfl) (Nat.le_of_ble_eq_true rfl) (Nat.le_of_ble_eq_true rfl) (Nat.le_of_ble_eq_true rfl) (Nat.le_of_ble_eq_true rfl) rfl rfl rfl rfl d_O_takeFrame_161 (fun H locs hH => ?_)
                exact g_vret E hH (hsp.trans (by simp only [sp_O_takeFrame, if_pos h1, if_neg h2, if_neg h3, if_pos h4, if_neg h6, if_neg h8, if_neg h9])) d_O_takeFrame_164
            · refine lv_aload_n hx hb d_O_takeFrame_140 rfl (lv_at hl 1 rfl) ?_
              refine lv_dup hx hb d_O_takeFrame_141 rfl ?_
              refine g_geti (v := (G0 c 12)) E hH (gc_O hc) cl_O 12 (by decide) lf_O_49 (fun _ => rfl) ((wr_k _ _ _ _ (by decide)).trans ((wr_k _ _ _ _ (by decide)).trans (wr_k _ _ _ _ (by decide)))) d_O_takeFrame_142 ?_
              refine lv_iconst (v := 1) hx hb d_O_takeFrame_145 (by decide) ?_
              refine lv_iadd hx hb d_O_takeFrame_146 ?_
              refine g_puti E hH (gc_O hc) cl_O ct_O 12 (by decide) lf_O_49 rfl (by decide +kernel) (fun _ _ => rfl) (Nat.le_of_ble_eq_true rfl) d_O_takeFrame_147 (fun H locs hH => ?_)
              refine lv_aload_n hx hb d_O_takeFrame_150 rfl (lv_at hl 1 rfl) ?_
              refine g_geti (v := (((G0 c 0) + 1) &&& (15 : Int32))) E hH (gc_O hc) cl_O 0 (by decide) lf_O_9 (fun _ => rfl) ((wr_k _ _ _ _ (by decide)).trans ((wr_k _ _ _ _ (by decide)).trans (wr_same _ _ _ _))) d_O_takeFrame_151 ?_
              refine g_callSNrz (As := [.int _]) E hH hl (c_F_endsHalf l P _ _) lm_O_67 (Nat.le_of_ble_eq_true rfl) (Nat.le_of_ble_eq_true rfl) (Nat.le_of_ble_eq_true rfl) (Nat.le_of_ble_eq_true rfl) (Nat.le_of_ble_eq_true rfl) rfl rfl rfl rfl d_O_takeFrame_154 (fun H locs hH hz154 => ?_)
              refine lv_if_eq (tgt := 164) hx hb d_O_takeFrame_157 (by decide) (fun h10 => ?_) (fun h10 => ?_)
              · exact g_vret E hH (hsp.trans (by simp only [sp_O_takeFrame, if_pos h1, if_neg h2, if_neg h3, if_pos h4, if_neg h6, if_pos h8, if_pos h10])) d_O_takeFrame_164
              · refine lv_aload_n hx hb d_O_takeFrame_160 rfl (lv_at hl 1 rfl) ?_
                refine g_callVv (As := []) E hH hl (c_O_endHalf l P _ c hc) lm_O_71 (gc_O hc) cl_O (Nat.le_of_ble_eq_true rfl) (Nat.le_of_ble_eq_true rfl) (Nat.le_of_ble_eq_true rfl) (Nat.le_of_ble_eq_true rfl) (Nat.le_of_ble_eq_true rfl) rfl rfl rfl rfl d_O_takeFrame_161 (fun H locs hH => ?_)
                exact g_vret E hH (hsp.trans (by simp only [sp_O_takeFrame, if_pos h1, if_neg h2, if_neg h3, if_pos h4, if_neg h6, if_pos h8, if_neg h10])) d_O_takeFrame_164
      · refine lv_aload_n hx hb d_O_takeFrame_111 rfl (lv_at hl 1 rfl) ?_
        refine g_callVv (As := []) E hH hl (c_O_judgeRoundWord l P _ c hc) lm_O_64 (gc_O hc) cl_O (Nat.le_of_ble_eq_true rfl) (Nat.le_of_ble_eq_true rfl) (Nat.le_of_ble_eq_true rfl) (Nat.le_of_ble_eq_true rfl) (Nat.le_of_ble_eq_true rfl) rfl rfl rfl rfl d_O_takeFrame_112 (fun H locs hH => ?_)
        refine lv_goto (tgt := 150) hx hb d_O_takeFrame_115 (by decide) ?_
        refine lv_aload_n hx hb d_O_takeFrame_150 rfl (lv_at hl 1 rfl) ?_
        refine g_geti (v := ((sp_O_judgeRoundWord c (wr (wr (wr G0 c 8 ((((G0 c 8) <<< ((1 : Int32) &&& 31)) ||| (iu a1 31)) &&& (15 : Int32))) c 0 (((G0 c 0) + 1) &&& (15 : Int32))) c 6 ((sp_F_checkOver (wr (wr G0 c 8 ((((G0 c 8) <<< ((1 : Int32) &&& 31)) ||| (iu a1 31)) &&& (15 : Int32))) c 0 (((G0 c 0) + 1) &&& (15 : Int32))) (G0 c 6) (a1 &&& (2147483647 : Int32)))))) c 0)) E hH (gc_O hc) cl_O 0 (by decide) lf_O_9 (fun _ => rfl) rfl d_O_takeFrame_151 ?_
        refine g_callSNrz (As := [.int _]) E hH hl (c_F_endsHalf l P _ _) lm_O_67 (Nat.le_of_ble_eq_true rfl) (Nat.le_of_ble_eq_true rfl) (Nat.le_of_ble_eq_true rfl) (Nat.le_of_ble_eq_true rfl) (Nat.le_of_ble_eq_true rfl) rfl rfl rfl rfl d_O_takeFrame_154 (fun H locs hH hz154 => ?_)
        refine lv_if_eq (tgt := 164) hx hb d_O_takeFrame_157 (by decide) (fun h11 => ?_) (fun h11 => ?_)
        · exact g_vret E hH (hsp.trans (by simp only [sp_O_takeFrame, if_pos h1, if_neg h2, if_pos h3, if_pos h11])) d_O_takeFrame_164
        · refine lv_aload_n hx hb d_O_takeFrame_160 rfl (lv_at hl 1 rfl) ?_
          refine g_callVv (As := []) E hH hl (c_O_endHalf l P _ c hc) lm_O_71 (gc_O hc) cl_O (Nat.le_of_ble_eq_true rfl) (Nat.le_of_ble_eq_true rfl) (Nat.le_of_ble_eq_true rfl) (Nat.le_of_ble_eq_true rfl) (Nat.le_of_ble_eq_true rfl) rfl rfl rfl rfl d_O_takeFrame_161 (fun H locs hH => ?_)
          exact g_vret E hH (hsp.trans (by simp only [sp_O_takeFrame, if_pos h1, if_neg h2, if_pos h3, if_neg h11])) d_O_takeFrame_164
    · refine lv_aload_n hx hb d_O_takeFrame_60 rfl (lv_at hl 1 rfl) ?_
      refine lv_iload_n hx hb d_O_takeFrame_61 rfl (lv_at hl 3 rfl) ?_
      refine g_callVv (As := [.int _]) E hH hl (c_O_findNumber l P _ c _ hc) lm_O_55 (gc_O hc) cl_O (Nat.le_of_ble_eq_true rfl) (Nat.le_of_ble_eq_true rfl) (Nat.le_of_ble_eq_true rfl) (Nat.le_of_ble_eq_true rfl) (Nat.le_of_ble_eq_true rfl) rfl rfl rfl rfl d_O_takeFrame_62 (fun H locs hH => ?_)
      exact g_vret E hH (hsp.trans (by simp only [sp_O_takeFrame, if_pos h1, if_pos h2])) d_O_takeFrame_65
  · refine lv_aload_n hx hb d_O_takeFrame_9 rfl (lv_at hl 1 rfl) ?_
    refine lv_dup hx hb d_O_takeFrame_10 rfl ?_
    refine g_geti (v := (G0 c 1)) E hH (gc_O hc) cl_O 1 (by decide) lf_O_15 (fun _ => rfl) rfl d_O_takeFrame_11 ?_
    refine lv_iconst (v := 1) hx hb d_O_takeFrame_14 (by decide) ?_
    refine lv_iadd hx hb d_O_takeFrame_15 ?_
    refine g_puti E hH (gc_O hc) cl_O ct_O 1 (by decide) lf_O_15 rfl (by decide +kernel) (fun _ _ => rfl) (Nat.le_of_ble_eq_true rfl) d_O_takeFrame_16 (fun H locs hH => ?_)
    refine lv_aload_n hx hb d_O_takeFrame_19 rfl (lv_at hl 1 rfl) ?_
    refine lv_aload_n hx hb d_O_takeFrame_20 rfl (lv_at hl 1 rfl) ?_
    refine g_geti (v := (G0 c 2)) E hH (gc_O hc) cl_O 2 (by decide) lf_O_18 (fun _ => rfl) (wr_k _ _ _ _ (by decide)) d_O_takeFrame_21 ?_
    refine lv_iconst (v := 1) hx hb d_O_takeFrame_24 (by decide) ?_
    refine lv_ishl hx hb d_O_takeFrame_25 ?_
    refine lv_iload_n hx hb d_O_takeFrame_26 rfl (lv_at hl 0 rfl) ?_
    refine lv_ior hx hb d_O_takeFrame_27 ?_
    refine lv_bipush (v := 63) hx hb d_O_takeFrame_28 (by decide) ?_
    refine lv_iand hx hb d_O_takeFrame_30 ?_
    refine g_puti E hH (gc_O hc) cl_O ct_O 2 (by decide) lf_O_18 rfl (by decide +kernel) (fun _ _ => rfl) (Nat.le_of_ble_eq_true rfl) d_O_takeFrame_31 (fun H locs hH => ?_)
    refine lv_goto (tgt := 52) hx hb d_O_takeFrame_34 (by decide) ?_
    refine lv_aload_n hx hb d_O_takeFrame_52 rfl (lv_at hl 1 rfl) ?_
    refine g_geti (v := (G0 c 0)) E hH (gc_O hc) cl_O 0 (by decide) lf_O_9 (fun _ => rfl) ((wr_k _ _ _ _ (by decide)).trans (wr_k _ _ _ _ (by decide))) d_O_takeFrame_53 ?_
    refine lv_iconst (v := (-1)) hx hb d_O_takeFrame_56 (by decide) ?_
    refine lv_icmp_ne (tgt := 66) hx hb d_O_takeFrame_57 (by decide) (fun h12 => ?_) (fun h12 => ?_)
    · refine lv_aload_n hx hb d_O_takeFrame_66 rfl (lv_at hl 1 rfl) ?_
      refine lv_aload_n hx hb d_O_takeFrame_67 rfl (lv_at hl 1 rfl) ?_
      refine g_geti (v := (G0 c 0)) E hH (gc_O hc) cl_O 0 (by decide) lf_O_9 (fun _ => rfl) ((wr_k _ _ _ _ (by decide)).trans (wr_k _ _ _ _ (by decide))) d_O_takeFrame_68 ?_
      refine lv_iconst (v := 1) hx hb d_O_takeFrame_71 (by decide) ?_
      refine lv_iadd hx hb d_O_takeFrame_72 ?_
      refine lv_bipush (v := 15) hx hb d_O_takeFrame_73 (by decide) ?_
      refine lv_iand hx hb d_O_takeFrame_75 ?_
      refine g_puti E hH (gc_O hc) cl_O ct_O 0 (by decide) lf_O_9 rfl (by decide +kernel) (fun _ _ => rfl) (Nat.le_of_ble_eq_true rfl) d_O_takeFrame_76 (fun H locs hH => ?_)
      refine lv_aload_n hx hb d_O_takeFrame_79 rfl (lv_at hl 1 rfl) ?_
      refine lv_aload_n hx hb d_O_takeFrame_80 rfl (lv_at hl 1 rfl) ?_
      refine g_geti (v := (G0 c 6)) E hH (gc_O hc) cl_O 6 (by decide) lf_O_31 (fun _ => rfl) ((wr_k _ _ _ _ (by decide)).trans ((wr_k _ _ _ _ (by decide)).trans (wr_k _ _ _ _ (by decide)))) d_O_takeFrame_81 ?_
      refine lv_iload_n hx hb d_O_takeFrame_84 rfl (lv_at hl 3 rfl) ?_
      refine lv_if_eq (tgt := 92) hx hb d_O_takeFrame_85 (by decide) (fun h0 => absurd h0 h1) (fun _ => ?_)
      refine lv_iload_n hx hb d_O_takeFrame_88 rfl (lv_at hl 2 rfl) ?_
      refine lv_goto (tgt := 96) hx hb d_O_takeFrame_89 (by decide) ?_
      refine g_callSNri (As := [.int _, .int _]) E hH hl (c_F_checkOver l P _ _ _) lm_O_60 (Nat.le_of_ble_eq_true rfl) (Nat.le_of_ble_eq_true rfl) (Nat.le_of_ble_eq_true rfl) (Nat.le_of_ble_eq_true rfl) (Nat.le_of_ble_eq_true rfl) rfl rfl rfl rfl d_O_takeFrame_96 (fun H locs hH => ?_)
      refine g_puti E hH (gc_O hc) cl_O ct_O 6 (by decide) lf_O_31 rfl (by decide +kernel) (fun _ _ => rfl) (Nat.le_of_ble_eq_true rfl) d_O_takeFrame_99 (fun H locs hH => ?_)
      refine lv_aload_n hx hb d_O_takeFrame_102 rfl (lv_at hl 1 rfl) ?_
      refine g_geti (v := (((G0 c 0) + 1) &&& (15 : Int32))) E hH (gc_O hc) cl_O 0 (by decide) lf_O_9 (fun _ => rfl) ((wr_k _ _ _ _ (by decide)).trans (wr_same _ _ _ _)) d_O_takeFrame_103 ?_
      refine lv_bipush (v := 11) hx hb d_O_takeFrame_106 (by decide) ?_
      refine lv_icmp_ne (tgt := 118) hx hb d_O_takeFrame_108 (by decide) (fun h13 => ?_) (fun h13 => ?_)
      · refine lv_iload_n hx hb d_O_takeFrame_118 rfl (lv_at hl 0 rfl) ?_
        refine lv_if_ne (tgt := 150) hx hb d_O_takeFrame_119 (by decide) (fun h14 => ?_) (fun h14 => ?_)
        · refine lv_aload_n hx hb d_O_takeFrame_150 rfl (lv_at hl 1 rfl) ?_
          refine g_geti (v := (((G0 c 0) + 1) &&& (15 : Int32))) E hH (gc_O hc) cl_O 0 (by decide) lf_O_9 (fun _ => rfl) ((wr_k _ _ _ _ (by decide)).trans (wr_same _ _ _ _)) d_O_takeFrame_151 ?_
          refine g_callSNrz (As := [.int _]) E hH hl (c_F_endsHalf l P _ _) lm_O_67 (Nat.le_of_ble_eq_true rfl) (Nat.le_of_ble_eq_true rfl) (Nat.le_of_ble_eq_true rfl) (Nat.le_of_ble_eq_true rfl) (Nat.le_of_ble_eq_true rfl) rfl rfl rfl rfl d_O_takeFrame_154 (fun H locs hH hz154 => ?_)
          refine lv_if_eq (tgt := 164) hx hb d_O_takeFrame_157 (by decide) (fun h15 => ?_) (fun h15 => ?_)
          · exact g_vret E hH (hsp.trans (by simp only [sp_O_takeFrame, if_neg h1, if_neg h12, if_neg h13, if_neg h14, if_pos h15])) d_O_takeFrame_164
          · refine lv_aload_n hx hb d_O_takeFrame_160 rfl (lv_at hl 1 rfl) ?_
            refine g_callVv (As := []) E hH hl (c_O_endHalf l P _ c hc) lm_O_71 (gc_O hc) cl_O (Nat.le_of_ble_eq_true rfl) (Nat.le_of_ble_eq_true rfl) (Nat.le_of_ble_eq_true rfl) (Nat.le_of_ble_eq_true rfl) (Nat.le_of_ble_eq_true rfl) rfl rfl rfl rfl d_O_takeFrame_161 (fun H locs hH => ?_)
            exact g_vret E hH (hsp.trans (by simp only [sp_O_takeFrame, if_neg h1, if_neg h12, if_neg h13, if_neg h14, if_neg h15])) d_O_takeFrame_164
        · refine lv_aload_n hx hb d_O_takeFrame_122 rfl (lv_at hl 1 rfl) ?_
          refine g_geti (v := (((G0 c 0) + 1) &&& (15 : Int32))) E hH (gc_O hc) cl_O 0 (by decide) lf_O_9 (fun _ => rfl) ((wr_k _ _ _ _ (by decide)).trans (wr_same _ _ _ _)) d_O_takeFrame_123 ?_
          refine lv_bipush (v := 13) hx hb d_O_takeFrame_126 (by decide) ?_
          refine lv_icmp_eq (tgt := 140) hx hb d_O_takeFrame_128 (by decide) (fun h16 => ?_) (fun h16 => ?_)
          · refine lv_aload_n hx hb d_O_takeFrame_140 rfl (lv_at hl 1 rfl) ?_
            refine lv_dup hx hb d_O_takeFrame_141 rfl ?_
            refine g_geti (v := (G0 c 12)) E hH (gc_O hc) cl_O 12 (by decide) lf_O_49 (fun _ => rfl) ((wr_k _ _ _ _ (by decide)).trans ((wr_k _ _ _ _ (by decide)).trans ((wr_k _ _ _ _ (by decide)).trans (wr_k _ _ _ _ (by decide))))) d_O_takeFrame_142 ?_
            refine lv_iconst (v := 1) hx hb d_O_takeFrame_145 (by decide) ?_
            refine lv_iadd hx hb d_O_takeFrame_146 ?_
            refine g_puti E hH (gc_O hc) cl_O ct_O 12 (by decide) lf_O_49 rfl (by decide +kernel) (fun _ _ => rfl) (Nat.le_of_ble_eq_true rfl) d_O_takeFrame_147 (fun H locs hH => ?_)
            refine lv_aload_n hx hb d_O_takeFrame_150 rfl (lv_at hl 1 rfl) ?_
            refine g_geti (v := (((G0 c 0) + 1) &&& (15 : Int32))) E hH (gc_O hc) cl_O 0 (by decide) lf_O_9 (fun _ => rfl) ((wr_k _ _ _ _ (by decide)).trans ((wr_k _ _ _ _ (by decide)).trans (wr_same _ _ _ _))) d_O_takeFrame_151 ?_
            refine g_callSNrz (As := [.int _]) E hH hl (c_F_endsHalf l P _ _) lm_O_67 (Nat.le_of_ble_eq_true rfl) (Nat.le_of_ble_eq_true rfl) (Nat.le_of_ble_eq_true rfl) (Nat.le_of_ble_eq_true rfl) (Nat.le_of_ble_eq_true rfl) rfl rfl rfl rfl d_O_takeFrame_154 (fun H locs hH hz154 => ?_)
            refine lv_if_eq (tgt := 164) hx hb d_O_takeFrame_157 (by decide) (fun h17 => ?_) (fun h17 => ?_)
            · exact g_vret E hH (hsp.trans (by simp only [sp_O_takeFrame, if_neg h1, if_neg h12, if_neg h13, if_pos h14, if_pos h16, if_pos h17])) d_O_takeFrame_164
            · refine lv_aload_n hx hb d_O_takeFrame_160 rfl (lv_at hl 1 rfl) ?_
              refine g_callVv (As := []) E hH hl (c_O_endHalf l P _ c hc) lm_O_71 (gc_O hc) cl_O (Nat.le_of_ble_eq_true rfl) (Nat.le_of_ble_eq_true rfl) (Nat.le_of_ble_eq_true rfl) (Nat.le_of_ble_eq_true rfl) (Nat.le_of_ble_eq_true rfl) rfl rfl rfl rfl d_O_takeFrame_161 (fun H locs hH => ?_)
              exact g_vret E hH (hsp.trans (by simp only [sp_O_takeFrame, if_neg h1, if_neg h12, if_neg h13, if_pos h14, if_pos h16, if_neg h17])) d_O_takeFrame_164
          · refine lv_aload_n hx hb d_O_takeFrame_131 rfl (lv_at hl 1 rfl) ?_
            refine g_geti (v := (((G0 c 0) + 1) &&& (15 : Int32))) E hH (gc_O hc) cl_O 0 (by decide) lf_O_9 (fun _ => rfl) ((wr_k _ _ _ _ (by decide)).trans (wr_same _ _ _ _)) d_O_takeFrame_132 ?_
            refine lv_bipush (v := 15) hx hb d_O_takeFrame_135 (by decide) ?_
            refine lv_icmp_ne (tgt := 150) hx hb d_O_takeFrame_137 (by decide) (fun h18 => ?_) (fun h18 => ?_)
            · refine lv_aload_n hx hb d_O_takeFrame_150 rfl (lv_at hl 1 rfl) ?_
              refine g_geti (v := (((G0 c 0) + 1) &&& (15 : Int32))) E hH (gc_O hc) cl_O 0 (by decide) lf_O_9 (fun _ => rfl) ((wr_k _ _ _ _ (by decide)).trans (wr_same _ _ _ _)) d_O_takeFrame_151 ?_
              refine g_callSNrz (As := [.int _]) E hH hl (c_F_endsHalf l P _ _) lm_O_67 (Nat.le_of_ble_eq_true rfl) (Nat.le_of_ble_eq_true rfl) (Nat.le_of_ble_eq_true rfl) (Nat.le_of_ble_eq_true rfl) (Nat.le_of_ble_eq_true rfl) rfl rfl rfl rfl d_O_takeFrame_154 (fun H locs hH hz154 => ?_)
              refine lv_if_eq (tgt := 164) hx hb d_O_takeFrame_157 (by decide) (fun h19 => ?_) (fun h19 => ?_)
              · exact g_vret E hH (hsp.trans (by simp only [sp_O_takeFrame, if_neg h1, if_neg h12, if_neg h13, if_pos h14, if_neg h16, if_neg h18, if_pos h19])) d_O_takeFrame_164
              · refine lv_aload_n hx hb d_O_takeFrame_160 rfl (lv_at hl 1 rfl) ?_
                refine g_callVv (As := []) E hH hl (c_O_endHalf l P _ c hc) lm_O_71 (gc_O hc) cl_O (Nat.le_of_ble_eq_true rfl) (Nat.le_of_ble_eq_true rfl) (Nat.le_of_ble_eq_true rfl) (Nat.le_of_ble_eq_true rfl) (Nat.le_of_ble_eq_true rfl) rfl rfl rfl rfl d_O_takeFrame_161 (fun H locs hH => ?_)
                exact g_vret E hH (hsp.trans (by simp only [sp_O_takeFrame, if_neg h1, if_neg h12, if_neg h13, if_pos h14, if_neg h16, if_neg h18, if_neg h19])) d_O_takeFrame_164
            · refine lv_aload_n hx hb d_O_takeFrame_140 rfl (lv_at hl 1 rfl) ?_
              refine lv_dup hx hb d_O_takeFrame_141 rfl ?_
              refine g_geti (v := (G0 c 12)) E hH (gc_O hc) cl_O 12 (by decide) lf_O_49 (fun _ => rfl) ((wr_k _ _ _ _ (by decide)).trans ((wr_k _ _ _ _ (by decide)).trans ((wr_k _ _ _ _ (by decide)).trans (wr_k _ _ _ _ (by decide))))) d_O_takeFrame_142 ?_
              refine lv_iconst (v := 1) hx hb d_O_takeFrame_145 (by decide) ?_
              refine lv_iadd hx hb d_O_takeFrame_146 ?_
              refine g_puti E hH (gc_O hc) cl_O ct_O 12 (by decide) lf_O_49 rfl (by decide +kernel) (fun _ _ => rfl) (Nat.le_of_ble_eq_true rfl) d_O_takeFrame_147 (fun H locs hH => ?_)
              refine lv_aload_n hx hb d_O_takeFrame_150 rfl (lv_at hl 1 rfl) ?_
              refine g_geti (v := (((G0 c 0) + 1) &&& (15 : Int32))) E hH (gc_O hc) cl_O 0 (by decide) lf_O_9 (fun _ => rfl) ((wr_k _ _ _ _ (by decide)).trans ((wr_k _ _ _ _ (by decide)).trans (wr_same _ _ _ _))) d_O_takeFrame_151 ?_
              refine g_callSNrz (As := [.int _]) E hH hl (c_F_endsHalf l P _ _) lm_O_67 (Nat.le_of_ble_eq_true rfl) (Nat.le_of_ble_eq_true rfl) (Nat.le_of_ble_eq_true rfl) (Nat.le_of_ble_eq_true rfl) (Nat.le_of_ble_eq_true rfl) rfl rfl rfl rfl d_O_takeFrame_154 (fun H locs hH hz154 => ?_)
              refine lv_if_eq (tgt := 164) hx hb d_O_takeFrame_157 (by decide) (fun h20 => ?_) (fun h20 => ?_)
              · exact g_vret E hH (hsp.trans (by simp only [sp_O_takeFrame, if_neg h1, if_neg h12, if_neg h13, if_pos h14, if_neg h16, if_pos h18, if_pos h20])) d_O_takeFrame_164
              · refine lv_aload_n hx hb d_O_takeFrame_160 rfl (lv_at hl 1 rfl) ?_
                refine g_callVv (As := []) E hH hl (c_O_endHalf l P _ c hc) lm_O_71 (gc_O hc) cl_O (Nat.le_of_ble_eq_true rfl) (Nat.le_of_ble_eq_true rfl) (Nat.le_of_ble_eq_true rfl) (Nat.le_of_ble_eq_true rfl) (Nat.le_of_ble_eq_true rfl) rfl rfl rfl rfl d_O_takeFrame_161 (fun H locs hH => ?_)
                exact g_vret E hH (hsp.trans (by simp only [sp_O_takeFrame, if_neg h1, if_neg h12, if_neg h13, if_pos h14, if_neg h16, if_pos h18, if_neg h20])) d_O_takeFrame_164
      · refine lv_aload_n hx hb d_O_takeFrame_111 rfl (lv_at hl 1 rfl) ?_
        refine g_callVv (As := []) E hH hl (c_O_judgeRoundWord l P _ c hc) lm_O_64 (gc_O hc) cl_O (Nat.le_of_ble_eq_true rfl) (Nat.le_of_ble_eq_true rfl) (Nat.le_of_ble_eq_true rfl) (Nat.le_of_ble_eq_true rfl) (Nat.le_of_ble_eq_true rfl) rfl rfl rfl rfl d_O_takeFrame_112 (fun H locs hH => ?_)
        refine lv_goto (tgt := 150) hx hb d_O_takeFrame_115 (by decide) ?_
        refine lv_aload_n hx hb d_O_takeFrame_150 rfl (lv_at hl 1 rfl) ?_
        refine g_geti (v := ((sp_O_judgeRoundWord c (wr (wr (wr (wr G0 c 1 ((G0 c 1) + 1)) c 2 ((((G0 c 2) <<< ((1 : Int32) &&& 31)) ||| (iu a1 31)) &&& (63 : Int32))) c 0 (((G0 c 0) + 1) &&& (15 : Int32))) c 6 ((sp_F_checkOver (wr (wr (wr G0 c 1 ((G0 c 1) + 1)) c 2 ((((G0 c 2) <<< ((1 : Int32) &&& 31)) ||| (iu a1 31)) &&& (63 : Int32))) c 0 (((G0 c 0) + 1) &&& (15 : Int32))) (G0 c 6) a1)))) c 0)) E hH (gc_O hc) cl_O 0 (by decide) lf_O_9 (fun _ => rfl) rfl d_O_takeFrame_151 ?_
        refine g_callSNrz (As := [.int _]) E hH hl (c_F_endsHalf l P _ _) lm_O_67 (Nat.le_of_ble_eq_true rfl) (Nat.le_of_ble_eq_true rfl) (Nat.le_of_ble_eq_true rfl) (Nat.le_of_ble_eq_true rfl) (Nat.le_of_ble_eq_true rfl) rfl rfl rfl rfl d_O_takeFrame_154 (fun H locs hH hz154 => ?_)
        refine lv_if_eq (tgt := 164) hx hb d_O_takeFrame_157 (by decide) (fun h21 => ?_) (fun h21 => ?_)
        · exact g_vret E hH (hsp.trans (by simp only [sp_O_takeFrame, if_neg h1, if_neg h12, if_pos h13, if_pos h21])) d_O_takeFrame_164
        · refine lv_aload_n hx hb d_O_takeFrame_160 rfl (lv_at hl 1 rfl) ?_
          refine g_callVv (As := []) E hH hl (c_O_endHalf l P _ c hc) lm_O_71 (gc_O hc) cl_O (Nat.le_of_ble_eq_true rfl) (Nat.le_of_ble_eq_true rfl) (Nat.le_of_ble_eq_true rfl) (Nat.le_of_ble_eq_true rfl) (Nat.le_of_ble_eq_true rfl) rfl rfl rfl rfl d_O_takeFrame_161 (fun H locs hH => ?_)
          exact g_vret E hH (hsp.trans (by simp only [sp_O_takeFrame, if_neg h1, if_neg h12, if_pos h13, if_neg h21])) d_O_takeFrame_164
    · refine lv_aload_n hx hb d_O_takeFrame_60 rfl (lv_at hl 1 rfl) ?_
      refine lv_iload_n hx hb d_O_takeFrame_61 rfl (lv_at hl 3 rfl) ?_
      refine g_callVv (As := [.int _]) E hH hl (c_O_findNumber l P _ c _ hc) lm_O_55 (gc_O hc) cl_O (Nat.le_of_ble_eq_true rfl) (Nat.le_of_ble_eq_true rfl) (Nat.le_of_ble_eq_true rfl) (Nat.le_of_ble_eq_true rfl) (Nat.le_of_ble_eq_true rfl) rfl rfl rfl rfl d_O_takeFrame_62 (fun H locs hH => ?_)
      exact g_vret E hH (hsp.trans (by simp only [sp_O_takeFrame, if_neg h1, if_pos h12])) d_O_takeFrame_65
