def sp_A_change (c : Nat) (G0 : Mem) (a1 : Int32) (a2 : Int32) : Int32 × Mem :=
  (if ((sp_A_placeOf c G0 a1)) < 8 then (if ((sp_A_placeOf c G0 a1)) = (G0 c 2) then ((1 : Int32), (wr (wr (wr G0 c 2 ((G0 c 2) + 1)) (c + 1) (tn ((sp_A_placeOf c G0 a1))) a1) (c + 2) (tn ((sp_A_placeOf c G0 a1))) a2)) else ((1 : Int32), (wr (wr G0 (c + 1) (tn ((sp_A_placeOf c G0 a1))) a1) (c + 2) (tn ((sp_A_placeOf c G0 a1))) a2))) else ((0 : Int32), G0))
set_option maxHeartbeats 4000000 in
set_option maxRecDepth 100000 in
theorem c_A_change (l : Launch) (P : gP) (G0 : Mem) (c : Nat) (a1 : Int32) (a2 : Int32) (hc : kA c) (hm : ∃ w : Nat, w ≤ 8 ∧ G0 c 2 = nI w) : gMz l y_A_change b_A_change 4 (some .boolean) ({ frames := 1, cells := 0, slots := 0, locals := 22 }) [.ref (gad P c), .int a1, .int a2] P G0 (sp_A_change c G0 a1 a2) := by
  refine Met.ofW (cc := b_A_change) (maxL := 4) (ret := (some .boolean)) (by decide) rfl ?_
  intro p e s m args below meth c0 s₁ B hml hv
  obtain ⟨rfl, hpre⟩ := hv
  obtain ⟨E, hH⟩ := gE_of B hml hpre
  replace E : gE p s m _ meth c0 P "FramedLine$Arrivals" b_A_change 4 (some .boolean) := E
  have hcU := hc
  unfold kA at hcU
  have hx := E.1
  have hb := E.2.1
  have hl := lv_entry ([.ref (gad P c), .int a1, .int a2]) (n := 4) (Nat.le_of_ble_eq_true rfl)
  rw [lg_entry_eq]
  generalize (lg_sl ([.ref (gad P c), .int a1, .int a2]) ++ List.replicate (4 - (lg_sl ([.ref (gad P c), .int a1, .int a2])).length) Slot.unset).toArray = ls at hl ⊢
  replace hl : lv_has ls 4 [(0, .ref (gad P c)), (1, .int a1), (2, .int a2)] := hl
  have hsp : sp_A_change c G0 a1 a2 = sp_A_change c G0 a1 a2 := rfl
  refine lv_aload_n hx hb d_A_change_0 rfl (lv_at hl 0 rfl) ?_
  refine lv_iload_n hx hb d_A_change_1 rfl (lv_at hl 1 rfl) ?_
  refine g_callVri (As := [.int _]) E hH hl (c_A_placeOf l P _ c _ hc hm) lm_A_26 (gc_A hc) cl_A (Nat.le_of_ble_eq_true rfl) (Nat.le_of_ble_eq_true rfl) (Nat.le_of_ble_eq_true rfl) (Nat.le_of_ble_eq_true rfl) (Nat.le_of_ble_eq_true rfl) rfl rfl rfl rfl d_A_change_2 (fun H locs hH => ?_)
  refine lv_istore_n hx hb d_A_change_5 rfl hl (by decide) rfl (fun ls hl => ?_)
  refine lv_iload_n hx hb d_A_change_6 rfl (lv_at hl 0 rfl) ?_
  refine lv_bipush (v := 8) hx hb d_A_change_7 (by decide) ?_
  refine lv_icmp_lt (tgt := 14) hx hb d_A_change_9 (by decide) (fun h1 => ?_) (fun h1 => ?_)
  · refine lv_iload_n hx hb d_A_change_14 rfl (lv_at hl 0 rfl) ?_
    refine lv_aload_n hx hb d_A_change_15 rfl (lv_at hl 1 rfl) ?_
    refine g_geti (v := (G0 c 2)) E hH (gc_A hc) cl_A 2 (by decide) lf_A_18 (fun _ => rfl) rfl d_A_change_16 ?_
    refine lv_icmp_ne (tgt := 32) hx hb d_A_change_19 (by decide) (fun h2 => ?_) (fun h2 => ?_)
    · refine lv_aload_n hx hb d_A_change_32 rfl (lv_at hl 1 rfl) ?_
      refine g_get E hH (gc_A hc) cl_A 0 (by decide) lf_A_9 rfl d_A_change_33 ?_
      refine lv_iload_n hx hb d_A_change_36 rfl (lv_at hl 0 rfl) ?_
      refine lv_iload_n hx hb d_A_change_37 rfl (lv_at hl 2 rfl) ?_
      refine g_iastore (k := (tn ((sp_A_placeOf c G0 a1)))) E hH (ga_I8 (kA_times hc)) (ch_in hm h1) rfl d_A_change_38 (fun H locs hH => ?_)
      refine lv_aload_n hx hb d_A_change_39 rfl (lv_at hl 1 rfl) ?_
      refine g_get E hH (gc_A hc) cl_A 1 (by decide) lf_A_15 rfl d_A_change_40 ?_
      refine lv_iload_n hx hb d_A_change_43 rfl (lv_at hl 0 rfl) ?_
      refine lv_iload_n hx hb d_A_change_44 rfl (lv_at hl 3 rfl) ?_
      refine g_iastore (k := (tn ((sp_A_placeOf c G0 a1)))) E hH (ga_I8 (kA_symbols hc)) (ch_in hm h1) rfl d_A_change_45 (fun H locs hH => ?_)
      refine lv_iconst (v := 1) hx hb d_A_change_46 (by decide) ?_
      exact g_zret E hH (hsp.trans (by simp only [sp_A_change, if_pos h1, if_neg h2])) isB_1 d_A_change_47
    · refine lv_aload_n hx hb d_A_change_22 rfl (lv_at hl 1 rfl) ?_
      refine lv_dup hx hb d_A_change_23 rfl ?_
      refine g_geti (v := (G0 c 2)) E hH (gc_A hc) cl_A 2 (by decide) lf_A_18 (fun _ => rfl) rfl d_A_change_24 ?_
      refine lv_iconst (v := 1) hx hb d_A_change_27 (by decide) ?_
      refine lv_iadd hx hb d_A_change_28 ?_
      refine g_puti E hH (gc_A hc) cl_A ct_A 2 (by decide) lf_A_18 rfl (by decide +kernel) (fun _ _ => rfl) (Nat.le_of_ble_eq_true rfl) d_A_change_29 (fun H locs hH => ?_)
      refine lv_aload_n hx hb d_A_change_32 rfl (lv_at hl 1 rfl) ?_
      refine g_get E hH (gc_A hc) cl_A 0 (by decide) lf_A_9 rfl d_A_change_33 ?_
      refine lv_iload_n hx hb d_A_change_36 rfl (lv_at hl 0 rfl) ?_
      refine lv_iload_n hx hb d_A_change_37 rfl (lv_at hl 2 rfl) ?_
      refine g_iastore (k := (tn ((sp_A_placeOf c G0 a1)))) E hH (ga_I8 (kA_times hc)) (ch_in hm h1) rfl d_A_change_38 (fun H locs hH => ?_)
      refine lv_aload_n hx hb d_A_change_39 rfl (lv_at hl 1 rfl) ?_
      refine g_get E hH (gc_A hc) cl_A 1 (by decide) lf_A_15 rfl d_A_change_40 ?_
      refine lv_iload_n hx hb d_A_change_43 rfl (lv_at hl 0 rfl) ?_
      refine lv_iload_n hx hb d_A_change_44 rfl (lv_at hl 3 rfl) ?_
      refine g_iastore (k := (tn ((sp_A_placeOf c G0 a1)))) E hH (ga_I8 (kA_symbols hc)) (ch_in hm h1) rfl d_A_change_45 (fun H locs hH => ?_)
      refine lv_iconst (v := 1) hx hb d_A_change_46 (by decide) ?_
      exact g_zret E hH (hsp.trans (by simp only [sp_A_change, if_pos h1, if_pos h2])) isB_1 d_A_change_47
  · refine lv_iconst (v := 0) hx hb d_A_change_12 (by decide) ?_
    exact g_zret E hH (hsp.trans (by simp only [sp_A_change, if_neg h1])) isB_0 d_A_change_13

def sp_A_asItComes (c : Nat) (G0 : Mem) (a1 : Int32) (a2 : Int32) : Int32 × Mem :=
  (if ((sp_A_placeOf c G0 a1)) < (G0 c 2) then ((G0 (c + 2) (tn ((sp_A_placeOf c G0 a1)))), (wr (wr (wr G0 c 2 ((G0 c 2) - 1)) (c + 1) (tn ((sp_A_placeOf c G0 a1))) (G0 (c + 1) (tn ((G0 c 2) - 1)))) (c + 2) (tn ((sp_A_placeOf c G0 a1))) (G0 (c + 2) (tn ((G0 c 2) - 1))))) else (a2, G0))
set_option maxHeartbeats 4000000 in
set_option maxRecDepth 100000 in
theorem c_A_asItComes (l : Launch) (P : gP) (G0 : Mem) (c : Nat) (a1 : Int32) (a2 : Int32) (hc : kA c) (hm : ∃ w : Nat, w ≤ 8 ∧ G0 c 2 = nI w) : gMi l y_A_asItComes b_A_asItComes 5 (some .int) ({ frames := 1, cells := 0, slots := 0, locals := 22 }) [.ref (gad P c), .int a1, .int a2] P G0 (sp_A_asItComes c G0 a1 a2) := by
  refine Met.ofW (cc := b_A_asItComes) (maxL := 5) (ret := (some .int)) (by decide) rfl ?_
  intro p e s m args below meth c0 s₁ B hml hv
  obtain ⟨rfl, hpre⟩ := hv
  obtain ⟨E, hH⟩ := gE_of B hml hpre
  replace E : gE p s m _ meth c0 P "FramedLine$Arrivals" b_A_asItComes 5 (some .int) := E
  have hcU := hc
  unfold kA at hcU
  have hx := E.1
  have hb := E.2.1
  have hl := lv_entry ([.ref (gad P c), .int a1, .int a2]) (n := 5) (Nat.le_of_ble_eq_true rfl)
  rw [lg_entry_eq]
  generalize (lg_sl ([.ref (gad P c), .int a1, .int a2]) ++ List.replicate (5 - (lg_sl ([.ref (gad P c), .int a1, .int a2])).length) Slot.unset).toArray = ls at hl ⊢
  replace hl : lv_has ls 5 [(0, .ref (gad P c)), (1, .int a1), (2, .int a2)] := hl
  have hsp : sp_A_asItComes c G0 a1 a2 = sp_A_asItComes c G0 a1 a2 := rfl
  refine lv_aload_n hx hb d_A_asItComes_0 rfl (lv_at hl 0 rfl) ?_
  refine lv_iload_n hx hb d_A_asItComes_1 rfl (lv_at hl 1 rfl) ?_
  refine g_callVri (As := [.int _]) E hH hl (c_A_placeOf l P _ c _ hc hm) lm_A_26 (gc_A hc) cl_A (Nat.le_of_ble_eq_true rfl) (Nat.le_of_ble_eq_true rfl) (Nat.le_of_ble_eq_true rfl) (Nat.le_of_ble_eq_true rfl) (Nat.le_of_ble_eq_true rfl) rfl rfl rfl rfl d_A_asItComes_2 (fun H locs hH => ?_)
  refine lv_istore_n hx hb d_A_asItComes_5 rfl hl (by decide) rfl (fun ls hl => ?_)
  refine lv_iload_n hx hb d_A_asItComes_6 rfl (lv_at hl 0 rfl) ?_
  refine lv_aload_n hx hb d_A_asItComes_7 rfl (lv_at hl 1 rfl) ?_
  refine g_geti (v := (G0 c 2)) E hH (gc_A hc) cl_A 2 (by decide) lf_A_18 (fun _ => rfl) rfl d_A_asItComes_8 ?_
  refine lv_icmp_lt (tgt := 16) hx hb d_A_asItComes_11 (by decide) (fun h1 => ?_) (fun h1 => ?_)
  · refine lv_aload_n hx hb d_A_asItComes_16 rfl (lv_at hl 1 rfl) ?_
    refine g_get E hH (gc_A hc) cl_A 1 (by decide) lf_A_15 rfl d_A_asItComes_17 ?_
    refine lv_iload_n hx hb d_A_asItComes_20 rfl (lv_at hl 0 rfl) ?_
    refine g_iaload (k := (tn ((sp_A_placeOf c G0 a1)))) (v := (G0 (c + 2) (tn ((sp_A_placeOf c G0 a1))))) E hH (ga_I8 (kA_symbols hc)) (ac_in hm h1) rfl rfl d_A_asItComes_21 ?_
    refine lv_istore hx hb d_A_asItComes_22 hl (by decide) rfl (fun ls hl => ?_)
    refine lv_aload_n hx hb d_A_asItComes_24 rfl (lv_at hl 2 rfl) ?_
    refine lv_dup hx hb d_A_asItComes_25 rfl ?_
    refine g_geti (v := (G0 c 2)) E hH (gc_A hc) cl_A 2 (by decide) lf_A_18 (fun _ => rfl) rfl d_A_asItComes_26 ?_
    refine lv_iconst (v := 1) hx hb d_A_asItComes_29 (by decide) ?_
    refine lv_isub hx hb d_A_asItComes_30 ?_
    refine g_puti E hH (gc_A hc) cl_A ct_A 2 (by decide) lf_A_18 rfl (by decide +kernel) (fun _ _ => rfl) (Nat.le_of_ble_eq_true rfl) d_A_asItComes_31 (fun H locs hH => ?_)
    refine lv_aload_n hx hb d_A_asItComes_34 rfl (lv_at hl 2 rfl) ?_
    refine g_get E hH (gc_A hc) cl_A 0 (by decide) lf_A_9 rfl d_A_asItComes_35 ?_
    refine lv_iload_n hx hb d_A_asItComes_38 rfl (lv_at hl 1 rfl) ?_
    refine lv_aload_n hx hb d_A_asItComes_39 rfl (lv_at hl 2 rfl) ?_
    refine g_get E hH (gc_A hc) cl_A 0 (by decide) lf_A_9 rfl d_A_asItComes_40 ?_
    refine lv_aload_n hx hb d_A_asItComes_43 rfl (lv_at hl 2 rfl) ?_
    refine g_geti (v := ((G0 c 2) - 1)) E hH (gc_A hc) cl_A 2 (by decide) lf_A_18 (fun _ => rfl) (wr_same _ _ _ _) d_A_asItComes_44 ?_
    refine g_iaload (k := (tn ((G0 c 2) - 1))) (v := (G0 (c + 1) (tn ((G0 c 2) - 1)))) E hH (ga_I8 (kA_times hc)) (ac_in2 hm h1) rfl (wr_ck _ _ _ _ (by omega)) d_A_asItComes_47 ?_
    refine g_iastore (k := (tn ((sp_A_placeOf c G0 a1)))) E hH (ga_I8 (kA_times hc)) (ac_in hm h1) rfl d_A_asItComes_48 (fun H locs hH => ?_)
    refine lv_aload_n hx hb d_A_asItComes_49 rfl (lv_at hl 2 rfl) ?_
    refine g_get E hH (gc_A hc) cl_A 1 (by decide) lf_A_15 rfl d_A_asItComes_50 ?_
    refine lv_iload_n hx hb d_A_asItComes_53 rfl (lv_at hl 1 rfl) ?_
    refine lv_aload_n hx hb d_A_asItComes_54 rfl (lv_at hl 2 rfl) ?_
    refine g_get E hH (gc_A hc) cl_A 1 (by decide) lf_A_15 rfl d_A_asItComes_55 ?_
    refine lv_aload_n hx hb d_A_asItComes_58 rfl (lv_at hl 2 rfl) ?_
    refine g_geti (v := ((G0 c 2) - 1)) E hH (gc_A hc) cl_A 2 (by decide) lf_A_18 (fun _ => rfl) ((wr_ck _ _ _ _ (by omega)).trans (wr_same _ _ _ _)) d_A_asItComes_59 ?_
    refine g_iaload (k := (tn ((G0 c 2) - 1))) (v := (G0 (c + 2) (tn ((G0 c 2) - 1)))) E hH (ga_I8 (kA_symbols hc)) (ac_in2 hm h1) rfl ((wr_ck _ _ _ _ (by omega)).trans (wr_ck _ _ _ _ (by omega))) d_A_asItComes_62 ?_
    refine g_iastore (k := (tn ((sp_A_placeOf c G0 a1)))) E hH (ga_I8 (kA_symbols hc)) (ac_in hm h1) rfl d_A_asItComes_63 (fun H locs hH => ?_)
    refine lv_iload hx hb d_A_asItComes_64 (lv_at hl 0 rfl) ?_
    exact g_iret E hH (hsp.trans (by simp only [sp_A_asItComes, if_pos h1])) d_A_asItComes_66
  · refine lv_iload_n hx hb d_A_asItComes_14 rfl (lv_at hl 3 rfl) ?_
    exact g_iret E hH (hsp.trans (by simp only [sp_A_asItComes, if_neg h1])) d_A_asItComes_15

def sp_N_receive_22 (c : Nat) (a1 : Int32) (a2 : Int32) : Nat → Mem → Int32 → Int32 → Int32 → Mem
 | 0, G, x3, x4, x5 => G
  | d + 1, G, x3, x4, x5 =>
  (if x4 ≤ x5 then G else (if ((sp_D_bitBehind (c + 7) G x3)).1 = (-1) then (sp_N_receive_22 c a1 a2 d (((sp_D_bitBehind (c + 7) G x3)).2) x3 x4 (x5 + 1)) else (sp_N_receive_22 c a1 a2 d (sp_R_takeBit (c + 8) (((sp_D_bitBehind (c + 7) G x3)).2) (((sp_D_bitBehind (c + 7) G x3)).1)) x3 x4 (x5 + 1))))
def sp_N_receive (c : Nat) (G0 : Mem) (a1 : Int32) (a2 : Int32) : Mem :=
  (sp_N_receive_22 c a1 a2 (tn (((sp_A_comings (c + 4) (((sp_A_asItComes (c + 4) G0 a1 a2)).2))).1) + 1) (((sp_A_comings (c + 4) (((sp_A_asItComes (c + 4) G0 a1 a2)).2))).2) (((sp_A_asItComes (c + 4) G0 a1 a2)).1) (((sp_A_comings (c + 4) (((sp_A_asItComes (c + 4) G0 a1 a2)).2))).1) 0)
set_option maxHeartbeats 4000000 in
set_option maxRecDepth 100000 in
theorem c_N_receive (l : Launch) (P : gP) (G0 : Mem) (c : Nat) (a1 : Int32) (a2 : Int32) (hc : kN c) (hm : ∃ w : Nat, w ≤ 8 ∧ G0 (c + 4) 2 = nI w) : gMv l y_N_receive b_N_receive 7 none ({ frames := 5, cells := 0, slots := 0, locals := 105 }) [.ref (gad P c), .int a1, .int a2] P G0 (sp_N_receive c G0 a1 a2) := by
  refine Met.ofW (cc := b_N_receive) (maxL := 7) (ret := none) (by decide) rfl ?_
  intro p e s m args below meth c0 s₁ B hml hv
  obtain ⟨rfl, hpre⟩ := hv
  obtain ⟨E, hH⟩ := gE_of B hml hpre
  replace E : gE p s m _ meth c0 P "FramedLine$End" b_N_receive 7 none := E
  have hcU := hc
  unfold kN at hcU
  have hx := E.1
  have hb := E.2.1
  have hl := lv_entry ([.ref (gad P c), .int a1, .int a2]) (n := 7) (Nat.le_of_ble_eq_true rfl)
  rw [lg_entry_eq]
  generalize (lg_sl ([.ref (gad P c), .int a1, .int a2]) ++ List.replicate (7 - (lg_sl ([.ref (gad P c), .int a1, .int a2])).length) Slot.unset).toArray = ls at hl ⊢
  replace hl : lv_has ls 7 [(0, .ref (gad P c)), (1, .int a1), (2, .int a2)] := hl
  have hsp : sp_N_receive c G0 a1 a2 = sp_N_receive c G0 a1 a2 := rfl
  refine jl (α := Nat × Mem × Array Slot × Int32 × Int32 × Int32) (fun q H1 locs1 => sp_N_receive c G0 a1 a2 = sp_N_receive_22 c a1 a2 q.1 q.2.1 q.2.2.2.1 q.2.2.2.2.1 q.2.2.2.2.2 ∧ (∃ j w : Nat, j ≤ w ∧ w ≤ 2 ∧ q.2.2.2.2.1 = nI w ∧ q.2.2.2.2.2 = nI j ∧ q.1 = w - j + 1) ∧ lv_has q.2.2.1 7 [(0, .ref (gad P c)), (1, .int a1), (2, .int a2), (3, .int q.2.2.2.1), (4, .int q.2.2.2.2.1), (5, .int q.2.2.2.2.2)] ∧ gH P s q.2.1 H1 locs1) (fun q => F0 m 22 q.2.2.1 []) (fun q => q.1) (fun q H locs h9 ih22 => ?_) (fun hC22 => ?_)
  · clear hsp hl hH ls
    obtain ⟨n, G, ls, x3, x4, x5⟩ := q
    obtain ⟨hsp, hinv, hl, hH⟩ := h9
    dsimp only at hinv
    obtain ⟨d, rfl⟩ : ∃ d, n = d + 1 := by obtain ⟨j, w, -, -, -, -, h⟩ := hinv; exact ⟨n - 1, by omega⟩
    change lv_has ls 7 [(0, .ref (gad P c)), (1, .int a1), (2, .int a2), (3, .int x3), (4, .int x4), (5, .int x5)] at hl
    dsimp only at hsp hH ⊢
    refine lv_iload hx hb d_N_receive_22 (lv_at hl 5 rfl) ?_
    refine lv_iload hx hb d_N_receive_24 (lv_at hl 4 rfl) ?_
    refine lv_icmp_ge (tgt := 60) hx hb d_N_receive_26 (by decide) (fun h1 => ?_) (fun h1 => ?_)
    · exact g_vret E hH (hsp.trans (by simp only [sp_N_receive_22, if_pos h1])) d_N_receive_60
    · refine lv_aload_n hx hb d_N_receive_29 rfl (lv_at hl 0 rfl) ?_
      refine g_get E hH (gc_N hc) cl_N 3 (by decide) lf_N_35 rfl d_N_receive_30 ?_
      refine lv_iload_n hx hb d_N_receive_33 rfl (lv_at hl 3 rfl) ?_
      refine g_callVi (As := [.int _]) E hH hl (c_D_bitBehind l P _ (c + 7) _ (kN_decoder hc)) lm_N_69 (gc_D (kN_decoder hc)) cl_D (Nat.le_of_ble_eq_true rfl) (Nat.le_of_ble_eq_true rfl) (Nat.le_of_ble_eq_true rfl) (Nat.le_of_ble_eq_true rfl) (Nat.le_of_ble_eq_true rfl) rfl rfl rfl rfl d_N_receive_34 (fun H locs hH => ?_)
      refine lv_istore hx hb d_N_receive_37 hl (by decide) rfl (fun ls hl => ?_)
      refine lv_iload hx hb d_N_receive_39 (lv_at hl 0 rfl) ?_
      refine lv_iconst (v := (-1)) hx hb d_N_receive_41 (by decide) ?_
      refine lv_icmp_eq (tgt := 54) hx hb d_N_receive_42 (by decide) (fun h2 => ?_) (fun h2 => ?_)
      · refine lv_iinc (k := 6) (v := (x5 + 1)) hx hb d_N_receive_54 hl rfl rfl (by decide) rfl (fun ls hl => ?_)
        refine lv_goto (tgt := 22) hx hb d_N_receive_57 (by decide) ?_
        exact ih22 (d, ((sp_D_bitBehind (c + 7) G x3)).2, _, x3, x4, (x5 + 1)) _ _ (Nat.lt_succ_self _) ⟨hsp.trans (by simp only [sp_N_receive_22, if_neg h1, if_pos h2]), (rc_back hinv h1), lv_sub hl [2, 3, 4, 5, 6, 0] rfl, hH⟩
      · refine lv_aload_n hx hb d_N_receive_45 rfl (lv_at hl 1 rfl) ?_
        refine g_get E hH (gc_N hc) cl_N 4 (by decide) lf_N_42 rfl d_N_receive_46 ?_
        refine lv_iload hx hb d_N_receive_49 (lv_at hl 0 rfl) ?_
        refine g_callVv (As := [.int _]) E hH hl (c_R_takeBit l P _ (c + 8) _ (kN_receiver hc)) lm_N_72 (gc_R (kN_receiver hc)) cl_R (Nat.le_of_ble_eq_true rfl) (Nat.le_of_ble_eq_true rfl) (Nat.le_of_ble_eq_true rfl) (Nat.le_of_ble_eq_true rfl) (Nat.le_of_ble_eq_true rfl) rfl rfl rfl rfl d_N_receive_51 (fun H locs hH => ?_)
        refine lv_iinc (k := 6) (v := (x5 + 1)) hx hb d_N_receive_54 hl rfl rfl (by decide) rfl (fun ls hl => ?_)
        refine lv_goto (tgt := 22) hx hb d_N_receive_57 (by decide) ?_
        exact ih22 (d, (sp_R_takeBit (c + 8) (((sp_D_bitBehind (c + 7) G x3)).2) (((sp_D_bitBehind (c + 7) G x3)).1)), _, x3, x4, (x5 + 1)) _ _ (Nat.lt_succ_self _) ⟨hsp.trans (by simp only [sp_N_receive_22, if_neg h1, if_neg h2]), (rc_back hinv h1), lv_sub hl [2, 3, 4, 5, 6, 0] rfl, hH⟩
  refine lv_aload_n hx hb d_N_receive_0 rfl (lv_at hl 0 rfl) ?_
  refine g_get E hH (gc_N hc) cl_N 2 (by decide) lf_N_28 rfl d_N_receive_1 ?_
  refine lv_iload_n hx hb d_N_receive_4 rfl (lv_at hl 1 rfl) ?_
  refine lv_iload_n hx hb d_N_receive_5 rfl (lv_at hl 2 rfl) ?_
  refine g_callVi (As := [.int _, .int _]) E hH hl (c_A_asItComes l P _ (c + 4) _ _ (kN_arrivals hc) hm) lm_N_62 (gc_A (kN_arrivals hc)) cl_A (Nat.le_of_ble_eq_true rfl) (Nat.le_of_ble_eq_true rfl) (Nat.le_of_ble_eq_true rfl) (Nat.le_of_ble_eq_true rfl) (Nat.le_of_ble_eq_true rfl) rfl rfl rfl rfl d_N_receive_6 (fun H locs hH => ?_)
  refine lv_istore_n hx hb d_N_receive_9 rfl hl (by decide) rfl (fun ls hl => ?_)
  refine lv_aload_n hx hb d_N_receive_10 rfl (lv_at hl 1 rfl) ?_
  refine g_get E hH (gc_N hc) cl_N 2 (by decide) lf_N_28 rfl d_N_receive_11 ?_
  refine g_callVi (As := []) E hH hl (c_A_comings l P _ (c + 4) (kN_arrivals hc)) lm_N_66 (gc_A (kN_arrivals hc)) cl_A (Nat.le_of_ble_eq_true rfl) (Nat.le_of_ble_eq_true rfl) (Nat.le_of_ble_eq_true rfl) (Nat.le_of_ble_eq_true rfl) (Nat.le_of_ble_eq_true rfl) rfl rfl rfl rfl d_N_receive_14 (fun H locs hH => ?_)
  refine lv_istore hx hb d_N_receive_17 hl (by decide) rfl (fun ls hl => ?_)
  refine lv_iconst (v := 0) hx hb d_N_receive_19 (by decide) ?_
  refine lv_istore hx hb d_N_receive_20 hl (by decide) rfl (fun ls hl => ?_)
  exact hC22 ((tn (((sp_A_comings (c + 4) (((sp_A_asItComes (c + 4) G0 a1 a2)).2))).1) + 1), ((sp_A_comings (c + 4) (((sp_A_asItComes (c + 4) G0 a1 a2)).2))).2, _, (((sp_A_asItComes (c + 4) G0 a1 a2)).1), (((sp_A_comings (c + 4) (((sp_A_asItComes (c + 4) G0 a1 a2)).2))).1), 0) _ _ ⟨hsp.trans (by rw [sp_N_receive]), (rc_first _ _), lv_sub hl [3, 4, 5, 2, 1, 0] rfl, hH⟩

def sp_M_coming  (G0 : Mem) (a1 : Int32) (a2 : Int32) : Int32 × Mem :=
  (if 0 ≤ ((sp_M_said G0 a1 (G0 21 1))) then ((G0 34 (tn ((8 * a1) + ((sp_M_said G0 a1 (G0 21 1)))))), (wr (wr (wr G0 32 (tn a1) ((G0 32 (tn a1)) - 1)) 33 (tn ((8 * a1) + ((sp_M_said G0 a1 (G0 21 1))))) (G0 33 (tn ((8 * a1) + ((G0 32 (tn a1)) - 1))))) 34 (tn ((8 * a1) + ((sp_M_said G0 a1 (G0 21 1))))) (G0 34 (tn ((8 * a1) + ((G0 32 (tn a1)) - 1)))))) else (a2, G0))
set_option maxHeartbeats 4000000 in
set_option maxRecDepth 100000 in
theorem c_M_coming (l : Launch) (P : gP) (G0 : Mem)  (a1 : Int32) (a2 : Int32) (he : a1 = 0 ∨ a1 = 1) (hm : ∃ w : Nat, w ≤ 8 ∧ G0 32 (tn a1) = nI w) : gMi l y_M_coming b_M_coming 5 (some .int) ({ frames := 1, cells := 0, slots := 0, locals := 24 }) [.ref (gad P 21), .int a1, .int a2] P G0 (sp_M_coming G0 a1 a2) := by
  refine Met.ofW (cc := b_M_coming) (maxL := 5) (ret := (some .int)) (by decide) rfl ?_
  intro p e s m args below meth c0 s₁ B hml hv
  obtain ⟨rfl, hpre⟩ := hv
  obtain ⟨E, hH⟩ := gE_of B hml hpre
  replace E : gE p s m _ meth c0 P "FramedLineModel" b_M_coming 5 (some .int) := E
  have hx := E.1
  have hb := E.2.1
  have hl := lv_entry ([.ref (gad P 21), .int a1, .int a2]) (n := 5) (Nat.le_of_ble_eq_true rfl)
  rw [lg_entry_eq]
  generalize (lg_sl ([.ref (gad P 21), .int a1, .int a2]) ++ List.replicate (5 - (lg_sl ([.ref (gad P 21), .int a1, .int a2])).length) Slot.unset).toArray = ls at hl ⊢
  replace hl : lv_has ls 5 [(0, .ref (gad P 21)), (1, .int a1), (2, .int a2)] := hl
  have hsp : sp_M_coming G0 a1 a2 = sp_M_coming G0 a1 a2 := rfl
  refine lv_aload_n hx hb d_M_coming_0 rfl (lv_at hl 0 rfl) ?_
  refine lv_iload_n hx hb d_M_coming_1 rfl (lv_at hl 1 rfl) ?_
  refine lv_aload_n hx hb d_M_coming_2 rfl (lv_at hl 0 rfl) ?_
  refine g_geti (v := (G0 21 1)) E hH (gc_M rfl) cl_M 1 (by decide) lf_M_156 (fun _ => rfl) rfl d_M_coming_3 ?_
  refine g_callVri (As := [.int _, .int _]) E hH hl (c_M_said l P _ _ _ he hm) lm_M_162 (gc_M rfl) cl_M (Nat.le_of_ble_eq_true rfl) (Nat.le_of_ble_eq_true rfl) (Nat.le_of_ble_eq_true rfl) (Nat.le_of_ble_eq_true rfl) (Nat.le_of_ble_eq_true rfl) rfl rfl rfl rfl d_M_coming_6 (fun H locs hH => ?_)
  refine lv_istore_n hx hb d_M_coming_9 rfl hl (by decide) rfl (fun ls hl => ?_)
  refine lv_iload_n hx hb d_M_coming_10 rfl (lv_at hl 0 rfl) ?_
  refine lv_if_ge (tgt := 16) hx hb d_M_coming_11 (by decide) (fun h1 => ?_) (fun h1 => ?_)
  · refine lv_aload_n hx hb d_M_coming_16 rfl (lv_at hl 1 rfl) ?_
    refine g_get E hH (gc_M rfl) cl_M 14 (by decide) lf_M_47 rfl d_M_coming_17 ?_
    refine lv_bipush (v := 8) hx hb d_M_coming_20 (by decide) ?_
    refine lv_iload_n hx hb d_M_coming_22 rfl (lv_at hl 2 rfl) ?_
    refine lv_imul hx hb d_M_coming_23 ?_
    refine lv_iload_n hx hb d_M_coming_24 rfl (lv_at hl 0 rfl) ?_
    refine lv_iadd hx hb d_M_coming_25 ?_
    refine g_iaload (k := (tn ((8 * a1) + ((sp_M_said G0 a1 (G0 21 1)))))) (v := (G0 34 (tn ((8 * a1) + ((sp_M_said G0 a1 (G0 21 1))))))) E hH ⟨by decide, fun _ => rfl⟩ (cm_in he hm h1) rfl rfl d_M_coming_26 ?_
    refine lv_istore hx hb d_M_coming_27 hl (by decide) rfl (fun ls hl => ?_)
    refine lv_aload_n hx hb d_M_coming_29 rfl (lv_at hl 2 rfl) ?_
    refine g_get E hH (gc_M rfl) cl_M 12 (by decide) lf_M_41 rfl d_M_coming_30 ?_
    refine lv_iload_n hx hb d_M_coming_33 rfl (lv_at hl 3 rfl) ?_
    refine lv_aload_n hx hb d_M_coming_34 rfl (lv_at hl 2 rfl) ?_
    refine g_get E hH (gc_M rfl) cl_M 12 (by decide) lf_M_41 rfl d_M_coming_35 ?_
    refine lv_iload_n hx hb d_M_coming_38 rfl (lv_at hl 3 rfl) ?_
    refine g_iaload (k := (tn a1)) (v := (G0 32 (tn a1))) E hH ⟨by decide, fun _ => rfl⟩ (by rcases he with rfl | rfl <;> (unfold vp_in; first | decide | (split <;> decide))) rfl rfl d_M_coming_39 ?_
    refine lv_iconst (v := 1) hx hb d_M_coming_40 (by decide) ?_
    refine lv_isub hx hb d_M_coming_41 ?_
    refine g_iastore (k := (tn a1)) E hH ⟨by decide, fun _ => rfl⟩ (by rcases he with rfl | rfl <;> (unfold vp_in; first | decide | (split <;> decide))) rfl d_M_coming_42 (fun H locs hH => ?_)
    refine lv_aload_n hx hb d_M_coming_43 rfl (lv_at hl 2 rfl) ?_
    refine g_get E hH (gc_M rfl) cl_M 13 (by decide) lf_M_44 rfl d_M_coming_44 ?_
    refine lv_bipush (v := 8) hx hb d_M_coming_47 (by decide) ?_
    refine lv_iload_n hx hb d_M_coming_49 rfl (lv_at hl 3 rfl) ?_
    refine lv_imul hx hb d_M_coming_50 ?_
    refine lv_iload_n hx hb d_M_coming_51 rfl (lv_at hl 1 rfl) ?_
    refine lv_iadd hx hb d_M_coming_52 ?_
    refine lv_aload_n hx hb d_M_coming_53 rfl (lv_at hl 2 rfl) ?_
    refine g_get E hH (gc_M rfl) cl_M 13 (by decide) lf_M_44 rfl d_M_coming_54 ?_
    refine lv_bipush (v := 8) hx hb d_M_coming_57 (by decide) ?_
    refine lv_iload_n hx hb d_M_coming_59 rfl (lv_at hl 3 rfl) ?_
    refine lv_imul hx hb d_M_coming_60 ?_
    refine lv_aload_n hx hb d_M_coming_61 rfl (lv_at hl 2 rfl) ?_
    refine g_get E hH (gc_M rfl) cl_M 12 (by decide) lf_M_41 rfl d_M_coming_62 ?_
    refine lv_iload_n hx hb d_M_coming_65 rfl (lv_at hl 3 rfl) ?_
    refine g_iaload (k := (tn a1)) (v := ((G0 32 (tn a1)) - 1)) E hH ⟨by decide, fun _ => rfl⟩ (by rcases he with rfl | rfl <;> (unfold vp_in; first | decide | (split <;> decide))) rfl (wr_same _ _ _ _) d_M_coming_66 ?_
    refine lv_iadd hx hb d_M_coming_67 ?_
    refine g_iaload (k := (tn ((8 * a1) + ((G0 32 (tn a1)) - 1)))) (v := (G0 33 (tn ((8 * a1) + ((G0 32 (tn a1)) - 1))))) E hH ⟨by decide, fun _ => rfl⟩ (cm_in2 he hm h1) rfl (wr_ck _ _ _ _ (by decide)) d_M_coming_68 ?_
    refine g_iastore (k := (tn ((8 * a1) + ((sp_M_said G0 a1 (G0 21 1)))))) E hH ⟨by decide, fun _ => rfl⟩ (cm_in he hm h1) rfl d_M_coming_69 (fun H locs hH => ?_)
    refine lv_aload_n hx hb d_M_coming_70 rfl (lv_at hl 2 rfl) ?_
    refine g_get E hH (gc_M rfl) cl_M 14 (by decide) lf_M_47 rfl d_M_coming_71 ?_
    refine lv_bipush (v := 8) hx hb d_M_coming_74 (by decide) ?_
    refine lv_iload_n hx hb d_M_coming_76 rfl (lv_at hl 3 rfl) ?_
    refine lv_imul hx hb d_M_coming_77 ?_
    refine lv_iload_n hx hb d_M_coming_78 rfl (lv_at hl 1 rfl) ?_
    refine lv_iadd hx hb d_M_coming_79 ?_
    refine lv_aload_n hx hb d_M_coming_80 rfl (lv_at hl 2 rfl) ?_
    refine g_get E hH (gc_M rfl) cl_M 14 (by decide) lf_M_47 rfl d_M_coming_81 ?_
    refine lv_bipush (v := 8) hx hb d_M_coming_84 (by decide) ?_
    refine lv_iload_n hx hb d_M_coming_86 rfl (lv_at hl 3 rfl) ?_
    refine lv_imul hx hb d_M_coming_87 ?_
    refine lv_aload_n hx hb d_M_coming_88 rfl (lv_at hl 2 rfl) ?_
    refine g_get E hH (gc_M rfl) cl_M 12 (by decide) lf_M_41 rfl d_M_coming_89 ?_
    refine lv_iload_n hx hb d_M_coming_92 rfl (lv_at hl 3 rfl) ?_
    refine g_iaload (k := (tn a1)) (v := ((G0 32 (tn a1)) - 1)) E hH ⟨by decide, fun _ => rfl⟩ (by rcases he with rfl | rfl <;> (unfold vp_in; first | decide | (split <;> decide))) rfl ((wr_ck _ _ _ _ (by decide)).trans (wr_same _ _ _ _)) d_M_coming_93 ?_
    refine lv_iadd hx hb d_M_coming_94 ?_
    refine g_iaload (k := (tn ((8 * a1) + ((G0 32 (tn a1)) - 1)))) (v := (G0 34 (tn ((8 * a1) + ((G0 32 (tn a1)) - 1))))) E hH ⟨by decide, fun _ => rfl⟩ (cm_in2 he hm h1) rfl ((wr_ck _ _ _ _ (by decide)).trans (wr_ck _ _ _ _ (by decide))) d_M_coming_95 ?_
    refine g_iastore (k := (tn ((8 * a1) + ((sp_M_said G0 a1 (G0 21 1)))))) E hH ⟨by decide, fun _ => rfl⟩ (cm_in he hm h1) rfl d_M_coming_96 (fun H locs hH => ?_)
    refine lv_iload hx hb d_M_coming_97 (lv_at hl 0 rfl) ?_
    exact g_iret E hH (hsp.trans (by simp only [sp_M_coming, if_pos h1])) d_M_coming_99
  · refine lv_iload_n hx hb d_M_coming_14 rfl (lv_at hl 3 rfl) ?_
    exact g_iret E hH (hsp.trans (by simp only [sp_M_coming, if_neg h1])) d_M_coming_15

def sp_M_arrive  (G0 : Mem) (a1 : Int32) (a2 : Int32) : Mem :=
  (if ((sp_M_take (((sp_M_coming G0 a1 a2)).2) a1 (((sp_M_coming G0 a1 a2)).1)) 35 (tn a1)) = 0 then (sp_M_take (((sp_M_coming G0 a1 a2)).2) a1 (((sp_M_coming G0 a1 a2)).1)) else (sp_M_take (wr (sp_M_take (((sp_M_coming G0 a1 a2)).2) a1 (((sp_M_coming G0 a1 a2)).1)) 35 (tn a1) (zb 0)) a1 (((sp_M_coming G0 a1 a2)).1)))
set_option maxHeartbeats 4000000 in
set_option maxRecDepth 100000 in
theorem c_M_arrive (l : Launch) (P : gP) (G0 : Mem)  (a1 : Int32) (a2 : Int32) (he : a1 = 0 ∨ a1 = 1) (hm : ∃ w : Nat, w ≤ 8 ∧ G0 32 (tn a1) = nI w) : gMv l y_M_arrive b_M_arrive 4 none ({ frames := 6, cells := 0, slots := 0, locals := 141 }) [.ref (gad P 21), .int a1, .int a2] P G0 (sp_M_arrive G0 a1 a2) := by
  refine Met.ofW (cc := b_M_arrive) (maxL := 4) (ret := none) (by decide) rfl ?_
  intro p e s m args below meth c0 s₁ B hml hv
  obtain ⟨rfl, hpre⟩ := hv
  obtain ⟨E, hH⟩ := gE_of B hml hpre
  replace E : gE p s m _ meth c0 P "FramedLineModel" b_M_arrive 4 none := E
  have hx := E.1
  have hb := E.2.1
  have hl := lv_entry ([.ref (gad P 21), .int a1, .int a2]) (n := 4) (Nat.le_of_ble_eq_true rfl)
  rw [lg_entry_eq]
  generalize (lg_sl ([.ref (gad P 21), .int a1, .int a2]) ++ List.replicate (4 - (lg_sl ([.ref (gad P 21), .int a1, .int a2])).length) Slot.unset).toArray = ls at hl ⊢
  replace hl : lv_has ls 4 [(0, .ref (gad P 21)), (1, .int a1), (2, .int a2)] := hl
  have hsp : sp_M_arrive G0 a1 a2 = sp_M_arrive G0 a1 a2 := rfl
  refine lv_aload_n hx hb d_M_arrive_0 rfl (lv_at hl 0 rfl) ?_
  refine lv_iload_n hx hb d_M_arrive_1 rfl (lv_at hl 1 rfl) ?_
  refine lv_iload_n hx hb d_M_arrive_2 rfl (lv_at hl 2 rfl) ?_
  refine g_callVi (As := [.int _, .int _]) E hH hl (c_M_coming l P _ _ _ he hm) lm_M_206 (gc_M rfl) cl_M (Nat.le_of_ble_eq_true rfl) (Nat.le_of_ble_eq_true rfl) (Nat.le_of_ble_eq_true rfl) (Nat.le_of_ble_eq_true rfl) (Nat.le_of_ble_eq_true rfl) rfl rfl rfl rfl d_M_arrive_3 (fun H locs hH => ?_)
  refine lv_istore_n hx hb d_M_arrive_6 rfl hl (by decide) rfl (fun ls hl => ?_)
  refine lv_aload_n hx hb d_M_arrive_7 rfl (lv_at hl 1 rfl) ?_
  refine lv_iload_n hx hb d_M_arrive_8 rfl (lv_at hl 2 rfl) ?_
  refine lv_iload_n hx hb d_M_arrive_9 rfl (lv_at hl 0 rfl) ?_
  refine g_callVv (As := [.int _, .int _]) E hH hl (c_M_take l P _ _ _ he) lm_M_209 (gc_M rfl) cl_M (Nat.le_of_ble_eq_true rfl) (Nat.le_of_ble_eq_true rfl) (Nat.le_of_ble_eq_true rfl) (Nat.le_of_ble_eq_true rfl) (Nat.le_of_ble_eq_true rfl) rfl rfl rfl rfl d_M_arrive_10 (fun H locs hH => ?_)
  refine lv_aload_n hx hb d_M_arrive_13 rfl (lv_at hl 1 rfl) ?_
  refine g_get E hH (gc_M rfl) cl_M 15 (by decide) lf_M_50 rfl d_M_arrive_14 ?_
  refine lv_iload_n hx hb d_M_arrive_17 rfl (lv_at hl 2 rfl) ?_
  refine g_baload (k := (tn a1)) (v := ((sp_M_take (((sp_M_coming G0 a1 a2)).2) a1 (((sp_M_coming G0 a1 a2)).1)) 35 (tn a1))) E hH ⟨by decide, fun _ => rfl⟩ (by rcases he with rfl | rfl <;> (unfold vp_in; first | decide | (split <;> decide))) rfl rfl d_M_arrive_18 ?_
  refine lv_if_eq (tgt := 35) hx hb d_M_arrive_19 (by decide) (fun h1 => ?_) (fun h1 => ?_)
  · exact g_vret E hH (hsp.trans (by simp only [sp_M_arrive, if_pos h1])) d_M_arrive_35
  · refine lv_aload_n hx hb d_M_arrive_22 rfl (lv_at hl 1 rfl) ?_
    refine g_get E hH (gc_M rfl) cl_M 15 (by decide) lf_M_50 rfl d_M_arrive_23 ?_
    refine lv_iload_n hx hb d_M_arrive_26 rfl (lv_at hl 2 rfl) ?_
    refine lv_iconst (v := 0) hx hb d_M_arrive_27 (by decide) ?_
    refine g_bastore (k := (tn a1)) E hH ⟨by decide, fun _ => rfl⟩ (by rcases he with rfl | rfl <;> (unfold vp_in; first | decide | (split <;> decide))) rfl d_M_arrive_28 (fun H locs hH => ?_)
    refine lv_aload_n hx hb d_M_arrive_29 rfl (lv_at hl 1 rfl) ?_
    refine lv_iload_n hx hb d_M_arrive_30 rfl (lv_at hl 2 rfl) ?_
    refine lv_iload_n hx hb d_M_arrive_31 rfl (lv_at hl 0 rfl) ?_
    refine g_callVv (As := [.int _, .int _]) E hH hl (c_M_take l P _ _ _ he) lm_M_209 (gc_M rfl) cl_M (Nat.le_of_ble_eq_true rfl) (Nat.le_of_ble_eq_true rfl) (Nat.le_of_ble_eq_true rfl) (Nat.le_of_ble_eq_true rfl) (Nat.le_of_ble_eq_true rfl) rfl rfl rfl rfl d_M_arrive_32 (fun H locs hH => ?_)
    exact g_vret E hH (hsp.trans (by simp only [sp_M_arrive, if_neg h1])) d_M_arrive_35
