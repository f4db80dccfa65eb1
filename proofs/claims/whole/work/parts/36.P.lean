def sp_M_disturb  (G0 : Mem) (a1 : Int32) (a2 : Int32) (a3 : Int32) : Int32 × Mem :=
  (if ((if ((sp_M_isEnd G0 a1)) = 0 then 1 else (if ((sp_M_within G0 a2 1 1000)) = 0 then 1 else (if ((sp_M_within G0 a3 (-1) 1)) = 0 then 1 else 0))) : Int32) ≤ 0 then (if ((if 0 ≤ ((sp_M_said (wr G0 21 0 ((if ((sp_M_isEnd G0 a1)) = 0 then 1 else (if ((sp_M_within G0 a2 1 1000)) = 0 then 1 else (if ((sp_M_within G0 a3 (-1) 1)) = 0 then 1 else 0))) : Int32)) a1 ((G0 21 1) + a2))) then 0 else (if (G0 32 (tn a1)) = 8 then 2 else 0)) : Int32) ≤ 0 then (if 0 ≤ ((sp_M_said (wr G0 21 0 ((if ((sp_M_isEnd G0 a1)) = 0 then 1 else (if ((sp_M_within G0 a2 1 1000)) = 0 then 1 else (if ((sp_M_within G0 a3 (-1) 1)) = 0 then 1 else 0))) : Int32)) a1 ((G0 21 1) + a2))) then ((G0 32 (tn a1)), (wr (wr (wr (wr G0 21 0 ((if ((sp_M_isEnd G0 a1)) = 0 then 1 else (if ((sp_M_within G0 a2 1 1000)) = 0 then 1 else (if ((sp_M_within G0 a3 (-1) 1)) = 0 then 1 else 0))) : Int32)) 21 0 ((if 0 ≤ ((sp_M_said (wr G0 21 0 ((if ((sp_M_isEnd G0 a1)) = 0 then 1 else (if ((sp_M_within G0 a2 1 1000)) = 0 then 1 else (if ((sp_M_within G0 a3 (-1) 1)) = 0 then 1 else 0))) : Int32)) a1 ((G0 21 1) + a2))) then 0 else (if (G0 32 (tn a1)) = 8 then 2 else 0)) : Int32)) 33 (tn ((8 * a1) + ((sp_M_said (wr G0 21 0 ((if ((sp_M_isEnd G0 a1)) = 0 then 1 else (if ((sp_M_within G0 a2 1 1000)) = 0 then 1 else (if ((sp_M_within G0 a3 (-1) 1)) = 0 then 1 else 0))) : Int32)) a1 ((G0 21 1) + a2))))) ((G0 21 1) + a2)) 34 (tn ((8 * a1) + ((sp_M_said (wr G0 21 0 ((if ((sp_M_isEnd G0 a1)) = 0 then 1 else (if ((sp_M_within G0 a2 1 1000)) = 0 then 1 else (if ((sp_M_within G0 a3 (-1) 1)) = 0 then 1 else 0))) : Int32)) a1 ((G0 21 1) + a2))))) a3)) else (((G0 32 (tn a1)) + 1), (wr (wr (wr (wr (wr G0 21 0 ((if ((sp_M_isEnd G0 a1)) = 0 then 1 else (if ((sp_M_within G0 a2 1 1000)) = 0 then 1 else (if ((sp_M_within G0 a3 (-1) 1)) = 0 then 1 else 0))) : Int32)) 21 0 ((if 0 ≤ ((sp_M_said (wr G0 21 0 ((if ((sp_M_isEnd G0 a1)) = 0 then 1 else (if ((sp_M_within G0 a2 1 1000)) = 0 then 1 else (if ((sp_M_within G0 a3 (-1) 1)) = 0 then 1 else 0))) : Int32)) a1 ((G0 21 1) + a2))) then 0 else (if (G0 32 (tn a1)) = 8 then 2 else 0)) : Int32)) 32 (tn a1) ((G0 32 (tn a1)) + 1)) 33 (tn ((8 * a1) + (G0 32 (tn a1)))) ((G0 21 1) + a2)) 34 (tn ((8 * a1) + (G0 32 (tn a1)))) a3))) else ((0 : Int32), (wr (wr G0 21 0 ((if ((sp_M_isEnd G0 a1)) = 0 then 1 else (if ((sp_M_within G0 a2 1 1000)) = 0 then 1 else (if ((sp_M_within G0 a3 (-1) 1)) = 0 then 1 else 0))) : Int32)) 21 0 ((if 0 ≤ ((sp_M_said (wr G0 21 0 ((if ((sp_M_isEnd G0 a1)) = 0 then 1 else (if ((sp_M_within G0 a2 1 1000)) = 0 then 1 else (if ((sp_M_within G0 a3 (-1) 1)) = 0 then 1 else 0))) : Int32)) a1 ((G0 21 1) + a2))) then 0 else (if (G0 32 (tn a1)) = 8 then 2 else 0)) : Int32)))) else ((0 : Int32), (wr G0 21 0 ((if ((sp_M_isEnd G0 a1)) = 0 then 1 else (if ((sp_M_within G0 a2 1 1000)) = 0 then 1 else (if ((sp_M_within G0 a3 (-1) 1)) = 0 then 1 else 0))) : Int32))))
set_option maxHeartbeats 4000000 in
set_option maxRecDepth 100000 in
theorem c_M_disturb (l : Launch) (P : gP) (G0 : Mem)  (a1 : Int32) (a2 : Int32) (a3 : Int32) (hm : hmM G0) : gMi l y_M_disturb b_M_disturb 5 (some .int) ({ frames := 1, cells := 0, slots := 0, locals := 24 }) [.ref (gad P 21), .int a1, .int a2, .int a3] P G0 (sp_M_disturb G0 a1 a2 a3) := by
  refine Met.ofW (cc := b_M_disturb) (maxL := 5) (ret := (some .int)) (by decide) rfl ?_
  intro p e s m args below meth c0 s₁ B hml hv
  obtain ⟨rfl, hpre⟩ := hv
  obtain ⟨E, hH⟩ := gE_of B hml hpre
  replace E : gE p s m _ meth c0 P "FramedLineModel" b_M_disturb 5 (some .int) := E
  have hx := E.1
  have hb := E.2.1
  have hl := lv_entry ([.ref (gad P 21), .int a1, .int a2, .int a3]) (n := 5) (Nat.le_of_ble_eq_true rfl)
  rw [lg_entry_eq]
  generalize (lg_sl ([.ref (gad P 21), .int a1, .int a2, .int a3]) ++ List.replicate (5 - (lg_sl ([.ref (gad P 21), .int a1, .int a2, .int a3])).length) Slot.unset).toArray = ls at hl ⊢
  replace hl : lv_has ls 5 [(0, .ref (gad P 21)), (1, .int a1), (2, .int a2), (3, .int a3)] := hl
  have hsp : sp_M_disturb G0 a1 a2 a3 = sp_M_disturb G0 a1 a2 a3 := rfl
  refine lv_aload_n hx hb d_M_disturb_0 rfl (lv_at hl 0 rfl) ?_
  refine lv_iload_n hx hb d_M_disturb_1 rfl (lv_at hl 1 rfl) ?_
  refine g_callSrz (As := [.int _]) E hH hl (c_M_isEnd l P _ _) lm_M_193 (Nat.le_of_ble_eq_true rfl) (Nat.le_of_ble_eq_true rfl) (Nat.le_of_ble_eq_true rfl) (Nat.le_of_ble_eq_true rfl) (Nat.le_of_ble_eq_true rfl) rfl rfl rfl rfl d_M_disturb_2 (fun H locs hH hz2 => ?_)
  refine jn (α := Int32) (fun z H1 locs1 => z = ((if ((sp_M_isEnd G0 a1)) = 0 then 1 else (if ((sp_M_within G0 a2 1 1000)) = 0 then 1 else (if ((sp_M_within G0 a3 (-1) 1)) = 0 then 1 else 0))) : Int32) ∧ isB z ∧ gH P s G0 H1 locs1) (fun z => F0 m 33 ls (.int z :: .ref (gad P 21) :: [])) (fun z H locs h9 => ?_) (fun hJ => ?_)
  · obtain ⟨rfl, hz33, hH⟩ := h9
    refine g_puti E hH (gc_M rfl) cl_M ct_M 0 (by decide) lf_M_137 rfl (by decide +kernel) (fun _ _ => rfl) (Nat.le_of_ble_eq_true rfl) d_M_disturb_33 (fun H locs hH => ?_)
    refine lv_aload_n hx hb d_M_disturb_36 rfl (lv_at hl 0 rfl) ?_
    refine g_geti (v := ((if ((sp_M_isEnd G0 a1)) = 0 then 1 else (if ((sp_M_within G0 a2 1 1000)) = 0 then 1 else (if ((sp_M_within G0 a3 (-1) 1)) = 0 then 1 else 0))) : Int32)) E hH (gc_M rfl) cl_M 0 (by decide) lf_M_137 (fun _ => rfl) (wr_same _ _ _ _) d_M_disturb_37 ?_
    refine lv_if_le (tgt := 45) hx hb d_M_disturb_40 (by decide) (fun h1 => ?_) (fun h1 => ?_)
    · refine lv_aload_n hx hb d_M_disturb_45 rfl (lv_at hl 0 rfl) ?_
      refine lv_iload_n hx hb d_M_disturb_46 rfl (lv_at hl 1 rfl) ?_
      refine lv_aload_n hx hb d_M_disturb_47 rfl (lv_at hl 0 rfl) ?_
      refine g_geti (v := (G0 21 1)) E hH (gc_M rfl) cl_M 1 (by decide) lf_M_156 (fun _ => rfl) (wr_k _ _ _ _ (by decide)) d_M_disturb_48 ?_
      refine lv_iload_n hx hb d_M_disturb_51 rfl (lv_at hl 2 rfl) ?_
      refine lv_iadd hx hb d_M_disturb_52 ?_
      refine g_callVri (As := [.int _, .int _]) E hH hl (c_M_said l P _ _ _ (ok1 h1) (hmM_wr hm _ (ok1 h1))) lm_M_162 (gc_M rfl) cl_M (Nat.le_of_ble_eq_true rfl) (Nat.le_of_ble_eq_true rfl) (Nat.le_of_ble_eq_true rfl) (Nat.le_of_ble_eq_true rfl) (Nat.le_of_ble_eq_true rfl) rfl rfl rfl rfl d_M_disturb_53 (fun H locs hH => ?_)
      refine lv_istore hx hb d_M_disturb_56 hl (by decide) rfl (fun ls hl => ?_)
      refine lv_aload_n hx hb d_M_disturb_58 rfl (lv_at hl 1 rfl) ?_
      refine lv_iload hx hb d_M_disturb_59 (lv_at hl 0 rfl) ?_
      refine jn (α := Int32) (fun z H1 locs1 => z = ((if 0 ≤ ((sp_M_said (wr G0 21 0 ((if ((sp_M_isEnd G0 a1)) = 0 then 1 else (if ((sp_M_within G0 a2 1 1000)) = 0 then 1 else (if ((sp_M_within G0 a3 (-1) 1)) = 0 then 1 else 0))) : Int32)) a1 ((G0 21 1) + a2))) then 0 else (if (G0 32 (tn a1)) = 8 then 2 else 0)) : Int32) ∧ gH P s (wr G0 21 0 ((if ((sp_M_isEnd G0 a1)) = 0 then 1 else (if ((sp_M_within G0 a2 1 1000)) = 0 then 1 else (if ((sp_M_within G0 a3 (-1) 1)) = 0 then 1 else 0))) : Int32)) H1 locs1) (fun z => F0 m 80 ls (.int z :: .ref (gad P 21) :: [])) (fun z H locs h9 => ?_) (fun hJ => ?_)
      · obtain ⟨rfl, hH⟩ := h9
        refine g_puti E hH (gc_M rfl) cl_M ct_M 0 (by decide) lf_M_137 rfl (by decide +kernel) (fun _ _ => rfl) (Nat.le_of_ble_eq_true rfl) d_M_disturb_80 (fun H locs hH => ?_)
        refine lv_aload_n hx hb d_M_disturb_83 rfl (lv_at hl 1 rfl) ?_
        refine g_geti (v := ((if 0 ≤ ((sp_M_said (wr G0 21 0 ((if ((sp_M_isEnd G0 a1)) = 0 then 1 else (if ((sp_M_within G0 a2 1 1000)) = 0 then 1 else (if ((sp_M_within G0 a3 (-1) 1)) = 0 then 1 else 0))) : Int32)) a1 ((G0 21 1) + a2))) then 0 else (if (G0 32 (tn a1)) = 8 then 2 else 0)) : Int32)) E hH (gc_M rfl) cl_M 0 (by decide) lf_M_137 (fun _ => rfl) (wr_same _ _ _ _) d_M_disturb_84 ?_
        refine lv_if_le (tgt := 92) hx hb d_M_disturb_87 (by decide) (fun h2 => ?_) (fun h2 => ?_)
        · refine lv_iload hx hb d_M_disturb_92 (lv_at hl 0 rfl) ?_
          refine lv_if_ge (tgt := 115) hx hb d_M_disturb_94 (by decide) (fun h3 => ?_) (fun h3 => ?_)
          · refine lv_aload_n hx hb d_M_disturb_115 rfl (lv_at hl 1 rfl) ?_
            refine g_get E hH (gc_M rfl) cl_M 13 (by decide) lf_M_44 rfl d_M_disturb_116 ?_
            refine lv_bipush (v := 8) hx hb d_M_disturb_119 (by decide) ?_
            refine lv_iload_n hx hb d_M_disturb_121 rfl (lv_at hl 2 rfl) ?_
            refine lv_imul hx hb d_M_disturb_122 ?_
            refine lv_iload hx hb d_M_disturb_123 (lv_at hl 0 rfl) ?_
            refine lv_iadd hx hb d_M_disturb_125 ?_
            refine lv_aload_n hx hb d_M_disturb_126 rfl (lv_at hl 1 rfl) ?_
            refine g_geti (v := (G0 21 1)) E hH (gc_M rfl) cl_M 1 (by decide) lf_M_156 (fun _ => rfl) ((wr_k _ _ _ _ (by decide)).trans (wr_k _ _ _ _ (by decide))) d_M_disturb_127 ?_
            refine lv_iload_n hx hb d_M_disturb_130 rfl (lv_at hl 3 rfl) ?_
            refine lv_iadd hx hb d_M_disturb_131 ?_
            refine g_iastore (k := (tn ((8 * a1) + ((sp_M_said (wr G0 21 0 ((if ((sp_M_isEnd G0 a1)) = 0 then 1 else (if ((sp_M_within G0 a2 1 1000)) = 0 then 1 else (if ((sp_M_within G0 a3 (-1) 1)) = 0 then 1 else 0))) : Int32)) a1 ((G0 21 1) + a2)))))) E hH ⟨by decide, fun _ => rfl⟩ (cm_in (ok1 h1) (hmM_wr hm _ (ok1 h1)) h3) rfl d_M_disturb_132 (fun H locs hH => ?_)
            refine lv_aload_n hx hb d_M_disturb_133 rfl (lv_at hl 1 rfl) ?_
            refine g_get E hH (gc_M rfl) cl_M 14 (by decide) lf_M_47 rfl d_M_disturb_134 ?_
            refine lv_bipush (v := 8) hx hb d_M_disturb_137 (by decide) ?_
            refine lv_iload_n hx hb d_M_disturb_139 rfl (lv_at hl 2 rfl) ?_
            refine lv_imul hx hb d_M_disturb_140 ?_
            refine lv_iload hx hb d_M_disturb_141 (lv_at hl 0 rfl) ?_
            refine lv_iadd hx hb d_M_disturb_143 ?_
            refine lv_iload_n hx hb d_M_disturb_144 rfl (lv_at hl 4 rfl) ?_
            refine g_iastore (k := (tn ((8 * a1) + ((sp_M_said (wr G0 21 0 ((if ((sp_M_isEnd G0 a1)) = 0 then 1 else (if ((sp_M_within G0 a2 1 1000)) = 0 then 1 else (if ((sp_M_within G0 a3 (-1) 1)) = 0 then 1 else 0))) : Int32)) a1 ((G0 21 1) + a2)))))) E hH ⟨by decide, fun _ => rfl⟩ (cm_in (ok1 h1) (hmM_wr hm _ (ok1 h1)) h3) rfl d_M_disturb_145 (fun H locs hH => ?_)
            refine lv_aload_n hx hb d_M_disturb_146 rfl (lv_at hl 1 rfl) ?_
            refine g_get E hH (gc_M rfl) cl_M 12 (by decide) lf_M_41 rfl d_M_disturb_147 ?_
            refine lv_iload_n hx hb d_M_disturb_150 rfl (lv_at hl 2 rfl) ?_
            refine g_iaload (k := (tn a1)) (v := (G0 32 (tn a1))) E hH ⟨by decide, fun _ => rfl⟩ (e_in (ok1 h1)) rfl ((wr_ck _ _ _ _ (by decide)).trans ((wr_ck _ _ _ _ (by decide)).trans ((wr_ck _ _ _ _ (by decide)).trans (wr_ck _ _ _ _ (by decide))))) d_M_disturb_151 ?_
            exact g_iret E hH (hsp.trans (by rw [sp_M_disturb]; exact ((if_pos h1).trans ((if_pos h2).trans (if_pos h3))))) d_M_disturb_152
          · refine lv_aload_n hx hb d_M_disturb_97 rfl (lv_at hl 1 rfl) ?_
            refine g_get E hH (gc_M rfl) cl_M 12 (by decide) lf_M_41 rfl d_M_disturb_98 ?_
            refine lv_iload_n hx hb d_M_disturb_101 rfl (lv_at hl 2 rfl) ?_
            refine g_iaload (k := (tn a1)) (v := (G0 32 (tn a1))) E hH ⟨by decide, fun _ => rfl⟩ (e_in (ok1 h1)) rfl ((wr_ck _ _ _ _ (by decide)).trans (wr_ck _ _ _ _ (by decide))) d_M_disturb_102 ?_
            refine lv_istore hx hb d_M_disturb_103 hl (by decide) rfl (fun ls hl => ?_)
            refine lv_aload_n hx hb d_M_disturb_105 rfl (lv_at hl 1 rfl) ?_
            refine g_get E hH (gc_M rfl) cl_M 12 (by decide) lf_M_41 rfl d_M_disturb_106 ?_
            refine lv_iload_n hx hb d_M_disturb_109 rfl (lv_at hl 2 rfl) ?_
            refine lv_iload hx hb d_M_disturb_110 (lv_at hl 0 rfl) ?_
            refine lv_iconst (v := 1) hx hb d_M_disturb_112 (by decide) ?_
            refine lv_iadd hx hb d_M_disturb_113 ?_
            refine g_iastore (k := (tn a1)) E hH ⟨by decide, fun _ => rfl⟩ (e_in (ok1 h1)) rfl d_M_disturb_114 (fun H locs hH => ?_)
            refine lv_aload_n hx hb d_M_disturb_115 rfl (lv_at hl 1 rfl) ?_
            refine g_get E hH (gc_M rfl) cl_M 13 (by decide) lf_M_44 rfl d_M_disturb_116 ?_
            refine lv_bipush (v := 8) hx hb d_M_disturb_119 (by decide) ?_
            refine lv_iload_n hx hb d_M_disturb_121 rfl (lv_at hl 2 rfl) ?_
            refine lv_imul hx hb d_M_disturb_122 ?_
            refine lv_iload hx hb d_M_disturb_123 (lv_at hl 0 rfl) ?_
            refine lv_iadd hx hb d_M_disturb_125 ?_
            refine lv_aload_n hx hb d_M_disturb_126 rfl (lv_at hl 1 rfl) ?_
            refine g_geti (v := (G0 21 1)) E hH (gc_M rfl) cl_M 1 (by decide) lf_M_156 (fun _ => rfl) ((wr_ck _ _ _ _ (by decide)).trans ((wr_k _ _ _ _ (by decide)).trans (wr_k _ _ _ _ (by decide)))) d_M_disturb_127 ?_
            refine lv_iload_n hx hb d_M_disturb_130 rfl (lv_at hl 3 rfl) ?_
            refine lv_iadd hx hb d_M_disturb_131 ?_
            refine g_iastore (k := (tn ((8 * a1) + (G0 32 (tn a1))))) E hH ⟨by decide, fun _ => rfl⟩ (ds_in2 (ok1 h1) (hm _ (ok1 h1)) h2 h3) rfl d_M_disturb_132 (fun H locs hH => ?_)
            refine lv_aload_n hx hb d_M_disturb_133 rfl (lv_at hl 1 rfl) ?_
            refine g_get E hH (gc_M rfl) cl_M 14 (by decide) lf_M_47 rfl d_M_disturb_134 ?_
            refine lv_bipush (v := 8) hx hb d_M_disturb_137 (by decide) ?_
            refine lv_iload_n hx hb d_M_disturb_139 rfl (lv_at hl 2 rfl) ?_
            refine lv_imul hx hb d_M_disturb_140 ?_
            refine lv_iload hx hb d_M_disturb_141 (lv_at hl 0 rfl) ?_
            refine lv_iadd hx hb d_M_disturb_143 ?_
            refine lv_iload_n hx hb d_M_disturb_144 rfl (lv_at hl 4 rfl) ?_
            refine g_iastore (k := (tn ((8 * a1) + (G0 32 (tn a1))))) E hH ⟨by decide, fun _ => rfl⟩ (ds_in2 (ok1 h1) (hm _ (ok1 h1)) h2 h3) rfl d_M_disturb_145 (fun H locs hH => ?_)
            refine lv_aload_n hx hb d_M_disturb_146 rfl (lv_at hl 1 rfl) ?_
            refine g_get E hH (gc_M rfl) cl_M 12 (by decide) lf_M_41 rfl d_M_disturb_147 ?_
            refine lv_iload_n hx hb d_M_disturb_150 rfl (lv_at hl 2 rfl) ?_
            refine g_iaload (k := (tn a1)) (v := ((G0 32 (tn a1)) + 1)) E hH ⟨by decide, fun _ => rfl⟩ (e_in (ok1 h1)) rfl ((wr_ck _ _ _ _ (by decide)).trans ((wr_ck _ _ _ _ (by decide)).trans (wr_same _ _ _ _))) d_M_disturb_151 ?_
            exact g_iret E hH (hsp.trans (by rw [sp_M_disturb]; exact ((if_pos h1).trans ((if_pos h2).trans (if_neg h3))))) d_M_disturb_152
        · refine lv_iconst (v := 0) hx hb d_M_disturb_90 (by decide) ?_
          exact g_iret E hH (hsp.trans (by rw [sp_M_disturb]; exact ((if_pos h1).trans (if_neg h2)))) d_M_disturb_91
      · refine lv_if_ge (tgt := 79) hx hb d_M_disturb_61 (by decide) (fun h4 => ?_) (fun h4 => ?_)
        · refine lv_iconst (v := 0) hx hb d_M_disturb_79 (by decide) ?_
          exact hJ _ _ _ ⟨Eq.symm (if_pos h4), hH⟩
        · refine lv_aload_n hx hb d_M_disturb_64 rfl (lv_at hl 1 rfl) ?_
          refine g_get E hH (gc_M rfl) cl_M 12 (by decide) lf_M_41 rfl d_M_disturb_65 ?_
          refine lv_iload_n hx hb d_M_disturb_68 rfl (lv_at hl 2 rfl) ?_
          refine g_iaload (k := (tn a1)) (v := (G0 32 (tn a1))) E hH ⟨by decide, fun _ => rfl⟩ (e_in (ok1 h1)) rfl (wr_ck _ _ _ _ (by decide)) d_M_disturb_69 ?_
          refine lv_bipush (v := 8) hx hb d_M_disturb_70 (by decide) ?_
          refine lv_icmp_ne (tgt := 79) hx hb d_M_disturb_72 (by decide) (fun h5 => ?_) (fun h5 => ?_)
          · refine lv_iconst (v := 0) hx hb d_M_disturb_79 (by decide) ?_
            exact hJ _ _ _ ⟨Eq.symm ((if_neg h4).trans (if_neg h5)), hH⟩
          · refine lv_iconst (v := 2) hx hb d_M_disturb_75 (by decide) ?_
            refine lv_goto (tgt := 80) hx hb d_M_disturb_76 (by decide) ?_
            exact hJ _ _ _ ⟨Eq.symm ((if_neg h4).trans (if_pos h5)), hH⟩
    · refine lv_iconst (v := 0) hx hb d_M_disturb_43 (by decide) ?_
      exact g_iret E hH (hsp.trans (by rw [sp_M_disturb]; exact (if_neg h1))) d_M_disturb_44
  · refine lv_if_eq (tgt := 32) hx hb d_M_disturb_5 (by decide) (fun h6 => ?_) (fun h6 => ?_)
    · refine lv_iconst (v := 1) hx hb d_M_disturb_32 (by decide) ?_
      exact hJ _ _ _ ⟨Eq.symm (if_pos h6), isB_1, hH⟩
    · refine lv_iload_n hx hb d_M_disturb_8 rfl (lv_at hl 2 rfl) ?_
      refine lv_iconst (v := 1) hx hb d_M_disturb_9 (by decide) ?_
      refine lv_sipush (v := 1000) hx hb d_M_disturb_10 (by decide) ?_
      refine g_callSrz (As := [.int _, .int _, .int _]) E hH hl (c_M_within l P _ _ _ _) lm_M_196 (Nat.le_of_ble_eq_true rfl) (Nat.le_of_ble_eq_true rfl) (Nat.le_of_ble_eq_true rfl) (Nat.le_of_ble_eq_true rfl) (Nat.le_of_ble_eq_true rfl) rfl rfl rfl rfl d_M_disturb_13 (fun H locs hH hz13 => ?_)
      refine lv_if_eq (tgt := 32) hx hb d_M_disturb_16 (by decide) (fun h7 => ?_) (fun h7 => ?_)
      · refine lv_iconst (v := 1) hx hb d_M_disturb_32 (by decide) ?_
        exact hJ _ _ _ ⟨Eq.symm ((if_neg h6).trans (if_pos h7)), isB_1, hH⟩
      · refine lv_iload_n hx hb d_M_disturb_19 rfl (lv_at hl 3 rfl) ?_
        refine lv_iconst (v := (-1)) hx hb d_M_disturb_20 (by decide) ?_
        refine lv_iconst (v := 1) hx hb d_M_disturb_21 (by decide) ?_
        refine g_callSrz (As := [.int _, .int _, .int _]) E hH hl (c_M_within l P _ _ _ _) lm_M_196 (Nat.le_of_ble_eq_true rfl) (Nat.le_of_ble_eq_true rfl) (Nat.le_of_ble_eq_true rfl) (Nat.le_of_ble_eq_true rfl) (Nat.le_of_ble_eq_true rfl) rfl rfl rfl rfl d_M_disturb_22 (fun H locs hH hz22 => ?_)
        refine lv_if_eq (tgt := 32) hx hb d_M_disturb_25 (by decide) (fun h8 => ?_) (fun h8 => ?_)
        · refine lv_iconst (v := 1) hx hb d_M_disturb_32 (by decide) ?_
          exact hJ _ _ _ ⟨Eq.symm ((if_neg h6).trans ((if_neg h7).trans (if_pos h8))), isB_1, hH⟩
        · refine lv_iconst (v := 0) hx hb d_M_disturb_28 (by decide) ?_
          refine lv_goto (tgt := 33) hx hb d_M_disturb_29 (by decide) ?_
          exact hJ _ _ _ ⟨Eq.symm ((if_neg h6).trans ((if_neg h7).trans (if_neg h8))), isB_0, hH⟩

def sp_M_pass_22 (a1 : Int32) : Nat → Mem → Int32 → Int32 × Mem
 | 0, G, x2 => (0, G)
  | d + 1, G, x2 =>
  (if a1 ≤ x2 then (((if (G 21 0) = 0 then (G 21 1) else 0) : Int32), G) else (if (G 21 0) = 0 then (sp_M_pass_22 a1 d (sp_M_arrive (sp_M_arrive (((sp_M_send (((sp_M_send (wr G 21 1 ((G 21 1) + 1)) 0)).2) 1)).2) 0 (((sp_M_send (((sp_M_send (wr G 21 1 ((G 21 1) + 1)) 0)).2) 1)).1)) 1 (((sp_M_send (wr G 21 1 ((G 21 1) + 1)) 0)).1)) (x2 + 1)) else ((0 : Int32), G)))
def sp_M_pass  (G0 : Mem) (a1 : Int32) : Int32 × Mem :=
  (sp_M_pass_22 a1 601 (wr G0 21 0 ((if ((sp_M_within G0 a1 1 600)) = 0 then 1 else 0) : Int32)) 0)
set_option maxHeartbeats 4000000 in
set_option maxRecDepth 100000 in
theorem c_M_pass (l : Launch) (P : gP) (G0 : Mem)  (a1 : Int32) (hm : hmM G0) : gMi l y_M_pass b_M_pass 5 (some .int) ({ frames := 7, cells := 0, slots := 0, locals := 164 }) [.ref (gad P 21), .int a1] P G0 (sp_M_pass G0 a1) := by
  refine Met.ofW (cc := b_M_pass) (maxL := 5) (ret := (some .int)) (by decide) rfl ?_
  intro p e s m args below meth c0 s₁ B hml hv
  obtain ⟨rfl, hpre⟩ := hv
  obtain ⟨E, hH⟩ := gE_of B hml hpre
  replace E : gE p s m _ meth c0 P "FramedLineModel" b_M_pass 5 (some .int) := E
  have hx := E.1
  have hb := E.2.1
  have hl := lv_entry ([.ref (gad P 21), .int a1]) (n := 5) (Nat.le_of_ble_eq_true rfl)
  rw [lg_entry_eq]
  generalize (lg_sl ([.ref (gad P 21), .int a1]) ++ List.replicate (5 - (lg_sl ([.ref (gad P 21), .int a1])).length) Slot.unset).toArray = ls at hl ⊢
  replace hl : lv_has ls 5 [(0, .ref (gad P 21)), (1, .int a1)] := hl
  have hsp : sp_M_pass G0 a1 = sp_M_pass G0 a1 := rfl
  refine jl (α := Nat × Mem × Array Slot × Int32) (fun q H1 locs1 => sp_M_pass G0 a1 = sp_M_pass_22 a1 q.1 q.2.1 q.2.2.2 ∧ ((∃ j : Nat, j ≤ 600 ∧ q.2.2.2 = nI j ∧ q.1 = 601 - j) ∧ (q.2.1 21 0 = 0 → a1 ≤ 600) ∧ hmM q.2.1) ∧ lv_has q.2.2.1 5 [(0, .ref (gad P 21)), (1, .int a1), (2, .int q.2.2.2)] ∧ gH P s q.2.1 H1 locs1) (fun q => F0 m 22 q.2.2.1 []) (fun q => q.1) (fun q H locs h9 ih22 => ?_) (fun hC22 => ?_)
  · clear hsp hl hH ls
    obtain ⟨n, G, ls, x2⟩ := q
    obtain ⟨hsp, hinv, hl, hH⟩ := h9
    dsimp only at hinv
    obtain ⟨d, rfl⟩ : ∃ d, n = d + 1 := by obtain ⟨⟨j, h1, -, h3⟩, -⟩ := hinv; exact ⟨n - 1, by omega⟩
    change lv_has ls 5 [(0, .ref (gad P 21)), (1, .int a1), (2, .int x2)] at hl
    dsimp only at hsp hH ⊢
    refine lv_iload_n hx hb d_M_pass_22 rfl (lv_at hl 2 rfl) ?_
    refine lv_iload_n hx hb d_M_pass_23 rfl (lv_at hl 1 rfl) ?_
    refine lv_icmp_ge (tgt := 76) hx hb d_M_pass_24 (by decide) (fun h1 => ?_) (fun h1 => ?_)
    · refine lv_aload_n hx hb d_M_pass_76 rfl (lv_at hl 0 rfl) ?_
      refine g_geti (v := (G 21 0)) E hH (gc_M rfl) cl_M 0 (by decide) lf_M_137 (fun _ => rfl) rfl d_M_pass_77 ?_
      refine jn (α := Int32) (fun z H1 locs1 => z = ((if (G 21 0) = 0 then (G 21 1) else 0) : Int32) ∧ gH P s G H1 locs1) (fun z => F0 m 91 ls (.int z :: [])) (fun z H locs h9 => ?_) (fun hJ => ?_)
      · obtain ⟨rfl, hH⟩ := h9
        exact g_iret E hH (hsp.trans (by simp only [sp_M_pass_22, if_pos h1])) d_M_pass_91
      · refine lv_if_ne (tgt := 90) hx hb d_M_pass_80 (by decide) (fun h2 => ?_) (fun h2 => ?_)
        · refine lv_iconst (v := 0) hx hb d_M_pass_90 (by decide) ?_
          exact hJ _ _ _ ⟨by simp only [if_neg h2], hH⟩
        · refine lv_aload_n hx hb d_M_pass_83 rfl (lv_at hl 0 rfl) ?_
          refine g_geti (v := (G 21 1)) E hH (gc_M rfl) cl_M 1 (by decide) lf_M_156 (fun _ => rfl) rfl d_M_pass_84 ?_
          refine lv_goto (tgt := 91) hx hb d_M_pass_87 (by decide) ?_
          exact hJ _ _ _ ⟨by simp only [if_pos h2], hH⟩
    · refine lv_aload_n hx hb d_M_pass_27 rfl (lv_at hl 0 rfl) ?_
      refine g_geti (v := (G 21 0)) E hH (gc_M rfl) cl_M 0 (by decide) lf_M_137 (fun _ => rfl) rfl d_M_pass_28 ?_
      refine lv_if_ne (tgt := 76) hx hb d_M_pass_31 (by decide) (fun h3 => ?_) (fun h3 => ?_)
      · refine lv_aload_n hx hb d_M_pass_76 rfl (lv_at hl 0 rfl) ?_
        refine g_geti (v := (G 21 0)) E hH (gc_M rfl) cl_M 0 (by decide) lf_M_137 (fun _ => rfl) rfl d_M_pass_77 ?_
        refine lv_if_ne (tgt := 90) hx hb d_M_pass_80 (by decide) (fun _ => ?_) (fun h0 => absurd h0 h3)
        refine lv_iconst (v := 0) hx hb d_M_pass_90 (by decide) ?_
        exact g_iret E hH (hsp.trans (by simp only [sp_M_pass_22, if_neg h1, if_neg h3])) d_M_pass_91
      · refine lv_aload_n hx hb d_M_pass_34 rfl (lv_at hl 0 rfl) ?_
        refine lv_dup hx hb d_M_pass_35 rfl ?_
        refine g_geti (v := (G 21 1)) E hH (gc_M rfl) cl_M 1 (by decide) lf_M_156 (fun _ => rfl) rfl d_M_pass_36 ?_
        refine lv_iconst (v := 1) hx hb d_M_pass_39 (by decide) ?_
        refine lv_iadd hx hb d_M_pass_40 ?_
        refine g_puti E hH (gc_M rfl) cl_M ct_M 1 (by decide) lf_M_156 rfl (by decide +kernel) (fun _ _ => rfl) (Nat.le_of_ble_eq_true rfl) d_M_pass_41 (fun H locs hH => ?_)
        refine lv_aload_n hx hb d_M_pass_44 rfl (lv_at hl 0 rfl) ?_
        refine lv_iconst (v := 0) hx hb d_M_pass_45 (by decide) ?_
        refine g_callVi (As := [.int _]) E hH hl (c_M_send l P _ _ (Or.inl rfl)) lm_M_200 (gc_M rfl) cl_M (Nat.le_of_ble_eq_true rfl) (Nat.le_of_ble_eq_true rfl) (Nat.le_of_ble_eq_true rfl) (Nat.le_of_ble_eq_true rfl) (Nat.le_of_ble_eq_true rfl) rfl rfl rfl rfl d_M_pass_46 (fun H locs hH => ?_)
        refine lv_istore_n hx hb d_M_pass_49 rfl hl (by decide) rfl (fun ls hl => ?_)
        refine lv_aload_n hx hb d_M_pass_50 rfl (lv_at hl 1 rfl) ?_
        refine lv_iconst (v := 1) hx hb d_M_pass_51 (by decide) ?_
        refine g_callVi (As := [.int _]) E hH hl (c_M_send l P _ _ (Or.inr rfl)) lm_M_200 (gc_M rfl) cl_M (Nat.le_of_ble_eq_true rfl) (Nat.le_of_ble_eq_true rfl) (Nat.le_of_ble_eq_true rfl) (Nat.le_of_ble_eq_true rfl) (Nat.le_of_ble_eq_true rfl) rfl rfl rfl rfl d_M_pass_52 (fun H locs hH => ?_)
        refine lv_istore hx hb d_M_pass_55 hl (by decide) rfl (fun ls hl => ?_)
        refine lv_aload_n hx hb d_M_pass_57 rfl (lv_at hl 2 rfl) ?_
        refine lv_iconst (v := 0) hx hb d_M_pass_58 (by decide) ?_
        refine lv_iload hx hb d_M_pass_59 (lv_at hl 0 rfl) ?_
        refine g_callVv (As := [.int _, .int _]) E hH hl (c_M_arrive l P _ _ _ (Or.inl rfl) ((hmM_send (hmM_send (hmM_wr hinv.2.2) 0) 1) 0 (Or.inl rfl))) lm_M_203 (gc_M rfl) cl_M (Nat.le_of_ble_eq_true rfl) (Nat.le_of_ble_eq_true rfl) (Nat.le_of_ble_eq_true rfl) (Nat.le_of_ble_eq_true rfl) (Nat.le_of_ble_eq_true rfl) rfl rfl rfl rfl d_M_pass_61 (fun H locs hH => ?_)
        refine lv_aload_n hx hb d_M_pass_64 rfl (lv_at hl 2 rfl) ?_
        refine lv_iconst (v := 1) hx hb d_M_pass_65 (by decide) ?_
        refine lv_iload_n hx hb d_M_pass_66 rfl (lv_at hl 1 rfl) ?_
        refine g_callVv (As := [.int _, .int _]) E hH hl (c_M_arrive l P _ _ _ (Or.inr rfl) ((hmM_arr (hmM_send (hmM_send (hmM_wr hinv.2.2) 0) 1) (Or.inl rfl)) 1 (Or.inr rfl))) lm_M_203 (gc_M rfl) cl_M (Nat.le_of_ble_eq_true rfl) (Nat.le_of_ble_eq_true rfl) (Nat.le_of_ble_eq_true rfl) (Nat.le_of_ble_eq_true rfl) (Nat.le_of_ble_eq_true rfl) rfl rfl rfl rfl d_M_pass_67 (fun H locs hH => ?_)
        refine lv_iinc (k := 4) (v := (x2 + 1)) hx hb d_M_pass_70 hl rfl rfl (by decide) rfl (fun ls hl => ?_)
        refine lv_goto (tgt := 22) hx hb d_M_pass_73 (by decide) ?_
        have hq1 : sp_M_pass G0 a1 = sp_M_pass_22 a1 d (sp_M_arrive (sp_M_arrive (((sp_M_send (((sp_M_send (wr G 21 1 ((G 21 1) + 1)) 0)).2) 1)).2) 0 (((sp_M_send (((sp_M_send (wr G 21 1 ((G 21 1) + 1)) 0)).2) 1)).1)) 1 (((sp_M_send (wr G 21 1 ((G 21 1) + 1)) 0)).1)) (x2 + 1) := hsp.trans (by simp only [sp_M_pass_22, if_neg h1, if_pos h3])
        have hq2 : hmM (sp_M_arrive (sp_M_arrive (((sp_M_send (((sp_M_send (wr G 21 1 ((G 21 1) + 1)) 0)).2) 1)).2) 0 (((sp_M_send (((sp_M_send (wr G 21 1 ((G 21 1) + 1)) 0)).2) 1)).1)) 1 (((sp_M_send (wr G 21 1 ((G 21 1) + 1)) 0)).1)) := hmM_arr (hmM_arr (hmM_send (hmM_send (hmM_wr hinv.2.2) 0) 1) (Or.inl rfl)) (Or.inr rfl)
        generalize (sp_M_arrive (sp_M_arrive (((sp_M_send (((sp_M_send (wr G 21 1 ((G 21 1) + 1)) 0)).2) 1)).2) 0 (((sp_M_send (((sp_M_send (wr G 21 1 ((G 21 1) + 1)) 0)).2) 1)).1)) 1 (((sp_M_send (wr G 21 1 ((G 21 1) + 1)) 0)).1)) = X9 at hq1 hq2 hH
        exact ih22 (d, X9, _, (x2 + 1)) _ _ (Nat.lt_succ_self _) ⟨hq1, ⟨fp_step hinv.1 (hinv.2.1 h3) h1, fun _ => hinv.2.1 h3, hq2⟩, lv_sub hl [3, 4, 0] rfl, hH⟩
  refine lv_aload_n hx hb d_M_pass_0 rfl (lv_at hl 0 rfl) ?_
  refine lv_iload_n hx hb d_M_pass_1 rfl (lv_at hl 1 rfl) ?_
  refine lv_iconst (v := 1) hx hb d_M_pass_2 (by decide) ?_
  refine lv_sipush (v := 600) hx hb d_M_pass_3 (by decide) ?_
  refine g_callSrz (As := [.int _, .int _, .int _]) E hH hl (c_M_within l P _ _ _ _) lm_M_196 (Nat.le_of_ble_eq_true rfl) (Nat.le_of_ble_eq_true rfl) (Nat.le_of_ble_eq_true rfl) (Nat.le_of_ble_eq_true rfl) (Nat.le_of_ble_eq_true rfl) rfl rfl rfl rfl d_M_pass_6 (fun H locs hH hz6 => ?_)
  refine jn (α := Int32) (fun z H1 locs1 => z = ((if ((sp_M_within G0 a1 1 600)) = 0 then 1 else 0) : Int32) ∧ isB z ∧ gH P s G0 H1 locs1) (fun z => F0 m 17 ls (.int z :: .ref (gad P 21) :: [])) (fun z H locs h9 => ?_) (fun hJ => ?_)
  · obtain ⟨rfl, hz17, hH⟩ := h9
    refine g_puti E hH (gc_M rfl) cl_M ct_M 0 (by decide) lf_M_137 rfl (by decide +kernel) (fun _ _ => rfl) (Nat.le_of_ble_eq_true rfl) d_M_pass_17 (fun H locs hH => ?_)
    refine lv_iconst (v := 0) hx hb d_M_pass_20 (by decide) ?_
    refine lv_istore_n hx hb d_M_pass_21 rfl hl (by decide) rfl (fun ls hl => ?_)
    exact hC22 (601, (wr G0 21 0 ((if ((sp_M_within G0 a1 1 600)) = 0 then 1 else 0) : Int32)), _, 0) _ _ ⟨hsp.trans (by rw [sp_M_pass]), ⟨⟨0, by omega, rfl, rfl⟩, mp_le, hmM_wr hm⟩, lv_sub hl [1, 2, 0] rfl, hH⟩
  · refine lv_if_eq (tgt := 16) hx hb d_M_pass_9 (by decide) (fun h4 => ?_) (fun h4 => ?_)
    · refine lv_iconst (v := 1) hx hb d_M_pass_16 (by decide) ?_
      exact hJ _ _ _ ⟨by simp only [if_pos h4], isB_1, hH⟩
    · refine lv_iconst (v := 0) hx hb d_M_pass_12 (by decide) ?_
      refine lv_goto (tgt := 17) hx hb d_M_pass_13 (by decide) ?_
      exact hJ _ _ _ ⟨by simp only [if_neg h4], isB_0, hH⟩

def sp_F_disturb  (G0 : Mem) (a1 : Int32) (a2 : Int32) (a3 : Int32) : Int32 × Int32 × Mem :=
  (if (sp_F_endOf G0 a1).1 = 0 then (if (sp_F_require ((sp_F_endOf G0 a1).2.2) ((if a2 < 1 then 0 else (if 1000 < a2 then 0 else (if a3 < (-1) then 0 else (if 1 < a3 then 0 else 1)))) : Int32)).1 = 0 then (if ((sp_A_change ((tn (sp_F_endOf G0 a1).2.1) + 4) ((sp_F_require ((sp_F_endOf G0 a1).2.2) ((if a2 < 1 then 0 else (if 1000 < a2 then 0 else (if a3 < (-1) then 0 else (if 1 < a3 then 0 else 1)))) : Int32)).2.2) (((sp_F_require ((sp_F_endOf G0 a1).2.2) ((if a2 < 1 then 0 else (if 1000 < a2 then 0 else (if a3 < (-1) then 0 else (if 1 < a3 then 0 else 1)))) : Int32)).2.2 0 2) + a2) a3)).1 = 0 then (2, 0, ((sp_A_change ((tn (sp_F_endOf G0 a1).2.1) + 4) ((sp_F_require ((sp_F_endOf G0 a1).2.2) ((if a2 < 1 then 0 else (if 1000 < a2 then 0 else (if a3 < (-1) then 0 else (if 1 < a3 then 0 else 1)))) : Int32)).2.2) (((sp_F_require ((sp_F_endOf G0 a1).2.2) ((if a2 < 1 then 0 else (if 1000 < a2 then 0 else (if a3 < (-1) then 0 else (if 1 < a3 then 0 else 1)))) : Int32)).2.2 0 2) + a2) a3)).2) else (0, (((sp_A_change ((tn (sp_F_endOf G0 a1).2.1) + 4) ((sp_F_require ((sp_F_endOf G0 a1).2.2) ((if a2 < 1 then 0 else (if 1000 < a2 then 0 else (if a3 < (-1) then 0 else (if 1 < a3 then 0 else 1)))) : Int32)).2.2) (((sp_F_require ((sp_F_endOf G0 a1).2.2) ((if a2 < 1 then 0 else (if 1000 < a2 then 0 else (if a3 < (-1) then 0 else (if 1 < a3 then 0 else 1)))) : Int32)).2.2 0 2) + a2) a3)).2 ((tn (sp_F_endOf G0 a1).2.1) + 4) 2), ((sp_A_change ((tn (sp_F_endOf G0 a1).2.1) + 4) ((sp_F_require ((sp_F_endOf G0 a1).2.2) ((if a2 < 1 then 0 else (if 1000 < a2 then 0 else (if a3 < (-1) then 0 else (if 1 < a3 then 0 else 1)))) : Int32)).2.2) (((sp_F_require ((sp_F_endOf G0 a1).2.2) ((if a2 < 1 then 0 else (if 1000 < a2 then 0 else (if a3 < (-1) then 0 else (if 1 < a3 then 0 else 1)))) : Int32)).2.2 0 2) + a2) a3)).2)) else ((sp_F_require ((sp_F_endOf G0 a1).2.2) ((if a2 < 1 then 0 else (if 1000 < a2 then 0 else (if a3 < (-1) then 0 else (if 1 < a3 then 0 else 1)))) : Int32)).1, 0, (sp_F_require ((sp_F_endOf G0 a1).2.2) ((if a2 < 1 then 0 else (if 1000 < a2 then 0 else (if a3 < (-1) then 0 else (if 1 < a3 then 0 else 1)))) : Int32)).2.2)) else ((sp_F_endOf G0 a1).1, 0, (sp_F_endOf G0 a1).2.2))
set_option maxHeartbeats 4000000 in
set_option maxRecDepth 100000 in
theorem c_F_disturb (l : Launch) (htr : l.stackTraces = false) (P : gP) (G0 : Mem)  (a1 : Int32) (a2 : Int32) (a3 : Int32) (hm : hmC G0) : xMet l y_F_disturb b_F_disturb 5 (some .int) ({ frames := 8, cells := 1, slots := 6, locals := 131 }) [.ref (gad P 0), .int a1, .int a2, .int a3] vI P G0 (sp_F_disturb G0 a1 a2 a3) := by
  refine xMet.ofW (by decide) ?_
  intro p e s m args below meth c0 s₁ B hml hv
  obtain ⟨rfl, hpre⟩ := hv
  obtain ⟨⟨E, hH⟩, hx0, hno⟩ := gE_ofX B hml hpre
  replace E : gE p s m _ meth c0 P "FramedLine" b_F_disturb 5 (some .int) := E
  have hx := E.1
  have hb := E.2.1
  have hl := lv_entry ([.ref (gad P 0), .int a1, .int a2, .int a3]) (n := 5) (Nat.le_of_ble_eq_true rfl)
  rw [lg_entry_eq]
  generalize (lg_sl ([.ref (gad P 0), .int a1, .int a2, .int a3]) ++ List.replicate (5 - (lg_sl ([.ref (gad P 0), .int a1, .int a2, .int a3])).length) Slot.unset).toArray = ls at hl ⊢
  replace hl : lv_has ls 5 [(0, .ref (gad P 0)), (1, .int a1), (2, .int a2), (3, .int a3)] := hl
  have hsp : sp_F_disturb G0 a1 a2 a3 = sp_F_disturb G0 a1 a2 a3 := rfl
  refine lv_aload_n hx hb d_F_disturb_0 rfl (lv_at hl 0 rfl) ?_
  refine lv_iload_n hx hb d_F_disturb_1 rfl (lv_at hl 1 rfl) ?_
  refine x_callV (As := [.int _]) E hx0 hH hl (c_F_endOf l htr P _ _) lm_F_23 (gc_F rfl) cl_F (Nat.le_of_ble_eq_true rfl) (Nat.le_of_ble_eq_true rfl) (Nat.le_of_ble_eq_true rfl) (Nat.le_of_ble_eq_true rfl) (Nat.le_of_ble_eq_true rfl) rfl rfl d_F_disturb_2 (fun h1 H locs hH => ?_) (fun h1 q ce H locs hH hce hcv hcl => ?_)
  · refine lv_astore hx hb d_F_disturb_5 hl (by decide) rfl (fun ls hl => ?_)
    refine lv_iload_n hx hb d_F_disturb_7 rfl (lv_at hl 3 rfl) ?_
    refine lv_iconst (v := 1) hx hb d_F_disturb_8 (by decide) ?_
    refine jn (α := Int32) (fun z H1 locs1 => z = ((if a2 < 1 then 0 else (if 1000 < a2 then 0 else (if a3 < (-1) then 0 else (if 1 < a3 then 0 else 1)))) : Int32) ∧ isB z ∧ gH P s ((sp_F_endOf G0 a1).2.2) H1 locs1) (fun z => F0 m 34 ls (.int z :: [])) (fun z H locs h9 => ?_) (fun hJ => ?_)
    · obtain ⟨rfl, hz34, hH⟩ := h9
      refine x_callS (As := [.int _]) E hx0 hH hl (c_F_require l htr P _ _) lm_F_27 (Nat.le_of_ble_eq_true rfl) (Nat.le_of_ble_eq_true rfl) (Nat.le_of_ble_eq_true rfl) (Nat.le_of_ble_eq_true rfl) (Nat.le_of_ble_eq_true rfl) rfl rfl d_F_disturb_34 (fun h2 H locs hH => ?_) (fun h2 q ce H locs hH hce hcv hcl => ?_)
      · refine lv_aload hx hb d_F_disturb_37 (lv_at hl 0 rfl) ?_
        refine g_getN E hH (gc_N (endOf_N h1)) cl_N 2 (by decide) lf_F_41 rfl d_F_disturb_39 ?_
        refine lv_aload_n hx hb d_F_disturb_42 rfl (lv_at hl 1 rfl) ?_
        refine g_geti (v := ((sp_F_require ((sp_F_endOf G0 a1).2.2) ((if a2 < 1 then 0 else (if 1000 < a2 then 0 else (if a3 < (-1) then 0 else (if 1 < a3 then 0 else 1)))) : Int32)).2.2 0 2)) E hH (gc_F rfl) cl_F 2 (by decide) lf_F_19 (fun _ => rfl) rfl d_F_disturb_43 ?_
        refine lv_iload_n hx hb d_F_disturb_46 rfl (lv_at hl 3 rfl) ?_
        refine lv_iadd hx hb d_F_disturb_47 ?_
        refine lv_iload_n hx hb d_F_disturb_48 rfl (lv_at hl 4 rfl) ?_
        refine g_callVz (As := [.int _, .int _]) E hH hl (c_A_change l P _ ((tn (sp_F_endOf G0 a1).2.1) + 4) _ _ (kN_arrivals (endOf_N h1)) (by rw [rq_mem, eo_mem]; exact hm _ (endOf_N h1))) lm_F_45 (gc_A (kN_arrivals (endOf_N h1))) cl_A (Nat.le_of_ble_eq_true rfl) (Nat.le_of_ble_eq_true rfl) (Nat.le_of_ble_eq_true rfl) (Nat.le_of_ble_eq_true rfl) (Nat.le_of_ble_eq_true rfl) rfl rfl rfl rfl d_F_disturb_49 (fun H locs hH hz49 => ?_)
        refine lv_if_ne (tgt := 65) hx hb d_F_disturb_52 (by decide) (fun h3 => ?_) (fun h3 => ?_)
        · refine lv_aload hx hb d_F_disturb_65 (lv_at hl 0 rfl) ?_
          refine g_getN E hH (gc_N (endOf_N h1)) cl_N 2 (by decide) lf_F_41 rfl d_F_disturb_67 ?_
          refine g_getiN (v := (((sp_A_change ((tn (sp_F_endOf G0 a1).2.1) + 4) ((sp_F_require ((sp_F_endOf G0 a1).2.2) ((if a2 < 1 then 0 else (if 1000 < a2 then 0 else (if a3 < (-1) then 0 else (if 1 < a3 then 0 else 1)))) : Int32)).2.2) (((sp_F_require ((sp_F_endOf G0 a1).2.2) ((if a2 < 1 then 0 else (if 1000 < a2 then 0 else (if a3 < (-1) then 0 else (if 1 < a3 then 0 else 1)))) : Int32)).2.2 0 2) + a2) a3)).2 ((tn (sp_F_endOf G0 a1).2.1) + 4) 2)) E hH (gc_A (kN_arrivals (endOf_N h1))) cl_A 2 (by decide) lf_F_58 (fun _ => rfl) rfl d_F_disturb_70 ?_
          exact x_iret E hH (hsp.trans (by rw [sp_F_disturb]; exact ((if_pos h1).trans ((if_pos h2).trans (if_neg h3))))) d_F_disturb_73
        · have hX : sp_F_disturb G0 a1 a2 a3 = (2, 0, ((sp_A_change ((tn (sp_F_endOf G0 a1).2.1) + 4) ((sp_F_require ((sp_F_endOf G0 a1).2.2) ((if a2 < 1 then 0 else (if 1000 < a2 then 0 else (if a3 < (-1) then 0 else (if 1 < a3 then 0 else 1)))) : Int32)).2.2) (((sp_F_require ((sp_F_endOf G0 a1).2.2) ((if a2 < 1 then 0 else (if 1000 < a2 then 0 else (if a3 < (-1) then 0 else (if 1 < a3 then 0 else 1)))) : Int32)).2.2 0 2) + a2) a3)).2) := (hsp.trans (by rw [sp_F_disturb]; exact ((if_pos h1).trans ((if_pos h2).trans (if_pos h3)))))
          exact x_throw E hx0 hH hl htr hno (by rw [hX]; show (2 : Int32) ≠ 0; decide) (by rw [hX]; rfl) (by rw [hX]) xOk_s (by decide +kernel) lk_F_51 li_IllegalStateException hx0.2.2.2.2.1 (Nat.le_of_ble_eq_true rfl) (Nat.le_of_ble_eq_true rfl) (Nat.le_of_ble_eq_true rfl) (Nat.le_of_ble_eq_true rfl) d_F_disturb_55 d_F_disturb_58 d_F_disturb_59 d_F_disturb_61 d_F_disturb_64
      · exact x_on E hno h2 (hsp.trans (by rw [sp_F_disturb]; exact ((if_pos h1).trans (if_neg h2)))) hH hce hcv hcl
    · refine lv_icmp_lt (tgt := 33) hx hb d_F_disturb_9 (by decide) (fun h4 => ?_) (fun h4 => ?_)
      · refine lv_iconst (v := 0) hx hb d_F_disturb_33 (by decide) ?_
        exact hJ _ _ _ ⟨by simp only [if_pos h4], isB_0, hH⟩
      · refine lv_iload_n hx hb d_F_disturb_12 rfl (lv_at hl 3 rfl) ?_
        refine lv_sipush (v := 1000) hx hb d_F_disturb_13 (by decide) ?_
        refine lv_icmp_gt (tgt := 33) hx hb d_F_disturb_16 (by decide) (fun h5 => ?_) (fun h5 => ?_)
        · refine lv_iconst (v := 0) hx hb d_F_disturb_33 (by decide) ?_
          exact hJ _ _ _ ⟨by simp only [if_neg h4, if_pos h5], isB_0, hH⟩
        · refine lv_iload_n hx hb d_F_disturb_19 rfl (lv_at hl 4 rfl) ?_
          refine lv_iconst (v := (-1)) hx hb d_F_disturb_20 (by decide) ?_
          refine lv_icmp_lt (tgt := 33) hx hb d_F_disturb_21 (by decide) (fun h6 => ?_) (fun h6 => ?_)
          · refine lv_iconst (v := 0) hx hb d_F_disturb_33 (by decide) ?_
            exact hJ _ _ _ ⟨by simp only [if_neg h4, if_neg h5, if_pos h6], isB_0, hH⟩
          · refine lv_iload_n hx hb d_F_disturb_24 rfl (lv_at hl 4 rfl) ?_
            refine lv_iconst (v := 1) hx hb d_F_disturb_25 (by decide) ?_
            refine lv_icmp_gt (tgt := 33) hx hb d_F_disturb_26 (by decide) (fun h7 => ?_) (fun h7 => ?_)
            · refine lv_iconst (v := 0) hx hb d_F_disturb_33 (by decide) ?_
              exact hJ _ _ _ ⟨by simp only [if_neg h4, if_neg h5, if_neg h6, if_pos h7], isB_0, hH⟩
            · refine lv_iconst (v := 1) hx hb d_F_disturb_29 (by decide) ?_
              refine lv_goto (tgt := 34) hx hb d_F_disturb_30 (by decide) ?_
              exact hJ _ _ _ ⟨by simp only [if_neg h4, if_neg h5, if_neg h6, if_neg h7], isB_1, hH⟩
  · exact x_on E hno h1 (hsp.trans (by rw [sp_F_disturb]; exact (if_neg h1))) hH hce hcv hcl

def sp_F_pass_22 (a1 : Int32) : Nat → Mem → Int32 → Int32 × Int32 × Mem
 | 0, G, x2 => (0, 0, G)
  | d + 1, G, x2 =>
  (if a1 ≤ x2 then (0, (G 0 2), G) else (sp_F_pass_22 a1 d (sp_N_receive 11 (sp_N_receive 1 (((sp_N_send 11 (((sp_N_send 1 (wr G 0 2 ((G 0 2) + 1)))).2))).2) (((sp_N_send 11 (((sp_N_send 1 (wr G 0 2 ((G 0 2) + 1)))).2))).2 0 2) (((sp_N_send 11 (((sp_N_send 1 (wr G 0 2 ((G 0 2) + 1)))).2))).1)) ((sp_N_receive 1 (((sp_N_send 11 (((sp_N_send 1 (wr G 0 2 ((G 0 2) + 1)))).2))).2) (((sp_N_send 11 (((sp_N_send 1 (wr G 0 2 ((G 0 2) + 1)))).2))).2 0 2) (((sp_N_send 11 (((sp_N_send 1 (wr G 0 2 ((G 0 2) + 1)))).2))).1)) 0 2) (((sp_N_send 1 (wr G 0 2 ((G 0 2) + 1)))).1)) (x2 + 1)))
def sp_F_pass  (G0 : Mem) (a1 : Int32) : Int32 × Int32 × Mem :=
  (if (sp_F_require G0 ((if a1 < 1 then 0 else (if 600 < a1 then 0 else 1)) : Int32)).1 = 0 then (sp_F_pass_22 a1 601 ((sp_F_require G0 ((if a1 < 1 then 0 else (if 600 < a1 then 0 else 1)) : Int32)).2.2) 0) else ((sp_F_require G0 ((if a1 < 1 then 0 else (if 600 < a1 then 0 else 1)) : Int32)).1, 0, (sp_F_require G0 ((if a1 < 1 then 0 else (if 600 < a1 then 0 else 1)) : Int32)).2.2))
set_option maxHeartbeats 4000000 in
set_option maxRecDepth 100000 in
theorem c_F_pass (l : Launch) (htr : l.stackTraces = false) (P : gP) (G0 : Mem)  (a1 : Int32) (hm : hmC G0) : xMet l y_F_pass b_F_pass 5 (some .int) ({ frames := 7, cells := 1, slots := 6, locals := 131 }) [.ref (gad P 0), .int a1] vI P G0 (sp_F_pass G0 a1) := by
  refine xMet.ofW (by decide) ?_
  intro p e s m args below meth c0 s₁ B hml hv
  obtain ⟨rfl, hpre⟩ := hv
  obtain ⟨⟨E, hH⟩, hx0, hno⟩ := gE_ofX B hml hpre
  replace E : gE p s m _ meth c0 P "FramedLine" b_F_pass 5 (some .int) := E
  have hx := E.1
  have hb := E.2.1
  have hl := lv_entry ([.ref (gad P 0), .int a1]) (n := 5) (Nat.le_of_ble_eq_true rfl)
  rw [lg_entry_eq]
  generalize (lg_sl ([.ref (gad P 0), .int a1]) ++ List.replicate (5 - (lg_sl ([.ref (gad P 0), .int a1])).length) Slot.unset).toArray = ls at hl ⊢
  replace hl : lv_has ls 5 [(0, .ref (gad P 0)), (1, .int a1)] := hl
  have hsp : sp_F_pass G0 a1 = sp_F_pass G0 a1 := rfl
  refine jl (α := Nat × Mem × Array Slot × Int32) (fun q H1 locs1 => sp_F_pass G0 a1 = sp_F_pass_22 a1 q.1 q.2.1 q.2.2.2 ∧ ((∃ j : Nat, j ≤ 600 ∧ q.2.2.2 = nI j ∧ q.1 = 601 - j) ∧ a1 ≤ 600 ∧ hmC q.2.1) ∧ lv_has q.2.2.1 5 [(0, .ref (gad P 0)), (1, .int a1), (2, .int q.2.2.2)] ∧ gH P s q.2.1 H1 locs1) (fun q => F0 m 22 q.2.2.1 []) (fun q => q.1) (fun q H locs h9 ih22 => ?_) (fun hC22 => ?_)
  · clear hsp hl hH ls
    obtain ⟨n, G, ls, x2⟩ := q
    obtain ⟨hsp, hinv, hl, hH⟩ := h9
    dsimp only at hinv
    obtain ⟨d, rfl⟩ : ∃ d, n = d + 1 := by obtain ⟨⟨j, h1, -, h3⟩, -⟩ := hinv; exact ⟨n - 1, by omega⟩
    change lv_has ls 5 [(0, .ref (gad P 0)), (1, .int a1), (2, .int x2)] at hl
    dsimp only at hsp hH ⊢
    refine lv_iload_n hx hb d_F_pass_22 rfl (lv_at hl 2 rfl) ?_
    refine lv_iload_n hx hb d_F_pass_23 rfl (lv_at hl 1 rfl) ?_
    refine lv_icmp_ge (tgt := 85) hx hb d_F_pass_24 (by decide) (fun h1 => ?_) (fun h1 => ?_)
    · refine lv_aload_n hx hb d_F_pass_85 rfl (lv_at hl 0 rfl) ?_
      refine g_geti (v := (G 0 2)) E hH (gc_F rfl) cl_F 2 (by decide) lf_F_19 (fun _ => rfl) rfl d_F_pass_86 ?_
      exact x_iret E hH (hsp.trans (by rw [sp_F_pass_22]; exact (if_pos h1))) d_F_pass_89
    · refine lv_aload_n hx hb d_F_pass_27 rfl (lv_at hl 0 rfl) ?_
      refine lv_dup hx hb d_F_pass_28 rfl ?_
      refine g_geti (v := (G 0 2)) E hH (gc_F rfl) cl_F 2 (by decide) lf_F_19 (fun _ => rfl) rfl d_F_pass_29 ?_
      refine lv_iconst (v := 1) hx hb d_F_pass_32 (by decide) ?_
      refine lv_iadd hx hb d_F_pass_33 ?_
      refine g_puti E hH (gc_F rfl) cl_F ct_F 2 (by decide) lf_F_19 rfl (by decide +kernel) (fun _ _ => rfl) (Nat.le_of_ble_eq_true rfl) d_F_pass_34 (fun H locs hH => ?_)
      refine lv_aload_n hx hb d_F_pass_37 rfl (lv_at hl 0 rfl) ?_
      refine g_get E hH (gc_F rfl) cl_F 0 (by decide) lf_F_10 rfl d_F_pass_38 ?_
      refine g_callVi (As := []) E hH hl (c_N_send l P _ 1 (Or.inl rfl)) lm_F_65 (gc_N (Or.inl rfl)) cl_N (Nat.le_of_ble_eq_true rfl) (Nat.le_of_ble_eq_true rfl) (Nat.le_of_ble_eq_true rfl) (Nat.le_of_ble_eq_true rfl) (Nat.le_of_ble_eq_true rfl) rfl rfl rfl rfl d_F_pass_41 (fun H locs hH => ?_)
      refine lv_istore_n hx hb d_F_pass_44 rfl hl (by decide) rfl (fun ls hl => ?_)
      refine lv_aload_n hx hb d_F_pass_45 rfl (lv_at hl 1 rfl) ?_
      refine g_get E hH (gc_F rfl) cl_F 1 (by decide) lf_F_16 rfl d_F_pass_46 ?_
      refine g_callVi (As := []) E hH hl (c_N_send l P _ 11 (Or.inr rfl)) lm_F_65 (gc_N (Or.inr rfl)) cl_N (Nat.le_of_ble_eq_true rfl) (Nat.le_of_ble_eq_true rfl) (Nat.le_of_ble_eq_true rfl) (Nat.le_of_ble_eq_true rfl) (Nat.le_of_ble_eq_true rfl) rfl rfl rfl rfl d_F_pass_49 (fun H locs hH => ?_)
      refine lv_istore hx hb d_F_pass_52 hl (by decide) rfl (fun ls hl => ?_)
      refine lv_aload_n hx hb d_F_pass_54 rfl (lv_at hl 2 rfl) ?_
      refine g_get E hH (gc_F rfl) cl_F 0 (by decide) lf_F_10 rfl d_F_pass_55 ?_
      refine lv_aload_n hx hb d_F_pass_58 rfl (lv_at hl 2 rfl) ?_
      refine g_geti (v := (((sp_N_send 11 (((sp_N_send 1 (wr G 0 2 ((G 0 2) + 1)))).2))).2 0 2)) E hH (gc_F rfl) cl_F 2 (by decide) lf_F_19 (fun _ => rfl) rfl d_F_pass_59 ?_
      refine lv_iload hx hb d_F_pass_62 (lv_at hl 0 rfl) ?_
      refine g_callVv (As := [.int _, .int _]) E hH hl (c_N_receive l P _ 1 _ _ (Or.inl rfl) ((hmC_send (hmC_send (hmC_wr0 hinv.2.2) (Or.inl rfl)) (Or.inr rfl)) 1 (Or.inl rfl))) lm_F_69 (gc_N (Or.inl rfl)) cl_N (Nat.le_of_ble_eq_true rfl) (Nat.le_of_ble_eq_true rfl) (Nat.le_of_ble_eq_true rfl) (Nat.le_of_ble_eq_true rfl) (Nat.le_of_ble_eq_true rfl) rfl rfl rfl rfl d_F_pass_64 (fun H locs hH => ?_)
      refine lv_aload_n hx hb d_F_pass_67 rfl (lv_at hl 2 rfl) ?_
      refine g_get E hH (gc_F rfl) cl_F 1 (by decide) lf_F_16 rfl d_F_pass_68 ?_
      refine lv_aload_n hx hb d_F_pass_71 rfl (lv_at hl 2 rfl) ?_
      refine g_geti (v := ((sp_N_receive 1 (((sp_N_send 11 (((sp_N_send 1 (wr G 0 2 ((G 0 2) + 1)))).2))).2) (((sp_N_send 11 (((sp_N_send 1 (wr G 0 2 ((G 0 2) + 1)))).2))).2 0 2) (((sp_N_send 11 (((sp_N_send 1 (wr G 0 2 ((G 0 2) + 1)))).2))).1)) 0 2)) E hH (gc_F rfl) cl_F 2 (by decide) lf_F_19 (fun _ => rfl) rfl d_F_pass_72 ?_
      refine lv_iload_n hx hb d_F_pass_75 rfl (lv_at hl 1 rfl) ?_
      refine g_callVv (As := [.int _, .int _]) E hH hl (c_N_receive l P _ 11 _ _ (Or.inr rfl) ((hmC_recv (hmC_send (hmC_send (hmC_wr0 hinv.2.2) (Or.inl rfl)) (Or.inr rfl)) (Or.inl rfl)) 11 (Or.inr rfl))) lm_F_69 (gc_N (Or.inr rfl)) cl_N (Nat.le_of_ble_eq_true rfl) (Nat.le_of_ble_eq_true rfl) (Nat.le_of_ble_eq_true rfl) (Nat.le_of_ble_eq_true rfl) (Nat.le_of_ble_eq_true rfl) rfl rfl rfl rfl d_F_pass_76 (fun H locs hH => ?_)
      refine lv_iinc (k := 4) (v := (x2 + 1)) hx hb d_F_pass_79 hl rfl rfl (by decide) rfl (fun ls hl => ?_)
      refine lv_goto (tgt := 22) hx hb d_F_pass_82 (by decide) ?_
      exact ih22 (d, (sp_N_receive 11 (sp_N_receive 1 (((sp_N_send 11 (((sp_N_send 1 (wr G 0 2 ((G 0 2) + 1)))).2))).2) (((sp_N_send 11 (((sp_N_send 1 (wr G 0 2 ((G 0 2) + 1)))).2))).2 0 2) (((sp_N_send 11 (((sp_N_send 1 (wr G 0 2 ((G 0 2) + 1)))).2))).1)) ((sp_N_receive 1 (((sp_N_send 11 (((sp_N_send 1 (wr G 0 2 ((G 0 2) + 1)))).2))).2) (((sp_N_send 11 (((sp_N_send 1 (wr G 0 2 ((G 0 2) + 1)))).2))).2 0 2) (((sp_N_send 11 (((sp_N_send 1 (wr G 0 2 ((G 0 2) + 1)))).2))).1)) 0 2) (((sp_N_send 1 (wr G 0 2 ((G 0 2) + 1)))).1)), _, (x2 + 1)) _ _ (Nat.lt_succ_self _) ⟨hsp.trans (by simp only [sp_F_pass_22, if_neg h1]), ⟨fp_step hinv.1 hinv.2.1 h1, hinv.2.1, hmC_recv (hmC_recv (hmC_send (hmC_send (hmC_wr0 hinv.2.2) (Or.inl rfl)) (Or.inr rfl)) (Or.inl rfl)) (Or.inr rfl)⟩, lv_sub hl [3, 4, 0] rfl, hH⟩
  refine lv_iload_n hx hb d_F_pass_0 rfl (lv_at hl 1 rfl) ?_
  refine lv_iconst (v := 1) hx hb d_F_pass_1 (by decide) ?_
  refine jn (α := Int32) (fun z H1 locs1 => z = ((if a1 < 1 then 0 else (if 600 < a1 then 0 else 1)) : Int32) ∧ isB z ∧ gH P s G0 H1 locs1) (fun z => F0 m 17 ls (.int z :: [])) (fun z H locs h9 => ?_) (fun hJ => ?_)
  · obtain ⟨rfl, hz17, hH⟩ := h9
    refine x_callS (As := [.int _]) E hx0 hH hl (c_F_require l htr P _ _) lm_F_27 (Nat.le_of_ble_eq_true rfl) (Nat.le_of_ble_eq_true rfl) (Nat.le_of_ble_eq_true rfl) (Nat.le_of_ble_eq_true rfl) (Nat.le_of_ble_eq_true rfl) rfl rfl d_F_pass_17 (fun h2 H locs hH => ?_) (fun h2 q ce H locs hH hce hcv hcl => ?_)
    · refine lv_iconst (v := 0) hx hb d_F_pass_20 (by decide) ?_
      refine lv_istore_n hx hb d_F_pass_21 rfl hl (by decide) rfl (fun ls hl => ?_)
      exact hC22 (601, (sp_F_require G0 ((if a1 < 1 then 0 else (if 600 < a1 then 0 else 1)) : Int32)).2.2, _, 0) _ _ ⟨hsp.trans (by simp only [sp_F_pass, if_pos h2]), ⟨⟨0, by omega, rfl, rfl⟩, fp_le h2, by dsimp only; rw [rq_mem]; exact hm⟩, lv_sub hl [1, 2, 0] rfl, hH⟩
    · exact x_on E hno h2 (hsp.trans (by rw [sp_F_pass]; exact (if_neg h2))) hH hce hcv hcl
  · refine lv_icmp_lt (tgt := 16) hx hb d_F_pass_2 (by decide) (fun h3 => ?_) (fun h3 => ?_)
    · refine lv_iconst (v := 0) hx hb d_F_pass_16 (by decide) ?_
      exact hJ _ _ _ ⟨by simp only [if_pos h3], isB_0, hH⟩
    · refine lv_iload_n hx hb d_F_pass_5 rfl (lv_at hl 1 rfl) ?_
      refine lv_sipush (v := 600) hx hb d_F_pass_6 (by decide) ?_
      refine lv_icmp_gt (tgt := 16) hx hb d_F_pass_9 (by decide) (fun h4 => ?_) (fun h4 => ?_)
      · refine lv_iconst (v := 0) hx hb d_F_pass_16 (by decide) ?_
        exact hJ _ _ _ ⟨by simp only [if_neg h3, if_pos h4], isB_0, hH⟩
      · refine lv_iconst (v := 1) hx hb d_F_pass_12 (by decide) ?_
        refine lv_goto (tgt := 17) hx hb d_F_pass_13 (by decide) ?_
        exact hJ _ _ _ ⟨by simp only [if_neg h3, if_neg h4], isB_1, hH⟩
