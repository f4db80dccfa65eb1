def sp_M_beginFrame  (G0 : Mem) (a1 : Int32) : Mem :=
  (if ((G0 24 (tn a1)) - (G0 24 (tn a1)) / 2 * 2) = 0 then (wr G0 23 (tn a1) (((((((((G0 27 (tn a1)) >>> ((3 - (((G0 24 (tn a1)) - (G0 24 (tn a1)) / 8 * 8) / 2)) &&& 31)) &&& (1 : Int32)) * 128) + 27) <<< ((24 : Int32) &&& 31)) ||| ((G0 22 (tn ((4 * a1) + 1))) <<< ((16 : Int32) &&& 31))) ||| ((G0 22 (tn ((4 * a1) + 2))) <<< ((8 : Int32) &&& 31))) ||| (G0 22 (tn ((4 * a1) + 3))))) else (wr G0 23 (tn a1) ((((((((((sp_M_mark G0 a1 (G0 24 (tn a1)))) * 128) + 64) + ((if (G0 43 (tn a1)) = 2 then 0 else 32) : Int32)) + 31) <<< ((24 : Int32) &&& 31)) ||| ((G0 22 (tn ((4 * a1) + 1))) <<< ((16 : Int32) &&& 31))) ||| ((G0 22 (tn ((4 * a1) + 2))) <<< ((8 : Int32) &&& 31))) ||| (G0 22 (tn ((4 * a1) + 3))))))
set_option maxHeartbeats 4000000 in
set_option maxRecDepth 100000 in
theorem c_M_beginFrame (l : Launch) (P : gP) (G0 : Mem)  (a1 : Int32) (he : a1 = 0 ∨ a1 = 1) : gMv l y_M_beginFrame b_M_beginFrame 4 none ({ frames := 1, cells := 0, slots := 0, locals := 22 }) [.ref (gad P 21), .int a1] P G0 (sp_M_beginFrame G0 a1) := by
  refine Met.ofW (cc := b_M_beginFrame) (maxL := 4) (ret := none) (by decide) rfl ?_
  intro p e s m args below meth c0 s₁ B hml hv
  obtain ⟨rfl, hpre⟩ := hv
  obtain ⟨E, hH⟩ := gE_of B hml hpre
  replace E : gE p s m _ meth c0 P "FramedLineModel" b_M_beginFrame 4 none := E
  have hx := E.1
  have hb := E.2.1
  have hl := lv_entry ([.ref (gad P 21), .int a1]) (n := 4) (Nat.le_of_ble_eq_true rfl)
  rw [lg_entry_eq]
  generalize (lg_sl ([.ref (gad P 21), .int a1]) ++ List.replicate (4 - (lg_sl ([.ref (gad P 21), .int a1])).length) Slot.unset).toArray = ls at hl ⊢
  replace hl : lv_has ls 4 [(0, .ref (gad P 21)), (1, .int a1)] := hl
  have hsp : sp_M_beginFrame G0 a1 = sp_M_beginFrame G0 a1 := rfl
  refine lv_aload_n hx hb d_M_beginFrame_0 rfl (lv_at hl 0 rfl) ?_
  refine g_get E hH (gc_M rfl) cl_M 4 (by decide) lf_M_16 rfl d_M_beginFrame_1 ?_
  refine lv_iload_n hx hb d_M_beginFrame_4 rfl (lv_at hl 1 rfl) ?_
  refine g_iaload (k := (tn a1)) (v := (G0 24 (tn a1))) E hH ⟨by decide, fun _ => rfl⟩ (by rcases he with rfl | rfl <;> (unfold vp_in; first | decide | (split <;> decide))) rfl rfl d_M_beginFrame_5 ?_
  refine lv_istore_n hx hb d_M_beginFrame_6 rfl hl (by decide) rfl (fun ls hl => ?_)
  refine lv_iconst (v := 0) hx hb d_M_beginFrame_7 (by decide) ?_
  refine lv_istore_n hx hb d_M_beginFrame_8 rfl hl (by decide) rfl (fun ls hl => ?_)
  refine lv_iload_n hx hb d_M_beginFrame_9 rfl (lv_at hl 1 rfl) ?_
  refine lv_iconst (v := 2) hx hb d_M_beginFrame_10 (by decide) ?_
  refine lv_irem hx hb d_M_beginFrame_11 (by decide) ?_
  refine lv_if_ne (tgt := 43) hx hb d_M_beginFrame_12 (by decide) (fun h1 => ?_) (fun h1 => ?_)
  · refine lv_aload_n hx hb d_M_beginFrame_43 rfl (lv_at hl 2 rfl) ?_
    refine lv_iload_n hx hb d_M_beginFrame_44 rfl (lv_at hl 3 rfl) ?_
    refine lv_iload_n hx hb d_M_beginFrame_45 rfl (lv_at hl 1 rfl) ?_
    refine g_callVri (As := [.int _, .int _]) E hH hl (c_M_mark l P _ _ _ he) lm_M_141 (gc_M rfl) cl_M (Nat.le_of_ble_eq_true rfl) (Nat.le_of_ble_eq_true rfl) (Nat.le_of_ble_eq_true rfl) (Nat.le_of_ble_eq_true rfl) (Nat.le_of_ble_eq_true rfl) rfl rfl rfl rfl d_M_beginFrame_46 (fun H locs hH => ?_)
    refine lv_sipush (v := 128) hx hb d_M_beginFrame_49 (by decide) ?_
    refine lv_imul hx hb d_M_beginFrame_52 ?_
    refine lv_bipush (v := 64) hx hb d_M_beginFrame_53 (by decide) ?_
    refine lv_iadd hx hb d_M_beginFrame_55 ?_
    refine lv_aload_n hx hb d_M_beginFrame_56 rfl (lv_at hl 2 rfl) ?_
    refine g_get E hH (gc_M rfl) cl_M 23 (by decide) lf_M_74 rfl d_M_beginFrame_57 ?_
    refine lv_iload_n hx hb d_M_beginFrame_60 rfl (lv_at hl 3 rfl) ?_
    refine g_iaload (k := (tn a1)) (v := (G0 43 (tn a1))) E hH ⟨by decide, fun _ => rfl⟩ (by rcases he with rfl | rfl <;> (unfold vp_in; first | decide | (split <;> decide))) rfl rfl d_M_beginFrame_61 ?_
    refine lv_iconst (v := 2) hx hb d_M_beginFrame_62 (by decide) ?_
    refine jn (α := Int32) (fun z H1 locs1 => z = ((if (G0 43 (tn a1)) = 2 then 0 else 32) : Int32) ∧ gH P s G0 H1 locs1) (fun z => F0 m 72 ls (.int z :: .int ((((sp_M_mark G0 a1 (G0 24 (tn a1)))) * 128) + 64) :: [])) (fun z H locs h9 => ?_) (fun hJ => ?_)
    · obtain ⟨rfl, hH⟩ := h9
      refine lv_iadd hx hb d_M_beginFrame_72 ?_
      refine lv_bipush (v := 31) hx hb d_M_beginFrame_73 (by decide) ?_
      refine lv_iadd hx hb d_M_beginFrame_75 ?_
      refine lv_istore_n hx hb d_M_beginFrame_76 rfl hl (by decide) rfl (fun ls hl => ?_)
      refine lv_aload_n hx hb d_M_beginFrame_77 rfl (lv_at hl 2 rfl) ?_
      refine g_get E hH (gc_M rfl) cl_M 3 (by decide) lf_M_13 rfl d_M_beginFrame_78 ?_
      refine lv_iload_n hx hb d_M_beginFrame_81 rfl (lv_at hl 3 rfl) ?_
      refine lv_iload_n hx hb d_M_beginFrame_82 rfl (lv_at hl 0 rfl) ?_
      refine lv_bipush (v := 24) hx hb d_M_beginFrame_83 (by decide) ?_
      refine lv_ishl hx hb d_M_beginFrame_85 ?_
      refine lv_aload_n hx hb d_M_beginFrame_86 rfl (lv_at hl 2 rfl) ?_
      refine g_get E hH (gc_M rfl) cl_M 2 (by decide) lf_M_7 rfl d_M_beginFrame_87 ?_
      refine lv_iconst (v := 4) hx hb d_M_beginFrame_90 (by decide) ?_
      refine lv_iload_n hx hb d_M_beginFrame_91 rfl (lv_at hl 3 rfl) ?_
      refine lv_imul hx hb d_M_beginFrame_92 ?_
      refine lv_iconst (v := 1) hx hb d_M_beginFrame_93 (by decide) ?_
      refine lv_iadd hx hb d_M_beginFrame_94 ?_
      refine g_iaload (k := (tn ((4 * a1) + 1))) (v := (G0 22 (tn ((4 * a1) + 1)))) E hH ⟨by decide, fun _ => rfl⟩ (by rcases he with rfl | rfl <;> (unfold vp_in; first | decide | (split <;> decide))) rfl rfl d_M_beginFrame_95 ?_
      refine lv_bipush (v := 16) hx hb d_M_beginFrame_96 (by decide) ?_
      refine lv_ishl hx hb d_M_beginFrame_98 ?_
      refine lv_ior hx hb d_M_beginFrame_99 ?_
      refine lv_aload_n hx hb d_M_beginFrame_100 rfl (lv_at hl 2 rfl) ?_
      refine g_get E hH (gc_M rfl) cl_M 2 (by decide) lf_M_7 rfl d_M_beginFrame_101 ?_
      refine lv_iconst (v := 4) hx hb d_M_beginFrame_104 (by decide) ?_
      refine lv_iload_n hx hb d_M_beginFrame_105 rfl (lv_at hl 3 rfl) ?_
      refine lv_imul hx hb d_M_beginFrame_106 ?_
      refine lv_iconst (v := 2) hx hb d_M_beginFrame_107 (by decide) ?_
      refine lv_iadd hx hb d_M_beginFrame_108 ?_
      refine g_iaload (k := (tn ((4 * a1) + 2))) (v := (G0 22 (tn ((4 * a1) + 2)))) E hH ⟨by decide, fun _ => rfl⟩ (by rcases he with rfl | rfl <;> (unfold vp_in; first | decide | (split <;> decide))) rfl rfl d_M_beginFrame_109 ?_
      refine lv_bipush (v := 8) hx hb d_M_beginFrame_110 (by decide) ?_
      refine lv_ishl hx hb d_M_beginFrame_112 ?_
      refine lv_ior hx hb d_M_beginFrame_113 ?_
      refine lv_aload_n hx hb d_M_beginFrame_114 rfl (lv_at hl 2 rfl) ?_
      refine g_get E hH (gc_M rfl) cl_M 2 (by decide) lf_M_7 rfl d_M_beginFrame_115 ?_
      refine lv_iconst (v := 4) hx hb d_M_beginFrame_118 (by decide) ?_
      refine lv_iload_n hx hb d_M_beginFrame_119 rfl (lv_at hl 3 rfl) ?_
      refine lv_imul hx hb d_M_beginFrame_120 ?_
      refine lv_iconst (v := 3) hx hb d_M_beginFrame_121 (by decide) ?_
      refine lv_iadd hx hb d_M_beginFrame_122 ?_
      refine g_iaload (k := (tn ((4 * a1) + 3))) (v := (G0 22 (tn ((4 * a1) + 3)))) E hH ⟨by decide, fun _ => rfl⟩ (by rcases he with rfl | rfl <;> (unfold vp_in; first | decide | (split <;> decide))) rfl rfl d_M_beginFrame_123 ?_
      refine lv_ior hx hb d_M_beginFrame_124 ?_
      refine g_iastore (k := (tn a1)) E hH ⟨by decide, fun _ => rfl⟩ (by rcases he with rfl | rfl <;> (unfold vp_in; first | decide | (split <;> decide))) rfl d_M_beginFrame_125 (fun H locs hH => ?_)
      exact g_vret E hH (hsp.trans (by simp only [sp_M_beginFrame, if_neg h1])) d_M_beginFrame_126
    · refine lv_icmp_ne (tgt := 70) hx hb d_M_beginFrame_63 (by decide) (fun h2 => ?_) (fun h2 => ?_)
      · refine lv_bipush (v := 32) hx hb d_M_beginFrame_70 (by decide) ?_
        exact hJ _ _ _ ⟨by simp only [if_neg h2], hH⟩
      · refine lv_iconst (v := 0) hx hb d_M_beginFrame_66 (by decide) ?_
        refine lv_goto (tgt := 72) hx hb d_M_beginFrame_67 (by decide) ?_
        exact hJ _ _ _ ⟨by simp only [if_pos h2], hH⟩
  · refine lv_aload_n hx hb d_M_beginFrame_15 rfl (lv_at hl 2 rfl) ?_
    refine g_get E hH (gc_M rfl) cl_M 7 (by decide) lf_M_25 rfl d_M_beginFrame_16 ?_
    refine lv_iload_n hx hb d_M_beginFrame_19 rfl (lv_at hl 3 rfl) ?_
    refine g_iaload (k := (tn a1)) (v := (G0 27 (tn a1))) E hH ⟨by decide, fun _ => rfl⟩ (by rcases he with rfl | rfl <;> (unfold vp_in; first | decide | (split <;> decide))) rfl rfl d_M_beginFrame_20 ?_
    refine lv_iconst (v := 3) hx hb d_M_beginFrame_21 (by decide) ?_
    refine lv_iload_n hx hb d_M_beginFrame_22 rfl (lv_at hl 1 rfl) ?_
    refine lv_bipush (v := 8) hx hb d_M_beginFrame_23 (by decide) ?_
    refine lv_irem hx hb d_M_beginFrame_25 (by decide) ?_
    refine lv_iconst (v := 2) hx hb d_M_beginFrame_26 (by decide) ?_
    refine lv_idiv hx hb d_M_beginFrame_27 (by decide) ?_
    refine lv_isub hx hb d_M_beginFrame_28 ?_
    refine lv_ishr hx hb d_M_beginFrame_29 ?_
    refine lv_iconst (v := 1) hx hb d_M_beginFrame_30 (by decide) ?_
    refine lv_iand hx hb d_M_beginFrame_31 ?_
    refine lv_sipush (v := 128) hx hb d_M_beginFrame_32 (by decide) ?_
    refine lv_imul hx hb d_M_beginFrame_35 ?_
    refine lv_bipush (v := 27) hx hb d_M_beginFrame_36 (by decide) ?_
    refine lv_iadd hx hb d_M_beginFrame_38 ?_
    refine lv_istore_n hx hb d_M_beginFrame_39 rfl hl (by decide) rfl (fun ls hl => ?_)
    refine lv_goto (tgt := 77) hx hb d_M_beginFrame_40 (by decide) ?_
    refine lv_aload_n hx hb d_M_beginFrame_77 rfl (lv_at hl 2 rfl) ?_
    refine g_get E hH (gc_M rfl) cl_M 3 (by decide) lf_M_13 rfl d_M_beginFrame_78 ?_
    refine lv_iload_n hx hb d_M_beginFrame_81 rfl (lv_at hl 3 rfl) ?_
    refine lv_iload_n hx hb d_M_beginFrame_82 rfl (lv_at hl 0 rfl) ?_
    refine lv_bipush (v := 24) hx hb d_M_beginFrame_83 (by decide) ?_
    refine lv_ishl hx hb d_M_beginFrame_85 ?_
    refine lv_aload_n hx hb d_M_beginFrame_86 rfl (lv_at hl 2 rfl) ?_
    refine g_get E hH (gc_M rfl) cl_M 2 (by decide) lf_M_7 rfl d_M_beginFrame_87 ?_
    refine lv_iconst (v := 4) hx hb d_M_beginFrame_90 (by decide) ?_
    refine lv_iload_n hx hb d_M_beginFrame_91 rfl (lv_at hl 3 rfl) ?_
    refine lv_imul hx hb d_M_beginFrame_92 ?_
    refine lv_iconst (v := 1) hx hb d_M_beginFrame_93 (by decide) ?_
    refine lv_iadd hx hb d_M_beginFrame_94 ?_
    refine g_iaload (k := (tn ((4 * a1) + 1))) (v := (G0 22 (tn ((4 * a1) + 1)))) E hH ⟨by decide, fun _ => rfl⟩ (by rcases he with rfl | rfl <;> (unfold vp_in; first | decide | (split <;> decide))) rfl rfl d_M_beginFrame_95 ?_
    refine lv_bipush (v := 16) hx hb d_M_beginFrame_96 (by decide) ?_
    refine lv_ishl hx hb d_M_beginFrame_98 ?_
    refine lv_ior hx hb d_M_beginFrame_99 ?_
    refine lv_aload_n hx hb d_M_beginFrame_100 rfl (lv_at hl 2 rfl) ?_
    refine g_get E hH (gc_M rfl) cl_M 2 (by decide) lf_M_7 rfl d_M_beginFrame_101 ?_
    refine lv_iconst (v := 4) hx hb d_M_beginFrame_104 (by decide) ?_
    refine lv_iload_n hx hb d_M_beginFrame_105 rfl (lv_at hl 3 rfl) ?_
    refine lv_imul hx hb d_M_beginFrame_106 ?_
    refine lv_iconst (v := 2) hx hb d_M_beginFrame_107 (by decide) ?_
    refine lv_iadd hx hb d_M_beginFrame_108 ?_
    refine g_iaload (k := (tn ((4 * a1) + 2))) (v := (G0 22 (tn ((4 * a1) + 2)))) E hH ⟨by decide, fun _ => rfl⟩ (by rcases he with rfl | rfl <;> (unfold vp_in; first | decide | (split <;> decide))) rfl rfl d_M_beginFrame_109 ?_
    refine lv_bipush (v := 8) hx hb d_M_beginFrame_110 (by decide) ?_
    refine lv_ishl hx hb d_M_beginFrame_112 ?_
    refine lv_ior hx hb d_M_beginFrame_113 ?_
    refine lv_aload_n hx hb d_M_beginFrame_114 rfl (lv_at hl 2 rfl) ?_
    refine g_get E hH (gc_M rfl) cl_M 2 (by decide) lf_M_7 rfl d_M_beginFrame_115 ?_
    refine lv_iconst (v := 4) hx hb d_M_beginFrame_118 (by decide) ?_
    refine lv_iload_n hx hb d_M_beginFrame_119 rfl (lv_at hl 3 rfl) ?_
    refine lv_imul hx hb d_M_beginFrame_120 ?_
    refine lv_iconst (v := 3) hx hb d_M_beginFrame_121 (by decide) ?_
    refine lv_iadd hx hb d_M_beginFrame_122 ?_
    refine g_iaload (k := (tn ((4 * a1) + 3))) (v := (G0 22 (tn ((4 * a1) + 3)))) E hH ⟨by decide, fun _ => rfl⟩ (by rcases he with rfl | rfl <;> (unfold vp_in; first | decide | (split <;> decide))) rfl rfl d_M_beginFrame_123 ?_
    refine lv_ior hx hb d_M_beginFrame_124 ?_
    refine g_iastore (k := (tn a1)) E hH ⟨by decide, fun _ => rfl⟩ (by rcases he with rfl | rfl <;> (unfold vp_in; first | decide | (split <;> decide))) rfl d_M_beginFrame_125 (fun H locs hH => ?_)
    exact g_vret E hH (hsp.trans (by simp only [sp_M_beginFrame, if_pos h1])) d_M_beginFrame_126

def sp_M_nextBit  (G0 : Mem) (a1 : Int32) : Int32 × Mem :=
  (if (G0 25 (tn a1)) = 0 then (if (((sp_M_beginFrame G0 a1) 25 (tn a1)) + 1) = 32 then (if (((((sp_M_beginFrame G0 a1) 24 (tn a1)) + 1) - (((sp_M_beginFrame G0 a1) 24 (tn a1)) + 1) / 16 * 16) - ((((sp_M_beginFrame G0 a1) 24 (tn a1)) + 1) - (((sp_M_beginFrame G0 a1) 24 (tn a1)) + 1) / 16 * 16) / 8 * 8) = 0 then (((((sp_M_beginFrame G0 a1) 23 (tn a1)) >>> ((31 - ((sp_M_beginFrame G0 a1) 25 (tn a1))) &&& 31)) &&& (1 : Int32)), (wr (wr (wr (wr (wr (wr (sp_M_beginFrame G0 a1) 26 (tn a1) ((sp_M_with (sp_M_beginFrame G0 a1) ((sp_M_beginFrame G0 a1) 26 (tn a1)) ((if ((sp_M_beginFrame G0 a1) 25 (tn a1)) = 0 then (if (((sp_M_beginFrame G0 a1) 24 (tn a1)) - ((sp_M_beginFrame G0 a1) 24 (tn a1)) / 2 * 2) = 0 then 0 else ((((sp_M_beginFrame G0 a1) 23 (tn a1)) >>> ((31 - ((sp_M_beginFrame G0 a1) 25 (tn a1))) &&& 31)) &&& (1 : Int32))) else ((((sp_M_beginFrame G0 a1) 23 (tn a1)) >>> ((31 - ((sp_M_beginFrame G0 a1) 25 (tn a1))) &&& 31)) &&& (1 : Int32))) : Int32)))) 25 (tn a1) (((sp_M_beginFrame G0 a1) 25 (tn a1)) + 1)) 25 (tn a1) 0) 24 (tn a1) ((((sp_M_beginFrame G0 a1) 24 (tn a1)) + 1) - (((sp_M_beginFrame G0 a1) 24 (tn a1)) + 1) / 16 * 16)) 27 (tn a1) ((sp_M_with (sp_M_beginFrame G0 a1) ((sp_M_beginFrame G0 a1) 26 (tn a1)) ((if ((sp_M_beginFrame G0 a1) 25 (tn a1)) = 0 then (if (((sp_M_beginFrame G0 a1) 24 (tn a1)) - ((sp_M_beginFrame G0 a1) 24 (tn a1)) / 2 * 2) = 0 then 0 else ((((sp_M_beginFrame G0 a1) 23 (tn a1)) >>> ((31 - ((sp_M_beginFrame G0 a1) 25 (tn a1))) &&& 31)) &&& (1 : Int32))) else ((((sp_M_beginFrame G0 a1) 23 (tn a1)) >>> ((31 - ((sp_M_beginFrame G0 a1) 25 (tn a1))) &&& 31)) &&& (1 : Int32))) : Int32)))) 26 (tn a1) 0)) else (((((sp_M_beginFrame G0 a1) 23 (tn a1)) >>> ((31 - ((sp_M_beginFrame G0 a1) 25 (tn a1))) &&& 31)) &&& (1 : Int32)), (wr (wr (wr (wr (sp_M_beginFrame G0 a1) 26 (tn a1) ((sp_M_with (sp_M_beginFrame G0 a1) ((sp_M_beginFrame G0 a1) 26 (tn a1)) ((if ((sp_M_beginFrame G0 a1) 25 (tn a1)) = 0 then (if (((sp_M_beginFrame G0 a1) 24 (tn a1)) - ((sp_M_beginFrame G0 a1) 24 (tn a1)) / 2 * 2) = 0 then 0 else ((((sp_M_beginFrame G0 a1) 23 (tn a1)) >>> ((31 - ((sp_M_beginFrame G0 a1) 25 (tn a1))) &&& 31)) &&& (1 : Int32))) else ((((sp_M_beginFrame G0 a1) 23 (tn a1)) >>> ((31 - ((sp_M_beginFrame G0 a1) 25 (tn a1))) &&& 31)) &&& (1 : Int32))) : Int32)))) 25 (tn a1) (((sp_M_beginFrame G0 a1) 25 (tn a1)) + 1)) 25 (tn a1) 0) 24 (tn a1) ((((sp_M_beginFrame G0 a1) 24 (tn a1)) + 1) - (((sp_M_beginFrame G0 a1) 24 (tn a1)) + 1) / 16 * 16)))) else (((((sp_M_beginFrame G0 a1) 23 (tn a1)) >>> ((31 - ((sp_M_beginFrame G0 a1) 25 (tn a1))) &&& 31)) &&& (1 : Int32)), (wr (wr (sp_M_beginFrame G0 a1) 26 (tn a1) ((sp_M_with (sp_M_beginFrame G0 a1) ((sp_M_beginFrame G0 a1) 26 (tn a1)) ((if ((sp_M_beginFrame G0 a1) 25 (tn a1)) = 0 then (if (((sp_M_beginFrame G0 a1) 24 (tn a1)) - ((sp_M_beginFrame G0 a1) 24 (tn a1)) / 2 * 2) = 0 then 0 else ((((sp_M_beginFrame G0 a1) 23 (tn a1)) >>> ((31 - ((sp_M_beginFrame G0 a1) 25 (tn a1))) &&& 31)) &&& (1 : Int32))) else ((((sp_M_beginFrame G0 a1) 23 (tn a1)) >>> ((31 - ((sp_M_beginFrame G0 a1) 25 (tn a1))) &&& 31)) &&& (1 : Int32))) : Int32)))) 25 (tn a1) (((sp_M_beginFrame G0 a1) 25 (tn a1)) + 1)))) else (if ((G0 25 (tn a1)) + 1) = 32 then (if ((((G0 24 (tn a1)) + 1) - ((G0 24 (tn a1)) + 1) / 16 * 16) - (((G0 24 (tn a1)) + 1) - ((G0 24 (tn a1)) + 1) / 16 * 16) / 8 * 8) = 0 then ((((G0 23 (tn a1)) >>> ((31 - (G0 25 (tn a1))) &&& 31)) &&& (1 : Int32)), (wr (wr (wr (wr (wr (wr G0 26 (tn a1) ((sp_M_with G0 (G0 26 (tn a1)) (((G0 23 (tn a1)) >>> ((31 - (G0 25 (tn a1))) &&& 31)) &&& (1 : Int32))))) 25 (tn a1) ((G0 25 (tn a1)) + 1)) 25 (tn a1) 0) 24 (tn a1) (((G0 24 (tn a1)) + 1) - ((G0 24 (tn a1)) + 1) / 16 * 16)) 27 (tn a1) ((sp_M_with G0 (G0 26 (tn a1)) (((G0 23 (tn a1)) >>> ((31 - (G0 25 (tn a1))) &&& 31)) &&& (1 : Int32))))) 26 (tn a1) 0)) else ((((G0 23 (tn a1)) >>> ((31 - (G0 25 (tn a1))) &&& 31)) &&& (1 : Int32)), (wr (wr (wr (wr G0 26 (tn a1) ((sp_M_with G0 (G0 26 (tn a1)) (((G0 23 (tn a1)) >>> ((31 - (G0 25 (tn a1))) &&& 31)) &&& (1 : Int32))))) 25 (tn a1) ((G0 25 (tn a1)) + 1)) 25 (tn a1) 0) 24 (tn a1) (((G0 24 (tn a1)) + 1) - ((G0 24 (tn a1)) + 1) / 16 * 16)))) else ((((G0 23 (tn a1)) >>> ((31 - (G0 25 (tn a1))) &&& 31)) &&& (1 : Int32)), (wr (wr G0 26 (tn a1) ((sp_M_with G0 (G0 26 (tn a1)) (((G0 23 (tn a1)) >>> ((31 - (G0 25 (tn a1))) &&& 31)) &&& (1 : Int32))))) 25 (tn a1) ((G0 25 (tn a1)) + 1)))))
set_option maxHeartbeats 4000000 in
set_option maxRecDepth 100000 in
theorem c_M_nextBit (l : Launch) (P : gP) (G0 : Mem)  (a1 : Int32) (he : a1 = 0 ∨ a1 = 1) : gMi l y_M_nextBit b_M_nextBit 3 (some .int) ({ frames := 2, cells := 0, slots := 0, locals := 45 }) [.ref (gad P 21), .int a1] P G0 (sp_M_nextBit G0 a1) := by
  refine Met.ofW (cc := b_M_nextBit) (maxL := 3) (ret := (some .int)) (by decide) rfl ?_
  intro p e s m args below meth c0 s₁ B hml hv
  obtain ⟨rfl, hpre⟩ := hv
  obtain ⟨E, hH⟩ := gE_of B hml hpre
  replace E : gE p s m _ meth c0 P "FramedLineModel" b_M_nextBit 3 (some .int) := E
  have hx := E.1
  have hb := E.2.1
  have hl := lv_entry ([.ref (gad P 21), .int a1]) (n := 3) (Nat.le_of_ble_eq_true rfl)
  rw [lg_entry_eq]
  generalize (lg_sl ([.ref (gad P 21), .int a1]) ++ List.replicate (3 - (lg_sl ([.ref (gad P 21), .int a1])).length) Slot.unset).toArray = ls at hl ⊢
  replace hl : lv_has ls 3 [(0, .ref (gad P 21)), (1, .int a1)] := hl
  have hsp : sp_M_nextBit G0 a1 = sp_M_nextBit G0 a1 := rfl
  refine lv_aload_n hx hb d_M_nextBit_0 rfl (lv_at hl 0 rfl) ?_
  refine g_get E hH (gc_M rfl) cl_M 5 (by decide) lf_M_19 rfl d_M_nextBit_1 ?_
  refine lv_iload_n hx hb d_M_nextBit_4 rfl (lv_at hl 1 rfl) ?_
  refine g_iaload (k := (tn a1)) (v := (G0 25 (tn a1))) E hH ⟨by decide, fun _ => rfl⟩ (by rcases he with rfl | rfl <;> (unfold vp_in; first | decide | (split <;> decide))) rfl rfl d_M_nextBit_5 ?_
  refine lv_if_ne (tgt := 14) hx hb d_M_nextBit_6 (by decide) (fun h1 => ?_) (fun h1 => ?_)
  · refine lv_aload_n hx hb d_M_nextBit_14 rfl (lv_at hl 0 rfl) ?_
    refine g_get E hH (gc_M rfl) cl_M 3 (by decide) lf_M_13 rfl d_M_nextBit_15 ?_
    refine lv_iload_n hx hb d_M_nextBit_18 rfl (lv_at hl 1 rfl) ?_
    refine g_iaload (k := (tn a1)) (v := (G0 23 (tn a1))) E hH ⟨by decide, fun _ => rfl⟩ (by rcases he with rfl | rfl <;> (unfold vp_in; first | decide | (split <;> decide))) rfl rfl d_M_nextBit_19 ?_
    refine lv_bipush (v := 31) hx hb d_M_nextBit_20 (by decide) ?_
    refine lv_aload_n hx hb d_M_nextBit_22 rfl (lv_at hl 0 rfl) ?_
    refine g_get E hH (gc_M rfl) cl_M 5 (by decide) lf_M_19 rfl d_M_nextBit_23 ?_
    refine lv_iload_n hx hb d_M_nextBit_26 rfl (lv_at hl 1 rfl) ?_
    refine g_iaload (k := (tn a1)) (v := (G0 25 (tn a1))) E hH ⟨by decide, fun _ => rfl⟩ (by rcases he with rfl | rfl <;> (unfold vp_in; first | decide | (split <;> decide))) rfl rfl d_M_nextBit_27 ?_
    refine lv_isub hx hb d_M_nextBit_28 ?_
    refine lv_ishr hx hb d_M_nextBit_29 ?_
    refine lv_iconst (v := 1) hx hb d_M_nextBit_30 (by decide) ?_
    refine lv_iand hx hb d_M_nextBit_31 ?_
    refine lv_istore_n hx hb d_M_nextBit_32 rfl hl (by decide) rfl (fun ls hl => ?_)
    refine lv_aload_n hx hb d_M_nextBit_33 rfl (lv_at hl 1 rfl) ?_
    refine g_get E hH (gc_M rfl) cl_M 6 (by decide) lf_M_22 rfl d_M_nextBit_34 ?_
    refine lv_iload_n hx hb d_M_nextBit_37 rfl (lv_at hl 2 rfl) ?_
    refine lv_aload_n hx hb d_M_nextBit_38 rfl (lv_at hl 1 rfl) ?_
    refine g_get E hH (gc_M rfl) cl_M 6 (by decide) lf_M_22 rfl d_M_nextBit_39 ?_
    refine lv_iload_n hx hb d_M_nextBit_42 rfl (lv_at hl 2 rfl) ?_
    refine g_iaload (k := (tn a1)) (v := (G0 26 (tn a1))) E hH ⟨by decide, fun _ => rfl⟩ (by rcases he with rfl | rfl <;> (unfold vp_in; first | decide | (split <;> decide))) rfl rfl d_M_nextBit_43 ?_
    refine lv_aload_n hx hb d_M_nextBit_44 rfl (lv_at hl 1 rfl) ?_
    refine g_get E hH (gc_M rfl) cl_M 5 (by decide) lf_M_19 rfl d_M_nextBit_45 ?_
    refine lv_iload_n hx hb d_M_nextBit_48 rfl (lv_at hl 2 rfl) ?_
    refine g_iaload (k := (tn a1)) (v := (G0 25 (tn a1))) E hH ⟨by decide, fun _ => rfl⟩ (by rcases he with rfl | rfl <;> (unfold vp_in; first | decide | (split <;> decide))) rfl rfl d_M_nextBit_49 ?_
    refine lv_if_ne (tgt := 68) hx hb d_M_nextBit_50 (by decide) (fun _ => ?_) (fun h0 => absurd h0 h1)
    refine lv_iload_n hx hb d_M_nextBit_68 rfl (lv_at hl 0 rfl) ?_
    refine g_callSri (As := [.int _, .int _]) E hH hl (c_M_with l P _ _ _) lm_M_149 (Nat.le_of_ble_eq_true rfl) (Nat.le_of_ble_eq_true rfl) (Nat.le_of_ble_eq_true rfl) (Nat.le_of_ble_eq_true rfl) (Nat.le_of_ble_eq_true rfl) rfl rfl rfl rfl d_M_nextBit_69 (fun H locs hH => ?_)
    refine g_iastore (k := (tn a1)) E hH ⟨by decide, fun _ => rfl⟩ (by rcases he with rfl | rfl <;> (unfold vp_in; first | decide | (split <;> decide))) rfl d_M_nextBit_72 (fun H locs hH => ?_)
    refine lv_aload_n hx hb d_M_nextBit_73 rfl (lv_at hl 1 rfl) ?_
    refine g_get E hH (gc_M rfl) cl_M 5 (by decide) lf_M_19 rfl d_M_nextBit_74 ?_
    refine lv_iload_n hx hb d_M_nextBit_77 rfl (lv_at hl 2 rfl) ?_
    refine lv_aload_n hx hb d_M_nextBit_78 rfl (lv_at hl 1 rfl) ?_
    refine g_get E hH (gc_M rfl) cl_M 5 (by decide) lf_M_19 rfl d_M_nextBit_79 ?_
    refine lv_iload_n hx hb d_M_nextBit_82 rfl (lv_at hl 2 rfl) ?_
    refine g_iaload (k := (tn a1)) (v := (G0 25 (tn a1))) E hH ⟨by decide, fun _ => rfl⟩ (by rcases he with rfl | rfl <;> (unfold vp_in; first | decide | (split <;> decide))) rfl (wr_ck _ _ _ _ (by decide)) d_M_nextBit_83 ?_
    refine lv_iconst (v := 1) hx hb d_M_nextBit_84 (by decide) ?_
    refine lv_iadd hx hb d_M_nextBit_85 ?_
    refine g_iastore (k := (tn a1)) E hH ⟨by decide, fun _ => rfl⟩ (by rcases he with rfl | rfl <;> (unfold vp_in; first | decide | (split <;> decide))) rfl d_M_nextBit_86 (fun H locs hH => ?_)
    refine lv_aload_n hx hb d_M_nextBit_87 rfl (lv_at hl 1 rfl) ?_
    refine g_get E hH (gc_M rfl) cl_M 5 (by decide) lf_M_19 rfl d_M_nextBit_88 ?_
    refine lv_iload_n hx hb d_M_nextBit_91 rfl (lv_at hl 2 rfl) ?_
    refine g_iaload (k := (tn a1)) (v := ((G0 25 (tn a1)) + 1)) E hH ⟨by decide, fun _ => rfl⟩ (by rcases he with rfl | rfl <;> (unfold vp_in; first | decide | (split <;> decide))) rfl (wr_same _ _ _ _) d_M_nextBit_92 ?_
    refine lv_bipush (v := 32) hx hb d_M_nextBit_93 (by decide) ?_
    refine lv_icmp_ne (tgt := 153) hx hb d_M_nextBit_95 (by decide) (fun h2 => ?_) (fun h2 => ?_)
    · refine lv_iload_n hx hb d_M_nextBit_153 rfl (lv_at hl 0 rfl) ?_
      exact g_iret E hH (hsp.trans (by simp only [sp_M_nextBit, if_neg h1, if_neg h2])) d_M_nextBit_154
    · refine lv_aload_n hx hb d_M_nextBit_98 rfl (lv_at hl 1 rfl) ?_
      refine g_get E hH (gc_M rfl) cl_M 5 (by decide) lf_M_19 rfl d_M_nextBit_99 ?_
      refine lv_iload_n hx hb d_M_nextBit_102 rfl (lv_at hl 2 rfl) ?_
      refine lv_iconst (v := 0) hx hb d_M_nextBit_103 (by decide) ?_
      refine g_iastore (k := (tn a1)) E hH ⟨by decide, fun _ => rfl⟩ (by rcases he with rfl | rfl <;> (unfold vp_in; first | decide | (split <;> decide))) rfl d_M_nextBit_104 (fun H locs hH => ?_)
      refine lv_aload_n hx hb d_M_nextBit_105 rfl (lv_at hl 1 rfl) ?_
      refine g_get E hH (gc_M rfl) cl_M 4 (by decide) lf_M_16 rfl d_M_nextBit_106 ?_
      refine lv_iload_n hx hb d_M_nextBit_109 rfl (lv_at hl 2 rfl) ?_
      refine lv_aload_n hx hb d_M_nextBit_110 rfl (lv_at hl 1 rfl) ?_
      refine g_get E hH (gc_M rfl) cl_M 4 (by decide) lf_M_16 rfl d_M_nextBit_111 ?_
      refine lv_iload_n hx hb d_M_nextBit_114 rfl (lv_at hl 2 rfl) ?_
      refine g_iaload (k := (tn a1)) (v := (G0 24 (tn a1))) E hH ⟨by decide, fun _ => rfl⟩ (by rcases he with rfl | rfl <;> (unfold vp_in; first | decide | (split <;> decide))) rfl ((wr_ck _ _ _ _ (by decide)).trans ((wr_ck _ _ _ _ (by decide)).trans (wr_ck _ _ _ _ (by decide)))) d_M_nextBit_115 ?_
      refine lv_iconst (v := 1) hx hb d_M_nextBit_116 (by decide) ?_
      refine lv_iadd hx hb d_M_nextBit_117 ?_
      refine lv_bipush (v := 16) hx hb d_M_nextBit_118 (by decide) ?_
      refine lv_irem hx hb d_M_nextBit_120 (by decide) ?_
      refine g_iastore (k := (tn a1)) E hH ⟨by decide, fun _ => rfl⟩ (by rcases he with rfl | rfl <;> (unfold vp_in; first | decide | (split <;> decide))) rfl d_M_nextBit_121 (fun H locs hH => ?_)
      refine lv_aload_n hx hb d_M_nextBit_122 rfl (lv_at hl 1 rfl) ?_
      refine g_get E hH (gc_M rfl) cl_M 4 (by decide) lf_M_16 rfl d_M_nextBit_123 ?_
      refine lv_iload_n hx hb d_M_nextBit_126 rfl (lv_at hl 2 rfl) ?_
      refine g_iaload (k := (tn a1)) (v := (((G0 24 (tn a1)) + 1) - ((G0 24 (tn a1)) + 1) / 16 * 16)) E hH ⟨by decide, fun _ => rfl⟩ (by rcases he with rfl | rfl <;> (unfold vp_in; first | decide | (split <;> decide))) rfl (wr_same _ _ _ _) d_M_nextBit_127 ?_
      refine lv_bipush (v := 8) hx hb d_M_nextBit_128 (by decide) ?_
      refine lv_irem hx hb d_M_nextBit_130 (by decide) ?_
      refine lv_if_ne (tgt := 153) hx hb d_M_nextBit_131 (by decide) (fun h3 => ?_) (fun h3 => ?_)
      · refine lv_iload_n hx hb d_M_nextBit_153 rfl (lv_at hl 0 rfl) ?_
        exact g_iret E hH (hsp.trans (by simp only [sp_M_nextBit, if_neg h1, if_pos h2, if_neg h3])) d_M_nextBit_154
      · refine lv_aload_n hx hb d_M_nextBit_134 rfl (lv_at hl 1 rfl) ?_
        refine g_get E hH (gc_M rfl) cl_M 7 (by decide) lf_M_25 rfl d_M_nextBit_135 ?_
        refine lv_iload_n hx hb d_M_nextBit_138 rfl (lv_at hl 2 rfl) ?_
        refine lv_aload_n hx hb d_M_nextBit_139 rfl (lv_at hl 1 rfl) ?_
        refine g_get E hH (gc_M rfl) cl_M 6 (by decide) lf_M_22 rfl d_M_nextBit_140 ?_
        refine lv_iload_n hx hb d_M_nextBit_143 rfl (lv_at hl 2 rfl) ?_
        refine g_iaload (k := (tn a1)) (v := ((sp_M_with G0 (G0 26 (tn a1)) (((G0 23 (tn a1)) >>> ((31 - (G0 25 (tn a1))) &&& 31)) &&& (1 : Int32))))) E hH ⟨by decide, fun _ => rfl⟩ (by rcases he with rfl | rfl <;> (unfold vp_in; first | decide | (split <;> decide))) rfl ((wr_ck _ _ _ _ (by decide)).trans ((wr_ck _ _ _ _ (by decide)).trans ((wr_ck _ _ _ _ (by decide)).trans (wr_same _ _ _ _)))) d_M_nextBit_144 ?_
        refine g_iastore (k := (tn a1)) E hH ⟨by decide, fun _ => rfl⟩ (by rcases he with rfl | rfl <;> (unfold vp_in; first | decide | (split <;> decide))) rfl d_M_nextBit_145 (fun H locs hH => ?_)
        refine lv_aload_n hx hb d_M_nextBit_146 rfl (lv_at hl 1 rfl) ?_
        refine g_get E hH (gc_M rfl) cl_M 6 (by decide) lf_M_22 rfl d_M_nextBit_147 ?_
        refine lv_iload_n hx hb d_M_nextBit_150 rfl (lv_at hl 2 rfl) ?_
        refine lv_iconst (v := 0) hx hb d_M_nextBit_151 (by decide) ?_
        refine g_iastore (k := (tn a1)) E hH ⟨by decide, fun _ => rfl⟩ (by rcases he with rfl | rfl <;> (unfold vp_in; first | decide | (split <;> decide))) rfl d_M_nextBit_152 (fun H locs hH => ?_)
        refine lv_iload_n hx hb d_M_nextBit_153 rfl (lv_at hl 0 rfl) ?_
        exact g_iret E hH (hsp.trans (by simp only [sp_M_nextBit, if_neg h1, if_pos h2, if_pos h3])) d_M_nextBit_154
  · refine lv_aload_n hx hb d_M_nextBit_9 rfl (lv_at hl 0 rfl) ?_
    refine lv_iload_n hx hb d_M_nextBit_10 rfl (lv_at hl 1 rfl) ?_
    refine g_callVv (As := [.int _]) E hH hl (c_M_beginFrame l P _ _ he) lm_M_145 (gc_M rfl) cl_M (Nat.le_of_ble_eq_true rfl) (Nat.le_of_ble_eq_true rfl) (Nat.le_of_ble_eq_true rfl) (Nat.le_of_ble_eq_true rfl) (Nat.le_of_ble_eq_true rfl) rfl rfl rfl rfl d_M_nextBit_11 (fun H locs hH => ?_)
    refine lv_aload_n hx hb d_M_nextBit_14 rfl (lv_at hl 0 rfl) ?_
    refine g_get E hH (gc_M rfl) cl_M 3 (by decide) lf_M_13 rfl d_M_nextBit_15 ?_
    refine lv_iload_n hx hb d_M_nextBit_18 rfl (lv_at hl 1 rfl) ?_
    refine g_iaload (k := (tn a1)) (v := ((sp_M_beginFrame G0 a1) 23 (tn a1))) E hH ⟨by decide, fun _ => rfl⟩ (by rcases he with rfl | rfl <;> (unfold vp_in; first | decide | (split <;> decide))) rfl rfl d_M_nextBit_19 ?_
    refine lv_bipush (v := 31) hx hb d_M_nextBit_20 (by decide) ?_
    refine lv_aload_n hx hb d_M_nextBit_22 rfl (lv_at hl 0 rfl) ?_
    refine g_get E hH (gc_M rfl) cl_M 5 (by decide) lf_M_19 rfl d_M_nextBit_23 ?_
    refine lv_iload_n hx hb d_M_nextBit_26 rfl (lv_at hl 1 rfl) ?_
    refine g_iaload (k := (tn a1)) (v := ((sp_M_beginFrame G0 a1) 25 (tn a1))) E hH ⟨by decide, fun _ => rfl⟩ (by rcases he with rfl | rfl <;> (unfold vp_in; first | decide | (split <;> decide))) rfl rfl d_M_nextBit_27 ?_
    refine lv_isub hx hb d_M_nextBit_28 ?_
    refine lv_ishr hx hb d_M_nextBit_29 ?_
    refine lv_iconst (v := 1) hx hb d_M_nextBit_30 (by decide) ?_
    refine lv_iand hx hb d_M_nextBit_31 ?_
    refine lv_istore_n hx hb d_M_nextBit_32 rfl hl (by decide) rfl (fun ls hl => ?_)
    refine lv_aload_n hx hb d_M_nextBit_33 rfl (lv_at hl 1 rfl) ?_
    refine g_get E hH (gc_M rfl) cl_M 6 (by decide) lf_M_22 rfl d_M_nextBit_34 ?_
    refine lv_iload_n hx hb d_M_nextBit_37 rfl (lv_at hl 2 rfl) ?_
    refine lv_aload_n hx hb d_M_nextBit_38 rfl (lv_at hl 1 rfl) ?_
    refine g_get E hH (gc_M rfl) cl_M 6 (by decide) lf_M_22 rfl d_M_nextBit_39 ?_
    refine lv_iload_n hx hb d_M_nextBit_42 rfl (lv_at hl 2 rfl) ?_
    refine g_iaload (k := (tn a1)) (v := ((sp_M_beginFrame G0 a1) 26 (tn a1))) E hH ⟨by decide, fun _ => rfl⟩ (by rcases he with rfl | rfl <;> (unfold vp_in; first | decide | (split <;> decide))) rfl rfl d_M_nextBit_43 ?_
    refine lv_aload_n hx hb d_M_nextBit_44 rfl (lv_at hl 1 rfl) ?_
    refine g_get E hH (gc_M rfl) cl_M 5 (by decide) lf_M_19 rfl d_M_nextBit_45 ?_
    refine lv_iload_n hx hb d_M_nextBit_48 rfl (lv_at hl 2 rfl) ?_
    refine g_iaload (k := (tn a1)) (v := ((sp_M_beginFrame G0 a1) 25 (tn a1))) E hH ⟨by decide, fun _ => rfl⟩ (by rcases he with rfl | rfl <;> (unfold vp_in; first | decide | (split <;> decide))) rfl rfl d_M_nextBit_49 ?_
    refine jn (α := Int32) (fun z H1 locs1 => z = ((if ((sp_M_beginFrame G0 a1) 25 (tn a1)) = 0 then (if (((sp_M_beginFrame G0 a1) 24 (tn a1)) - ((sp_M_beginFrame G0 a1) 24 (tn a1)) / 2 * 2) = 0 then 0 else ((((sp_M_beginFrame G0 a1) 23 (tn a1)) >>> ((31 - ((sp_M_beginFrame G0 a1) 25 (tn a1))) &&& 31)) &&& (1 : Int32))) else ((((sp_M_beginFrame G0 a1) 23 (tn a1)) >>> ((31 - ((sp_M_beginFrame G0 a1) 25 (tn a1))) &&& 31)) &&& (1 : Int32))) : Int32) ∧ gH P s (sp_M_beginFrame G0 a1) H1 locs1) (fun z => F0 m 69 ls (.int z :: .int ((sp_M_beginFrame G0 a1) 26 (tn a1)) :: .int a1 :: .ref (gad P 26) :: [])) (fun z H locs h9 => ?_) (fun hJ => ?_)
    · obtain ⟨rfl, hH⟩ := h9
      refine g_callSri (As := [.int _, .int _]) E hH hl (c_M_with l P _ _ _) lm_M_149 (Nat.le_of_ble_eq_true rfl) (Nat.le_of_ble_eq_true rfl) (Nat.le_of_ble_eq_true rfl) (Nat.le_of_ble_eq_true rfl) (Nat.le_of_ble_eq_true rfl) rfl rfl rfl rfl d_M_nextBit_69 (fun H locs hH => ?_)
      refine g_iastore (k := (tn a1)) E hH ⟨by decide, fun _ => rfl⟩ (by rcases he with rfl | rfl <;> (unfold vp_in; first | decide | (split <;> decide))) rfl d_M_nextBit_72 (fun H locs hH => ?_)
      refine lv_aload_n hx hb d_M_nextBit_73 rfl (lv_at hl 1 rfl) ?_
      refine g_get E hH (gc_M rfl) cl_M 5 (by decide) lf_M_19 rfl d_M_nextBit_74 ?_
      refine lv_iload_n hx hb d_M_nextBit_77 rfl (lv_at hl 2 rfl) ?_
      refine lv_aload_n hx hb d_M_nextBit_78 rfl (lv_at hl 1 rfl) ?_
      refine g_get E hH (gc_M rfl) cl_M 5 (by decide) lf_M_19 rfl d_M_nextBit_79 ?_
      refine lv_iload_n hx hb d_M_nextBit_82 rfl (lv_at hl 2 rfl) ?_
      refine g_iaload (k := (tn a1)) (v := ((sp_M_beginFrame G0 a1) 25 (tn a1))) E hH ⟨by decide, fun _ => rfl⟩ (by rcases he with rfl | rfl <;> (unfold vp_in; first | decide | (split <;> decide))) rfl (wr_ck _ _ _ _ (by decide)) d_M_nextBit_83 ?_
      refine lv_iconst (v := 1) hx hb d_M_nextBit_84 (by decide) ?_
      refine lv_iadd hx hb d_M_nextBit_85 ?_
      refine g_iastore (k := (tn a1)) E hH ⟨by decide, fun _ => rfl⟩ (by rcases he with rfl | rfl <;> (unfold vp_in; first | decide | (split <;> decide))) rfl d_M_nextBit_86 (fun H locs hH => ?_)
      refine lv_aload_n hx hb d_M_nextBit_87 rfl (lv_at hl 1 rfl) ?_
      refine g_get E hH (gc_M rfl) cl_M 5 (by decide) lf_M_19 rfl d_M_nextBit_88 ?_
      refine lv_iload_n hx hb d_M_nextBit_91 rfl (lv_at hl 2 rfl) ?_
      refine g_iaload (k := (tn a1)) (v := (((sp_M_beginFrame G0 a1) 25 (tn a1)) + 1)) E hH ⟨by decide, fun _ => rfl⟩ (by rcases he with rfl | rfl <;> (unfold vp_in; first | decide | (split <;> decide))) rfl (wr_same _ _ _ _) d_M_nextBit_92 ?_
      refine lv_bipush (v := 32) hx hb d_M_nextBit_93 (by decide) ?_
      refine lv_icmp_ne (tgt := 153) hx hb d_M_nextBit_95 (by decide) (fun h4 => ?_) (fun h4 => ?_)
      · refine lv_iload_n hx hb d_M_nextBit_153 rfl (lv_at hl 0 rfl) ?_
        exact g_iret E hH (hsp.trans (by simp only [sp_M_nextBit, if_pos h1, if_neg h4])) d_M_nextBit_154
      · refine lv_aload_n hx hb d_M_nextBit_98 rfl (lv_at hl 1 rfl) ?_
        refine g_get E hH (gc_M rfl) cl_M 5 (by decide) lf_M_19 rfl d_M_nextBit_99 ?_
        refine lv_iload_n hx hb d_M_nextBit_102 rfl (lv_at hl 2 rfl) ?_
        refine lv_iconst (v := 0) hx hb d_M_nextBit_103 (by decide) ?_
        refine g_iastore (k := (tn a1)) E hH ⟨by decide, fun _ => rfl⟩ (by rcases he with rfl | rfl <;> (unfold vp_in; first | decide | (split <;> decide))) rfl d_M_nextBit_104 (fun H locs hH => ?_)
        refine lv_aload_n hx hb d_M_nextBit_105 rfl (lv_at hl 1 rfl) ?_
        refine g_get E hH (gc_M rfl) cl_M 4 (by decide) lf_M_16 rfl d_M_nextBit_106 ?_
        refine lv_iload_n hx hb d_M_nextBit_109 rfl (lv_at hl 2 rfl) ?_
        refine lv_aload_n hx hb d_M_nextBit_110 rfl (lv_at hl 1 rfl) ?_
        refine g_get E hH (gc_M rfl) cl_M 4 (by decide) lf_M_16 rfl d_M_nextBit_111 ?_
        refine lv_iload_n hx hb d_M_nextBit_114 rfl (lv_at hl 2 rfl) ?_
        refine g_iaload (k := (tn a1)) (v := ((sp_M_beginFrame G0 a1) 24 (tn a1))) E hH ⟨by decide, fun _ => rfl⟩ (by rcases he with rfl | rfl <;> (unfold vp_in; first | decide | (split <;> decide))) rfl ((wr_ck _ _ _ _ (by decide)).trans ((wr_ck _ _ _ _ (by decide)).trans (wr_ck _ _ _ _ (by decide)))) d_M_nextBit_115 ?_
        refine lv_iconst (v := 1) hx hb d_M_nextBit_116 (by decide) ?_
        refine lv_iadd hx hb d_M_nextBit_117 ?_
        refine lv_bipush (v := 16) hx hb d_M_nextBit_118 (by decide) ?_
        refine lv_irem hx hb d_M_nextBit_120 (by decide) ?_
        refine g_iastore (k := (tn a1)) E hH ⟨by decide, fun _ => rfl⟩ (by rcases he with rfl | rfl <;> (unfold vp_in; first | decide | (split <;> decide))) rfl d_M_nextBit_121 (fun H locs hH => ?_)
        refine lv_aload_n hx hb d_M_nextBit_122 rfl (lv_at hl 1 rfl) ?_
        refine g_get E hH (gc_M rfl) cl_M 4 (by decide) lf_M_16 rfl d_M_nextBit_123 ?_
        refine lv_iload_n hx hb d_M_nextBit_126 rfl (lv_at hl 2 rfl) ?_
        refine g_iaload (k := (tn a1)) (v := ((((sp_M_beginFrame G0 a1) 24 (tn a1)) + 1) - (((sp_M_beginFrame G0 a1) 24 (tn a1)) + 1) / 16 * 16)) E hH ⟨by decide, fun _ => rfl⟩ (by rcases he with rfl | rfl <;> (unfold vp_in; first | decide | (split <;> decide))) rfl (wr_same _ _ _ _) d_M_nextBit_127 ?_
        refine lv_bipush (v := 8) hx hb d_M_nextBit_128 (by decide) ?_
        refine lv_irem hx hb d_M_nextBit_130 (by decide) ?_
        refine lv_if_ne (tgt := 153) hx hb d_M_nextBit_131 (by decide) (fun h5 => ?_) (fun h5 => ?_)
        · refine lv_iload_n hx hb d_M_nextBit_153 rfl (lv_at hl 0 rfl) ?_
          exact g_iret E hH (hsp.trans (by simp only [sp_M_nextBit, if_pos h1, if_pos h4, if_neg h5])) d_M_nextBit_154
        · refine lv_aload_n hx hb d_M_nextBit_134 rfl (lv_at hl 1 rfl) ?_
          refine g_get E hH (gc_M rfl) cl_M 7 (by decide) lf_M_25 rfl d_M_nextBit_135 ?_
          refine lv_iload_n hx hb d_M_nextBit_138 rfl (lv_at hl 2 rfl) ?_
          refine lv_aload_n hx hb d_M_nextBit_139 rfl (lv_at hl 1 rfl) ?_
          refine g_get E hH (gc_M rfl) cl_M 6 (by decide) lf_M_22 rfl d_M_nextBit_140 ?_
          refine lv_iload_n hx hb d_M_nextBit_143 rfl (lv_at hl 2 rfl) ?_
          refine g_iaload (k := (tn a1)) (v := ((sp_M_with (sp_M_beginFrame G0 a1) ((sp_M_beginFrame G0 a1) 26 (tn a1)) ((if ((sp_M_beginFrame G0 a1) 25 (tn a1)) = 0 then (if (((sp_M_beginFrame G0 a1) 24 (tn a1)) - ((sp_M_beginFrame G0 a1) 24 (tn a1)) / 2 * 2) = 0 then 0 else ((((sp_M_beginFrame G0 a1) 23 (tn a1)) >>> ((31 - ((sp_M_beginFrame G0 a1) 25 (tn a1))) &&& 31)) &&& (1 : Int32))) else ((((sp_M_beginFrame G0 a1) 23 (tn a1)) >>> ((31 - ((sp_M_beginFrame G0 a1) 25 (tn a1))) &&& 31)) &&& (1 : Int32))) : Int32)))) E hH ⟨by decide, fun _ => rfl⟩ (by rcases he with rfl | rfl <;> (unfold vp_in; first | decide | (split <;> decide))) rfl ((wr_ck _ _ _ _ (by decide)).trans ((wr_ck _ _ _ _ (by decide)).trans ((wr_ck _ _ _ _ (by decide)).trans (wr_same _ _ _ _)))) d_M_nextBit_144 ?_
          refine g_iastore (k := (tn a1)) E hH ⟨by decide, fun _ => rfl⟩ (by rcases he with rfl | rfl <;> (unfold vp_in; first | decide | (split <;> decide))) rfl d_M_nextBit_145 (fun H locs hH => ?_)
          refine lv_aload_n hx hb d_M_nextBit_146 rfl (lv_at hl 1 rfl) ?_
          refine g_get E hH (gc_M rfl) cl_M 6 (by decide) lf_M_22 rfl d_M_nextBit_147 ?_
          refine lv_iload_n hx hb d_M_nextBit_150 rfl (lv_at hl 2 rfl) ?_
          refine lv_iconst (v := 0) hx hb d_M_nextBit_151 (by decide) ?_
          refine g_iastore (k := (tn a1)) E hH ⟨by decide, fun _ => rfl⟩ (by rcases he with rfl | rfl <;> (unfold vp_in; first | decide | (split <;> decide))) rfl d_M_nextBit_152 (fun H locs hH => ?_)
          refine lv_iload_n hx hb d_M_nextBit_153 rfl (lv_at hl 0 rfl) ?_
          exact g_iret E hH (hsp.trans (by simp only [sp_M_nextBit, if_pos h1, if_pos h4, if_pos h5])) d_M_nextBit_154
    · refine lv_if_ne (tgt := 68) hx hb d_M_nextBit_50 (by decide) (fun h6 => ?_) (fun h6 => ?_)
      · refine lv_iload_n hx hb d_M_nextBit_68 rfl (lv_at hl 0 rfl) ?_
        exact hJ _ _ _ ⟨by simp only [if_neg h6], hH⟩
      · refine lv_aload_n hx hb d_M_nextBit_53 rfl (lv_at hl 1 rfl) ?_
        refine g_get E hH (gc_M rfl) cl_M 4 (by decide) lf_M_16 rfl d_M_nextBit_54 ?_
        refine lv_iload_n hx hb d_M_nextBit_57 rfl (lv_at hl 2 rfl) ?_
        refine g_iaload (k := (tn a1)) (v := ((sp_M_beginFrame G0 a1) 24 (tn a1))) E hH ⟨by decide, fun _ => rfl⟩ (by rcases he with rfl | rfl <;> (unfold vp_in; first | decide | (split <;> decide))) rfl rfl d_M_nextBit_58 ?_
        refine lv_iconst (v := 2) hx hb d_M_nextBit_59 (by decide) ?_
        refine lv_irem hx hb d_M_nextBit_60 (by decide) ?_
        refine lv_if_ne (tgt := 68) hx hb d_M_nextBit_61 (by decide) (fun h7 => ?_) (fun h7 => ?_)
        · refine lv_iload_n hx hb d_M_nextBit_68 rfl (lv_at hl 0 rfl) ?_
          exact hJ _ _ _ ⟨by simp only [if_pos h6, if_neg h7], hH⟩
        · refine lv_iconst (v := 0) hx hb d_M_nextBit_64 (by decide) ?_
          refine lv_goto (tgt := 69) hx hb d_M_nextBit_65 (by decide) ?_
          exact hJ _ _ _ ⟨by simp only [if_pos h6, if_pos h7], hH⟩

def sp_M_send  (G0 : Mem) (a1 : Int32) : Int32 × Mem :=
  (if 4 ≤ (((sp_M_nextBit G0 a1)).2 21 1) then (if (((sp_M_nextBit G0 a1)).2 29 (tn a1)) ≤ 0 then (if ((((G0 28 (tn a1)) <<< ((1 : Int32) &&& 31)) ||| ((sp_M_nextBit G0 a1)).1) &&& (15 : Int32)) = 0 then (if (((sp_M_nextBit G0 a1)).2 31 (tn a1)) = 0 then (((sp_M_turned (wr (wr ((sp_M_nextBit G0 a1)).2 28 (tn a1) ((((G0 28 (tn a1)) <<< ((1 : Int32) &&& 31)) ||| ((sp_M_nextBit G0 a1)).1) &&& (15 : Int32))) 29 (tn a1) 3) a1)).1, ((sp_M_turned (wr (wr ((sp_M_nextBit G0 a1)).2 28 (tn a1) ((((G0 28 (tn a1)) <<< ((1 : Int32) &&& 31)) ||| ((sp_M_nextBit G0 a1)).1) &&& (15 : Int32))) 29 (tn a1) 3) a1)).2) else ((0 : Int32), (wr (wr ((sp_M_nextBit G0 a1)).2 28 (tn a1) ((((G0 28 (tn a1)) <<< ((1 : Int32) &&& 31)) ||| ((sp_M_nextBit G0 a1)).1) &&& (15 : Int32))) 29 (tn a1) 3))) else (if 8 ≤ ((((G0 28 (tn a1)) <<< ((1 : Int32) &&& 31)) ||| ((sp_M_nextBit G0 a1)).1) &&& (15 : Int32)) then (((sp_M_turned (wr (wr ((sp_M_nextBit G0 a1)).2 28 (tn a1) ((((G0 28 (tn a1)) <<< ((1 : Int32) &&& 31)) ||| ((sp_M_nextBit G0 a1)).1) &&& (15 : Int32))) 31 (tn a1) (zb ((if (((sp_M_nextBit G0 a1)).2 31 (tn a1)) = 0 then 1 else 0) : Int32))) a1)).1, ((sp_M_turned (wr (wr ((sp_M_nextBit G0 a1)).2 28 (tn a1) ((((G0 28 (tn a1)) <<< ((1 : Int32) &&& 31)) ||| ((sp_M_nextBit G0 a1)).1) &&& (15 : Int32))) 31 (tn a1) (zb ((if (((sp_M_nextBit G0 a1)).2 31 (tn a1)) = 0 then 1 else 0) : Int32))) a1)).2) else ((0 : Int32), (wr ((sp_M_nextBit G0 a1)).2 28 (tn a1) ((((G0 28 (tn a1)) <<< ((1 : Int32) &&& 31)) ||| ((sp_M_nextBit G0 a1)).1) &&& (15 : Int32)))))) else (((if ((((sp_M_nextBit G0 a1)).2 29 (tn a1)) - 1) = 0 then (((sp_M_nextBit G0 a1)).2 30 (tn a1)) else 0) : Int32), (wr (wr (wr ((sp_M_nextBit G0 a1)).2 28 (tn a1) ((((G0 28 (tn a1)) <<< ((1 : Int32) &&& 31)) ||| ((sp_M_nextBit G0 a1)).1) &&& (15 : Int32))) 29 (tn a1) ((((sp_M_nextBit G0 a1)).2 29 (tn a1)) - 1)) 31 (tn a1) (zb ((if ((((sp_M_nextBit G0 a1)).2 29 (tn a1)) - 1) ≤ 0 then 0 else (if (((sp_M_nextBit G0 a1)).2 31 (tn a1)) = 0 then 0 else 1)) : Int32))))) else ((0 : Int32), (wr ((sp_M_nextBit G0 a1)).2 28 (tn a1) ((((G0 28 (tn a1)) <<< ((1 : Int32) &&& 31)) ||| ((sp_M_nextBit G0 a1)).1) &&& (15 : Int32)))))
set_option maxHeartbeats 4000000 in
set_option maxRecDepth 100000 in
theorem c_M_send (l : Launch) (P : gP) (G0 : Mem)  (a1 : Int32) (he : a1 = 0 ∨ a1 = 1) : gMi l y_M_send b_M_send 2 (some .int) ({ frames := 3, cells := 0, slots := 0, locals := 67 }) [.ref (gad P 21), .int a1] P G0 (sp_M_send G0 a1) := by
  refine Met.ofW (cc := b_M_send) (maxL := 2) (ret := (some .int)) (by decide) rfl ?_
  intro p e s m args below meth c0 s₁ B hml hv
  obtain ⟨rfl, hpre⟩ := hv
  obtain ⟨E, hH⟩ := gE_of B hml hpre
  replace E : gE p s m _ meth c0 P "FramedLineModel" b_M_send 2 (some .int) := E
  have hx := E.1
  have hb := E.2.1
  have hl := lv_entry ([.ref (gad P 21), .int a1]) (n := 2) (Nat.le_of_ble_eq_true rfl)
  rw [lg_entry_eq]
  generalize (lg_sl ([.ref (gad P 21), .int a1]) ++ List.replicate (2 - (lg_sl ([.ref (gad P 21), .int a1])).length) Slot.unset).toArray = ls at hl ⊢
  replace hl : lv_has ls 2 [(0, .ref (gad P 21)), (1, .int a1)] := hl
  have hsp : sp_M_send G0 a1 = sp_M_send G0 a1 := rfl
  refine lv_aload_n hx hb d_M_send_0 rfl (lv_at hl 0 rfl) ?_
  refine g_get E hH (gc_M rfl) cl_M 8 (by decide) lf_M_28 rfl d_M_send_1 ?_
  refine lv_iload_n hx hb d_M_send_4 rfl (lv_at hl 1 rfl) ?_
  refine lv_aload_n hx hb d_M_send_5 rfl (lv_at hl 0 rfl) ?_
  refine g_get E hH (gc_M rfl) cl_M 8 (by decide) lf_M_28 rfl d_M_send_6 ?_
  refine lv_iload_n hx hb d_M_send_9 rfl (lv_at hl 1 rfl) ?_
  refine g_iaload (k := (tn a1)) (v := (G0 28 (tn a1))) E hH ⟨by decide, fun _ => rfl⟩ (by rcases he with rfl | rfl <;> (unfold vp_in; first | decide | (split <;> decide))) rfl rfl d_M_send_10 ?_
  refine lv_iconst (v := 1) hx hb d_M_send_11 (by decide) ?_
  refine lv_ishl hx hb d_M_send_12 ?_
  refine lv_aload_n hx hb d_M_send_13 rfl (lv_at hl 0 rfl) ?_
  refine lv_iload_n hx hb d_M_send_14 rfl (lv_at hl 1 rfl) ?_
  refine g_callVi (As := [.int _]) E hH hl (c_M_nextBit l P _ _ he) lm_M_152 (gc_M rfl) cl_M (Nat.le_of_ble_eq_true rfl) (Nat.le_of_ble_eq_true rfl) (Nat.le_of_ble_eq_true rfl) (Nat.le_of_ble_eq_true rfl) (Nat.le_of_ble_eq_true rfl) rfl rfl rfl rfl d_M_send_15 (fun H locs hH => ?_)
  refine lv_ior hx hb d_M_send_18 ?_
  refine lv_bipush (v := 15) hx hb d_M_send_19 (by decide) ?_
  refine lv_iand hx hb d_M_send_21 ?_
  refine g_iastore (k := (tn a1)) E hH ⟨by decide, fun _ => rfl⟩ (by rcases he with rfl | rfl <;> (unfold vp_in; first | decide | (split <;> decide))) rfl d_M_send_22 (fun H locs hH => ?_)
  refine lv_aload_n hx hb d_M_send_23 rfl (lv_at hl 0 rfl) ?_
  refine g_geti (v := (((sp_M_nextBit G0 a1)).2 21 1)) E hH (gc_M rfl) cl_M 1 (by decide) lf_M_156 (fun _ => rfl) (wr_ck _ _ _ _ (by decide)) d_M_send_24 ?_
  refine lv_iconst (v := 4) hx hb d_M_send_27 (by decide) ?_
  refine lv_icmp_ge (tgt := 33) hx hb d_M_send_28 (by decide) (fun h1 => ?_) (fun h1 => ?_)
  · refine lv_aload_n hx hb d_M_send_33 rfl (lv_at hl 0 rfl) ?_
    refine g_get E hH (gc_M rfl) cl_M 9 (by decide) lf_M_31 rfl d_M_send_34 ?_
    refine lv_iload_n hx hb d_M_send_37 rfl (lv_at hl 1 rfl) ?_
    refine g_iaload (k := (tn a1)) (v := (((sp_M_nextBit G0 a1)).2 29 (tn a1))) E hH ⟨by decide, fun _ => rfl⟩ (by rcases he with rfl | rfl <;> (unfold vp_in; first | decide | (split <;> decide))) rfl (wr_ck _ _ _ _ (by decide)) d_M_send_38 ?_
    refine lv_if_le (tgt := 105) hx hb d_M_send_39 (by decide) (fun h2 => ?_) (fun h2 => ?_)
    · refine lv_aload_n hx hb d_M_send_105 rfl (lv_at hl 0 rfl) ?_
      refine g_get E hH (gc_M rfl) cl_M 8 (by decide) lf_M_28 rfl d_M_send_106 ?_
      refine lv_iload_n hx hb d_M_send_109 rfl (lv_at hl 1 rfl) ?_
      refine g_iaload (k := (tn a1)) (v := ((((G0 28 (tn a1)) <<< ((1 : Int32) &&& 31)) ||| ((sp_M_nextBit G0 a1)).1) &&& (15 : Int32))) E hH ⟨by decide, fun _ => rfl⟩ (by rcases he with rfl | rfl <;> (unfold vp_in; first | decide | (split <;> decide))) rfl (wr_same _ _ _ _) d_M_send_110 ?_
      refine lv_if_ne (tgt := 140) hx hb d_M_send_111 (by decide) (fun h3 => ?_) (fun h3 => ?_)
      · refine lv_aload_n hx hb d_M_send_140 rfl (lv_at hl 0 rfl) ?_
        refine g_get E hH (gc_M rfl) cl_M 8 (by decide) lf_M_28 rfl d_M_send_141 ?_
        refine lv_iload_n hx hb d_M_send_144 rfl (lv_at hl 1 rfl) ?_
        refine g_iaload (k := (tn a1)) (v := ((((G0 28 (tn a1)) <<< ((1 : Int32) &&& 31)) ||| ((sp_M_nextBit G0 a1)).1) &&& (15 : Int32))) E hH ⟨by decide, fun _ => rfl⟩ (by rcases he with rfl | rfl <;> (unfold vp_in; first | decide | (split <;> decide))) rfl (wr_same _ _ _ _) d_M_send_145 ?_
        refine lv_bipush (v := 8) hx hb d_M_send_146 (by decide) ?_
        refine lv_icmp_ge (tgt := 153) hx hb d_M_send_148 (by decide) (fun h4 => ?_) (fun h4 => ?_)
        · refine lv_aload_n hx hb d_M_send_153 rfl (lv_at hl 0 rfl) ?_
          refine g_get E hH (gc_M rfl) cl_M 11 (by decide) lf_M_37 rfl d_M_send_154 ?_
          refine lv_iload_n hx hb d_M_send_157 rfl (lv_at hl 1 rfl) ?_
          refine lv_aload_n hx hb d_M_send_158 rfl (lv_at hl 0 rfl) ?_
          refine g_get E hH (gc_M rfl) cl_M 11 (by decide) lf_M_37 rfl d_M_send_159 ?_
          refine lv_iload_n hx hb d_M_send_162 rfl (lv_at hl 1 rfl) ?_
          refine g_baload (k := (tn a1)) (v := (((sp_M_nextBit G0 a1)).2 31 (tn a1))) E hH ⟨by decide, fun _ => rfl⟩ (by rcases he with rfl | rfl <;> (unfold vp_in; first | decide | (split <;> decide))) rfl (wr_ck _ _ _ _ (by decide)) d_M_send_163 ?_
          refine jn (α := Int32) (fun z H1 locs1 => z = ((if (((sp_M_nextBit G0 a1)).2 31 (tn a1)) = 0 then 1 else 0) : Int32) ∧ isB z ∧ gH P s (wr ((sp_M_nextBit G0 a1)).2 28 (tn a1) ((((G0 28 (tn a1)) <<< ((1 : Int32) &&& 31)) ||| ((sp_M_nextBit G0 a1)).1) &&& (15 : Int32))) H1 locs1) (fun z => F0 m 172 ls (.int z :: .int a1 :: .ref (gad P 31) :: [])) (fun z H locs h9 => ?_) (fun hJ => ?_)
          · obtain ⟨rfl, hz172, hH⟩ := h9
            refine g_bastore (k := (tn a1)) E hH ⟨by decide, fun _ => rfl⟩ (by rcases he with rfl | rfl <;> (unfold vp_in; first | decide | (split <;> decide))) rfl d_M_send_172 (fun H locs hH => ?_)
            refine lv_aload_n hx hb d_M_send_173 rfl (lv_at hl 0 rfl) ?_
            refine lv_iload_n hx hb d_M_send_174 rfl (lv_at hl 1 rfl) ?_
            refine g_callVi (As := [.int _]) E hH hl (c_M_turned l P _ _ he) lm_M_159 (gc_M rfl) cl_M (Nat.le_of_ble_eq_true rfl) (Nat.le_of_ble_eq_true rfl) (Nat.le_of_ble_eq_true rfl) (Nat.le_of_ble_eq_true rfl) (Nat.le_of_ble_eq_true rfl) rfl rfl rfl rfl d_M_send_175 (fun H locs hH => ?_)
            exact g_iret E hH (hsp.trans (by simp only [sp_M_send, if_pos h1, if_pos h2, if_neg h3, if_pos h4])) d_M_send_178
          · refine lv_if_ne (tgt := 171) hx hb d_M_send_164 (by decide) (fun h5 => ?_) (fun h5 => ?_)
            · refine lv_iconst (v := 0) hx hb d_M_send_171 (by decide) ?_
              exact hJ _ _ _ ⟨by simp only [if_neg h5], isB_0, hH⟩
            · refine lv_iconst (v := 1) hx hb d_M_send_167 (by decide) ?_
              refine lv_goto (tgt := 172) hx hb d_M_send_168 (by decide) ?_
              exact hJ _ _ _ ⟨by simp only [if_pos h5], isB_1, hH⟩
        · refine lv_iconst (v := 0) hx hb d_M_send_151 (by decide) ?_
          exact g_iret E hH (hsp.trans (by simp only [sp_M_send, if_pos h1, if_pos h2, if_neg h3, if_neg h4])) d_M_send_152
      · refine lv_aload_n hx hb d_M_send_114 rfl (lv_at hl 0 rfl) ?_
        refine g_get E hH (gc_M rfl) cl_M 9 (by decide) lf_M_31 rfl d_M_send_115 ?_
        refine lv_iload_n hx hb d_M_send_118 rfl (lv_at hl 1 rfl) ?_
        refine lv_iconst (v := 3) hx hb d_M_send_119 (by decide) ?_
        refine g_iastore (k := (tn a1)) E hH ⟨by decide, fun _ => rfl⟩ (by rcases he with rfl | rfl <;> (unfold vp_in; first | decide | (split <;> decide))) rfl d_M_send_120 (fun H locs hH => ?_)
        refine lv_aload_n hx hb d_M_send_121 rfl (lv_at hl 0 rfl) ?_
        refine g_get E hH (gc_M rfl) cl_M 11 (by decide) lf_M_37 rfl d_M_send_122 ?_
        refine lv_iload_n hx hb d_M_send_125 rfl (lv_at hl 1 rfl) ?_
        refine g_baload (k := (tn a1)) (v := (((sp_M_nextBit G0 a1)).2 31 (tn a1))) E hH ⟨by decide, fun _ => rfl⟩ (by rcases he with rfl | rfl <;> (unfold vp_in; first | decide | (split <;> decide))) rfl ((wr_ck _ _ _ _ (by decide)).trans (wr_ck _ _ _ _ (by decide))) d_M_send_126 ?_
        refine lv_if_eq (tgt := 134) hx hb d_M_send_127 (by decide) (fun h6 => ?_) (fun h6 => ?_)
        · refine lv_aload_n hx hb d_M_send_134 rfl (lv_at hl 0 rfl) ?_
          refine lv_iload_n hx hb d_M_send_135 rfl (lv_at hl 1 rfl) ?_
          refine g_callVi (As := [.int _]) E hH hl (c_M_turned l P _ _ he) lm_M_159 (gc_M rfl) cl_M (Nat.le_of_ble_eq_true rfl) (Nat.le_of_ble_eq_true rfl) (Nat.le_of_ble_eq_true rfl) (Nat.le_of_ble_eq_true rfl) (Nat.le_of_ble_eq_true rfl) rfl rfl rfl rfl d_M_send_136 (fun H locs hH => ?_)
          exact g_iret E hH (hsp.trans (by simp only [sp_M_send, if_pos h1, if_pos h2, if_pos h3, if_pos h6])) d_M_send_139
        · refine lv_iconst (v := 0) hx hb d_M_send_130 (by decide) ?_
          refine lv_goto (tgt := 139) hx hb d_M_send_131 (by decide) ?_
          exact g_iret E hH (hsp.trans (by simp only [sp_M_send, if_pos h1, if_pos h2, if_pos h3, if_neg h6])) d_M_send_139
    · refine lv_aload_n hx hb d_M_send_42 rfl (lv_at hl 0 rfl) ?_
      refine g_get E hH (gc_M rfl) cl_M 9 (by decide) lf_M_31 rfl d_M_send_43 ?_
      refine lv_iload_n hx hb d_M_send_46 rfl (lv_at hl 1 rfl) ?_
      refine lv_aload_n hx hb d_M_send_47 rfl (lv_at hl 0 rfl) ?_
      refine g_get E hH (gc_M rfl) cl_M 9 (by decide) lf_M_31 rfl d_M_send_48 ?_
      refine lv_iload_n hx hb d_M_send_51 rfl (lv_at hl 1 rfl) ?_
      refine g_iaload (k := (tn a1)) (v := (((sp_M_nextBit G0 a1)).2 29 (tn a1))) E hH ⟨by decide, fun _ => rfl⟩ (by rcases he with rfl | rfl <;> (unfold vp_in; first | decide | (split <;> decide))) rfl (wr_ck _ _ _ _ (by decide)) d_M_send_52 ?_
      refine lv_iconst (v := 1) hx hb d_M_send_53 (by decide) ?_
      refine lv_isub hx hb d_M_send_54 ?_
      refine g_iastore (k := (tn a1)) E hH ⟨by decide, fun _ => rfl⟩ (by rcases he with rfl | rfl <;> (unfold vp_in; first | decide | (split <;> decide))) rfl d_M_send_55 (fun H locs hH => ?_)
      refine lv_aload_n hx hb d_M_send_56 rfl (lv_at hl 0 rfl) ?_
      refine g_get E hH (gc_M rfl) cl_M 11 (by decide) lf_M_37 rfl d_M_send_57 ?_
      refine lv_iload_n hx hb d_M_send_60 rfl (lv_at hl 1 rfl) ?_
      refine lv_aload_n hx hb d_M_send_61 rfl (lv_at hl 0 rfl) ?_
      refine g_get E hH (gc_M rfl) cl_M 9 (by decide) lf_M_31 rfl d_M_send_62 ?_
      refine lv_iload_n hx hb d_M_send_65 rfl (lv_at hl 1 rfl) ?_
      refine g_iaload (k := (tn a1)) (v := ((((sp_M_nextBit G0 a1)).2 29 (tn a1)) - 1)) E hH ⟨by decide, fun _ => rfl⟩ (by rcases he with rfl | rfl <;> (unfold vp_in; first | decide | (split <;> decide))) rfl (wr_same _ _ _ _) d_M_send_66 ?_
      refine jn (α := Int32) (fun z H1 locs1 => z = ((if ((((sp_M_nextBit G0 a1)).2 29 (tn a1)) - 1) ≤ 0 then 0 else (if (((sp_M_nextBit G0 a1)).2 31 (tn a1)) = 0 then 0 else 1)) : Int32) ∧ isB z ∧ gH P s (wr (wr ((sp_M_nextBit G0 a1)).2 28 (tn a1) ((((G0 28 (tn a1)) <<< ((1 : Int32) &&& 31)) ||| ((sp_M_nextBit G0 a1)).1) &&& (15 : Int32))) 29 (tn a1) ((((sp_M_nextBit G0 a1)).2 29 (tn a1)) - 1)) H1 locs1) (fun z => F0 m 84 ls (.int z :: .int a1 :: .ref (gad P 31) :: [])) (fun z H locs h9 => ?_) (fun hJ => ?_)
      · obtain ⟨rfl, hz84, hH⟩ := h9
        refine g_bastore (k := (tn a1)) E hH ⟨by decide, fun _ => rfl⟩ (by rcases he with rfl | rfl <;> (unfold vp_in; first | decide | (split <;> decide))) rfl d_M_send_84 (fun H locs hH => ?_)
        refine lv_aload_n hx hb d_M_send_85 rfl (lv_at hl 0 rfl) ?_
        refine g_get E hH (gc_M rfl) cl_M 9 (by decide) lf_M_31 rfl d_M_send_86 ?_
        refine lv_iload_n hx hb d_M_send_89 rfl (lv_at hl 1 rfl) ?_
        refine g_iaload (k := (tn a1)) (v := ((((sp_M_nextBit G0 a1)).2 29 (tn a1)) - 1)) E hH ⟨by decide, fun _ => rfl⟩ (by rcases he with rfl | rfl <;> (unfold vp_in; first | decide | (split <;> decide))) rfl ((wr_ck _ _ _ _ (by decide)).trans (wr_same _ _ _ _)) d_M_send_90 ?_
        refine jn (α := Int32) (fun z H1 locs1 => z = ((if ((((sp_M_nextBit G0 a1)).2 29 (tn a1)) - 1) = 0 then (((sp_M_nextBit G0 a1)).2 30 (tn a1)) else 0) : Int32) ∧ gH P s (wr (wr (wr ((sp_M_nextBit G0 a1)).2 28 (tn a1) ((((G0 28 (tn a1)) <<< ((1 : Int32) &&& 31)) ||| ((sp_M_nextBit G0 a1)).1) &&& (15 : Int32))) 29 (tn a1) ((((sp_M_nextBit G0 a1)).2 29 (tn a1)) - 1)) 31 (tn a1) (zb ((if ((((sp_M_nextBit G0 a1)).2 29 (tn a1)) - 1) ≤ 0 then 0 else (if (((sp_M_nextBit G0 a1)).2 31 (tn a1)) = 0 then 0 else 1)) : Int32))) H1 locs1) (fun z => F0 m 104 ls (.int z :: [])) (fun z H locs h9 => ?_) (fun hJ => ?_)
        · obtain ⟨rfl, hH⟩ := h9
          exact g_iret E hH (hsp.trans (by simp only [sp_M_send, if_pos h1, if_neg h2])) d_M_send_104
        · refine lv_if_ne (tgt := 103) hx hb d_M_send_91 (by decide) (fun h7 => ?_) (fun h7 => ?_)
          · refine lv_iconst (v := 0) hx hb d_M_send_103 (by decide) ?_
            exact hJ _ _ _ ⟨by simp only [if_neg h7], hH⟩
          · refine lv_aload_n hx hb d_M_send_94 rfl (lv_at hl 0 rfl) ?_
            refine g_get E hH (gc_M rfl) cl_M 10 (by decide) lf_M_34 rfl d_M_send_95 ?_
            refine lv_iload_n hx hb d_M_send_98 rfl (lv_at hl 1 rfl) ?_
            refine g_iaload (k := (tn a1)) (v := (((sp_M_nextBit G0 a1)).2 30 (tn a1))) E hH ⟨by decide, fun _ => rfl⟩ (by rcases he with rfl | rfl <;> (unfold vp_in; first | decide | (split <;> decide))) rfl ((wr_ck _ _ _ _ (by decide)).trans ((wr_ck _ _ _ _ (by decide)).trans (wr_ck _ _ _ _ (by decide)))) d_M_send_99 ?_
            refine lv_goto (tgt := 104) hx hb d_M_send_100 (by decide) ?_
            exact hJ _ _ _ ⟨by simp only [if_pos h7], hH⟩
      · refine lv_if_le (tgt := 83) hx hb d_M_send_67 (by decide) (fun h8 => ?_) (fun h8 => ?_)
        · refine lv_iconst (v := 0) hx hb d_M_send_83 (by decide) ?_
          exact hJ _ _ _ ⟨by simp only [if_pos h8], isB_0, hH⟩
        · refine lv_aload_n hx hb d_M_send_70 rfl (lv_at hl 0 rfl) ?_
          refine g_get E hH (gc_M rfl) cl_M 11 (by decide) lf_M_37 rfl d_M_send_71 ?_
          refine lv_iload_n hx hb d_M_send_74 rfl (lv_at hl 1 rfl) ?_
          refine g_baload (k := (tn a1)) (v := (((sp_M_nextBit G0 a1)).2 31 (tn a1))) E hH ⟨by decide, fun _ => rfl⟩ (by rcases he with rfl | rfl <;> (unfold vp_in; first | decide | (split <;> decide))) rfl ((wr_ck _ _ _ _ (by decide)).trans (wr_ck _ _ _ _ (by decide))) d_M_send_75 ?_
          refine lv_if_eq (tgt := 83) hx hb d_M_send_76 (by decide) (fun h9 => ?_) (fun h9 => ?_)
          · refine lv_iconst (v := 0) hx hb d_M_send_83 (by decide) ?_
            exact hJ _ _ _ ⟨by simp only [if_neg h8, if_pos h9], isB_0, hH⟩
          · refine lv_iconst (v := 1) hx hb d_M_send_79 (by decide) ?_
            refine lv_goto (tgt := 84) hx hb d_M_send_80 (by decide) ?_
            exact hJ _ _ _ ⟨by simp only [if_neg h8, if_neg h9], isB_1, hH⟩
  · refine lv_iconst (v := 0) hx hb d_M_send_31 (by decide) ?_
    exact g_iret E hH (hsp.trans (by simp only [sp_M_send, if_neg h1])) d_M_send_32
