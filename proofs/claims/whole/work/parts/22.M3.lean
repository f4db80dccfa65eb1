theorem i2_in {a1 : Int32} {p : Prop} [Decidable p] (he : a1 = 0 ∨ a1 = 1) : vp_in (2 * a1 + (if p then 0 else 1)) 4 := by
  by_cases h : p
  · rw [if_pos h]
    rcases he with rfl | rfl <;> (unfold vp_in; decide)
  · rw [if_neg h]
    rcases he with rfl | rfl <;> (unfold vp_in; decide)

def sp_M_halves_213 (a1 : Int32) (a2 : Int32) (a3 : Int32) (G : Mem)  : Mem :=
  (wr (wr G 60 (tn a1) (zb 1)) 61 (tn a1) (G 58 (tn a1)))
def sp_M_halves_99 (a1 : Int32) (a2 : Int32) (a3 : Int32) (G : Mem)  : Mem :=
  (if ((G 53 (tn a1)) - (G 53 (tn a1)) / 8 * 8) = 7 then (if (G 60 (tn a1)) = 0 then (sp_M_halves_213 a1 a2 a3 (wr G 59 (tn a1) ((if (G 47 (tn a1)) = 0 then (G 59 (tn a1)) else (((G 59 (tn a1)) <<< ((1 : Int32) &&& 31)) ||| a3)) : Int32))) else (sp_M_halves_213 a1 a2 a3 (wr (sp_M_fault (wr G 59 (tn a1) ((if (G 47 (tn a1)) = 0 then (G 59 (tn a1)) else (((G 59 (tn a1)) <<< ((1 : Int32) &&& 31)) ||| a3)) : Int32)) a1 ((if ((if (G 47 (tn a1)) = 0 then (G 59 (tn a1)) else (((G 59 (tn a1)) <<< ((1 : Int32) &&& 31)) ||| a3)) : Int32) = (G 61 (tn a1)) then 0 else 1) : Int32) 3) 62 (tn ((2 * a1) + ((if ((sp_M_fault (wr G 59 (tn a1) ((if (G 47 (tn a1)) = 0 then (G 59 (tn a1)) else (((G 59 (tn a1)) <<< ((1 : Int32) &&& 31)) ||| a3)) : Int32)) a1 ((if ((if (G 47 (tn a1)) = 0 then (G 59 (tn a1)) else (((G 59 (tn a1)) <<< ((1 : Int32) &&& 31)) ||| a3)) : Int32) = (G 61 (tn a1)) then 0 else 1) : Int32) 3) 53 (tn a1)) = 15 then 0 else 1) : Int32))) (zb ((if ((if (G 47 (tn a1)) = 0 then (G 59 (tn a1)) else (((G 59 (tn a1)) <<< ((1 : Int32) &&& 31)) ||| a3)) : Int32) = (G 61 (tn a1)) then 0 else 1) : Int32))))) else (wr G 59 (tn a1) ((if (G 47 (tn a1)) = 0 then (G 59 (tn a1)) else (((G 59 (tn a1)) <<< ((1 : Int32) &&& 31)) ||| a3)) : Int32)))
def sp_M_halves_47 (a1 : Int32) (a2 : Int32) (a3 : Int32) : Nat → Mem → Int32 → Mem
 | 0, G, x4 => G
  | d + 1, G, x4 =>
  (if x4 < 0 then (sp_M_halves_99 a1 a2 a3 G) else (sp_M_halves_47 a1 a2 a3 d (wr G 58 (tn a1) ((sp_M_with G (G 58 (tn a1)) ((if x4 = 31 then (if (G 47 (tn a1)) = 0 then ((a2 >>> (x4 &&& 31)) &&& (1 : Int32)) else 0) else ((a2 >>> (x4 &&& 31)) &&& (1 : Int32))) : Int32)))) (x4 + (-1))))
def sp_M_halves_33 (a1 : Int32) (a2 : Int32) (a3 : Int32) (G : Mem)  : Mem :=
  (if (G 57 (tn a1)) = 0 then G else (sp_M_halves_47 a1 a2 a3 33 G 31))
def sp_M_halves  (G0 : Mem) (a1 : Int32) (a2 : Int32) (a3 : Int32) : Mem :=
  (if ((G0 53 (tn a1)) - (G0 53 (tn a1)) / 8 * 8) = 0 then (sp_M_halves_33 a1 a2 a3 (wr (wr (wr G0 57 (tn a1) (zb 1)) 58 (tn a1) 0) 59 (tn a1) 0)) else (sp_M_halves_33 a1 a2 a3 G0))
set_option maxHeartbeats 4000000 in
set_option maxRecDepth 100000 in
theorem c_M_halves (l : Launch) (P : gP) (G0 : Mem)  (a1 : Int32) (a2 : Int32) (a3 : Int32) (he : a1 = 0 ∨ a1 = 1) : gMv l y_M_halves b_M_halves 5 none ({ frames := 1, cells := 0, slots := 0, locals := 23 }) [.ref (gad P 21), .int a1, .int a2, .int a3] P G0 (sp_M_halves G0 a1 a2 a3) := by
  refine Met.ofW (cc := b_M_halves) (maxL := 5) (ret := none) (by decide) rfl ?_
  intro p e s m args below meth c0 s₁ B hml hv
  obtain ⟨rfl, hpre⟩ := hv
  obtain ⟨E, hH⟩ := gE_of B hml hpre
  replace E : gE p s m _ meth c0 P "FramedLineModel" b_M_halves 5 none := E
  have hx := E.1
  have hb := E.2.1
  have hl := lv_entry ([.ref (gad P 21), .int a1, .int a2, .int a3]) (n := 5) (Nat.le_of_ble_eq_true rfl)
  rw [lg_entry_eq]
  generalize (lg_sl ([.ref (gad P 21), .int a1, .int a2, .int a3]) ++ List.replicate (5 - (lg_sl ([.ref (gad P 21), .int a1, .int a2, .int a3])).length) Slot.unset).toArray = ls at hl ⊢
  replace hl : lv_has ls 5 [(0, .ref (gad P 21)), (1, .int a1), (2, .int a2), (3, .int a3)] := hl
  have hsp : sp_M_halves G0 a1 a2 a3 = sp_M_halves G0 a1 a2 a3 := rfl
  refine jn (α := Mem × Array Slot) (fun q H1 locs1 => sp_M_halves G0 a1 a2 a3 = sp_M_halves_213 a1 a2 a3 q.1 ∧ lv_has q.2 5 [(0, .ref (gad P 21)), (1, .int a1), (2, .int a2), (3, .int a3)] ∧ gH P s q.1 H1 locs1) (fun q => F0 m 213 q.2 []) (fun q H locs h9 => ?_) (fun hC213 => ?_)
  · clear hsp hl hH ls
    obtain ⟨G, ls⟩ := q
    obtain ⟨hsp, hl, hH⟩ := h9
    change lv_has ls 5 [(0, .ref (gad P 21)), (1, .int a1), (2, .int a2), (3, .int a3)] at hl
    dsimp only at hsp hH ⊢
    refine lv_aload_n hx hb d_M_halves_213 rfl (lv_at hl 0 rfl) ?_
    refine g_get E hH (gc_M rfl) cl_M 40 (by decide) lf_M_125 rfl d_M_halves_214 ?_
    refine lv_iload_n hx hb d_M_halves_217 rfl (lv_at hl 1 rfl) ?_
    refine lv_iconst (v := 1) hx hb d_M_halves_218 (by decide) ?_
    refine g_bastore (k := (tn a1)) E hH ⟨by decide, fun _ => rfl⟩ (by rcases he with rfl | rfl <;> (unfold vp_in; first | decide | (split <;> decide))) rfl d_M_halves_219 (fun H locs hH => ?_)
    refine lv_aload_n hx hb d_M_halves_220 rfl (lv_at hl 0 rfl) ?_
    refine g_get E hH (gc_M rfl) cl_M 41 (by decide) lf_M_128 rfl d_M_halves_221 ?_
    refine lv_iload_n hx hb d_M_halves_224 rfl (lv_at hl 1 rfl) ?_
    refine lv_aload_n hx hb d_M_halves_225 rfl (lv_at hl 0 rfl) ?_
    refine g_get E hH (gc_M rfl) cl_M 38 (by decide) lf_M_119 rfl d_M_halves_226 ?_
    refine lv_iload_n hx hb d_M_halves_229 rfl (lv_at hl 1 rfl) ?_
    refine g_iaload (k := (tn a1)) (v := (G 58 (tn a1))) E hH ⟨by decide, fun _ => rfl⟩ (by rcases he with rfl | rfl <;> (unfold vp_in; first | decide | (split <;> decide))) rfl (wr_ck _ _ _ _ (by decide)) d_M_halves_230 ?_
    refine g_iastore (k := (tn a1)) E hH ⟨by decide, fun _ => rfl⟩ (by rcases he with rfl | rfl <;> (unfold vp_in; first | decide | (split <;> decide))) rfl d_M_halves_231 (fun H locs hH => ?_)
    exact g_vret E hH (hsp.trans (by rw [sp_M_halves_213])) d_M_halves_232
  refine jn (α := Mem × Array Slot) (fun q H1 locs1 => sp_M_halves G0 a1 a2 a3 = sp_M_halves_99 a1 a2 a3 q.1 ∧ lv_has q.2 5 [(0, .ref (gad P 21)), (1, .int a1), (2, .int a2), (3, .int a3)] ∧ gH P s q.1 H1 locs1) (fun q => F0 m 99 q.2 []) (fun q H locs h9 => ?_) (fun hC99 => ?_)
  · clear hsp hl hH ls
    obtain ⟨G, ls⟩ := q
    obtain ⟨hsp, hl, hH⟩ := h9
    change lv_has ls 5 [(0, .ref (gad P 21)), (1, .int a1), (2, .int a2), (3, .int a3)] at hl
    dsimp only at hsp hH ⊢
    refine lv_aload_n hx hb d_M_halves_99 rfl (lv_at hl 0 rfl) ?_
    refine g_get E hH (gc_M rfl) cl_M 39 (by decide) lf_M_122 rfl d_M_halves_100 ?_
    refine lv_iload_n hx hb d_M_halves_103 rfl (lv_at hl 1 rfl) ?_
    refine lv_aload_n hx hb d_M_halves_104 rfl (lv_at hl 0 rfl) ?_
    refine g_get E hH (gc_M rfl) cl_M 27 (by decide) lf_M_86 rfl d_M_halves_105 ?_
    refine lv_iload_n hx hb d_M_halves_108 rfl (lv_at hl 1 rfl) ?_
    refine g_baload (k := (tn a1)) (v := (G 47 (tn a1))) E hH ⟨by decide, fun _ => rfl⟩ (by rcases he with rfl | rfl <;> (unfold vp_in; first | decide | (split <;> decide))) rfl rfl d_M_halves_109 ?_
    refine jn (α := Int32) (fun z H1 locs1 => z = ((if (G 47 (tn a1)) = 0 then (G 59 (tn a1)) else (((G 59 (tn a1)) <<< ((1 : Int32) &&& 31)) ||| a3)) : Int32) ∧ gH P s G H1 locs1) (fun z => F0 m 132 ls (.int z :: .int a1 :: .ref (gad P 59) :: [])) (fun z H locs h9 => ?_) (fun hJ => ?_)
    · obtain ⟨rfl, hH⟩ := h9
      refine g_iastore (k := (tn a1)) E hH ⟨by decide, fun _ => rfl⟩ (by rcases he with rfl | rfl <;> (unfold vp_in; first | decide | (split <;> decide))) rfl d_M_halves_132 (fun H locs hH => ?_)
      refine lv_aload_n hx hb d_M_halves_133 rfl (lv_at hl 0 rfl) ?_
      refine g_get E hH (gc_M rfl) cl_M 33 (by decide) lf_M_104 rfl d_M_halves_134 ?_
      refine lv_iload_n hx hb d_M_halves_137 rfl (lv_at hl 1 rfl) ?_
      refine g_iaload (k := (tn a1)) (v := (G 53 (tn a1))) E hH ⟨by decide, fun _ => rfl⟩ (by rcases he with rfl | rfl <;> (unfold vp_in; first | decide | (split <;> decide))) rfl (wr_ck _ _ _ _ (by decide)) d_M_halves_138 ?_
      refine lv_bipush (v := 8) hx hb d_M_halves_139 (by decide) ?_
      refine lv_irem hx hb d_M_halves_141 (by decide) ?_
      refine lv_bipush (v := 7) hx hb d_M_halves_142 (by decide) ?_
      refine lv_icmp_ne (tgt := 232) hx hb d_M_halves_144 (by decide) (fun h1 => ?_) (fun h1 => ?_)
      · exact g_vret E hH (hsp.trans (by simp only [sp_M_halves_99, if_neg h1])) d_M_halves_232
      · refine lv_aload_n hx hb d_M_halves_147 rfl (lv_at hl 0 rfl) ?_
        refine g_get E hH (gc_M rfl) cl_M 40 (by decide) lf_M_125 rfl d_M_halves_148 ?_
        refine lv_iload_n hx hb d_M_halves_151 rfl (lv_at hl 1 rfl) ?_
        refine g_baload (k := (tn a1)) (v := (G 60 (tn a1))) E hH ⟨by decide, fun _ => rfl⟩ (by rcases he with rfl | rfl <;> (unfold vp_in; first | decide | (split <;> decide))) rfl (wr_ck _ _ _ _ (by decide)) d_M_halves_152 ?_
        refine lv_if_eq (tgt := 213) hx hb d_M_halves_153 (by decide) (fun h2 => ?_) (fun h2 => ?_)
        · exact hC213 ((wr G 59 (tn a1) ((if (G 47 (tn a1)) = 0 then (G 59 (tn a1)) else (((G 59 (tn a1)) <<< ((1 : Int32) &&& 31)) ||| a3)) : Int32)), _) _ _ ⟨hsp.trans (by simp only [sp_M_halves_99, if_pos h1, if_pos h2]), lv_sub hl [0, 1, 2, 3] rfl, hH⟩
        · refine lv_aload_n hx hb d_M_halves_156 rfl (lv_at hl 0 rfl) ?_
          refine g_get E hH (gc_M rfl) cl_M 39 (by decide) lf_M_122 rfl d_M_halves_157 ?_
          refine lv_iload_n hx hb d_M_halves_160 rfl (lv_at hl 1 rfl) ?_
          refine g_iaload (k := (tn a1)) (v := ((if (G 47 (tn a1)) = 0 then (G 59 (tn a1)) else (((G 59 (tn a1)) <<< ((1 : Int32) &&& 31)) ||| a3)) : Int32)) E hH ⟨by decide, fun _ => rfl⟩ (by rcases he with rfl | rfl <;> (unfold vp_in; first | decide | (split <;> decide))) rfl (wr_same _ _ _ _) d_M_halves_161 ?_
          refine lv_aload_n hx hb d_M_halves_162 rfl (lv_at hl 0 rfl) ?_
          refine g_get E hH (gc_M rfl) cl_M 41 (by decide) lf_M_128 rfl d_M_halves_163 ?_
          refine lv_iload_n hx hb d_M_halves_166 rfl (lv_at hl 1 rfl) ?_
          refine g_iaload (k := (tn a1)) (v := (G 61 (tn a1))) E hH ⟨by decide, fun _ => rfl⟩ (by rcases he with rfl | rfl <;> (unfold vp_in; first | decide | (split <;> decide))) rfl (wr_ck _ _ _ _ (by decide)) d_M_halves_167 ?_
          refine jn (α := Int32) (fun z H1 locs1 => z = ((if ((if (G 47 (tn a1)) = 0 then (G 59 (tn a1)) else (((G 59 (tn a1)) <<< ((1 : Int32) &&& 31)) ||| a3)) : Int32) = (G 61 (tn a1)) then 0 else 1) : Int32) ∧ isB z ∧ gH P s (wr G 59 (tn a1) ((if (G 47 (tn a1)) = 0 then (G 59 (tn a1)) else (((G 59 (tn a1)) <<< ((1 : Int32) &&& 31)) ||| a3)) : Int32)) H1 locs1) (fun z => F0 m 176 ls (.int z :: [])) (fun z H locs h9 => ?_) (fun hJ => ?_)
          · obtain ⟨rfl, hz176, hH⟩ := h9
            refine lv_istore hx hb d_M_halves_176 hl (by decide) rfl (fun ls hl => ?_)
            refine lv_aload_n hx hb d_M_halves_178 rfl (lv_at hl 1 rfl) ?_
            refine lv_iload_n hx hb d_M_halves_179 rfl (lv_at hl 2 rfl) ?_
            refine lv_iload hx hb d_M_halves_180 (lv_at hl 0 rfl) ?_
            refine lv_iconst (v := 3) hx hb d_M_halves_182 (by decide) ?_
            refine g_callVv (As := [.int _, .int _, .int _]) E hH hl (c_M_fault l P _ _ _ _ he (Or.inr (Or.inr (Or.inr (Or.inl rfl))))) lm_M_165 (gc_M rfl) cl_M (Nat.le_of_ble_eq_true rfl) (Nat.le_of_ble_eq_true rfl) (Nat.le_of_ble_eq_true rfl) (Nat.le_of_ble_eq_true rfl) (Nat.le_of_ble_eq_true rfl) rfl rfl rfl rfl d_M_halves_183 (fun H locs hH => ?_)
            refine lv_aload_n hx hb d_M_halves_186 rfl (lv_at hl 1 rfl) ?_
            refine g_get E hH (gc_M rfl) cl_M 42 (by decide) lf_M_131 rfl d_M_halves_187 ?_
            refine lv_iconst (v := 2) hx hb d_M_halves_190 (by decide) ?_
            refine lv_iload_n hx hb d_M_halves_191 rfl (lv_at hl 2 rfl) ?_
            refine lv_imul hx hb d_M_halves_192 ?_
            refine lv_aload_n hx hb d_M_halves_193 rfl (lv_at hl 1 rfl) ?_
            refine g_get E hH (gc_M rfl) cl_M 33 (by decide) lf_M_104 rfl d_M_halves_194 ?_
            refine lv_iload_n hx hb d_M_halves_197 rfl (lv_at hl 2 rfl) ?_
            refine g_iaload (k := (tn a1)) (v := ((sp_M_fault (wr G 59 (tn a1) ((if (G 47 (tn a1)) = 0 then (G 59 (tn a1)) else (((G 59 (tn a1)) <<< ((1 : Int32) &&& 31)) ||| a3)) : Int32)) a1 ((if ((if (G 47 (tn a1)) = 0 then (G 59 (tn a1)) else (((G 59 (tn a1)) <<< ((1 : Int32) &&& 31)) ||| a3)) : Int32) = (G 61 (tn a1)) then 0 else 1) : Int32) 3) 53 (tn a1))) E hH ⟨by decide, fun _ => rfl⟩ (by rcases he with rfl | rfl <;> (unfold vp_in; first | decide | (split <;> decide))) rfl rfl d_M_halves_198 ?_
            refine lv_bipush (v := 15) hx hb d_M_halves_199 (by decide) ?_
            refine jn (α := Int32) (fun z H1 locs1 => z = ((if ((sp_M_fault (wr G 59 (tn a1) ((if (G 47 (tn a1)) = 0 then (G 59 (tn a1)) else (((G 59 (tn a1)) <<< ((1 : Int32) &&& 31)) ||| a3)) : Int32)) a1 ((if ((if (G 47 (tn a1)) = 0 then (G 59 (tn a1)) else (((G 59 (tn a1)) <<< ((1 : Int32) &&& 31)) ||| a3)) : Int32) = (G 61 (tn a1)) then 0 else 1) : Int32) 3) 53 (tn a1)) = 15 then 0 else 1) : Int32) ∧ isB z ∧ gH P s (sp_M_fault (wr G 59 (tn a1) ((if (G 47 (tn a1)) = 0 then (G 59 (tn a1)) else (((G 59 (tn a1)) <<< ((1 : Int32) &&& 31)) ||| a3)) : Int32)) a1 ((if ((if (G 47 (tn a1)) = 0 then (G 59 (tn a1)) else (((G 59 (tn a1)) <<< ((1 : Int32) &&& 31)) ||| a3)) : Int32) = (G 61 (tn a1)) then 0 else 1) : Int32) 3) H1 locs1) (fun z => F0 m 209 ls (.int z :: .int (2 * a1) :: .ref (gad P 62) :: [])) (fun z H locs h9 => ?_) (fun hJ => ?_)
            · obtain ⟨rfl, hz209, hH⟩ := h9
              refine lv_iadd hx hb d_M_halves_209 ?_
              refine lv_iload hx hb d_M_halves_210 (lv_at hl 0 rfl) ?_
              refine g_bastore (k := (tn ((2 * a1) + ((if ((sp_M_fault (wr G 59 (tn a1) ((if (G 47 (tn a1)) = 0 then (G 59 (tn a1)) else (((G 59 (tn a1)) <<< ((1 : Int32) &&& 31)) ||| a3)) : Int32)) a1 ((if ((if (G 47 (tn a1)) = 0 then (G 59 (tn a1)) else (((G 59 (tn a1)) <<< ((1 : Int32) &&& 31)) ||| a3)) : Int32) = (G 61 (tn a1)) then 0 else 1) : Int32) 3) 53 (tn a1)) = 15 then 0 else 1) : Int32)))) E hH ⟨by decide, fun _ => rfl⟩ (i2_in he) rfl d_M_halves_212 (fun H locs hH => ?_)
              exact hC213 ((wr (sp_M_fault (wr G 59 (tn a1) ((if (G 47 (tn a1)) = 0 then (G 59 (tn a1)) else (((G 59 (tn a1)) <<< ((1 : Int32) &&& 31)) ||| a3)) : Int32)) a1 ((if ((if (G 47 (tn a1)) = 0 then (G 59 (tn a1)) else (((G 59 (tn a1)) <<< ((1 : Int32) &&& 31)) ||| a3)) : Int32) = (G 61 (tn a1)) then 0 else 1) : Int32) 3) 62 (tn ((2 * a1) + ((if ((sp_M_fault (wr G 59 (tn a1) ((if (G 47 (tn a1)) = 0 then (G 59 (tn a1)) else (((G 59 (tn a1)) <<< ((1 : Int32) &&& 31)) ||| a3)) : Int32)) a1 ((if ((if (G 47 (tn a1)) = 0 then (G 59 (tn a1)) else (((G 59 (tn a1)) <<< ((1 : Int32) &&& 31)) ||| a3)) : Int32) = (G 61 (tn a1)) then 0 else 1) : Int32) 3) 53 (tn a1)) = 15 then 0 else 1) : Int32))) (zb ((if ((if (G 47 (tn a1)) = 0 then (G 59 (tn a1)) else (((G 59 (tn a1)) <<< ((1 : Int32) &&& 31)) ||| a3)) : Int32) = (G 61 (tn a1)) then 0 else 1) : Int32))), _) _ _ ⟨hsp.trans (by simp only [sp_M_halves_99, if_pos h1, if_neg h2]), lv_sub hl [1, 2, 3, 4] rfl, hH⟩
            · refine lv_icmp_ne (tgt := 208) hx hb d_M_halves_201 (by decide) (fun h3 => ?_) (fun h3 => ?_)
              · refine lv_iconst (v := 1) hx hb d_M_halves_208 (by decide) ?_
                exact hJ _ _ _ ⟨by simp only [if_neg h3], isB_1, hH⟩
              · refine lv_iconst (v := 0) hx hb d_M_halves_204 (by decide) ?_
                refine lv_goto (tgt := 209) hx hb d_M_halves_205 (by decide) ?_
                exact hJ _ _ _ ⟨by simp only [if_pos h3], isB_0, hH⟩
          · refine lv_icmp_eq (tgt := 175) hx hb d_M_halves_168 (by decide) (fun h4 => ?_) (fun h4 => ?_)
            · refine lv_iconst (v := 0) hx hb d_M_halves_175 (by decide) ?_
              exact hJ _ _ _ ⟨by simp only [if_pos h4], isB_0, hH⟩
            · refine lv_iconst (v := 1) hx hb d_M_halves_171 (by decide) ?_
              refine lv_goto (tgt := 176) hx hb d_M_halves_172 (by decide) ?_
              exact hJ _ _ _ ⟨by simp only [if_neg h4], isB_1, hH⟩
    · refine lv_if_eq (tgt := 126) hx hb d_M_halves_110 (by decide) (fun h5 => ?_) (fun h5 => ?_)
      · refine lv_aload_n hx hb d_M_halves_126 rfl (lv_at hl 0 rfl) ?_
        refine g_get E hH (gc_M rfl) cl_M 39 (by decide) lf_M_122 rfl d_M_halves_127 ?_
        refine lv_iload_n hx hb d_M_halves_130 rfl (lv_at hl 1 rfl) ?_
        refine g_iaload (k := (tn a1)) (v := (G 59 (tn a1))) E hH ⟨by decide, fun _ => rfl⟩ (by rcases he with rfl | rfl <;> (unfold vp_in; first | decide | (split <;> decide))) rfl rfl d_M_halves_131 ?_
        exact hJ _ _ _ ⟨by simp only [if_pos h5], hH⟩
      · refine lv_aload_n hx hb d_M_halves_113 rfl (lv_at hl 0 rfl) ?_
        refine g_get E hH (gc_M rfl) cl_M 39 (by decide) lf_M_122 rfl d_M_halves_114 ?_
        refine lv_iload_n hx hb d_M_halves_117 rfl (lv_at hl 1 rfl) ?_
        refine g_iaload (k := (tn a1)) (v := (G 59 (tn a1))) E hH ⟨by decide, fun _ => rfl⟩ (by rcases he with rfl | rfl <;> (unfold vp_in; first | decide | (split <;> decide))) rfl rfl d_M_halves_118 ?_
        refine lv_iconst (v := 1) hx hb d_M_halves_119 (by decide) ?_
        refine lv_ishl hx hb d_M_halves_120 ?_
        refine lv_iload_n hx hb d_M_halves_121 rfl (lv_at hl 3 rfl) ?_
        refine lv_ior hx hb d_M_halves_122 ?_
        refine lv_goto (tgt := 132) hx hb d_M_halves_123 (by decide) ?_
        exact hJ _ _ _ ⟨by simp only [if_neg h5], hH⟩
  refine jl (α := Nat × Mem × Array Slot × Int32) (fun q H1 locs1 => sp_M_halves G0 a1 a2 a3 = sp_M_halves_47 a1 a2 a3 q.1 q.2.1 q.2.2.2 ∧ (q.2.2.2 = nI q.1 - 2 ∧ q.1 ≤ 33 ∧ 1 ≤ q.1) ∧ lv_has q.2.2.1 5 [(0, .ref (gad P 21)), (1, .int a1), (2, .int a2), (3, .int a3), (4, .int q.2.2.2)] ∧ gH P s q.2.1 H1 locs1) (fun q => F0 m 47 q.2.2.1 []) (fun q => q.1) (fun q H locs h9 ih47 => ?_) (fun hC47 => ?_)
  · clear hsp hl hH ls
    obtain ⟨n, G, ls, x4⟩ := q
    obtain ⟨hsp, hinv, hl, hH⟩ := h9
    dsimp only at hinv
    obtain ⟨d, rfl⟩ : ∃ d, n = d + 1 := ⟨n - 1, by omega⟩
    change lv_has ls 5 [(0, .ref (gad P 21)), (1, .int a1), (2, .int a2), (3, .int a3), (4, .int x4)] at hl
    dsimp only at hsp hH ⊢
    refine lv_iload hx hb d_M_halves_47 (lv_at hl 4 rfl) ?_
    refine lv_if_lt (tgt := 99) hx hb d_M_halves_49 (by decide) (fun h6 => ?_) (fun h6 => ?_)
    · exact hC99 (G, _) _ _ ⟨hsp.trans (by simp only [sp_M_halves_47, if_pos h6]), lv_sub hl [0, 1, 2, 3] rfl, hH⟩
    · refine lv_aload_n hx hb d_M_halves_52 rfl (lv_at hl 0 rfl) ?_
      refine g_get E hH (gc_M rfl) cl_M 38 (by decide) lf_M_119 rfl d_M_halves_53 ?_
      refine lv_iload_n hx hb d_M_halves_56 rfl (lv_at hl 1 rfl) ?_
      refine lv_aload_n hx hb d_M_halves_57 rfl (lv_at hl 0 rfl) ?_
      refine g_get E hH (gc_M rfl) cl_M 38 (by decide) lf_M_119 rfl d_M_halves_58 ?_
      refine lv_iload_n hx hb d_M_halves_61 rfl (lv_at hl 1 rfl) ?_
      refine g_iaload (k := (tn a1)) (v := (G 58 (tn a1))) E hH ⟨by decide, fun _ => rfl⟩ (by rcases he with rfl | rfl <;> (unfold vp_in; first | decide | (split <;> decide))) rfl rfl d_M_halves_62 ?_
      refine lv_iload hx hb d_M_halves_63 (lv_at hl 4 rfl) ?_
      refine lv_bipush (v := 31) hx hb d_M_halves_65 (by decide) ?_
      refine jn (α := Int32) (fun z H1 locs1 => z = ((if x4 = 31 then (if (G 47 (tn a1)) = 0 then ((a2 >>> (x4 &&& 31)) &&& (1 : Int32)) else 0) else ((a2 >>> (x4 &&& 31)) &&& (1 : Int32))) : Int32) ∧ gH P s G H1 locs1) (fun z => F0 m 89 ls (.int z :: .int (G 58 (tn a1)) :: .int a1 :: .ref (gad P 58) :: [])) (fun z H locs h9 => ?_) (fun hJ => ?_)
      · obtain ⟨rfl, hH⟩ := h9
        refine g_callSri (As := [.int _, .int _]) E hH hl (c_M_with l P _ _ _) lm_M_149 (Nat.le_of_ble_eq_true rfl) (Nat.le_of_ble_eq_true rfl) (Nat.le_of_ble_eq_true rfl) (Nat.le_of_ble_eq_true rfl) (Nat.le_of_ble_eq_true rfl) rfl rfl rfl rfl d_M_halves_89 (fun H locs hH => ?_)
        refine g_iastore (k := (tn a1)) E hH ⟨by decide, fun _ => rfl⟩ (by rcases he with rfl | rfl <;> (unfold vp_in; first | decide | (split <;> decide))) rfl d_M_halves_92 (fun H locs hH => ?_)
        refine lv_iinc (k := 4) (v := (x4 + (-1))) hx hb d_M_halves_93 hl rfl rfl (by decide) rfl (fun ls hl => ?_)
        refine lv_goto (tgt := 47) hx hb d_M_halves_96 (by decide) ?_
        exact ih47 (d, (wr G 58 (tn a1) ((sp_M_with G (G 58 (tn a1)) ((if x4 = 31 then (if (G 47 (tn a1)) = 0 then ((a2 >>> (x4 &&& 31)) &&& (1 : Int32)) else 0) else ((a2 >>> (x4 &&& 31)) &&& (1 : Int32))) : Int32)))), _, (x4 + (-1))) _ _ (Nat.lt_succ_self _) ⟨hsp.trans (by simp only [sp_M_halves_47, if_neg h6]), (co_back hinv h6), lv_sub hl [1, 2, 3, 4, 0] rfl, hH⟩
      · refine lv_icmp_ne (tgt := 83) hx hb d_M_halves_67 (by decide) (fun h7 => ?_) (fun h7 => ?_)
        · refine lv_iload_n hx hb d_M_halves_83 rfl (lv_at hl 2 rfl) ?_
          refine lv_iload hx hb d_M_halves_84 (lv_at hl 4 rfl) ?_
          refine lv_ishr hx hb d_M_halves_86 ?_
          refine lv_iconst (v := 1) hx hb d_M_halves_87 (by decide) ?_
          refine lv_iand hx hb d_M_halves_88 ?_
          exact hJ _ _ _ ⟨by simp only [if_neg h7], hH⟩
        · refine lv_aload_n hx hb d_M_halves_70 rfl (lv_at hl 0 rfl) ?_
          refine g_get E hH (gc_M rfl) cl_M 27 (by decide) lf_M_86 rfl d_M_halves_71 ?_
          refine lv_iload_n hx hb d_M_halves_74 rfl (lv_at hl 1 rfl) ?_
          refine g_baload (k := (tn a1)) (v := (G 47 (tn a1))) E hH ⟨by decide, fun _ => rfl⟩ (by rcases he with rfl | rfl <;> (unfold vp_in; first | decide | (split <;> decide))) rfl rfl d_M_halves_75 ?_
          refine lv_if_eq (tgt := 83) hx hb d_M_halves_76 (by decide) (fun h8 => ?_) (fun h8 => ?_)
          · refine lv_iload_n hx hb d_M_halves_83 rfl (lv_at hl 2 rfl) ?_
            refine lv_iload hx hb d_M_halves_84 (lv_at hl 4 rfl) ?_
            refine lv_ishr hx hb d_M_halves_86 ?_
            refine lv_iconst (v := 1) hx hb d_M_halves_87 (by decide) ?_
            refine lv_iand hx hb d_M_halves_88 ?_
            exact hJ _ _ _ ⟨by simp only [if_pos h7, if_pos h8], hH⟩
          · refine lv_iconst (v := 0) hx hb d_M_halves_79 (by decide) ?_
            refine lv_goto (tgt := 89) hx hb d_M_halves_80 (by decide) ?_
            exact hJ _ _ _ ⟨by simp only [if_pos h7, if_neg h8], hH⟩
  refine jn (α := Mem × Array Slot) (fun q H1 locs1 => sp_M_halves G0 a1 a2 a3 = sp_M_halves_33 a1 a2 a3 q.1 ∧ lv_has q.2 5 [(0, .ref (gad P 21)), (1, .int a1), (2, .int a2), (3, .int a3)] ∧ gH P s q.1 H1 locs1) (fun q => F0 m 33 q.2 []) (fun q H locs h9 => ?_) (fun hC33 => ?_)
  · clear hsp hl hH ls
    obtain ⟨G, ls⟩ := q
    obtain ⟨hsp, hl, hH⟩ := h9
    change lv_has ls 5 [(0, .ref (gad P 21)), (1, .int a1), (2, .int a2), (3, .int a3)] at hl
    dsimp only at hsp hH ⊢
    refine lv_aload_n hx hb d_M_halves_33 rfl (lv_at hl 0 rfl) ?_
    refine g_get E hH (gc_M rfl) cl_M 37 (by decide) lf_M_116 rfl d_M_halves_34 ?_
    refine lv_iload_n hx hb d_M_halves_37 rfl (lv_at hl 1 rfl) ?_
    refine g_baload (k := (tn a1)) (v := (G 57 (tn a1))) E hH ⟨by decide, fun _ => rfl⟩ (by rcases he with rfl | rfl <;> (unfold vp_in; first | decide | (split <;> decide))) rfl rfl d_M_halves_38 ?_
    refine lv_if_ne (tgt := 43) hx hb d_M_halves_39 (by decide) (fun h9 => ?_) (fun h9 => ?_)
    · refine lv_bipush (v := 31) hx hb d_M_halves_43 (by decide) ?_
      refine lv_istore hx hb d_M_halves_45 hl (by decide) rfl (fun ls hl => ?_)
      exact hC47 (33, G, _, 31) _ _ ⟨hsp.trans (by simp only [sp_M_halves_33, if_neg h9]), (by dsimp only; decide), lv_sub hl [1, 2, 3, 4, 0] rfl, hH⟩
    · exact g_vret E hH (hsp.trans (by simp only [sp_M_halves_33, if_pos h9])) d_M_halves_42
  refine lv_aload_n hx hb d_M_halves_0 rfl (lv_at hl 0 rfl) ?_
  refine g_get E hH (gc_M rfl) cl_M 33 (by decide) lf_M_104 rfl d_M_halves_1 ?_
  refine lv_iload_n hx hb d_M_halves_4 rfl (lv_at hl 1 rfl) ?_
  refine g_iaload (k := (tn a1)) (v := (G0 53 (tn a1))) E hH ⟨by decide, fun _ => rfl⟩ (by rcases he with rfl | rfl <;> (unfold vp_in; first | decide | (split <;> decide))) rfl rfl d_M_halves_5 ?_
  refine lv_bipush (v := 8) hx hb d_M_halves_6 (by decide) ?_
  refine lv_irem hx hb d_M_halves_8 (by decide) ?_
  refine lv_if_ne (tgt := 33) hx hb d_M_halves_9 (by decide) (fun h10 => ?_) (fun h10 => ?_)
  · exact hC33 (G0, _) _ _ ⟨hsp.trans (by simp only [sp_M_halves, if_neg h10]), lv_sub hl [0, 1, 2, 3] rfl, hH⟩
  · refine lv_aload_n hx hb d_M_halves_12 rfl (lv_at hl 0 rfl) ?_
    refine g_get E hH (gc_M rfl) cl_M 37 (by decide) lf_M_116 rfl d_M_halves_13 ?_
    refine lv_iload_n hx hb d_M_halves_16 rfl (lv_at hl 1 rfl) ?_
    refine lv_iconst (v := 1) hx hb d_M_halves_17 (by decide) ?_
    refine g_bastore (k := (tn a1)) E hH ⟨by decide, fun _ => rfl⟩ (by rcases he with rfl | rfl <;> (unfold vp_in; first | decide | (split <;> decide))) rfl d_M_halves_18 (fun H locs hH => ?_)
    refine lv_aload_n hx hb d_M_halves_19 rfl (lv_at hl 0 rfl) ?_
    refine g_get E hH (gc_M rfl) cl_M 38 (by decide) lf_M_119 rfl d_M_halves_20 ?_
    refine lv_iload_n hx hb d_M_halves_23 rfl (lv_at hl 1 rfl) ?_
    refine lv_iconst (v := 0) hx hb d_M_halves_24 (by decide) ?_
    refine g_iastore (k := (tn a1)) E hH ⟨by decide, fun _ => rfl⟩ (by rcases he with rfl | rfl <;> (unfold vp_in; first | decide | (split <;> decide))) rfl d_M_halves_25 (fun H locs hH => ?_)
    refine lv_aload_n hx hb d_M_halves_26 rfl (lv_at hl 0 rfl) ?_
    refine g_get E hH (gc_M rfl) cl_M 39 (by decide) lf_M_122 rfl d_M_halves_27 ?_
    refine lv_iload_n hx hb d_M_halves_30 rfl (lv_at hl 1 rfl) ?_
    refine lv_iconst (v := 0) hx hb d_M_halves_31 (by decide) ?_
    refine g_iastore (k := (tn a1)) E hH ⟨by decide, fun _ => rfl⟩ (by rcases he with rfl | rfl <;> (unfold vp_in; first | decide | (split <;> decide))) rfl d_M_halves_32 (fun H locs hH => ?_)
    exact hC33 ((wr (wr (wr G0 57 (tn a1) (zb 1)) 58 (tn a1) 0) 59 (tn a1) 0), _) _ _ ⟨hsp.trans (by simp only [sp_M_halves, if_pos h10]), lv_sub hl [0, 1, 2, 3] rfl, hH⟩

def sp_M_complete_252 (a1 : Int32) (G : Mem) (x2 : Int32) (x3 : Int32) : Mem :=
  (sp_M_halves (sp_M_fault G a1 ((if (G 53 (tn a1)) = 13 then (if x3 = 0 then 1 else 0) else (if (G 53 (tn a1)) = 15 then (if x3 = 0 then 1 else 0) else 0)) : Int32) 4) a1 x2 x3)
def sp_M_complete_152 (a1 : Int32) (G : Mem) (x2 : Int32) (x3 : Int32) (x4 : Int32) : Mem :=
  (if (G 52 (tn a1)) = 0 then (wr (wr (wr G 52 (tn a1) (zb x4)) 53 (tn a1) 11) 56 (tn a1) 0) else (if (((G 53 (tn a1)) + 1) - ((G 53 (tn a1)) + 1) / 16 * 16) = 11 then (if ((if x4 = 0 then ((G 56 (tn a1)) + 1) else 0) : Int32) = 2 then (sp_M_forget (wr (wr G 53 (tn a1) (((G 53 (tn a1)) + 1) - ((G 53 (tn a1)) + 1) / 16 * 16)) 56 (tn a1) ((if x4 = 0 then ((G 56 (tn a1)) + 1) else 0) : Int32)) a1) else (sp_M_complete_252 a1 (wr (wr G 53 (tn a1) (((G 53 (tn a1)) + 1) - ((G 53 (tn a1)) + 1) / 16 * 16)) 56 (tn a1) ((if x4 = 0 then ((G 56 (tn a1)) + 1) else 0) : Int32)) x2 x3)) else (sp_M_complete_252 a1 (wr G 53 (tn a1) (((G 53 (tn a1)) + 1) - ((G 53 (tn a1)) + 1) / 16 * 16)) x2 x3)))
def sp_M_complete_114 (a1 : Int32) (G : Mem) (x2 : Int32) (x3 : Int32) : Mem :=
  (sp_M_complete_152 a1 G x2 x3 ((if (G 47 (tn a1)) = 0 then (if (G 55 (tn a1)) = 6 then (if (G 54 (tn a1)) = 11 then 1 else 0) else 0) else 0) : Int32))
def sp_M_complete_35 (a1 : Int32) (G : Mem) (x2 : Int32) (x3 : Int32) : Mem :=
  (if (G 47 (tn a1)) = 0 then (sp_M_complete_114 a1 (wr (wr (wr G 51 (tn a1) (zb ((if ((x2 >>> ((29 : Int32) &&& 31)) &&& (1 : Int32)) = 1 then 1 else 0) : Int32))) 54 (tn a1) ((((G 54 (tn a1)) <<< ((1 : Int32) &&& 31)) ||| x3) &&& (63 : Int32))) 55 (tn a1) ((if 6 ≤ (G 55 (tn a1)) then 6 else ((G 55 (tn a1)) + 1)) : Int32)) x2 x3) else (sp_M_complete_114 a1 G x2 x3))
def sp_M_complete  (G0 : Mem) (a1 : Int32) : Mem :=
  (sp_M_complete_35 a1 (sp_M_fault (wr (wr G0 50 (tn a1) (G0 45 (tn a1))) 49 (tn a1) (zb 1)) a1 1 0) (G0 45 (tn a1)) (((G0 45 (tn a1)) >>> ((31 : Int32) &&& 31)) &&& (1 : Int32)))
set_option maxHeartbeats 4000000 in
set_option maxRecDepth 100000 in
theorem c_M_complete (l : Launch) (P : gP) (G0 : Mem)  (a1 : Int32) (he : a1 = 0 ∨ a1 = 1) : gMv l y_M_complete b_M_complete 5 none ({ frames := 2, cells := 0, slots := 0, locals := 47 }) [.ref (gad P 21), .int a1] P G0 (sp_M_complete G0 a1) := by
  refine Met.ofW (cc := b_M_complete) (maxL := 5) (ret := none) (by decide) rfl ?_
  intro p e s m args below meth c0 s₁ B hml hv
  obtain ⟨rfl, hpre⟩ := hv
  obtain ⟨E, hH⟩ := gE_of B hml hpre
  replace E : gE p s m _ meth c0 P "FramedLineModel" b_M_complete 5 none := E
  have hx := E.1
  have hb := E.2.1
  have hl := lv_entry ([.ref (gad P 21), .int a1]) (n := 5) (Nat.le_of_ble_eq_true rfl)
  rw [lg_entry_eq]
  generalize (lg_sl ([.ref (gad P 21), .int a1]) ++ List.replicate (5 - (lg_sl ([.ref (gad P 21), .int a1])).length) Slot.unset).toArray = ls at hl ⊢
  replace hl : lv_has ls 5 [(0, .ref (gad P 21)), (1, .int a1)] := hl
  have hsp : sp_M_complete G0 a1 = sp_M_complete G0 a1 := rfl
  refine jn (α := Mem × Array Slot × Int32 × Int32) (fun q H1 locs1 => sp_M_complete G0 a1 = sp_M_complete_252 a1 q.1 q.2.2.1 q.2.2.2 ∧ lv_has q.2.1 5 [(0, .ref (gad P 21)), (1, .int a1), (2, .int q.2.2.1), (3, .int q.2.2.2)] ∧ gH P s q.1 H1 locs1) (fun q => F0 m 252 q.2.1 []) (fun q H locs h9 => ?_) (fun hC252 => ?_)
  · clear hsp hl hH ls
    obtain ⟨G, ls, x2, x3⟩ := q
    obtain ⟨hsp, hl, hH⟩ := h9
    change lv_has ls 5 [(0, .ref (gad P 21)), (1, .int a1), (2, .int x2), (3, .int x3)] at hl
    dsimp only at hsp hH ⊢
    refine lv_aload_n hx hb d_M_complete_252 rfl (lv_at hl 0 rfl) ?_
    refine lv_iload_n hx hb d_M_complete_253 rfl (lv_at hl 1 rfl) ?_
    refine lv_aload_n hx hb d_M_complete_254 rfl (lv_at hl 0 rfl) ?_
    refine g_get E hH (gc_M rfl) cl_M 33 (by decide) lf_M_104 rfl d_M_complete_255 ?_
    refine lv_iload_n hx hb d_M_complete_258 rfl (lv_at hl 1 rfl) ?_
    refine g_iaload (k := (tn a1)) (v := (G 53 (tn a1))) E hH ⟨by decide, fun _ => rfl⟩ (by rcases he with rfl | rfl <;> (unfold vp_in; first | decide | (split <;> decide))) rfl rfl d_M_complete_259 ?_
    refine lv_bipush (v := 13) hx hb d_M_complete_260 (by decide) ?_
    refine jn (α := Int32) (fun z H1 locs1 => z = ((if (G 53 (tn a1)) = 13 then (if x3 = 0 then 1 else 0) else (if (G 53 (tn a1)) = 15 then (if x3 = 0 then 1 else 0) else 0)) : Int32) ∧ isB z ∧ gH P s G H1 locs1) (fun z => F0 m 285 ls (.int z :: .int a1 :: .ref (gad P 21) :: [])) (fun z H locs h9 => ?_) (fun hJ => ?_)
    · obtain ⟨rfl, hz285, hH⟩ := h9
      refine lv_iconst (v := 4) hx hb d_M_complete_285 (by decide) ?_
      refine g_callVv (As := [.int _, .int _, .int _]) E hH hl (c_M_fault l P _ _ _ _ he (Or.inr (Or.inr (Or.inr (Or.inr rfl))))) lm_M_165 (gc_M rfl) cl_M (Nat.le_of_ble_eq_true rfl) (Nat.le_of_ble_eq_true rfl) (Nat.le_of_ble_eq_true rfl) (Nat.le_of_ble_eq_true rfl) (Nat.le_of_ble_eq_true rfl) rfl rfl rfl rfl d_M_complete_286 (fun H locs hH => ?_)
      refine lv_aload_n hx hb d_M_complete_289 rfl (lv_at hl 0 rfl) ?_
      refine lv_iload_n hx hb d_M_complete_290 rfl (lv_at hl 1 rfl) ?_
      refine lv_iload_n hx hb d_M_complete_291 rfl (lv_at hl 2 rfl) ?_
      refine lv_iload_n hx hb d_M_complete_292 rfl (lv_at hl 3 rfl) ?_
      refine g_callVv (As := [.int _, .int _, .int _]) E hH hl (c_M_halves l P _ _ _ _ he) lm_M_189 (gc_M rfl) cl_M (Nat.le_of_ble_eq_true rfl) (Nat.le_of_ble_eq_true rfl) (Nat.le_of_ble_eq_true rfl) (Nat.le_of_ble_eq_true rfl) (Nat.le_of_ble_eq_true rfl) rfl rfl rfl rfl d_M_complete_293 (fun H locs hH => ?_)
      exact g_vret E hH (hsp.trans (by rw [sp_M_complete_252])) d_M_complete_296
    · refine lv_icmp_eq (tgt := 276) hx hb d_M_complete_262 (by decide) (fun h1 => ?_) (fun h1 => ?_)
      · refine lv_iload_n hx hb d_M_complete_276 rfl (lv_at hl 3 rfl) ?_
        refine lv_if_ne (tgt := 284) hx hb d_M_complete_277 (by decide) (fun h2 => ?_) (fun h2 => ?_)
        · refine lv_iconst (v := 0) hx hb d_M_complete_284 (by decide) ?_
          exact hJ _ _ _ ⟨by simp only [if_pos h1, if_neg h2], isB_0, hH⟩
        · refine lv_iconst (v := 1) hx hb d_M_complete_280 (by decide) ?_
          refine lv_goto (tgt := 285) hx hb d_M_complete_281 (by decide) ?_
          exact hJ _ _ _ ⟨by simp only [if_pos h1, if_pos h2], isB_1, hH⟩
      · refine lv_aload_n hx hb d_M_complete_265 rfl (lv_at hl 0 rfl) ?_
        refine g_get E hH (gc_M rfl) cl_M 33 (by decide) lf_M_104 rfl d_M_complete_266 ?_
        refine lv_iload_n hx hb d_M_complete_269 rfl (lv_at hl 1 rfl) ?_
        refine g_iaload (k := (tn a1)) (v := (G 53 (tn a1))) E hH ⟨by decide, fun _ => rfl⟩ (by rcases he with rfl | rfl <;> (unfold vp_in; first | decide | (split <;> decide))) rfl rfl d_M_complete_270 ?_
        refine lv_bipush (v := 15) hx hb d_M_complete_271 (by decide) ?_
        refine lv_icmp_ne (tgt := 284) hx hb d_M_complete_273 (by decide) (fun h3 => ?_) (fun h3 => ?_)
        · refine lv_iconst (v := 0) hx hb d_M_complete_284 (by decide) ?_
          exact hJ _ _ _ ⟨by simp only [if_neg h1, if_neg h3], isB_0, hH⟩
        · refine lv_iload_n hx hb d_M_complete_276 rfl (lv_at hl 3 rfl) ?_
          refine lv_if_ne (tgt := 284) hx hb d_M_complete_277 (by decide) (fun h4 => ?_) (fun h4 => ?_)
          · refine lv_iconst (v := 0) hx hb d_M_complete_284 (by decide) ?_
            exact hJ _ _ _ ⟨by simp only [if_neg h1, if_pos h3, if_neg h4], isB_0, hH⟩
          · refine lv_iconst (v := 1) hx hb d_M_complete_280 (by decide) ?_
            refine lv_goto (tgt := 285) hx hb d_M_complete_281 (by decide) ?_
            exact hJ _ _ _ ⟨by simp only [if_neg h1, if_pos h3, if_pos h4], isB_1, hH⟩
  refine jn (α := Mem × Array Slot × Int32 × Int32 × Int32) (fun q H1 locs1 => sp_M_complete G0 a1 = sp_M_complete_152 a1 q.1 q.2.2.1 q.2.2.2.1 q.2.2.2.2 ∧ lv_has q.2.1 5 [(0, .ref (gad P 21)), (1, .int a1), (2, .int q.2.2.1), (3, .int q.2.2.2.1), (4, .int q.2.2.2.2)] ∧ gH P s q.1 H1 locs1) (fun q => F0 m 152 q.2.1 []) (fun q H locs h9 => ?_) (fun hC152 => ?_)
  · clear hsp hl hH ls
    obtain ⟨G, ls, x2, x3, x4⟩ := q
    obtain ⟨hsp, hl, hH⟩ := h9
    change lv_has ls 5 [(0, .ref (gad P 21)), (1, .int a1), (2, .int x2), (3, .int x3), (4, .int x4)] at hl
    dsimp only at hsp hH ⊢
    refine lv_aload_n hx hb d_M_complete_152 rfl (lv_at hl 0 rfl) ?_
    refine g_get E hH (gc_M rfl) cl_M 32 (by decide) lf_M_101 rfl d_M_complete_153 ?_
    refine lv_iload_n hx hb d_M_complete_156 rfl (lv_at hl 1 rfl) ?_
    refine g_baload (k := (tn a1)) (v := (G 52 (tn a1))) E hH ⟨by decide, fun _ => rfl⟩ (by rcases he with rfl | rfl <;> (unfold vp_in; first | decide | (split <;> decide))) rfl rfl d_M_complete_157 ?_
    refine lv_if_ne (tgt := 185) hx hb d_M_complete_158 (by decide) (fun h5 => ?_) (fun h5 => ?_)
    · refine lv_aload_n hx hb d_M_complete_185 rfl (lv_at hl 0 rfl) ?_
      refine g_get E hH (gc_M rfl) cl_M 33 (by decide) lf_M_104 rfl d_M_complete_186 ?_
      refine lv_iload_n hx hb d_M_complete_189 rfl (lv_at hl 1 rfl) ?_
      refine lv_aload_n hx hb d_M_complete_190 rfl (lv_at hl 0 rfl) ?_
      refine g_get E hH (gc_M rfl) cl_M 33 (by decide) lf_M_104 rfl d_M_complete_191 ?_
      refine lv_iload_n hx hb d_M_complete_194 rfl (lv_at hl 1 rfl) ?_
      refine g_iaload (k := (tn a1)) (v := (G 53 (tn a1))) E hH ⟨by decide, fun _ => rfl⟩ (by rcases he with rfl | rfl <;> (unfold vp_in; first | decide | (split <;> decide))) rfl rfl d_M_complete_195 ?_
      refine lv_iconst (v := 1) hx hb d_M_complete_196 (by decide) ?_
      refine lv_iadd hx hb d_M_complete_197 ?_
      refine lv_bipush (v := 16) hx hb d_M_complete_198 (by decide) ?_
      refine lv_irem hx hb d_M_complete_200 (by decide) ?_
      refine g_iastore (k := (tn a1)) E hH ⟨by decide, fun _ => rfl⟩ (by rcases he with rfl | rfl <;> (unfold vp_in; first | decide | (split <;> decide))) rfl d_M_complete_201 (fun H locs hH => ?_)
      refine lv_aload_n hx hb d_M_complete_202 rfl (lv_at hl 0 rfl) ?_
      refine g_get E hH (gc_M rfl) cl_M 33 (by decide) lf_M_104 rfl d_M_complete_203 ?_
      refine lv_iload_n hx hb d_M_complete_206 rfl (lv_at hl 1 rfl) ?_
      refine g_iaload (k := (tn a1)) (v := (((G 53 (tn a1)) + 1) - ((G 53 (tn a1)) + 1) / 16 * 16)) E hH ⟨by decide, fun _ => rfl⟩ (by rcases he with rfl | rfl <;> (unfold vp_in; first | decide | (split <;> decide))) rfl (wr_same _ _ _ _) d_M_complete_207 ?_
      refine lv_bipush (v := 11) hx hb d_M_complete_208 (by decide) ?_
      refine lv_icmp_ne (tgt := 252) hx hb d_M_complete_210 (by decide) (fun h6 => ?_) (fun h6 => ?_)
      · exact hC252 ((wr G 53 (tn a1) (((G 53 (tn a1)) + 1) - ((G 53 (tn a1)) + 1) / 16 * 16)), _, x2, x3) _ _ ⟨hsp.trans (by simp only [sp_M_complete_152, if_neg h5, if_neg h6]), lv_sub hl [0, 1, 2, 3] rfl, hH⟩
      · refine lv_aload_n hx hb d_M_complete_213 rfl (lv_at hl 0 rfl) ?_
        refine g_get E hH (gc_M rfl) cl_M 36 (by decide) lf_M_113 rfl d_M_complete_214 ?_
        refine lv_iload_n hx hb d_M_complete_217 rfl (lv_at hl 1 rfl) ?_
        refine lv_iload hx hb d_M_complete_218 (lv_at hl 4 rfl) ?_
        refine jn (α := Int32) (fun z H1 locs1 => z = ((if x4 = 0 then ((G 56 (tn a1)) + 1) else 0) : Int32) ∧ gH P s (wr G 53 (tn a1) (((G 53 (tn a1)) + 1) - ((G 53 (tn a1)) + 1) / 16 * 16)) H1 locs1) (fun z => F0 m 235 ls (.int z :: .int a1 :: .ref (gad P 56) :: [])) (fun z H locs h9 => ?_) (fun hJ => ?_)
        · obtain ⟨rfl, hH⟩ := h9
          refine g_iastore (k := (tn a1)) E hH ⟨by decide, fun _ => rfl⟩ (by rcases he with rfl | rfl <;> (unfold vp_in; first | decide | (split <;> decide))) rfl d_M_complete_235 (fun H locs hH => ?_)
          refine lv_aload_n hx hb d_M_complete_236 rfl (lv_at hl 0 rfl) ?_
          refine g_get E hH (gc_M rfl) cl_M 36 (by decide) lf_M_113 rfl d_M_complete_237 ?_
          refine lv_iload_n hx hb d_M_complete_240 rfl (lv_at hl 1 rfl) ?_
          refine g_iaload (k := (tn a1)) (v := ((if x4 = 0 then ((G 56 (tn a1)) + 1) else 0) : Int32)) E hH ⟨by decide, fun _ => rfl⟩ (by rcases he with rfl | rfl <;> (unfold vp_in; first | decide | (split <;> decide))) rfl (wr_same _ _ _ _) d_M_complete_241 ?_
          refine lv_iconst (v := 2) hx hb d_M_complete_242 (by decide) ?_
          refine lv_icmp_ne (tgt := 252) hx hb d_M_complete_243 (by decide) (fun h7 => ?_) (fun h7 => ?_)
          · exact hC252 ((wr (wr G 53 (tn a1) (((G 53 (tn a1)) + 1) - ((G 53 (tn a1)) + 1) / 16 * 16)) 56 (tn a1) ((if x4 = 0 then ((G 56 (tn a1)) + 1) else 0) : Int32)), _, x2, x3) _ _ ⟨hsp.trans (by simp only [sp_M_complete_152, if_neg h5, if_pos h6, if_neg h7]), lv_sub hl [0, 1, 2, 3] rfl, hH⟩
          · refine lv_aload_n hx hb d_M_complete_246 rfl (lv_at hl 0 rfl) ?_
            refine lv_iload_n hx hb d_M_complete_247 rfl (lv_at hl 1 rfl) ?_
            refine g_callVv (As := [.int _]) E hH hl (c_M_forget l P _ _ he) lm_M_173 (gc_M rfl) cl_M (Nat.le_of_ble_eq_true rfl) (Nat.le_of_ble_eq_true rfl) (Nat.le_of_ble_eq_true rfl) (Nat.le_of_ble_eq_true rfl) (Nat.le_of_ble_eq_true rfl) rfl rfl rfl rfl d_M_complete_248 (fun H locs hH => ?_)
            exact g_vret E hH (hsp.trans (by simp only [sp_M_complete_152, if_neg h5, if_pos h6, if_pos h7])) d_M_complete_251
        · refine lv_if_eq (tgt := 227) hx hb d_M_complete_220 (by decide) (fun h8 => ?_) (fun h8 => ?_)
          · refine lv_aload_n hx hb d_M_complete_227 rfl (lv_at hl 0 rfl) ?_
            refine g_get E hH (gc_M rfl) cl_M 36 (by decide) lf_M_113 rfl d_M_complete_228 ?_
            refine lv_iload_n hx hb d_M_complete_231 rfl (lv_at hl 1 rfl) ?_
            refine g_iaload (k := (tn a1)) (v := (G 56 (tn a1))) E hH ⟨by decide, fun _ => rfl⟩ (by rcases he with rfl | rfl <;> (unfold vp_in; first | decide | (split <;> decide))) rfl (wr_ck _ _ _ _ (by decide)) d_M_complete_232 ?_
            refine lv_iconst (v := 1) hx hb d_M_complete_233 (by decide) ?_
            refine lv_iadd hx hb d_M_complete_234 ?_
            exact hJ _ _ _ ⟨by simp only [if_pos h8], hH⟩
          · refine lv_iconst (v := 0) hx hb d_M_complete_223 (by decide) ?_
            refine lv_goto (tgt := 235) hx hb d_M_complete_224 (by decide) ?_
            exact hJ _ _ _ ⟨by simp only [if_neg h8], hH⟩
    · refine lv_aload_n hx hb d_M_complete_161 rfl (lv_at hl 0 rfl) ?_
      refine g_get E hH (gc_M rfl) cl_M 32 (by decide) lf_M_101 rfl d_M_complete_162 ?_
      refine lv_iload_n hx hb d_M_complete_165 rfl (lv_at hl 1 rfl) ?_
      refine lv_iload hx hb d_M_complete_166 (lv_at hl 4 rfl) ?_
      refine g_bastore (k := (tn a1)) E hH ⟨by decide, fun _ => rfl⟩ (by rcases he with rfl | rfl <;> (unfold vp_in; first | decide | (split <;> decide))) rfl d_M_complete_168 (fun H locs hH => ?_)
      refine lv_aload_n hx hb d_M_complete_169 rfl (lv_at hl 0 rfl) ?_
      refine g_get E hH (gc_M rfl) cl_M 33 (by decide) lf_M_104 rfl d_M_complete_170 ?_
      refine lv_iload_n hx hb d_M_complete_173 rfl (lv_at hl 1 rfl) ?_
      refine lv_bipush (v := 11) hx hb d_M_complete_174 (by decide) ?_
      refine g_iastore (k := (tn a1)) E hH ⟨by decide, fun _ => rfl⟩ (by rcases he with rfl | rfl <;> (unfold vp_in; first | decide | (split <;> decide))) rfl d_M_complete_176 (fun H locs hH => ?_)
      refine lv_aload_n hx hb d_M_complete_177 rfl (lv_at hl 0 rfl) ?_
      refine g_get E hH (gc_M rfl) cl_M 36 (by decide) lf_M_113 rfl d_M_complete_178 ?_
      refine lv_iload_n hx hb d_M_complete_181 rfl (lv_at hl 1 rfl) ?_
      refine lv_iconst (v := 0) hx hb d_M_complete_182 (by decide) ?_
      refine g_iastore (k := (tn a1)) E hH ⟨by decide, fun _ => rfl⟩ (by rcases he with rfl | rfl <;> (unfold vp_in; first | decide | (split <;> decide))) rfl d_M_complete_183 (fun H locs hH => ?_)
      exact g_vret E hH (hsp.trans (by simp only [sp_M_complete_152, if_pos h5])) d_M_complete_184
  refine jn (α := Mem × Array Slot × Int32 × Int32) (fun q H1 locs1 => sp_M_complete G0 a1 = sp_M_complete_114 a1 q.1 q.2.2.1 q.2.2.2 ∧ lv_has q.2.1 5 [(0, .ref (gad P 21)), (1, .int a1), (2, .int q.2.2.1), (3, .int q.2.2.2)] ∧ gH P s q.1 H1 locs1) (fun q => F0 m 114 q.2.1 []) (fun q H locs h9 => ?_) (fun hC114 => ?_)
  · clear hsp hl hH ls
    obtain ⟨G, ls, x2, x3⟩ := q
    obtain ⟨hsp, hl, hH⟩ := h9
    change lv_has ls 5 [(0, .ref (gad P 21)), (1, .int a1), (2, .int x2), (3, .int x3)] at hl
    dsimp only at hsp hH ⊢
    refine lv_aload_n hx hb d_M_complete_114 rfl (lv_at hl 0 rfl) ?_
    refine g_get E hH (gc_M rfl) cl_M 27 (by decide) lf_M_86 rfl d_M_complete_115 ?_
    refine lv_iload_n hx hb d_M_complete_118 rfl (lv_at hl 1 rfl) ?_
    refine g_baload (k := (tn a1)) (v := (G 47 (tn a1))) E hH ⟨by decide, fun _ => rfl⟩ (by rcases he with rfl | rfl <;> (unfold vp_in; first | decide | (split <;> decide))) rfl rfl d_M_complete_119 ?_
    refine jn (α := Int32) (fun z H1 locs1 => z = ((if (G 47 (tn a1)) = 0 then (if (G 55 (tn a1)) = 6 then (if (G 54 (tn a1)) = 11 then 1 else 0) else 0) else 0) : Int32) ∧ isB z ∧ gH P s G H1 locs1) (fun z => F0 m 150 ls (.int z :: [])) (fun z H locs h9 => ?_) (fun hJ => ?_)
    · obtain ⟨rfl, hz150, hH⟩ := h9
      refine lv_istore hx hb d_M_complete_150 hl (by decide) rfl (fun ls hl => ?_)
      exact hC152 (G, _, x2, x3, ((if (G 47 (tn a1)) = 0 then (if (G 55 (tn a1)) = 6 then (if (G 54 (tn a1)) = 11 then 1 else 0) else 0) else 0) : Int32)) _ _ ⟨hsp.trans (by rw [sp_M_complete_114]), lv_sub hl [1, 2, 3, 4, 0] rfl, hH⟩
    · refine lv_if_ne (tgt := 149) hx hb d_M_complete_120 (by decide) (fun h9 => ?_) (fun h9 => ?_)
      · refine lv_iconst (v := 0) hx hb d_M_complete_149 (by decide) ?_
        exact hJ _ _ _ ⟨by simp only [if_neg h9], isB_0, hH⟩
      · refine lv_aload_n hx hb d_M_complete_123 rfl (lv_at hl 0 rfl) ?_
        refine g_get E hH (gc_M rfl) cl_M 35 (by decide) lf_M_110 rfl d_M_complete_124 ?_
        refine lv_iload_n hx hb d_M_complete_127 rfl (lv_at hl 1 rfl) ?_
        refine g_iaload (k := (tn a1)) (v := (G 55 (tn a1))) E hH ⟨by decide, fun _ => rfl⟩ (by rcases he with rfl | rfl <;> (unfold vp_in; first | decide | (split <;> decide))) rfl rfl d_M_complete_128 ?_
        refine lv_bipush (v := 6) hx hb d_M_complete_129 (by decide) ?_
        refine lv_icmp_ne (tgt := 149) hx hb d_M_complete_131 (by decide) (fun h10 => ?_) (fun h10 => ?_)
        · refine lv_iconst (v := 0) hx hb d_M_complete_149 (by decide) ?_
          exact hJ _ _ _ ⟨by simp only [if_pos h9, if_neg h10], isB_0, hH⟩
        · refine lv_aload_n hx hb d_M_complete_134 rfl (lv_at hl 0 rfl) ?_
          refine g_get E hH (gc_M rfl) cl_M 34 (by decide) lf_M_107 rfl d_M_complete_135 ?_
          refine lv_iload_n hx hb d_M_complete_138 rfl (lv_at hl 1 rfl) ?_
          refine g_iaload (k := (tn a1)) (v := (G 54 (tn a1))) E hH ⟨by decide, fun _ => rfl⟩ (by rcases he with rfl | rfl <;> (unfold vp_in; first | decide | (split <;> decide))) rfl rfl d_M_complete_139 ?_
          refine lv_bipush (v := 11) hx hb d_M_complete_140 (by decide) ?_
          refine lv_icmp_ne (tgt := 149) hx hb d_M_complete_142 (by decide) (fun h11 => ?_) (fun h11 => ?_)
          · refine lv_iconst (v := 0) hx hb d_M_complete_149 (by decide) ?_
            exact hJ _ _ _ ⟨by simp only [if_pos h9, if_pos h10, if_neg h11], isB_0, hH⟩
          · refine lv_iconst (v := 1) hx hb d_M_complete_145 (by decide) ?_
            refine lv_goto (tgt := 150) hx hb d_M_complete_146 (by decide) ?_
            exact hJ _ _ _ ⟨by simp only [if_pos h9, if_pos h10, if_pos h11], isB_1, hH⟩
  refine jn (α := Mem × Array Slot × Int32 × Int32) (fun q H1 locs1 => sp_M_complete G0 a1 = sp_M_complete_35 a1 q.1 q.2.2.1 q.2.2.2 ∧ lv_has q.2.1 5 [(0, .ref (gad P 21)), (1, .int a1), (2, .int q.2.2.1), (3, .int q.2.2.2)] ∧ gH P s q.1 H1 locs1) (fun q => F0 m 35 q.2.1 []) (fun q H locs h9 => ?_) (fun hC35 => ?_)
  · clear hsp hl hH ls
    obtain ⟨G, ls, x2, x3⟩ := q
    obtain ⟨hsp, hl, hH⟩ := h9
    change lv_has ls 5 [(0, .ref (gad P 21)), (1, .int a1), (2, .int x2), (3, .int x3)] at hl
    dsimp only at hsp hH ⊢
    refine lv_aload_n hx hb d_M_complete_35 rfl (lv_at hl 0 rfl) ?_
    refine g_get E hH (gc_M rfl) cl_M 27 (by decide) lf_M_86 rfl d_M_complete_36 ?_
    refine lv_iload_n hx hb d_M_complete_39 rfl (lv_at hl 1 rfl) ?_
    refine g_baload (k := (tn a1)) (v := (G 47 (tn a1))) E hH ⟨by decide, fun _ => rfl⟩ (by rcases he with rfl | rfl <;> (unfold vp_in; first | decide | (split <;> decide))) rfl rfl d_M_complete_40 ?_
    refine lv_if_ne (tgt := 114) hx hb d_M_complete_41 (by decide) (fun h12 => ?_) (fun h12 => ?_)
    · exact hC114 (G, _, x2, x3) _ _ ⟨hsp.trans (by simp only [sp_M_complete_35, if_neg h12]), lv_sub hl [0, 1, 2, 3] rfl, hH⟩
    · refine lv_aload_n hx hb d_M_complete_44 rfl (lv_at hl 0 rfl) ?_
      refine g_get E hH (gc_M rfl) cl_M 31 (by decide) lf_M_98 rfl d_M_complete_45 ?_
      refine lv_iload_n hx hb d_M_complete_48 rfl (lv_at hl 1 rfl) ?_
      refine lv_iload_n hx hb d_M_complete_49 rfl (lv_at hl 2 rfl) ?_
      refine lv_bipush (v := 29) hx hb d_M_complete_50 (by decide) ?_
      refine lv_ishr hx hb d_M_complete_52 ?_
      refine lv_iconst (v := 1) hx hb d_M_complete_53 (by decide) ?_
      refine lv_iand hx hb d_M_complete_54 ?_
      refine lv_iconst (v := 1) hx hb d_M_complete_55 (by decide) ?_
      refine jn (α := Int32) (fun z H1 locs1 => z = ((if ((x2 >>> ((29 : Int32) &&& 31)) &&& (1 : Int32)) = 1 then 1 else 0) : Int32) ∧ isB z ∧ gH P s G H1 locs1) (fun z => F0 m 64 ls (.int z :: .int a1 :: .ref (gad P 51) :: [])) (fun z H locs h9 => ?_) (fun hJ => ?_)
      · obtain ⟨rfl, hz64, hH⟩ := h9
        refine g_bastore (k := (tn a1)) E hH ⟨by decide, fun _ => rfl⟩ (by rcases he with rfl | rfl <;> (unfold vp_in; first | decide | (split <;> decide))) rfl d_M_complete_64 (fun H locs hH => ?_)
        refine lv_aload_n hx hb d_M_complete_65 rfl (lv_at hl 0 rfl) ?_
        refine g_get E hH (gc_M rfl) cl_M 34 (by decide) lf_M_107 rfl d_M_complete_66 ?_
        refine lv_iload_n hx hb d_M_complete_69 rfl (lv_at hl 1 rfl) ?_
        refine lv_aload_n hx hb d_M_complete_70 rfl (lv_at hl 0 rfl) ?_
        refine g_get E hH (gc_M rfl) cl_M 34 (by decide) lf_M_107 rfl d_M_complete_71 ?_
        refine lv_iload_n hx hb d_M_complete_74 rfl (lv_at hl 1 rfl) ?_
        refine g_iaload (k := (tn a1)) (v := (G 54 (tn a1))) E hH ⟨by decide, fun _ => rfl⟩ (by rcases he with rfl | rfl <;> (unfold vp_in; first | decide | (split <;> decide))) rfl (wr_ck _ _ _ _ (by decide)) d_M_complete_75 ?_
        refine lv_iconst (v := 1) hx hb d_M_complete_76 (by decide) ?_
        refine lv_ishl hx hb d_M_complete_77 ?_
        refine lv_iload_n hx hb d_M_complete_78 rfl (lv_at hl 3 rfl) ?_
        refine lv_ior hx hb d_M_complete_79 ?_
        refine lv_bipush (v := 63) hx hb d_M_complete_80 (by decide) ?_
        refine lv_iand hx hb d_M_complete_82 ?_
        refine g_iastore (k := (tn a1)) E hH ⟨by decide, fun _ => rfl⟩ (by rcases he with rfl | rfl <;> (unfold vp_in; first | decide | (split <;> decide))) rfl d_M_complete_83 (fun H locs hH => ?_)
        refine lv_aload_n hx hb d_M_complete_84 rfl (lv_at hl 0 rfl) ?_
        refine g_get E hH (gc_M rfl) cl_M 35 (by decide) lf_M_110 rfl d_M_complete_85 ?_
        refine lv_iload_n hx hb d_M_complete_88 rfl (lv_at hl 1 rfl) ?_
        refine lv_aload_n hx hb d_M_complete_89 rfl (lv_at hl 0 rfl) ?_
        refine g_get E hH (gc_M rfl) cl_M 35 (by decide) lf_M_110 rfl d_M_complete_90 ?_
        refine lv_iload_n hx hb d_M_complete_93 rfl (lv_at hl 1 rfl) ?_
        refine g_iaload (k := (tn a1)) (v := (G 55 (tn a1))) E hH ⟨by decide, fun _ => rfl⟩ (by rcases he with rfl | rfl <;> (unfold vp_in; first | decide | (split <;> decide))) rfl ((wr_ck _ _ _ _ (by decide)).trans (wr_ck _ _ _ _ (by decide))) d_M_complete_94 ?_
        refine lv_bipush (v := 6) hx hb d_M_complete_95 (by decide) ?_
        refine jn (α := Int32) (fun z H1 locs1 => z = ((if 6 ≤ (G 55 (tn a1)) then 6 else ((G 55 (tn a1)) + 1)) : Int32) ∧ gH P s (wr (wr G 51 (tn a1) (zb ((if ((x2 >>> ((29 : Int32) &&& 31)) &&& (1 : Int32)) = 1 then 1 else 0) : Int32))) 54 (tn a1) ((((G 54 (tn a1)) <<< ((1 : Int32) &&& 31)) ||| x3) &&& (63 : Int32))) H1 locs1) (fun z => F0 m 113 ls (.int z :: .int a1 :: .ref (gad P 55) :: [])) (fun z H locs h9 => ?_) (fun hJ => ?_)
        · obtain ⟨rfl, hH⟩ := h9
          refine g_iastore (k := (tn a1)) E hH ⟨by decide, fun _ => rfl⟩ (by rcases he with rfl | rfl <;> (unfold vp_in; first | decide | (split <;> decide))) rfl d_M_complete_113 (fun H locs hH => ?_)
          exact hC114 ((wr (wr (wr G 51 (tn a1) (zb ((if ((x2 >>> ((29 : Int32) &&& 31)) &&& (1 : Int32)) = 1 then 1 else 0) : Int32))) 54 (tn a1) ((((G 54 (tn a1)) <<< ((1 : Int32) &&& 31)) ||| x3) &&& (63 : Int32))) 55 (tn a1) ((if 6 ≤ (G 55 (tn a1)) then 6 else ((G 55 (tn a1)) + 1)) : Int32)), _, x2, x3) _ _ ⟨hsp.trans (by simp only [sp_M_complete_35, if_pos h12]), lv_sub hl [0, 1, 2, 3] rfl, hH⟩
        · refine lv_icmp_ge (tgt := 111) hx hb d_M_complete_97 (by decide) (fun h13 => ?_) (fun h13 => ?_)
          · refine lv_bipush (v := 6) hx hb d_M_complete_111 (by decide) ?_
            exact hJ _ _ _ ⟨by simp only [if_pos h13], hH⟩
          · refine lv_aload_n hx hb d_M_complete_100 rfl (lv_at hl 0 rfl) ?_
            refine g_get E hH (gc_M rfl) cl_M 35 (by decide) lf_M_110 rfl d_M_complete_101 ?_
            refine lv_iload_n hx hb d_M_complete_104 rfl (lv_at hl 1 rfl) ?_
            refine g_iaload (k := (tn a1)) (v := (G 55 (tn a1))) E hH ⟨by decide, fun _ => rfl⟩ (by rcases he with rfl | rfl <;> (unfold vp_in; first | decide | (split <;> decide))) rfl ((wr_ck _ _ _ _ (by decide)).trans (wr_ck _ _ _ _ (by decide))) d_M_complete_105 ?_
            refine lv_iconst (v := 1) hx hb d_M_complete_106 (by decide) ?_
            refine lv_iadd hx hb d_M_complete_107 ?_
            refine lv_goto (tgt := 113) hx hb d_M_complete_108 (by decide) ?_
            exact hJ _ _ _ ⟨by simp only [if_neg h13], hH⟩
      · refine lv_icmp_ne (tgt := 63) hx hb d_M_complete_56 (by decide) (fun h14 => ?_) (fun h14 => ?_)
        · refine lv_iconst (v := 0) hx hb d_M_complete_63 (by decide) ?_
          exact hJ _ _ _ ⟨by simp only [if_neg h14], isB_0, hH⟩
        · refine lv_iconst (v := 1) hx hb d_M_complete_59 (by decide) ?_
          refine lv_goto (tgt := 64) hx hb d_M_complete_60 (by decide) ?_
          exact hJ _ _ _ ⟨by simp only [if_pos h14], isB_1, hH⟩
  refine lv_aload_n hx hb d_M_complete_0 rfl (lv_at hl 0 rfl) ?_
  refine g_get E hH (gc_M rfl) cl_M 25 (by decide) lf_M_80 rfl d_M_complete_1 ?_
  refine lv_iload_n hx hb d_M_complete_4 rfl (lv_at hl 1 rfl) ?_
  refine g_iaload (k := (tn a1)) (v := (G0 45 (tn a1))) E hH ⟨by decide, fun _ => rfl⟩ (by rcases he with rfl | rfl <;> (unfold vp_in; first | decide | (split <;> decide))) rfl rfl d_M_complete_5 ?_
  refine lv_istore_n hx hb d_M_complete_6 rfl hl (by decide) rfl (fun ls hl => ?_)
  refine lv_iload_n hx hb d_M_complete_7 rfl (lv_at hl 0 rfl) ?_
  refine lv_bipush (v := 31) hx hb d_M_complete_8 (by decide) ?_
  refine lv_ishr hx hb d_M_complete_10 ?_
  refine lv_iconst (v := 1) hx hb d_M_complete_11 (by decide) ?_
  refine lv_iand hx hb d_M_complete_12 ?_
  refine lv_istore_n hx hb d_M_complete_13 rfl hl (by decide) rfl (fun ls hl => ?_)
  refine lv_aload_n hx hb d_M_complete_14 rfl (lv_at hl 2 rfl) ?_
  refine g_get E hH (gc_M rfl) cl_M 30 (by decide) lf_M_95 rfl d_M_complete_15 ?_
  refine lv_iload_n hx hb d_M_complete_18 rfl (lv_at hl 3 rfl) ?_
  refine lv_iload_n hx hb d_M_complete_19 rfl (lv_at hl 1 rfl) ?_
  refine g_iastore (k := (tn a1)) E hH ⟨by decide, fun _ => rfl⟩ (by rcases he with rfl | rfl <;> (unfold vp_in; first | decide | (split <;> decide))) rfl d_M_complete_20 (fun H locs hH => ?_)
  refine lv_aload_n hx hb d_M_complete_21 rfl (lv_at hl 2 rfl) ?_
  refine g_get E hH (gc_M rfl) cl_M 29 (by decide) lf_M_92 rfl d_M_complete_22 ?_
  refine lv_iload_n hx hb d_M_complete_25 rfl (lv_at hl 3 rfl) ?_
  refine lv_iconst (v := 1) hx hb d_M_complete_26 (by decide) ?_
  refine g_bastore (k := (tn a1)) E hH ⟨by decide, fun _ => rfl⟩ (by rcases he with rfl | rfl <;> (unfold vp_in; first | decide | (split <;> decide))) rfl d_M_complete_27 (fun H locs hH => ?_)
  refine lv_aload_n hx hb d_M_complete_28 rfl (lv_at hl 2 rfl) ?_
  refine lv_iload_n hx hb d_M_complete_29 rfl (lv_at hl 3 rfl) ?_
  refine lv_iconst (v := 1) hx hb d_M_complete_30 (by decide) ?_
  refine lv_iconst (v := 0) hx hb d_M_complete_31 (by decide) ?_
  refine g_callVv (As := [.int _, .int _, .int _]) E hH hl (c_M_fault l P _ _ _ _ he (Or.inl rfl)) lm_M_165 (gc_M rfl) cl_M (Nat.le_of_ble_eq_true rfl) (Nat.le_of_ble_eq_true rfl) (Nat.le_of_ble_eq_true rfl) (Nat.le_of_ble_eq_true rfl) (Nat.le_of_ble_eq_true rfl) rfl rfl rfl rfl d_M_complete_32 (fun H locs hH => ?_)
  exact hC35 ((sp_M_fault (wr (wr G0 50 (tn a1) (G0 45 (tn a1))) 49 (tn a1) (zb 1)) a1 1 0), _, (G0 45 (tn a1)), (((G0 45 (tn a1)) >>> ((31 : Int32) &&& 31)) &&& (1 : Int32))) _ _ ⟨hsp.trans (by rw [sp_M_complete]), lv_sub hl [2, 3, 1, 0] rfl, hH⟩

def sp_M_frameBit  (G0 : Mem) (a1 : Int32) : Mem :=
  (if ((G0 46 (tn a1)) + 1) = 8 then (if (G0 47 (tn a1)) = 0 then (if ((G0 46 (tn a1)) + 1) = 32 then (wr (wr (sp_M_complete (wr G0 46 (tn a1) ((G0 46 (tn a1)) + 1)) a1) 46 (tn a1) 0) 47 (tn a1) (zb ((if ((sp_M_complete (wr G0 46 (tn a1) ((G0 46 (tn a1)) + 1)) a1) 47 (tn a1)) = 0 then 1 else 0) : Int32))) else (wr G0 46 (tn a1) ((G0 46 (tn a1)) + 1))) else (if ((if ((sp_M_isWord (wr G0 46 (tn a1) ((G0 46 (tn a1)) + 1)) a1)) = 0 then ((G0 48 (tn a1)) + 1) else 0) : Int32) = 3 then (sp_M_search (sp_M_fault (wr (wr G0 46 (tn a1) ((G0 46 (tn a1)) + 1)) 48 (tn a1) ((if ((sp_M_isWord (wr G0 46 (tn a1) ((G0 46 (tn a1)) + 1)) a1)) = 0 then ((G0 48 (tn a1)) + 1) else 0) : Int32)) a1 1 2) a1) else (if ((G0 46 (tn a1)) + 1) = 32 then (wr (wr (sp_M_complete (wr (wr G0 46 (tn a1) ((G0 46 (tn a1)) + 1)) 48 (tn a1) ((if ((sp_M_isWord (wr G0 46 (tn a1) ((G0 46 (tn a1)) + 1)) a1)) = 0 then ((G0 48 (tn a1)) + 1) else 0) : Int32)) a1) 46 (tn a1) 0) 47 (tn a1) (zb ((if ((sp_M_complete (wr (wr G0 46 (tn a1) ((G0 46 (tn a1)) + 1)) 48 (tn a1) ((if ((sp_M_isWord (wr G0 46 (tn a1) ((G0 46 (tn a1)) + 1)) a1)) = 0 then ((G0 48 (tn a1)) + 1) else 0) : Int32)) a1) 47 (tn a1)) = 0 then 1 else 0) : Int32))) else (wr (wr G0 46 (tn a1) ((G0 46 (tn a1)) + 1)) 48 (tn a1) ((if ((sp_M_isWord (wr G0 46 (tn a1) ((G0 46 (tn a1)) + 1)) a1)) = 0 then ((G0 48 (tn a1)) + 1) else 0) : Int32))))) else (if ((G0 46 (tn a1)) + 1) = 32 then (wr (wr (sp_M_complete (wr G0 46 (tn a1) ((G0 46 (tn a1)) + 1)) a1) 46 (tn a1) 0) 47 (tn a1) (zb ((if ((sp_M_complete (wr G0 46 (tn a1) ((G0 46 (tn a1)) + 1)) a1) 47 (tn a1)) = 0 then 1 else 0) : Int32))) else (wr G0 46 (tn a1) ((G0 46 (tn a1)) + 1))))
set_option maxHeartbeats 4000000 in
set_option maxRecDepth 100000 in
theorem c_M_frameBit (l : Launch) (P : gP) (G0 : Mem)  (a1 : Int32) (he : a1 = 0 ∨ a1 = 1) : gMv l y_M_frameBit b_M_frameBit 2 none ({ frames := 3, cells := 0, slots := 0, locals := 71 }) [.ref (gad P 21), .int a1] P G0 (sp_M_frameBit G0 a1) := by
  refine Met.ofW (cc := b_M_frameBit) (maxL := 2) (ret := none) (by decide) rfl ?_
  intro p e s m args below meth c0 s₁ B hml hv
  obtain ⟨rfl, hpre⟩ := hv
  obtain ⟨E, hH⟩ := gE_of B hml hpre
  replace E : gE p s m _ meth c0 P "FramedLineModel" b_M_frameBit 2 none := E
  have hx := E.1
  have hb := E.2.1
  have hl := lv_entry ([.ref (gad P 21), .int a1]) (n := 2) (Nat.le_of_ble_eq_true rfl)
  rw [lg_entry_eq]
  generalize (lg_sl ([.ref (gad P 21), .int a1]) ++ List.replicate (2 - (lg_sl ([.ref (gad P 21), .int a1])).length) Slot.unset).toArray = ls at hl ⊢
  replace hl : lv_has ls 2 [(0, .ref (gad P 21)), (1, .int a1)] := hl
  have hsp : sp_M_frameBit G0 a1 = sp_M_frameBit G0 a1 := rfl
  refine lv_aload_n hx hb d_M_frameBit_0 rfl (lv_at hl 0 rfl) ?_
  refine g_get E hH (gc_M rfl) cl_M 26 (by decide) lf_M_83 rfl d_M_frameBit_1 ?_
  refine lv_iload_n hx hb d_M_frameBit_4 rfl (lv_at hl 1 rfl) ?_
  refine lv_aload_n hx hb d_M_frameBit_5 rfl (lv_at hl 0 rfl) ?_
  refine g_get E hH (gc_M rfl) cl_M 26 (by decide) lf_M_83 rfl d_M_frameBit_6 ?_
  refine lv_iload_n hx hb d_M_frameBit_9 rfl (lv_at hl 1 rfl) ?_
  refine g_iaload (k := (tn a1)) (v := (G0 46 (tn a1))) E hH ⟨by decide, fun _ => rfl⟩ (by rcases he with rfl | rfl <;> (unfold vp_in; first | decide | (split <;> decide))) rfl rfl d_M_frameBit_10 ?_
  refine lv_iconst (v := 1) hx hb d_M_frameBit_11 (by decide) ?_
  refine lv_iadd hx hb d_M_frameBit_12 ?_
  refine g_iastore (k := (tn a1)) E hH ⟨by decide, fun _ => rfl⟩ (by rcases he with rfl | rfl <;> (unfold vp_in; first | decide | (split <;> decide))) rfl d_M_frameBit_13 (fun H locs hH => ?_)
  refine lv_aload_n hx hb d_M_frameBit_14 rfl (lv_at hl 0 rfl) ?_
  refine g_get E hH (gc_M rfl) cl_M 26 (by decide) lf_M_83 rfl d_M_frameBit_15 ?_
  refine lv_iload_n hx hb d_M_frameBit_18 rfl (lv_at hl 1 rfl) ?_
  refine g_iaload (k := (tn a1)) (v := ((G0 46 (tn a1)) + 1)) E hH ⟨by decide, fun _ => rfl⟩ (by rcases he with rfl | rfl <;> (unfold vp_in; first | decide | (split <;> decide))) rfl (wr_same _ _ _ _) d_M_frameBit_19 ?_
  refine lv_bipush (v := 8) hx hb d_M_frameBit_20 (by decide) ?_
  refine lv_icmp_ne (tgt := 83) hx hb d_M_frameBit_22 (by decide) (fun h1 => ?_) (fun h1 => ?_)
  · refine lv_aload_n hx hb d_M_frameBit_83 rfl (lv_at hl 0 rfl) ?_
    refine g_get E hH (gc_M rfl) cl_M 26 (by decide) lf_M_83 rfl d_M_frameBit_84 ?_
    refine lv_iload_n hx hb d_M_frameBit_87 rfl (lv_at hl 1 rfl) ?_
    refine g_iaload (k := (tn a1)) (v := ((G0 46 (tn a1)) + 1)) E hH ⟨by decide, fun _ => rfl⟩ (by rcases he with rfl | rfl <;> (unfold vp_in; first | decide | (split <;> decide))) rfl (wr_same _ _ _ _) d_M_frameBit_88 ?_
    refine lv_bipush (v := 32) hx hb d_M_frameBit_89 (by decide) ?_
    refine lv_icmp_ne (tgt := 126) hx hb d_M_frameBit_91 (by decide) (fun h2 => ?_) (fun h2 => ?_)
    · exact g_vret E hH (hsp.trans (by simp only [sp_M_frameBit, if_neg h1, if_neg h2])) d_M_frameBit_126
    · refine lv_aload_n hx hb d_M_frameBit_94 rfl (lv_at hl 0 rfl) ?_
      refine lv_iload_n hx hb d_M_frameBit_95 rfl (lv_at hl 1 rfl) ?_
      refine g_callVv (As := [.int _]) E hH hl (c_M_complete l P _ _ he) lm_M_186 (gc_M rfl) cl_M (Nat.le_of_ble_eq_true rfl) (Nat.le_of_ble_eq_true rfl) (Nat.le_of_ble_eq_true rfl) (Nat.le_of_ble_eq_true rfl) (Nat.le_of_ble_eq_true rfl) rfl rfl rfl rfl d_M_frameBit_96 (fun H locs hH => ?_)
      refine lv_aload_n hx hb d_M_frameBit_99 rfl (lv_at hl 0 rfl) ?_
      refine g_get E hH (gc_M rfl) cl_M 26 (by decide) lf_M_83 rfl d_M_frameBit_100 ?_
      refine lv_iload_n hx hb d_M_frameBit_103 rfl (lv_at hl 1 rfl) ?_
      refine lv_iconst (v := 0) hx hb d_M_frameBit_104 (by decide) ?_
      refine g_iastore (k := (tn a1)) E hH ⟨by decide, fun _ => rfl⟩ (by rcases he with rfl | rfl <;> (unfold vp_in; first | decide | (split <;> decide))) rfl d_M_frameBit_105 (fun H locs hH => ?_)
      refine lv_aload_n hx hb d_M_frameBit_106 rfl (lv_at hl 0 rfl) ?_
      refine g_get E hH (gc_M rfl) cl_M 27 (by decide) lf_M_86 rfl d_M_frameBit_107 ?_
      refine lv_iload_n hx hb d_M_frameBit_110 rfl (lv_at hl 1 rfl) ?_
      refine lv_aload_n hx hb d_M_frameBit_111 rfl (lv_at hl 0 rfl) ?_
      refine g_get E hH (gc_M rfl) cl_M 27 (by decide) lf_M_86 rfl d_M_frameBit_112 ?_
      refine lv_iload_n hx hb d_M_frameBit_115 rfl (lv_at hl 1 rfl) ?_
      refine g_baload (k := (tn a1)) (v := ((sp_M_complete (wr G0 46 (tn a1) ((G0 46 (tn a1)) + 1)) a1) 47 (tn a1))) E hH ⟨by decide, fun _ => rfl⟩ (by rcases he with rfl | rfl <;> (unfold vp_in; first | decide | (split <;> decide))) rfl (wr_ck _ _ _ _ (by decide)) d_M_frameBit_116 ?_
      refine jn (α := Int32) (fun z H1 locs1 => z = ((if ((sp_M_complete (wr G0 46 (tn a1) ((G0 46 (tn a1)) + 1)) a1) 47 (tn a1)) = 0 then 1 else 0) : Int32) ∧ isB z ∧ gH P s (wr (sp_M_complete (wr G0 46 (tn a1) ((G0 46 (tn a1)) + 1)) a1) 46 (tn a1) 0) H1 locs1) (fun z => F0 m 125 ls (.int z :: .int a1 :: .ref (gad P 47) :: [])) (fun z H locs h9 => ?_) (fun hJ => ?_)
      · obtain ⟨rfl, hz125, hH⟩ := h9
        refine g_bastore (k := (tn a1)) E hH ⟨by decide, fun _ => rfl⟩ (by rcases he with rfl | rfl <;> (unfold vp_in; first | decide | (split <;> decide))) rfl d_M_frameBit_125 (fun H locs hH => ?_)
        exact g_vret E hH (hsp.trans (by simp only [sp_M_frameBit, if_neg h1, if_pos h2])) d_M_frameBit_126
      · refine lv_if_ne (tgt := 124) hx hb d_M_frameBit_117 (by decide) (fun h3 => ?_) (fun h3 => ?_)
        · refine lv_iconst (v := 0) hx hb d_M_frameBit_124 (by decide) ?_
          exact hJ _ _ _ ⟨by simp only [if_neg h3], isB_0, hH⟩
        · refine lv_iconst (v := 1) hx hb d_M_frameBit_120 (by decide) ?_
          refine lv_goto (tgt := 125) hx hb d_M_frameBit_121 (by decide) ?_
          exact hJ _ _ _ ⟨by simp only [if_pos h3], isB_1, hH⟩
  · refine lv_aload_n hx hb d_M_frameBit_25 rfl (lv_at hl 0 rfl) ?_
    refine g_get E hH (gc_M rfl) cl_M 27 (by decide) lf_M_86 rfl d_M_frameBit_26 ?_
    refine lv_iload_n hx hb d_M_frameBit_29 rfl (lv_at hl 1 rfl) ?_
    refine g_baload (k := (tn a1)) (v := (G0 47 (tn a1))) E hH ⟨by decide, fun _ => rfl⟩ (by rcases he with rfl | rfl <;> (unfold vp_in; first | decide | (split <;> decide))) rfl (wr_ck _ _ _ _ (by decide)) d_M_frameBit_30 ?_
    refine lv_if_eq (tgt := 83) hx hb d_M_frameBit_31 (by decide) (fun h4 => ?_) (fun h4 => ?_)
    · refine lv_aload_n hx hb d_M_frameBit_83 rfl (lv_at hl 0 rfl) ?_
      refine g_get E hH (gc_M rfl) cl_M 26 (by decide) lf_M_83 rfl d_M_frameBit_84 ?_
      refine lv_iload_n hx hb d_M_frameBit_87 rfl (lv_at hl 1 rfl) ?_
      refine g_iaload (k := (tn a1)) (v := ((G0 46 (tn a1)) + 1)) E hH ⟨by decide, fun _ => rfl⟩ (by rcases he with rfl | rfl <;> (unfold vp_in; first | decide | (split <;> decide))) rfl (wr_same _ _ _ _) d_M_frameBit_88 ?_
      refine lv_bipush (v := 32) hx hb d_M_frameBit_89 (by decide) ?_
      refine lv_icmp_ne (tgt := 126) hx hb d_M_frameBit_91 (by decide) (fun h5 => ?_) (fun h5 => ?_)
      · exact g_vret E hH (hsp.trans (by simp only [sp_M_frameBit, if_pos h1, if_pos h4, if_neg h5])) d_M_frameBit_126
      · refine lv_aload_n hx hb d_M_frameBit_94 rfl (lv_at hl 0 rfl) ?_
        refine lv_iload_n hx hb d_M_frameBit_95 rfl (lv_at hl 1 rfl) ?_
        refine g_callVv (As := [.int _]) E hH hl (c_M_complete l P _ _ he) lm_M_186 (gc_M rfl) cl_M (Nat.le_of_ble_eq_true rfl) (Nat.le_of_ble_eq_true rfl) (Nat.le_of_ble_eq_true rfl) (Nat.le_of_ble_eq_true rfl) (Nat.le_of_ble_eq_true rfl) rfl rfl rfl rfl d_M_frameBit_96 (fun H locs hH => ?_)
        refine lv_aload_n hx hb d_M_frameBit_99 rfl (lv_at hl 0 rfl) ?_
        refine g_get E hH (gc_M rfl) cl_M 26 (by decide) lf_M_83 rfl d_M_frameBit_100 ?_
        refine lv_iload_n hx hb d_M_frameBit_103 rfl (lv_at hl 1 rfl) ?_
        refine lv_iconst (v := 0) hx hb d_M_frameBit_104 (by decide) ?_
        refine g_iastore (k := (tn a1)) E hH ⟨by decide, fun _ => rfl⟩ (by rcases he with rfl | rfl <;> (unfold vp_in; first | decide | (split <;> decide))) rfl d_M_frameBit_105 (fun H locs hH => ?_)
        refine lv_aload_n hx hb d_M_frameBit_106 rfl (lv_at hl 0 rfl) ?_
        refine g_get E hH (gc_M rfl) cl_M 27 (by decide) lf_M_86 rfl d_M_frameBit_107 ?_
        refine lv_iload_n hx hb d_M_frameBit_110 rfl (lv_at hl 1 rfl) ?_
        refine lv_aload_n hx hb d_M_frameBit_111 rfl (lv_at hl 0 rfl) ?_
        refine g_get E hH (gc_M rfl) cl_M 27 (by decide) lf_M_86 rfl d_M_frameBit_112 ?_
        refine lv_iload_n hx hb d_M_frameBit_115 rfl (lv_at hl 1 rfl) ?_
        refine g_baload (k := (tn a1)) (v := ((sp_M_complete (wr G0 46 (tn a1) ((G0 46 (tn a1)) + 1)) a1) 47 (tn a1))) E hH ⟨by decide, fun _ => rfl⟩ (by rcases he with rfl | rfl <;> (unfold vp_in; first | decide | (split <;> decide))) rfl (wr_ck _ _ _ _ (by decide)) d_M_frameBit_116 ?_
        refine jn (α := Int32) (fun z H1 locs1 => z = ((if ((sp_M_complete (wr G0 46 (tn a1) ((G0 46 (tn a1)) + 1)) a1) 47 (tn a1)) = 0 then 1 else 0) : Int32) ∧ isB z ∧ gH P s (wr (sp_M_complete (wr G0 46 (tn a1) ((G0 46 (tn a1)) + 1)) a1) 46 (tn a1) 0) H1 locs1) (fun z => F0 m 125 ls (.int z :: .int a1 :: .ref (gad P 47) :: [])) (fun z H locs h9 => ?_) (fun hJ => ?_)
        · obtain ⟨rfl, hz125, hH⟩ := h9
          refine g_bastore (k := (tn a1)) E hH ⟨by decide, fun _ => rfl⟩ (by rcases he with rfl | rfl <;> (unfold vp_in; first | decide | (split <;> decide))) rfl d_M_frameBit_125 (fun H locs hH => ?_)
          exact g_vret E hH (hsp.trans (by simp only [sp_M_frameBit, if_pos h1, if_pos h4, if_pos h5])) d_M_frameBit_126
        · refine lv_if_ne (tgt := 124) hx hb d_M_frameBit_117 (by decide) (fun h6 => ?_) (fun h6 => ?_)
          · refine lv_iconst (v := 0) hx hb d_M_frameBit_124 (by decide) ?_
            exact hJ _ _ _ ⟨by simp only [if_neg h6], isB_0, hH⟩
          · refine lv_iconst (v := 1) hx hb d_M_frameBit_120 (by decide) ?_
            refine lv_goto (tgt := 125) hx hb d_M_frameBit_121 (by decide) ?_
            exact hJ _ _ _ ⟨by simp only [if_pos h6], isB_1, hH⟩
    · refine lv_aload_n hx hb d_M_frameBit_34 rfl (lv_at hl 0 rfl) ?_
      refine g_get E hH (gc_M rfl) cl_M 28 (by decide) lf_M_89 rfl d_M_frameBit_35 ?_
      refine lv_iload_n hx hb d_M_frameBit_38 rfl (lv_at hl 1 rfl) ?_
      refine lv_aload_n hx hb d_M_frameBit_39 rfl (lv_at hl 0 rfl) ?_
      refine lv_iload_n hx hb d_M_frameBit_40 rfl (lv_at hl 1 rfl) ?_
      refine g_callVrz (As := [.int _]) E hH hl (c_M_isWord l P _ _ he) lm_M_179 (gc_M rfl) cl_M (Nat.le_of_ble_eq_true rfl) (Nat.le_of_ble_eq_true rfl) (Nat.le_of_ble_eq_true rfl) (Nat.le_of_ble_eq_true rfl) (Nat.le_of_ble_eq_true rfl) rfl rfl rfl rfl d_M_frameBit_41 (fun H locs hH hz41 => ?_)
      refine jn (α := Int32) (fun z H1 locs1 => z = ((if ((sp_M_isWord (wr G0 46 (tn a1) ((G0 46 (tn a1)) + 1)) a1)) = 0 then ((G0 48 (tn a1)) + 1) else 0) : Int32) ∧ gH P s (wr G0 46 (tn a1) ((G0 46 (tn a1)) + 1)) H1 locs1) (fun z => F0 m 59 ls (.int z :: .int a1 :: .ref (gad P 48) :: [])) (fun z H locs h9 => ?_) (fun hJ => ?_)
      · obtain ⟨rfl, hH⟩ := h9
        refine g_iastore (k := (tn a1)) E hH ⟨by decide, fun _ => rfl⟩ (by rcases he with rfl | rfl <;> (unfold vp_in; first | decide | (split <;> decide))) rfl d_M_frameBit_59 (fun H locs hH => ?_)
        refine lv_aload_n hx hb d_M_frameBit_60 rfl (lv_at hl 0 rfl) ?_
        refine g_get E hH (gc_M rfl) cl_M 28 (by decide) lf_M_89 rfl d_M_frameBit_61 ?_
        refine lv_iload_n hx hb d_M_frameBit_64 rfl (lv_at hl 1 rfl) ?_
        refine g_iaload (k := (tn a1)) (v := ((if ((sp_M_isWord (wr G0 46 (tn a1) ((G0 46 (tn a1)) + 1)) a1)) = 0 then ((G0 48 (tn a1)) + 1) else 0) : Int32)) E hH ⟨by decide, fun _ => rfl⟩ (by rcases he with rfl | rfl <;> (unfold vp_in; first | decide | (split <;> decide))) rfl (wr_same _ _ _ _) d_M_frameBit_65 ?_
        refine lv_iconst (v := 3) hx hb d_M_frameBit_66 (by decide) ?_
        refine lv_icmp_ne (tgt := 83) hx hb d_M_frameBit_67 (by decide) (fun h7 => ?_) (fun h7 => ?_)
        · refine lv_aload_n hx hb d_M_frameBit_83 rfl (lv_at hl 0 rfl) ?_
          refine g_get E hH (gc_M rfl) cl_M 26 (by decide) lf_M_83 rfl d_M_frameBit_84 ?_
          refine lv_iload_n hx hb d_M_frameBit_87 rfl (lv_at hl 1 rfl) ?_
          refine g_iaload (k := (tn a1)) (v := ((G0 46 (tn a1)) + 1)) E hH ⟨by decide, fun _ => rfl⟩ (by rcases he with rfl | rfl <;> (unfold vp_in; first | decide | (split <;> decide))) rfl ((wr_ck _ _ _ _ (by decide)).trans (wr_same _ _ _ _)) d_M_frameBit_88 ?_
          refine lv_bipush (v := 32) hx hb d_M_frameBit_89 (by decide) ?_
          refine lv_icmp_ne (tgt := 126) hx hb d_M_frameBit_91 (by decide) (fun h8 => ?_) (fun h8 => ?_)
          · exact g_vret E hH (hsp.trans (by simp only [sp_M_frameBit, if_pos h1, if_neg h4, if_neg h7, if_neg h8])) d_M_frameBit_126
          · refine lv_aload_n hx hb d_M_frameBit_94 rfl (lv_at hl 0 rfl) ?_
            refine lv_iload_n hx hb d_M_frameBit_95 rfl (lv_at hl 1 rfl) ?_
            refine g_callVv (As := [.int _]) E hH hl (c_M_complete l P _ _ he) lm_M_186 (gc_M rfl) cl_M (Nat.le_of_ble_eq_true rfl) (Nat.le_of_ble_eq_true rfl) (Nat.le_of_ble_eq_true rfl) (Nat.le_of_ble_eq_true rfl) (Nat.le_of_ble_eq_true rfl) rfl rfl rfl rfl d_M_frameBit_96 (fun H locs hH => ?_)
            refine lv_aload_n hx hb d_M_frameBit_99 rfl (lv_at hl 0 rfl) ?_
            refine g_get E hH (gc_M rfl) cl_M 26 (by decide) lf_M_83 rfl d_M_frameBit_100 ?_
            refine lv_iload_n hx hb d_M_frameBit_103 rfl (lv_at hl 1 rfl) ?_
            refine lv_iconst (v := 0) hx hb d_M_frameBit_104 (by decide) ?_
            refine g_iastore (k := (tn a1)) E hH ⟨by decide, fun _ => rfl⟩ (by rcases he with rfl | rfl <;> (unfold vp_in; first | decide | (split <;> decide))) rfl d_M_frameBit_105 (fun H locs hH => ?_)
            refine lv_aload_n hx hb d_M_frameBit_106 rfl (lv_at hl 0 rfl) ?_
            refine g_get E hH (gc_M rfl) cl_M 27 (by decide) lf_M_86 rfl d_M_frameBit_107 ?_
            refine lv_iload_n hx hb d_M_frameBit_110 rfl (lv_at hl 1 rfl) ?_
            refine lv_aload_n hx hb d_M_frameBit_111 rfl (lv_at hl 0 rfl) ?_
            refine g_get E hH (gc_M rfl) cl_M 27 (by decide) lf_M_86 rfl d_M_frameBit_112 ?_
            refine lv_iload_n hx hb d_M_frameBit_115 rfl (lv_at hl 1 rfl) ?_
            refine g_baload (k := (tn a1)) (v := ((sp_M_complete (wr (wr G0 46 (tn a1) ((G0 46 (tn a1)) + 1)) 48 (tn a1) ((if ((sp_M_isWord (wr G0 46 (tn a1) ((G0 46 (tn a1)) + 1)) a1)) = 0 then ((G0 48 (tn a1)) + 1) else 0) : Int32)) a1) 47 (tn a1))) E hH ⟨by decide, fun _ => rfl⟩ (by rcases he with rfl | rfl <;> (unfold vp_in; first | decide | (split <;> decide))) rfl (wr_ck _ _ _ _ (by decide)) d_M_frameBit_116 ?_
            refine jn (α := Int32) (fun z H1 locs1 => z = ((if ((sp_M_complete (wr (wr G0 46 (tn a1) ((G0 46 (tn a1)) + 1)) 48 (tn a1) ((if ((sp_M_isWord (wr G0 46 (tn a1) ((G0 46 (tn a1)) + 1)) a1)) = 0 then ((G0 48 (tn a1)) + 1) else 0) : Int32)) a1) 47 (tn a1)) = 0 then 1 else 0) : Int32) ∧ isB z ∧ gH P s (wr (sp_M_complete (wr (wr G0 46 (tn a1) ((G0 46 (tn a1)) + 1)) 48 (tn a1) ((if ((sp_M_isWord (wr G0 46 (tn a1) ((G0 46 (tn a1)) + 1)) a1)) = 0 then ((G0 48 (tn a1)) + 1) else 0) : Int32)) a1) 46 (tn a1) 0) H1 locs1) (fun z => F0 m 125 ls (.int z :: .int a1 :: .ref (gad P 47) :: [])) (fun z H locs h9 => ?_) (fun hJ => ?_)
            · obtain ⟨rfl, hz125, hH⟩ := h9
              refine g_bastore (k := (tn a1)) E hH ⟨by decide, fun _ => rfl⟩ (by rcases he with rfl | rfl <;> (unfold vp_in; first | decide | (split <;> decide))) rfl d_M_frameBit_125 (fun H locs hH => ?_)
              exact g_vret E hH (hsp.trans (by simp only [sp_M_frameBit, if_pos h1, if_neg h4, if_neg h7, if_pos h8])) d_M_frameBit_126
            · refine lv_if_ne (tgt := 124) hx hb d_M_frameBit_117 (by decide) (fun h9 => ?_) (fun h9 => ?_)
              · refine lv_iconst (v := 0) hx hb d_M_frameBit_124 (by decide) ?_
                exact hJ _ _ _ ⟨by simp only [if_neg h9], isB_0, hH⟩
              · refine lv_iconst (v := 1) hx hb d_M_frameBit_120 (by decide) ?_
                refine lv_goto (tgt := 125) hx hb d_M_frameBit_121 (by decide) ?_
                exact hJ _ _ _ ⟨by simp only [if_pos h9], isB_1, hH⟩
        · refine lv_aload_n hx hb d_M_frameBit_70 rfl (lv_at hl 0 rfl) ?_
          refine lv_iload_n hx hb d_M_frameBit_71 rfl (lv_at hl 1 rfl) ?_
          refine lv_iconst (v := 1) hx hb d_M_frameBit_72 (by decide) ?_
          refine lv_iconst (v := 2) hx hb d_M_frameBit_73 (by decide) ?_
          refine g_callVv (As := [.int _, .int _, .int _]) E hH hl (c_M_fault l P _ _ _ _ he (Or.inr (Or.inr (Or.inl rfl)))) lm_M_165 (gc_M rfl) cl_M (Nat.le_of_ble_eq_true rfl) (Nat.le_of_ble_eq_true rfl) (Nat.le_of_ble_eq_true rfl) (Nat.le_of_ble_eq_true rfl) (Nat.le_of_ble_eq_true rfl) rfl rfl rfl rfl d_M_frameBit_74 (fun H locs hH => ?_)
          refine lv_aload_n hx hb d_M_frameBit_77 rfl (lv_at hl 0 rfl) ?_
          refine lv_iload_n hx hb d_M_frameBit_78 rfl (lv_at hl 1 rfl) ?_
          refine g_callVv (As := [.int _]) E hH hl (c_M_search l P _ _ he) lm_M_183 (gc_M rfl) cl_M (Nat.le_of_ble_eq_true rfl) (Nat.le_of_ble_eq_true rfl) (Nat.le_of_ble_eq_true rfl) (Nat.le_of_ble_eq_true rfl) (Nat.le_of_ble_eq_true rfl) rfl rfl rfl rfl d_M_frameBit_79 (fun H locs hH => ?_)
          exact g_vret E hH (hsp.trans (by simp only [sp_M_frameBit, if_pos h1, if_neg h4, if_pos h7])) d_M_frameBit_82
      · refine lv_if_eq (tgt := 51) hx hb d_M_frameBit_44 (by decide) (fun h10 => ?_) (fun h10 => ?_)
        · refine lv_aload_n hx hb d_M_frameBit_51 rfl (lv_at hl 0 rfl) ?_
          refine g_get E hH (gc_M rfl) cl_M 28 (by decide) lf_M_89 rfl d_M_frameBit_52 ?_
          refine lv_iload_n hx hb d_M_frameBit_55 rfl (lv_at hl 1 rfl) ?_
          refine g_iaload (k := (tn a1)) (v := (G0 48 (tn a1))) E hH ⟨by decide, fun _ => rfl⟩ (by rcases he with rfl | rfl <;> (unfold vp_in; first | decide | (split <;> decide))) rfl (wr_ck _ _ _ _ (by decide)) d_M_frameBit_56 ?_
          refine lv_iconst (v := 1) hx hb d_M_frameBit_57 (by decide) ?_
          refine lv_iadd hx hb d_M_frameBit_58 ?_
          exact hJ _ _ _ ⟨by simp only [if_pos h10], hH⟩
        · refine lv_iconst (v := 0) hx hb d_M_frameBit_47 (by decide) ?_
          refine lv_goto (tgt := 59) hx hb d_M_frameBit_48 (by decide) ?_
          exact hJ _ _ _ ⟨by simp only [if_neg h10], hH⟩

def sp_M_make  (G0 : Mem) (a1 : Int32) (a2 : Int32) : Mem :=
  (if (G0 43 (tn a1)) = 2 then (sp_M_frameBit (wr (wr G0 45 (tn a1) (((G0 45 (tn a1)) <<< ((1 : Int32) &&& 31)) ||| a2)) 44 (tn a1) ((if 100 ≤ (G0 44 (tn a1)) then (G0 44 (tn a1)) else ((G0 44 (tn a1)) + 1)) : Int32)) a1) else (if (G0 43 (tn a1)) = 0 then (if ((if 100 ≤ (G0 44 (tn a1)) then (G0 44 (tn a1)) else ((G0 44 (tn a1)) + 1)) : Int32) < 7 then (wr (wr G0 45 (tn a1) (((G0 45 (tn a1)) <<< ((1 : Int32) &&& 31)) ||| a2)) 44 (tn a1) ((if 100 ≤ (G0 44 (tn a1)) then (G0 44 (tn a1)) else ((G0 44 (tn a1)) + 1)) : Int32)) else (if ((sp_M_isWord (wr (wr G0 45 (tn a1) (((G0 45 (tn a1)) <<< ((1 : Int32) &&& 31)) ||| a2)) 44 (tn a1) ((if 100 ≤ (G0 44 (tn a1)) then (G0 44 (tn a1)) else ((G0 44 (tn a1)) + 1)) : Int32)) a1)) = 0 then (wr (wr G0 45 (tn a1) (((G0 45 (tn a1)) <<< ((1 : Int32) &&& 31)) ||| a2)) 44 (tn a1) ((if 100 ≤ (G0 44 (tn a1)) then (G0 44 (tn a1)) else ((G0 44 (tn a1)) + 1)) : Int32)) else (wr (wr (wr (wr G0 45 (tn a1) (((G0 45 (tn a1)) <<< ((1 : Int32) &&& 31)) ||| a2)) 44 (tn a1) ((if 100 ≤ (G0 44 (tn a1)) then (G0 44 (tn a1)) else ((G0 44 (tn a1)) + 1)) : Int32)) 43 (tn a1) 1) 44 (tn a1) 0))) else (if ((if 100 ≤ (G0 44 (tn a1)) then (G0 44 (tn a1)) else ((G0 44 (tn a1)) + 1)) : Int32) = 26 then (if a2 = 0 then (sp_M_search (wr (wr G0 45 (tn a1) (((G0 45 (tn a1)) <<< ((1 : Int32) &&& 31)) ||| a2)) 44 (tn a1) ((if 100 ≤ (G0 44 (tn a1)) then (G0 44 (tn a1)) else ((G0 44 (tn a1)) + 1)) : Int32)) a1) else (if ((if 100 ≤ (G0 44 (tn a1)) then (G0 44 (tn a1)) else ((G0 44 (tn a1)) + 1)) : Int32) = 64 then (if ((sp_M_isWord (wr (wr G0 45 (tn a1) (((G0 45 (tn a1)) <<< ((1 : Int32) &&& 31)) ||| a2)) 44 (tn a1) ((if 100 ≤ (G0 44 (tn a1)) then (G0 44 (tn a1)) else ((G0 44 (tn a1)) + 1)) : Int32)) a1)) = 0 then (sp_M_search (wr (wr G0 45 (tn a1) (((G0 45 (tn a1)) <<< ((1 : Int32) &&& 31)) ||| a2)) 44 (tn a1) ((if 100 ≤ (G0 44 (tn a1)) then (G0 44 (tn a1)) else ((G0 44 (tn a1)) + 1)) : Int32)) a1) else (wr (wr (wr (wr (wr (wr (wr (wr G0 45 (tn a1) (((G0 45 (tn a1)) <<< ((1 : Int32) &&& 31)) ||| a2)) 44 (tn a1) ((if 100 ≤ (G0 44 (tn a1)) then (G0 44 (tn a1)) else ((G0 44 (tn a1)) + 1)) : Int32)) 43 (tn a1) 2) 46 (tn a1) 8) 47 (tn a1) (zb 1)) 48 (tn a1) 0) 55 (tn a1) 0) 54 (tn a1) 0)) else (wr (wr G0 45 (tn a1) (((G0 45 (tn a1)) <<< ((1 : Int32) &&& 31)) ||| a2)) 44 (tn a1) ((if 100 ≤ (G0 44 (tn a1)) then (G0 44 (tn a1)) else ((G0 44 (tn a1)) + 1)) : Int32)))) else (if ((if 100 ≤ (G0 44 (tn a1)) then (G0 44 (tn a1)) else ((G0 44 (tn a1)) + 1)) : Int32) = 64 then (if ((sp_M_isWord (wr (wr G0 45 (tn a1) (((G0 45 (tn a1)) <<< ((1 : Int32) &&& 31)) ||| a2)) 44 (tn a1) ((if 100 ≤ (G0 44 (tn a1)) then (G0 44 (tn a1)) else ((G0 44 (tn a1)) + 1)) : Int32)) a1)) = 0 then (sp_M_search (wr (wr G0 45 (tn a1) (((G0 45 (tn a1)) <<< ((1 : Int32) &&& 31)) ||| a2)) 44 (tn a1) ((if 100 ≤ (G0 44 (tn a1)) then (G0 44 (tn a1)) else ((G0 44 (tn a1)) + 1)) : Int32)) a1) else (wr (wr (wr (wr (wr (wr (wr (wr G0 45 (tn a1) (((G0 45 (tn a1)) <<< ((1 : Int32) &&& 31)) ||| a2)) 44 (tn a1) ((if 100 ≤ (G0 44 (tn a1)) then (G0 44 (tn a1)) else ((G0 44 (tn a1)) + 1)) : Int32)) 43 (tn a1) 2) 46 (tn a1) 8) 47 (tn a1) (zb 1)) 48 (tn a1) 0) 55 (tn a1) 0) 54 (tn a1) 0)) else (wr (wr G0 45 (tn a1) (((G0 45 (tn a1)) <<< ((1 : Int32) &&& 31)) ||| a2)) 44 (tn a1) ((if 100 ≤ (G0 44 (tn a1)) then (G0 44 (tn a1)) else ((G0 44 (tn a1)) + 1)) : Int32))))))
set_option maxHeartbeats 4000000 in
set_option maxRecDepth 100000 in
theorem c_M_make (l : Launch) (P : gP) (G0 : Mem)  (a1 : Int32) (a2 : Int32) (he : a1 = 0 ∨ a1 = 1) : gMv l y_M_make b_M_make 3 none ({ frames := 4, cells := 0, slots := 0, locals := 92 }) [.ref (gad P 21), .int a1, .int a2] P G0 (sp_M_make G0 a1 a2) := by
  refine Met.ofW (cc := b_M_make) (maxL := 3) (ret := none) (by decide) rfl ?_
  intro p e s m args below meth c0 s₁ B hml hv
  obtain ⟨rfl, hpre⟩ := hv
  obtain ⟨E, hH⟩ := gE_of B hml hpre
  replace E : gE p s m _ meth c0 P "FramedLineModel" b_M_make 3 none := E
  have hx := E.1
  have hb := E.2.1
  have hl := lv_entry ([.ref (gad P 21), .int a1, .int a2]) (n := 3) (Nat.le_of_ble_eq_true rfl)
  rw [lg_entry_eq]
  generalize (lg_sl ([.ref (gad P 21), .int a1, .int a2]) ++ List.replicate (3 - (lg_sl ([.ref (gad P 21), .int a1, .int a2])).length) Slot.unset).toArray = ls at hl ⊢
  replace hl : lv_has ls 3 [(0, .ref (gad P 21)), (1, .int a1), (2, .int a2)] := hl
  have hsp : sp_M_make G0 a1 a2 = sp_M_make G0 a1 a2 := rfl
  refine lv_aload_n hx hb d_M_make_0 rfl (lv_at hl 0 rfl) ?_
  refine g_get E hH (gc_M rfl) cl_M 25 (by decide) lf_M_80 rfl d_M_make_1 ?_
  refine lv_iload_n hx hb d_M_make_4 rfl (lv_at hl 1 rfl) ?_
  refine lv_aload_n hx hb d_M_make_5 rfl (lv_at hl 0 rfl) ?_
  refine g_get E hH (gc_M rfl) cl_M 25 (by decide) lf_M_80 rfl d_M_make_6 ?_
  refine lv_iload_n hx hb d_M_make_9 rfl (lv_at hl 1 rfl) ?_
  refine g_iaload (k := (tn a1)) (v := (G0 45 (tn a1))) E hH ⟨by decide, fun _ => rfl⟩ (by rcases he with rfl | rfl <;> (unfold vp_in; first | decide | (split <;> decide))) rfl rfl d_M_make_10 ?_
  refine lv_iconst (v := 1) hx hb d_M_make_11 (by decide) ?_
  refine lv_ishl hx hb d_M_make_12 ?_
  refine lv_iload_n hx hb d_M_make_13 rfl (lv_at hl 2 rfl) ?_
  refine lv_ior hx hb d_M_make_14 ?_
  refine g_iastore (k := (tn a1)) E hH ⟨by decide, fun _ => rfl⟩ (by rcases he with rfl | rfl <;> (unfold vp_in; first | decide | (split <;> decide))) rfl d_M_make_15 (fun H locs hH => ?_)
  refine lv_aload_n hx hb d_M_make_16 rfl (lv_at hl 0 rfl) ?_
  refine g_get E hH (gc_M rfl) cl_M 24 (by decide) lf_M_77 rfl d_M_make_17 ?_
  refine lv_iload_n hx hb d_M_make_20 rfl (lv_at hl 1 rfl) ?_
  refine lv_aload_n hx hb d_M_make_21 rfl (lv_at hl 0 rfl) ?_
  refine g_get E hH (gc_M rfl) cl_M 24 (by decide) lf_M_77 rfl d_M_make_22 ?_
  refine lv_iload_n hx hb d_M_make_25 rfl (lv_at hl 1 rfl) ?_
  refine g_iaload (k := (tn a1)) (v := (G0 44 (tn a1))) E hH ⟨by decide, fun _ => rfl⟩ (by rcases he with rfl | rfl <;> (unfold vp_in; first | decide | (split <;> decide))) rfl (wr_ck _ _ _ _ (by decide)) d_M_make_26 ?_
  refine lv_bipush (v := 100) hx hb d_M_make_27 (by decide) ?_
  refine jn (α := Int32) (fun z H1 locs1 => z = ((if 100 ≤ (G0 44 (tn a1)) then (G0 44 (tn a1)) else ((G0 44 (tn a1)) + 1)) : Int32) ∧ gH P s (wr G0 45 (tn a1) (((G0 45 (tn a1)) <<< ((1 : Int32) &&& 31)) ||| a2)) H1 locs1) (fun z => F0 m 49 ls (.int z :: .int a1 :: .ref (gad P 44) :: [])) (fun z H locs h9 => ?_) (fun hJ => ?_)
  · obtain ⟨rfl, hH⟩ := h9
    refine g_iastore (k := (tn a1)) E hH ⟨by decide, fun _ => rfl⟩ (by rcases he with rfl | rfl <;> (unfold vp_in; first | decide | (split <;> decide))) rfl d_M_make_49 (fun H locs hH => ?_)
    refine lv_aload_n hx hb d_M_make_50 rfl (lv_at hl 0 rfl) ?_
    refine g_get E hH (gc_M rfl) cl_M 23 (by decide) lf_M_74 rfl d_M_make_51 ?_
    refine lv_iload_n hx hb d_M_make_54 rfl (lv_at hl 1 rfl) ?_
    refine g_iaload (k := (tn a1)) (v := (G0 43 (tn a1))) E hH ⟨by decide, fun _ => rfl⟩ (by rcases he with rfl | rfl <;> (unfold vp_in; first | decide | (split <;> decide))) rfl ((wr_ck _ _ _ _ (by decide)).trans (wr_ck _ _ _ _ (by decide))) d_M_make_55 ?_
    refine lv_iconst (v := 2) hx hb d_M_make_56 (by decide) ?_
    refine lv_icmp_ne (tgt := 68) hx hb d_M_make_57 (by decide) (fun h1 => ?_) (fun h1 => ?_)
    · refine lv_aload_n hx hb d_M_make_68 rfl (lv_at hl 0 rfl) ?_
      refine g_get E hH (gc_M rfl) cl_M 23 (by decide) lf_M_74 rfl d_M_make_69 ?_
      refine lv_iload_n hx hb d_M_make_72 rfl (lv_at hl 1 rfl) ?_
      refine g_iaload (k := (tn a1)) (v := (G0 43 (tn a1))) E hH ⟨by decide, fun _ => rfl⟩ (by rcases he with rfl | rfl <;> (unfold vp_in; first | decide | (split <;> decide))) rfl ((wr_ck _ _ _ _ (by decide)).trans (wr_ck _ _ _ _ (by decide))) d_M_make_73 ?_
      refine lv_if_ne (tgt := 113) hx hb d_M_make_74 (by decide) (fun h2 => ?_) (fun h2 => ?_)
      · refine lv_aload_n hx hb d_M_make_113 rfl (lv_at hl 0 rfl) ?_
        refine g_get E hH (gc_M rfl) cl_M 24 (by decide) lf_M_77 rfl d_M_make_114 ?_
        refine lv_iload_n hx hb d_M_make_117 rfl (lv_at hl 1 rfl) ?_
        refine g_iaload (k := (tn a1)) (v := ((if 100 ≤ (G0 44 (tn a1)) then (G0 44 (tn a1)) else ((G0 44 (tn a1)) + 1)) : Int32)) E hH ⟨by decide, fun _ => rfl⟩ (by rcases he with rfl | rfl <;> (unfold vp_in; first | decide | (split <;> decide))) rfl (wr_same _ _ _ _) d_M_make_118 ?_
        refine lv_bipush (v := 26) hx hb d_M_make_119 (by decide) ?_
        refine lv_icmp_ne (tgt := 128) hx hb d_M_make_121 (by decide) (fun h3 => ?_) (fun h3 => ?_)
        · refine lv_aload_n hx hb d_M_make_128 rfl (lv_at hl 0 rfl) ?_
          refine g_get E hH (gc_M rfl) cl_M 24 (by decide) lf_M_77 rfl d_M_make_129 ?_
          refine lv_iload_n hx hb d_M_make_132 rfl (lv_at hl 1 rfl) ?_
          refine g_iaload (k := (tn a1)) (v := ((if 100 ≤ (G0 44 (tn a1)) then (G0 44 (tn a1)) else ((G0 44 (tn a1)) + 1)) : Int32)) E hH ⟨by decide, fun _ => rfl⟩ (by rcases he with rfl | rfl <;> (unfold vp_in; first | decide | (split <;> decide))) rfl (wr_same _ _ _ _) d_M_make_133 ?_
          refine lv_bipush (v := 64) hx hb d_M_make_134 (by decide) ?_
          refine lv_icmp_ne (tgt := 155) hx hb d_M_make_136 (by decide) (fun h4 => ?_) (fun h4 => ?_)
          · refine lv_aload_n hx hb d_M_make_155 rfl (lv_at hl 0 rfl) ?_
            refine g_get E hH (gc_M rfl) cl_M 24 (by decide) lf_M_77 rfl d_M_make_156 ?_
            refine lv_iload_n hx hb d_M_make_159 rfl (lv_at hl 1 rfl) ?_
            refine g_iaload (k := (tn a1)) (v := ((if 100 ≤ (G0 44 (tn a1)) then (G0 44 (tn a1)) else ((G0 44 (tn a1)) + 1)) : Int32)) E hH ⟨by decide, fun _ => rfl⟩ (by rcases he with rfl | rfl <;> (unfold vp_in; first | decide | (split <;> decide))) rfl (wr_same _ _ _ _) d_M_make_160 ?_
            refine lv_bipush (v := 64) hx hb d_M_make_161 (by decide) ?_
            refine lv_icmp_ne (tgt := 209) hx hb d_M_make_163 (by decide) (fun _ => ?_) (fun h0 => absurd h0 h4)
            exact g_vret E hH (hsp.trans (by simp only [sp_M_make, if_neg h1, if_neg h2, if_neg h3, if_neg h4])) d_M_make_209
          · refine lv_aload_n hx hb d_M_make_139 rfl (lv_at hl 0 rfl) ?_
            refine lv_iload_n hx hb d_M_make_140 rfl (lv_at hl 1 rfl) ?_
            refine g_callVrz (As := [.int _]) E hH hl (c_M_isWord l P _ _ he) lm_M_179 (gc_M rfl) cl_M (Nat.le_of_ble_eq_true rfl) (Nat.le_of_ble_eq_true rfl) (Nat.le_of_ble_eq_true rfl) (Nat.le_of_ble_eq_true rfl) (Nat.le_of_ble_eq_true rfl) rfl rfl rfl rfl d_M_make_141 (fun H locs hH hz141 => ?_)
            refine lv_if_ne (tgt := 155) hx hb d_M_make_144 (by decide) (fun h5 => ?_) (fun h5 => ?_)
            · refine lv_aload_n hx hb d_M_make_155 rfl (lv_at hl 0 rfl) ?_
              refine g_get E hH (gc_M rfl) cl_M 24 (by decide) lf_M_77 rfl d_M_make_156 ?_
              refine lv_iload_n hx hb d_M_make_159 rfl (lv_at hl 1 rfl) ?_
              refine g_iaload (k := (tn a1)) (v := ((if 100 ≤ (G0 44 (tn a1)) then (G0 44 (tn a1)) else ((G0 44 (tn a1)) + 1)) : Int32)) E hH ⟨by decide, fun _ => rfl⟩ (by rcases he with rfl | rfl <;> (unfold vp_in; first | decide | (split <;> decide))) rfl (wr_same _ _ _ _) d_M_make_160 ?_
              refine lv_bipush (v := 64) hx hb d_M_make_161 (by decide) ?_
              refine lv_icmp_ne (tgt := 209) hx hb d_M_make_163 (by decide) (fun h0 => absurd h4 h0) (fun _ => ?_)
              refine lv_aload_n hx hb d_M_make_166 rfl (lv_at hl 0 rfl) ?_
              refine g_get E hH (gc_M rfl) cl_M 23 (by decide) lf_M_74 rfl d_M_make_167 ?_
              refine lv_iload_n hx hb d_M_make_170 rfl (lv_at hl 1 rfl) ?_
              refine lv_iconst (v := 2) hx hb d_M_make_171 (by decide) ?_
              refine g_iastore (k := (tn a1)) E hH ⟨by decide, fun _ => rfl⟩ (by rcases he with rfl | rfl <;> (unfold vp_in; first | decide | (split <;> decide))) rfl d_M_make_172 (fun H locs hH => ?_)
              refine lv_aload_n hx hb d_M_make_173 rfl (lv_at hl 0 rfl) ?_
              refine g_get E hH (gc_M rfl) cl_M 26 (by decide) lf_M_83 rfl d_M_make_174 ?_
              refine lv_iload_n hx hb d_M_make_177 rfl (lv_at hl 1 rfl) ?_
              refine lv_bipush (v := 8) hx hb d_M_make_178 (by decide) ?_
              refine g_iastore (k := (tn a1)) E hH ⟨by decide, fun _ => rfl⟩ (by rcases he with rfl | rfl <;> (unfold vp_in; first | decide | (split <;> decide))) rfl d_M_make_180 (fun H locs hH => ?_)
              refine lv_aload_n hx hb d_M_make_181 rfl (lv_at hl 0 rfl) ?_
              refine g_get E hH (gc_M rfl) cl_M 27 (by decide) lf_M_86 rfl d_M_make_182 ?_
              refine lv_iload_n hx hb d_M_make_185 rfl (lv_at hl 1 rfl) ?_
              refine lv_iconst (v := 1) hx hb d_M_make_186 (by decide) ?_
              refine g_bastore (k := (tn a1)) E hH ⟨by decide, fun _ => rfl⟩ (by rcases he with rfl | rfl <;> (unfold vp_in; first | decide | (split <;> decide))) rfl d_M_make_187 (fun H locs hH => ?_)
              refine lv_aload_n hx hb d_M_make_188 rfl (lv_at hl 0 rfl) ?_
              refine g_get E hH (gc_M rfl) cl_M 28 (by decide) lf_M_89 rfl d_M_make_189 ?_
              refine lv_iload_n hx hb d_M_make_192 rfl (lv_at hl 1 rfl) ?_
              refine lv_iconst (v := 0) hx hb d_M_make_193 (by decide) ?_
              refine g_iastore (k := (tn a1)) E hH ⟨by decide, fun _ => rfl⟩ (by rcases he with rfl | rfl <;> (unfold vp_in; first | decide | (split <;> decide))) rfl d_M_make_194 (fun H locs hH => ?_)
              refine lv_aload_n hx hb d_M_make_195 rfl (lv_at hl 0 rfl) ?_
              refine g_get E hH (gc_M rfl) cl_M 35 (by decide) lf_M_110 rfl d_M_make_196 ?_
              refine lv_iload_n hx hb d_M_make_199 rfl (lv_at hl 1 rfl) ?_
              refine lv_iconst (v := 0) hx hb d_M_make_200 (by decide) ?_
              refine g_iastore (k := (tn a1)) E hH ⟨by decide, fun _ => rfl⟩ (by rcases he with rfl | rfl <;> (unfold vp_in; first | decide | (split <;> decide))) rfl d_M_make_201 (fun H locs hH => ?_)
              refine lv_aload_n hx hb d_M_make_202 rfl (lv_at hl 0 rfl) ?_
              refine g_get E hH (gc_M rfl) cl_M 34 (by decide) lf_M_107 rfl d_M_make_203 ?_
              refine lv_iload_n hx hb d_M_make_206 rfl (lv_at hl 1 rfl) ?_
              refine lv_iconst (v := 0) hx hb d_M_make_207 (by decide) ?_
              refine g_iastore (k := (tn a1)) E hH ⟨by decide, fun _ => rfl⟩ (by rcases he with rfl | rfl <;> (unfold vp_in; first | decide | (split <;> decide))) rfl d_M_make_208 (fun H locs hH => ?_)
              exact g_vret E hH (hsp.trans (by simp only [sp_M_make, if_neg h1, if_neg h2, if_neg h3, if_pos h4, if_neg h5])) d_M_make_209
            · refine lv_aload_n hx hb d_M_make_147 rfl (lv_at hl 0 rfl) ?_
              refine lv_iload_n hx hb d_M_make_148 rfl (lv_at hl 1 rfl) ?_
              refine g_callVv (As := [.int _]) E hH hl (c_M_search l P _ _ he) lm_M_183 (gc_M rfl) cl_M (Nat.le_of_ble_eq_true rfl) (Nat.le_of_ble_eq_true rfl) (Nat.le_of_ble_eq_true rfl) (Nat.le_of_ble_eq_true rfl) (Nat.le_of_ble_eq_true rfl) rfl rfl rfl rfl d_M_make_149 (fun H locs hH => ?_)
              refine lv_goto (tgt := 209) hx hb d_M_make_152 (by decide) ?_
              exact g_vret E hH (hsp.trans (by simp only [sp_M_make, if_neg h1, if_neg h2, if_neg h3, if_pos h4, if_pos h5])) d_M_make_209
        · refine lv_iload_n hx hb d_M_make_124 rfl (lv_at hl 2 rfl) ?_
          refine lv_if_eq (tgt := 147) hx hb d_M_make_125 (by decide) (fun h6 => ?_) (fun h6 => ?_)
          · refine lv_aload_n hx hb d_M_make_147 rfl (lv_at hl 0 rfl) ?_
            refine lv_iload_n hx hb d_M_make_148 rfl (lv_at hl 1 rfl) ?_
            refine g_callVv (As := [.int _]) E hH hl (c_M_search l P _ _ he) lm_M_183 (gc_M rfl) cl_M (Nat.le_of_ble_eq_true rfl) (Nat.le_of_ble_eq_true rfl) (Nat.le_of_ble_eq_true rfl) (Nat.le_of_ble_eq_true rfl) (Nat.le_of_ble_eq_true rfl) rfl rfl rfl rfl d_M_make_149 (fun H locs hH => ?_)
            refine lv_goto (tgt := 209) hx hb d_M_make_152 (by decide) ?_
            exact g_vret E hH (hsp.trans (by simp only [sp_M_make, if_neg h1, if_neg h2, if_pos h3, if_pos h6])) d_M_make_209
          · refine lv_aload_n hx hb d_M_make_128 rfl (lv_at hl 0 rfl) ?_
            refine g_get E hH (gc_M rfl) cl_M 24 (by decide) lf_M_77 rfl d_M_make_129 ?_
            refine lv_iload_n hx hb d_M_make_132 rfl (lv_at hl 1 rfl) ?_
            refine g_iaload (k := (tn a1)) (v := ((if 100 ≤ (G0 44 (tn a1)) then (G0 44 (tn a1)) else ((G0 44 (tn a1)) + 1)) : Int32)) E hH ⟨by decide, fun _ => rfl⟩ (by rcases he with rfl | rfl <;> (unfold vp_in; first | decide | (split <;> decide))) rfl (wr_same _ _ _ _) d_M_make_133 ?_
            refine lv_bipush (v := 64) hx hb d_M_make_134 (by decide) ?_
            refine lv_icmp_ne (tgt := 155) hx hb d_M_make_136 (by decide) (fun h7 => ?_) (fun h7 => ?_)
            · refine lv_aload_n hx hb d_M_make_155 rfl (lv_at hl 0 rfl) ?_
              refine g_get E hH (gc_M rfl) cl_M 24 (by decide) lf_M_77 rfl d_M_make_156 ?_
              refine lv_iload_n hx hb d_M_make_159 rfl (lv_at hl 1 rfl) ?_
              refine g_iaload (k := (tn a1)) (v := ((if 100 ≤ (G0 44 (tn a1)) then (G0 44 (tn a1)) else ((G0 44 (tn a1)) + 1)) : Int32)) E hH ⟨by decide, fun _ => rfl⟩ (by rcases he with rfl | rfl <;> (unfold vp_in; first | decide | (split <;> decide))) rfl (wr_same _ _ _ _) d_M_make_160 ?_
              refine lv_bipush (v := 64) hx hb d_M_make_161 (by decide) ?_
              refine lv_icmp_ne (tgt := 209) hx hb d_M_make_163 (by decide) (fun _ => ?_) (fun h0 => absurd h0 h7)
              exact g_vret E hH (hsp.trans (by simp only [sp_M_make, if_neg h1, if_neg h2, if_pos h3, if_neg h6, if_neg h7])) d_M_make_209
            · refine lv_aload_n hx hb d_M_make_139 rfl (lv_at hl 0 rfl) ?_
              refine lv_iload_n hx hb d_M_make_140 rfl (lv_at hl 1 rfl) ?_
              refine g_callVrz (As := [.int _]) E hH hl (c_M_isWord l P _ _ he) lm_M_179 (gc_M rfl) cl_M (Nat.le_of_ble_eq_true rfl) (Nat.le_of_ble_eq_true rfl) (Nat.le_of_ble_eq_true rfl) (Nat.le_of_ble_eq_true rfl) (Nat.le_of_ble_eq_true rfl) rfl rfl rfl rfl d_M_make_141 (fun H locs hH hz141 => ?_)
              refine lv_if_ne (tgt := 155) hx hb d_M_make_144 (by decide) (fun h8 => ?_) (fun h8 => ?_)
              · refine lv_aload_n hx hb d_M_make_155 rfl (lv_at hl 0 rfl) ?_
                refine g_get E hH (gc_M rfl) cl_M 24 (by decide) lf_M_77 rfl d_M_make_156 ?_
                refine lv_iload_n hx hb d_M_make_159 rfl (lv_at hl 1 rfl) ?_
                refine g_iaload (k := (tn a1)) (v := ((if 100 ≤ (G0 44 (tn a1)) then (G0 44 (tn a1)) else ((G0 44 (tn a1)) + 1)) : Int32)) E hH ⟨by decide, fun _ => rfl⟩ (by rcases he with rfl | rfl <;> (unfold vp_in; first | decide | (split <;> decide))) rfl (wr_same _ _ _ _) d_M_make_160 ?_
                refine lv_bipush (v := 64) hx hb d_M_make_161 (by decide) ?_
                refine lv_icmp_ne (tgt := 209) hx hb d_M_make_163 (by decide) (fun h0 => absurd h7 h0) (fun _ => ?_)
                refine lv_aload_n hx hb d_M_make_166 rfl (lv_at hl 0 rfl) ?_
                refine g_get E hH (gc_M rfl) cl_M 23 (by decide) lf_M_74 rfl d_M_make_167 ?_
                refine lv_iload_n hx hb d_M_make_170 rfl (lv_at hl 1 rfl) ?_
                refine lv_iconst (v := 2) hx hb d_M_make_171 (by decide) ?_
                refine g_iastore (k := (tn a1)) E hH ⟨by decide, fun _ => rfl⟩ (by rcases he with rfl | rfl <;> (unfold vp_in; first | decide | (split <;> decide))) rfl d_M_make_172 (fun H locs hH => ?_)
                refine lv_aload_n hx hb d_M_make_173 rfl (lv_at hl 0 rfl) ?_
                refine g_get E hH (gc_M rfl) cl_M 26 (by decide) lf_M_83 rfl d_M_make_174 ?_
                refine lv_iload_n hx hb d_M_make_177 rfl (lv_at hl 1 rfl) ?_
                refine lv_bipush (v := 8) hx hb d_M_make_178 (by decide) ?_
                refine g_iastore (k := (tn a1)) E hH ⟨by decide, fun _ => rfl⟩ (by rcases he with rfl | rfl <;> (unfold vp_in; first | decide | (split <;> decide))) rfl d_M_make_180 (fun H locs hH => ?_)
                refine lv_aload_n hx hb d_M_make_181 rfl (lv_at hl 0 rfl) ?_
                refine g_get E hH (gc_M rfl) cl_M 27 (by decide) lf_M_86 rfl d_M_make_182 ?_
                refine lv_iload_n hx hb d_M_make_185 rfl (lv_at hl 1 rfl) ?_
                refine lv_iconst (v := 1) hx hb d_M_make_186 (by decide) ?_
                refine g_bastore (k := (tn a1)) E hH ⟨by decide, fun _ => rfl⟩ (by rcases he with rfl | rfl <;> (unfold vp_in; first | decide | (split <;> decide))) rfl d_M_make_187 (fun H locs hH => ?_)
                refine lv_aload_n hx hb d_M_make_188 rfl (lv_at hl 0 rfl) ?_
                refine g_get E hH (gc_M rfl) cl_M 28 (by decide) lf_M_89 rfl d_M_make_189 ?_
                refine lv_iload_n hx hb d_M_make_192 rfl (lv_at hl 1 rfl) ?_
                refine lv_iconst (v := 0) hx hb d_M_make_193 (by decide) ?_
                refine g_iastore (k := (tn a1)) E hH ⟨by decide, fun _ => rfl⟩ (by rcases he with rfl | rfl <;> (unfold vp_in; first | decide | (split <;> decide))) rfl d_M_make_194 (fun H locs hH => ?_)
                refine lv_aload_n hx hb d_M_make_195 rfl (lv_at hl 0 rfl) ?_
                refine g_get E hH (gc_M rfl) cl_M 35 (by decide) lf_M_110 rfl d_M_make_196 ?_
                refine lv_iload_n hx hb d_M_make_199 rfl (lv_at hl 1 rfl) ?_
                refine lv_iconst (v := 0) hx hb d_M_make_200 (by decide) ?_
                refine g_iastore (k := (tn a1)) E hH ⟨by decide, fun _ => rfl⟩ (by rcases he with rfl | rfl <;> (unfold vp_in; first | decide | (split <;> decide))) rfl d_M_make_201 (fun H locs hH => ?_)
                refine lv_aload_n hx hb d_M_make_202 rfl (lv_at hl 0 rfl) ?_
                refine g_get E hH (gc_M rfl) cl_M 34 (by decide) lf_M_107 rfl d_M_make_203 ?_
                refine lv_iload_n hx hb d_M_make_206 rfl (lv_at hl 1 rfl) ?_
                refine lv_iconst (v := 0) hx hb d_M_make_207 (by decide) ?_
                refine g_iastore (k := (tn a1)) E hH ⟨by decide, fun _ => rfl⟩ (by rcases he with rfl | rfl <;> (unfold vp_in; first | decide | (split <;> decide))) rfl d_M_make_208 (fun H locs hH => ?_)
                exact g_vret E hH (hsp.trans (by simp only [sp_M_make, if_neg h1, if_neg h2, if_pos h3, if_neg h6, if_pos h7, if_neg h8])) d_M_make_209
              · refine lv_aload_n hx hb d_M_make_147 rfl (lv_at hl 0 rfl) ?_
                refine lv_iload_n hx hb d_M_make_148 rfl (lv_at hl 1 rfl) ?_
                refine g_callVv (As := [.int _]) E hH hl (c_M_search l P _ _ he) lm_M_183 (gc_M rfl) cl_M (Nat.le_of_ble_eq_true rfl) (Nat.le_of_ble_eq_true rfl) (Nat.le_of_ble_eq_true rfl) (Nat.le_of_ble_eq_true rfl) (Nat.le_of_ble_eq_true rfl) rfl rfl rfl rfl d_M_make_149 (fun H locs hH => ?_)
                refine lv_goto (tgt := 209) hx hb d_M_make_152 (by decide) ?_
                exact g_vret E hH (hsp.trans (by simp only [sp_M_make, if_neg h1, if_neg h2, if_pos h3, if_neg h6, if_pos h7, if_pos h8])) d_M_make_209
      · refine lv_aload_n hx hb d_M_make_77 rfl (lv_at hl 0 rfl) ?_
        refine g_get E hH (gc_M rfl) cl_M 24 (by decide) lf_M_77 rfl d_M_make_78 ?_
        refine lv_iload_n hx hb d_M_make_81 rfl (lv_at hl 1 rfl) ?_
        refine g_iaload (k := (tn a1)) (v := ((if 100 ≤ (G0 44 (tn a1)) then (G0 44 (tn a1)) else ((G0 44 (tn a1)) + 1)) : Int32)) E hH ⟨by decide, fun _ => rfl⟩ (by rcases he with rfl | rfl <;> (unfold vp_in; first | decide | (split <;> decide))) rfl (wr_same _ _ _ _) d_M_make_82 ?_
        refine lv_bipush (v := 7) hx hb d_M_make_83 (by decide) ?_
        refine lv_icmp_lt (tgt := 209) hx hb d_M_make_85 (by decide) (fun h9 => ?_) (fun h9 => ?_)
        · exact g_vret E hH (hsp.trans (by simp only [sp_M_make, if_neg h1, if_pos h2, if_pos h9])) d_M_make_209
        · refine lv_aload_n hx hb d_M_make_88 rfl (lv_at hl 0 rfl) ?_
          refine lv_iload_n hx hb d_M_make_89 rfl (lv_at hl 1 rfl) ?_
          refine g_callVrz (As := [.int _]) E hH hl (c_M_isWord l P _ _ he) lm_M_179 (gc_M rfl) cl_M (Nat.le_of_ble_eq_true rfl) (Nat.le_of_ble_eq_true rfl) (Nat.le_of_ble_eq_true rfl) (Nat.le_of_ble_eq_true rfl) (Nat.le_of_ble_eq_true rfl) rfl rfl rfl rfl d_M_make_90 (fun H locs hH hz90 => ?_)
          refine lv_if_eq (tgt := 209) hx hb d_M_make_93 (by decide) (fun h10 => ?_) (fun h10 => ?_)
          · exact g_vret E hH (hsp.trans (by simp only [sp_M_make, if_neg h1, if_pos h2, if_neg h9, if_pos h10])) d_M_make_209
          · refine lv_aload_n hx hb d_M_make_96 rfl (lv_at hl 0 rfl) ?_
            refine g_get E hH (gc_M rfl) cl_M 23 (by decide) lf_M_74 rfl d_M_make_97 ?_
            refine lv_iload_n hx hb d_M_make_100 rfl (lv_at hl 1 rfl) ?_
            refine lv_iconst (v := 1) hx hb d_M_make_101 (by decide) ?_
            refine g_iastore (k := (tn a1)) E hH ⟨by decide, fun _ => rfl⟩ (by rcases he with rfl | rfl <;> (unfold vp_in; first | decide | (split <;> decide))) rfl d_M_make_102 (fun H locs hH => ?_)
            refine lv_aload_n hx hb d_M_make_103 rfl (lv_at hl 0 rfl) ?_
            refine g_get E hH (gc_M rfl) cl_M 24 (by decide) lf_M_77 rfl d_M_make_104 ?_
            refine lv_iload_n hx hb d_M_make_107 rfl (lv_at hl 1 rfl) ?_
            refine lv_iconst (v := 0) hx hb d_M_make_108 (by decide) ?_
            refine g_iastore (k := (tn a1)) E hH ⟨by decide, fun _ => rfl⟩ (by rcases he with rfl | rfl <;> (unfold vp_in; first | decide | (split <;> decide))) rfl d_M_make_109 (fun H locs hH => ?_)
            refine lv_goto (tgt := 209) hx hb d_M_make_110 (by decide) ?_
            exact g_vret E hH (hsp.trans (by simp only [sp_M_make, if_neg h1, if_pos h2, if_neg h9, if_neg h10])) d_M_make_209
    · refine lv_aload_n hx hb d_M_make_60 rfl (lv_at hl 0 rfl) ?_
      refine lv_iload_n hx hb d_M_make_61 rfl (lv_at hl 1 rfl) ?_
      refine g_callVv (As := [.int _]) E hH hl (c_M_frameBit l P _ _ he) lm_M_176 (gc_M rfl) cl_M (Nat.le_of_ble_eq_true rfl) (Nat.le_of_ble_eq_true rfl) (Nat.le_of_ble_eq_true rfl) (Nat.le_of_ble_eq_true rfl) (Nat.le_of_ble_eq_true rfl) rfl rfl rfl rfl d_M_make_62 (fun H locs hH => ?_)
      refine lv_goto (tgt := 209) hx hb d_M_make_65 (by decide) ?_
      exact g_vret E hH (hsp.trans (by simp only [sp_M_make, if_pos h1])) d_M_make_209
  · refine lv_icmp_ge (tgt := 43) hx hb d_M_make_29 (by decide) (fun h11 => ?_) (fun h11 => ?_)
    · refine lv_aload_n hx hb d_M_make_43 rfl (lv_at hl 0 rfl) ?_
      refine g_get E hH (gc_M rfl) cl_M 24 (by decide) lf_M_77 rfl d_M_make_44 ?_
      refine lv_iload_n hx hb d_M_make_47 rfl (lv_at hl 1 rfl) ?_
      refine g_iaload (k := (tn a1)) (v := (G0 44 (tn a1))) E hH ⟨by decide, fun _ => rfl⟩ (by rcases he with rfl | rfl <;> (unfold vp_in; first | decide | (split <;> decide))) rfl (wr_ck _ _ _ _ (by decide)) d_M_make_48 ?_
      exact hJ _ _ _ ⟨by simp only [if_pos h11], hH⟩
    · refine lv_aload_n hx hb d_M_make_32 rfl (lv_at hl 0 rfl) ?_
      refine g_get E hH (gc_M rfl) cl_M 24 (by decide) lf_M_77 rfl d_M_make_33 ?_
      refine lv_iload_n hx hb d_M_make_36 rfl (lv_at hl 1 rfl) ?_
      refine g_iaload (k := (tn a1)) (v := (G0 44 (tn a1))) E hH ⟨by decide, fun _ => rfl⟩ (by rcases he with rfl | rfl <;> (unfold vp_in; first | decide | (split <;> decide))) rfl (wr_ck _ _ _ _ (by decide)) d_M_make_37 ?_
      refine lv_iconst (v := 1) hx hb d_M_make_38 (by decide) ?_
      refine lv_iadd hx hb d_M_make_39 ?_
      refine lv_goto (tgt := 49) hx hb d_M_make_40 (by decide) ?_
      exact hJ _ _ _ ⟨by simp only [if_neg h11], hH⟩
