def sp_M_take_280 (a1 : Int32) (a2 : Int32) (G : Mem) (x5 : Int32) (x6 : Int32) : Mem :=
  (if (G 36 (tn a1)) = 4 then (sp_M_make (wr (wr (wr (wr (wr (wr G 38 (tn ((3 * a1) + 2)) (G 38 (tn (((3 * a1) + 2) - 1)))) 39 (tn ((3 * a1) + 2)) (zb (G 39 (tn (((3 * a1) + 2) - 1))))) 38 (tn ((3 * a1) + 1)) (G 38 (tn (((3 * a1) + 1) - 1)))) 39 (tn ((3 * a1) + 1)) (zb (G 39 (tn (((3 * a1) + 1) - 1))))) 38 (tn (3 * a1)) a2) 39 (tn (3 * a1)) (zb x5)) a1 x6) else (wr (wr (wr (wr (wr (wr G 38 (tn ((3 * a1) + 2)) (G 38 (tn (((3 * a1) + 2) - 1)))) 39 (tn ((3 * a1) + 2)) (zb (G 39 (tn (((3 * a1) + 2) - 1))))) 38 (tn ((3 * a1) + 1)) (G 38 (tn (((3 * a1) + 1) - 1)))) 39 (tn ((3 * a1) + 1)) (zb (G 39 (tn (((3 * a1) + 1) - 1))))) 38 (tn (3 * a1)) a2) 39 (tn (3 * a1)) (zb x5)))
def sp_M_take_212 (a1 : Int32) (a2 : Int32) (G : Mem) (x5 : Int32) : Mem :=
  (sp_M_take_280 a1 a2 (wr (wr G 42 (tn a1) ((G 42 (tn a1)) - (G 42 (tn a1)) / 4 * 4)) 40 (tn a1) ((if a2 = 0 then (G 40 (tn a1)) else a2) : Int32)) x5 ((if (G 38 (tn ((3 * a1) + 2))) = 0 then 0 else (if (G 39 (tn ((3 * a1) + 2))) = 0 then (if x5 = 0 then 1 else 0) else 0)) : Int32))
def sp_M_take_139 (a1 : Int32) (a2 : Int32) (G : Mem) (x5 : Int32) : Mem :=
  (sp_M_take_212 a1 a2 (sp_M_fault (wr (wr G 41 (tn a1) ((if x5 = 0 then (G 41 (tn a1)) else a2) : Int32)) 42 (tn a1) ((if a2 = 0 then (if (G 40 (tn a1)) = 0 then 0 else ((G 42 (tn a1)) + 1)) else 0) : Int32)) a1 ((if ((if a2 = 0 then (if (G 40 (tn a1)) = 0 then 0 else ((G 42 (tn a1)) + 1)) else 0) : Int32) = 4 then 1 else 0) : Int32) 1) x5)
def sp_M_take_92 (a1 : Int32) (a2 : Int32) (G : Mem) (x4 : Int32) (x5 : Int32) : Mem :=
  (sp_M_take_139 a1 a2 (sp_M_fault (sp_M_fault G a1 ((if x4 = 0 then 0 else (if x5 = 0 then 1 else 0)) : Int32) 1) a1 ((if x5 = 0 then 0 else (if ((sp_M_fault G a1 ((if x4 = 0 then 0 else (if x5 = 0 then 1 else 0)) : Int32) 1) 41 (tn a1)) = a2 then 1 else 0)) : Int32) 1) x5)
def sp_M_take  (G0 : Mem) (a1 : Int32) (a2 : Int32) : Mem :=
  (sp_M_take_92 a1 a2 (wr (wr G0 37 (tn a1) a2) 36 (tn a1) ((if 4 ≤ (G0 36 (tn a1)) then 4 else ((G0 36 (tn a1)) + 1)) : Int32)) ((if a2 = 0 then 0 else (if a2 = (G0 40 (tn a1)) then 1 else 0)) : Int32) ((if ((if a2 = 0 then 0 else (if a2 = (G0 40 (tn a1)) then 1 else 0)) : Int32) = 0 then 0 else (if (G0 38 (tn (3 * a1))) = 0 then (if (G0 38 (tn ((3 * a1) + 1))) = 0 then 1 else 0) else 0)) : Int32))
set_option maxHeartbeats 4000000 in
set_option maxRecDepth 100000 in
theorem c_M_take (l : Launch) (P : gP) (G0 : Mem)  (a1 : Int32) (a2 : Int32) (he : a1 = 0 ∨ a1 = 1) : gMv l y_M_take b_M_take 8 none ({ frames := 5, cells := 0, slots := 0, locals := 114 }) [.ref (gad P 21), .int a1, .int a2] P G0 (sp_M_take G0 a1 a2) := by
  refine Met.ofW (cc := b_M_take) (maxL := 8) (ret := none) (by decide) rfl ?_
  intro p e s m args below meth c0 s₁ B hml hv
  obtain ⟨rfl, hpre⟩ := hv
  obtain ⟨E, hH⟩ := gE_of B hml hpre
  replace E : gE p s m _ meth c0 P "FramedLineModel" b_M_take 8 none := E
  have hx := E.1
  have hb := E.2.1
  have hl := lv_entry ([.ref (gad P 21), .int a1, .int a2]) (n := 8) (Nat.le_of_ble_eq_true rfl)
  rw [lg_entry_eq]
  generalize (lg_sl ([.ref (gad P 21), .int a1, .int a2]) ++ List.replicate (8 - (lg_sl ([.ref (gad P 21), .int a1, .int a2])).length) Slot.unset).toArray = ls at hl ⊢
  replace hl : lv_has ls 8 [(0, .ref (gad P 21)), (1, .int a1), (2, .int a2)] := hl
  have hsp : sp_M_take G0 a1 a2 = sp_M_take G0 a1 a2 := rfl
  refine jn (α := Mem × Array Slot × Int32 × Int32) (fun q H1 locs1 => sp_M_take G0 a1 a2 = sp_M_take_280 a1 a2 q.1 q.2.2.1 q.2.2.2 ∧ lv_has q.2.1 8 [(0, .ref (gad P 21)), (1, .int a1), (2, .int a2), (3, .int (3 * a1)), (5, .int q.2.2.1), (6, .int q.2.2.2)] ∧ gH P s q.1 H1 locs1) (fun q => F0 m 280 q.2.1 []) (fun q H locs h9 => ?_) (fun hC280 => ?_)
  · clear hsp hl hH ls
    obtain ⟨G, ls, x5, x6⟩ := q
    obtain ⟨hsp, hl, hH⟩ := h9
    change lv_has ls 8 [(0, .ref (gad P 21)), (1, .int a1), (2, .int a2), (3, .int (3 * a1)), (5, .int x5), (6, .int x6)] at hl
    dsimp only at hsp hH ⊢
    refine lv_iconst (v := 2) hx hb d_M_take_280 (by decide) ?_
    refine lv_istore hx hb d_M_take_281 hl (by decide) rfl (fun ls hl => ?_)
    refine lv_iload hx hb d_M_take_283 (lv_at hl 0 rfl) ?_
    refine lv_if_le (tgt := 334) hx hb d_M_take_285 (by decide) (fun h0 => absurd h0 (by decide)) (fun _ => ?_)
    refine lv_aload_n hx hb d_M_take_288 rfl (lv_at hl 1 rfl) ?_
    refine g_get E hH (gc_M rfl) cl_M 18 (by decide) lf_M_59 rfl d_M_take_289 ?_
    refine lv_iload_n hx hb d_M_take_292 rfl (lv_at hl 4 rfl) ?_
    refine lv_iload hx hb d_M_take_293 (lv_at hl 0 rfl) ?_
    refine lv_iadd hx hb d_M_take_295 ?_
    refine lv_aload_n hx hb d_M_take_296 rfl (lv_at hl 1 rfl) ?_
    refine g_get E hH (gc_M rfl) cl_M 18 (by decide) lf_M_59 rfl d_M_take_297 ?_
    refine lv_iload_n hx hb d_M_take_300 rfl (lv_at hl 4 rfl) ?_
    refine lv_iload hx hb d_M_take_301 (lv_at hl 0 rfl) ?_
    refine lv_iadd hx hb d_M_take_303 ?_
    refine lv_iconst (v := 1) hx hb d_M_take_304 (by decide) ?_
    refine lv_isub hx hb d_M_take_305 ?_
    refine g_iaload (k := (tn (((3 * a1) + 2) - 1))) (v := (G 38 (tn (((3 * a1) + 2) - 1)))) E hH ⟨by decide, fun _ => rfl⟩ (by rcases he with rfl | rfl <;> (unfold vp_in; first | decide | (split <;> decide))) rfl rfl d_M_take_306 ?_
    refine g_iastore (k := (tn ((3 * a1) + 2))) E hH ⟨by decide, fun _ => rfl⟩ (by rcases he with rfl | rfl <;> (unfold vp_in; first | decide | (split <;> decide))) rfl d_M_take_307 (fun H locs hH => ?_)
    refine lv_aload_n hx hb d_M_take_308 rfl (lv_at hl 1 rfl) ?_
    refine g_get E hH (gc_M rfl) cl_M 19 (by decide) lf_M_62 rfl d_M_take_309 ?_
    refine lv_iload_n hx hb d_M_take_312 rfl (lv_at hl 4 rfl) ?_
    refine lv_iload hx hb d_M_take_313 (lv_at hl 0 rfl) ?_
    refine lv_iadd hx hb d_M_take_315 ?_
    refine lv_aload_n hx hb d_M_take_316 rfl (lv_at hl 1 rfl) ?_
    refine g_get E hH (gc_M rfl) cl_M 19 (by decide) lf_M_62 rfl d_M_take_317 ?_
    refine lv_iload_n hx hb d_M_take_320 rfl (lv_at hl 4 rfl) ?_
    refine lv_iload hx hb d_M_take_321 (lv_at hl 0 rfl) ?_
    refine lv_iadd hx hb d_M_take_323 ?_
    refine lv_iconst (v := 1) hx hb d_M_take_324 (by decide) ?_
    refine lv_isub hx hb d_M_take_325 ?_
    refine g_baload (k := (tn (((3 * a1) + 2) - 1))) (v := (G 39 (tn (((3 * a1) + 2) - 1)))) E hH ⟨by decide, fun _ => rfl⟩ (by rcases he with rfl | rfl <;> (unfold vp_in; first | decide | (split <;> decide))) rfl (wr_ck _ _ _ _ (by decide)) d_M_take_326 ?_
    refine g_bastore (k := (tn ((3 * a1) + 2))) E hH ⟨by decide, fun _ => rfl⟩ (by rcases he with rfl | rfl <;> (unfold vp_in; first | decide | (split <;> decide))) rfl d_M_take_327 (fun H locs hH => ?_)
    refine lv_iinc (k := 0) (v := 1) hx hb d_M_take_328 hl rfl (by decide) (by decide) rfl (fun ls hl => ?_)
    refine lv_goto (tgt := 283) hx hb d_M_take_331 (by decide) ?_
    refine lv_iload hx hb d_M_take_283 (lv_at hl 0 rfl) ?_
    refine lv_if_le (tgt := 334) hx hb d_M_take_285 (by decide) (fun h0 => absurd h0 (by decide)) (fun _ => ?_)
    refine lv_aload_n hx hb d_M_take_288 rfl (lv_at hl 1 rfl) ?_
    refine g_get E hH (gc_M rfl) cl_M 18 (by decide) lf_M_59 rfl d_M_take_289 ?_
    refine lv_iload_n hx hb d_M_take_292 rfl (lv_at hl 4 rfl) ?_
    refine lv_iload hx hb d_M_take_293 (lv_at hl 0 rfl) ?_
    refine lv_iadd hx hb d_M_take_295 ?_
    refine lv_aload_n hx hb d_M_take_296 rfl (lv_at hl 1 rfl) ?_
    refine g_get E hH (gc_M rfl) cl_M 18 (by decide) lf_M_59 rfl d_M_take_297 ?_
    refine lv_iload_n hx hb d_M_take_300 rfl (lv_at hl 4 rfl) ?_
    refine lv_iload hx hb d_M_take_301 (lv_at hl 0 rfl) ?_
    refine lv_iadd hx hb d_M_take_303 ?_
    refine lv_iconst (v := 1) hx hb d_M_take_304 (by decide) ?_
    refine lv_isub hx hb d_M_take_305 ?_
    refine g_iaload (k := (tn (((3 * a1) + 1) - 1))) (v := (G 38 (tn (((3 * a1) + 1) - 1)))) E hH ⟨by decide, fun _ => rfl⟩ (by rcases he with rfl | rfl <;> (unfold vp_in; first | decide | (split <;> decide))) rfl ((wr_ck _ _ _ _ (by decide)).trans (wr_k _ _ _ _ (by rcases he with rfl | rfl <;> decide))) d_M_take_306 ?_
    refine g_iastore (k := (tn ((3 * a1) + 1))) E hH ⟨by decide, fun _ => rfl⟩ (by rcases he with rfl | rfl <;> (unfold vp_in; first | decide | (split <;> decide))) rfl d_M_take_307 (fun H locs hH => ?_)
    refine lv_aload_n hx hb d_M_take_308 rfl (lv_at hl 1 rfl) ?_
    refine g_get E hH (gc_M rfl) cl_M 19 (by decide) lf_M_62 rfl d_M_take_309 ?_
    refine lv_iload_n hx hb d_M_take_312 rfl (lv_at hl 4 rfl) ?_
    refine lv_iload hx hb d_M_take_313 (lv_at hl 0 rfl) ?_
    refine lv_iadd hx hb d_M_take_315 ?_
    refine lv_aload_n hx hb d_M_take_316 rfl (lv_at hl 1 rfl) ?_
    refine g_get E hH (gc_M rfl) cl_M 19 (by decide) lf_M_62 rfl d_M_take_317 ?_
    refine lv_iload_n hx hb d_M_take_320 rfl (lv_at hl 4 rfl) ?_
    refine lv_iload hx hb d_M_take_321 (lv_at hl 0 rfl) ?_
    refine lv_iadd hx hb d_M_take_323 ?_
    refine lv_iconst (v := 1) hx hb d_M_take_324 (by decide) ?_
    refine lv_isub hx hb d_M_take_325 ?_
    refine g_baload (k := (tn (((3 * a1) + 1) - 1))) (v := (G 39 (tn (((3 * a1) + 1) - 1)))) E hH ⟨by decide, fun _ => rfl⟩ (by rcases he with rfl | rfl <;> (unfold vp_in; first | decide | (split <;> decide))) rfl ((wr_ck _ _ _ _ (by decide)).trans ((wr_k _ _ _ _ (by rcases he with rfl | rfl <;> decide)).trans (wr_ck _ _ _ _ (by decide)))) d_M_take_326 ?_
    refine g_bastore (k := (tn ((3 * a1) + 1))) E hH ⟨by decide, fun _ => rfl⟩ (by rcases he with rfl | rfl <;> (unfold vp_in; first | decide | (split <;> decide))) rfl d_M_take_327 (fun H locs hH => ?_)
    refine lv_iinc (k := 0) (v := 0) hx hb d_M_take_328 hl rfl (by decide) (by decide) rfl (fun ls hl => ?_)
    refine lv_goto (tgt := 283) hx hb d_M_take_331 (by decide) ?_
    refine lv_iload hx hb d_M_take_283 (lv_at hl 0 rfl) ?_
    refine lv_if_le (tgt := 334) hx hb d_M_take_285 (by decide) (fun _ => ?_) (fun h0 => absurd h0 (by decide))
    refine lv_aload_n hx hb d_M_take_334 rfl (lv_at hl 1 rfl) ?_
    refine g_get E hH (gc_M rfl) cl_M 18 (by decide) lf_M_59 rfl d_M_take_335 ?_
    refine lv_iload_n hx hb d_M_take_338 rfl (lv_at hl 4 rfl) ?_
    refine lv_iload_n hx hb d_M_take_339 rfl (lv_at hl 3 rfl) ?_
    refine g_iastore (k := (tn (3 * a1))) E hH ⟨by decide, fun _ => rfl⟩ (by rcases he with rfl | rfl <;> (unfold vp_in; first | decide | (split <;> decide))) rfl d_M_take_340 (fun H locs hH => ?_)
    refine lv_aload_n hx hb d_M_take_341 rfl (lv_at hl 1 rfl) ?_
    refine g_get E hH (gc_M rfl) cl_M 19 (by decide) lf_M_62 rfl d_M_take_342 ?_
    refine lv_iload_n hx hb d_M_take_345 rfl (lv_at hl 4 rfl) ?_
    refine lv_iload hx hb d_M_take_346 (lv_at hl 5 rfl) ?_
    refine g_bastore (k := (tn (3 * a1))) E hH ⟨by decide, fun _ => rfl⟩ (by rcases he with rfl | rfl <;> (unfold vp_in; first | decide | (split <;> decide))) rfl d_M_take_348 (fun H locs hH => ?_)
    refine lv_aload_n hx hb d_M_take_349 rfl (lv_at hl 1 rfl) ?_
    refine g_get E hH (gc_M rfl) cl_M 16 (by decide) lf_M_53 rfl d_M_take_350 ?_
    refine lv_iload_n hx hb d_M_take_353 rfl (lv_at hl 2 rfl) ?_
    refine g_iaload (k := (tn a1)) (v := (G 36 (tn a1))) E hH ⟨by decide, fun _ => rfl⟩ (by rcases he with rfl | rfl <;> (unfold vp_in; first | decide | (split <;> decide))) rfl ((wr_ck _ _ _ _ (by decide)).trans ((wr_ck _ _ _ _ (by decide)).trans ((wr_ck _ _ _ _ (by decide)).trans ((wr_ck _ _ _ _ (by decide)).trans ((wr_ck _ _ _ _ (by decide)).trans (wr_ck _ _ _ _ (by decide))))))) d_M_take_354 ?_
    refine lv_iconst (v := 4) hx hb d_M_take_355 (by decide) ?_
    refine lv_icmp_ne (tgt := 366) hx hb d_M_take_356 (by decide) (fun h1 => ?_) (fun h1 => ?_)
    · exact g_vret E hH (hsp.trans (by simp only [sp_M_take_280, if_neg h1])) d_M_take_366
    · refine lv_aload_n hx hb d_M_take_359 rfl (lv_at hl 1 rfl) ?_
      refine lv_iload_n hx hb d_M_take_360 rfl (lv_at hl 2 rfl) ?_
      refine lv_iload hx hb d_M_take_361 (lv_at hl 6 rfl) ?_
      refine g_callVv (As := [.int _, .int _]) E hH hl (c_M_make l P _ _ _ he) lm_M_169 (gc_M rfl) cl_M (Nat.le_of_ble_eq_true rfl) (Nat.le_of_ble_eq_true rfl) (Nat.le_of_ble_eq_true rfl) (Nat.le_of_ble_eq_true rfl) (Nat.le_of_ble_eq_true rfl) rfl rfl rfl rfl d_M_take_363 (fun H locs hH => ?_)
      exact g_vret E hH (hsp.trans (by simp only [sp_M_take_280, if_pos h1])) d_M_take_366
  refine jn (α := Mem × Array Slot × Int32) (fun q H1 locs1 => sp_M_take G0 a1 a2 = sp_M_take_212 a1 a2 q.1 q.2.2 ∧ lv_has q.2.1 8 [(0, .ref (gad P 21)), (1, .int a1), (2, .int a2), (3, .int (3 * a1)), (5, .int q.2.2)] ∧ gH P s q.1 H1 locs1) (fun q => F0 m 212 q.2.1 []) (fun q H locs h9 => ?_) (fun hC212 => ?_)
  · clear hsp hl hH ls
    obtain ⟨G, ls, x5⟩ := q
    obtain ⟨hsp, hl, hH⟩ := h9
    change lv_has ls 8 [(0, .ref (gad P 21)), (1, .int a1), (2, .int a2), (3, .int (3 * a1)), (5, .int x5)] at hl
    dsimp only at hsp hH ⊢
    refine lv_aload_n hx hb d_M_take_212 rfl (lv_at hl 0 rfl) ?_
    refine g_get E hH (gc_M rfl) cl_M 22 (by decide) lf_M_71 rfl d_M_take_213 ?_
    refine lv_iload_n hx hb d_M_take_216 rfl (lv_at hl 1 rfl) ?_
    refine lv_aload_n hx hb d_M_take_217 rfl (lv_at hl 0 rfl) ?_
    refine g_get E hH (gc_M rfl) cl_M 22 (by decide) lf_M_71 rfl d_M_take_218 ?_
    refine lv_iload_n hx hb d_M_take_221 rfl (lv_at hl 1 rfl) ?_
    refine g_iaload (k := (tn a1)) (v := (G 42 (tn a1))) E hH ⟨by decide, fun _ => rfl⟩ (by rcases he with rfl | rfl <;> (unfold vp_in; first | decide | (split <;> decide))) rfl rfl d_M_take_222 ?_
    refine lv_iconst (v := 4) hx hb d_M_take_223 (by decide) ?_
    refine lv_irem hx hb d_M_take_224 (by decide) ?_
    refine g_iastore (k := (tn a1)) E hH ⟨by decide, fun _ => rfl⟩ (by rcases he with rfl | rfl <;> (unfold vp_in; first | decide | (split <;> decide))) rfl d_M_take_225 (fun H locs hH => ?_)
    refine lv_aload_n hx hb d_M_take_226 rfl (lv_at hl 0 rfl) ?_
    refine g_get E hH (gc_M rfl) cl_M 20 (by decide) lf_M_65 rfl d_M_take_227 ?_
    refine lv_iload_n hx hb d_M_take_230 rfl (lv_at hl 1 rfl) ?_
    refine lv_iload_n hx hb d_M_take_231 rfl (lv_at hl 2 rfl) ?_
    refine jn (α := Int32) (fun z H1 locs1 => z = ((if a2 = 0 then (G 40 (tn a1)) else a2) : Int32) ∧ gH P s (wr G 42 (tn a1) ((G 42 (tn a1)) - (G 42 (tn a1)) / 4 * 4)) H1 locs1) (fun z => F0 m 245 ls (.int z :: .int a1 :: .ref (gad P 40) :: [])) (fun z H locs h9 => ?_) (fun hJ => ?_)
    · obtain ⟨rfl, hH⟩ := h9
      refine g_iastore (k := (tn a1)) E hH ⟨by decide, fun _ => rfl⟩ (by rcases he with rfl | rfl <;> (unfold vp_in; first | decide | (split <;> decide))) rfl d_M_take_245 (fun H locs hH => ?_)
      refine lv_aload_n hx hb d_M_take_246 rfl (lv_at hl 0 rfl) ?_
      refine g_get E hH (gc_M rfl) cl_M 18 (by decide) lf_M_59 rfl d_M_take_247 ?_
      refine lv_iload_n hx hb d_M_take_250 rfl (lv_at hl 3 rfl) ?_
      refine lv_iconst (v := 2) hx hb d_M_take_251 (by decide) ?_
      refine lv_iadd hx hb d_M_take_252 ?_
      refine g_iaload (k := (tn ((3 * a1) + 2))) (v := (G 38 (tn ((3 * a1) + 2)))) E hH ⟨by decide, fun _ => rfl⟩ (by rcases he with rfl | rfl <;> (unfold vp_in; first | decide | (split <;> decide))) rfl ((wr_ck _ _ _ _ (by decide)).trans (wr_ck _ _ _ _ (by decide))) d_M_take_253 ?_
      refine jn (α := Int32) (fun z H1 locs1 => z = ((if (G 38 (tn ((3 * a1) + 2))) = 0 then 0 else (if (G 39 (tn ((3 * a1) + 2))) = 0 then (if x5 = 0 then 1 else 0) else 0)) : Int32) ∧ isB z ∧ gH P s (wr (wr G 42 (tn a1) ((G 42 (tn a1)) - (G 42 (tn a1)) / 4 * 4)) 40 (tn a1) ((if a2 = 0 then (G 40 (tn a1)) else a2) : Int32)) H1 locs1) (fun z => F0 m 278 ls (.int z :: [])) (fun z H locs h9 => ?_) (fun hJ => ?_)
      · obtain ⟨rfl, hz278, hH⟩ := h9
        refine lv_istore hx hb d_M_take_278 hl (by decide) rfl (fun ls hl => ?_)
        exact hC280 ((wr (wr G 42 (tn a1) ((G 42 (tn a1)) - (G 42 (tn a1)) / 4 * 4)) 40 (tn a1) ((if a2 = 0 then (G 40 (tn a1)) else a2) : Int32)), _, x5, ((if (G 38 (tn ((3 * a1) + 2))) = 0 then 0 else (if (G 39 (tn ((3 * a1) + 2))) = 0 then (if x5 = 0 then 1 else 0) else 0)) : Int32)) _ _ ⟨hsp.trans (by rw [sp_M_take_212]), lv_sub hl [1, 2, 3, 4, 5, 0] rfl, hH⟩
      · refine lv_if_eq (tgt := 277) hx hb d_M_take_254 (by decide) (fun h2 => ?_) (fun h2 => ?_)
        · refine lv_iconst (v := 0) hx hb d_M_take_277 (by decide) ?_
          exact hJ _ _ _ ⟨Eq.symm (if_pos h2), isB_0, hH⟩
        · refine lv_aload_n hx hb d_M_take_257 rfl (lv_at hl 0 rfl) ?_
          refine g_get E hH (gc_M rfl) cl_M 19 (by decide) lf_M_62 rfl d_M_take_258 ?_
          refine lv_iload_n hx hb d_M_take_261 rfl (lv_at hl 3 rfl) ?_
          refine lv_iconst (v := 2) hx hb d_M_take_262 (by decide) ?_
          refine lv_iadd hx hb d_M_take_263 ?_
          refine g_baload (k := (tn ((3 * a1) + 2))) (v := (G 39 (tn ((3 * a1) + 2)))) E hH ⟨by decide, fun _ => rfl⟩ (by rcases he with rfl | rfl <;> (unfold vp_in; first | decide | (split <;> decide))) rfl ((wr_ck _ _ _ _ (by decide)).trans (wr_ck _ _ _ _ (by decide))) d_M_take_264 ?_
          refine lv_if_ne (tgt := 277) hx hb d_M_take_265 (by decide) (fun h3 => ?_) (fun h3 => ?_)
          · refine lv_iconst (v := 0) hx hb d_M_take_277 (by decide) ?_
            exact hJ _ _ _ ⟨Eq.symm ((if_neg h2).trans (if_neg h3)), isB_0, hH⟩
          · refine lv_iload hx hb d_M_take_268 (lv_at hl 4 rfl) ?_
            refine lv_if_ne (tgt := 277) hx hb d_M_take_270 (by decide) (fun h4 => ?_) (fun h4 => ?_)
            · refine lv_iconst (v := 0) hx hb d_M_take_277 (by decide) ?_
              exact hJ _ _ _ ⟨Eq.symm ((if_neg h2).trans ((if_pos h3).trans (if_neg h4))), isB_0, hH⟩
            · refine lv_iconst (v := 1) hx hb d_M_take_273 (by decide) ?_
              refine lv_goto (tgt := 278) hx hb d_M_take_274 (by decide) ?_
              exact hJ _ _ _ ⟨Eq.symm ((if_neg h2).trans ((if_pos h3).trans (if_pos h4))), isB_1, hH⟩
    · refine lv_if_ne (tgt := 244) hx hb d_M_take_232 (by decide) (fun h5 => ?_) (fun h5 => ?_)
      · refine lv_iload_n hx hb d_M_take_244 rfl (lv_at hl 2 rfl) ?_
        exact hJ _ _ _ ⟨Eq.symm (if_neg h5), hH⟩
      · refine lv_aload_n hx hb d_M_take_235 rfl (lv_at hl 0 rfl) ?_
        refine g_get E hH (gc_M rfl) cl_M 20 (by decide) lf_M_65 rfl d_M_take_236 ?_
        refine lv_iload_n hx hb d_M_take_239 rfl (lv_at hl 1 rfl) ?_
        refine g_iaload (k := (tn a1)) (v := (G 40 (tn a1))) E hH ⟨by decide, fun _ => rfl⟩ (by rcases he with rfl | rfl <;> (unfold vp_in; first | decide | (split <;> decide))) rfl (wr_ck _ _ _ _ (by decide)) d_M_take_240 ?_
        refine lv_goto (tgt := 245) hx hb d_M_take_241 (by decide) ?_
        exact hJ _ _ _ ⟨Eq.symm (if_pos h5), hH⟩
  refine jn (α := Mem × Array Slot × Int32) (fun q H1 locs1 => sp_M_take G0 a1 a2 = sp_M_take_139 a1 a2 q.1 q.2.2 ∧ lv_has q.2.1 8 [(0, .ref (gad P 21)), (1, .int a1), (2, .int a2), (3, .int (3 * a1)), (5, .int q.2.2)] ∧ gH P s q.1 H1 locs1) (fun q => F0 m 139 q.2.1 []) (fun q H locs h9 => ?_) (fun hC139 => ?_)
  · clear hsp hl hH ls
    obtain ⟨G, ls, x5⟩ := q
    obtain ⟨hsp, hl, hH⟩ := h9
    change lv_has ls 8 [(0, .ref (gad P 21)), (1, .int a1), (2, .int a2), (3, .int (3 * a1)), (5, .int x5)] at hl
    dsimp only at hsp hH ⊢
    refine lv_aload_n hx hb d_M_take_139 rfl (lv_at hl 0 rfl) ?_
    refine g_get E hH (gc_M rfl) cl_M 21 (by decide) lf_M_68 rfl d_M_take_140 ?_
    refine lv_iload_n hx hb d_M_take_143 rfl (lv_at hl 1 rfl) ?_
    refine lv_iload hx hb d_M_take_144 (lv_at hl 4 rfl) ?_
    refine jn (α := Int32) (fun z H1 locs1 => z = ((if x5 = 0 then (G 41 (tn a1)) else a2) : Int32) ∧ gH P s G H1 locs1) (fun z => F0 m 159 ls (.int z :: .int a1 :: .ref (gad P 41) :: [])) (fun z H locs h9 => ?_) (fun hJ => ?_)
    · obtain ⟨rfl, hH⟩ := h9
      refine g_iastore (k := (tn a1)) E hH ⟨by decide, fun _ => rfl⟩ (by rcases he with rfl | rfl <;> (unfold vp_in; first | decide | (split <;> decide))) rfl d_M_take_159 (fun H locs hH => ?_)
      refine lv_aload_n hx hb d_M_take_160 rfl (lv_at hl 0 rfl) ?_
      refine g_get E hH (gc_M rfl) cl_M 22 (by decide) lf_M_71 rfl d_M_take_161 ?_
      refine lv_iload_n hx hb d_M_take_164 rfl (lv_at hl 1 rfl) ?_
      refine lv_iload_n hx hb d_M_take_165 rfl (lv_at hl 2 rfl) ?_
      refine jn (α := Int32) (fun z H1 locs1 => z = ((if a2 = 0 then (if (G 40 (tn a1)) = 0 then 0 else ((G 42 (tn a1)) + 1)) else 0) : Int32) ∧ gH P s (wr G 41 (tn a1) ((if x5 = 0 then (G 41 (tn a1)) else a2) : Int32)) H1 locs1) (fun z => F0 m 190 ls (.int z :: .int a1 :: .ref (gad P 42) :: [])) (fun z H locs h9 => ?_) (fun hJ => ?_)
      · obtain ⟨rfl, hH⟩ := h9
        refine g_iastore (k := (tn a1)) E hH ⟨by decide, fun _ => rfl⟩ (by rcases he with rfl | rfl <;> (unfold vp_in; first | decide | (split <;> decide))) rfl d_M_take_190 (fun H locs hH => ?_)
        refine lv_aload_n hx hb d_M_take_191 rfl (lv_at hl 0 rfl) ?_
        refine lv_iload_n hx hb d_M_take_192 rfl (lv_at hl 1 rfl) ?_
        refine lv_aload_n hx hb d_M_take_193 rfl (lv_at hl 0 rfl) ?_
        refine g_get E hH (gc_M rfl) cl_M 22 (by decide) lf_M_71 rfl d_M_take_194 ?_
        refine lv_iload_n hx hb d_M_take_197 rfl (lv_at hl 1 rfl) ?_
        refine g_iaload (k := (tn a1)) (v := ((if a2 = 0 then (if (G 40 (tn a1)) = 0 then 0 else ((G 42 (tn a1)) + 1)) else 0) : Int32)) E hH ⟨by decide, fun _ => rfl⟩ (by rcases he with rfl | rfl <;> (unfold vp_in; first | decide | (split <;> decide))) rfl (wr_same _ _ _ _) d_M_take_198 ?_
        refine lv_iconst (v := 4) hx hb d_M_take_199 (by decide) ?_
        refine jn (α := Int32) (fun z H1 locs1 => z = ((if ((if a2 = 0 then (if (G 40 (tn a1)) = 0 then 0 else ((G 42 (tn a1)) + 1)) else 0) : Int32) = 4 then 1 else 0) : Int32) ∧ isB z ∧ gH P s (wr (wr G 41 (tn a1) ((if x5 = 0 then (G 41 (tn a1)) else a2) : Int32)) 42 (tn a1) ((if a2 = 0 then (if (G 40 (tn a1)) = 0 then 0 else ((G 42 (tn a1)) + 1)) else 0) : Int32)) H1 locs1) (fun z => F0 m 208 ls (.int z :: .int a1 :: .ref (gad P 21) :: [])) (fun z H locs h9 => ?_) (fun hJ => ?_)
        · obtain ⟨rfl, hz208, hH⟩ := h9
          refine lv_iconst (v := 1) hx hb d_M_take_208 (by decide) ?_
          refine g_callVv (As := [.int _, .int _, .int _]) E hH hl (c_M_fault l P _ _ _ _ he (Or.inr (Or.inl rfl))) lm_M_165 (gc_M rfl) cl_M (Nat.le_of_ble_eq_true rfl) (Nat.le_of_ble_eq_true rfl) (Nat.le_of_ble_eq_true rfl) (Nat.le_of_ble_eq_true rfl) (Nat.le_of_ble_eq_true rfl) rfl rfl rfl rfl d_M_take_209 (fun H locs hH => ?_)
          exact hC212 ((sp_M_fault (wr (wr G 41 (tn a1) ((if x5 = 0 then (G 41 (tn a1)) else a2) : Int32)) 42 (tn a1) ((if a2 = 0 then (if (G 40 (tn a1)) = 0 then 0 else ((G 42 (tn a1)) + 1)) else 0) : Int32)) a1 ((if ((if a2 = 0 then (if (G 40 (tn a1)) = 0 then 0 else ((G 42 (tn a1)) + 1)) else 0) : Int32) = 4 then 1 else 0) : Int32) 1), _, x5) _ _ ⟨hsp.trans (by rw [sp_M_take_139]), lv_sub hl [0, 1, 2, 3, 4] rfl, hH⟩
        · refine lv_icmp_ne (tgt := 207) hx hb d_M_take_200 (by decide) (fun h6 => ?_) (fun h6 => ?_)
          · refine lv_iconst (v := 0) hx hb d_M_take_207 (by decide) ?_
            exact hJ _ _ _ ⟨Eq.symm (if_neg h6), isB_0, hH⟩
          · refine lv_iconst (v := 1) hx hb d_M_take_203 (by decide) ?_
            refine lv_goto (tgt := 208) hx hb d_M_take_204 (by decide) ?_
            exact hJ _ _ _ ⟨Eq.symm (if_pos h6), isB_1, hH⟩
      · refine lv_if_ne (tgt := 189) hx hb d_M_take_166 (by decide) (fun h7 => ?_) (fun h7 => ?_)
        · refine lv_iconst (v := 0) hx hb d_M_take_189 (by decide) ?_
          exact hJ _ _ _ ⟨Eq.symm (if_neg h7), hH⟩
        · refine lv_aload_n hx hb d_M_take_169 rfl (lv_at hl 0 rfl) ?_
          refine g_get E hH (gc_M rfl) cl_M 20 (by decide) lf_M_65 rfl d_M_take_170 ?_
          refine lv_iload_n hx hb d_M_take_173 rfl (lv_at hl 1 rfl) ?_
          refine g_iaload (k := (tn a1)) (v := (G 40 (tn a1))) E hH ⟨by decide, fun _ => rfl⟩ (by rcases he with rfl | rfl <;> (unfold vp_in; first | decide | (split <;> decide))) rfl (wr_ck _ _ _ _ (by decide)) d_M_take_174 ?_
          refine lv_if_eq (tgt := 189) hx hb d_M_take_175 (by decide) (fun h8 => ?_) (fun h8 => ?_)
          · refine lv_iconst (v := 0) hx hb d_M_take_189 (by decide) ?_
            exact hJ _ _ _ ⟨Eq.symm ((if_pos h7).trans (if_pos h8)), hH⟩
          · refine lv_aload_n hx hb d_M_take_178 rfl (lv_at hl 0 rfl) ?_
            refine g_get E hH (gc_M rfl) cl_M 22 (by decide) lf_M_71 rfl d_M_take_179 ?_
            refine lv_iload_n hx hb d_M_take_182 rfl (lv_at hl 1 rfl) ?_
            refine g_iaload (k := (tn a1)) (v := (G 42 (tn a1))) E hH ⟨by decide, fun _ => rfl⟩ (by rcases he with rfl | rfl <;> (unfold vp_in; first | decide | (split <;> decide))) rfl (wr_ck _ _ _ _ (by decide)) d_M_take_183 ?_
            refine lv_iconst (v := 1) hx hb d_M_take_184 (by decide) ?_
            refine lv_iadd hx hb d_M_take_185 ?_
            refine lv_goto (tgt := 190) hx hb d_M_take_186 (by decide) ?_
            exact hJ _ _ _ ⟨Eq.symm ((if_pos h7).trans (if_neg h8)), hH⟩
    · refine lv_if_eq (tgt := 153) hx hb d_M_take_146 (by decide) (fun h9 => ?_) (fun h9 => ?_)
      · refine lv_aload_n hx hb d_M_take_153 rfl (lv_at hl 0 rfl) ?_
        refine g_get E hH (gc_M rfl) cl_M 21 (by decide) lf_M_68 rfl d_M_take_154 ?_
        refine lv_iload_n hx hb d_M_take_157 rfl (lv_at hl 1 rfl) ?_
        refine g_iaload (k := (tn a1)) (v := (G 41 (tn a1))) E hH ⟨by decide, fun _ => rfl⟩ (by rcases he with rfl | rfl <;> (unfold vp_in; first | decide | (split <;> decide))) rfl rfl d_M_take_158 ?_
        exact hJ _ _ _ ⟨Eq.symm (if_pos h9), hH⟩
      · refine lv_iload_n hx hb d_M_take_149 rfl (lv_at hl 2 rfl) ?_
        refine lv_goto (tgt := 159) hx hb d_M_take_150 (by decide) ?_
        exact hJ _ _ _ ⟨Eq.symm (if_neg h9), hH⟩
  refine jn (α := Mem × Array Slot × Int32 × Int32) (fun q H1 locs1 => sp_M_take G0 a1 a2 = sp_M_take_92 a1 a2 q.1 q.2.2.1 q.2.2.2 ∧ lv_has q.2.1 8 [(0, .ref (gad P 21)), (1, .int a1), (2, .int a2), (3, .int (3 * a1)), (4, .int q.2.2.1), (5, .int q.2.2.2)] ∧ gH P s q.1 H1 locs1) (fun q => F0 m 92 q.2.1 []) (fun q H locs h9 => ?_) (fun hC92 => ?_)
  · clear hsp hl hH ls
    obtain ⟨G, ls, x4, x5⟩ := q
    obtain ⟨hsp, hl, hH⟩ := h9
    change lv_has ls 8 [(0, .ref (gad P 21)), (1, .int a1), (2, .int a2), (3, .int (3 * a1)), (4, .int x4), (5, .int x5)] at hl
    dsimp only at hsp hH ⊢
    refine lv_aload_n hx hb d_M_take_92 rfl (lv_at hl 0 rfl) ?_
    refine lv_iload_n hx hb d_M_take_93 rfl (lv_at hl 1 rfl) ?_
    refine lv_iload hx hb d_M_take_94 (lv_at hl 4 rfl) ?_
    refine jn (α := Int32) (fun z H1 locs1 => z = ((if x4 = 0 then 0 else (if x5 = 0 then 1 else 0)) : Int32) ∧ isB z ∧ gH P s G H1 locs1) (fun z => F0 m 109 ls (.int z :: .int a1 :: .ref (gad P 21) :: [])) (fun z H locs h9 => ?_) (fun hJ => ?_)
    · obtain ⟨rfl, hz109, hH⟩ := h9
      refine lv_iconst (v := 1) hx hb d_M_take_109 (by decide) ?_
      refine g_callVv (As := [.int _, .int _, .int _]) E hH hl (c_M_fault l P _ _ _ _ he (Or.inr (Or.inl rfl))) lm_M_165 (gc_M rfl) cl_M (Nat.le_of_ble_eq_true rfl) (Nat.le_of_ble_eq_true rfl) (Nat.le_of_ble_eq_true rfl) (Nat.le_of_ble_eq_true rfl) (Nat.le_of_ble_eq_true rfl) rfl rfl rfl rfl d_M_take_110 (fun H locs hH => ?_)
      refine lv_aload_n hx hb d_M_take_113 rfl (lv_at hl 0 rfl) ?_
      refine lv_iload_n hx hb d_M_take_114 rfl (lv_at hl 1 rfl) ?_
      refine lv_iload hx hb d_M_take_115 (lv_at hl 5 rfl) ?_
      refine jn (α := Int32) (fun z H1 locs1 => z = ((if x5 = 0 then 0 else (if ((sp_M_fault G a1 ((if x4 = 0 then 0 else (if x5 = 0 then 1 else 0)) : Int32) 1) 41 (tn a1)) = a2 then 1 else 0)) : Int32) ∧ isB z ∧ gH P s (sp_M_fault G a1 ((if x4 = 0 then 0 else (if x5 = 0 then 1 else 0)) : Int32) 1) H1 locs1) (fun z => F0 m 135 ls (.int z :: .int a1 :: .ref (gad P 21) :: [])) (fun z H locs h9 => ?_) (fun hJ => ?_)
      · obtain ⟨rfl, hz135, hH⟩ := h9
        refine lv_iconst (v := 1) hx hb d_M_take_135 (by decide) ?_
        refine g_callVv (As := [.int _, .int _, .int _]) E hH hl (c_M_fault l P _ _ _ _ he (Or.inr (Or.inl rfl))) lm_M_165 (gc_M rfl) cl_M (Nat.le_of_ble_eq_true rfl) (Nat.le_of_ble_eq_true rfl) (Nat.le_of_ble_eq_true rfl) (Nat.le_of_ble_eq_true rfl) (Nat.le_of_ble_eq_true rfl) rfl rfl rfl rfl d_M_take_136 (fun H locs hH => ?_)
        exact hC139 ((sp_M_fault (sp_M_fault G a1 ((if x4 = 0 then 0 else (if x5 = 0 then 1 else 0)) : Int32) 1) a1 ((if x5 = 0 then 0 else (if ((sp_M_fault G a1 ((if x4 = 0 then 0 else (if x5 = 0 then 1 else 0)) : Int32) 1) 41 (tn a1)) = a2 then 1 else 0)) : Int32) 1), _, x5) _ _ ⟨hsp.trans (by rw [sp_M_take_92]), lv_sub hl [0, 1, 2, 3, 5] rfl, hH⟩
      · refine lv_if_eq (tgt := 134) hx hb d_M_take_117 (by decide) (fun h10 => ?_) (fun h10 => ?_)
        · refine lv_iconst (v := 0) hx hb d_M_take_134 (by decide) ?_
          exact hJ _ _ _ ⟨Eq.symm (if_pos h10), isB_0, hH⟩
        · refine lv_aload_n hx hb d_M_take_120 rfl (lv_at hl 0 rfl) ?_
          refine g_get E hH (gc_M rfl) cl_M 21 (by decide) lf_M_68 rfl d_M_take_121 ?_
          refine lv_iload_n hx hb d_M_take_124 rfl (lv_at hl 1 rfl) ?_
          refine g_iaload (k := (tn a1)) (v := ((sp_M_fault G a1 ((if x4 = 0 then 0 else (if x5 = 0 then 1 else 0)) : Int32) 1) 41 (tn a1))) E hH ⟨by decide, fun _ => rfl⟩ (by rcases he with rfl | rfl <;> (unfold vp_in; first | decide | (split <;> decide))) rfl rfl d_M_take_125 ?_
          refine lv_iload_n hx hb d_M_take_126 rfl (lv_at hl 2 rfl) ?_
          refine lv_icmp_ne (tgt := 134) hx hb d_M_take_127 (by decide) (fun h11 => ?_) (fun h11 => ?_)
          · refine lv_iconst (v := 0) hx hb d_M_take_134 (by decide) ?_
            exact hJ _ _ _ ⟨Eq.symm ((if_neg h10).trans (if_neg h11)), isB_0, hH⟩
          · refine lv_iconst (v := 1) hx hb d_M_take_130 (by decide) ?_
            refine lv_goto (tgt := 135) hx hb d_M_take_131 (by decide) ?_
            exact hJ _ _ _ ⟨Eq.symm ((if_neg h10).trans (if_pos h11)), isB_1, hH⟩
    · refine lv_if_eq (tgt := 108) hx hb d_M_take_96 (by decide) (fun h12 => ?_) (fun h12 => ?_)
      · refine lv_iconst (v := 0) hx hb d_M_take_108 (by decide) ?_
        exact hJ _ _ _ ⟨Eq.symm (if_pos h12), isB_0, hH⟩
      · refine lv_iload hx hb d_M_take_99 (lv_at hl 5 rfl) ?_
        refine lv_if_ne (tgt := 108) hx hb d_M_take_101 (by decide) (fun h13 => ?_) (fun h13 => ?_)
        · refine lv_iconst (v := 0) hx hb d_M_take_108 (by decide) ?_
          exact hJ _ _ _ ⟨Eq.symm ((if_neg h12).trans (if_neg h13)), isB_0, hH⟩
        · refine lv_iconst (v := 1) hx hb d_M_take_104 (by decide) ?_
          refine lv_goto (tgt := 109) hx hb d_M_take_105 (by decide) ?_
          exact hJ _ _ _ ⟨Eq.symm ((if_neg h12).trans (if_pos h13)), isB_1, hH⟩
  refine lv_iconst (v := 3) hx hb d_M_take_0 (by decide) ?_
  refine lv_iload_n hx hb d_M_take_1 rfl (lv_at hl 1 rfl) ?_
  refine lv_imul hx hb d_M_take_2 ?_
  refine lv_istore_n hx hb d_M_take_3 rfl hl (by decide) rfl (fun ls hl => ?_)
  refine lv_aload_n hx hb d_M_take_4 rfl (lv_at hl 1 rfl) ?_
  refine g_get E hH (gc_M rfl) cl_M 17 (by decide) lf_M_56 rfl d_M_take_5 ?_
  refine lv_iload_n hx hb d_M_take_8 rfl (lv_at hl 2 rfl) ?_
  refine lv_iload_n hx hb d_M_take_9 rfl (lv_at hl 3 rfl) ?_
  refine g_iastore (k := (tn a1)) E hH ⟨by decide, fun _ => rfl⟩ (by rcases he with rfl | rfl <;> (unfold vp_in; first | decide | (split <;> decide))) rfl d_M_take_10 (fun H locs hH => ?_)
  refine lv_aload_n hx hb d_M_take_11 rfl (lv_at hl 1 rfl) ?_
  refine g_get E hH (gc_M rfl) cl_M 16 (by decide) lf_M_53 rfl d_M_take_12 ?_
  refine lv_iload_n hx hb d_M_take_15 rfl (lv_at hl 2 rfl) ?_
  refine lv_aload_n hx hb d_M_take_16 rfl (lv_at hl 1 rfl) ?_
  refine g_get E hH (gc_M rfl) cl_M 16 (by decide) lf_M_53 rfl d_M_take_17 ?_
  refine lv_iload_n hx hb d_M_take_20 rfl (lv_at hl 2 rfl) ?_
  refine g_iaload (k := (tn a1)) (v := (G0 36 (tn a1))) E hH ⟨by decide, fun _ => rfl⟩ (by rcases he with rfl | rfl <;> (unfold vp_in; first | decide | (split <;> decide))) rfl (wr_ck _ _ _ _ (by decide)) d_M_take_21 ?_
  refine lv_iconst (v := 4) hx hb d_M_take_22 (by decide) ?_
  refine jn (α := Int32) (fun z H1 locs1 => z = ((if 4 ≤ (G0 36 (tn a1)) then 4 else ((G0 36 (tn a1)) + 1)) : Int32) ∧ gH P s (wr G0 37 (tn a1) a2) H1 locs1) (fun z => F0 m 38 ls (.int z :: .int a1 :: .ref (gad P 36) :: [])) (fun z H locs h9 => ?_) (fun hJ => ?_)
  · obtain ⟨rfl, hH⟩ := h9
    refine g_iastore (k := (tn a1)) E hH ⟨by decide, fun _ => rfl⟩ (by rcases he with rfl | rfl <;> (unfold vp_in; first | decide | (split <;> decide))) rfl d_M_take_38 (fun H locs hH => ?_)
    refine lv_iload_n hx hb d_M_take_39 rfl (lv_at hl 3 rfl) ?_
    refine jn (α := Int32) (fun z H1 locs1 => z = ((if a2 = 0 then 0 else (if a2 = (G0 40 (tn a1)) then 1 else 0)) : Int32) ∧ isB z ∧ gH P s (wr (wr G0 37 (tn a1) a2) 36 (tn a1) ((if 4 ≤ (G0 36 (tn a1)) then 4 else ((G0 36 (tn a1)) + 1)) : Int32)) H1 locs1) (fun z => F0 m 58 ls (.int z :: [])) (fun z H locs h9 => ?_) (fun hJ => ?_)
    · obtain ⟨rfl, hz58, hH⟩ := h9
      refine lv_istore hx hb d_M_take_58 hl (by decide) rfl (fun ls hl => ?_)
      refine lv_iload hx hb d_M_take_60 (lv_at hl 0 rfl) ?_
      refine jn (α := Int32) (fun z H1 locs1 => z = ((if ((if a2 = 0 then 0 else (if a2 = (G0 40 (tn a1)) then 1 else 0)) : Int32) = 0 then 0 else (if (G0 38 (tn (3 * a1))) = 0 then (if (G0 38 (tn ((3 * a1) + 1))) = 0 then 1 else 0) else 0)) : Int32) ∧ isB z ∧ gH P s (wr (wr G0 37 (tn a1) a2) 36 (tn a1) ((if 4 ≤ (G0 36 (tn a1)) then 4 else ((G0 36 (tn a1)) + 1)) : Int32)) H1 locs1) (fun z => F0 m 90 ls (.int z :: [])) (fun z H locs h9 => ?_) (fun hJ => ?_)
      · obtain ⟨rfl, hz90, hH⟩ := h9
        refine lv_istore hx hb d_M_take_90 hl (by decide) rfl (fun ls hl => ?_)
        exact hC92 ((wr (wr G0 37 (tn a1) a2) 36 (tn a1) ((if 4 ≤ (G0 36 (tn a1)) then 4 else ((G0 36 (tn a1)) + 1)) : Int32)), _, ((if a2 = 0 then 0 else (if a2 = (G0 40 (tn a1)) then 1 else 0)) : Int32), ((if ((if a2 = 0 then 0 else (if a2 = (G0 40 (tn a1)) then 1 else 0)) : Int32) = 0 then 0 else (if (G0 38 (tn (3 * a1))) = 0 then (if (G0 38 (tn ((3 * a1) + 1))) = 0 then 1 else 0) else 0)) : Int32)) _ _ ⟨hsp.trans (by rw [sp_M_take]), lv_sub hl [3, 4, 5, 2, 1, 0] rfl, hH⟩
      · refine lv_if_eq (tgt := 89) hx hb d_M_take_62 (by decide) (fun h14 => ?_) (fun h14 => ?_)
        · refine lv_iconst (v := 0) hx hb d_M_take_89 (by decide) ?_
          exact hJ _ _ _ ⟨Eq.symm (if_pos h14), isB_0, hH⟩
        · refine lv_aload_n hx hb d_M_take_65 rfl (lv_at hl 2 rfl) ?_
          refine g_get E hH (gc_M rfl) cl_M 18 (by decide) lf_M_59 rfl d_M_take_66 ?_
          refine lv_iload_n hx hb d_M_take_69 rfl (lv_at hl 1 rfl) ?_
          refine g_iaload (k := (tn (3 * a1))) (v := (G0 38 (tn (3 * a1)))) E hH ⟨by decide, fun _ => rfl⟩ (by rcases he with rfl | rfl <;> (unfold vp_in; first | decide | (split <;> decide))) rfl ((wr_ck _ _ _ _ (by decide)).trans (wr_ck _ _ _ _ (by decide))) d_M_take_70 ?_
          refine lv_if_ne (tgt := 89) hx hb d_M_take_71 (by decide) (fun h15 => ?_) (fun h15 => ?_)
          · refine lv_iconst (v := 0) hx hb d_M_take_89 (by decide) ?_
            exact hJ _ _ _ ⟨Eq.symm ((if_neg h14).trans (if_neg h15)), isB_0, hH⟩
          · refine lv_aload_n hx hb d_M_take_74 rfl (lv_at hl 2 rfl) ?_
            refine g_get E hH (gc_M rfl) cl_M 18 (by decide) lf_M_59 rfl d_M_take_75 ?_
            refine lv_iload_n hx hb d_M_take_78 rfl (lv_at hl 1 rfl) ?_
            refine lv_iconst (v := 1) hx hb d_M_take_79 (by decide) ?_
            refine lv_iadd hx hb d_M_take_80 ?_
            refine g_iaload (k := (tn ((3 * a1) + 1))) (v := (G0 38 (tn ((3 * a1) + 1)))) E hH ⟨by decide, fun _ => rfl⟩ (by rcases he with rfl | rfl <;> (unfold vp_in; first | decide | (split <;> decide))) rfl ((wr_ck _ _ _ _ (by decide)).trans (wr_ck _ _ _ _ (by decide))) d_M_take_81 ?_
            refine lv_if_ne (tgt := 89) hx hb d_M_take_82 (by decide) (fun h16 => ?_) (fun h16 => ?_)
            · refine lv_iconst (v := 0) hx hb d_M_take_89 (by decide) ?_
              exact hJ _ _ _ ⟨Eq.symm ((if_neg h14).trans ((if_pos h15).trans (if_neg h16))), isB_0, hH⟩
            · refine lv_iconst (v := 1) hx hb d_M_take_85 (by decide) ?_
              refine lv_goto (tgt := 90) hx hb d_M_take_86 (by decide) ?_
              exact hJ _ _ _ ⟨Eq.symm ((if_neg h14).trans ((if_pos h15).trans (if_pos h16))), isB_1, hH⟩
    · refine lv_if_eq (tgt := 57) hx hb d_M_take_40 (by decide) (fun h17 => ?_) (fun h17 => ?_)
      · refine lv_iconst (v := 0) hx hb d_M_take_57 (by decide) ?_
        exact hJ _ _ _ ⟨Eq.symm (if_pos h17), isB_0, hH⟩
      · refine lv_iload_n hx hb d_M_take_43 rfl (lv_at hl 3 rfl) ?_
        refine lv_aload_n hx hb d_M_take_44 rfl (lv_at hl 1 rfl) ?_
        refine g_get E hH (gc_M rfl) cl_M 20 (by decide) lf_M_65 rfl d_M_take_45 ?_
        refine lv_iload_n hx hb d_M_take_48 rfl (lv_at hl 2 rfl) ?_
        refine g_iaload (k := (tn a1)) (v := (G0 40 (tn a1))) E hH ⟨by decide, fun _ => rfl⟩ (by rcases he with rfl | rfl <;> (unfold vp_in; first | decide | (split <;> decide))) rfl ((wr_ck _ _ _ _ (by decide)).trans (wr_ck _ _ _ _ (by decide))) d_M_take_49 ?_
        refine lv_icmp_ne (tgt := 57) hx hb d_M_take_50 (by decide) (fun h18 => ?_) (fun h18 => ?_)
        · refine lv_iconst (v := 0) hx hb d_M_take_57 (by decide) ?_
          exact hJ _ _ _ ⟨Eq.symm ((if_neg h17).trans (if_neg h18)), isB_0, hH⟩
        · refine lv_iconst (v := 1) hx hb d_M_take_53 (by decide) ?_
          refine lv_goto (tgt := 58) hx hb d_M_take_54 (by decide) ?_
          exact hJ _ _ _ ⟨Eq.symm ((if_neg h17).trans (if_pos h18)), isB_1, hH⟩
  · refine lv_icmp_ge (tgt := 37) hx hb d_M_take_23 (by decide) (fun h19 => ?_) (fun h19 => ?_)
    · refine lv_iconst (v := 4) hx hb d_M_take_37 (by decide) ?_
      exact hJ _ _ _ ⟨Eq.symm (if_pos h19), hH⟩
    · refine lv_aload_n hx hb d_M_take_26 rfl (lv_at hl 1 rfl) ?_
      refine g_get E hH (gc_M rfl) cl_M 16 (by decide) lf_M_53 rfl d_M_take_27 ?_
      refine lv_iload_n hx hb d_M_take_30 rfl (lv_at hl 2 rfl) ?_
      refine g_iaload (k := (tn a1)) (v := (G0 36 (tn a1))) E hH ⟨by decide, fun _ => rfl⟩ (by rcases he with rfl | rfl <;> (unfold vp_in; first | decide | (split <;> decide))) rfl (wr_ck _ _ _ _ (by decide)) d_M_take_31 ?_
      refine lv_iconst (v := 1) hx hb d_M_take_32 (by decide) ?_
      refine lv_iadd hx hb d_M_take_33 ?_
      refine lv_goto (tgt := 38) hx hb d_M_take_34 (by decide) ?_
      exact hJ _ _ _ ⟨Eq.symm (if_neg h19), hH⟩
