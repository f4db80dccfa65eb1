def sp_A_placeOf_2 (c : Nat) (a1 : Int32) : Nat → Mem → Int32 → Int32
 | 0, G0, x2 => 0
  | d + 1, G0, x2 =>
  (if (G0 c 2) ≤ x2 then x2 else (if (G0 (c + 1) (tn x2)) = a1 then x2 else (sp_A_placeOf_2 c a1 d G0 (x2 + 1))))
def sp_A_placeOf (c : Nat) (G0 : Mem) (a1 : Int32) : Int32 :=
  (sp_A_placeOf_2 c a1 (tn (G0 c 2) + 1) G0 0)
set_option maxHeartbeats 4000000 in
set_option maxRecDepth 100000 in
theorem c_A_placeOf (l : Launch) (P : gP) (G0 : Mem) (c : Nat) (a1 : Int32) (hc : kA c) (hm : ∃ w : Nat, w ≤ 8 ∧ G0 c 2 = nI w) : gMri l y_A_placeOf b_A_placeOf 3 (some .int) ({ frames := 0, cells := 0, slots := 0, locals := 0 }) [.ref (gad P c), .int a1] P G0 (sp_A_placeOf c G0 a1) := by
  refine Met.ofW (cc := b_A_placeOf) (maxL := 3) (ret := (some .int)) (by decide) rfl ?_
  intro p e s m args below meth c0 s₁ B hml hv
  obtain ⟨rfl, hpre⟩ := hv
  obtain ⟨E, hH⟩ := gE_of B hml hpre
  replace E : gE p s m _ meth c0 P "FramedLine$Arrivals" b_A_placeOf 3 (some .int) := E
  have hcU := hc
  unfold kA at hcU
  have hx := E.1
  have hb := E.2.1
  have hl := lv_entry ([.ref (gad P c), .int a1]) (n := 3) (Nat.le_of_ble_eq_true rfl)
  rw [lg_entry_eq]
  generalize (lg_sl ([.ref (gad P c), .int a1]) ++ List.replicate (3 - (lg_sl ([.ref (gad P c), .int a1])).length) Slot.unset).toArray = ls at hl ⊢
  replace hl : lv_has ls 3 [(0, .ref (gad P c)), (1, .int a1)] := hl
  have hsp : sp_A_placeOf c G0 a1 = sp_A_placeOf c G0 a1 := rfl
  refine jl (α := Nat × Array Slot × Int32) (fun q H1 locs1 => sp_A_placeOf c G0 a1 = sp_A_placeOf_2 c a1 q.1 G0 q.2.2 ∧ (∃ j w : Nat, j ≤ w ∧ w ≤ 8 ∧ G0 c 2 = nI w ∧ q.2.2 = nI j ∧ q.1 = w - j + 1) ∧ lv_has q.2.1 3 [(0, .ref (gad P c)), (1, .int a1), (2, .int q.2.2)] ∧ gH P s G0 H1 locs1) (fun q => F0 m 2 q.2.1 []) (fun q => q.1) (fun q H locs h9 ih2 => ?_) (fun hC2 => ?_)
  · clear hsp hl hH ls
    obtain ⟨n, ls, x2⟩ := q
    obtain ⟨hsp, hinv, hl, hH⟩ := h9
    dsimp only at hinv
    obtain ⟨d, rfl⟩ : ∃ d, n = d + 1 := by obtain ⟨j, w, -, -, -, -, h⟩ := hinv; exact ⟨n - 1, by omega⟩
    change lv_has ls 3 [(0, .ref (gad P c)), (1, .int a1), (2, .int x2)] at hl
    dsimp only at hsp hH ⊢
    refine lv_iload_n hx hb d_A_placeOf_2 rfl (lv_at hl 2 rfl) ?_
    refine lv_aload_n hx hb d_A_placeOf_3 rfl (lv_at hl 0 rfl) ?_
    refine g_geti (v := (G0 c 2)) E hH (gc_A hc) cl_A 2 (by decide) lf_A_18 (fun _ => rfl) rfl d_A_placeOf_4 ?_
    refine lv_icmp_ge (tgt := 26) hx hb d_A_placeOf_7 (by decide) (fun h1 => ?_) (fun h1 => ?_)
    · refine lv_iload_n hx hb d_A_placeOf_26 rfl (lv_at hl 2 rfl) ?_
      exact g_riret E hH (hsp.trans (by simp only [sp_A_placeOf_2, if_pos h1])) d_A_placeOf_27
    · refine lv_aload_n hx hb d_A_placeOf_10 rfl (lv_at hl 0 rfl) ?_
      refine g_get E hH (gc_A hc) cl_A 0 (by decide) lf_A_9 rfl d_A_placeOf_11 ?_
      refine lv_iload_n hx hb d_A_placeOf_14 rfl (lv_at hl 2 rfl) ?_
      refine g_iaload (k := (tn x2)) (v := (G0 (c + 1) (tn x2))) E hH (ga_I8 (kA_times hc)) (pl_in hinv h1) rfl rfl d_A_placeOf_15 ?_
      refine lv_iload_n hx hb d_A_placeOf_16 rfl (lv_at hl 1 rfl) ?_
      refine lv_icmp_eq (tgt := 26) hx hb d_A_placeOf_17 (by decide) (fun h2 => ?_) (fun h2 => ?_)
      · refine lv_iload_n hx hb d_A_placeOf_26 rfl (lv_at hl 2 rfl) ?_
        exact g_riret E hH (hsp.trans (by simp only [sp_A_placeOf_2, if_neg h1, if_pos h2])) d_A_placeOf_27
      · refine lv_iinc (k := 2) (v := (x2 + 1)) hx hb d_A_placeOf_20 hl rfl rfl (by decide) rfl (fun ls hl => ?_)
        refine lv_goto (tgt := 2) hx hb d_A_placeOf_23 (by decide) ?_
        exact ih2 (d, _, (x2 + 1)) _ _ (Nat.lt_succ_self _) ⟨hsp.trans (by simp only [sp_A_placeOf_2, if_neg h1, if_neg h2]), (wl_back hinv h1), lv_sub hl [1, 2, 0] rfl, hH⟩
  refine lv_iconst (v := 0) hx hb d_A_placeOf_0 (by decide) ?_
  refine lv_istore_n hx hb d_A_placeOf_1 rfl hl (by decide) rfl (fun ls hl => ?_)
  exact hC2 ((tn (G0 c 2) + 1), _, 0) _ _ ⟨hsp.trans (by rw [sp_A_placeOf]), (wl_first hm), lv_sub hl [1, 2, 0] rfl, hH⟩
