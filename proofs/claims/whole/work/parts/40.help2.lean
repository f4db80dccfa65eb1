theorem k_load (G0 : Mem) (a1 a2 a3 : Int32) : k01 (sp_F_load G0 a1 a2 a3).1 := by
  unfold k01 sp_F_load
  repeat' split
  all_goals (dsimp only; first | with_reducible exact eo_k _ _ | with_reducible exact rq_k _ _ | with_reducible exact Or.inl rfl | with_reducible exact Or.inr rfl)
set_option maxHeartbeats 4000000 in
set_option maxRecDepth 100000 in
theorem c_L_load (l : Launch) (htr : l.stackTraces = false) (P : gP) (o : Nat) (cL : ClassId) (v : Int64) (G0 : Mem) (a1 a2 a3 : Int32) : hMet l y_L_load b_L_load 6 (some .int) [(0, 12, 15, 13)] ({ frames := 9, cells := 1, slots := 6, locals := 155 }) [.ref (gad P 0), .int a1, .int a2, .int a3, .ref o] P o cL v iL G0 (sp_F_load G0 a1 a2 a3) := by
  refine va_MetW (cc := b_L_load) (maxL := 6) (ret := (some .int)) (hh := [(0, 12, 15, 13)]) (by decide) rfl ?_
  intro p e s m args below meth c0 s₁ B hml hv
  obtain ⟨rfl, hpre⟩ := hv
  obtain ⟨⟨E, hH⟩, hx0, htab⟩ := gE_ofH B hml hpre
  obtain ⟨-, hO, hTl, hno⟩ := hpre
  replace E : gE p s m _ meth c0 P "FramedLineLaw" b_L_load 6 (some .int) := E
  have hx := E.1
  have hb := E.2.1
  have hl := lv_entry ([.ref (gad P 0), .int a1, .int a2, .int a3, .ref o]) (n := 6) (Nat.le_of_ble_eq_true rfl)
  rw [lg_entry_eq]
  generalize (lg_sl ([.ref (gad P 0), .int a1, .int a2, .int a3, .ref o]) ++ List.replicate (6 - (lg_sl ([.ref (gad P 0), .int a1, .int a2, .int a3, .ref o])).length) Slot.unset).toArray = ls at hl ⊢
  replace hl : lv_has ls 6 [(0, .ref (gad P 0)), (1, .int a1), (2, .int a2), (3, .int a3), (4, .ref o)] := hl
  refine lv_aload hx hb d_L_load_0 (lv_at hl 4 rfl) ?_
  refine lv_iconst (v := 0) hx hb d_L_load_2 (by decide) ?_
  refine lv_aload_n hx hb d_L_load_3 rfl (lv_at hl 0 rfl) ?_
  refine lv_iload_n hx hb d_L_load_4 rfl (lv_at hl 1 rfl) ?_
  refine lv_iload_n hx hb d_L_load_5 rfl (lv_at hl 2 rfl) ?_
  refine lv_iload_n hx hb d_L_load_6 rfl (lv_at hl 3 rfl) ?_
  refine x_callV (As := [.int _, .int _, .int _]) E hx0 hH hl (c_F_load l htr P _ _ _ _) lm_L_7 (gc_F rfl) cl_F (Nat.le_of_ble_eq_true rfl) (Nat.le_of_ble_eq_true rfl) (Nat.le_of_ble_eq_true rfl) (Nat.le_of_ble_eq_true rfl) (Nat.le_of_ble_eq_true rfl) rfl rfl d_L_load_7 (fun h1 H locs hH => ?_) (fun h1 q ce H locs hH hce hcv hcl => ?_)
  · refine lv_i2l hx hb d_L_load_10 rfl ?_
    refine h_store E hH (h_keep hH hO hno) hTl hno d_L_load_11 (fun H1 locs1 h2 h3 h4 => ?_)
    refine lv_goto (tgt := 19) hx hb d_L_load_12 (by decide) ?_
    refine lv_iconst (v := 0) hx hb d_L_load_19 (by decide) ?_
    refine h_more (c1 := 1) (s1 := 6) (Nat.le_of_ble_eq_true rfl) (Nat.le_of_ble_eq_true rfl) ?_
    exact h_ret E h2 (by rw [if_pos h1]; exact h3) h4 h1 d_L_load_20
  · have hk := k01_1 (k_load G0 a1 a2 a3) h1
    rw [xE_1 hk] at hcl
    refine h_catch1 E htab (by decide) (by decide) lk_L_13 hce hcv hcl ?_
    refine lv_astore hx hb d_L_load_15 hl (by decide) rfl (fun ls hl => ?_)
    refine lv_iconst (v := 1) hx hb d_L_load_17 (by decide) ?_
    exact h_ret E hH.1 (by rw [if_neg h1]; exact h_keep hH hO hno) (hS_of hH.2) hk d_L_load_18
theorem k_disturb (G0 : Mem) (a1 a2 a3 : Int32) : (sp_F_disturb G0 a1 a2 a3).1 = 0 ∨ (sp_F_disturb G0 a1 a2 a3).1 = 1 ∨ (sp_F_disturb G0 a1 a2 a3).1 = 2 := by
  unfold sp_F_disturb
  repeat' split
  all_goals (dsimp only; first | with_reducible exact (eo_k _ _).imp_right Or.inl | with_reducible exact (rq_k _ _).imp_right Or.inl | with_reducible exact Or.inl rfl | with_reducible exact Or.inr (Or.inr rfl))
set_option maxHeartbeats 4000000 in
set_option maxRecDepth 100000 in
theorem c_L_disturb (l : Launch) (htr : l.stackTraces = false) (P : gP) (o : Nat) (cL : ClassId) (v : Int64) (G0 : Mem) (a1 a2 a3 : Int32) (hm : hmC G0) : hMet l y_L_disturb b_L_disturb 6 (some .int) [(0, 12, 15, 13), (0, 12, 19, 18)] ({ frames := 9, cells := 1, slots := 6, locals := 155 }) [.ref (gad P 0), .int a1, .int a2, .int a3, .ref o] P o cL v iL G0 (sp_F_disturb G0 a1 a2 a3) := by
  refine va_MetW (cc := b_L_disturb) (maxL := 6) (ret := (some .int)) (hh := [(0, 12, 15, 13), (0, 12, 19, 18)]) (by decide) rfl ?_
  intro p e s m args below meth c0 s₁ B hml hv
  obtain ⟨rfl, hpre⟩ := hv
  obtain ⟨⟨E, hH⟩, hx0, htab⟩ := gE_ofH B hml hpre
  obtain ⟨-, hO, hTl, hno⟩ := hpre
  replace E : gE p s m _ meth c0 P "FramedLineLaw" b_L_disturb 6 (some .int) := E
  have hx := E.1
  have hb := E.2.1
  have hl := lv_entry ([.ref (gad P 0), .int a1, .int a2, .int a3, .ref o]) (n := 6) (Nat.le_of_ble_eq_true rfl)
  rw [lg_entry_eq]
  generalize (lg_sl ([.ref (gad P 0), .int a1, .int a2, .int a3, .ref o]) ++ List.replicate (6 - (lg_sl ([.ref (gad P 0), .int a1, .int a2, .int a3, .ref o])).length) Slot.unset).toArray = ls at hl ⊢
  replace hl : lv_has ls 6 [(0, .ref (gad P 0)), (1, .int a1), (2, .int a2), (3, .int a3), (4, .ref o)] := hl
  refine lv_aload hx hb d_L_disturb_0 (lv_at hl 4 rfl) ?_
  refine lv_iconst (v := 0) hx hb d_L_disturb_2 (by decide) ?_
  refine lv_aload_n hx hb d_L_disturb_3 rfl (lv_at hl 0 rfl) ?_
  refine lv_iload_n hx hb d_L_disturb_4 rfl (lv_at hl 1 rfl) ?_
  refine lv_iload_n hx hb d_L_disturb_5 rfl (lv_at hl 2 rfl) ?_
  refine lv_iload_n hx hb d_L_disturb_6 rfl (lv_at hl 3 rfl) ?_
  refine x_callV (As := [.int _, .int _, .int _]) E hx0 hH hl (c_F_disturb l htr P _ _ _ _ hm) lm_L_15 (gc_F rfl) cl_F (Nat.le_of_ble_eq_true rfl) (Nat.le_of_ble_eq_true rfl) (Nat.le_of_ble_eq_true rfl) (Nat.le_of_ble_eq_true rfl) (Nat.le_of_ble_eq_true rfl) rfl rfl d_L_disturb_7 (fun h1 H locs hH => ?_) (fun h1 q ce H locs hH hce hcv hcl => ?_)
  · refine lv_i2l hx hb d_L_disturb_10 rfl ?_
    refine h_store E hH (h_keep hH hO hno) hTl hno d_L_disturb_11 (fun H1 locs1 h2 h3 h4 => ?_)
    refine lv_goto (tgt := 23) hx hb d_L_disturb_12 (by decide) ?_
    refine lv_iconst (v := 0) hx hb d_L_disturb_23 (by decide) ?_
    refine h_more (c1 := 1) (s1 := 6) (Nat.le_of_ble_eq_true rfl) (Nat.le_of_ble_eq_true rfl) ?_
    exact h_ret E h2 (by rw [if_pos h1]; exact h3) h4 h1 d_L_disturb_24
  · rcases k_disturb G0 a1 a2 a3 with h9 | hk | hk
    · exact absurd h9 h1
    · rw [xE_1 hk] at hcl
      refine h_catch1 E htab (by decide) (by decide) lk_L_13 hce hcv hcl ?_
      refine lv_astore hx hb d_L_disturb_15 hl (by decide) rfl (fun ls hl => ?_)
      refine lv_iconst (v := 1) hx hb d_L_disturb_17 (by decide) ?_
      exact h_ret E hH.1 (by rw [if_neg h1]; exact h_keep hH hO hno) (hS_of hH.2) hk d_L_disturb_18
    · rw [xE_2 hk] at hcl
      refine h_catch2 E htab (by decide) (by decide) lk_L_13 (by decide) (by decide) lk_L_18 hx0.2.2.2.2.2.2 hce hcv hcl ?_
      refine lv_astore hx hb d_L_disturb_19 hl (by decide) rfl (fun ls hl => ?_)
      refine lv_iconst (v := 2) hx hb d_L_disturb_21 (by decide) ?_
      exact h_ret E hH.1 (by rw [if_neg h1]; exact h_keep hH hO hno) (hS_of hH.2) hk d_L_disturb_22
theorem k_slip (G0 : Mem) (a1 : Int32) : k01 (sp_F_slip G0 a1).1 := by
  unfold k01 sp_F_slip
  repeat' split
  all_goals (dsimp only; first | with_reducible exact eo_k _ _ | with_reducible exact rq_k _ _ | with_reducible exact Or.inl rfl | with_reducible exact Or.inr rfl)
set_option maxHeartbeats 4000000 in
set_option maxRecDepth 100000 in
theorem c_L_slip (l : Launch) (htr : l.stackTraces = false) (P : gP) (o : Nat) (cL : ClassId) (v : Int64) (G0 : Mem) (a1 : Int32) : hMet l y_L_slip b_L_slip 4 (some .int) [(0, 16, 19, 13)] ({ frames := 9, cells := 1, slots := 6, locals := 152 }) [.ref (gad P 0), .int a1, .ref o] P o cL v zL G0 (sp_F_slip G0 a1) := by
  refine va_MetW (cc := b_L_slip) (maxL := 4) (ret := (some .int)) (hh := [(0, 16, 19, 13)]) (by decide) rfl ?_
  intro p e s m args below meth c0 s₁ B hml hv
  obtain ⟨rfl, hpre⟩ := hv
  obtain ⟨⟨E, hH⟩, hx0, htab⟩ := gE_ofH B hml hpre
  obtain ⟨-, hO, hTl, hno⟩ := hpre
  replace E : gE p s m _ meth c0 P "FramedLineLaw" b_L_slip 4 (some .int) := E
  have hx := E.1
  have hb := E.2.1
  have hl := lv_entry ([.ref (gad P 0), .int a1, .ref o]) (n := 4) (Nat.le_of_ble_eq_true rfl)
  rw [lg_entry_eq]
  generalize (lg_sl ([.ref (gad P 0), .int a1, .ref o]) ++ List.replicate (4 - (lg_sl ([.ref (gad P 0), .int a1, .ref o])).length) Slot.unset).toArray = ls at hl ⊢
  replace hl : lv_has ls 4 [(0, .ref (gad P 0)), (1, .int a1), (2, .ref o)] := hl
  refine lv_aload_n hx hb d_L_slip_0 rfl (lv_at hl 2 rfl) ?_
  refine lv_iconst (v := 0) hx hb d_L_slip_1 (by decide) ?_
  refine lv_aload_n hx hb d_L_slip_2 rfl (lv_at hl 0 rfl) ?_
  refine lv_iload_n hx hb d_L_slip_3 rfl (lv_at hl 1 rfl) ?_
  refine x_callV (As := [.int _]) E hx0 hH hl (c_F_slip l htr P _ _) lm_L_20 (gc_F rfl) cl_F (Nat.le_of_ble_eq_true rfl) (Nat.le_of_ble_eq_true rfl) (Nat.le_of_ble_eq_true rfl) (Nat.le_of_ble_eq_true rfl) (Nat.le_of_ble_eq_true rfl) rfl rfl d_L_slip_4 (fun h1 H locs hH => ?_) (fun h1 q ce H locs hH hce hcv hcl => ?_)
  · refine lv_if_eq (tgt := 14) hx hb d_L_slip_7 (by decide) (fun h9 => ?_) (fun h9 => ?_)
    · refine lv_lconst (v := 0) hx hb d_L_slip_14 rfl ?_
      refine h_store E hH (h_keep hH hO hno) hTl hno d_L_slip_15 (fun H1 locs1 h2 h3 h4 => ?_)
      refine lv_goto (tgt := 22) hx hb d_L_slip_16 (by decide) ?_
      refine lv_iconst (v := 0) hx hb d_L_slip_22 (by decide) ?_
      refine h_more (c1 := 1) (s1 := 6) (Nat.le_of_ble_eq_true rfl) (Nat.le_of_ble_eq_true rfl) ?_
      exact h_ret E h2 (by rw [if_pos h1]; unfold zL; rw [if_pos h9]; exact h3) h4 h1 d_L_slip_23
    · refine lv_lconst (v := 1) hx hb d_L_slip_10 rfl ?_
      refine lv_goto (tgt := 15) hx hb d_L_slip_11 (by decide) ?_
      refine h_store E hH (h_keep hH hO hno) hTl hno d_L_slip_15 (fun H1 locs1 h2 h3 h4 => ?_)
      refine lv_goto (tgt := 22) hx hb d_L_slip_16 (by decide) ?_
      refine lv_iconst (v := 0) hx hb d_L_slip_22 (by decide) ?_
      refine h_more (c1 := 1) (s1 := 6) (Nat.le_of_ble_eq_true rfl) (Nat.le_of_ble_eq_true rfl) ?_
      exact h_ret E h2 (by rw [if_pos h1]; unfold zL; rw [if_neg h9]; exact h3) h4 h1 d_L_slip_23
  · have hk := k01_1 (k_slip G0 a1) h1
    rw [xE_1 hk] at hcl
    refine h_catch1 E htab (by decide) (by decide) lk_L_13 hce hcv hcl ?_
    refine lv_astore_n hx hb d_L_slip_19 rfl hl (by decide) rfl (fun ls hl => ?_)
    refine lv_iconst (v := 1) hx hb d_L_slip_20 (by decide) ?_
    exact h_ret E hH.1 (by rw [if_neg h1]; exact h_keep hH hO hno) (hS_of hH.2) hk d_L_slip_21
theorem k_pass_22 (a1 : Int32) : ∀ (d : Nat) (G : Mem) (x : Int32), (sp_F_pass_22 a1 d G x).1 = 0 := by
  intro d
  induction d with
  | zero => intro G x; rfl
  | succ d ih =>
    intro G x
    rw [sp_F_pass_22]
    split
    · rfl
    · exact ih _ _
theorem k_pass (G0 : Mem) (a1 : Int32) : k01 (sp_F_pass G0 a1).1 := by
  unfold k01 sp_F_pass
  generalize (if a1 < 1 then 0 else (if 600 < a1 then 0 else 1) : Int32) = x
  split
  · exact Or.inl (k_pass_22 _ _ _ _)
  · exact rq_k _ _
set_option maxHeartbeats 4000000 in
set_option maxRecDepth 100000 in
theorem c_L_pass (l : Launch) (htr : l.stackTraces = false) (P : gP) (o : Nat) (cL : ClassId) (v : Int64) (G0 : Mem) (a1 : Int32) (hm : hmC G0) : hMet l y_L_pass b_L_pass 4 (some .int) [(0, 9, 12, 13)] ({ frames := 8, cells := 1, slots := 6, locals := 155 }) [.ref (gad P 0), .int a1, .ref o] P o cL v iL G0 (sp_F_pass G0 a1) := by
  refine va_MetW (cc := b_L_pass) (maxL := 4) (ret := (some .int)) (hh := [(0, 9, 12, 13)]) (by decide) rfl ?_
  intro p e s m args below meth c0 s₁ B hml hv
  obtain ⟨rfl, hpre⟩ := hv
  obtain ⟨⟨E, hH⟩, hx0, htab⟩ := gE_ofH B hml hpre
  obtain ⟨-, hO, hTl, hno⟩ := hpre
  replace E : gE p s m _ meth c0 P "FramedLineLaw" b_L_pass 4 (some .int) := E
  have hx := E.1
  have hb := E.2.1
  have hl := lv_entry ([.ref (gad P 0), .int a1, .ref o]) (n := 4) (Nat.le_of_ble_eq_true rfl)
  rw [lg_entry_eq]
  generalize (lg_sl ([.ref (gad P 0), .int a1, .ref o]) ++ List.replicate (4 - (lg_sl ([.ref (gad P 0), .int a1, .ref o])).length) Slot.unset).toArray = ls at hl ⊢
  replace hl : lv_has ls 4 [(0, .ref (gad P 0)), (1, .int a1), (2, .ref o)] := hl
  refine lv_aload_n hx hb d_L_pass_0 rfl (lv_at hl 2 rfl) ?_
  refine lv_iconst (v := 0) hx hb d_L_pass_1 (by decide) ?_
  refine lv_aload_n hx hb d_L_pass_2 rfl (lv_at hl 0 rfl) ?_
  refine lv_iload_n hx hb d_L_pass_3 rfl (lv_at hl 1 rfl) ?_
  refine x_callV (As := [.int _]) E hx0 hH hl (c_F_pass l htr P _ _ hm) lm_L_24 (gc_F rfl) cl_F (Nat.le_of_ble_eq_true rfl) (Nat.le_of_ble_eq_true rfl) (Nat.le_of_ble_eq_true rfl) (Nat.le_of_ble_eq_true rfl) (Nat.le_of_ble_eq_true rfl) rfl rfl d_L_pass_4 (fun h1 H locs hH => ?_) (fun h1 q ce H locs hH hce hcv hcl => ?_)
  · refine lv_i2l hx hb d_L_pass_7 rfl ?_
    refine h_store E hH (h_keep hH hO hno) hTl hno d_L_pass_8 (fun H1 locs1 h2 h3 h4 => ?_)
    refine lv_goto (tgt := 15) hx hb d_L_pass_9 (by decide) ?_
    refine lv_iconst (v := 0) hx hb d_L_pass_15 (by decide) ?_
    refine h_more (c1 := 1) (s1 := 6) (Nat.le_of_ble_eq_true rfl) (Nat.le_of_ble_eq_true rfl) ?_
    exact h_ret E h2 (by rw [if_pos h1]; exact h3) h4 h1 d_L_pass_16
  · have hk := k01_1 (k_pass G0 a1) h1
    rw [xE_1 hk] at hcl
    refine h_catch1 E htab (by decide) (by decide) lk_L_13 hce hcv hcl ?_
    refine lv_astore_n hx hb d_L_pass_12 rfl hl (by decide) rfl (fun ls hl => ?_)
    refine lv_iconst (v := 1) hx hb d_L_pass_13 (by decide) ?_
    exact h_ret E hH.1 (by rw [if_neg h1]; exact h_keep hH hO hno) (hS_of hH.2) hk d_L_pass_14
theorem k_symbol (G0 : Mem) (a1 : Int32) : k01 (sp_F_symbol G0 a1).1 := by
  unfold k01 sp_F_symbol
  repeat' split
  all_goals (dsimp only; first | with_reducible exact eo_k _ _ | with_reducible exact rq_k _ _ | with_reducible exact Or.inl rfl | with_reducible exact Or.inr rfl)
set_option maxHeartbeats 4000000 in
set_option maxRecDepth 100000 in
theorem c_L_symbol (l : Launch) (htr : l.stackTraces = false) (P : gP) (o : Nat) (cL : ClassId) (v : Int64) (G0 : Mem) (a1 : Int32) : hMet l y_L_symbol b_L_symbol 4 (some .int) [(0, 9, 12, 13)] ({ frames := 9, cells := 1, slots := 6, locals := 152 }) [.ref (gad P 0), .int a1, .ref o] P o cL v iL G0 (sp_F_symbol G0 a1) := by
  refine va_MetW (cc := b_L_symbol) (maxL := 4) (ret := (some .int)) (hh := [(0, 9, 12, 13)]) (by decide) rfl ?_
  intro p e s m args below meth c0 s₁ B hml hv
  obtain ⟨rfl, hpre⟩ := hv
  obtain ⟨⟨E, hH⟩, hx0, htab⟩ := gE_ofH B hml hpre
  obtain ⟨-, hO, hTl, hno⟩ := hpre
  replace E : gE p s m _ meth c0 P "FramedLineLaw" b_L_symbol 4 (some .int) := E
  have hx := E.1
  have hb := E.2.1
  have hl := lv_entry ([.ref (gad P 0), .int a1, .ref o]) (n := 4) (Nat.le_of_ble_eq_true rfl)
  rw [lg_entry_eq]
  generalize (lg_sl ([.ref (gad P 0), .int a1, .ref o]) ++ List.replicate (4 - (lg_sl ([.ref (gad P 0), .int a1, .ref o])).length) Slot.unset).toArray = ls at hl ⊢
  replace hl : lv_has ls 4 [(0, .ref (gad P 0)), (1, .int a1), (2, .ref o)] := hl
  refine lv_aload_n hx hb d_L_symbol_0 rfl (lv_at hl 2 rfl) ?_
  refine lv_iconst (v := 0) hx hb d_L_symbol_1 (by decide) ?_
  refine lv_aload_n hx hb d_L_symbol_2 rfl (lv_at hl 0 rfl) ?_
  refine lv_iload_n hx hb d_L_symbol_3 rfl (lv_at hl 1 rfl) ?_
  refine x_callV (As := [.int _]) E hx0 hH hl (c_F_symbol l htr P _ _) lm_L_28 (gc_F rfl) cl_F (Nat.le_of_ble_eq_true rfl) (Nat.le_of_ble_eq_true rfl) (Nat.le_of_ble_eq_true rfl) (Nat.le_of_ble_eq_true rfl) (Nat.le_of_ble_eq_true rfl) rfl rfl d_L_symbol_4 (fun h1 H locs hH => ?_) (fun h1 q ce H locs hH hce hcv hcl => ?_)
  · refine lv_i2l hx hb d_L_symbol_7 rfl ?_
    refine h_store E hH (h_keep hH hO hno) hTl hno d_L_symbol_8 (fun H1 locs1 h2 h3 h4 => ?_)
    refine lv_goto (tgt := 15) hx hb d_L_symbol_9 (by decide) ?_
    refine lv_iconst (v := 0) hx hb d_L_symbol_15 (by decide) ?_
    refine h_more (c1 := 1) (s1 := 6) (Nat.le_of_ble_eq_true rfl) (Nat.le_of_ble_eq_true rfl) ?_
    exact h_ret E h2 (by rw [if_pos h1]; exact h3) h4 h1 d_L_symbol_16
  · have hk := k01_1 (k_symbol G0 a1) h1
    rw [xE_1 hk] at hcl
    refine h_catch1 E htab (by decide) (by decide) lk_L_13 hce hcv hcl ?_
    refine lv_astore_n hx hb d_L_symbol_12 rfl hl (by decide) rfl (fun ls hl => ?_)
    refine lv_iconst (v := 1) hx hb d_L_symbol_13 (by decide) ?_
    exact h_ret E hH.1 (by rw [if_neg h1]; exact h_keep hH hO hno) (hS_of hH.2) hk d_L_symbol_14
theorem k_aligned (G0 : Mem) (a1 : Int32) : k01 (sp_F_aligned G0 a1).1 := by
  unfold k01 sp_F_aligned
  repeat' split
  all_goals (dsimp only; first | with_reducible exact eo_k _ _ | with_reducible exact rq_k _ _ | with_reducible exact Or.inl rfl | with_reducible exact Or.inr rfl)
set_option maxHeartbeats 4000000 in
set_option maxRecDepth 100000 in
theorem c_L_aligned (l : Launch) (htr : l.stackTraces = false) (P : gP) (o : Nat) (cL : ClassId) (v : Int64) (G0 : Mem) (a1 : Int32) : hMet l y_L_aligned b_L_aligned 4 (some .int) [(0, 16, 19, 13)] ({ frames := 9, cells := 1, slots := 6, locals := 152 }) [.ref (gad P 0), .int a1, .ref o] P o cL v zL G0 (sp_F_aligned G0 a1) := by
  refine va_MetW (cc := b_L_aligned) (maxL := 4) (ret := (some .int)) (hh := [(0, 16, 19, 13)]) (by decide) rfl ?_
  intro p e s m args below meth c0 s₁ B hml hv
  obtain ⟨rfl, hpre⟩ := hv
  obtain ⟨⟨E, hH⟩, hx0, htab⟩ := gE_ofH B hml hpre
  obtain ⟨-, hO, hTl, hno⟩ := hpre
  replace E : gE p s m _ meth c0 P "FramedLineLaw" b_L_aligned 4 (some .int) := E
  have hx := E.1
  have hb := E.2.1
  have hl := lv_entry ([.ref (gad P 0), .int a1, .ref o]) (n := 4) (Nat.le_of_ble_eq_true rfl)
  rw [lg_entry_eq]
  generalize (lg_sl ([.ref (gad P 0), .int a1, .ref o]) ++ List.replicate (4 - (lg_sl ([.ref (gad P 0), .int a1, .ref o])).length) Slot.unset).toArray = ls at hl ⊢
  replace hl : lv_has ls 4 [(0, .ref (gad P 0)), (1, .int a1), (2, .ref o)] := hl
  refine lv_aload_n hx hb d_L_aligned_0 rfl (lv_at hl 2 rfl) ?_
  refine lv_iconst (v := 0) hx hb d_L_aligned_1 (by decide) ?_
  refine lv_aload_n hx hb d_L_aligned_2 rfl (lv_at hl 0 rfl) ?_
  refine lv_iload_n hx hb d_L_aligned_3 rfl (lv_at hl 1 rfl) ?_
  refine x_callV (As := [.int _]) E hx0 hH hl (c_F_aligned l htr P _ _) lm_L_31 (gc_F rfl) cl_F (Nat.le_of_ble_eq_true rfl) (Nat.le_of_ble_eq_true rfl) (Nat.le_of_ble_eq_true rfl) (Nat.le_of_ble_eq_true rfl) (Nat.le_of_ble_eq_true rfl) rfl rfl d_L_aligned_4 (fun h1 H locs hH => ?_) (fun h1 q ce H locs hH hce hcv hcl => ?_)
  · refine lv_if_eq (tgt := 14) hx hb d_L_aligned_7 (by decide) (fun h9 => ?_) (fun h9 => ?_)
    · refine lv_lconst (v := 0) hx hb d_L_aligned_14 rfl ?_
      refine h_store E hH (h_keep hH hO hno) hTl hno d_L_aligned_15 (fun H1 locs1 h2 h3 h4 => ?_)
      refine lv_goto (tgt := 22) hx hb d_L_aligned_16 (by decide) ?_
      refine lv_iconst (v := 0) hx hb d_L_aligned_22 (by decide) ?_
      refine h_more (c1 := 1) (s1 := 6) (Nat.le_of_ble_eq_true rfl) (Nat.le_of_ble_eq_true rfl) ?_
      exact h_ret E h2 (by rw [if_pos h1]; unfold zL; rw [if_pos h9]; exact h3) h4 h1 d_L_aligned_23
    · refine lv_lconst (v := 1) hx hb d_L_aligned_10 rfl ?_
      refine lv_goto (tgt := 15) hx hb d_L_aligned_11 (by decide) ?_
      refine h_store E hH (h_keep hH hO hno) hTl hno d_L_aligned_15 (fun H1 locs1 h2 h3 h4 => ?_)
      refine lv_goto (tgt := 22) hx hb d_L_aligned_16 (by decide) ?_
      refine lv_iconst (v := 0) hx hb d_L_aligned_22 (by decide) ?_
      refine h_more (c1 := 1) (s1 := 6) (Nat.le_of_ble_eq_true rfl) (Nat.le_of_ble_eq_true rfl) ?_
      exact h_ret E h2 (by rw [if_pos h1]; unfold zL; rw [if_neg h9]; exact h3) h4 h1 d_L_aligned_23
  · have hk := k01_1 (k_aligned G0 a1) h1
    rw [xE_1 hk] at hcl
    refine h_catch1 E htab (by decide) (by decide) lk_L_13 hce hcv hcl ?_
    refine lv_astore_n hx hb d_L_aligned_19 rfl hl (by decide) rfl (fun ls hl => ?_)
    refine lv_iconst (v := 1) hx hb d_L_aligned_20 (by decide) ?_
    exact h_ret E hH.1 (by rw [if_neg h1]; exact h_keep hH hO hno) (hS_of hH.2) hk d_L_aligned_21
theorem k_frame (G0 : Mem) (a1 : Int32) : k01 (sp_F_frame G0 a1).1 := by
  unfold k01 sp_F_frame
  repeat' split
  all_goals (dsimp only; first | with_reducible exact eo_k _ _ | with_reducible exact rq_k _ _ | with_reducible exact Or.inl rfl | with_reducible exact Or.inr rfl)
set_option maxHeartbeats 4000000 in
set_option maxRecDepth 100000 in
theorem c_L_frame (l : Launch) (htr : l.stackTraces = false) (P : gP) (o : Nat) (cL : ClassId) (v : Int64) (G0 : Mem) (a1 : Int32) : hMet l y_L_frame b_L_frame 4 (some .int) [(0, 9, 12, 13)] ({ frames := 9, cells := 1, slots := 6, locals := 152 }) [.ref (gad P 0), .int a1, .ref o] P o cL v iL G0 (sp_F_frame G0 a1) := by
  refine va_MetW (cc := b_L_frame) (maxL := 4) (ret := (some .int)) (hh := [(0, 9, 12, 13)]) (by decide) rfl ?_
  intro p e s m args below meth c0 s₁ B hml hv
  obtain ⟨rfl, hpre⟩ := hv
  obtain ⟨⟨E, hH⟩, hx0, htab⟩ := gE_ofH B hml hpre
  obtain ⟨-, hO, hTl, hno⟩ := hpre
  replace E : gE p s m _ meth c0 P "FramedLineLaw" b_L_frame 4 (some .int) := E
  have hx := E.1
  have hb := E.2.1
  have hl := lv_entry ([.ref (gad P 0), .int a1, .ref o]) (n := 4) (Nat.le_of_ble_eq_true rfl)
  rw [lg_entry_eq]
  generalize (lg_sl ([.ref (gad P 0), .int a1, .ref o]) ++ List.replicate (4 - (lg_sl ([.ref (gad P 0), .int a1, .ref o])).length) Slot.unset).toArray = ls at hl ⊢
  replace hl : lv_has ls 4 [(0, .ref (gad P 0)), (1, .int a1), (2, .ref o)] := hl
  refine lv_aload_n hx hb d_L_frame_0 rfl (lv_at hl 2 rfl) ?_
  refine lv_iconst (v := 0) hx hb d_L_frame_1 (by decide) ?_
  refine lv_aload_n hx hb d_L_frame_2 rfl (lv_at hl 0 rfl) ?_
  refine lv_iload_n hx hb d_L_frame_3 rfl (lv_at hl 1 rfl) ?_
  refine x_callV (As := [.int _]) E hx0 hH hl (c_F_frame l htr P _ _) lm_L_34 (gc_F rfl) cl_F (Nat.le_of_ble_eq_true rfl) (Nat.le_of_ble_eq_true rfl) (Nat.le_of_ble_eq_true rfl) (Nat.le_of_ble_eq_true rfl) (Nat.le_of_ble_eq_true rfl) rfl rfl d_L_frame_4 (fun h1 H locs hH => ?_) (fun h1 q ce H locs hH hce hcv hcl => ?_)
  · refine lv_i2l hx hb d_L_frame_7 rfl ?_
    refine h_store E hH (h_keep hH hO hno) hTl hno d_L_frame_8 (fun H1 locs1 h2 h3 h4 => ?_)
    refine lv_goto (tgt := 15) hx hb d_L_frame_9 (by decide) ?_
    refine lv_iconst (v := 0) hx hb d_L_frame_15 (by decide) ?_
    refine h_more (c1 := 1) (s1 := 6) (Nat.le_of_ble_eq_true rfl) (Nat.le_of_ble_eq_true rfl) ?_
    exact h_ret E h2 (by rw [if_pos h1]; exact h3) h4 h1 d_L_frame_16
  · have hk := k01_1 (k_frame G0 a1) h1
    rw [xE_1 hk] at hcl
    refine h_catch1 E htab (by decide) (by decide) lk_L_13 hce hcv hcl ?_
    refine lv_astore_n hx hb d_L_frame_12 rfl hl (by decide) rfl (fun ls hl => ?_)
    refine lv_iconst (v := 1) hx hb d_L_frame_13 (by decide) ?_
    exact h_ret E hH.1 (by rw [if_neg h1]; exact h_keep hH hO hno) (hS_of hH.2) hk d_L_frame_14
theorem k_slot (G0 : Mem) (a1 a2 : Int32) : k01 (sp_F_slot G0 a1 a2).1 := by
  unfold k01 sp_F_slot
  repeat' split
  all_goals (dsimp only; first | with_reducible exact eo_k _ _ | with_reducible exact rq_k _ _ | with_reducible exact Or.inl rfl | with_reducible exact Or.inr rfl)
set_option maxHeartbeats 4000000 in
set_option maxRecDepth 100000 in
theorem c_L_slot (l : Launch) (htr : l.stackTraces = false) (P : gP) (o : Nat) (cL : ClassId) (v : Int64) (G0 : Mem) (a1 a2 : Int32) : hMet l y_L_slot b_L_slot 5 (some .int) [(0, 10, 13, 13)] ({ frames := 9, cells := 1, slots := 6, locals := 154 }) [.ref (gad P 0), .int a1, .int a2, .ref o] P o cL v iL G0 (sp_F_slot G0 a1 a2) := by
  refine va_MetW (cc := b_L_slot) (maxL := 5) (ret := (some .int)) (hh := [(0, 10, 13, 13)]) (by decide) rfl ?_
  intro p e s m args below meth c0 s₁ B hml hv
  obtain ⟨rfl, hpre⟩ := hv
  obtain ⟨⟨E, hH⟩, hx0, htab⟩ := gE_ofH B hml hpre
  obtain ⟨-, hO, hTl, hno⟩ := hpre
  replace E : gE p s m _ meth c0 P "FramedLineLaw" b_L_slot 5 (some .int) := E
  have hx := E.1
  have hb := E.2.1
  have hl := lv_entry ([.ref (gad P 0), .int a1, .int a2, .ref o]) (n := 5) (Nat.le_of_ble_eq_true rfl)
  rw [lg_entry_eq]
  generalize (lg_sl ([.ref (gad P 0), .int a1, .int a2, .ref o]) ++ List.replicate (5 - (lg_sl ([.ref (gad P 0), .int a1, .int a2, .ref o])).length) Slot.unset).toArray = ls at hl ⊢
  replace hl : lv_has ls 5 [(0, .ref (gad P 0)), (1, .int a1), (2, .int a2), (3, .ref o)] := hl
  refine lv_aload_n hx hb d_L_slot_0 rfl (lv_at hl 3 rfl) ?_
  refine lv_iconst (v := 0) hx hb d_L_slot_1 (by decide) ?_
  refine lv_aload_n hx hb d_L_slot_2 rfl (lv_at hl 0 rfl) ?_
  refine lv_iload_n hx hb d_L_slot_3 rfl (lv_at hl 1 rfl) ?_
  refine lv_iload_n hx hb d_L_slot_4 rfl (lv_at hl 2 rfl) ?_
  refine x_callV (As := [.int _, .int _]) E hx0 hH hl (c_F_slot l htr P _ _ _) lm_L_37 (gc_F rfl) cl_F (Nat.le_of_ble_eq_true rfl) (Nat.le_of_ble_eq_true rfl) (Nat.le_of_ble_eq_true rfl) (Nat.le_of_ble_eq_true rfl) (Nat.le_of_ble_eq_true rfl) rfl rfl d_L_slot_5 (fun h1 H locs hH => ?_) (fun h1 q ce H locs hH hce hcv hcl => ?_)
  · refine lv_i2l hx hb d_L_slot_8 rfl ?_
    refine h_store E hH (h_keep hH hO hno) hTl hno d_L_slot_9 (fun H1 locs1 h2 h3 h4 => ?_)
    refine lv_goto (tgt := 17) hx hb d_L_slot_10 (by decide) ?_
    refine lv_iconst (v := 0) hx hb d_L_slot_17 (by decide) ?_
    refine h_more (c1 := 1) (s1 := 6) (Nat.le_of_ble_eq_true rfl) (Nat.le_of_ble_eq_true rfl) ?_
    exact h_ret E h2 (by rw [if_pos h1]; exact h3) h4 h1 d_L_slot_18
  · have hk := k01_1 (k_slot G0 a1 a2) h1
    rw [xE_1 hk] at hcl
    refine h_catch1 E htab (by decide) (by decide) lk_L_13 hce hcv hcl ?_
    refine lv_astore hx hb d_L_slot_13 hl (by decide) rfl (fun ls hl => ?_)
    refine lv_iconst (v := 1) hx hb d_L_slot_15 (by decide) ?_
    exact h_ret E hH.1 (by rw [if_neg h1]; exact h_keep hH hO hno) (hS_of hH.2) hk d_L_slot_16
theorem k_alarm (G0 : Mem) (a1 : Int32) : k01 (sp_F_alarm G0 a1).1 := by
  unfold k01 sp_F_alarm
  repeat' split
  all_goals (dsimp only; first | with_reducible exact eo_k _ _ | with_reducible exact rq_k _ _ | with_reducible exact Or.inl rfl | with_reducible exact Or.inr rfl)
set_option maxHeartbeats 4000000 in
set_option maxRecDepth 100000 in
theorem c_L_alarm (l : Launch) (htr : l.stackTraces = false) (P : gP) (o : Nat) (cL : ClassId) (v : Int64) (G0 : Mem) (a1 : Int32) : hMet l y_L_alarm b_L_alarm 4 (some .int) [(0, 16, 19, 13)] ({ frames := 9, cells := 1, slots := 6, locals := 152 }) [.ref (gad P 0), .int a1, .ref o] P o cL v zL G0 (sp_F_alarm G0 a1) := by
  refine va_MetW (cc := b_L_alarm) (maxL := 4) (ret := (some .int)) (hh := [(0, 16, 19, 13)]) (by decide) rfl ?_
  intro p e s m args below meth c0 s₁ B hml hv
  obtain ⟨rfl, hpre⟩ := hv
  obtain ⟨⟨E, hH⟩, hx0, htab⟩ := gE_ofH B hml hpre
  obtain ⟨-, hO, hTl, hno⟩ := hpre
  replace E : gE p s m _ meth c0 P "FramedLineLaw" b_L_alarm 4 (some .int) := E
  have hx := E.1
  have hb := E.2.1
  have hl := lv_entry ([.ref (gad P 0), .int a1, .ref o]) (n := 4) (Nat.le_of_ble_eq_true rfl)
  rw [lg_entry_eq]
  generalize (lg_sl ([.ref (gad P 0), .int a1, .ref o]) ++ List.replicate (4 - (lg_sl ([.ref (gad P 0), .int a1, .ref o])).length) Slot.unset).toArray = ls at hl ⊢
  replace hl : lv_has ls 4 [(0, .ref (gad P 0)), (1, .int a1), (2, .ref o)] := hl
  refine lv_aload_n hx hb d_L_alarm_0 rfl (lv_at hl 2 rfl) ?_
  refine lv_iconst (v := 0) hx hb d_L_alarm_1 (by decide) ?_
  refine lv_aload_n hx hb d_L_alarm_2 rfl (lv_at hl 0 rfl) ?_
  refine lv_iload_n hx hb d_L_alarm_3 rfl (lv_at hl 1 rfl) ?_
  refine x_callV (As := [.int _]) E hx0 hH hl (c_F_alarm l htr P _ _) lm_L_41 (gc_F rfl) cl_F (Nat.le_of_ble_eq_true rfl) (Nat.le_of_ble_eq_true rfl) (Nat.le_of_ble_eq_true rfl) (Nat.le_of_ble_eq_true rfl) (Nat.le_of_ble_eq_true rfl) rfl rfl d_L_alarm_4 (fun h1 H locs hH => ?_) (fun h1 q ce H locs hH hce hcv hcl => ?_)
  · refine lv_if_eq (tgt := 14) hx hb d_L_alarm_7 (by decide) (fun h9 => ?_) (fun h9 => ?_)
    · refine lv_lconst (v := 0) hx hb d_L_alarm_14 rfl ?_
      refine h_store E hH (h_keep hH hO hno) hTl hno d_L_alarm_15 (fun H1 locs1 h2 h3 h4 => ?_)
      refine lv_goto (tgt := 22) hx hb d_L_alarm_16 (by decide) ?_
      refine lv_iconst (v := 0) hx hb d_L_alarm_22 (by decide) ?_
      refine h_more (c1 := 1) (s1 := 6) (Nat.le_of_ble_eq_true rfl) (Nat.le_of_ble_eq_true rfl) ?_
      exact h_ret E h2 (by rw [if_pos h1]; unfold zL; rw [if_pos h9]; exact h3) h4 h1 d_L_alarm_23
    · refine lv_lconst (v := 1) hx hb d_L_alarm_10 rfl ?_
      refine lv_goto (tgt := 15) hx hb d_L_alarm_11 (by decide) ?_
      refine h_store E hH (h_keep hH hO hno) hTl hno d_L_alarm_15 (fun H1 locs1 h2 h3 h4 => ?_)
      refine lv_goto (tgt := 22) hx hb d_L_alarm_16 (by decide) ?_
      refine lv_iconst (v := 0) hx hb d_L_alarm_22 (by decide) ?_
      refine h_more (c1 := 1) (s1 := 6) (Nat.le_of_ble_eq_true rfl) (Nat.le_of_ble_eq_true rfl) ?_
      exact h_ret E h2 (by rw [if_pos h1]; unfold zL; rw [if_neg h9]; exact h3) h4 h1 d_L_alarm_23
  · have hk := k01_1 (k_alarm G0 a1) h1
    rw [xE_1 hk] at hcl
    refine h_catch1 E htab (by decide) (by decide) lk_L_13 hce hcv hcl ?_
    refine lv_astore_n hx hb d_L_alarm_19 rfl hl (by decide) rfl (fun ls hl => ?_)
    refine lv_iconst (v := 1) hx hb d_L_alarm_20 (by decide) ?_
    exact h_ret E hH.1 (by rw [if_neg h1]; exact h_keep hH hO hno) (hS_of hH.2) hk d_L_alarm_21
theorem k_count (G0 : Mem) (a1 a2 : Int32) : k01 (sp_F_count G0 a1 a2).1 := by
  unfold k01 sp_F_count
  repeat' split
  all_goals (dsimp only; first | with_reducible exact eo_k _ _ | with_reducible exact rq_k _ _ | with_reducible exact Or.inl rfl | with_reducible exact Or.inr rfl)
set_option maxHeartbeats 4000000 in
set_option maxRecDepth 100000 in
theorem c_L_count (l : Launch) (htr : l.stackTraces = false) (P : gP) (o : Nat) (cL : ClassId) (v : Int64) (G0 : Mem) (a1 a2 : Int32) : hMet l y_L_count b_L_count 5 (some .int) [(0, 10, 13, 13)] ({ frames := 9, cells := 1, slots := 6, locals := 154 }) [.ref (gad P 0), .int a1, .int a2, .ref o] P o cL v iL G0 (sp_F_count G0 a1 a2) := by
  refine va_MetW (cc := b_L_count) (maxL := 5) (ret := (some .int)) (hh := [(0, 10, 13, 13)]) (by decide) rfl ?_
  intro p e s m args below meth c0 s₁ B hml hv
  obtain ⟨rfl, hpre⟩ := hv
  obtain ⟨⟨E, hH⟩, hx0, htab⟩ := gE_ofH B hml hpre
  obtain ⟨-, hO, hTl, hno⟩ := hpre
  replace E : gE p s m _ meth c0 P "FramedLineLaw" b_L_count 5 (some .int) := E
  have hx := E.1
  have hb := E.2.1
  have hl := lv_entry ([.ref (gad P 0), .int a1, .int a2, .ref o]) (n := 5) (Nat.le_of_ble_eq_true rfl)
  rw [lg_entry_eq]
  generalize (lg_sl ([.ref (gad P 0), .int a1, .int a2, .ref o]) ++ List.replicate (5 - (lg_sl ([.ref (gad P 0), .int a1, .int a2, .ref o])).length) Slot.unset).toArray = ls at hl ⊢
  replace hl : lv_has ls 5 [(0, .ref (gad P 0)), (1, .int a1), (2, .int a2), (3, .ref o)] := hl
  refine lv_aload_n hx hb d_L_count_0 rfl (lv_at hl 3 rfl) ?_
  refine lv_iconst (v := 0) hx hb d_L_count_1 (by decide) ?_
  refine lv_aload_n hx hb d_L_count_2 rfl (lv_at hl 0 rfl) ?_
  refine lv_iload_n hx hb d_L_count_3 rfl (lv_at hl 1 rfl) ?_
  refine lv_iload_n hx hb d_L_count_4 rfl (lv_at hl 2 rfl) ?_
  refine x_callV (As := [.int _, .int _]) E hx0 hH hl (c_F_count l htr P _ _ _) lm_L_44 (gc_F rfl) cl_F (Nat.le_of_ble_eq_true rfl) (Nat.le_of_ble_eq_true rfl) (Nat.le_of_ble_eq_true rfl) (Nat.le_of_ble_eq_true rfl) (Nat.le_of_ble_eq_true rfl) rfl rfl d_L_count_5 (fun h1 H locs hH => ?_) (fun h1 q ce H locs hH hce hcv hcl => ?_)
  · refine lv_i2l hx hb d_L_count_8 rfl ?_
    refine h_store E hH (h_keep hH hO hno) hTl hno d_L_count_9 (fun H1 locs1 h2 h3 h4 => ?_)
    refine lv_goto (tgt := 17) hx hb d_L_count_10 (by decide) ?_
    refine lv_iconst (v := 0) hx hb d_L_count_17 (by decide) ?_
    refine h_more (c1 := 1) (s1 := 6) (Nat.le_of_ble_eq_true rfl) (Nat.le_of_ble_eq_true rfl) ?_
    exact h_ret E h2 (by rw [if_pos h1]; exact h3) h4 h1 d_L_count_18
  · have hk := k01_1 (k_count G0 a1 a2) h1
    rw [xE_1 hk] at hcl
    refine h_catch1 E htab (by decide) (by decide) lk_L_13 hce hcv hcl ?_
    refine lv_astore hx hb d_L_count_13 hl (by decide) rfl (fun ls hl => ?_)
    refine lv_iconst (v := 1) hx hb d_L_count_15 (by decide) ?_
    exact h_ret E hH.1 (by rw [if_neg h1]; exact h_keep hH hO hno) (hS_of hH.2) hk d_L_count_16
