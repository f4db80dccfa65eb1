def sp_F_require  (G0 : Mem) (a1 : Int32) : Int32 × Int32 × Mem :=
  (if a1 = 0 then (1, 0, G0) else (0, 0, G0))
set_option maxHeartbeats 4000000 in
set_option maxRecDepth 100000 in
theorem c_F_require (l : Launch) (htr : l.stackTraces = false) (P : gP) (G0 : Mem)  (a1 : Int32)  : xMet l y_F_require b_F_require 1 none ({ frames := 6, cells := 1, slots := 6, locals := 90 }) [.int a1] vV P G0 (sp_F_require G0 a1) := by
  refine xMet.ofW (by decide) ?_
  intro p e s m args below meth c0 s₁ B hml hv
  obtain ⟨rfl, hpre⟩ := hv
  obtain ⟨⟨E, hH⟩, hx0, hno⟩ := gE_ofX B hml hpre
  replace E : gE p s m _ meth c0 P "FramedLine" b_F_require 1 none := E
  have hx := E.1
  have hb := E.2.1
  have hl := lv_entry ([.int a1]) (n := 1) (Nat.le_of_ble_eq_true rfl)
  rw [lg_entry_eq]
  generalize (lg_sl ([.int a1]) ++ List.replicate (1 - (lg_sl ([.int a1])).length) Slot.unset).toArray = ls at hl ⊢
  replace hl : lv_has ls 1 [(0, .int a1)] := hl
  have hsp : sp_F_require G0 a1 = sp_F_require G0 a1 := rfl
  refine lv_iload_n hx hb d_F_require_0 rfl (lv_at hl 0 rfl) ?_
  refine lv_if_ne (tgt := 14) hx hb d_F_require_1 (by decide) (fun h1 => ?_) (fun h1 => ?_)
  · exact x_vret E hH (hsp.trans (by rw [sp_F_require]; exact (if_neg h1))) d_F_require_14
  · have hX : sp_F_require G0 a1 = (1, 0, G0) := (hsp.trans (by rw [sp_F_require]; exact (if_pos h1)))
    exact x_throw E hx0 hH hl htr hno (by rw [hX]; show (1 : Int32) ≠ 0; decide) (by rw [hX]; rfl) (by rw [hX]) xOk_a (by decide +kernel) lk_F_123 li_IllegalArgumentException hx0.2.2.2.1 (Nat.le_of_ble_eq_true rfl) (Nat.le_of_ble_eq_true rfl) (Nat.le_of_ble_eq_true rfl) (Nat.le_of_ble_eq_true rfl) d_F_require_4 d_F_require_7 d_F_require_8 d_F_require_10 d_F_require_13

def sp_F_endOf  (G0 : Mem) (a1 : Int32) : Int32 × Int32 × Mem :=
  (if (sp_F_require G0 ((if a1 = 0 then 1 else (if a1 = 1 then 1 else 0)) : Int32)).1 = 0 then (if a1 = 0 then (0, 1, (sp_F_require G0 ((if a1 = 0 then 1 else (if a1 = 1 then 1 else 0)) : Int32)).2.2) else (0, 11, (sp_F_require G0 ((if a1 = 0 then 1 else (if a1 = 1 then 1 else 0)) : Int32)).2.2)) else ((sp_F_require G0 ((if a1 = 0 then 1 else (if a1 = 1 then 1 else 0)) : Int32)).1, 0, (sp_F_require G0 ((if a1 = 0 then 1 else (if a1 = 1 then 1 else 0)) : Int32)).2.2))
set_option maxHeartbeats 4000000 in
set_option maxRecDepth 100000 in
theorem c_F_endOf (l : Launch) (htr : l.stackTraces = false) (P : gP) (G0 : Mem)  (a1 : Int32)  : xMet l y_F_endOf b_F_endOf 2 (some (.object "FramedLine$End")) ({ frames := 7, cells := 1, slots := 6, locals := 110 }) [.ref (gad P 0), .int a1] (vR P) P G0 (sp_F_endOf G0 a1) := by
  refine xMet.ofW (by decide) ?_
  intro p e s m args below meth c0 s₁ B hml hv
  obtain ⟨rfl, hpre⟩ := hv
  obtain ⟨⟨E, hH⟩, hx0, hno⟩ := gE_ofX B hml hpre
  replace E : gE p s m _ meth c0 P "FramedLine" b_F_endOf 2 (some (.object "FramedLine$End")) := E
  have hx := E.1
  have hb := E.2.1
  have hl := lv_entry ([.ref (gad P 0), .int a1]) (n := 2) (Nat.le_of_ble_eq_true rfl)
  rw [lg_entry_eq]
  generalize (lg_sl ([.ref (gad P 0), .int a1]) ++ List.replicate (2 - (lg_sl ([.ref (gad P 0), .int a1])).length) Slot.unset).toArray = ls at hl ⊢
  replace hl : lv_has ls 2 [(0, .ref (gad P 0)), (1, .int a1)] := hl
  have hsp : sp_F_endOf G0 a1 = sp_F_endOf G0 a1 := rfl
  refine lv_iload_n hx hb d_F_endOf_0 rfl (lv_at hl 1 rfl) ?_
  refine jn (α := Int32) (fun z H1 locs1 => z = ((if a1 = 0 then 1 else (if a1 = 1 then 1 else 0)) : Int32) ∧ isB z ∧ gH P s G0 H1 locs1) (fun z => F0 m 14 ls (.int z :: [])) (fun z H locs h9 => ?_) (fun hJ => ?_)
  · obtain ⟨rfl, hz14, hH⟩ := h9
    refine x_callS (As := [.int _]) E hx0 hH hl (c_F_require l htr P _ _) lm_F_27 (Nat.le_of_ble_eq_true rfl) (Nat.le_of_ble_eq_true rfl) (Nat.le_of_ble_eq_true rfl) (Nat.le_of_ble_eq_true rfl) (Nat.le_of_ble_eq_true rfl) rfl rfl d_F_endOf_14 (fun h1 H locs hH => ?_) (fun h1 q ce H locs hH hce hcv hcl => ?_)
    · refine lv_iload_n hx hb d_F_endOf_17 rfl (lv_at hl 1 rfl) ?_
      refine lv_if_ne (tgt := 28) hx hb d_F_endOf_18 (by decide) (fun h2 => ?_) (fun h2 => ?_)
      · refine lv_aload_n hx hb d_F_endOf_28 rfl (lv_at hl 0 rfl) ?_
        refine g_get E hH (gc_F rfl) cl_F 1 (by decide) lf_F_16 rfl d_F_endOf_29 ?_
        exact x_aret (r := 11) E hH (hsp.trans (by rw [sp_F_endOf]; exact ((if_pos h1).trans (if_neg h2)))) (by decide) d_F_endOf_32
      · refine lv_aload_n hx hb d_F_endOf_21 rfl (lv_at hl 0 rfl) ?_
        refine g_get E hH (gc_F rfl) cl_F 0 (by decide) lf_F_10 rfl d_F_endOf_22 ?_
        refine lv_goto (tgt := 32) hx hb d_F_endOf_25 (by decide) ?_
        exact x_aret (r := 1) E hH (hsp.trans (by rw [sp_F_endOf]; exact ((if_pos h1).trans (if_pos h2)))) (by decide) d_F_endOf_32
    · exact x_on E hno h1 (hsp.trans (by rw [sp_F_endOf]; exact (if_neg h1))) hH hce hcv hcl
  · refine lv_if_eq (tgt := 9) hx hb d_F_endOf_1 (by decide) (fun h3 => ?_) (fun h3 => ?_)
    · refine lv_iconst (v := 1) hx hb d_F_endOf_9 (by decide) ?_
      refine lv_goto (tgt := 14) hx hb d_F_endOf_10 (by decide) ?_
      exact hJ _ _ _ ⟨by simp only [if_pos h3], isB_1, hH⟩
    · refine lv_iload_n hx hb d_F_endOf_4 rfl (lv_at hl 1 rfl) ?_
      refine lv_iconst (v := 1) hx hb d_F_endOf_5 (by decide) ?_
      refine lv_icmp_ne (tgt := 13) hx hb d_F_endOf_6 (by decide) (fun h4 => ?_) (fun h4 => ?_)
      · refine lv_iconst (v := 0) hx hb d_F_endOf_13 (by decide) ?_
        exact hJ _ _ _ ⟨by simp only [if_neg h3, if_neg h4], isB_0, hH⟩
      · refine lv_iconst (v := 1) hx hb d_F_endOf_9 (by decide) ?_
        refine lv_goto (tgt := 14) hx hb d_F_endOf_10 (by decide) ?_
        exact hJ _ _ _ ⟨by simp only [if_neg h3, if_pos h4], isB_1, hH⟩

theorem rq_mem (G : Mem) (x : Int32) : (sp_F_require G x).2.2 = G := by unfold sp_F_require; split <;> rfl
theorem rq_ok {G : Mem} {x : Int32} (h : (sp_F_require G x).1 = 0) : ¬ x = 0 := by
  unfold sp_F_require at h
  intro hx
  rw [if_pos hx] at h
  exact absurd (show (1 : Int32) = 0 from h) (by decide)
theorem eo_mem (G : Mem) (a : Int32) : (sp_F_endOf G a).2.2 = G := by
  unfold sp_F_endOf
  repeat' split
  all_goals first | rfl | exact rq_mem _ _
theorem eo_val (G : Mem) (a : Int32) : (a = 0 ∧ sp_F_endOf G a = (0, 1, G)) ∨ (a = 1 ∧ sp_F_endOf G a = (0, 11, G)) ∨ (¬ a = 0 ∧ ¬ a = 1 ∧ sp_F_endOf G a = (1, 0, G)) := by
  by_cases h0 : a = 0
  · subst h0
    exact Or.inl ⟨rfl, by simp [sp_F_endOf, sp_F_require]⟩
  · by_cases h1 : a = 1
    · subst h1
      exact Or.inr (Or.inl ⟨rfl, by simp [sp_F_endOf, sp_F_require]⟩)
    · exact Or.inr (Or.inr ⟨h0, h1, by simp [sp_F_endOf, sp_F_require, h0, h1]⟩)
theorem endOf_N {G : Mem} {a : Int32} (h : (sp_F_endOf G a).1 = 0) : kN (tn (sp_F_endOf G a).2.1) := by
  rcases eo_val G a with ⟨-, e⟩ | ⟨-, e⟩ | ⟨-, -, e⟩
  · rw [e]; exact Or.inl rfl
  · rw [e]; exact Or.inr rfl
  · rw [e] at h; exact absurd (show (1 : Int32) = 0 from h) (by decide)
theorem ld_hi {G : Mem} {a x : Int32} (h : (sp_F_require G (if a < 1 then 0 else (if 4 ≤ a then 0 else x))).1 = 0) : vp_in a 4 := by
  have h1 := rq_ok h
  by_cases c1 : a < 1
  · rw [if_pos c1] at h1; exact absurd rfl h1
  · rw [if_neg c1] at h1
    by_cases c2 : 4 ≤ a
    · rw [if_pos c2] at h1; exact absurd rfl h1
    · have c3 : a ≤ 3 := by
        rw [Int32.le_iff_toInt_le] at *
        have e4 : (4 : Int32).toInt = 4 := by decide
        have e3 : (3 : Int32).toInt = 3 := by decide
        omega
      have c4 : 0 ≤ a := Int32.le_trans (by decide : (0 : Int32) ≤ 1) (Int32.not_lt.mp c1)
      obtain ⟨j, hj, rfl⟩ := bd_nat (n := 3) (by decide) c4 c3
      exact vp_in_nI (by omega) (by omega)
