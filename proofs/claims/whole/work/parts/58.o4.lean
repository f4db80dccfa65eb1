theorem zb_ite (p : Prop) [Decidable p] : zb (if p then 0 else 1) = if p then 0 else 1 := by by_cases hp : p <;> simp [hp] <;> rfl
theorem one_bit {f : Int32} (hf : f = 0 ∨ f = 1) : ((0 : Int32) <<< ((1 : Int32) &&& 31)) ||| f = f := by rcases hf with rfl | rfl <;> decide
theorem low_first {x f : Int32} (hf : f = 0 ∨ f = 1) : lowEq (((x <<< ((1 : Int32) &&& 31)) ||| f) &&& 15) f 1 := by
  have h := low_shift (x := x) (y := 0) (f := f) (m := 15) (n := 0) (N := 4) b_15 (by omega) hf ⟨fun i hi => absurd hi (by omega), fun i _ => b_0 i⟩ (by omega)
  rw [one_bit hf] at h
  exact h
set_option maxHeartbeats 4000000 in
theorem H_step {A A3 B G : Mem} {c : Nat} {e w o ev : Int32} {q q' : Nat} (he : e = 0 ∨ e = 1) (hq : q < 16) (hq' : q' = (q + 1) % 16) (h : RH A B c e q) (hbl : bitsLt (A c 8) 4) (hoe : (ev = 1 ∧ o = 0) ∨ (ev = 0 ∧ o = 1)) (hpar : ev = 1 ↔ q % 2 = 1)
    (a0 : A3 c 0 = nI q') (a4 : A3 c 4 = A c 4) (a5 : A3 c 5 = A c 5) (a7 : A3 c 7 = A c 7) (a6 : A3 c 6 = ck w 31 (wf (A c 6) (if o = 0 then 0 else iu w 31))) (a8 : A3 c 8 = if o = 0 then ((A c 8 <<< ((1 : Int32) &&& 31)) ||| iu w 31) &&& (15 : Int32) else A c 8)
    (a9 : zb (A3 c 9) = G 62 (tn (2 * e))) (a10 : zb (A3 c 10) = G 62 (tn (2 * e + 1))) (a11 : A3 c 11 = G 63 (tn (5 * e + 3)))
    (g53 : G 53 (tn e) = nI q') (g47 : G 47 (tn e) = ev) (g57 : G 57 (tn e) = B 57 (tn e)) (g58 : G 58 (tn e) = B 58 (tn e)) (g59 : G 59 (tn e) = B 59 (tn e)) (g60 : G 60 (tn e) = B 60 (tn e)) (g61 : G 61 (tn e) = B 61 (tn e)) :
    RH (tf4 c A3) (sp_M_halves G e w (iu w 31)) c e q' ∧ zb (tf4 c A3 c 9) = sp_M_halves G e w (iu w 31) 62 (tn (2 * e)) ∧ zb (tf4 c A3 c 10) = sp_M_halves G e w (iu w 31) 62 (tn (2 * e + 1)) ∧ tf4 c A3 c 11 = sp_M_halves G e w (iu w 31) 63 (tn (5 * e + 3)) ∧
    (tf4 c A3 c 0 = A3 c 0 ∧ tf4 c A3 c 1 = A3 c 1 ∧ tf4 c A3 c 2 = A3 c 2 ∧ tf4 c A3 c 3 = A3 c 3 ∧ tf4 c A3 c 8 = A3 c 8 ∧ tf4 c A3 c 12 = A3 c 12) ∧ (∀ k, k ≠ tn (5 * e + 3) → sp_M_halves G e w (iu w 31) 63 k = G 63 k) := by
  obtain ⟨h57, h60, hn7, h7, h61, h59⟩ := h
  have hq2 : q' < 16 := by omega
  have hf := iu_31_or w
  have hck : (if o = 0 then (0 : Int32) else iu w 31) = (if ev = 0 then iu w 31 else 0) := by
    rcases hoe with ⟨rfl, rfl⟩ | ⟨rfl, rfl⟩ <;> simp
  rw [hck] at a6
  rw [hvs_eq G e w (iu w 31) q' hq2 g53, tf4_rd c A3 hq2 a0]
  by_cases c0 : q' % 8 = 0
  · -- the first frame of a half
    have ho : ev = 1 ∧ o = 0 := by
      rcases hoe with h9 | h9
      · exact h9
      · exfalso
        have : ev = 1 := hpar.mpr (by omega)
        rw [h9.1] at this
        exact absurd this (by decide)
    obtain ⟨rfl, rfl⟩ := ho
    obtain ⟨p4, p5, p60, p6⟩ := h7 (by omega)
    have c7 : ¬ q' % 8 = 7 := by omega
    have w57 : hvW G e q' 57 (tn e) = 1 := by unfold hvW; rw [if_pos c0]; simp [wr_r]
    rw [w57, if_neg (show ¬ (1 : Int32) = 0 by decide), if_neg c7, if_neg c7]
    have x57 : hv3 (hvW G e q') e w (iu w 31) 57 (tn e) = 1 := by unfold hv3 hvK; simp [wr_r, w57]
    have x60 : hv3 (hvW G e q') e w (iu w 31) 60 (tn e) = B 60 (tn e) := by unfold hv3 hvK hvW; rw [if_pos c0]; simp [wr_r, g60]
    have x61 : hv3 (hvW G e q') e w (iu w 31) 61 (tn e) = B 61 (tn e) := by unfold hv3 hvK hvW; rw [if_pos c0]; simp [wr_r, g61]
    have x58 : hv3 (hvW G e q') e w (iu w 31) 58 (tn e) = ck w 31 (wf 0 0) := by unfold hv3 hvK hvW; rw [if_pos c0]; simp [wr_r, g47]
    have x59 : hv3 (hvW G e q') e w (iu w 31) 59 (tn e) = iu w 31 := by unfold hv3 hvK hvW; rw [if_pos c0]; simp [wr_r, g47]
    have x62 : ∀ k, hv3 (hvW G e q') e w (iu w 31) 62 k = G 62 k := by intro k; unfold hv3 hvK hvW; rw [if_pos c0]; simp [wr_r]
    have x63 : ∀ k, hv3 (hvW G e q') e w (iu w 31) 63 k = G 63 k := by intro k; unfold hv3 hvK hvW; rw [if_pos c0]; simp [wr_r]
    refine ⟨⟨Or.inr x57, ?_, fun _ => ⟨?_, ?_, fun _ => ?_⟩, fun h9 => absurd h9 c7, ?_, fun _ => ?_⟩, by rw [x62]; exact a9, by rw [x62]; exact a10, by rw [x63]; exact a11, ⟨rfl, rfl, rfl, rfl, rfl, rfl⟩, fun k _ => x63 k⟩
    · rw [x60, x57]; exact h60.imp_right (fun h9 => ⟨h9.1, rfl⟩)
    · rw [a4, p4, x57]
    · rw [a5, p5, x60, p60]
    · rw [a6, p6, x58]; rfl
    · rw [x60, x61, a7]; exact h61
    · rw [a8, if_pos rfl, x59, c0]; exact low_first hf
  · have hW : hvW G e q' = G := by unfold hvW; rw [if_neg c0]
    rw [hW, g57]
    obtain ⟨p4, p5, p6⟩ := hn7 (by omega)
    have x57 : ∀ f, hv3 G e w f 57 (tn e) = B 57 (tn e) := fun f => by unfold hv3 hvK; simp [wr_r, g57]
    have x60 : ∀ f, hv3 G e w f 60 (tn e) = B 60 (tn e) := fun f => by unfold hv3 hvK; simp [wr_r, g60]
    have x61 : ∀ f, hv3 G e w f 61 (tn e) = B 61 (tn e) := fun f => by unfold hv3 hvK; simp [wr_r, g61]
    have x58 : ∀ f, hv3 G e w f 58 (tn e) = ck w 31 (wf (B 58 (tn e)) (if ev = 0 then iu w 31 else 0)) := fun f => by unfold hv3 hvK; simp [wr_r, g47, g58]
    have x59 : ∀ f, hv3 G e w f 59 (tn e) = if ev = 0 then B 59 (tn e) else (B 59 (tn e) <<< ((1 : Int32) &&& 31)) ||| f := fun f => by unfold hv3 hvK; simp [wr_r, g47, g59]
    have x62 : ∀ f k, hv3 G e w f 62 k = G 62 k := by intro f k; unfold hv3 hvK; simp [wr_r]
    have x63 : ∀ f k, hv3 G e w f 63 k = G 63 k := by intro f k; unfold hv3 hvK; simp [wr_r]
    by_cases c7 : q' % 8 = 7
    · -- the last frame of a half
      have ho : ev = 0 ∧ o = 1 := by
        rcases hoe with h9 | h9
        · exfalso
          have := hpar.mp h9.1
          omega
        · exact h9
      obtain ⟨rfl, rfl⟩ := ho
      rw [if_neg (show ¬ (1 : Int32) = 0 by decide)] at a8
      rw [if_pos c7]
      obtain ⟨t4, t5, t6, t7, t0, t1, t2, t3, t8, t12, t11, t9, t10⟩ := eh_rd c A3
      rcases h57 with z57 | z57
      · -- not whole: nothing is judged
        have z60 : B 60 (tn e) = 0 := by
          rcases h60 with h9 | h9
          · exact h9
          · rw [z57] at h9; exact absurd h9.2 (by decide)
        rw [z57, if_pos rfl]
        have z5 : zb (A3 c 5) = 0 := by rw [a5, p5, z60]
        rw [z5] at t11 t9 t10
        refine ⟨⟨Or.inl (by rw [g57, z57]), Or.inl (by rw [g60, z60]), fun h9 => absurd c7 h9, fun _ => ⟨by rw [t4]; rfl, ?_, by rw [g60, g57, z60, z57], t6⟩, fun h9 => by rw [g60, z60] at h9; exact absurd h9 (by decide), fun h9 => by rw [g57, z57] at h9; exact absurd h9 (by decide)⟩, ?_, ?_, ?_, ⟨t0, t1, t2, t3, t8, t12⟩, fun _ _ => rfl⟩
        · rw [t5, g57, a4, p4, z57]; rfl
        · rw [t9]; simp; exact a9
        · rw [t10]; simp; exact a10
        · rw [t11]; unfold inc; simp; exact a11
      · rw [z57, if_neg (show ¬ (1 : Int32) = 0 by decide), if_pos c7]
        have l4 := h59 z57
        have e4 : q % 8 / 2 + 1 = 4 := by omega
        rw [e4] at l4
        have e8 : A3 c 8 = B 59 (tn e) := by rw [a8]; exact lowEq_eq l4 hbl
        have x59' : hv3 G e w (iu w 31) 59 (tn e) = B 59 (tn e) := by rw [x59, if_pos rfl]
        have e6 : A3 c 6 = hv3 G e w (iu w 31) 58 (tn e) := by rw [a6, x58, p6 z57]
        have y57 : hv4 (hv3 G e w (iu w 31)) e q' 57 (tn e) = 1 := by
          unfold hv4 sp_M_fault
          split <;> simp [wr_r, x57, z57]
        have y60 : hv4 (hv3 G e w (iu w 31)) e q' 60 (tn e) = 1 := by unfold hv4; simp [wr_r]
        have y61 : hv4 (hv3 G e w (iu w 31)) e q' 61 (tn e) = A3 c 6 := by unfold hv4; rw [wr_same, e6]
        have y59 : hv4 (hv3 G e w (iu w 31)) e q' 59 (tn e) = B 59 (tn e) := by
          unfold hv4 sp_M_fault
          split <;> simp [wr_r, x59']
        have hk63 : ∀ k, k ≠ tn (5 * e + 3) → hv4 (hv3 G e w (iu w 31)) e q' 63 k = G 63 k := by
          intro k hk
          unfold hv4 sp_M_fault
          split <;> simp [wr_r, x63, hk]
        have hRH : RH (sp_O_endHalf c A3) (hv4 (hv3 G e w (iu w 31)) e q') c e q' := by
          refine ⟨Or.inr y57, Or.inr ⟨y60, y57⟩, fun h9 => absurd c7 h9, fun _ => ⟨by rw [t4]; rfl, by rw [t5, y57, a4, p4, z57]; rfl, by rw [y60, y57], t6⟩, fun _ => by rw [t7, y61], fun _ => ?_⟩
          rw [t8, y59, a8]
          have : q' % 8 / 2 + 1 = 4 := by omega
          rw [this]
          exact l4
        refine ⟨hRH, ?_, ?_, ?_, ⟨t0, t1, t2, t3, t8, t12⟩, hk63⟩
        all_goals rcases h60 with z60 | ⟨z60, -⟩
        · have z5 : zb (A3 c 5) = 0 := by rw [a5, p5, z60]
          rw [t9, z5]
          unfold hv4
          rw [x60, if_pos z60]
          simp [wr_r, x62]
          exact a9
        · have z5 : zb (A3 c 5) = 1 := by rw [a5, p5, z60]
          rw [t9, z5, a0, e8, a7, h61 z60]
          unfold hv4
          rw [x60, if_neg (show ¬ B 60 (tn e) = 0 by rw [z60]; decide), x59', x61]
          have h15 := (m8_0 q' hq2).2.2.1
          by_cases hh : q' = 15
          · rw [if_pos ⟨by decide, h15.mpr hh⟩, if_pos hh]
            rw [zb_ite]; rcases he with rfl | rfl <;> simp [wr_r, tn_0, tn_1, tn_2, tn_3]
          · rw [if_neg (fun h9 => hh (h15.mp h9.2)), if_neg hh, a9]
            rcases he with rfl | rfl <;> unfold sp_M_fault <;> simp [wr_r, tn_0, tn_1, tn_2, tn_3, x62]
        · have z5 : zb (A3 c 5) = 0 := by rw [a5, p5, z60]
          rw [t10, z5]
          unfold hv4
          rw [x60, if_pos z60]
          simp [wr_r, x62]
          exact a10
        · have z5 : zb (A3 c 5) = 1 := by rw [a5, p5, z60]
          rw [t10, z5, a0, e8, a7, h61 z60]
          unfold hv4
          rw [x60, if_neg (show ¬ B 60 (tn e) = 0 by rw [z60]; decide), x59', x61]
          have h15 := (m8_0 q' hq2).2.2.1
          by_cases hh : q' = 15
          · rw [if_neg (fun h9 => h9.2 (h15.mpr hh)), if_pos hh, a10]
            rcases he with rfl | rfl <;> unfold sp_M_fault <;> simp [wr_r, tn_0, tn_1, tn_2, tn_3, x62]
          · rw [if_pos ⟨by decide, fun h9 => hh (h15.mp h9)⟩, if_neg hh]
            rw [zb_ite]; rcases he with rfl | rfl <;> simp [wr_r, tn_0, tn_1, tn_2, tn_3]
        · have z5 : zb (A3 c 5) = 0 := by rw [a5, p5, z60]
          rw [t11, z5]
          unfold hv4 inc
          rw [x60, if_pos z60]
          simp [wr_r, x63]
          exact a11
        · have z5 : zb (A3 c 5) = 1 := by rw [a5, p5, z60]
          rw [t11, z5, e8, a7, h61 z60, a11]
          unfold hv4 inc
          rw [x60, if_neg (show ¬ B 60 (tn e) = 0 by rw [z60]; decide), x59', x61]
          unfold sp_M_fault
          by_cases hx : B 59 (tn e) = B 61 (tn e) <;> simp [hx, wr_r, x63]
    · rw [if_neg c7, if_neg c7]
      rcases h57 with z57 | z57
      · rw [z57, if_pos rfl]
        have z60 : B 60 (tn e) = 0 := by
          rcases h60 with h9 | h9
          · exact h9
          · rw [z57] at h9; exact absurd h9.2 (by decide)
        refine ⟨⟨Or.inl (by rw [g57, z57]), Or.inl (by rw [g60, z60]), fun _ => ⟨by rw [a4, p4, g57], by rw [a5, p5, g60], fun h9 => by rw [g57, z57] at h9; exact absurd h9 (by decide)⟩, fun h9 => absurd h9 c7, fun h9 => by rw [g60, z60] at h9; exact absurd h9 (by decide), fun h9 => by rw [g57, z57] at h9; exact absurd h9 (by decide)⟩, a9, a10, a11, ⟨rfl, rfl, rfl, rfl, rfl, rfl⟩, fun _ _ => rfl⟩
      · rw [z57, if_neg (show ¬ (1 : Int32) = 0 by decide)]
        have l := h59 z57
        refine ⟨⟨Or.inr (by rw [x57, z57]), by rw [x60, x57]; exact h60, fun _ => ⟨by rw [a4, p4, x57], by rw [a5, p5, x60], fun _ => by rw [a6, x58, p6 z57]⟩, fun h9 => absurd h9 c7, by rw [x60, x61, a7]; exact h61, fun _ => ?_⟩, by rw [x62]; exact a9, by rw [x62]; exact a10, by rw [x63]; exact a11, ⟨rfl, rfl, rfl, rfl, rfl, rfl⟩, fun k _ => x63 _ k⟩
        rw [a8, x59]
        rcases hoe with ⟨rfl, rfl⟩ | ⟨rfl, rfl⟩
        · have := hpar.mp rfl
          rw [if_pos rfl, if_neg (by decide), show q' % 8 / 2 + 1 = q % 8 / 2 + 1 + 1 by omega]
          exact low_shift b_15 (by omega) hf l (by omega)
        · have : ¬ q % 2 = 1 := fun h9 => absurd (hpar.mpr h9) (by decide)
          rw [if_neg (by decide), if_pos rfl, show q' % 8 / 2 + 1 = q % 8 / 2 + 1 by omega]
          exact l
