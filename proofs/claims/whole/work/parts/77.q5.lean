theorem Rel_hmM {n : Nat} {G : Mem} (h : Rel n G) : hmM G := by
  obtain ⟨t, -, -, -, hX, hY⟩ := h
  rintro e (rfl | rfl)
  · exact (RN_hm hX).2
  · exact (RN_hm hY).2
theorem Rel_hmC {n : Nat} {G : Mem} (h : Rel n G) : hmC G := by
  obtain ⟨t, -, -, -, hX, hY⟩ := h
  rintro b (rfl | rfl)
  · exact (RN_hm hX).1
  · exact (RN_hm hY).1
theorem hmM_congr {G G' : Mem} (h : G' 32 = G 32) (hm : hmM G) : hmM G' := fun e he => by rw [h]; exact hm e he
theorem ok_disturb {n : Nat} {G : Mem} (h : Rel n G) (a k s : Int32) : hmM (sp_F_disturb G a k s).2.2 ∧ okk Rel n (sp_F_disturb G a k s) (sp_M_disturb (sp_F_disturb G a k s).2.2 a k s) := by
  have hmG := Rel_hmM h
  rcases end_cases h a with ⟨b, t0, -, -, he, E, hb, -, hbe⟩ | ⟨h0, h1, E⟩
  · have hb1 : b = 1 ∨ b = 11 := by rcases hbe with ⟨-, h⟩ | ⟨-, h⟩; exact Or.inl h; exact Or.inr h
    have hF : sp_F_disturb G a k s = (if (sp_F_require G (if k < 1 then 0 else (if 1000 < k then 0 else (if s < (-1) then 0 else (if 1 < s then 0 else 1))))).1 = 0 then (if (sp_A_change (b + 4) G (G 0 2 + k) s).1 = 0 then (2, 0, (sp_A_change (b + 4) G (G 0 2 + k) s).2) else (0, (sp_A_change (b + 4) G (G 0 2 + k) s).2 (b + 4) 2, (sp_A_change (b + 4) G (G 0 2 + k) s).2)) else ((sp_F_require G (if k < 1 then 0 else (if 1000 < k then 0 else (if s < (-1) then 0 else (if 1 < s then 0 else 1))))).1, 0, G)) := by
      unfold sp_F_disturb; rw [E]; simp only [hb, if_true, rq_mem]
    by_cases c1 : k < 1
    · rw [if_pos c1, rq_0] at hF
      refine ⟨by rw [hF]; exact hmG, okk_of (Y := fun G => sp_M_disturb G a k s) (c := 1) (v1 := 0) (v2 := 0) h hF ?_ (fun _ => rfl)⟩
      show sp_M_disturb G a k s = _
      unfold sp_M_disturb; rw [ie_ok he, wi_no (Or.inl c1)]; rfl
    rw [if_neg c1] at hF
    by_cases c2 : 1000 < k
    · rw [if_pos c2, rq_0] at hF
      refine ⟨by rw [hF]; exact hmG, okk_of (Y := fun G => sp_M_disturb G a k s) (c := 1) (v1 := 0) (v2 := 0) h hF ?_ (fun _ => rfl)⟩
      show sp_M_disturb G a k s = _
      unfold sp_M_disturb; rw [ie_ok he, wi_no (Or.inr c2)]; rfl
    rw [if_neg c2] at hF
    by_cases c3 : s < -1
    · rw [if_pos c3, rq_0] at hF
      refine ⟨by rw [hF]; exact hmG, okk_of (Y := fun G => sp_M_disturb G a k s) (c := 1) (v1 := 0) (v2 := 0) h hF ?_ (fun _ => rfl)⟩
      show sp_M_disturb G a k s = _
      unfold sp_M_disturb; rw [ie_ok he, wi_ok (Int32.not_lt.mp c1) (Int32.not_lt.mp c2), wi_no (Or.inl c3)]; rfl
    rw [if_neg c3] at hF
    by_cases c4 : 1 < s
    · rw [if_pos c4, rq_0] at hF
      refine ⟨by rw [hF]; exact hmG, okk_of (Y := fun G => sp_M_disturb G a k s) (c := 1) (v1 := 0) (v2 := 0) h hF ?_ (fun _ => rfl)⟩
      show sp_M_disturb G a k s = _
      unfold sp_M_disturb; rw [ie_ok he, wi_ok (Int32.not_lt.mp c1) (Int32.not_lt.mp c2), wi_no (Or.inr c4)]; rfl
    rw [if_neg c4, rq_1, if_pos rfl] at hF
    obtain ⟨t, ht, hr⟩ := h
    have hN : RN G G b a t (2 * t) := by
      obtain ⟨-, -, hX, hY⟩ := hr
      rcases hbe with ⟨rfl, rfl⟩ | ⟨rfl, rfl⟩
      · exact hX
      · exact hY
    have fG : ∀ x, x ≠ b + 4 → x ≠ b + 5 → x ≠ b + 6 → (sp_A_change (b + 4) G (G 0 2 + k) s).2 x = G x := fun x h4 h5 h6 => fr_A_change (by simp only [List.mem_cons, List.not_mem_nil, or_false]; omega)
    have htm : G 0 2 + k = (sp_A_change (b + 4) G (G 0 2 + k) s).2 21 1 + k := by rw [fG 21 (by omega) (by omega) (by omega), hr.1, hr.2.1]
    have hRA : RA G (wr (sp_A_change (b + 4) G (G 0 2 + k) s).2 21 0 0) b a := RA_congr he rfl rfl rfl (fun c k hc _ => by
      simp only [List.mem_cons, List.not_mem_nil, or_false] at hc
      rw [wr_ck _ _ _ _ (by omega), fG c (by omega) (by omega) (by omega)]) hN.2.2.1
    have key := RA_change (tm := G 0 2 + k) (s := s) he hRA
    have hM := dd_eq (sp_A_change (b + 4) G (G 0 2 + k) s).2 he (Int32.not_lt.mp c1) (Int32.not_lt.mp c2) (Int32.not_lt.mp c3) (Int32.not_lt.mp c4)
    have b32 : wr (sp_A_change (b + 4) G (G 0 2 + k) s).2 21 0 0 32 (tn a) = (sp_A_change (b + 4) G (G 0 2 + k) s).2 32 (tn a) := wr_ck _ _ _ _ (by decide)
    rw [b32] at key
    have hm1 : hmM (sp_A_change (b + 4) G (G 0 2 + k) s).2 := hmM_congr (fG 32 (by omega) (by omega) (by omega)) hmG
    unfold dd at hM
    rw [← htm, wr_wr] at hM
    have fin : ∀ Y : Mem, (∀ x, x < 21 → Y x = (sp_A_change (b + 4) G (G 0 2 + k) s).2 x) → Y 21 1 = (sp_A_change (b + 4) G (G 0 2 + k) s).2 21 1 → (∀ c k9, 22 ≤ c → (own a c k9 = false ∨ ¬ (32 ≤ c ∧ c ≤ 35)) → Y c k9 = (sp_A_change (b + 4) G (G 0 2 + k) s).2 c k9) → RA (sp_A_change (b + 4) G (G 0 2 + k) s).2 Y b a → Rel (n + 1) Y := fun Y y1 y2 y3 y4 => ⟨t, by omega, Rab_A hbe hr fG y1 y2 y3 y4⟩
    rcases key with ⟨j, hj, k1, k2, k3, k4⟩ | ⟨k1, k2, k3⟩ | ⟨w, hw, kw, k1, k2, k3, k4, k5⟩
    · rw [if_neg (by rw [k2]; decide)] at hF
      rw [k1, if_pos (nI_pos' (by omega)), if_pos (by decide), if_pos (nI_pos' (by omega))] at hM
      rw [hF]
      refine ⟨hm1, ?_⟩
      show okk Rel n _ (sp_M_disturb (sp_A_change (b + 4) G (G 0 2 + k) s).2 a k s)
      rw [hM]
      have o8 := own_ix8 he hj
      refine ⟨?_, fun _ => k3.symm, fin _ (fun x hx => ?_) ?_ (fun c k9 hc ho => ?_) k4⟩
      · show wr (wr (wr (sp_A_change (b + 4) G (G 0 2 + k) s).2 21 0 0) 33 (ix8 a j) (G 0 2 + k)) 34 (ix8 a j) s 21 0 = 0
        rw [wr_ck _ _ _ _ (by decide), wr_ck _ _ _ _ (by decide), wr_same]
      · show wr (wr (wr (sp_A_change (b + 4) G (G 0 2 + k) s).2 21 0 0) 33 (ix8 a j) (G 0 2 + k)) 34 (ix8 a j) s x = _
        rw [wr_c _ _ _ _ (by omega), wr_c _ _ _ _ (by omega), wr_c _ _ _ _ (by omega)]
      · show wr (wr (wr (sp_A_change (b + 4) G (G 0 2 + k) s).2 21 0 0) 33 (ix8 a j) (G 0 2 + k)) 34 (ix8 a j) s 21 1 = _
        rw [wr_ck _ _ _ _ (by decide), wr_ck _ _ _ _ (by decide), wr_k _ _ _ _ (by decide)]
      · show wr (wr (wr (sp_A_change (b + 4) G (G 0 2 + k) s).2 21 0 0) 33 (ix8 a j) (G 0 2 + k)) 34 (ix8 a j) s c k9 = _
        rcases ho with ho | ho
        · rw [wx ho o8.2, wx ho o8.1, wr_ck _ _ _ _ (by omega)]
        · rw [wr_ck _ _ _ _ (by omega), wr_ck _ _ _ _ (by omega), wr_ck _ _ _ _ (by omega)]
    · rw [k3] at hF hM k2 k1
      rw [if_pos rfl] at hF
      rw [k1, k2] at hM
      rw [hF]
      refine ⟨hmG, ?_⟩
      show okk Rel n _ (sp_M_disturb G a k s)
      have hM2 : sp_M_disturb G a k s = (0, wr G 21 0 2) := hM
      rw [hM2]
      exact ⟨wr_same G 21 0 2, fun h9 => absurd (show (2 : Int32) = 0 from h9) (by decide), Rel_21 ⟨t, ht, hr⟩⟩
    · rw [if_neg (by rw [k3]; decide)] at hF
      rw [k1, if_neg (show ¬ (0 : Int32) ≤ -1 by decide), if_neg k2, if_pos (by decide), if_neg (show ¬ (0 : Int32) ≤ -1 by decide)] at hM
      rw [hF]
      refine ⟨hm1, ?_⟩
      show okk Rel n _ (sp_M_disturb (sp_A_change (b + 4) G (G 0 2 + k) s).2 a k s)
      rw [hM]
      have o8 := own_ix8 he hw
      have hix : tn (8 * a + (sp_A_change (b + 4) G (G 0 2 + k) s).2 32 (tn a)) = ix8 a w := by rw [kw]; rfl
      rw [hix]
      refine ⟨?_, fun _ => k4.symm, fin _ (fun x hx => ?_) ?_ (fun c k9 hc ho => ?_) k5⟩
      · show wr (wr (wr (wr (sp_A_change (b + 4) G (G 0 2 + k) s).2 21 0 0) 32 (tn a) ((sp_A_change (b + 4) G (G 0 2 + k) s).2 32 (tn a) + 1)) 33 (ix8 a w) (G 0 2 + k)) 34 (ix8 a w) s 21 0 = 0
        rw [wr_ck _ _ _ _ (by decide), wr_ck _ _ _ _ (by decide), wr_ck _ _ _ _ (by decide), wr_same]
      · show wr (wr (wr (wr (sp_A_change (b + 4) G (G 0 2 + k) s).2 21 0 0) 32 (tn a) ((sp_A_change (b + 4) G (G 0 2 + k) s).2 32 (tn a) + 1)) 33 (ix8 a w) (G 0 2 + k)) 34 (ix8 a w) s x = _
        rw [wr_c _ _ _ _ (by omega), wr_c _ _ _ _ (by omega), wr_c _ _ _ _ (by omega), wr_c _ _ _ _ (by omega)]
      · show wr (wr (wr (wr (sp_A_change (b + 4) G (G 0 2 + k) s).2 21 0 0) 32 (tn a) ((sp_A_change (b + 4) G (G 0 2 + k) s).2 32 (tn a) + 1)) 33 (ix8 a w) (G 0 2 + k)) 34 (ix8 a w) s 21 1 = _
        rw [wr_ck _ _ _ _ (by decide), wr_ck _ _ _ _ (by decide), wr_ck _ _ _ _ (by decide), wr_k _ _ _ _ (by decide)]
      · show wr (wr (wr (wr (sp_A_change (b + 4) G (G 0 2 + k) s).2 21 0 0) 32 (tn a) ((sp_A_change (b + 4) G (G 0 2 + k) s).2 32 (tn a) + 1)) 33 (ix8 a w) (G 0 2 + k)) 34 (ix8 a w) s c k9 = _
        rcases ho with ho | ho
        · rw [wx ho o8.2, wx ho o8.1, wx ho (own_32 he), wr_ck _ _ _ _ (by omega)]
        · rw [wr_ck _ _ _ _ (by omega), wr_ck _ _ _ _ (by omega), wr_ck _ _ _ _ (by omega), wr_ck _ _ _ _ (by omega)]
  · have hF : sp_F_disturb G a k s = (1, 0, G) := by unfold sp_F_disturb; rw [E]; rfl
    refine ⟨by rw [hF]; exact hmG, okk_of (Y := fun G => sp_M_disturb G a k s) (c := 1) (v1 := 0) (v2 := 0) h hF ?_ (fun _ => rfl)⟩
    show sp_M_disturb G a k s = _
    unfold sp_M_disturb; rw [ie_no h0 h1]; rfl
