theorem wr_cong {A B : Mem} {c k x y : Nat} {v : Int32} (h : A x y = B x y) : wr A c k v x y = wr B c k v x y := by
  rw [wr_r A, wr_r B, h]
theorem Rab_upd {A B A' B' : Mem} {t b : Nat} {e : Int32} (hbe : e = 0 ∧ b = 1 ∨ e = 1 ∧ b = 11) (h : Rab A B t) (h21 : B' 21 1 = B 21 1) (hA : ∀ x, x < 21 → ¬ (b < x ∧ x < b + 10) → A' x = A x) (hB : ∀ c k, 22 ≤ c → own e c k = false → B' c k = B c k) (hN : RN A' B' b e t (2 * t)) : Rab A' B' t := by
  obtain ⟨h0, h1, hX, hY⟩ := h
  rcases hbe with ⟨rfl, rfl⟩ | ⟨rfl, rfl⟩
  · exact ⟨by rw [hA 0 (by omega) (by omega)]; exact h0, by rw [h21]; exact h1, hN, RN_congr (Or.inr rfl) (fun x h1 h2 => hA x (by omega) (by omega)) (fun c k hc ho => hB c k hc (own_ex0 ho)) hY⟩
  · exact ⟨by rw [hA 0 (by omega) (by omega)]; exact h0, by rw [h21]; exact h1, RN_congr (Or.inl rfl) (fun x h1 h2 => hA x (by omega) (by omega)) (fun c k hc ho => hB c k hc (own_ex1 ho)) hX, hN⟩
/-- a call that changes what is to come -/
theorem Rab_A {G A Y : Mem} {t b : Nat} {e : Int32} (hbe : e = 0 ∧ b = 1 ∨ e = 1 ∧ b = 11) (h : Rab G G t) (fA : ∀ x, x ≠ b + 4 → x ≠ b + 5 → x ≠ b + 6 → A x = G x) (fY : ∀ x, x < 21 → Y x = A x) (y21 : Y 21 1 = A 21 1) (yB : ∀ c k, 22 ≤ c → (own e c k = false ∨ ¬ (32 ≤ c ∧ c ≤ 35)) → Y c k = A c k) (hR : RA A Y b e) : Rab Y Y t := by
  have he : e = 0 ∨ e = 1 := by rcases hbe with ⟨h, -⟩ | ⟨h, -⟩; exact Or.inl h; exact Or.inr h
  have hb : b = 1 ∨ b = 11 := by rcases hbe with ⟨-, h⟩ | ⟨-, h⟩; exact Or.inl h; exact Or.inr h
  have hN : RN G G b e t (2 * t) := by
    obtain ⟨-, -, hX, hY⟩ := h
    rcases hbe with ⟨rfl, rfl⟩ | ⟨rfl, rfl⟩
    · exact hX
    · exact hY
  have cA : ∀ x, x < 21 → x ≠ b + 4 → x ≠ b + 5 → x ≠ b + 6 → Y x = G x := fun x hx h4 h5 h6 => (fY x hx).trans (fA x h4 h5 h6)
  have cB : ∀ c k, 22 ≤ c → (own e c k = false ∨ ¬ (32 ≤ c ∧ c ≤ 35)) → Y c k = G c k := fun c k hc ho => (yB c k hc ho).trans (by rw [fA c (by omega) (by omega) (by omega)])
  refine Rab_upd hbe h (y21.trans (by rw [fA 21 (by omega) (by omega) (by omega)])) (fun x hx hn => cA x hx (by omega) (by omega) (by omega)) (fun c k hc ho => cB c k hc (Or.inl ho)) ?_
  obtain ⟨h1, h2, h3, h4⟩ := hN
  refine ⟨RS_congr he (cA _ (by omega) (by omega) (by omega) (by omega)) (cA _ (by omega) (by omega) (by omega) (by omega)) (fun c k hc ho => cB c k (by simp only [List.mem_cons, List.not_mem_nil, or_false] at hc; omega) (Or.inr (by simp only [List.mem_cons, List.not_mem_nil, or_false] at hc; omega))) h1, RE_congr he (cA _ (by omega) (by omega) (by omega) (by omega)) (fun c k hc ho => cB c k (by simp only [List.mem_cons, List.not_mem_nil, or_false] at hc; omega) (Or.inr (by simp only [List.mem_cons, List.not_mem_nil, or_false] at hc; omega))) h2, RA_congr he (fY _ (by omega)) (fY _ (by omega)) (fY _ (by omega)) (fun c k hc ho => rfl) hR, RT_congr (fun x k hx => by rw [cA x (by simp only [List.mem_cons, List.not_mem_nil, or_false] at hx; omega) (by simp only [List.mem_cons, List.not_mem_nil, or_false] at hx; omega) (by simp only [List.mem_cons, List.not_mem_nil, or_false] at hx; omega) (by simp only [List.mem_cons, List.not_mem_nil, or_false] at hx; omega)]) (fun c k hc ho => cB c k (by omega) (Or.inr (by omega))) he h4⟩
theorem Rel_t {n : Nat} {G : Mem} (h : Rel n G) : ∃ t : Nat, t ≤ 600 * n ∧ Rab G G t := h
theorem ok_slip {n : Nat} {G : Mem} (h : Rel n G) (a : Int32) : okk Rel n (sp_F_slip G a) (sp_M_slip (sp_F_slip G a).2.2 a) := by
  rcases end_cases h a with ⟨b, t0, -, -, he, E, hb, hN, hbe⟩ | ⟨h0, h1, E⟩
  · obtain ⟨t, ht, hr⟩ := h
    have hb1 : b = 1 ∨ b = 11 := by rcases hbe with ⟨-, h⟩ | ⟨-, h⟩; exact Or.inl h; exact Or.inr h
    have hF : sp_F_slip G a = (0, (if zb (G (b + 4) 3) = 0 then 1 else 0), wr G (b + 4) 3 1) := by
      unfold sp_F_slip; rw [E]; simp only [hb, if_true]; rfl
    rw [hF]
    show okk Rel n _ (sp_M_slip (wr G (b + 4) 3 1) a)
    have hM : sp_M_slip (wr G (b + 4) 3 1) a = ((if G 35 (tn a) = 0 then 1 else 0), wr (wr (wr G (b + 4) 3 1) 21 0 0) 35 (tn a) (zb 1)) := by
      unfold sp_M_slip
      rw [ie_ok he, wr_ck _ _ _ _ (show 35 ≠ b + 4 by omega)]; rfl
    rw [hM]
    refine ⟨?_, fun _ => ?_, t, by omega, ?_⟩
    · show wr (wr (wr G (b + 4) 3 1) 21 0 0) 35 (tn a) (zb 1) 21 0 = 0
      rw [wr_ck _ _ _ _ (by decide), wr_same]
    · show (if G 35 (tn a) = 0 then 1 else 0 : Int32) = (if zb (G (b + 4) 3) = 0 then 1 else 0)
      rw [hN.2.2.1.1]
    · show Rab (wr (wr (wr G (b + 4) 3 1) 21 0 0) 35 (tn a) (zb 1)) (wr (wr (wr G (b + 4) 3 1) 21 0 0) 35 (tn a) (zb 1)) t
      refine Rab_A (A := wr G (b + 4) 3 1) hbe hr (fun x h4 _ _ => wr_c _ _ _ _ h4) (fun x hx => by rw [wr_c _ _ _ _ (by omega), wr_c _ _ _ _ (by omega)]) (by rw [wr_ck _ _ _ _ (by decide), wr_k _ _ _ _ (by decide)]) (fun c k hc ho => ?_) ?_
      · rcases ho with ho | ho
        · rw [wx ho (own_35 he), wr_ck _ _ _ _ (by omega)]
        · rw [wr_ck _ _ _ _ (by omega), wr_ck _ _ _ _ (by omega)]
      · have r1 := RA_slip (v := 1) (w9 := zb 1) he rfl hN.2.2.1
        exact RA_congr he rfl rfl rfl (fun c k hc ho => by
          simp only [List.mem_cons, List.not_mem_nil, or_false] at hc
          exact wr_cong (by rw [wr_ck _ _ _ _ (show c ≠ 21 by omega), wr_ck _ _ _ _ (show c ≠ b + 4 by omega)])) r1
  · refine okk_of (Y := fun G => sp_M_slip G a) (c := 1) (v1 := 0) (v2 := 0) h ?_ ?_ (fun _ => rfl)
    · unfold sp_F_slip; rw [E]; rfl
    · show sp_M_slip G a = _
      unfold sp_M_slip; rw [ie_no h0 h1]; rfl
/-- what is loaded -/
theorem RN_load {A B : Mem} {b : Nat} {e v : Int32} {t T j : Nat} (he : e = 0 ∨ e = 1) (h1 : 1 ≤ j) (h3 : j ≤ 3) (h : RN A B b e t T) : RN (wr A (b + 2) j v) (wr B 22 (tn (4 * e + nI j)) v) b e t T := by
  obtain ⟨hS, hE, hA, hT⟩ := h
  have n12 : b + 1 ≠ b + 2 := by omega
  refine ⟨?_, RE_congr he (wr_c _ _ _ _ (by omega)) (fun c k hc _ => wr_ck _ _ _ _ (by simp only [List.mem_cons, List.not_mem_nil, or_false] at hc; omega)) hE, RA_congr he (wr_c _ _ _ _ (by omega)) (wr_c _ _ _ _ (by omega)) (wr_c _ _ _ _ (by omega)) (fun c k hc _ => wr_ck _ _ _ _ (by simp only [List.mem_cons, List.not_mem_nil, or_false] at hc; omega)) hA, RT_congr (fun x k hx => wr_ck _ _ _ _ (by simp only [List.mem_cons, List.not_mem_nil, or_false] at hx; omega)) (fun c k hc _ => wr_ck _ _ _ _ (by omega)) he hT⟩
  obtain ⟨l1, l2, l3, i, k, hi, hk, h25, h24, hz, hp⟩ := hS
  have ix : ∀ p q : Nat, 1 ≤ p → p ≤ 3 → 1 ≤ q → q ≤ 3 → (tn (4 * e + nI p) = tn (4 * e + nI q) ↔ p = q) := by
    have key : ∀ p, p < 4 → tn (4 * 0 + nI p) = p ∧ tn (4 * 1 + nI p) = 4 + p := by decide +kernel
    intro p q hp1 hp3 hq1 hq3
    obtain ⟨a1, a2⟩ := key p (by omega)
    obtain ⟨c1, c2⟩ := key q (by omega)
    rcases he with rfl | rfl
    · rw [a1, c1]
    · rw [a2, c2]; omega
  have ld : ∀ p : Nat, 1 ≤ p → p ≤ 3 → A (b + 2) p = B 22 (tn (4 * e + nI p)) → wr A (b + 2) j v (b + 2) p = wr B 22 (tn (4 * e + nI j)) v 22 (tn (4 * e + nI p)) := by
    intro p hp1 hp3 hl
    rw [wr_r, wr_r]
    by_cases c : p = j
    · subst c; rw [if_pos ⟨rfl, rfl⟩, if_pos ⟨rfl, rfl⟩]
    · rw [if_neg (fun h => c h.2), if_neg (fun h => c ((ix p j hp1 hp3 h1 h3).mp h.2))]; exact hl
  refine ⟨ld 1 (by omega) (by omega) l1, ld 2 (by omega) (by omega) l2, ld 3 (by omega) (by omega) l3, i, k, hi, hk, ?_, ?_, ?_, ?_⟩
  · rw [wr_ck _ _ _ _ (by decide)]; exact h25
  · rw [wr_ck _ _ _ _ (by decide)]; exact h24
  · rw [wr_c _ _ _ _ n12, wr_ck _ _ _ _ (show 26 ≠ 22 by decide), wr_ck _ _ _ _ (show 27 ≠ 22 by decide)]; exact hz
  · rw [wr_c _ _ _ _ n12, wr_ck _ _ _ _ (show 23 ≠ 22 by decide), wr_ck _ _ _ _ (show 26 ≠ 22 by decide), wr_ck _ _ _ _ (show 27 ≠ 22 by decide)]; exact hp
theorem own_ld {e : Int32} (he : e = 0 ∨ e = 1) {j : Nat} (h1 : 1 ≤ j) (h3 : j ≤ 3) : own e 22 (tn (4 * e + nI j)) = true := by
  obtain ⟨o1, o2, o3⟩ := own_22 he
  have : j = 1 ∨ j = 2 ∨ j = 3 := by omega
  rcases this with rfl | rfl | rfl
  · exact o1
  · exact o2
  · exact o3
theorem ok_load {n : Nat} {G : Mem} (h : Rel n G) (a k v : Int32) : okk Rel n (sp_F_load G a k v) (sp_M_load (sp_F_load G a k v).2.2 a k v) := by
  rcases end_cases h a with ⟨b, t0, -, -, he, E, hb, hN, hbe⟩ | ⟨h0, h1, E⟩
  · have hb1 : b = 1 ∨ b = 11 := by rcases hbe with ⟨-, h⟩ | ⟨-, h⟩; exact Or.inl h; exact Or.inr h
    have hF : sp_F_load G a k v = (if (sp_F_require G (if k < 1 then 0 else (if 4 ≤ k then 0 else (if v < 0 then 0 else (if 255 < v then 0 else 1))))).1 = 0 then (0, G (b + 2) (tn k), wr G (b + 2) (tn k) v) else ((sp_F_require G (if k < 1 then 0 else (if 4 ≤ k then 0 else (if v < 0 then 0 else (if 255 < v then 0 else 1))))).1, 0, G)) := by
      unfold sp_F_load; rw [E]; simp only [hb, if_true, rq_mem]; rfl
    by_cases c1 : k < 1
    · rw [if_pos c1, rq_0] at hF
      refine okk_of (Y := fun G => sp_M_load G a k v) (c := 1) (v1 := 0) (v2 := 0) h hF ?_ (fun _ => rfl)
      show sp_M_load G a k v = _
      unfold sp_M_load; rw [ie_ok he, wi_no (Or.inl c1)]; rfl
    rw [if_neg c1] at hF
    by_cases c2 : 4 ≤ k
    · rw [if_pos c2, rq_0] at hF
      refine okk_of (Y := fun G => sp_M_load G a k v) (c := 1) (v1 := 0) (v2 := 0) h hF ?_ (fun _ => rfl)
      show sp_M_load G a k v = _
      unfold sp_M_load; rw [ie_ok he, wi_no (Or.inr (lt4 c2))]; rfl
    rw [if_neg c2] at hF
    by_cases c3 : v < 0
    · rw [if_pos c3, rq_0] at hF
      refine okk_of (Y := fun G => sp_M_load G a k v) (c := 1) (v1 := 0) (v2 := 0) h hF ?_ (fun _ => rfl)
      show sp_M_load G a k v = _
      unfold sp_M_load; rw [ie_ok he, wi_ok (Int32.not_lt.mp c1) (le3 c2), wi_no (Or.inl c3)]; rfl
    rw [if_neg c3] at hF
    by_cases c4 : 255 < v
    · rw [if_pos c4, rq_0] at hF
      refine okk_of (Y := fun G => sp_M_load G a k v) (c := 1) (v1 := 0) (v2 := 0) h hF ?_ (fun _ => rfl)
      show sp_M_load G a k v = _
      unfold sp_M_load; rw [ie_ok he, wi_ok (Int32.not_lt.mp c1) (le3 c2), wi_no (Or.inr c4)]; rfl
    rw [if_neg c4, rq_1] at hF
    obtain ⟨j, hj, rfl⟩ := bd_nat (v := k) (n := 3) (by decide) (Int32.le_trans (by decide : (0 : Int32) ≤ 1) (Int32.not_lt.mp c1)) (le3 c2)
    have hj1 : 1 ≤ j := by
      rcases Nat.eq_zero_or_pos j with h9 | h9
      · subst h9; exact absurd (by decide : nI 0 < 1) c1
      · exact h9
    rw [tn_nI (show j < 2 ^ 31 by omega)] at hF
    obtain ⟨t, ht, hr⟩ := h
    rw [hF]
    show okk Rel n (0, G (b + 2) j, wr G (b + 2) j v) (sp_M_load (wr G (b + 2) j v) a (nI j) v)
    have hM : sp_M_load (wr G (b + 2) j v) a (nI j) v = (G 22 (tn (4 * a + nI j)), wr (wr (wr G (b + 2) j v) 21 0 0) 22 (tn (4 * a + nI j)) v) := by
      unfold sp_M_load
      rw [ie_ok he, wi_ok (Int32.not_lt.mp c1) (le3 c2), wi_ok (Int32.not_lt.mp c3) (Int32.not_lt.mp c4), wr_ck _ _ _ _ (show 22 ≠ b + 2 by omega)]; rfl
    rw [hM]
    have hN' : RN G G b a t (2 * t) := by
      obtain ⟨-, -, hX, hY⟩ := hr
      rcases hbe with ⟨rfl, rfl⟩ | ⟨rfl, rfl⟩
      · exact hX
      · exact hY
    refine ⟨?_, fun _ => ?_, t, by omega, ?_⟩
    · show wr (wr (wr G (b + 2) j v) 21 0 0) 22 (tn (4 * a + nI j)) v 21 0 = 0
      rw [wr_ck _ _ _ _ (by decide), wr_same]
    · show G 22 (tn (4 * a + nI j)) = G (b + 2) j
      obtain ⟨l1, l2, l3, -⟩ := hN'.1
      have : j = 1 ∨ j = 2 ∨ j = 3 := by omega
      rcases this with rfl | rfl | rfl
      · exact l1.symm
      · exact l2.symm
      · exact l3.symm
    · show Rab (wr (wr (wr G (b + 2) j v) 21 0 0) 22 (tn (4 * a + nI j)) v) (wr (wr (wr G (b + 2) j v) 21 0 0) 22 (tn (4 * a + nI j)) v) t
      refine Rab_upd hbe hr ?_ (fun x hx hn => ?_) (fun c k hc ho => ?_) ?_
      · rw [wr_ck _ _ _ _ (by decide), wr_k _ _ _ _ (by decide), wr_ck _ _ _ _ (by omega)]
      · rw [wr_c _ _ _ _ (by omega), wr_c _ _ _ _ (by omega), wr_c _ _ _ _ (by omega)]
      · rw [wx ho (own_ld he hj1 hj), wr_ck _ _ _ _ (by omega), wr_ck _ _ _ _ (by omega)]
      · refine RN_congr he (fun x h1 h2 => ?_) (fun c k hc ho => ?_) (RN_load (v := v) he hj1 hj hN')
        · rw [wr_c _ _ _ _ (by omega), wr_c _ _ _ _ (by omega)]
        · exact wr_cong (by rw [wr_ck _ _ _ _ (show c ≠ 21 by omega), wr_ck _ _ _ _ (show c ≠ b + 2 by omega)])
  · refine okk_of (Y := fun G => sp_M_load G a k v) (c := 1) (v1 := 0) (v2 := 0) h ?_ ?_ (fun _ => rfl)
    · unfold sp_F_load; rw [E]; rfl
    · show sp_M_load G a k v = _
      unfold sp_M_load; rw [ie_no h0 h1]; rfl
