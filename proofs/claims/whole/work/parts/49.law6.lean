set_option maxHeartbeats 4000000 in
set_option maxRecDepth 100000 in
/-- from the entry, for every script of at most 2048 ints, the law comes to its end with true -/
theorem whole_start {p : Program} {e : Env} {s : State} {m : MethodId} {below : List Frame} {meth : Method} {c : Code} {Rel : Nat → Mem → Prop} (OK : LawOK Rel) (l : Launch) (htr : l.stackTraces = false) {b L : Nat} {xs : Nat → Int32} (hL : L ≤ 2048) (C0 : lw_At p s m meth c b L xs) : W p l e room_1 s m #[Value.ref b] below meth c s.heap [] 0 0 (lw_Z below #[Value.ref b] s) (entryFrame m ([Value.ref b] : List Value).toArray 7) := by
  obtain ⟨P, cL, hd, h0, hcL, E⟩ := start_P hL C0
  have hx := E.1.1
  have hb := E.1.2.1
  have hnew : ∀ q, gA P q → s.heap.size ≤ q := fun q hq => E.2.2.2.2.1 q (Or.inl hq)
  have hl := lv_entry ([Value.ref b]) (n := 7) (Nat.le_of_ble_eq_true rfl)
  rw [lg_entry_eq]
  generalize (lg_sl ([Value.ref b]) ++ List.replicate (7 - (lg_sl ([Value.ref b])).length) Slot.unset).toArray = ls at hl ⊢
  replace hl : lv_has ls 7 [(0, .ref b)] := hl
  refine i_sub (k := 0) (ci := 7) (n := 21) (A := gA P) hd E.1 (fun q hq => hq.1) (fun q hq => hq) h0.symm va_S.rf (by decide) (by decide) hl (c_F_init l P hd 0 rfl) cl_F ct_F hds_F lkj_L_8 lin_F lit_F lmj_L_47 (Nat.le_of_ble_eq_true rfl) (Nat.le_of_ble_eq_true rfl) rfl rfl (Nat.le_of_ble_eq_true rfl) (Nat.le_of_ble_eq_true rfl) (Nat.le_of_ble_eq_true rfl) d_L_law_0 d_L_law_3 d_L_law_4 (fun H locs h1 h2 h3 h4 => ?_)
  refine va_forget (fun q hq => hnew _ (h4.2.2 q hq)) ?_
  have h4 : va_S (gA P) s.heap H [] := ⟨h4.1, h4.2.1, fun _ h9 => by cases h9⟩
  refine lv_astore_n hx hb d_L_law_7 rfl hl (by decide) rfl (fun ls hl => ?_)
  refine i_sub (k := 21) (ci := 8) (n := 43) (A := gA P) hd E.1 (fun q hq => hq.1) (fun q hq => hq) h1 h4 (by decide) (by decide) hl (c_M_init l P hd 21 rfl) cl_M ct_M hds_M lkj_L_48 lin_M lit_M lmj_L_50 (Nat.le_of_ble_eq_true rfl) (Nat.le_of_ble_eq_true rfl) rfl rfl (Nat.le_of_ble_eq_true rfl) (Nat.le_of_ble_eq_true rfl) (Nat.le_of_ble_eq_true rfl) d_L_law_8 d_L_law_11 d_L_law_12 (fun H2 locs h5 h6 h7 h8 => ?_)
  refine va_forget (fun q hq => hnew _ (h8.2.2 q hq)) ?_
  have h8 : va_S (gA P) s.heap H2 [] := ⟨h8.1, h8.2.1, fun _ h9 => by cases h9⟩
  refine lv_astore_n hx hb d_L_law_15 rfl hl (by decide) rfl (fun ls hl => ?_)
  refine lv_iconst (v := 1) hx hb d_L_law_16 (by decide) ?_
  refine va_newaK (N := 1) hx hb (E.1.2.2.2.2.2.1 _ la_long) rfl d_L_law_17 rfl (by decide) (by decide) (by decide) (Nat.le_of_ble_eq_true rfl) (Nat.le_of_ble_eq_true rfl) h5 (fun H3 cB e1 z1 o1 hAr hNm => ?_)
  cases hcL.symm.trans hNm
  refine lv_astore_n hx hb d_L_law_19 rfl hl (by decide) rfl (fun ls hl => ?_)
  refine lv_iconst (v := 0) hx hb d_L_law_20 (by decide) ?_
  refine lv_istore hx hb d_L_law_21 hl (by decide) rfl (fun ls hl => ?_)
  refine law_loop OK htr E E.1.2.2.2.2.2.2.1 513 0 H3 Gi 0 ls (by omega) (by omega) ⟨⟨?_, ?_⟩, e1⟩ OK.1 (lv_sub hl [4, 3, 2, 1, 0] rfl)
  · intro k q hq
    have lk := gw_lt hq
    rw [gw_at lk] at hq
    cases hq
    have hlt : gad P k < gad P (21 + 43) := by rw [hd k, hd (21 + 43)]; omega
    by_cases hk : k < 21
    · exact ((h3 k (Nat.zero_le _) hk).kept (h6 _ (by rw [hd k, hd 21]; omega))).kept (o1 _ hlt)
    · exact (h7 k (by omega) lk).kept (o1 _ hlt)
  · refine ⟨Nat.le_trans h8.1 (by rw [z1, h5]; omega), fun q h9 h10 => ?_, fun _ h9 => by cases h9⟩
    rw [o1 q (by rw [← h5]; exact Nat.lt_of_lt_of_le h9 h8.1)]
    exact h8.2.1 q h9 h10
