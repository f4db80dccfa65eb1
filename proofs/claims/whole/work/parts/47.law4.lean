def lw_P (b : Addr) (xs : List Int32) (args : Array Value) (s : State) : Prop := args = #[.ref b] ∧ s.IntsAt b xs ∧ xs.length ≤ 2048 ∧ (Jvm.Cond.and given_1 narrow_1).before args s = true
def lw_Q (_ : Array Value) (s : State) (o : Outcome) (t : State) : Prop := o = .returned (some (.int 1)) ∧ Framed s o t [] 1092 8536
def lw_Z (below : List Frame) (a : Array Value) (s : State) : State → Prop := fun t => ∃ o, t.status = .running ∧ Ended t below o ∧ lw_Q a s o t
theorem lw_ret {p : Program} {l : Launch} {e : Env} {s : State} {m : MethodId} {below : List Frame} {meth : Method} {c : Code} {b : Nat} (hx : p.tables.exec = Jvm.exec) (hb : c.code = code) (hr : meth.sig.returnType = ret) (hlocks : meth.locks = false) {pc : Nat} {H : Heap} {ls : Array Slot} (hdg : decode code pc = .ok (.ireturn, 1)) : W p l e room_1 s m #[Value.ref b] below meth c H [] 1092 8536 (lw_Z below #[Value.ref b] s) (F0 m pc ls [.int 1]) := by
  intro T hT X
  obtain ⟨fs, hret, hrun, hended, hW, hframe⟩ := X.leave (v := some (.int 1)) (hlocks := hlocks) (fun h => by rw [hr] at h; cases h)
  have hmeth' : T.vm.method? m = some meth := X.method'
  refine ⟨T.setFrames fs, ?_, .returned (some (.int 1)), hrun, hended, rfl, ⟨_, rfl⟩, hW, hframe⟩
  jvm_step X.here [X.here.top, hx, hb, hdg, hmeth', hr, ret, narrow_b1]
  (try refine ⟨rfl, ?_⟩); (try refine ⟨rfl, ?_⟩)
  first | (intro acts; rw [hret _ acts rfl rfl rfl]) | rw [hret _ _ rfl rfl rfl]
  exact Steps.refl _
/-- what holds at the law's entry -/
def lw_At (p : Program) (s : State) (m : MethodId) (meth : Method) (c : Code) (b L : Nat) (xs : Nat → Int32) : Prop :=
  p.tables.exec = Jvm.exec ∧ c.code = code ∧ meth.sig.returnType = ret ∧ c.maxLocals = 7 ∧ s.vm.findClass R_law = some m.cls ∧ (∀ w ∈ lw_tbl, w.before #[Value.ref b] s = true) ∧ va_X b L xs s s.heap ∧ b < s.heap.size ∧ meth.locks = false ∧ (Jvm.Cond.and given_1 narrow_1).before #[Value.ref b] s = true
theorem sw_val (x : Int32) : ∃ j : Nat, j < 16 ∧ (x &&& 15) = nI j := by
  obtain ⟨j, hj, e⟩ := pk_andE x (m := 15) 4 (by decide)
  exact ⟨j, by omega, e⟩
section LL
variable {p : Program} {l : Launch} {e : Env} {s : State} {m : MethodId} {below : List Frame} {meth : Method} {c : Code} {P : gP} {b L o : Nat} {xs : Nat → Int32} {cL : ClassId}
set_option maxHeartbeats 4000000 in
set_option maxRecDepth 100000 in
theorem law_step {Rel : Nat → Mem → Prop} (OK : LawOK Rel) (htr : l.stackTraces = false) (E : lE p s m meth c P b L xs o cL) (hlocks : meth.locks = false) {j : Nat} {H : Heap} {G : Mem} {v : Int64} {ls : Array Slot} (hj : 4 * j ≤ 2048) (h : lH P s o cL v G H) (hR : Rel j G) (hl : lv_has ls 7 (lL P b o (nI (4 * j))))
    (nx : 4 * j + 4 ≤ L → ∀ (H1 : Heap) (G1 : Mem) (v1 : Int64) (ls1 : Array Slot), lH P s o cL v1 G1 H1 → Rel (j + 1) G1 → lv_has ls1 7 (lL P b o (nI (4 * (j + 1)))) → W p l e room_1 s m #[Value.ref b] below meth c H1 [] (65 + j + 1) (326 + 6 * j + 6) (lw_Z below #[Value.ref b] s) (F0 m 23 ls1 [])) :
    W p l e room_1 s m #[Value.ref b] below meth c H [] (65 + j) (326 + 6 * j) (lw_Z below #[Value.ref b] s) (F0 m 23 ls []) := by
  have hx := E.1.1
  have hb := E.1.2.1
  have hbl := E.2.2.2.2.2.2.1
  have hL := E.2.2.2.2.2.2.2
  have hbA : ¬ gA P b := fun h9 => absurd (E.2.2.2.2.1 b (Or.inl h9)) (by omega)
  refine lv_iload hx hb d_L_law_23 (lv_at hl 4 rfl) ?_
  refine lv_aload_n hx hb d_L_law_25 rfl (lv_at hl 0 rfl) ?_
  refine va_slen (A := gA P) hx hb E.2.2.2.2.2.1 hbl hbA h.1.2 d_L_law_26 ?_
  refine lv_iconst (v := 4) hx hb d_L_law_27 (by decide) ?_
  refine lv_isub hx hb d_L_law_28 ?_
  refine lv_icmp_gt (tgt := 751) hx hb d_L_law_29 (by decide) (fun h1 => ?_) (fun h1 => ?_)
  · refine lv_iconst (v := 1) hx hb d_L_law_751 (by decide) ?_
    refine h_more (c1 := 1092) (s1 := 8536) (by omega) (by omega) ?_
    exact lw_ret hx hb E.1.2.2.1 hlocks d_L_law_752
  · have hj4 : 4 * j + 4 ≤ L := by
      rcases Nat.lt_or_ge L (4 * j + 4) with h2 | h2
      · refine absurd ?_ h1
        have e1 : (Int32.ofNat L).toInt = (L : Int) := nI_toInt (by omega)
        have e2 : (nI (4 * j)).toInt = ((4 * j : Nat) : Int) := nI_toInt (by omega)
        rw [Int32.lt_iff_toInt_lt, e2, Int32.toInt_sub, e1, show (4 : Int32).toInt = 4 from rfl]
        rw [Int.bmod_eq_of_le (by omega) (by omega)]
        omega
      · exact h2
    have hj5 : j < 512 := by omega
    have hlast : ∀ (H1 : Heap) (ls1 : Array Slot) (v1 : Int64) (G1 : Mem), lH P s o cL v1 G1 H1 → Rel (j + 1) G1 → lv_has ls1 7 (lL P b o (nI (4 * j))) → W p l e room_1 s m #[Value.ref b] below meth c H1 [] (65 + j + 1) (326 + 6 * j + 6) (lw_Z below #[Value.ref b] s) (F0 m 745 ls1 []) := by
      intro H1 ls1 v1 G1 h2 hR2 hl2
      refine lv_iinc (k := 4) (v := nI (4 * (j + 1))) hx hb d_L_law_745 hl2 rfl (by rw [show 4 * (j + 1) = 4 * j + 4 by omega, ← nI_add]; rfl) (by decide) rfl (fun ls3 hl3 => ?_)
      refine lv_goto (tgt := 23) hx hb d_L_law_748 (by decide) ?_
      exact nx hj4 H1 G1 v1 ls3 h2 hR2 (lv_sub hl3 [1, 2, 3, 4, 0] rfl)
    refine lv_aload_n hx hb d_L_law_32 rfl (lv_at hl 0 rfl) ?_
    refine lv_iload hx hb d_L_law_33 (lv_at hl 4 rfl) ?_
    refine va_sld (A := gA P) hx hb E.2.2.2.2.2.1 hbl hbA h.1.2 (i := nI (4 * j)) (vp_in_nI (by omega) (by omega)) d_L_law_35 ?_
    refine lv_bipush (v := 15) hx hb d_L_law_36 (by decide) ?_
    refine lv_iand hx hb d_L_law_38 ?_
    obtain ⟨q, hq, eq⟩ := sw_val (xs (nI (4 * j)).toNatClampNeg)
    rw [eq]
    obtain ⟨ok0, okC, okM, ok_load, ok_disturb, ok_slip, ok_pass, ok_symbol, ok_aligned, ok_frame, ok_slot, ok_alarm, ok_count⟩ := OK
    have hC : 65 + j + 1 ≤ 1092 := by omega
    have hS : 326 + 6 * j + 6 ≤ 8536 := by omega
    have hq2 : q = 0 ∨ q = 1 ∨ q = 2 ∨ q = 3 ∨ q = 4 ∨ q = 5 ∨ q = 6 ∨ q = 7 ∨ q = 8 ∨ q = 9 ∨ 10 ≤ q := by omega
    rcases hq2 with rfl | rfl | rfl | rfl | rfl | rfl | rfl | rfl | rfl | rfl | hq2
    · refine lv_tableIn (tgt := 92) hx hb d_L_law_39 (by decide) (by decide) rfl (by decide) ?_
      exact lc_load Rel htr E h hl rfl (by omega) hC hS (ok_load j G hj5 hR _ _ _) (fun H1 ls1 v1 a1 a2 => hlast H1 ls1 v1 _ a1 (ok_load j G hj5 hR _ _ _).2.2 a2)
    · refine lv_tableIn (tgt := 172) hx hb d_L_law_39 (by decide) (by decide) rfl (by decide) ?_
      exact lc_disturb Rel htr E h hl rfl (by omega) hC hS (okC _ _ hR) (ok_disturb j G hj5 hR _ _ _).1 (ok_disturb j G hj5 hR _ _ _).2 (fun H1 ls1 v1 a1 a2 => hlast H1 ls1 v1 _ a1 (ok_disturb j G hj5 hR _ _ _).2.2.2 a2)
    · refine lv_tableIn (tgt := 252) hx hb d_L_law_39 (by decide) (by decide) rfl (by decide) ?_
      exact lc_slip Rel htr E h hl rfl (by omega) hC hS (ok_slip j G hj5 hR _) (fun H1 ls1 v1 a1 a2 => hlast H1 ls1 v1 _ a1 (ok_slip j G hj5 hR _).2.2 a2)
    · refine lv_tableIn (tgt := 315) hx hb d_L_law_39 (by decide) (by decide) rfl (by decide) ?_
      exact lc_pass Rel htr E h hl rfl (by omega) hC hS (okC _ _ hR) (ok_pass j G hj5 hR _).1 (ok_pass j G hj5 hR _).2 (fun H1 ls1 v1 a1 a2 => hlast H1 ls1 v1 _ a1 (ok_pass j G hj5 hR _).2.2.2 a2)
    · refine lv_tableIn (tgt := 371) hx hb d_L_law_39 (by decide) (by decide) rfl (by decide) ?_
      exact lc_symbol Rel htr E h hl rfl (by omega) hC hS (ok_symbol j G hj5 hR _) (fun H1 ls1 v1 a1 a2 => hlast H1 ls1 v1 _ a1 (ok_symbol j G hj5 hR _).2.2 a2)
    · refine lv_tableIn (tgt := 427) hx hb d_L_law_39 (by decide) (by decide) rfl (by decide) ?_
      exact lc_aligned Rel htr E h hl rfl (by omega) hC hS (ok_aligned j G hj5 hR _) (fun H1 ls1 v1 a1 a2 => hlast H1 ls1 v1 _ a1 (ok_aligned j G hj5 hR _).2.2 a2)
    · refine lv_tableIn (tgt := 490) hx hb d_L_law_39 (by decide) (by decide) rfl (by decide) ?_
      exact lc_frame Rel htr E h hl rfl (by omega) hC hS (ok_frame j G hj5 hR _) (fun H1 ls1 v1 a1 a2 => hlast H1 ls1 v1 _ a1 (ok_frame j G hj5 hR _).2.2 a2)
    · refine lv_tableIn (tgt := 546) hx hb d_L_law_39 (by decide) (by decide) rfl (by decide) ?_
      exact lc_slot Rel htr E h hl rfl (by omega) hC hS (ok_slot j G hj5 hR _ _) (fun H1 ls1 v1 a1 a2 => hlast H1 ls1 v1 _ a1 (ok_slot j G hj5 hR _ _).2.2 a2)
    · refine lv_tableIn (tgt := 614) hx hb d_L_law_39 (by decide) (by decide) rfl (by decide) ?_
      exact lc_alarm Rel htr E h hl rfl (by omega) hC hS (ok_alarm j G hj5 hR _) (fun H1 ls1 v1 a1 a2 => hlast H1 ls1 v1 _ a1 (ok_alarm j G hj5 hR _).2.2 a2)
    · refine lv_tableIn (tgt := 677) hx hb d_L_law_39 (by decide) (by decide) rfl (by decide) ?_
      exact lc_count Rel htr E h hl rfl (by omega) hC hS (ok_count j G hj5 hR _ _) (fun H1 ls1 v1 a1 a2 => hlast H1 ls1 v1 _ a1 (ok_count j G hj5 hR _ _).2.2 a2)
    · refine lv_tableOut (tgt := 745) hx hb d_L_law_39 (Or.inr (by rw [nI_toInt (by omega)]; omega)) (by decide) ?_
      refine h_more (c1 := 65 + j + 1) (s1 := 326 + 6 * j + 6) (by omega) (by omega) ?_
      exact hlast H ls v G h (okM _ _ hR) hl
theorem law_loop {Rel : Nat → Mem → Prop} (OK : LawOK Rel) (htr : l.stackTraces = false) (E : lE p s m meth c P b L xs o cL) (hlocks : meth.locks = false) : ∀ (d j : Nat) (H : Heap) (G : Mem) (v : Int64) (ls : Array Slot), L < 4 * j + 4 * d → 4 * j ≤ 2048 → lH P s o cL v G H → Rel j G → lv_has ls 7 (lL P b o (nI (4 * j))) → W p l e room_1 s m #[Value.ref b] below meth c H [] (65 + j) (326 + 6 * j) (lw_Z below #[Value.ref b] s) (F0 m 23 ls []) := by
  intro d
  induction d with
  | zero => exact fun j H G v ls hd hj h hR hl => law_step OK htr E hlocks hj h hR hl (fun h9 => absurd hd (by omega))
  | succ d ih =>
    intro j H G v ls hd hj h hR hl
    have hL := E.2.2.2.2.2.2.2
    exact law_step OK htr E hlocks hj h hR hl (fun h9 H1 G1 v1 ls1 a1 a2 a3 => ih (j + 1) H1 G1 v1 ls1 (by omega) (by omega) a1 a2 a3)
end LL
