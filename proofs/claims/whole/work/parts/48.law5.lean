theorem arr_of {args : Array Value} {s : State} {ty : FieldType} (h : (Cond.arrayClass ty).before args s = true) : ∃ cA : ClassId, s.vm.findClass ("[" ++ ty.toString) = some cA ∧ ArrOfT s cA ty := by
  obtain ⟨cA, k, comp, h1, h2, h3⟩ := Cond.arrayClass_spec h
  exact ⟨cA, h1, fun n z => ⟨fun q h => (by cases h), k, h2, comp, h3⟩⟩
theorem str_of {args : Array Value} {s : State} {k : Nat} {tx : String} {cur : ClassId} (hc : s.vm.findClass "FramedLine" = some cur) (h : (Cond.stringRef "FramedLine" k tx).before args s = true) : ∃ a, vk_R "FramedLine" k tx a s := by
  obtain ⟨_, _, _, a, -, -, -, -, -, h6⟩ := Cond.stringRef_spec hc h
  exact ⟨a, vk_R.of h h6⟩
set_option maxHeartbeats 4000000 in
set_option maxRecDepth 100000 in
theorem start_D {s : State} {args : Array Value} (hts : ∀ w ∈ GW, w.before args s = true) : ∃ D : va_G, ∀ (c : Nat) (q : vw_C), vwCl[c]? = some q → u_Kn s q.1 q.2.1 q.2.2 (D.1 c) (D.2 c) := by
  have key : ∀ c : Nat, ∃ z : ClassId × (Nat → Nat), ∀ q : vw_C, vwCl[c]? = some q → u_Kn s q.1 q.2.1 q.2.2 z.1 z.2 := by
    intro c
    match c with
    | 0 =>
      obtain ⟨cC, iS, h⟩ := u_known (N := 4) (C := "FramedLine$Arrivals") (T := T_A) hts cl_A.2 (hts _ lin_A)
      refine ⟨(cC, iS), fun q hq => ?_⟩
      have e : vwCl[0]? = some ("FramedLine$Arrivals", T_A, 4) := rfl
      cases e.symm.trans hq
      exact h
    | 1 =>
      obtain ⟨cC, iS, h⟩ := u_known (N := 7) (C := "FramedLine$Decoder") (T := T_D) hts cl_D.2 (hts _ lin_D)
      refine ⟨(cC, iS), fun q hq => ?_⟩
      have e : vwCl[1]? = some ("FramedLine$Decoder", T_D, 7) := rfl
      cases e.symm.trans hq
      exact h
    | 2 =>
      obtain ⟨cC, iS, h⟩ := u_known (N := 6) (C := "FramedLine$Encoder") (T := T_E) hts cl_E.2 (hts _ lin_E)
      refine ⟨(cC, iS), fun q hq => ?_⟩
      have e : vwCl[2]? = some ("FramedLine$Encoder", T_E, 6) := rfl
      cases e.symm.trans hq
      exact h
    | 3 =>
      obtain ⟨cC, iS, h⟩ := u_known (N := 5) (C := "FramedLine$End") (T := T_N) hts cl_N.2 (hts _ lin_N)
      refine ⟨(cC, iS), fun q hq => ?_⟩
      have e : vwCl[3]? = some ("FramedLine$End", T_N, 5) := rfl
      cases e.symm.trans hq
      exact h
    | 4 =>
      obtain ⟨cC, iS, h⟩ := u_known (N := 10) (C := "FramedLine$Receiver") (T := T_R) hts cl_R.2 (hts _ lin_R)
      refine ⟨(cC, iS), fun q hq => ?_⟩
      have e : vwCl[4]? = some ("FramedLine$Receiver", T_R, 10) := rfl
      cases e.symm.trans hq
      exact h
    | 5 =>
      obtain ⟨cC, iS, h⟩ := u_known (N := 13) (C := "FramedLine$Rounds") (T := T_O) hts cl_O.2 (hts _ lin_O)
      refine ⟨(cC, iS), fun q hq => ?_⟩
      have e : vwCl[5]? = some ("FramedLine$Rounds", T_O, 13) := rfl
      cases e.symm.trans hq
      exact h
    | 6 =>
      obtain ⟨cC, iS, h⟩ := u_known (N := 6) (C := "FramedLine$Sender") (T := T_S) hts cl_S.2 (hts _ lin_S)
      refine ⟨(cC, iS), fun q hq => ?_⟩
      have e : vwCl[6]? = some ("FramedLine$Sender", T_S, 6) := rfl
      cases e.symm.trans hq
      exact h
    | 7 =>
      obtain ⟨cC, iS, h⟩ := u_known (N := 3) (C := "FramedLine") (T := T_F) hts cl_F.2 (hts _ lin_F)
      refine ⟨(cC, iS), fun q hq => ?_⟩
      have e : vwCl[7]? = some ("FramedLine", T_F, 3) := rfl
      cases e.symm.trans hq
      exact h
    | 8 =>
      obtain ⟨cC, iS, h⟩ := u_known (N := 44) (C := "FramedLineModel") (T := T_M) hts cl_M.2 (hts _ lin_M)
      refine ⟨(cC, iS), fun q hq => ?_⟩
      have e : vwCl[8]? = some ("FramedLineModel", T_M, 44) := rfl
      cases e.symm.trans hq
      exact h
    | n + 9 => exact ⟨(0, fun _ => 0), fun q hq => by rw [List.getElem?_eq_none (by simp)] at hq; cases hq⟩
  obtain ⟨f, hf⟩ := Classical.axiomOfChoice key
  exact ⟨(fun c => (f c).1, fun c => (f c).2), hf⟩
set_option maxHeartbeats 4000000 in
set_option maxRecDepth 100000 in
theorem start_E {s : State} {args : Array Value} {A : Nat → Prop} (hts : ∀ w ∈ lw_tbl, w.before args s = true) (hg : (Jvm.Cond.and given_1 narrow_1).before args s = true) (hA : ∀ a : Nat, a < s.heap.size → ¬ A a) : ∃ ad : Nat → Nat, va_En "FramedLine$State" "LFramedLine$State;" ["SEARCHING", "TRYING", "ALIGNED"] [] ad A s s.heap := by
  have hs := flat_of_before _ hg
  refine va_Enof (fun i hi => ?_) (hts _ (List.mem_of_getElem? (i := 50) (by decide +kernel))) (fun i hi => ?_) (fun q hq => nomatch hq) (fun i j hi hj hij => ?_) hA
  · match i, hi with
    | 0, _ => exact hts _ (List.mem_of_getElem? (i := 230) (by decide +kernel))
    | 1, _ => exact hts _ (List.mem_of_getElem? (i := 527) (by decide +kernel))
    | 2, _ => exact hts _ (List.mem_of_getElem? (i := 454) (by decide +kernel))
  · match i, hi with
    | 0, _ => exact hs _ (by decide +kernel)
    | 1, _ => exact hs _ (by decide +kernel)
    | 2, _ => exact hs _ (by decide +kernel)
  · match i, j, hi, hj with
    | 0, 0, _, _ => exact absurd rfl hij
    | 1, 1, _, _ => exact absurd rfl hij
    | 2, 2, _, _ => exact absurd rfl hij
    | 0, 1, _, _ => exact Or.inl (hs _ (by decide +kernel))
    | 1, 0, _, _ => exact Or.inr (hs _ (by decide +kernel))
    | 0, 2, _, _ => exact Or.inl (hs _ (by decide +kernel))
    | 2, 0, _, _ => exact Or.inr (hs _ (by decide +kernel))
    | 2, 1, _, _ => exact Or.inl (hs _ (by decide +kernel))
    | 1, 2, _, _ => exact Or.inr (hs _ (by decide +kernel))
set_option maxHeartbeats 4000000 in
set_option maxRecDepth 100000 in
/-- the two systems' place, out of the law's entry -/
theorem start_P {p : Program} {s : State} {m : MethodId} {meth : Method} {c : Code} {b L : Nat} {xs : Nat → Int32} (hL : L ≤ 2048) (C0 : lw_At p s m meth c b L xs) : ∃ (P : gP) (cL : ClassId), Dense P ∧ gad P 0 = s.heap.size ∧ s.vm.findClass ("[" ++ (FieldType.long).toString) = some cL ∧ lE p s m meth c P b L xs (gad P 64) cL := by
  obtain ⟨hx, hb, hr, hml, hown, hts, hX, hbl, hlocks, hg⟩ := C0
  have htG : ∀ w ∈ GW, w.before #[Value.ref b] s = true := fun w hw => hts w (List.mem_filter.mp hw).1
  have hs := flat_of_before _ hg
  obtain ⟨D, hD⟩ := start_D htG
  obtain ⟨cI, hI1, hI2⟩ := arr_of (htG _ la_int)
  obtain ⟨cZ, hZ1, hZ2⟩ := arr_of (htG _ la_boolean)
  obtain ⟨cL, hL1, hL2⟩ := arr_of (htG _ la_long)
  obtain ⟨ad, hE⟩ := start_E (A := fun q => s.heap.size ≤ q) hts hg (fun a h => Nat.not_le.mpr h)
  have hd : Dense ((fun c => s.heap.size + c, D, cI, cZ, ad) : gP) := fun c => by show s.heap.size + c = s.heap.size + 0 + c; omega
  have hnew : ∀ q, gA ((fun c => s.heap.size + c, D, cI, cZ, ad) : gP) q → s.heap.size ≤ q := by
    rintro q ⟨c, -, rfl⟩
    show s.heap.size ≤ s.heap.size + c
    omega
  have hcF : ∃ cur, s.vm.findClass "FramedLine" = some cur := by
    obtain ⟨-, h9, -⟩ := hD 7 _ rfl
    exact ⟨_, h9⟩
  obtain ⟨cur, hcur⟩ := hcF
  have hold : ∀ a : Nat, a < s.heap.size → ¬ gA ((fun c => s.heap.size + c, D, cI, cZ, ad) : gP) a := fun a h h9 => absurd (hnew a h9) (Nat.not_le.mpr h)
  refine ⟨(fun c => s.heap.size + c, D, cI, cZ, ad), cL, hd, rfl, hL1, ⟨hx, hb, hr, hml, hown, htG, hlocks, ⟨hD, fun k q hq => ?_⟩, dense_inj hd, fun w hw => va_Nw.of (NW_tab hw) (hts w (List.mem_filter.mp hw).1), hE.narrow hnew⟩, ⟨fun w hw => va_Nw.of (XW_tab hw) (hts w (List.mem_filter.mp hw).1), ?_, ?_, ?_, ?_, ?_, ?_⟩, hL2, ?_, ?_, hX, hbl, hL⟩
  · match k, hq with
    | 0, hq => cases hq; exact ⟨hI2, hI1⟩
    | 1, hq => cases hq; exact ⟨hZ2, hZ1⟩
  · exact xSt.of (hts _ (List.mem_of_getElem? (i := 339) (by decide +kernel))) (hs _ (by decide +kernel)) hold
  · exact xSt.of (hts _ (List.mem_of_getElem? (i := 341) (by decide +kernel))) (hs _ (by decide +kernel)) hold
  · exact str_of hcur (hts _ (List.mem_of_getElem? (i := 352) (by decide +kernel)))
  · exact str_of hcur (hts _ (List.mem_of_getElem? (i := 408) (by decide +kernel)))
  · exact str_of hcur (hts _ (List.mem_of_getElem? (i := 627) (by decide +kernel)))
  · exact va_Nc.of (hs _ (by decide +kernel))
  · rintro ⟨c, hc, h9⟩
    have h8 : s.heap.size + 64 = s.heap.size + c := h9
    omega
  · rintro q (h9 | rfl)
    · exact hnew q h9
    · show s.heap.size ≤ s.heap.size + 64
      omega
