section XR2
variable {p : Program} {l : Launch} {e : Env} {R : Room} {s : State} {m : MethodId} {args : Array Value} {below : List Frame} {meth : Method} {c : Code} {H : Heap} {locs : List Loc} {cells slots : Nat} {Q : State → Prop}
variable {cc : ByteArray} {pc : Nat} {ls : Array Slot} {rest : List Value} {P : gP} {G : Mem} {own : String} {nL : Nat} {ret : Option FieldType}
theorem gPreX_at {T : State} (E : gE p s m args meth c P own cc nL ret) (hx : gXs P s) (h : gH P s G H locs) (hT : T.heap = H) (hW : s.WarmedH T.vm) : gPreX P G T :=
  ⟨⟨by rw [hT]; exact h.1, gS_moved E.2.2.2.2.2.2.2 h.2 hT hW⟩, gXs_moved hx h.2 hT hW⟩
/-- behind x_in: on to the next instruction, or with the exception over the frame -/
theorem x_after {T : State} {len : Nat} {X : Int32 × Int32 × Mem} {val : Int32 → Option Value} {g : JFrame} {st0 : State} (h : gH P s G H locs) (hT : T.heap = H) (hvm : s.WarmedH T.vm)
    (hI : ∃ (T' : State) (L : List Loc), Stand p l e R s m args below meth c T' (locs ++ L) (cells + xc X.1) (slots + xs X.1) ∧ (∀ z ∈ L, gA P z.base) ∧ va_P (gDD P) vwCl (gw P X.2.2) T'.heap ∧ va_F (gA P) T T' ∧
      ((X.1 = 0 ∧ Steps p.tables e below st0 (T'.setTop { g with pc := g.pc + len, stack := (val X.2.1).toList ++ g.stack })) ∨
       (X.1 ≠ 0 ∧ ∃ (q : Addr) (ce : Cell), T'.heap[q]? = some ce ∧ ce.vm = .none ∧ T.vm.findClass (xE X.1) = some ce.cls ∧ Steps p.tables e below st0 ((T'.setTop g).pushFrame (.throwing q)))))
    (kk : X.1 = 0 → ∀ (H1 : Heap) (locs1 : List Loc), gH P s X.2.2 H1 locs1 → W p l e R s m args below meth c H1 locs1 cells slots Q { g with pc := g.pc + len, stack := (val X.2.1).toList ++ g.stack })
    (kx : X.1 ≠ 0 → ∀ (q : Addr) (ce : Cell) (H1 : Heap) (locs1 : List Loc), gH P s X.2.2 H1 locs1 → H1[q]? = some ce → ce.vm = .none → s.vm.findClass (xE X.1) = some ce.cls → xW p l e R s m args below meth c H1 locs1 (cells + 1) (slots + 6) Q g q) :
    ∃ t, Steps p.tables e below st0 t ∧ Q t := by
  obtain ⟨T', L, X', hL, hP, ⟨hz, hk⟩, ho⟩ := hI
  rw [hT] at hz hk
  have hS : va_S (gA P) s.heap T'.heap (locs ++ L) := ⟨Nat.le_trans h.2.1 hz, fun q h1 h2 => (hk q (Nat.lt_of_lt_of_le h1 h.2.1) h2).trans (h.2.2.1 q h1 h2), fun q hq => (List.mem_append.mp hq).elim (fun h9 => h.2.2.2 q h9) (fun h9 => hL q h9)⟩
  rcases ho with ⟨h0, st⟩ | ⟨h0, q, ce, hce, hcv, hcl, st⟩
  · have e1 : xc X.1 = 0 := by simp [xc, h0]
    have e2 : xs X.1 = 0 := by simp [xs, h0]
    rw [e1, e2] at X'
    obtain ⟨t, a1, b1⟩ := kk h0 T'.heap (locs ++ L) ⟨hP, hS⟩ T' rfl X'
    exact ⟨t, st.trans a1, b1⟩
  · have e1 : xc X.1 = 1 := by simp [xc, h0]
    have e2 : xs X.1 = 6 := by simp [xs, h0]
    rw [e1, e2] at X'
    rw [hvm.alike.findClass] at hcl
    obtain ⟨t, a1, b1⟩ := kx h0 q ce T'.heap (locs ++ L) ⟨hP, hS⟩ hce hcv hcl T' rfl X'
    exact ⟨t, st.trans a1, b1⟩
theorem x_callV {y : MethodName} {cy : ByteArray} {my n idx : Nat} {ry : Option FieldType} {rm : Room} {lv : List (Nat × Value)} {st0 As : List Value} {X : Int32 × Int32 × Mem} {val : Int32 → Option Value} {c0 ci N : Nat} {C : String} {T : u_T} {fl : (Nat → Int32) → List Value} (E : gE p s m args meth c P own cc nL ret) (hx : gXs P s) (h : gH P s G H locs) (hl : lv_has ls nL lv) (hM : xMet l y cy my ry rm (.ref (gad P c0) :: As) val P G X) (L : gLV own C idx y cy my ry n) (hc : c0 < 64 ∧ ∀ g, gc P c0 g = .inr (ci, fl g)) (hcl : gCl ci C T N)
    (hF : rm.frames + 1 ≤ R.frames) (hL : 8 + (my + 11) + rm.locals ≤ R.locals) (hCe : cells + rm.cells ≤ R.cells) (hSl : slots + rm.slots ≤ R.slots) (hroom : (rest.map fun v => v.category).sum ≤ 8) (hn : As.length = n) (hst : st0 = As.reverse ++ .ref (gad P c0) :: rest) (hdg : decode cc pc = .ok (.invokevirtual idx, 3))
    (kk : X.1 = 0 → ∀ (H1 : Heap) (locs1 : List Loc), gH P s X.2.2 H1 locs1 → W p l e R s m args below meth c H1 locs1 cells slots Q (F0 m (pc + 3) ls ((val X.2.1).toList ++ rest)))
    (kx : X.1 ≠ 0 → ∀ (q : Addr) (ce : Cell) (H1 : Heap) (locs1 : List Loc), gH P s X.2.2 H1 locs1 → H1[q]? = some ce → ce.vm = .none → s.vm.findClass (xE X.1) = some ce.cls → xW p l e R s m args below meth c H1 locs1 (cells + 1) (slots + 6) Q (F0 m pc ls rest) q) : W p l e R s m args below meth c H locs cells slots Q (F0 m pc ls st0) := by
  intro T0 hT X0
  have hts := E.2.2.2.2.2.1
  obtain ⟨⟨hcw, hini, hd⟩, hlk, hin, hse⟩ := L
  obtain ⟨cellB, hcB, hoB, hclB⟩ := va_recv (q := (C, T, N)) E.2.2.2.2.2.2.2.1 h.1 hcl.1 (q0 := c0) (fs := fl (G c0)) (by rw [gw_at hc.1, hc.2])
  have hcode := hts _ hcw
  obtain ⟨mk, methM, hnamed, hmethM, hstM, habM⟩ := Cond.instanceMethod_spec (hts _ hin)
  obtain ⟨methM', cM, hmethM', -, -, -, -, -, -, hsigM⟩ := Cond.code_spec hnamed hcode
  cases hmethM.symm.trans hmethM'
  obtain ⟨c2, r2, m2, q1, q2, q3, q4, kP, hkP, hkPi⟩ := Cond.selects_spec (hts _ hse)
  cases hclB.symm.trans q1
  cases (State.methodFound?_of_named hnamed ⟨hd.1, hd.2.1⟩).symm.trans q2
  cases hnamed.symm.trans q3
  have hselP : selectMethod e.platform s.vm cellB.cls mk = .method mk := by rw [Launch.admits_selectMethod X0.admits]; exact q4
  have hlen : ∀ sig, parseMethodDescriptor y.desc = some sig → As.length = sig.parameters.length := by
    intro sig hs
    have h2 := hd.2.2
    rw [hs] at h2
    exact hn.trans (Option.some.inj h2).symm
  obtain ⟨vm₁, X₁, hstep₁⟩ := X0.invokevirtual E.1 E.2.2.2.2.1 (hts _ hlk) hnamed hmethM hstM hkP hkPi ⟨hd.1, hd.2.1⟩ (a := gad P c0) (cell := cellB) (by rw [hT]; exact hcB)
    (fun z h9 => by rw [h9] at hoB; cases hoB) hselP hmethM habM hkP hkPi (g := F0 m pc ls st0) rfl (argsL := As) (rest := rest) (hlen _ hsigM) hst (by rw [E.2.1]; exact hdg)
  have hI := x_in (len := 3) (g := F0 m pc ls rest) (ig := .invokevirtual idx) hM hts hcw hini hF hL hCe hSl X₁ rfl (hl.1.trans E.2.2.2.1.symm) (by rw [E.2.1]; exact hdg) (lv_room hroom) (X₁.named hnamed) (gPreX_at E hx h hT X₁.warmed)
  obtain ⟨t, a1, b1⟩ := x_after (Q := Q) (g := F0 m pc ls rest) h (show (T0.setVm vm₁).heap = H from hT) X₁.warmed hI kk kx
  exact ⟨t, hstep₁ _ fun acts => by rw [doInvoke_state]; exact a1, b1⟩
theorem x_callS {y : MethodName} {cy : ByteArray} {my n idx : Nat} {ry : Option FieldType} {rm : Room} {lv : List (Nat × Value)} {st0 As : List Value} {X : Int32 × Int32 × Mem} {val : Int32 → Option Value} (E : gE p s m args meth c P own cc nL ret) (hx : gXs P s) (h : gH P s G H locs) (hl : lv_has ls nL lv) (hM : xMet l y cy my ry rm As val P G X) (L : gLS own idx y cy my ry n)
    (hF : rm.frames + 1 ≤ R.frames) (hL : 8 + (my + 11) + rm.locals ≤ R.locals) (hCe : cells + rm.cells ≤ R.cells) (hSl : slots + rm.slots ≤ R.slots) (hroom : (rest.map fun v => v.category).sum ≤ 8) (hn : As.length = n) (hst : st0 = As.reverse ++ rest) (hdg : decode cc pc = .ok (.invokestatic idx, 3))
    (kk : X.1 = 0 → ∀ (H1 : Heap) (locs1 : List Loc), gH P s X.2.2 H1 locs1 → W p l e R s m args below meth c H1 locs1 cells slots Q (F0 m (pc + 3) ls ((val X.2.1).toList ++ rest)))
    (kx : X.1 ≠ 0 → ∀ (q : Addr) (ce : Cell) (H1 : Heap) (locs1 : List Loc), gH P s X.2.2 H1 locs1 → H1[q]? = some ce → ce.vm = .none → s.vm.findClass (xE X.1) = some ce.cls → xW p l e R s m args below meth c H1 locs1 (cells + 1) (slots + 6) Q (F0 m pc ls rest) q) : W p l e R s m args below meth c H locs cells slots Q (F0 m pc ls st0) := by
  intro T0 hT X0
  have hts := E.2.2.2.2.2.1
  obtain ⟨⟨hcw, hini, hd⟩, hlk, hstt⟩ := L
  have hcode := hts _ hcw
  obtain ⟨mk, hnamed⟩ := Cond.code_named hcode
  obtain ⟨methM, cM, hmethM, -, -, -, -, -, -, hsigM⟩ := Cond.code_spec hnamed hcode
  have hstatic : methM.isStatic = true := Cond.static_spec hnamed hmethM (hts _ hstt)
  obtain ⟨kP, hkP, -⟩ := className_of_methodNamed hnamed
  have hinitP : kP.init = .initialized := Cond.initialized_spec (findClass_of_methodNamed hnamed) hkP (hts _ hini)
  have hlen : ∀ sig, parseMethodDescriptor y.desc = some sig → As.length = sig.parameters.length := by
    intro sig hs
    have h2 := hd.2.2
    rw [hs] at h2
    exact hn.trans (Option.some.inj h2).symm
  obtain ⟨vm₁, X₁, hstep₁⟩ := X0.invokestatic E.1 E.2.2.2.2.1 (hts _ hlk) hnamed hmethM hstatic hkP hinitP ⟨hd.1, hd.2.1⟩ (g := F0 m pc ls st0) rfl (argsL := As) (rest := rest) (hlen _ hsigM) hst (by rw [E.2.1]; exact hdg)
  have hI := x_in (len := 3) (g := F0 m pc ls rest) (ig := .invokestatic idx) hM hts hcw hini hF hL hCe hSl X₁ rfl (hl.1.trans E.2.2.2.1.symm) (by rw [E.2.1]; exact hdg) (lv_room hroom) (X₁.named hnamed) (gPreX_at E hx h hT X₁.warmed)
  obtain ⟨t, a1, b1⟩ := x_after (Q := Q) (g := F0 m pc ls rest) h (show (T0.setVm vm₁).heap = H from hT) X₁.warmed hI kk kx
  exact ⟨t, hstep₁ _ fun acts => by rw [doInvoke_state]; exact a1, b1⟩
/-- a return, in a method that may throw -/
theorem x_ret {X : Int32 × Int32 × Mem} {val : Int32 → Option Value} {g : JFrame} (h0 : X.1 = 0) (hG : X.2.2 = G) (h : gH P s G H locs)
    (k : W p l e R s m args below meth c H locs 0 0 (MQ below (fun _ st o t => o = .returned (val X.2.1) ∧ t.heap = H) args s 0 0 (gA P)) g) : W p l e R s m args below meth c H locs 0 0 (xMQ below val P X args s) g := by
  intro T hT X0
  obtain ⟨t, a1, o, b1, b2, ⟨b3, b4⟩, L, ⟨-, hW, hs⟩, hL⟩ := k T hT X0
  refine ⟨t, a1, o, b1, b2, Or.inl ⟨h0, b3⟩, by rw [b4, hG]; exact h.1, h.2.F b4, hW, L, ?_, hL⟩
  rw [show xc X.1 = 0 by simp [xc, h0], show xs X.1 = 0 by simp [xs, h0]]
  exact hs
/-- an exception that goes on to the caller -/
theorem x_out {X : Int32 × Int32 × Mem} {val : Int32 → Option Value} {q : Addr} {ce : Cell} {k : Int32} (hno : c.exceptionTable.isEmpty = true) (hlocks : meth.locks = false) (h0 : X.1 ≠ 0) (hk : X.1 = k) (hG : X.2.2 = G) (h : gH P s G H locs) (hce : H[q]? = some ce) (hcv : ce.vm = .none) (hcl : s.vm.findClass (xE k) = some ce.cls) :
    xW p l e R s m args below meth c H locs 1 6 (xMQ below val P X args s) (F0 m pc ls rest) q := by
  intro T hT X0
  have hout : ∀ x ∈ c.exceptionTable.toList, covers x pc = false := by
    have h9 : c.exceptionTable.size = 0 := by simpa [Array.isEmpty] using hno
    have h8 : c.exceptionTable.toList = [] := List.eq_nil_of_length_eq_zero (by simpa using h9)
    intro x hx
    rw [h8] at hx
    cases hx
  obtain ⟨st1, hrun, hend, hW, hsm⟩ := X0.leaveThrown q (g := F0 m pc ls rest) rfl rfl rfl hout hlocks
  have hh : (T.setFrames (.throwing q :: below)).heap = H := hT
  refine ⟨_, st1, .threw q, hrun, hend, Or.inr ⟨h0, q, ce, rfl, by rw [hh]; exact hce, hcv, by rw [hk]; exact hcl⟩, by rw [hh, hG]; exact h.1, h.2.F hh, hW, locs, ?_, h.2.2.2⟩
  rw [show xc X.1 = 1 by simp [xc, h0], show xs X.1 = 6 by simp [xs, h0]]
  exact hsm
end XR2
