/-! THE LAW'S HELPERS: they call, catch, and lay the answer into out[0], a long[1] outside the world. -/
def oV (cL : ClassId) (o : Nat) (v : Int64) (H : Heap) : Prop := H[o]? = some (arrV cL 1 (fun _ => .long v))
def hA (P : gP) (o : Nat) : Nat → Prop := fun q => gA P q ∨ q = o
def hPre (P : gP) (o : Nat) (cL : ClassId) (v : Int64) (G : Mem) (U : State) : Prop := gPreX P G U ∧ oV cL o v U.heap ∧ ArrOfT U cL .long ∧ ¬ gA P o
theorem hPre_blind {av : List Value} {P : gP} {o : Nat} {cL : ClassId} {v : Int64} {G : Mem} : FrameBlind (va_Pc av (hPre P o cL v G)) := by
  intro a U g mk h
  obtain ⟨h0, hp, h1, h2, h3⟩ := h
  have hb := gPreX_blind (av := av) (P := P) (G := G) a U g mk ⟨h0, hp⟩
  exact ⟨h0, hb.2, h1, arrOfT_moved (u := U) (E := U.calling g mk a) (Vm.Alike.refl U.vm) h2, h3⟩
def hQ (P : gP) (o : Nat) (cL : ClassId) (v : Int64) (ov : Int32 → Int64) (X : Int32 × Int32 × Mem) : Array Value → State → Outcome → State → Prop := fun _ st oc t =>
  oc = .returned (some (.int X.1)) ∧ va_P (gDD P) vwCl (gw P X.2.2) t.heap ∧ oV cL o (if X.1 = 0 then ov X.2.1 else v) t.heap ∧ va_F (hA P o) st t
def hMet (l : Launch) (y : MethodName) (cc : ByteArray) (maxL : Nat) (ret : Option FieldType) (hh : List (Nat × Nat × Nat × Nat)) (rm : Room) (av : List Value) (P : gP) (o : Nat) (cL : ClassId) (v : Int64) (ov : Int32 → Int64) (G : Mem) (X : Int32 × Int32 × Mem) : Prop :=
  Met l y (Cond.codeWith y cc maxL ret hh :: GW) rm (va_Pc av (hPre P o cL v G)) (hQ P o cL v ov X) 1 6 (hA P o)
abbrev iL (r : Int32) : Int64 := r.toInt64
def zL (r : Int32) : Int64 := if r = 0 then 0 else 1
def gLH (own : String) (idx : Nat) (y : MethodName) (cc : ByteArray) (maxL : Nat) (ret : Option FieldType) (hh : List (Nat × Nat × Nat × Nat)) (n : Nat) : Prop :=
  (Cond.codeWith y cc maxL ret hh ∈ GW ∧ Cond.initialized y.cls ∈ GW ∧ (y.cls ≠ "java/lang/invoke/MethodHandle" ∧ y.cls ≠ "java/lang/invoke/VarHandle" ∧ (parseMethodDescriptor y.desc).map (fun d => d.parameters.length) = some n)) ∧ Cond.methodLink own idx y ∈ GW ∧ Cond.static y ∈ GW
theorem gE_ofH {p : Program} {l : Launch} {e : Env} {s : State} {m : MethodId} {args : Array Value} {below : List Frame} {meth : Method} {c : Code} {s₁ : State} {y : MethodName} {cc : ByteArray} {maxL : Nat} {ret : Option FieldType} {hh : List (Nat × Nat × Nat × Nat)} {rm : Room} {P : gP} {o : Nat} {cL : ClassId} {v : Int64} {G : Mem}
    (B : BodyLoose p l y (headSpec (Cond.codeWith y cc maxL ret hh :: GW) rm) cc maxL ret e s m args below meth c s₁) (hml : c.maxLocals = maxL) (hpre : hPre P o cL v G s) : (gE p s m args meth c P y.cls cc maxL ret ∧ gH P s G s.heap []) ∧ gXs P s ∧ c.exceptionTable.toList.map (fun h => (h.startPc, h.endPc, h.handlerPc, h.catchType)) = hh := by
  refine ⟨⟨⟨B.exec, B.bytes, B.returns, hml, findClass_of_methodNamed B.named, fun w h => atoms_spec (ws := Cond.codeWith y cc maxL ret hh :: GW) B.pre w (List.mem_cons_of_mem _ h), B.notSynchronized, hpre.1.1.2⟩, hpre.1.1.1, va_S.rf⟩, hpre.1.2, ?_⟩
  obtain ⟨m9, meth9, c9, hn9, h1, h2, -, -, h3, -⟩ := Cond.codeWith_spec (atoms_spec (ws := Cond.codeWith y cc maxL ret hh :: GW) B.pre _ List.mem_cons_self)
  cases B.named.symm.trans hn9
  cases B.method.symm.trans h1
  cases (Stand.of_body B).code.symm.trans h2
  exact h3
section XR7
variable {p : Program} {l : Launch} {e : Env} {R : Room} {s : State} {m : MethodId} {args : Array Value} {below : List Frame} {meth : Method} {c : Code} {H : Heap} {locs : List Loc} {cells slots : Nat} {Q : State → Prop}
variable {cc : ByteArray} {pc : Nat} {ls : Array Slot} {rest : List Value} {P : gP} {G : Mem} {own : String} {nL : Nat} {ret : Option FieldType}
theorem h_more {g : JFrame} {c1 s1 : Nat} (hc : cells ≤ c1) (hs : slots ≤ s1) (k : W p l e R s m args below meth c H locs c1 s1 Q g) : W p l e R s m args below meth c H locs cells slots Q g :=
  fun T hT X => k T hT ⟨X.admits, X.cas, X.clock, X.frames, X.room, X.hears, X.method, X.code, X.here, X.tail, X.warmed, X.limits, X.bytes, X.same.mono hc hs⟩
theorem h_store {o : Nat} {cL : ClassId} {v x : Int64} (E : gE p s m args meth c P own cc nL ret) (h : gH P s G H locs) (hO : oV cL o v H) (hT : ArrOfT s cL .long) (hno : ¬ gA P o) (hdg : decode cc pc = .ok (.lastore, 1))
    (kk : ∀ (H1 : Heap) (locs1 : List Loc), va_P (gDD P) vwCl (gw P G) H1 → oV cL o x H1 → va_S (hA P o) s.heap H1 locs1 → W p l e R s m args below meth c H1 locs1 cells slots Q (F0 m (pc + 1) ls rest)) : W p l e R s m args below meth c H locs cells slots Q (F0 m pc ls (.long x :: .int 0 :: .ref o :: rest)) := by
  refine W.last E.1 E.2.1 hO (hT 1 (fun _ => .long v)) (fun q => by cases q) (by rw [arrV_size]; decide) rfl rfl hdg (fun H1 e z oq => ?_)
  refine kk H1 _ (h.1.kept (fun k q hq => ?_)) ?_ (va_S.put (A := hA P o) ⟨h.2.1, fun q h1 h2 => h.2.2.1 q h1 (fun h9 => h2 (Or.inl h9)), fun q hq => Or.inl (h.2.2.2 q hq)⟩ z oq (Or.inr rfl))
  · refine oq _ (fun h9 => hno ?_)
    have lk := gw_lt hq
    rw [gw_at lk] at hq
    cases hq
    exact ⟨k, lk, h9.symm⟩
  · show H1[o]? = _
    rw [e, show (0 : Int32).toNatClampNeg = 0 from rfl, arrV_store]
    refine congrArg some ?_
    unfold arrV
    congr 1
/-- a helper's return -/
theorem h_ret {o : Nat} {cL : ClassId} {v : Int64} {ov : Int32 → Int64} {X : Int32 × Int32 × Mem} {k : Int32} (E : gE p s m args meth c P own cc nL (some .int)) (h1 : va_P (gDD P) vwCl (gw P X.2.2) H) (h2 : oV cL o (if X.1 = 0 then ov X.2.1 else v) H) (h3 : va_S (hA P o) s.heap H locs) (hk : X.1 = k) (hdg : decode cc pc = .ok (.ireturn, 1)) :
    W p l e R s m args below meth c H locs 1 6 (MQ below (hQ P o cL v ov X) args s 1 6 (hA P o)) (F0 m pc ls [.int k]) := by
  subst hk
  exact W.iret E.1 E.2.1 E.2.2.1 (fun t ht _ => ⟨rfl, by show va_P _ _ _ t.heap; rw [ht]; exact h1, by show oV _ _ _ t.heap; rw [ht]; exact h2, h3.F ht⟩) h3.2.2 hdg E.2.2.2.2.2.2.1
theorem hS_of {o : Nat} (h : va_S (gA P) s.heap H locs) : va_S (hA P o) s.heap H locs := ⟨h.1, fun q h1 h2 => h.2.1 q h1 (fun h9 => h2 (Or.inl h9)), fun q hq => Or.inl (h.2.2 q hq)⟩
/-- the law calls a helper; what was written lies in cells of its own making -/
theorem h_callS {y : MethodName} {cy : ByteArray} {my n idx : Nat} {ry : Option FieldType} {hh : List (Nat × Nat × Nat × Nat)} {rm : Room} {lv : List (Nat × Value)} {st0 As : List Value} {X : Int32 × Int32 × Mem} {o : Nat} {cL : ClassId} {v : Int64} {ov : Int32 → Int64} (E : gE p s m args meth c P own cc nL ret) (hx : gXs P s) (h : gH P s G H []) (hO : oV cL o v H) (hT : ArrOfT s cL .long) (hno : ¬ gA P o) (hnew : ∀ q, hA P o q → s.heap.size ≤ q) (hl : lv_has ls nL lv) (hM : hMet l y cy my ry hh rm As P o cL v ov G X) (L : gLH own idx y cy my ry hh n)
    (hF : rm.frames + 1 ≤ R.frames) (hL : 8 + (my + 11) + rm.locals ≤ R.locals) (hCe : cells + 1 ≤ R.cells) (hSl : slots + 6 ≤ R.slots) (hrc : rm.cells = 1) (hrs : rm.slots = 6) (hroom : (rest.map fun v => v.category).sum ≤ 8) (hn : As.length = n) (hst : st0 = As.reverse ++ rest) (hdg : decode cc pc = .ok (.invokestatic idx, 3))
    (kk : ∀ (H1 : Heap), gH P s X.2.2 H1 [] → oV cL o (if X.1 = 0 then ov X.2.1 else v) H1 → W p l e R s m args below meth c H1 [] (cells + 1) (slots + 6) Q (F0 m (pc + 3) ls (.int X.1 :: rest))) : W p l e R s m args below meth c H [] cells slots Q (F0 m pc ls st0) := by
  intro T0 hT0 X0
  have hts := E.2.2.2.2.2.1
  obtain ⟨⟨hcw, hini, hd⟩, hlk, hstt⟩ := L
  obtain ⟨mk, methM, cM, hnamed, hmethM, -, -, -, -, -, -, hsigM⟩ := Cond.codeWith_spec (hts _ hcw)
  have hstatic : methM.isStatic = true := Cond.static_spec hnamed hmethM (hts _ hstt)
  obtain ⟨kP, hkP, -⟩ := className_of_methodNamed hnamed
  have hinitP : kP.init = .initialized := Cond.initialized_spec (findClass_of_methodNamed hnamed) hkP (hts _ hini)
  have hlen : ∀ sig, parseMethodDescriptor y.desc = some sig → As.length = sig.parameters.length := by
    intro sig hs
    have h2 := hd.2.2
    rw [hs] at h2
    exact hn.trans (Option.some.inj h2).symm
  have hws : ∀ w ∈ Cond.codeWith y cy my ry hh :: GW, ∀ (a' : Array Value) (U : State), s.WarmedH U.vm → w.before a' U = true := pay_in hts (GW_good (big := GW) (fun w h => (List.mem_cons.mp h).elim (fun q => by rw [q]; exact hcw) id))
  have hK : Back l R p e below s args y 3 8 (PreOf R 1 6 (va_Pc As (hPre P o cL v G))) (PostOf (hQ P o cL v ov X) 1 6 (hA P o)) := va_backW (hh := hh) (bytes := cy) (maxL := my) (ret := ry) hM hPre_blind hrc hrs hF hL hws List.mem_cons_self (fun a' U hW => hws _ (List.mem_cons_of_mem _ hini) a' U hW)
  obtain ⟨vm₁, X₁, hstep₁⟩ := X0.invokestatic E.1 E.2.2.2.2.1 (hts _ hlk) hnamed hmethM hstatic hkP hinitP ⟨hd.1, hd.2.1⟩ (g := F0 m pc ls st0) rfl (argsL := As) (rest := rest) (hlen _ hsigM) hst (by rw [E.2.1]; exact hdg)
  obtain ⟨r, B, X', ⟨g', mk', t, L9, e1, e2, ⟨q1, q2, q3, q4, q5⟩, h1, hL9, h2, h3⟩, hsteps⟩ := hK m meth c ⟨T0.setVm vm₁, [], cells, slots⟩ (F0 m pc ls rest) (.invokestatic idx) mk As.toArray X₁ rfl (hl.1.trans E.2.2.2.1.symm) (by rw [E.2.1]; exact hdg) (lv_room hroom) (X₁.named hnamed)
    ⟨hCe, hSl, rfl, gPreX_at E hx h (show (T0.setVm vm₁).heap = H from hT0) X₁.warmed, by show oV _ _ _ T0.heap; rw [hT0]; exact hO, arrOfT_moved X₁.warmed.alike hT, hno⟩
  obtain ⟨U', l2, c2, s2⟩ := B
  dsimp only [Pt.U, Pt.locs, Pt.cells, Pt.slots] at X' e1 e2 h1 h2 h3 hsteps
  subst h1; subst h2; subst h3
  cases q1
  rw [show ((T0.setVm vm₁).calling g' mk' As.toArray).heap = H from hT0] at q4 q5
  obtain ⟨t', a1, b1⟩ := kk U'.heap ⟨by rw [e1]; exact q2, Nat.le_trans h.2.1 (by rw [e1]; exact q4), fun q h8 h9 => by
      rw [e1, q5 q (Nat.lt_of_lt_of_le h8 h.2.1) (fun h7 => absurd (hnew q h7) (Nat.not_le.mpr h8))]
      exact h.2.2.1 q h8 h9, fun _ h9 => by cases h9⟩ (by rw [e1]; exact q3) U' rfl (Stand.forget (locs := []) X' (fun z hz => hnew _ (hL9 z hz)))
  exact ⟨t', hstep₁ _ fun acts => by rw [doInvoke_state]; exact hsteps.trans a1, b1⟩
end XR7
section XR8
variable {p : Program} {l : Launch} {e : Env} {R : Room} {s : State} {m : MethodId} {args : Array Value} {below : List Frame} {meth : Method} {c : Code} {H : Heap} {locs : List Loc} {cells slots : Nat} {Q : State → Prop}
variable {cc : ByteArray} {pc : Nat} {ls : Array Slot} {rest : List Value} {P : gP} {G : Mem} {own : String} {nL : Nat} {ret : Option FieldType}
theorem h_keep {o : Nat} {cL : ClassId} {v : Int64} (h : gH P s G H locs) (hO : oV cL o v s.heap) (hno : ¬ gA P o) : oV cL o v H := by
  show H[o]? = _
  rw [h.2.2.1 o (Array.getElem?_eq_some_iff.mp hO).1 hno]
  exact hO
theorem h_catch1 {q : Addr} {ce : Cell} {a b hp t : Nat} {tl : List (Nat × Nat × Nat × Nat)} {n : String} (E : gE p s m args meth c P own cc nL ret) (htab : c.exceptionTable.toList.map (fun h => (h.startPc, h.endPc, h.handlerPc, h.catchType)) = (a, b, hp, t) :: tl) (hcov : a ≤ pc ∧ pc < b) (h0 : t ≠ 0) (hlk : Cond.classLink own t n ∈ GW) (hce : H[q]? = some ce) (hcv : ce.vm = .none) (hcl : s.vm.findClass n = some ce.cls)
    (kk : W p l e R s m args below meth c H locs cells slots Q (F0 m hp ls [.ref q])) : xW p l e R s m args below meth c H locs cells slots Q (F0 m pc ls rest) q := by
  cases hL : c.exceptionTable.toList with
  | nil => rw [hL] at htab; cases htab
  | cons x xs =>
    rw [hL] at htab
    simp only [List.map_cons, List.cons.injEq, Prod.mk.injEq] at htab
    obtain ⟨⟨rfl, rfl, rfl, rfl⟩, -⟩ := htab
    exact x_catch1 E hL (by simp [covers, hcov]) h0 hlk hce hcv hcl kk
theorem h_catch2 {q : Addr} {ce : Cell} {a b hp t a2 b2 hp2 t2 : Nat} {tl : List (Nat × Nat × Nat × Nat)} {n n2 : String} (E : gE p s m args meth c P own cc nL ret) (htab : c.exceptionTable.toList.map (fun h => (h.startPc, h.endPc, h.handlerPc, h.catchType)) = (a, b, hp, t) :: (a2, b2, hp2, t2) :: tl) (hcov : a ≤ pc ∧ pc < b) (h0 : t ≠ 0) (hlk : Cond.classLink own t n ∈ GW) (hcov2 : a2 ≤ pc ∧ pc < b2) (h02 : t2 ≠ 0) (hlk2 : Cond.classLink own t2 n2 ∈ GW) (hno : va_Nc n2 n s) (hce : H[q]? = some ce) (hcv : ce.vm = .none) (hcl : s.vm.findClass n2 = some ce.cls)
    (kk : W p l e R s m args below meth c H locs cells slots Q (F0 m hp2 ls [.ref q])) : xW p l e R s m args below meth c H locs cells slots Q (F0 m pc ls rest) q := by
  cases hL : c.exceptionTable.toList with
  | nil => rw [hL] at htab; cases htab
  | cons x xs =>
    cases xs with
    | nil => rw [hL] at htab; cases htab
    | cons y ys =>
      rw [hL] at htab
      simp only [List.map_cons, List.cons.injEq, Prod.mk.injEq] at htab
      obtain ⟨⟨rfl, rfl, rfl, rfl⟩, ⟨rfl, rfl, rfl, rfl⟩, -⟩ := htab
      exact x_catch2 E hL (by simp [covers, hcov]) h0 hlk (by simp [covers, hcov2]) h02 hlk2 hno hce hcv hcl kk
end XR8
theorem rq_k (G : Mem) (x : Int32) : (sp_F_require G x).1 = 0 ∨ (sp_F_require G x).1 = 1 := by unfold sp_F_require; split <;> simp
theorem eo_k (G : Mem) (a : Int32) : (sp_F_endOf G a).1 = 0 ∨ (sp_F_endOf G a).1 = 1 := by
  rcases eo_val G a with ⟨-, e⟩ | ⟨-, e⟩ | ⟨-, -, e⟩ <;> rw [e]
  · exact Or.inl rfl
  · exact Or.inl rfl
  · exact Or.inr rfl
def k01 (x : Int32) : Prop := x = 0 ∨ x = 1
theorem k01_1 {x : Int32} (h : k01 x) (h0 : x ≠ 0) : x = 1 := h.resolve_left h0
theorem xE_1 {x : Int32} (h : x = 1) : xE x = "java/lang/IllegalArgumentException" := by rw [h]; rfl
theorem xE_2 {x : Int32} (h : x = 2) : xE x = "java/lang/IllegalStateException" := by rw [h]; rfl
