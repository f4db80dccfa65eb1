/-! THROWING. The throw sites are of the form new, dup, ldc, invokespecial, athrow; a contract's answer is (k, r, G): k = 0 it returned (r by 'val'), k = 1 it threw an IllegalArgumentException, else an IllegalStateException; G the memory behind it. -/
def xkind : Cond → Bool
  | .declares _ => true
  | .castable .. => true
  | _ => false
def XW : List Cond := lw_tbl.filter xkind
theorem XW_at (i : Nat) {w : Cond} (h : lw_tbl[i]? = some w) (hg : xkind w = true) : w ∈ XW := List.mem_filter.mpr ⟨List.mem_of_getElem? h, hg⟩
theorem XW_tab {w : Cond} (h : w ∈ XW) : w.onTables = true := by
  have hn := (List.mem_filter.mp h).2
  cases w <;> first | rfl | (simp [xkind] at hn)
theorem XW_warm {s U : State} (hW : s.WarmedH U.vm) (h : ∀ w ∈ XW, va_Nw w s) : ∀ w ∈ XW, va_Nw w U := by
  intro w hw
  have hn := (List.mem_filter.mp hw).2
  have h1 := h w hw
  cases w <;> first | exact va_Nw.warmD hW h1 | exact va_Nw.warmC hW h1 | (simp [xkind] at hn)
abbrev xT : String := "java/lang/Throwable"
/-- a static of Throwable's: where it lies, that it holds a reference or null, and that its cell is none of the world's -/
def xSt (n d : String) (A : Nat → Prop) (U : State) (H : Heap) : Prop :=
  ∃ (c : ClassId) (k : Class) (i : Nat) (f : Field) (a : Nat) (cell : Cell) (v : Value), (U.vm.findClass xT = some c ∧ U.fieldFound? xT n d = some (c, k, i, f)) ∧ (f.isStatic = true ∧ k.statics = some a ∧ k.staticTypes[f.slot]? = some f.type) ∧ (H[a]? = some cell ∧ ¬ A a) ∧ cell.vm.isStatics = true ∧ cell.cls = c ∧ f.slot < cell.slots.size ∧ cell.slots[f.slot]? = some v ∧ v.isRef = true
theorem xSt.of {args : Array Value} {s : State} {n d : String} {A : Nat → Prop} (hl : (Cond.laysStatic xT n d).before args s = true) (hr : (Cond.isRef (.static xT n d)).before args s = true) (hA : ∀ a : Nat, a < s.heap.size → ¬ A a) : xSt n d A s s.heap := by
  obtain ⟨c, k, i, f, a, cell, h1, h2, h3, h4, h5, h6, h7, h8, h9⟩ := Cond.laysStatic_spec hl
  cases hv : (Term.static xT n d).eval args s none [] s with
  | none => simp [Cond.before, Cond.holds, Cond.value, hv] at hr
  | some v =>
    obtain ⟨-, a', cell', ha', hcell', -, hslot⟩ := Term.static_spec h2 hv
    cases h4.symm.trans ha'
    cases h5.symm.trans hcell'
    refine ⟨c, k, i, f, a, cell, v, ⟨h1, h2⟩, ⟨h3, h4, h9⟩, ⟨h5, hA a (Array.getElem?_eq_some_iff.mp h5).1⟩, h6, h7, h8, hslot, ?_⟩
    cases v <;> simp_all [Cond.before, Cond.holds, Cond.value, Value.isRef]
theorem xSt.moved {n d : String} {A : Nat → Prop} {u U : State} {H : Heap} (hvm : u.vm.Alike U.vm) (h : xSt n d A u H) : xSt n d A U H := by
  obtain ⟨c, k, i, f, a, cell, v, ⟨h1, h2⟩, ⟨h3, h4, h5⟩, h6⟩ := h
  obtain ⟨k', hi', he⟩ := State.fieldFound?_setVm hvm h2
  exact ⟨c, k', i, f, a, cell, v, ⟨by rw [hvm.findClass]; exact h1, hi'⟩, ⟨h3, by rw [he]; exact h4, by rw [he]; exact h5⟩, h6⟩
theorem xSt.kept {n d : String} {A : Nat → Prop} {U : State} {H H1 : Heap} (h : xSt n d A U H) (hq : ∀ a : Nat, a < H.size → ¬ A a → H1[a]? = H[a]?) : xSt n d A U H1 := by
  obtain ⟨c, k, i, f, a, cell, v, h1, h2, ⟨h3, h4⟩, h5⟩ := h
  exact ⟨c, k, i, f, a, cell, v, h1, h2, ⟨by rw [hq a (Array.getElem?_eq_some_iff.mp h3).1 h4]; exact h3, h4⟩, h5⟩
theorem xSt.lays {n d : String} {A : Nat → Prop} {s : State} {args : Array Value} (h : xSt n d A s s.heap) : (Cond.laysStatic xT n d).before args s = true := by
  obtain ⟨c, k, i, f, a, cell, v, ⟨h1, h2⟩, ⟨h3, h4, h5⟩, ⟨h6, -⟩, h7, h8, h9, -, -⟩ := h
  exact Cond.laysStatic_of h1 h2 h3 h4 h6 h7 h8 h9 h5
theorem xSt.isRef {n d : String} {A : Nat → Prop} {s : State} {args : Array Value} (h : xSt n d A s s.heap) : (Cond.isRef (.static xT n d)).before args s = true := by
  obtain ⟨c, k, i, f, a, cell, v, ⟨h1, h2⟩, ⟨h3, h4, h5⟩, ⟨h6, -⟩, h7, h8, h9, h10, h11⟩ := h
  have he : (Term.static xT n d).eval args s none [] s = some v := by
    simp [Term.eval, State.fieldNamed?, h2, h3, h4, h6, h7, h10]
  simp only [Cond.before, Cond.holds, Cond.value, he]
  cases v <;> simp_all [Value.isRef]
def gXs (P : gP) (U : State) : Prop := (∀ w ∈ XW, va_Nw w U) ∧ xSt "UNASSIGNED_STACK" "[Ljava/lang/StackTraceElement;" (gA P) U U.heap ∧ xSt "SUPPRESSED_SENTINEL" "Ljava/util/List;" (gA P) U U.heap ∧ (∃ a, vk_R "FramedLine" 128 "an argument is outside its bounds" a U) ∧ (∃ a, vk_R "FramedLine" 53 "eight others are to be disturbed" a U) ∧ (∃ a, vk_R "FramedLine" 125 "what is not 0 .. 4" a U) ∧ va_Nc "java/lang/IllegalStateException" "java/lang/IllegalArgumentException" U
def gPreX (P : gP) (G : Mem) (U : State) : Prop := gPre P G U ∧ gXs P U
theorem gXs_moved {P : gP} {s U : State} {H : Heap} {locs : List Loc} (h : gXs P s) (hS : va_S (gA P) s.heap H locs) (hU : U.heap = H) (hW : s.WarmedH U.vm) : gXs P U := by
  obtain ⟨h1, h2, h3, ⟨a4, h4⟩, ⟨a5, h5⟩, ⟨a6, h6⟩, h7⟩ := h
  refine ⟨XW_warm hW h1, ?_, ?_, ⟨a4, vk_R.warm hW h4⟩, ⟨a5, vk_R.warm hW h5⟩, ⟨a6, vk_R.warm hW h6⟩, va_Nc.moved hW.alike h7⟩
  · rw [hU]; exact xSt.moved hW.alike (h2.kept hS.2.1)
  · rw [hU]; exact xSt.moved hW.alike (h3.kept hS.2.1)
theorem gPreX_blind {av : List Value} {P : gP} {G : Mem} : FrameBlind (va_Pc av (gPreX P G)) := by
  intro a U g mk h
  obtain ⟨h0, hp, h1, h2, h3, ⟨a4, h4⟩, ⟨a5, h5⟩, ⟨a6, h6⟩, h7⟩ := h
  have hb := gPre_blind (av := av) (P := P) (G := G) a U g mk ⟨h0, hp⟩
  exact ⟨h0, hb.2, fun w hw => va_Nw.same (u := U) (U := U.calling g mk a) (XW_tab hw) rfl (h1 w hw), xSt.moved (u := U) (U := U.calling g mk a) (Vm.Alike.refl U.vm) h2, xSt.moved (u := U) (U := U.calling g mk a) (Vm.Alike.refl U.vm) h3, ⟨a4, vk_R.same (u := U) (U := U.calling g mk a) rfl h4⟩, ⟨a5, vk_R.same (u := U) (U := U.calling g mk a) rfl h5⟩, ⟨a6, vk_R.same (u := U) (U := U.calling g mk a) rfl h6⟩, va_Nc.moved (u := U) (U := U.calling g mk a) (Vm.Alike.refl U.vm) h7⟩
def xE (k : Int32) : String := if k = 1 then "java/lang/IllegalArgumentException" else "java/lang/IllegalStateException"
def xc (k : Int32) : Nat := if k = 0 then 0 else 1
def xs (k : Int32) : Nat := if k = 0 then 0 else 6
/-- the end of a method that may throw -/
def xQ (val : Int32 → Option Value) (P : gP) (X : Int32 × Int32 × Mem) : Array Value → State → Outcome → State → Prop := fun _ st o t =>
  ((X.1 = 0 ∧ o = .returned (val X.2.1)) ∨ (X.1 ≠ 0 ∧ ∃ (q : Addr) (ce : Cell), o = .threw q ∧ t.heap[q]? = some ce ∧ ce.vm = .none ∧ st.vm.findClass (xE X.1) = some ce.cls)) ∧
  va_P (gDD P) vwCl (gw P X.2.2) t.heap ∧ va_F (gA P) st t ∧ st.WarmedH t.vm ∧ ∃ L, st.sameButNew ({ t with vm := st.vm } : State) L (xc X.1) (xs X.1) ∧ ∀ z ∈ L, gA P z.base
def xMet (l : Launch) (y : MethodName) (cc : ByteArray) (maxL : Nat) (ret : Option FieldType) (rm : Room) (av : List Value) (val : Int32 → Option Value) (P : gP) (G : Mem) (X : Int32 × Int32 × Mem) : Prop :=
  MetFree l y (headSpec (Cond.code y cc maxL ret :: GW) rm) (va_Pc av (gPreX P G)) (fun _ _ _ _ _ => True) (xQ val P X)
def xMQ (below : List Frame) (val : Int32 → Option Value) (P : gP) (X : Int32 × Int32 × Mem) (args : Array Value) (s : State) : State → Prop := fun t => ∃ o, t.status = .running ∧ Ended t below o ∧ xQ val P X args s o t
theorem xMet.ofW {l : Launch} {y : MethodName} {cc : ByteArray} {maxL : Nat} {ret : Option FieldType} {rm : Room} {av : List Value} {val : Int32 → Option Value} {P : gP} {G : Mem} {X : Int32 × Int32 × Mem} (hy : plainName y.cls = true)
    (body : ∀ p e s m args below meth c s₁, BodyLoose p l y (headSpec (Cond.code y cc maxL ret :: GW) rm) cc maxL ret e s m args below meth c s₁ → c.maxLocals = maxL → va_Pc av (gPreX P G) args s →
      W p l e (headSpec (Cond.code y cc maxL ret :: GW) rm).room s m args below meth c s.heap [] 0 0 (xMQ below val P X args s) (entryFrame m args maxL)) : xMet l y cc maxL ret rm av val P G X := by
  refine MetFree.of_bodyS (code := cc) (maxLocals := maxL) (ret := ret) hy ?_ ?_
  · intro args s m h hn
    obtain ⟨meth, c, h1, h2, h3, h4, h5, h6, -, -⟩ := Cond.code_spec hn (atoms_spec (ws := Cond.code y cc maxL ret :: GW) h _ List.mem_cons_self)
    exact ⟨meth, c, h1, h2, h3, h4, h5, h6⟩
  · intro p e s m args below meth c s₁ B hml hP _
    have hh0 : s₁.heap = s.heap := by rw [B.state]; rfl
    obtain ⟨t, a1, o, b1, b2, b3⟩ := body p e s m args below meth c s₁ B hml hP s₁ hh0 (Stand.of_body B)
    exact ⟨t, o, a1, b1, b2, b3⟩
section XR
variable {p : Program} {l : Launch} {e : Env} {R : Room} {s : State} {m : MethodId} {args : Array Value} {below : List Frame} {meth : Method} {c : Code} {H : Heap} {locs : List Loc} {cells slots : Nat} {Q : State → Prop}
variable {cc : ByteArray} {pc : Nat} {ls : Array Slot} {rest : List Value} {P : gP} {G : Mem} {own : String} {nL : Nat} {ret : Option FieldType}
/-- the method's frame g, with q thrown over it, comes to Q -/
def xW (p : Program) (l : Launch) (e : Env) (R : Room) (s : State) (m : MethodId) (args : Array Value) (below : List Frame) (meth : Method) (c : Code) (H : Heap) (locs : List Loc) (cells slots : Nat) (Q : State → Prop) (g : JFrame) (q : Addr) : Prop :=
  ∀ T : State, T.heap = H → Stand p l e R s m args below meth c T locs cells slots → ∃ t, Steps p.tables e below ((T.setTop g).pushFrame (.throwing q)) t ∧ Q t
/-- what the machine does once the method mk that meets such a contract is entered -/
theorem x_in {T : State} {y : MethodName} {cy : ByteArray} {my len : Nat} {ry : Option FieldType} {rm : Room} {av : List Value} {val : Int32 → Option Value} {X : Int32 × Int32 × Mem} (hM : xMet l y cy my ry rm av val P G X) (hts : ∀ w ∈ GW, w.before args s = true) (hcw : Cond.code y cy my ry ∈ GW) (hini : Cond.initialized y.cls ∈ GW)
    (hF : rm.frames + 1 ≤ R.frames) (hL : 8 + (my + 11) + rm.locals ≤ R.locals) (hC : cells + rm.cells ≤ R.cells) (hS : slots + rm.slots ≤ R.slots)
    (X0 : Stand p l e R s m args below meth c T locs cells slots) {g : JFrame} {ig : Instr} {mk : MethodId} (hg : g.method = m) (hsize : g.locals.size = c.maxLocals) (hdg : decode c.code g.pc = .ok (ig, len)) (hW : 2 * g.monitorRoom + (g.stack.map fun v => v.category).sum ≤ 8) (hn : T.methodNamed? y = some mk) (hp : gPreX P G T) :
    ∃ (T' : State) (L : List Loc), Stand p l e R s m args below meth c T' (locs ++ L) (cells + xc X.1) (slots + xs X.1) ∧ (∀ z ∈ L, gA P z.base) ∧ va_P (gDD P) vwCl (gw P X.2.2) T'.heap ∧ va_F (gA P) T T' ∧
      ((X.1 = 0 ∧ Steps p.tables e below (doInvoke e (T.setTop g) [] mk av.toArray).1 (T'.setTop { g with pc := g.pc + len, stack := (val X.2.1).toList ++ g.stack })) ∨
       (X.1 ≠ 0 ∧ ∃ (q : Addr) (ce : Cell), T'.heap[q]? = some ce ∧ ce.vm = .none ∧ T.vm.findClass (xE X.1) = some ce.cls ∧ Steps p.tables e below (doInvoke e (T.setTop g) [] mk av.toArray).1 ((T'.setTop g).pushFrame (.throwing q)))) := by
  have hgood : ∀ w ∈ Cond.code y cy my ry :: GW, ∀ (a' : Array Value) (U : State), s.WarmedH U.vm → w.before a' U = true := pay_in hts (GW_good (big := GW) (fun w h => (List.mem_cons.mp h).elim (fun q => by rw [q]; exact hcw) id))
  have h1 : (headSpec (Cond.code y cy my ry :: GW) rm).pre.before av.toArray T = true := atoms_intro fun w hw => hgood w hw _ _ X0.warmed
  have h2 : (Cond.code y cy my ry).before av.toArray T = true := hgood _ List.mem_cons_self _ _ X0.warmed
  have h3 : (Cond.initialized y.cls).before av.toArray T = true := hgood _ (List.mem_cons_of_mem _ hini) _ _ X0.warmed
  obtain ⟨methY, cY, hmY, hcY, -, hlY, -⟩ := Cond.code_spec hn h2
  obtain ⟨kY, hkY, -⟩ := className_of_methodNamed hn
  have hiY : kY.init = .initialized := Cond.initialized_spec (findClass_of_methodNamed hn) hkY h3
  have hAt : At T g.method c below := by rw [hg]; exact X0.here
  have happ : (headSpec (Cond.code y cy my ry :: GW) rm).appliesLoose y e.platform (T.calling g mk av.toArray) = true :=
    Spec.appliesLoose_calling (g := g) hAt hdg hn hkY hiY (X0.room_calling (g := g) (R' := (headSpec (Cond.code y cy my ry :: GW) rm).room) hsize hmY hcY hF (by rw [hlY]; show _ + (my + 11) + rm.locals ≤ R.locals; omega) hC hS) h1
  obtain ⟨mid, hmid⟩ := hAt.above
  have hfr : (T.setTop g).frames = (.java g :: mid) ++ below := by rw [State.frames_setTop' g hAt.top, hmid]; rfl
  have hPc := gPreX_blind (av := av) (P := P) (G := G) av.toArray T g mk ⟨rfl, hp⟩
  obtain ⟨o, s₂, hst, -, hend, hq⟩ := Steps.callFree hM p X0.admits X0.cas X0.clock (acts := []) hfr happ hPc trivial
  rw [State.frames_setTop' g hAt.top] at hend
  have hq' : xQ val P X av.toArray (T.calling g mk av.toArray) o s₂ := hq
  obtain ⟨ho, hP, hF2, hW2, L, hsame, hLA⟩ := hq'
  obtain ⟨e2, q2, q3, q4, q5, q6⟩ := id hsame
  have e3 : s₂ = ({ (T.calling g mk av.toArray).setFrames s₂.frames with heap := s₂.heap, slotsUsed := s₂.slotsUsed } : State).setVm s₂.vm := by
    have hz : s₂ = ({ s₂ with vm := (T.calling g mk av.toArray).vm } : State).setVm s₂.vm := rfl
    rw [e2] at hz
    exact hz
  obtain ⟨g₀, hg0⟩ := Option.isSome_iff_exists.mp hAt.top
  obtain ⟨r, hr⟩ := State.topJava?_eq_some.mp hg0
  have hr' : (({ T with heap := s₂.heap, slotsUsed := s₂.slotsUsed } : State).setVm s₂.vm).frames = .java g₀ :: r := hr
  have hW' : T.WarmedH s₂.vm := hW2
  have hsm : T.sameButNew ({ T with heap := s₂.heap, slotsUsed := s₂.slotsUsed } : State) L (xc X.1) (xs X.1) := by
    refine ⟨?_, q2, q3, q4, q5, q6⟩
    obtain ⟨t, ht, -⟩ := State.frames_cons hr
    show ({ T with heap := s₂.heap, slotsUsed := s₂.slotsUsed } : State) = { T.setFrames T.frames with heap := s₂.heap, slotsUsed := s₂.slotsUsed }
    rw [State.setFrames_self ht]
  subst hg
  refine ⟨(({ T with heap := s₂.heap, slotsUsed := s₂.slotsUsed } : State).setVm s₂.vm), L, ⟨X0.admits, X0.cas, X0.clock, X0.frames, X0.room, X0.hears, X0.method, X0.code, (X0.here.setHeapUsed s₂.heap s₂.slotsUsed).setVm hW'.alike, X0.tail, State.WarmedH.trans X0.warmed hW', X0.limits, X0.bytes, X0.same.trans (hsm.setVm s.vm)⟩, hLA, hP, hF2, ?_⟩
  rcases ho with ⟨hk, rfl⟩ | ⟨hk, q, ce, rfl, hce, hcv, hcl⟩
  · refine Or.inl ⟨hk, ?_⟩
    obtain ⟨c₂, i₂, len₂, hc₂, hd₂, hf₂⟩ := hend
    have hcc : c₂ = c := by
      have h9 : s₂.code? g.method = T.code? g.method := by
        rw [State.code?_eq, State.code?_eq, hW'.alike.method?]
      exact Option.some.inj (hc₂.symm.trans (h9.trans hAt.code))
    subst hcc
    have hlen : len₂ = len := by rw [hdg] at hd₂; cases hd₂; rfl
    subst hlen
    have hs₂ : s₂ = (({ T with heap := s₂.heap, slotsUsed := s₂.slotsUsed } : State).setVm s₂.vm).setTop { g with pc := g.pc + len₂, stack := (val X.2.1).toList ++ g.stack } := by
      refine e3.trans ?_
      rw [hf₂, State.calling_eq hAt.top, State.setFrames_setFrames, State.setTop_of_frames _ hr', hr]
      rfl
    rw [← hs₂]
    exact hst
  · refine Or.inr ⟨hk, q, ce, hce, hcv, hcl, ?_⟩
    have hf₂ : s₂.frames = .throwing q :: .java g :: T.frames.tail := hend
    have hs₂ : s₂ = ((({ T with heap := s₂.heap, slotsUsed := s₂.slotsUsed } : State).setVm s₂.vm).setTop g).pushFrame (.throwing q) := by
      refine e3.trans ?_
      rw [hf₂, State.calling_eq hAt.top, State.setFrames_setFrames, State.pushFrame, State.frames_setTop _ hr', State.setTop_of_frames _ hr', State.setFrames_setFrames, hr]
      rfl
    rw [← hs₂]
    exact hst
end XR
