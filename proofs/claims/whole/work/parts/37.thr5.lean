/-! CATCHING. A row of the handler table whose class may still be unlinked. -/
section XR5
variable {e : Env} {S : State} {f : JFrame} {a : Addr} {QQ : Handler → Pre} {EE : CtlPost} {d : Bool} {acts : List Action}
/-- one row that covers the place: it takes the exception, or lets it pass; its class is linked from then on -/
theorem x_row {x : ExceptionTableEntry} {t : List ExceptionTableEntry} {cT : ClassId} {cell : Cell} (hx : covers x f.pc = true) (h0 : x.catchType ≠ 0) (hl : S.vm.ClassLinks e.platform f.method.cls x.catchType cT) (hcell : S.heap[a]? = some cell) (hobj : ∀ k, cell.vm ≠ .statics k)
    (hk : ∃ k, S.vm.classes[cell.cls]? = some k) (hc : ∃ k, S.vm.classes[cT]? = some k) : wp (findHandler.go f a (x :: t)) QQ EE e d acts S ↔ if S.vm.assignable cell.cls cT = true then QQ (.found x.handlerPc) d acts (S.setVm (S.vm.noted f.method.cls x.catchType (.cls cT))) else wp (findHandler.go f a t) QQ EE e d acts (S.setVm (S.vm.noted f.method.cls x.catchType (.cls cT))) := by
  simp only [covers] at hx
  obtain ⟨g1, g2⟩ := (resolveClass_links e.toSetting hl).op (op := VmOp.resolveClass f.method.cls x.catchType) rfl
  have al : S.vm.Alike (S.vm.noted f.method.cls x.catchType (.cls cT)) := (Vm.Alike.refl S.vm).noted _ _ _
  obtain ⟨k1, e1⟩ := hk
  obtain ⟨k2, e2⟩ := hc
  obtain ⟨k1', e1', -⟩ := al.2.2 _ _ e1
  obtain ⟨k2', e2', -⟩ := al.2.2 _ _ e2
  rw [← al.assignable cell.cls cT]
  cases hfit : (S.vm.noted f.method.cls x.catchType (.cls cT)).assignable cell.cls cT <;> simp [findHandler.go, hx, h0, g1, g2, hcell, hobj, e1', e2', hfit, VmOp.dirties, VmOp.acts]
end XR5
theorem x_refl (vm : Vm) (c : ClassId) : vm.assignable c c = true := by
  show vm.assignableAux (255 + 1) c c = true
  rw [Vm.assignableAux]
  simp
section XR6
variable {p : Program} {l : Launch} {e : Env} {R : Room} {s : State} {m : MethodId} {args : Array Value} {below : List Frame} {meth : Method} {c : Code} {H : Heap} {locs : List Loc} {cells slots : Nat} {Q : State → Prop}
variable {cc : ByteArray} {pc : Nat} {ls : Array Slot} {rest : List Value} {P : gP} {G : Mem} {own : String} {nL : Nat} {ret : Option FieldType}
/-- the search's end is known: on at the handler -/
theorem x_go {q : Addr} {hp : Nat} {T : State} {vm' : Vm} (X : Stand p l e R s m args below meth c T locs cells slots) (hf : ∀ (QQ : Handler → Pre) (EE : CtlPost) (d : Bool) (acts : List Action), wp (findHandler (F0 m pc ls rest) q) QQ EE e d acts ((T.setTop (F0 m pc ls rest)).pushFrame (.throwing q)) ↔ QQ (.found hp) d acts (((T.setTop (F0 m pc ls rest)).pushFrame (.throwing q)).setVm vm'))
    {t : State} (hr : Steps p.tables e below ((T.setVm vm').setTop (F0 m hp ls [.ref q])) t) : Steps p.tables e below ((T.setTop (F0 m pc ls rest)).pushFrame (.throwing q)) t := by
  have hA : At T (F0 m pc ls rest).method c below := X.here
  obtain ⟨g1, g2⟩ := hA.throwing q
  refine Steps.head g1 g2 ?_
  have hst : (stepThrowing e ((T.setTop (F0 m pc ls rest)).pushFrame (.throwing q)) q (.java (F0 m pc ls rest) :: T.frames.tail)).Is ((((T.setTop (F0 m pc ls rest)).pushFrame (.throwing q)).setVm vm').setFrames (.java (F0 m hp ls [.ref q]) :: T.frames.tail)) [] := by
    simp only [stepThrowing, searchFrame, vmDo]
    generalize hz : Sem.go _ e false [] ((T.setTop (F0 m pc ls rest)).pushFrame (.throwing q)) = res
    obtain ⟨as, rfl, ha⟩ := Sem.eq_ok_of hz (a := Handler.found hp) (s' := ((T.setTop (F0 m pc ls rest)).pushFrame (.throwing q)).setVm vm') (acts' := []) (by simp [hf _ _ _ _])
    exact ⟨rfl, ha⟩
  rw [stepThread_throwing (frames_entered hA.top _), hst.1]
  obtain ⟨g0, hg0⟩ := Option.isSome_iff_exists.mp hA.top
  obtain ⟨r, hr0⟩ := State.topJava?_eq_some.mp hg0
  have hr1 : (T.setVm vm').frames = .java g0 :: r := hr0
  have e1 : ∀ (u : State) (F1 F2 : List Frame), ((u.setFrames F1).setVm vm').setFrames F2 = (u.setVm vm').setFrames F2 := by
    intro u F1 F2
    have h9 : (u.setFrames F1).setVm vm' = (u.setVm vm').setFrames F1 := rfl
    rw [h9, State.setFrames_setFrames]
  rw [State.setTop_of_frames _ hr1] at hr
  rw [State.pushFrame, e1, State.setTop_of_frames _ hr0, e1, hr0, List.tail_cons]
  exact hr
/-- a class that a word links, at a state on the way -/
theorem x_lk {T : State} {t : Nat} {name : String} (X : Stand p l e R s m args below meth c T locs cells slots) (hown : s.vm.findClass own = some m.cls) (hlk : (Cond.classLink own t name).before args s = true) : ∃ cT, s.vm.findClass name = some cT ∧ s.vm.ClassLinks e.platform m.cls t cT ∧ (∀ vm1, s.WarmedH vm1 → vm1.ClassLinks e.platform m.cls t cT ∧ (∃ k, vm1.classes[cT]? = some k) ∧ s.WarmedH (vm1.noted m.cls t (.cls cT))) := by
  have hpl : e.platform.magicAccessors = ({} : Platform).magicAccessors := by rw [X.admits.platform]
  obtain ⟨cT, h1, h2⟩ := Cond.classLink_spec hown hlk e.platform hpl
  refine ⟨cT, h1, h2, fun vm1 hW => ?_⟩
  obtain ⟨dk, _, _, kt, hd, _, _, _, _, hkt, _, hopen⟩ := h2.here
  obtain ⟨kt', hkt', -⟩ := hW.alike.2.2 _ _ hkt
  exact ⟨hW.classLinks h2, ⟨kt', hkt'⟩, hW.noted hd hopen (State.rightAt_cls h2)⟩
theorem x_cls {vm : Vm} {n : String} {k : ClassId} (h : vm.findClass n = some k) : ∃ q, vm.classes[k]? = some q := Vm.classAt_of_findClass h
/-- the first row of the table takes it -/
theorem x_catch1 {q : Addr} {ce : Cell} {x : ExceptionTableEntry} {t : List ExceptionTableEntry} {n : String} (E : gE p s m args meth c P own cc nL ret) (htab : c.exceptionTable.toList = x :: t) (hcov : covers x pc = true) (h0 : x.catchType ≠ 0) (hlk : Cond.classLink own x.catchType n ∈ GW) (hce : H[q]? = some ce) (hcv : ce.vm = .none) (hcl : s.vm.findClass n = some ce.cls)
    (kk : W p l e R s m args below meth c H locs cells slots Q (F0 m x.handlerPc ls [.ref q])) : xW p l e R s m args below meth c H locs cells slots Q (F0 m pc ls rest) q := by
  intro T hT X
  obtain ⟨cT, h1, -, h3⟩ := x_lk X E.2.2.2.2.1 (E.2.2.2.2.2.1 _ hlk)
  obtain ⟨g1, g2, g3⟩ := h3 T.vm X.warmed
  cases hcl.symm.trans h1
  obtain ⟨t', a1, b1⟩ := kk (T.setVm (T.vm.noted m.cls x.catchType (.cls ce.cls))) hT (X.noted g3)
  refine ⟨t', x_go X (vm' := T.vm.noted m.cls x.catchType (.cls ce.cls)) ?_ a1, b1⟩
  intro QQ EE d acts
  rw [W.findHandler_eq (meth := meth) (code := c) X.method' X.code, htab, x_row (S := (T.setTop (F0 m pc ls rest)).pushFrame (.throwing q)) (f := F0 m pc ls rest) (cT := ce.cls) (cell := ce) hcov h0 g1 (by show T.heap[q]? = some ce; rw [hT]; exact hce) (by intro k; rw [hcv]; intro h; cases h) g2 g2, if_pos (x_refl _ _)]
  rfl
/-- the first row passes, the second takes it -/
theorem x_catch2 {q : Addr} {ce : Cell} {x y : ExceptionTableEntry} {t : List ExceptionTableEntry} {n n2 : String} (E : gE p s m args meth c P own cc nL ret) (htab : c.exceptionTable.toList = x :: y :: t) (hcov : covers x pc = true) (h0 : x.catchType ≠ 0) (hlk : Cond.classLink own x.catchType n ∈ GW) (hcov2 : covers y pc = true) (h02 : y.catchType ≠ 0) (hlk2 : Cond.classLink own y.catchType n2 ∈ GW) (hno : va_Nc n2 n s) (hce : H[q]? = some ce) (hcv : ce.vm = .none) (hcl : s.vm.findClass n2 = some ce.cls)
    (kk : W p l e R s m args below meth c H locs cells slots Q (F0 m y.handlerPc ls [.ref q])) : xW p l e R s m args below meth c H locs cells slots Q (F0 m pc ls rest) q := by
  intro T hT X
  obtain ⟨cT, h1, -, h3⟩ := x_lk X E.2.2.2.2.1 (E.2.2.2.2.2.1 _ hlk)
  obtain ⟨g1, g2, g3⟩ := h3 T.vm X.warmed
  obtain ⟨cU, h1', -, h3'⟩ := x_lk X E.2.2.2.2.1 (E.2.2.2.2.2.1 _ hlk2)
  obtain ⟨g1', g2', g3'⟩ := h3' _ g3
  obtain ⟨-, g4, -⟩ := h3' T.vm X.warmed
  cases hcl.symm.trans h1'
  obtain ⟨k1, k2, n1, n2', n3⟩ := hno
  cases n1.symm.trans hcl
  cases n2'.symm.trans h1
  have hass : T.vm.assignable ce.cls cT = false := by rw [X.warmed.alike.assignable]; exact n3
  obtain ⟨t', a1, b1⟩ := kk (T.setVm ((T.vm.noted m.cls x.catchType (.cls cT)).noted m.cls y.catchType (.cls ce.cls))) hT (X.noted g3')
  refine ⟨t', x_go X (vm' := (T.vm.noted m.cls x.catchType (.cls cT)).noted m.cls y.catchType (.cls ce.cls)) ?_ a1, b1⟩
  intro QQ EE d acts
  rw [W.findHandler_eq (meth := meth) (code := c) X.method' X.code, htab, x_row (S := (T.setTop (F0 m pc ls rest)).pushFrame (.throwing q)) (f := F0 m pc ls rest) (cT := cT) (cell := ce) hcov h0 g1 (by show T.heap[q]? = some ce; rw [hT]; exact hce) (by intro k; rw [hcv]; intro h; cases h) g4 g2,
    if_neg (by show ¬ T.vm.assignable ce.cls cT = true; rw [hass]; decide)]
  refine (x_row (S := ((T.setTop (F0 m pc ls rest)).pushFrame (.throwing q)).setVm (T.vm.noted m.cls x.catchType (.cls cT))) (f := F0 m pc ls rest) (cT := ce.cls) (cell := ce) hcov2 h02 g1' (by show T.heap[q]? = some ce; rw [hT]; exact hce) (by intro k; rw [hcv]; intro h; cases h) g2' g2').trans ?_
  rw [if_pos (x_refl _ _)]
  rfl
end XR6
