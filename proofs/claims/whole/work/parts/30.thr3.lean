section XR3
variable {p : Program} {l : Launch} {e : Env} {R : Room} {s : State} {m : MethodId} {args : Array Value} {below : List Frame} {meth : Method} {c : Code} {H : Heap} {locs : List Loc} {cells slots : Nat} {Q : State → Prop}
variable {cc : ByteArray} {pc : Nat} {ls : Array Slot} {rest : List Value} {P : gP} {G : Mem} {own : String} {nL : Nat} {ret : Option FieldType}
/-- the walk as it stands, seen as the beginning of one: nothing written yet in this heap -/
theorem x_base {T : State} (X : Stand p l e R s m args below meth c T locs cells slots) {R' : Room} (hf : R'.frames ≤ R.frames) (hl : R'.locals ≤ R.locals) (hc : cells + R'.cells ≤ R.cells) (hs : slots + R'.slots ≤ R.slots) :
    Stand p l e R' ((T.setVm s.vm).setFrames (.invoking m args :: below)) m args below meth c T [] 0 0 := by
  have htop : (T.setVm s.vm).topJava?.isSome := X.here.top
  obtain ⟨g₀, hg0⟩ := Option.isSome_iff_exists.mp htop
  obtain ⟨r, hr⟩ := State.topJava?_eq_some.mp hg0
  have hfr : ((T.setVm s.vm).setFrames (.invoking m args :: below)).frames = .invoking m args :: below := State.frames_setFrames _ (State.cur_lt_of_top htop)
  have hl1 : e.platform.stackLimits (T.setVm s.vm).me = e.platform.stackLimits s.me := X.limits
  have hb1 : (T.setVm s.vm).me.stackBytes = s.me.stackBytes := X.bytes
  have huse : ((T.setVm s.vm).setFrames (.invoking m args :: below)).localsInUse = s.localsInUse := by
    rw [State.localsInUse_invoking hfr (meth := meth) (c := c) X.method X.code, State.localsInUse_invoking X.frames X.method X.code]
  have hsz := X.heapSize
  have hus := X.used
  refine { admits := X.admits, cas := X.cas, clock := X.clock, frames := hfr, room := ?_, hears := X.hears, method := X.method, code := X.code, here := X.here, tail := X.tail, warmed := X.warmed, limits := by rw [State.stackLimits_setFrames]; rfl, bytes := by rw [State.stackBytes_setFrames]; rfl, same := ⟨?_, Nat.le_refl _, Nat.le_refl _, ?_, ?_, fun a c9 h9 => ⟨c9, h9, rfl, rfl, fun _ _ => rfl⟩⟩ }
  · have hroom := X.room
    simp only [State.hasRoom, Bool.and_eq_true, decide_eq_true_eq] at hroom ⊢
    obtain ⟨⟨⟨⟨r1, r2, r3, r4, r5, r6⟩, r7⟩, r8⟩, r9⟩ := hroom
    rw [X.frames, List.length_cons] at r2 r3
    simp only [hfr, huse, List.length_cons, State.stackLimits_setFrames, State.stackBytes_setFrames, hl1, hb1]
    refine ⟨⟨⟨⟨by omega, by omega, by omega, by omega, by omega, r6⟩, ?_⟩, ?_⟩, X.book⟩
    · show T.heap.size + R'.cells ≤ e.platform.maxCells
      omega
    · show T.slotsUsed + R'.slots ≤ e.platform.maxSlots
      omega
  · obtain ⟨t, ht, -⟩ := State.frames_cons hr
    show T.setVm s.vm = { ((T.setVm s.vm).setFrames (.invoking m args :: below)).setFrames (T.setVm s.vm).frames with heap := T.heap, slotsUsed := T.slotsUsed }
    rw [State.setFrames_setFrames, State.setFrames_self ht]
    rfl
  · show T.slotsUsed = T.slotsUsed + ((T.heap.toList.drop T.heap.size).map (·.slots.size)).sum
    rw [List.drop_eq_nil_of_le (Nat.le_of_eq Array.length_toList)]
    rfl
  · show ((T.heap.toList.drop T.heap.size).map (·.slots.size)).sum ≤ 0
    rw [List.drop_eq_nil_of_le (Nat.le_of_eq Array.length_toList)]
    exact Nat.le_refl _
/-- the words of a throw: the good ones among GW, two kinds among XW, the statics' own -/
def xOk (ic : Nat) (cls : String) : Prop := ∀ w ∈ Bundle.ownAtoms "FramedLine" ic cls ["java/lang/RuntimeException", "java/lang/Exception"], w ∈ GW ∨ w ∈ XW ∨ w = .laysStatic xT "UNASSIGNED_STACK" "[Ljava/lang/StackTraceElement;" ∨ w = .laysStatic xT "SUPPRESSED_SENTINEL" "Ljava/util/List;" ∨ w = .isRef (.static xT "UNASSIGNED_STACK" "[Ljava/lang/StackTraceElement;") ∨ w = .isRef (.static xT "SUPPRESSED_SENTINEL" "Ljava/util/List;")
theorem xOk.words {ic : Nat} {cls : String} {U : State} {a' : Array Value} (h : xOk ic cls) (hts : ∀ w ∈ GW, w.before a' U = true) (hx : gXs P U) : ∀ w ∈ Bundle.ownAtoms "FramedLine" ic cls ["java/lang/RuntimeException", "java/lang/Exception"], w.before a' U = true := by
  intro w hw
  rcases h w hw with h1 | h1 | rfl | rfl | rfl | rfl
  · exact hts w h1
  · exact va_Nw.use (XW_tab h1) (hx.1 w h1)
  · exact hx.2.1.lays
  · exact hx.2.2.1.lays
  · exact hx.2.1.isRef
  · exact hx.2.2.1.isRef
/-- new, dup, ldc, invokespecial, athrow -/
theorem x_throw {X : Int32 × Int32 × Mem} {val : Int32 → Option Value} {cls text : String} {ik is ic : Nat} {lv : List (Nat × Value)} (E : gE p s m args meth c P "FramedLine" cc nL ret) (hx : gXs P s) (h : gH P s G H locs) (hl : lv_has ls nL lv) (htr : l.stackTraces = false) (hno : c.exceptionTable.isEmpty = true)
    (h0 : X.1 ≠ 0) (hk : xE X.1 = cls) (hG : X.2.2 = G) (hok : xOk ic cls) (hfit : Bundle.fit cls = true) (hlk : Cond.classLink "FramedLine" ik cls ∈ GW) (hini : Cond.initialized cls ∈ GW) (hst : ∃ a, vk_R "FramedLine" is text a s)
    (hF : 5 < R.frames) (hL : (rest.map fun v => v.category).sum + 82 ≤ R.locals) (hC : 1 ≤ R.cells) (hSl : 6 ≤ R.slots)
    (d0 : decode cc pc = .ok (.new ik, 3)) (d3 : decode cc (pc + 3) = .ok (.dup, 1)) (d4 : decode cc (pc + 4) = .ok (.ldc is, 2)) (d6 : decode cc (pc + 6) = .ok (.invokespecial ic, 3)) (d9 : decode cc (pc + 9) = .ok (.athrow, 1)) :
    W p l e R s m args below meth c H locs 0 0 (xMQ below val P X args s) (F0 m pc ls rest) := by
  intro T hT X0
  have hlocks := E.2.2.2.2.2.2.1
  have hb := E.2.1
  have hpt : e.platform.stackTraces = false := (show e.platform.stackTraces = l.stackTraces by rw [X0.admits.platform]).trans htr
  have Y := x_base X0 (R' := { frames := R.frames, locals := R.locals, cells := 1, slots := 6 }) (Nat.le_refl _) (Nat.le_refl _) (by show 0 + 1 ≤ R.cells; omega) (by show 0 + 6 ≤ R.slots; omega)
  obtain ⟨s', hA⟩ : ∃ z, z = (T.setVm s.vm).setFrames (.invoking m args :: below) := ⟨_, rfl⟩
  rw [← hA] at Y
  have hvm : s'.vm = s.vm := by rw [hA]; rfl
  have hhp : s'.heap = H := by rw [hA]; exact hT
  have hW0 : s.WarmedH s'.vm := by rw [hvm]; exact State.WarmedH.refl s
  have hx' : gXs P s' := gXs_moved hx h.2 hhp hW0
  have hts' : ∀ w ∈ GW, w.before args s' = true := fun w hw => pay_in E.2.2.2.2.2.1 (GW_good (big := GW) (fun _ h9 => h9)) w hw args s' hW0
  have hat := hok.words hts' hx'
  have hown' : s'.vm.findClass "FramedLine" = some m.cls := by rw [hvm]; exact E.2.2.2.2.1
  have hins : (Cond.instantiable cls 6).before args s' = true := hat _ (by simp [Bundle.ownAtoms])
  obtain ⟨sa, hsa⟩ := hst
  have hsa' : vk_R "FramedLine" is text sa s' := vk_R.warm hW0 hsa
  have hout : ∀ x ∈ c.exceptionTable.toList, covers x (pc + 6 + 3) = false := by
    have h9 : c.exceptionTable.size = 0 := by simpa [Array.isEmpty] using hno
    have h8 : c.exceptionTable.toList = [] := List.eq_nil_of_length_eq_zero (by simpa using h9)
    intro x hx
    rw [h8] at hx
    cases hx
  obtain ⟨vm₁, cX, kX, hfX, hkX, -, -, X₁, st1⟩ := Y.newCold E.1 (own := "FramedLine") (C := cls) (index := ik) (n := 6) hown' (hts' _ hlk) hins (hts' _ hini) (g := F0 m pc ls rest) rfl (by rw [hb]; exact d0) (Nat.le_refl _) (Nat.le_refl _)
  generalize hT1 : (T.setVm vm₁).pushCell { cls := cX, slots := kX.instanceTypes.map defaultValue, vm := .none } = T1 at X₁ st1
  have hcat : (Value.ref T.heap.size).category = 1 := rfl
  have hcellA : T1.heap[T.heap.size]? = some (freshCell cX kX) := by rw [← hT1]; exact State.heap_pushCell_size _ _
  have d3' : decode c.code (pc + 3) = .ok (.dup, 1) := by rw [hb]; exact d3
  have d4' : decode c.code (pc + 4) = .ok (.ldc is, 2) := by rw [hb]; exact d4
  obtain ⟨U, hsteps, hrun, hend, hW, hsame, ce, hce, hO⟩ := X₁.ctorThrowS E.1 hpt (own := "FramedLine") (cls := cls) (names := ["java/lang/RuntimeException", "java/lang/Exception"]) (ic := ic) hown' hfit (by decide +kernel) hat (fun x hx => nomatch hx) hfX hkX hcellA (by rw [hhp, hT]; exact Nat.le_refl _) (msg := .ref sa) rfl
    (g := { method := m, pc := pc + 6, locals := ls, stack := .ref sa :: .ref T.heap.size :: .ref T.heap.size :: rest, locked := none }) rfl (hl.1.trans E.2.2.2.1.symm) rfl rfl (rest := rest) rfl
    (by rw [hb]; exact d6) (by rw [hb]; exact d9) hout (by show 2 + 3 < R.frames; omega) (by simp only [List.map_cons, List.sum_cons, hcat]; show 2 * 0 + _ + (13 * (2 + 1) + 42) ≤ R.locals; omega) hlocks
  have hfr : s'.heap.size ≤ U.heap.size ∧ ∀ q : Nat, q < s'.heap.size → U.heap[q]? = s'.heap[q]? := by
    obtain ⟨-, u2, -, -, -, u6⟩ := id hsame
    refine ⟨u2, fun q hq => ?_⟩
    obtain ⟨c9, e1, e2, -, e4⟩ := u6 q _ (Array.getElem?_eq_getElem hq)
    have hs9 : c9.slots = (s'.heap[q]).slots := Array.ext_getElem? fun i => e4 i (fun hm => nomatch hm)
    rw [hs9] at e2
    have e1' : U.heap[q]? = some c9 := e1
    rw [e1', Array.getElem?_eq_getElem hq]
    exact congrArg some e2
  rw [hhp] at hfr
  have hWs : s.WarmedH U.vm := State.WarmedH.trans hW0 hW
  have hcl : s.vm.findClass (xE X.1) = some ce.cls := by
    have h9 := hO.cls
    rw [hvm] at h9
    rw [hk]
    exact h9
  have hall : s.sameButNew ({ U with vm := s.vm } : State) locs 1 6 := by
    subst hA
    obtain ⟨e1, e2⟩ := hsame
    rw [State.setFrames_setFrames] at e1
    have h2 : (T.setVm s.vm).sameButNew ({ U with vm := s.vm } : State) [] (0 + 1) (0 + 6) := ⟨e1, e2⟩
    have h3 := X0.same.trans h2
    rw [List.append_nil] at h3
    exact h3
  refine ⟨U, ?_, .threw T.heap.size, hrun, hend, Or.inr ⟨h0, T.heap.size, ce, rfl, hce, hO.vm, hcl⟩, ?_, ⟨Nat.le_trans h.2.1 hfr.1, fun q h1 h2 => (hfr.2 q (Nat.lt_of_lt_of_le h1 h.2.1)).trans (h.2.2.1 q h1 h2)⟩, hWs, locs, ?_, h.2.2.2⟩
  · refine st1 _ ?_
    show Steps p.tables e below (T1.setTop { method := m, pc := pc + 3, locals := ls, stack := .ref T.heap.size :: rest, locked := none }) _
    jvm_step X₁.here [X₁.here.top, E.1, d3', Value.category]
    exact X₁.ldcString E.1 (own := "FramedLine") (text := text) (index := is) (a := sa) hown' hsa'.1 hsa'.2
      (g := { method := m, pc := pc + 4, locals := ls, stack := .ref T.heap.size :: .ref T.heap.size :: rest, locked := none }) rfl d4' _ hsteps
  · rw [hG]
    exact h.1.kept (fun k q hq => hfr.2 q.1 (h.1 k q hq).lt)
  · rw [show xc X.1 = 1 by simp [xc, h0], show xs X.1 = 6 by simp [xs, h0]]
    exact hall
end XR3
