/-! CONSTRUCTORS. The cells lie one behind the other, in the order in which they are made: cell c at gad P 0 + c. Gi is the memory of two new systems. -/
def Dense (P : gP) : Prop := ∀ c, gad P c = gad P 0 + c
def Gi : Mem := fun c k => if k = 3 ∧ (c = 2 ∨ c = 12) then 32 else if k = 0 ∧ (c = 4 ∨ c = 14 ∨ c = 10 ∨ c = 20) then -1 else 0
def iW (P : gP) (c0 ci : Nat) (fs : List Value) (k : Nat) : va_W := (gad P c0, .inr (ci, fs)) :: (List.range (k - (c0 + 1))).map (fun i => (gad P (c0 + 1 + i), gc P (c0 + 1 + i) (Gi (c0 + 1 + i))))
/-- what the constructor of cell c0 may write -/
def iA (P : gP) (c0 : Nat) : Nat → Prop := fun q => gA P q ∧ gad P c0 ≤ q
theorem vS_mono {A B : Nat → Prop} {H0 H : Heap} {locs : List Loc} (hs : ∀ q, A q → B q) (h : va_S A H0 H locs) : va_S B H0 H locs := ⟨h.1, fun q h1 h2 => h.2.1 q h1 (fun h9 => h2 (hs q h9)), fun q hq => hs _ (h.2.2 q hq)⟩
/-- the new object c0 with its fields fs, and behind it the finished cells up to k -/
def iH (P : gP) (s : State) (c0 ci : Nat) (fs : List Value) (k : Nat) (H : Heap) (locs : List Loc) : Prop := H.size = gad P k ∧ va_P (gDD P) vwCl (iW P c0 ci fs k) H ∧ va_S (iA P c0) s.heap H locs
theorem dense_A {P : gP} (hd : Dense P) {q : Nat} : gA P q ↔ gad P 0 ≤ q ∧ q < gad P 64 := by
  rw [hd 64]
  constructor
  · rintro ⟨c, hc, rfl⟩
    rw [hd c]
    omega
  · rintro ⟨h1, h2⟩
    exact ⟨q - gad P 0, by omega, by rw [hd]; omega⟩
theorem dense_inj {P : gP} (hd : Dense P) : gInj P := by
  intro i j _ _ h
  rw [hd i, hd j] at h
  omega
theorem iW_at {P : gP} {c0 ci : Nat} {fs : List Value} {k j : Nat} {q : Nat × va_E} (h : (iW P c0 ci fs k)[j]? = some q) : (j = 0 ∧ q = (gad P c0, .inr (ci, fs))) ∨ (0 < j ∧ c0 + j < k ∧ q = (gad P (c0 + j), gc P (c0 + j) (Gi (c0 + j)))) := by
  cases j with
  | zero => exact Or.inl ⟨rfl, (Option.some.inj h).symm⟩
  | succ j =>
    right
    have h2 : ((List.range (k - (c0 + 1))).map (fun i => (gad P (c0 + 1 + i), gc P (c0 + 1 + i) (Gi (c0 + 1 + i)))))[j]? = some q := h
    have hl : j < k - (c0 + 1) := by
      have := (List.getElem?_eq_some_iff.mp h2).1
      simpa using this
    rw [List.getElem?_map, List.getElem?_range hl] at h2
    have e : c0 + 1 + j = c0 + (j + 1) := by omega
    rw [← e]
    exact ⟨by omega, by omega, (Option.some.inj h2).symm⟩
theorem iW_in {P : gP} {c0 ci : Nat} {fs : List Value} {k i : Nat} (h1 : c0 < i) (h2 : i < k) : (iW P c0 ci fs k)[i - c0]? = some (gad P i, gc P i (Gi i)) := by
  obtain ⟨j, rfl⟩ : ∃ j, i = c0 + 1 + j := ⟨i - (c0 + 1), by omega⟩
  rw [show c0 + 1 + j - c0 = j + 1 by omega]
  show ((List.range (k - (c0 + 1))).map (fun i => (gad P (c0 + 1 + i), gc P (c0 + 1 + i) (Gi (c0 + 1 + i)))))[j]? = _
  rw [List.getElem?_map, List.getElem?_range (by omega)]
  rfl
theorem iW_D {P : gP} (hd : Dense P) {c0 ci : Nat} {fs : List Value} {k : Nat} (hc : c0 < k) (hk : k ≤ 64) : va_D (iA P c0) (iW P c0 ci fs k) := by
  have key : ∀ (j : Nat) (q : Nat × va_E), (iW P c0 ci fs k)[j]? = some q → q.1 = gad P (c0 + j) ∧ c0 + j < k := by
    intro j q h
    rcases iW_at h with ⟨rfl, rfl⟩ | ⟨-, h2, rfl⟩
    · exact ⟨rfl, hc⟩
    · exact ⟨rfl, h2⟩
  refine ⟨fun i j p q hi hj e => ?_, fun j q hj => ?_⟩
  · have h1 := key i p hi
    have h2 := key j q hj
    rw [h1.1, h2.1, hd (c0 + i), hd (c0 + j)] at e
    omega
  · have h1 := key j q hj
    refine ⟨⟨c0 + j, by omega, h1.1⟩, ?_⟩
    rw [h1.1, hd c0, hd (c0 + j)]
    omega
theorem iW_set {P : gP} {c0 ci : Nat} {fs fs' : List Value} {k : Nat} : (iW P c0 ci fs k).set 0 (gad P c0, .inr (ci, fs')) = iW P c0 ci fs' k := rfl
theorem iW_P {P : gP} {c0 ci : Nat} {fs : List Value} {k : Nat} {H : Heap} (h0 : va_at (gDD P) vwCl (gad P c0, .inr (ci, fs)) H) (h1 : ∀ i, c0 < i → i < k → va_at (gDD P) vwCl (gad P i, gc P i (Gi i)) H) : va_P (gDD P) vwCl (iW P c0 ci fs k) H := by
  intro j q hq
  rcases iW_at hq with ⟨rfl, rfl⟩ | ⟨h2, h3, rfl⟩
  · exact h0
  · exact h1 _ (by omega) h3
def iPre (P : gP) (c0 ci : Nat) (ds : List Value) (U : State) : Prop := gS P U ∧ U.heap.size = gad P (c0 + 1) ∧ va_at (gDD P) vwCl (gad P c0, .inr (ci, ds)) U.heap
theorem iPre_blind {av : List Value} {P : gP} {c0 ci : Nat} {ds : List Value} : FrameBlind (va_Pc av (iPre P c0 ci ds)) := by
  intro a U g mk h
  obtain ⟨h0, ⟨hK, hI, hN, hE⟩, h2⟩ := h
  exact ⟨h0, ⟨va_K.moved (u := U) (U := U.calling g mk a) (Vm.Alike.refl U.vm) hK, hI, fun w hw => va_Nw.same (u := U) (U := U.calling g mk a) (NW_tab hw) rfl (hN w hw), va_En.moved (u := U) (U := U.calling g mk a) (Vm.Alike.refl U.vm) hE⟩, h2⟩
def iQ (P : gP) (c0 n : Nat) : Array Value → State → Outcome → State → Prop := fun _ st oc t =>
  oc = .returned none ∧ t.heap.size = gad P (c0 + n) ∧ (∀ i, c0 ≤ i → i < c0 + n → va_at (gDD P) vwCl (gad P i, gc P i (Gi i)) t.heap) ∧ ∀ q : Nat, q < gad P c0 → t.heap[q]? = st.heap[q]?
def iMet (l : Launch) (y : MethodName) (cc : ByteArray) (rm : Room) (P : gP) (c0 ci : Nat) (ds : List Value) (n mc sl : Nat) : Prop :=
  Met l y (Cond.code y cc 1 none :: GW) rm (va_Pc [.ref (gad P c0)] (iPre P c0 ci ds)) (iQ P c0 n) mc sl (iA P c0)
def gLI (own : String) (idx : Nat) (y : MethodName) (cc : ByteArray) : Prop :=
  (Cond.code y cc 1 none ∈ GW ∧ Cond.initialized y.cls ∈ GW ∧ (y.cls ≠ "java/lang/invoke/MethodHandle" ∧ y.cls ≠ "java/lang/invoke/VarHandle" ∧ (parseMethodDescriptor y.desc).map (fun d => d.parameters.length) = some 0)) ∧ Cond.methodLink own idx y ∈ GW ∧ Cond.instanceMethod y ∈ GW ∧ y.name = "<init>"
section IR
variable {p : Program} {l : Launch} {e : Env} {R : Room} {s : State} {m : MethodId} {args : Array Value} {below : List Frame} {meth : Method} {c : Code} {H : Heap} {locs : List Loc} {cells slots : Nat} {Q : State → Prop}
variable {cc : ByteArray} {pc : Nat} {ls : Array Slot} {rest : List Value} {P : gP} {own : String} {nL : Nat} {ret : Option FieldType} {c0 ci k : Nat} {fs : List Value}
theorem i_obj {lv : List (Nat × Value)} {a : Nat} {idx : Nat} (E : gE p s m args meth c P own cc nL ret) (hl : lv_has ls nL lv) (h1 : Cond.methodLink own idx Lib.objectInit ∈ GW) (h2 : Cond.instanceMethod Lib.objectInit ∈ GW) (h3 : Cond.code Lib.objectInit ⟨#[0xb1]⟩ 1 none ∈ GW) (hF : 1 ≤ R.frames) (hL : 12 ≤ R.locals) (hdg : decode cc pc = .ok (.invokespecial idx, 3))
    (kk : W p l e R s m args below meth c H locs cells slots Q (F0 m (pc + 3) ls [])) : W p l e R s m args below meth c H locs cells slots Q (F0 m pc ls [.ref a]) :=
  W.objInit E.1 E.2.1 E.2.2.2.2.1 (E.2.2.2.2.2.1 _ h1) (E.2.2.2.2.2.1 _ h2) (E.2.2.2.2.2.1 _ h3) rfl (hl.1.trans E.2.2.2.1.symm) rfl hdg hF hL kk
/-- a step that writes within the world: its size stays -/
theorem i_fit {g : JFrame} {H1 : Heap} {locs1 : List Loc} (h : iH P s c0 ci fs k H locs) (hcs : s.heap.size + cells ≤ gad P k) (hS : va_S (iA P c0) H H1 locs1) {fs' : List Value} (hP : va_P (gDD P) vwCl (iW P c0 ci fs' k) H1)
    (kk : iH P s c0 ci fs' k H1 locs1 → W p l e R s m args below meth c H1 locs1 cells slots Q g) : W p l e R s m args below meth c H1 locs1 cells slots Q g := by
  intro T hT X
  have h1 := X.heapSize
  rw [hT] at h1
  have h2 := hS.1
  rw [h.1] at h2
  refine kk ⟨by omega, hP, ⟨Nat.le_trans h.2.2.1 hS.1, fun q h3 h4 => (hS.2.1 q (Nat.lt_of_lt_of_le h3 h.2.2.1) h4).trans (h.2.2.2.1 q h3 h4), hS.2.2⟩⟩ T hT X
theorem i_cs {cells i : Nat} (hd : Dense P) (hs0 : s.heap.size = gad P (c0 + 1)) (h : 1 + cells ≤ i) : s.heap.size + cells ≤ gad P (c0 + i) := by
  rw [hs0, hd (c0 + 1), hd (c0 + i)]
  omega
theorem i_put {N idx j : Nat} {C : String} {T : u_T} {ty0 : Nat → FieldType} {v : Value} {ty : FieldType} (hd : Dense P) (E : gE p s m args meth c P own cc nL ret) (h : iH P s c0 ci fs k H locs) (hcs : s.heap.size + cells ≤ gad P k) (hc : c0 < k) (hk64 : k ≤ 64) (hcl : gCl ci C T N) (hct : gCt C T N ty0) (hj : j < N)
    (hl : Cond.fieldLink own idx (T j).1 (T j).2.1 (T j).2.2.1 ∈ GW) (hfin : (T j).2.2.2 = false) (hds : parseFieldDescriptor (T j).2.2.1 = some ty) (hn : narrow ty v = v) (hfit : fits ty v = true) (hlen : j < fs.length) (hdg : decode cc pc = .ok (.putfield idx, 3))
    (kk : ∀ (H1 : Heap) (locs1 : List Loc), iH P s c0 ci (fs.set j v) k H1 locs1 → W p l e R s m args below meth c H1 locs1 cells slots Q (F0 m (pc + 3) ls rest)) : W p l e R s m args below meth c H locs cells slots Q (F0 m pc ls (v :: .ref (gad P c0) :: rest)) :=
  va_put (H0 := H) E.1 E.2.1 E.2.2.2.2.2.1 hcl.2 ty0 hct.1 hct.2 E.2.2.2.2.1 E.2.2.2.2.2.2.2.1 h.2.1 (iW_D hd hc hk64) ⟨Nat.le_refl _, fun _ _ _ => rfl, h.2.2.2.2⟩ 0 rfl hcl.1 j hj (E.2.2.2.2.2.1 _ hl) (fun _ q => q) hfin hds hn hfit hlen hdg (fun H1 locs1 hP _ hS => i_fit h hcs hS hP (kk H1 locs1))
theorem i_putF {N idx j : Nat} {C : String} {T : u_T} {ty0 : Nat → FieldType} {v : Value} {ty : FieldType} (hd : Dense P) (E : gE p s m args meth c P own cc nL ret) (h : iH P s c0 ci fs k H locs) (hcs : s.heap.size + cells ≤ gad P k) (hc : c0 < k) (hk64 : k ≤ 64) (hcl : gCl ci C T N) (hct : gCt C T N ty0) (hj : j < N)
    (hl : Cond.fieldLink own idx (T j).1 (T j).2.1 (T j).2.2.1 ∈ GW) (hfin : (T j).2.2.2 = true) (hin2 : meth.name = "<init>") (hdecl : (T j).1 = own) (hds : parseFieldDescriptor (T j).2.2.1 = some ty) (hn : narrow ty v = v) (hfit : fits ty v = true) (hlen : j < fs.length) (hdg : decode cc pc = .ok (.putfield idx, 3))
    (kk : ∀ (H1 : Heap) (locs1 : List Loc), iH P s c0 ci (fs.set j v) k H1 locs1 → W p l e R s m args below meth c H1 locs1 cells slots Q (F0 m (pc + 3) ls rest)) : W p l e R s m args below meth c H locs cells slots Q (F0 m pc ls (v :: .ref (gad P c0) :: rest)) :=
  va_putF (H0 := H) E.1 E.2.1 E.2.2.2.2.2.1 hcl.2 ty0 hct.1 hct.2 E.2.2.2.2.1 E.2.2.2.2.2.2.2.1 h.2.1 (iW_D hd hc hk64) ⟨Nat.le_refl _, fun _ _ _ => rfl, h.2.2.2.2⟩ 0 rfl hcl.1 j hj (E.2.2.2.2.2.1 _ hl) (fun _ q => q) hfin hin2 hdecl hds hn hfit hlen hdg (fun H1 locs1 hP _ hS => i_fit h hcs hS hP (kk H1 locs1))
theorem i_newa {atype : ArrayType} {n : Int32} {N t0 : Nat} {cA : ClassId} {ty : FieldType} (hd : Dense P) (E : gE p s m args meth c P own cc nL ret) (h : iH P s c0 ci fs k H locs) (hc : c0 < k) (harr : Cond.arrayClass (newarray.typeOf atype) ∈ GW) (hty : newarray.typeOf atype = ty) (ht : ([(gcI P, .int), (gcZ P, .boolean)] : List (ClassId × FieldType))[t0]? = some (cA, ty)) (hra : va_RA s cA ty = (s.vm.findClass ("[" ++ ty.toString) = some cA)) (hdv : defaultValue ty = .int 0) (hgc : gc P k (Gi k) = .inl (cA, N, .inl (Gi k))) (hG : Gi k = fun _ => 0) (hn : ¬ n < 0) (hN : n.toNatClampNeg = N) (hby : N * componentBytes ty ≤ 536870912)
    (hce : cells + 1 ≤ R.cells) (hsl : slots + N ≤ R.slots) (hdg : decode cc pc = .ok (.newarray atype, 2))
    (kk : ∀ (H1 : Heap), iH P s c0 ci fs (k + 1) H1 locs → W p l e R s m args below meth c H1 locs (cells + 1) (slots + N) Q (F0 m (pc + 2) ls (.ref (gad P k) :: rest))) : W p l e R s m args below meth c H locs cells slots Q (F0 m pc ls (.int n :: rest)) := by
  subst hty
  refine va_newaK E.1 E.2.1 (E.2.2.2.2.2.1 _ harr) rfl hdg rfl hn hN hby hce hsl h.1 (fun H1 cB e1 z1 o1 hAr hNm => ?_)
  have hR := (E.2.2.2.2.2.2.2.1.2 t0 _ ht).2
  rw [hra] at hR
  cases hR.symm.trans hNm
  have hk : ∀ (q : Nat × va_E), va_at (gDD P) vwCl q H → va_at (gDD P) vwCl q H1 := fun q hq => hq.kept (o1 q.1 (by rw [← h.1]; exact hq.lt))
  refine kk H1 ⟨by rw [z1, hd (k + 1), hd k]; omega, iW_P (hk _ (h.2.1 0 _ rfl)) (fun i h1 h2 => ?_), Nat.le_trans h.2.2.1 (by rw [z1, h.1]; omega), fun q h1 h2 => (o1 q (by rw [← h.1]; exact Nat.lt_of_lt_of_le h1 h.2.2.1)).trans (h.2.2.2.1 q h1 h2), h.2.2.2.2⟩
  by_cases hi : i = k
  · subst hi
    rw [hgc, hG]
    show H1[gad P i]? = some (vp_cell cA (N, .inl (fun _ => 0)))
    rw [e1, hdv]
    rfl
  · exact hk _ (h.2.1 _ _ (iW_in h1 (by omega)))
/-- new, dup, invokespecial of a constructor without arguments -/
theorem i_sub {y : MethodName} {cy : ByteArray} {rm : Room} {lv : List (Nat × Value)} {ds : List Value} {n sl mc N ik idx : Nat} {C : String} {T : u_T} {ty0 : Nat → FieldType} (hd : Dense P) (E : gE p s m args meth c P own cc nL ret) {A : Nat → Prop} (hA1 : ∀ q, iA P k q → A q) (hA2 : ∀ q, A q → gA P q) (hsz : H.size = gad P k) (hS : va_S A s.heap H locs) (hn : 0 < n) (hk64 : k + n ≤ 64) (hl : lv_has ls nL lv) (hM : iMet l y cy rm P k ci ds n mc sl) (hcl : gCl ci C T N) (hct : gCt C T N ty0) (hds : ∀ j, j < N → defaultValue (ty0 j) = vp_V ds j)
    (hlk : Cond.classLink own ik C ∈ GW) (hins : Cond.instantiable C N ∈ GW) (hini : Cond.initialized C ∈ GW) (L : gLI own idx y cy) (hF : rm.frames + 1 ≤ R.frames) (hL : 8 + (1 + 11) + rm.locals ≤ R.locals) (hrc : rm.cells = mc) (hrs : rm.slots = sl) (hCe : cells + 1 + mc ≤ R.cells) (hSl : slots + N + sl ≤ R.slots) (hroom : ((Value.ref (gad P k) :: rest).map fun v => v.category).sum ≤ 8)
    (hd0 : decode cc pc = .ok (.new ik, 3)) (hd1 : decode cc (pc + 3) = .ok (.dup, 1)) (hd2 : decode cc (pc + 4) = .ok (.invokespecial idx, 3))
    (kk : ∀ (H1 : Heap) (locs1 : List Loc), H1.size = gad P (k + n) → (∀ q : Nat, q < gad P k → H1[q]? = H[q]?) → (∀ i, k ≤ i → i < k + n → va_at (gDD P) vwCl (gad P i, gc P i (Gi i)) H1) → va_S A s.heap H1 locs1 → W p l e R s m args below meth c H1 locs1 (cells + 1 + mc) (slots + N + sl) Q (F0 m (pc + 7) ls (.ref (gad P k) :: rest))) : W p l e R s m args below meth c H locs cells slots Q (F0 m pc ls rest) := by
  have hts := E.2.2.2.2.2.1
  have hKn := E.2.2.2.2.2.2.2.1.1 ci _ hcl.1
  refine W.newcK E.1 E.2.1 E.2.2.2.2.1 (hts _ hlk) (hts _ hins) (hts _ hini) rfl hd0 (by omega) (by omega) hKn.2.1 hsz (fun H1 kC hkC e1 z1 o1 => ?_)
  have hobj : va_at (gDD P) vwCl (gad P k, .inr (ci, ds)) H1 := ⟨_, hcl.1, (u_born ty0 hts hcl.2 hKn hkC e1 hct.1).to hds⟩
  have hS1 : va_S A s.heap H1 locs := ⟨Nat.le_trans hS.1 (by rw [z1, hsz]; omega), fun q h1 h2 => (o1 q (by rw [← hsz]; exact Nat.lt_of_lt_of_le h1 hS.1)).trans (hS.2.1 q h1 h2), hS.2.2⟩
  refine lv_dup E.1 E.2.1 hd1 rfl ?_
  have hrun := va_runI (As := []) (rest := .ref (gad P k) :: rest) (g := F0 m (pc + 3 + 1) ls (.ref (gad P k) :: .ref (gad P k) :: rest)) (H := H1) (locs := locs) (cells := cells + 1) (slots := slots + N) (l := l) (R := R) (e := e) (below := below) (meth := meth) ⟨E.1, E.2.1, E.2.2.2.1, E.2.2.2.2.1, hts⟩ hM (cwI 0 hts (GW_good (big := GW) (fun w h => (List.mem_cons.mp h).elim (fun q => by rw [q]; exact L.1.1) id)) rfl hrc hrs (hts _ L.1.2.1) (hts _ L.2.1) (hts _ L.2.2.1) L.2.2.2 L.1.2.2 ⟨hF, hL⟩)
    ⟨iPre_blind, fun U hU hW => ⟨rfl, gS_moved E.2.2.2.2.2.2.2 (vS_mono hA2 hS1) hU hW, by rw [hU, z1, hd (k + 1), hd k]; omega, by rw [hU]; exact hobj⟩⟩ rfl rfl hl.1 rfl (lv_room hroom) hd2 ⟨by omega, by omega⟩
  intro T0 hT0 X0
  obtain ⟨v, st0, t, T', L9, hst0, X', hL9, e2, -, ⟨q1, q2, q3, q4⟩, go⟩ := hrun T0 hT0 X0
  cases q1
  rw [hst0] at q4
  have hlt : ∀ q : Nat, q < s.heap.size → ¬ A q → q < gad P k := by
    intro q h1 h2
    have h3 := hS.1
    rw [hsz] at h3
    omega
  obtain ⟨t', a1, b1⟩ := kk T'.heap (locs ++ L9) (by rw [e2]; exact q2) (fun q hq => by rw [e2, q4 q hq]; exact o1 q hq) (fun i h1 h2 => by rw [e2]; exact q3 i h1 h2)
    ⟨by rw [e2, q2]; refine Nat.le_trans hS.1 ?_; rw [hsz, hd k, hd (k + n)]; omega, fun q h1 h2 => by rw [e2, q4 q (hlt q h1 h2), o1 q (hlt q h1 h2)]; exact hS.2.1 q h1 h2, fun z hz => (List.mem_append.mp hz).elim (hS.2.2 z) (fun h9 => hA1 _ (hL9 z h9))⟩ T' rfl X'
  exact ⟨t', go _ a1, b1⟩
/-- the same, within a constructor -/
theorem i_subI {y : MethodName} {cy : ByteArray} {rm : Room} {lv : List (Nat × Value)} {ds : List Value} {n sl mc N ik idx ci2 : Nat} {C : String} {T : u_T} {ty0 : Nat → FieldType} (hd : Dense P) (E : gE p s m args meth c P own cc nL ret) (h : iH P s c0 ci fs k H locs) (hc : c0 < k) (hn : 0 < n) (hk64 : k + n ≤ 64) (hl : lv_has ls nL lv) (hM : iMet l y cy rm P k ci2 ds n mc sl) (hcl : gCl ci2 C T N) (hct : gCt C T N ty0) (hds : ∀ j, j < N → defaultValue (ty0 j) = vp_V ds j)
    (hlk : Cond.classLink own ik C ∈ GW) (hins : Cond.instantiable C N ∈ GW) (hini : Cond.initialized C ∈ GW) (L : gLI own idx y cy) (hF : rm.frames + 1 ≤ R.frames) (hL : 8 + (1 + 11) + rm.locals ≤ R.locals) (hrc : rm.cells = mc) (hrs : rm.slots = sl) (hCe : cells + 1 + mc ≤ R.cells) (hSl : slots + N + sl ≤ R.slots) (hroom : ((Value.ref (gad P k) :: rest).map fun v => v.category).sum ≤ 8)
    (hd0 : decode cc pc = .ok (.new ik, 3)) (hd1 : decode cc (pc + 3) = .ok (.dup, 1)) (hd2 : decode cc (pc + 4) = .ok (.invokespecial idx, 3))
    (kk : ∀ (H1 : Heap) (locs1 : List Loc), iH P s c0 ci fs (k + n) H1 locs1 → W p l e R s m args below meth c H1 locs1 (cells + 1 + mc) (slots + N + sl) Q (F0 m (pc + 7) ls (.ref (gad P k) :: rest))) : W p l e R s m args below meth c H locs cells slots Q (F0 m pc ls rest) := by
  refine i_sub (A := iA P c0) hd E (fun q hq => ⟨hq.1, Nat.le_trans (by rw [hd c0, hd k]; omega) hq.2⟩) (fun q hq => hq.1) h.1 h.2.2 hn hk64 hl hM hcl hct hds hlk hins hini L hF hL hrc hrs hCe hSl hroom hd0 hd1 hd2 (fun H1 locs1 h1 h2 h3 h4 => kk H1 locs1 ⟨h1, iW_P ?_ (fun i h5 h6 => ?_), h4⟩)
  · have h9 := h.2.1 0 _ rfl
    exact h9.kept (h2 _ (by rw [hd c0, hd k]; omega))
  · by_cases hi : i < k
    · exact (h.2.1 _ _ (iW_in h5 hi)).kept (h2 _ (by rw [hd i, hd k]; omega))
    · exact h3 i (by omega) h6
theorem i_gets {idx : Nat} (E : gE p s m args meth c P own cc nL ret) (h : iH P s c0 ci fs k H locs) (j : Nat) {x : Int32} (hj : j < 3) (hx : n3n x = j) (hl : Cond.fieldLink own idx "FramedLine$State" ((["SEARCHING", "TRYING", "ALIGNED"] : List String).getD j "") "LFramedLine$State;" ∈ GW) (hdg : decode cc pc = .ok (.getstatic idx, 3))
    (kk : W p l e R s m args below meth c H locs cells slots Q (F0 m (pc + 3) ls (.ref (gae P x) :: rest))) : W p l e R s m args below meth c H locs cells slots Q (F0 m pc ls rest) := by
  subst hx
  exact va_gets E.1 E.2.1 (E.2.2.2.2.2.2.2.2.2.2.1 _ hj).1 (vS_mono (fun q hq => hq.1) h.2.2) E.2.2.2.2.1 (E.2.2.2.2.2.1 _ hl) (fun _ q => q) hdg kk
theorem i_ret {n : Nat} (hd : Dense P) (E : gE p s m args meth c P own cc nL none) (hs0 : s.heap.size = gad P (c0 + 1)) (h : iH P s c0 ci fs k H locs) (hk : k = c0 + n) (hgc : gc P c0 (Gi c0) = .inr (ci, fs)) (hdg : decode cc pc = .ok (.return_, 1)) :
    W p l e R s m args below meth c H locs cells slots (MQ below (iQ P c0 n) args s cells slots (iA P c0)) (F0 m pc ls []) := by
  subst hk
  refine W.vret E.1 E.2.1 E.2.2.1 (fun t ht _ => ⟨rfl, by rw [ht]; exact h.1, fun i h1 h2 => ?_, fun q hq => ?_⟩) h.2.2.2.2 hdg E.2.2.2.2.2.2.1
  · rw [ht]
    by_cases hi : i = c0
    · subst hi
      rw [hgc]
      exact h.2.1 0 _ rfl
    · exact h.2.1 _ _ (iW_in (by omega) h2)
  · rw [ht]
    exact h.2.2.2.1 q (by rw [hs0, hd (c0 + 1)]; rw [hd c0] at hq; omega) (fun h9 => absurd h9.2 (by omega))
end IR
