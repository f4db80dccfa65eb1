/-! the words: those of the tables that stay good under every warming; the nest's own words beside them -/
def GW : List Cond := lw_tbl.filter goodWord
theorem GW_at (i : Nat) {w : Cond} (h : lw_tbl[i]? = some w) (hg : goodWord w = true) : w ∈ GW := List.mem_filter.mpr ⟨List.mem_of_getElem? h, hg⟩
theorem GW_good {big : List Cond} {l : List Cond} (h : ∀ w ∈ l, w ∈ GW) : GoodIn GW l := fun w hw => ⟨h w hw, good_of_word (List.mem_filter.mp (h w hw)).2⟩
def nestW : Cond → Bool
  | .fieldLinkNest .. => true
  | .methodLinkNest .. => true
  | _ => false
def NW : List Cond := lw_tbl.filter nestW
theorem NW_at (i : Nat) {w : Cond} (h : lw_tbl[i]? = some w) (hg : nestW w = true) : w ∈ NW := List.mem_filter.mpr ⟨List.mem_of_getElem? h, hg⟩
theorem NW_tab {w : Cond} (h : w ∈ NW) : w.onTables = true := by
  have hn := (List.mem_filter.mp h).2
  cases w <;> first | rfl | (simp [nestW] at hn)
theorem NW_warm {s U : State} (hW : s.WarmedH U.vm) (h : ∀ w ∈ NW, va_Nw w s) : ∀ w ∈ NW, va_Nw w U := by
  intro w hw
  have hn := (List.mem_filter.mp hw).2
  have h1 := h w hw
  cases w <;> first | exact va_Nw.warmF hW h1 | exact va_Nw.warmM hW h1 | (simp [nestW] at hn)
/-- what a state's tables hold, once and for all -/
def gS (P : gP) (U : State) : Prop := va_K (gDD P) vwCl [(gcI P, .int), (gcZ P, .boolean)] U ∧ gInj P ∧ (∀ w ∈ NW, va_Nw w U) ∧ va_En "FramedLine$State" "LFramedLine$State;" ["SEARCHING", "TRYING", "ALIGNED"] [] P.2.2.2.2 (gA P) U U.heap
def gPre (P : gP) (G : Mem) (U : State) : Prop := va_P (gDD P) vwCl (gw P G) U.heap ∧ gS P U
def gH (P : gP) (s : State) (G : Mem) (H : Heap) (locs : List Loc) : Prop := va_P (gDD P) vwCl (gw P G) H ∧ va_S (gA P) s.heap H locs
theorem gPre_blind {av : List Value} {P : gP} {G : Mem} : FrameBlind (va_Pc av (gPre P G)) := by
  intro a U g mk h
  obtain ⟨h0, h1, hK, hI, hN, hE⟩ := h
  exact ⟨h0, h1, va_K.moved (u := U) (U := U.calling g mk a) (Vm.Alike.refl U.vm) hK, hI, fun w hw => va_Nw.same (u := U) (U := U.calling g mk a) (NW_tab hw) rfl (hN w hw), va_En.moved (u := U) (U := U.calling g mk a) (Vm.Alike.refl U.vm) hE⟩
theorem gS_moved {P : gP} {s U : State} {H : Heap} {locs : List Loc} (h : gS P s) (hS : va_S (gA P) s.heap H locs) (hU : U.heap = H) (hW : s.WarmedH U.vm) : gS P U := by
  obtain ⟨hK, hI, hN, hE⟩ := h
  refine ⟨va_K.moved hW.alike hK, hI, NW_warm hW hN, ?_⟩
  rw [hU]
  exact va_En.moved hW.alike (hE.kept hS.2.1)
/-- a method's own code and place, and what the tables give -/
def gE (p : Program) (s : State) (m : MethodId) (args : Array Value) (meth : Method) (c : Code) (P : gP) (own : String) (cc : ByteArray) (nL : Nat) (ret : Option FieldType) : Prop :=
  p.tables.exec = Jvm.exec ∧ c.code = cc ∧ meth.sig.returnType = ret ∧ c.maxLocals = nL ∧ s.vm.findClass own = some m.cls ∧ (∀ w ∈ GW, w.before args s = true) ∧ meth.locks = false ∧ gS P s
def gMv (l : Launch) (y : MethodName) (cc : ByteArray) (maxL : Nat) (ret : Option FieldType) (rm : Room) (av : List Value) (P : gP) (G : Mem) (X : Mem) : Prop :=
  Met l y (Cond.code y cc maxL ret :: GW) rm (va_Pc av (gPre P G)) (va_Qv (fun u : Mem => X = u) (fun u t => va_P (gDD P) vwCl (gw P u) t.heap) (gA P)) 0 0 (gA P)
def gMi (l : Launch) (y : MethodName) (cc : ByteArray) (maxL : Nat) (ret : Option FieldType) (rm : Room) (av : List Value) (P : gP) (G : Mem) (X : Int32 × Mem) : Prop :=
  Met l y (Cond.code y cc maxL ret :: GW) rm (va_Pc av (gPre P G)) (va_Qi (fun (r : Int32) (u : Mem) => X = (r, u)) (fun u t => va_P (gDD P) vwCl (gw P u) t.heap) (gA P)) 0 0 (gA P)
def gMz (l : Launch) (y : MethodName) (cc : ByteArray) (maxL : Nat) (ret : Option FieldType) (rm : Room) (av : List Value) (P : gP) (G : Mem) (X : Int32 × Mem) : Prop :=
  Met l y (Cond.code y cc maxL ret :: GW) rm (va_Pc av (gPre P G)) (va_Qi (fun (r : Int32) (u : Mem) => X = (r, u) ∧ isB r) (fun u t => va_P (gDD P) vwCl (gw P u) t.heap) (gA P)) 0 0 (gA P)
def gMri (l : Launch) (y : MethodName) (cc : ByteArray) (maxL : Nat) (ret : Option FieldType) (rm : Room) (av : List Value) (P : gP) (G : Mem) (X : Int32) : Prop := gMi l y cc maxL ret rm av P G (X, G)
def gMrz (l : Launch) (y : MethodName) (cc : ByteArray) (maxL : Nat) (ret : Option FieldType) (rm : Room) (av : List Value) (P : gP) (G : Mem) (X : Int32) : Prop := gMz l y cc maxL ret rm av P G (X, G)
def gCl (ci : Nat) (C : String) (T : u_T) (N : Nat) : Prop := vwCl[ci]? = some (C, T, N) ∧ ∀ w ∈ u_ws C T N, w ∈ GW
def gCt (C : String) (T : u_T) (N : Nat) (ty : Nat → FieldType) : Prop := (∀ k, k < N → parseFieldDescriptor (T k).2.2.1 = some (ty k)) ∧ (∀ a, a < N → ∀ b, b < N → a ≠ b → (T a).2.1 ≠ (T b).2.1)
/-- a call's words -/
def gLV (own C : String) (idx : Nat) (y : MethodName) (cc : ByteArray) (maxL : Nat) (ret : Option FieldType) (n : Nat) : Prop :=
  (Cond.code y cc maxL ret ∈ GW ∧ Cond.initialized y.cls ∈ GW ∧ (y.cls ≠ "java/lang/invoke/MethodHandle" ∧ y.cls ≠ "java/lang/invoke/VarHandle" ∧ (parseMethodDescriptor y.desc).map (fun d => d.parameters.length) = some n)) ∧ Cond.methodLink own idx y ∈ GW ∧ Cond.instanceMethod y ∈ GW ∧ Cond.selects C y y ∈ GW
def gLS (own : String) (idx : Nat) (y : MethodName) (cc : ByteArray) (maxL : Nat) (ret : Option FieldType) (n : Nat) : Prop :=
  (Cond.code y cc maxL ret ∈ GW ∧ Cond.initialized y.cls ∈ GW ∧ (y.cls ≠ "java/lang/invoke/MethodHandle" ∧ y.cls ≠ "java/lang/invoke/VarHandle" ∧ (parseMethodDescriptor y.desc).map (fun d => d.parameters.length) = some n)) ∧ Cond.methodLink own idx y ∈ GW ∧ Cond.static y ∈ GW
def gLSN (own host : String) (idx : Nat) (y : MethodName) (cc : ByteArray) (maxL : Nat) (ret : Option FieldType) (n : Nat) : Prop :=
  (Cond.code y cc maxL ret ∈ GW ∧ Cond.initialized y.cls ∈ GW ∧ (y.cls ≠ "java/lang/invoke/MethodHandle" ∧ y.cls ≠ "java/lang/invoke/VarHandle" ∧ (parseMethodDescriptor y.desc).map (fun d => d.parameters.length) = some n)) ∧ Cond.methodLinkNest own idx y host ∈ NW ∧ Cond.static y ∈ GW
theorem gE_of {p : Program} {l : Launch} {e : Env} {s : State} {m : MethodId} {args : Array Value} {below : List Frame} {meth : Method} {c : Code} {s₁ : State} {y : MethodName} {cc : ByteArray} {maxL : Nat} {ret : Option FieldType} {rm : Room} {P : gP} {G : Mem}
    (B : BodyLoose p l y (headSpec (Cond.code y cc maxL ret :: GW) rm) cc maxL ret e s m args below meth c s₁) (hml : c.maxLocals = maxL) (hpre : gPre P G s) : gE p s m args meth c P y.cls cc maxL ret ∧ gH P s G s.heap [] :=
  ⟨⟨B.exec, B.bytes, B.returns, hml, findClass_of_methodNamed B.named, fun w h => atoms_spec (ws := Cond.code y cc maxL ret :: GW) B.pre w (List.mem_cons_of_mem _ h), B.notSynchronized, hpre.2⟩, hpre.1, va_S.rf⟩
section GR
variable {p : Program} {l : Launch} {e : Env} {R : Room} {s : State} {m : MethodId} {args : Array Value} {below : List Frame} {meth : Method} {c : Code} {H : Heap} {locs : List Loc} {cells slots : Nat} {Q : State → Prop}
variable {cc : ByteArray} {pc : Nat} {ls : Array Slot} {rest : List Value} {P : gP} {G : Mem} {own : String} {nL : Nat} {ret : Option FieldType}
/-- a place that several ways come to: first what goes on from there, then the ways -/
theorem jn {α : Type} {g : JFrame} (Pz : α → Heap → List Loc → Prop) (fr : α → JFrame) (k1 : ∀ (z : α) (H1 : Heap) (locs1 : List Loc), Pz z H1 locs1 → W p l e R s m args below meth c H1 locs1 cells slots Q (fr z))
    (k2 : (∀ (z : α) (H1 : Heap) (locs1 : List Loc), Pz z H1 locs1 → W p l e R s m args below meth c H1 locs1 cells slots Q (fr z)) → W p l e R s m args below meth c H locs cells slots Q g) : W p l e R s m args below meth c H locs cells slots Q g := k2 k1
/-- a loop's head: a measure that falls -/
theorem lp {α : Type} (Pz : α → Heap → List Loc → Prop) (fr : α → JFrame) (μ : α → Nat)
    (st : ∀ (z : α) (H1 : Heap) (locs1 : List Loc), Pz z H1 locs1 → (∀ (z' : α) (H2 : Heap) (locs2 : List Loc), μ z' < μ z → Pz z' H2 locs2 → W p l e R s m args below meth c H2 locs2 cells slots Q (fr z')) → W p l e R s m args below meth c H1 locs1 cells slots Q (fr z)) :
    ∀ (z : α) (H1 : Heap) (locs1 : List Loc), Pz z H1 locs1 → W p l e R s m args below meth c H1 locs1 cells slots Q (fr z) := by
  have key : ∀ (n : Nat) (z : α) (H1 : Heap) (locs1 : List Loc), μ z < n → Pz z H1 locs1 → W p l e R s m args below meth c H1 locs1 cells slots Q (fr z) := by
    intro n
    induction n with
    | zero => intro z H1 locs1 h; exact absurd h (Nat.not_lt_zero _)
    | succ n ih =>
      intro z H1 locs1 h hz
      exact st z H1 locs1 hz (fun z' H2 locs2 hlt hz' => ih z' H2 locs2 (Nat.lt_of_lt_of_le hlt (Nat.le_of_lt_succ h)) hz')
  exact fun z H1 locs1 hz => key (μ z + 1) z H1 locs1 (Nat.lt_succ_self _) hz
theorem jl {α : Type} {g : JFrame} (Pz : α → Heap → List Loc → Prop) (fr : α → JFrame) (μ : α → Nat)
    (st : ∀ (z : α) (H1 : Heap) (locs1 : List Loc), Pz z H1 locs1 → (∀ (z' : α) (H2 : Heap) (locs2 : List Loc), μ z' < μ z → Pz z' H2 locs2 → W p l e R s m args below meth c H2 locs2 cells slots Q (fr z')) → W p l e R s m args below meth c H1 locs1 cells slots Q (fr z))
    (k2 : (∀ (z : α) (H1 : Heap) (locs1 : List Loc), Pz z H1 locs1 → W p l e R s m args below meth c H1 locs1 cells slots Q (fr z)) → W p l e R s m args below meth c H locs cells slots Q g) : W p l e R s m args below meth c H locs cells slots Q g := k2 (lp Pz fr μ st)
theorem g_get {ci N idx : Nat} {C : String} {T : u_T} {fl : (Nat → Int32) → List Value} {c0 : Nat} (E : gE p s m args meth c P own cc nL ret) (h : gH P s G H locs) (hc : c0 < 64 ∧ ∀ g, gc P c0 g = .inr (ci, fl g)) (hcl : gCl ci C T N) (k : Nat) (hk : k < N)
    (hl : Cond.fieldLink own idx (T k).1 (T k).2.1 (T k).2.2.1 ∈ GW) {v : Value} (hv : (fl (G c0))[k]? = some v) (hdg : decode cc pc = .ok (.getfield idx, 3))
    (kk : W p l e R s m args below meth c H locs cells slots Q (F0 m (pc + 3) ls (v :: rest))) : W p l e R s m args below meth c H locs cells slots Q (F0 m pc ls (.ref (gad P c0) :: rest)) :=
  va_get E.1 E.2.1 E.2.2.2.2.2.1 hcl.2 E.2.2.2.2.1 E.2.2.2.2.2.2.2.1 h.1 c0 (by rw [gw_at hc.1, hc.2]) hcl.1 k hk (E.2.2.2.2.2.1 _ hl) (fun _ q => q) hv hdg kk
theorem g_getN {ci N idx : Nat} {C host : String} {T : u_T} {fl : (Nat → Int32) → List Value} {c0 : Nat} (E : gE p s m args meth c P own cc nL ret) (h : gH P s G H locs) (hc : c0 < 64 ∧ ∀ g, gc P c0 g = .inr (ci, fl g)) (hcl : gCl ci C T N) (k : Nat) (hk : k < N)
    (hl : Cond.fieldLinkNest own idx (T k).1 (T k).2.1 (T k).2.2.1 host ∈ NW) {v : Value} (hv : (fl (G c0))[k]? = some v) (hdg : decode cc pc = .ok (.getfield idx, 3))
    (kk : W p l e R s m args below meth c H locs cells slots Q (F0 m (pc + 3) ls (v :: rest))) : W p l e R s m args below meth c H locs cells slots Q (F0 m pc ls (.ref (gad P c0) :: rest)) :=
  va_getN E.1 E.2.1 E.2.2.2.2.2.1 hcl.2 E.2.2.2.2.1 E.2.2.2.2.2.2.2.1 h.1 c0 (by rw [gw_at hc.1, hc.2]) hcl.1 k hk (va_Nw.use (NW_tab hl) (E.2.2.2.2.2.2.2.2.2.1 _ hl)) (fun _ q => q) hv hdg kk
theorem g_put {ci N idx : Nat} {C : String} {T : u_T} {ty0 : Nat → FieldType} {fl : (Nat → Int32) → List Value} {c0 : Nat} {v : Value} {nv : Int32} {ty : FieldType} (E : gE p s m args meth c P own cc nL ret) (h : gH P s G H locs) (hc : c0 < 64 ∧ ∀ g, gc P c0 g = .inr (ci, fl g)) (hcl : gCl ci C T N) (hct : gCt C T N ty0) (k : Nat) (hk : k < N)
    (hl : Cond.fieldLink own idx (T k).1 (T k).2.1 (T k).2.2.1 ∈ GW) (hfin : (T k).2.2.2 = false) (hd : parseFieldDescriptor (T k).2.2.1 = some ty) (hset : ∀ g, (fl g).set k v = fl (upd g k nv)) (hn : narrow ty v = v) (hfit : fits ty v = true) (hlen : k < (fl (G c0)).length) (hdg : decode cc pc = .ok (.putfield idx, 3))
    (kk : ∀ (H1 : Heap) (locs1 : List Loc), gH P s (wr G c0 k nv) H1 locs1 → W p l e R s m args below meth c H1 locs1 cells slots Q (F0 m (pc + 3) ls rest)) : W p l e R s m args below meth c H locs cells slots Q (F0 m pc ls (v :: .ref (gad P c0) :: rest)) := by
  refine va_put E.1 E.2.1 E.2.2.2.2.2.1 hcl.2 ty0 hct.1 hct.2 E.2.2.2.2.1 E.2.2.2.2.2.2.2.1 h.1 (gD_of E.2.2.2.2.2.2.2.2.1 G) h.2 c0 (by rw [gw_at hc.1, hc.2]) hcl.1 k hk (E.2.2.2.2.2.1 _ hl) (fun _ q => q) hfin hd hn hfit hlen hdg (fun H1 locs1 hP _ hS => kk H1 locs1 ⟨?_, hS⟩)
  rw [hset, ← hc.2, gw_set hc.1] at hP
  exact hP
theorem g_geti {ci N idx : Nat} {C : String} {T : u_T} {fl : (Nat → Int32) → List Value} {c0 : Nat} {v : Int32} (E : gE p s m args meth c P own cc nL ret) (h : gH P s G H locs) (hc : c0 < 64 ∧ ∀ g, gc P c0 g = .inr (ci, fl g)) (hcl : gCl ci C T N) (k : Nat) (hk : k < N)
    (hl : Cond.fieldLink own idx (T k).1 (T k).2.1 (T k).2.2.1 ∈ GW) (hf : ∀ g, (fl g)[k]? = some (.int (g k))) (hv : G c0 k = v) (hdg : decode cc pc = .ok (.getfield idx, 3))
    (kk : W p l e R s m args below meth c H locs cells slots Q (F0 m (pc + 3) ls (.int v :: rest))) : W p l e R s m args below meth c H locs cells slots Q (F0 m pc ls (.ref (gad P c0) :: rest)) := by
  subst hv
  exact g_get E h hc hcl k hk hl (hf _) hdg kk
theorem g_getiN {ci N idx : Nat} {C host : String} {T : u_T} {fl : (Nat → Int32) → List Value} {c0 : Nat} {v : Int32} (E : gE p s m args meth c P own cc nL ret) (h : gH P s G H locs) (hc : c0 < 64 ∧ ∀ g, gc P c0 g = .inr (ci, fl g)) (hcl : gCl ci C T N) (k : Nat) (hk : k < N)
    (hl : Cond.fieldLinkNest own idx (T k).1 (T k).2.1 (T k).2.2.1 host ∈ NW) (hf : ∀ g, (fl g)[k]? = some (.int (g k))) (hv : G c0 k = v) (hdg : decode cc pc = .ok (.getfield idx, 3))
    (kk : W p l e R s m args below meth c H locs cells slots Q (F0 m (pc + 3) ls (.int v :: rest))) : W p l e R s m args below meth c H locs cells slots Q (F0 m pc ls (.ref (gad P c0) :: rest)) := by
  subst hv
  exact g_getN E h hc hcl k hk hl (hf _) hdg kk
theorem g_getz {ci N idx : Nat} {C : String} {T : u_T} {fl : (Nat → Int32) → List Value} {c0 : Nat} {v : Int32} (E : gE p s m args meth c P own cc nL ret) (h : gH P s G H locs) (hc : c0 < 64 ∧ ∀ g, gc P c0 g = .inr (ci, fl g)) (hcl : gCl ci C T N) (k : Nat) (hk : k < N)
    (hl : Cond.fieldLink own idx (T k).1 (T k).2.1 (T k).2.2.1 ∈ GW) (hf : ∀ g, (fl g)[k]? = some (.int (zb (g k)))) (hv : G c0 k = v) (hdg : decode cc pc = .ok (.getfield idx, 3))
    (kk : W p l e R s m args below meth c H locs cells slots Q (F0 m (pc + 3) ls (.int (zb v) :: rest))) : W p l e R s m args below meth c H locs cells slots Q (F0 m pc ls (.ref (gad P c0) :: rest)) := by
  subst hv
  exact g_get E h hc hcl k hk hl (hf _) hdg kk
theorem g_getzN {ci N idx : Nat} {C host : String} {T : u_T} {fl : (Nat → Int32) → List Value} {c0 : Nat} {v : Int32} (E : gE p s m args meth c P own cc nL ret) (h : gH P s G H locs) (hc : c0 < 64 ∧ ∀ g, gc P c0 g = .inr (ci, fl g)) (hcl : gCl ci C T N) (k : Nat) (hk : k < N)
    (hl : Cond.fieldLinkNest own idx (T k).1 (T k).2.1 (T k).2.2.1 host ∈ NW) (hf : ∀ g, (fl g)[k]? = some (.int (zb (g k)))) (hv : G c0 k = v) (hdg : decode cc pc = .ok (.getfield idx, 3))
    (kk : W p l e R s m args below meth c H locs cells slots Q (F0 m (pc + 3) ls (.int (zb v) :: rest))) : W p l e R s m args below meth c H locs cells slots Q (F0 m pc ls (.ref (gad P c0) :: rest)) := by
  subst hv
  exact g_getN E h hc hcl k hk hl (hf _) hdg kk
theorem g_gete {ci N idx : Nat} {C : String} {T : u_T} {fl : (Nat → Int32) → List Value} {c0 : Nat} {v : Int32} (E : gE p s m args meth c P own cc nL ret) (h : gH P s G H locs) (hc : c0 < 64 ∧ ∀ g, gc P c0 g = .inr (ci, fl g)) (hcl : gCl ci C T N) (k : Nat) (hk : k < N)
    (hl : Cond.fieldLink own idx (T k).1 (T k).2.1 (T k).2.2.1 ∈ GW) (hf : ∀ g, (fl g)[k]? = some (.ref (gae P (g k)))) (hv : G c0 k = v) (hdg : decode cc pc = .ok (.getfield idx, 3))
    (kk : W p l e R s m args below meth c H locs cells slots Q (F0 m (pc + 3) ls (.ref (gae P v) :: rest))) : W p l e R s m args below meth c H locs cells slots Q (F0 m pc ls (.ref (gad P c0) :: rest)) := by
  subst hv
  exact g_get E h hc hcl k hk hl (hf _) hdg kk
theorem g_geteN {ci N idx : Nat} {C host : String} {T : u_T} {fl : (Nat → Int32) → List Value} {c0 : Nat} {v : Int32} (E : gE p s m args meth c P own cc nL ret) (h : gH P s G H locs) (hc : c0 < 64 ∧ ∀ g, gc P c0 g = .inr (ci, fl g)) (hcl : gCl ci C T N) (k : Nat) (hk : k < N)
    (hl : Cond.fieldLinkNest own idx (T k).1 (T k).2.1 (T k).2.2.1 host ∈ NW) (hf : ∀ g, (fl g)[k]? = some (.ref (gae P (g k)))) (hv : G c0 k = v) (hdg : decode cc pc = .ok (.getfield idx, 3))
    (kk : W p l e R s m args below meth c H locs cells slots Q (F0 m (pc + 3) ls (.ref (gae P v) :: rest))) : W p l e R s m args below meth c H locs cells slots Q (F0 m pc ls (.ref (gad P c0) :: rest)) := by
  subst hv
  exact g_getN E h hc hcl k hk hl (hf _) hdg kk
theorem g_puti {ci N idx : Nat} {C : String} {T : u_T} {ty0 : Nat → FieldType} {fl : (Nat → Int32) → List Value} {c0 : Nat} {nv : Int32} (E : gE p s m args meth c P own cc nL ret) (h : gH P s G H locs) (hc : c0 < 64 ∧ ∀ g, gc P c0 g = .inr (ci, fl g)) (hcl : gCl ci C T N) (hct : gCt C T N ty0) (k : Nat) (hk : k < N)
    (hl : Cond.fieldLink own idx (T k).1 (T k).2.1 (T k).2.2.1 ∈ GW) (hfin : (T k).2.2.2 = false) (hd : parseFieldDescriptor (T k).2.2.1 = some .int) (hset : ∀ g nv, (fl g).set k (.int nv) = fl (upd g k nv)) (hlen : k < (fl (G c0)).length) (hdg : decode cc pc = .ok (.putfield idx, 3))
    (kk : ∀ (H1 : Heap) (locs1 : List Loc), gH P s (wr G c0 k nv) H1 locs1 → W p l e R s m args below meth c H1 locs1 cells slots Q (F0 m (pc + 3) ls rest)) : W p l e R s m args below meth c H locs cells slots Q (F0 m pc ls (.int nv :: .ref (gad P c0) :: rest)) :=
  g_put E h hc hcl hct k hk hl hfin hd (fun g => hset g nv) rfl rfl hlen hdg kk
theorem g_putz {ci N idx : Nat} {C : String} {T : u_T} {ty0 : Nat → FieldType} {fl : (Nat → Int32) → List Value} {c0 : Nat} {nv : Int32} (E : gE p s m args meth c P own cc nL ret) (h : gH P s G H locs) (hc : c0 < 64 ∧ ∀ g, gc P c0 g = .inr (ci, fl g)) (hcl : gCl ci C T N) (hct : gCt C T N ty0) (k : Nat) (hk : k < N)
    (hl : Cond.fieldLink own idx (T k).1 (T k).2.1 (T k).2.2.1 ∈ GW) (hfin : (T k).2.2.2 = false) (hd : parseFieldDescriptor (T k).2.2.1 = some .boolean) (hset : ∀ g nv, isB nv → (fl g).set k (.int nv) = fl (upd g k nv)) (hz : isB nv) (hlen : k < (fl (G c0)).length) (hdg : decode cc pc = .ok (.putfield idx, 3))
    (kk : ∀ (H1 : Heap) (locs1 : List Loc), gH P s (wr G c0 k nv) H1 locs1 → W p l e R s m args below meth c H1 locs1 cells slots Q (F0 m (pc + 3) ls rest)) : W p l e R s m args below meth c H locs cells slots Q (F0 m pc ls (.int nv :: .ref (gad P c0) :: rest)) :=
  g_put E h hc hcl hct k hk hl hfin hd (fun g => hset g nv hz) hz.1 hz.2 hlen hdg kk
theorem g_pute {ci N idx : Nat} {C : String} {T : u_T} {ty0 : Nat → FieldType} {fl : (Nat → Int32) → List Value} {c0 : Nat} {nv : Int32} (E : gE p s m args meth c P own cc nL ret) (h : gH P s G H locs) (hc : c0 < 64 ∧ ∀ g, gc P c0 g = .inr (ci, fl g)) (hcl : gCl ci C T N) (hct : gCt C T N ty0) (k : Nat) (hk : k < N)
    (hl : Cond.fieldLink own idx (T k).1 (T k).2.1 (T k).2.2.1 ∈ GW) (hfin : (T k).2.2.2 = false) (hd : parseFieldDescriptor (T k).2.2.1 = some (.object "FramedLine$State")) (hset : ∀ g nv, (fl g).set k (.ref (gae P nv)) = fl (upd g k nv)) (hlen : k < (fl (G c0)).length) (hdg : decode cc pc = .ok (.putfield idx, 3))
    (kk : ∀ (H1 : Heap) (locs1 : List Loc), gH P s (wr G c0 k nv) H1 locs1 → W p l e R s m args below meth c H1 locs1 cells slots Q (F0 m (pc + 3) ls rest)) : W p l e R s m args below meth c H locs cells slots Q (F0 m pc ls (.ref (gae P nv) :: .ref (gad P c0) :: rest)) :=
  g_put E h hc hcl hct k hk hl hfin hd (fun g => hset g nv) rfl rfl hlen hdg kk
theorem g_iaload {c0 n k : Nat} {i v : Int32} (E : gE p s m args meth c P own cc nL ret) (h : gH P s G H locs) (hc : c0 < 64 ∧ ∀ g, gc P c0 g = .inl (gcI P, n, .inl g)) (hin : vp_in i n) (hk : i.toNatClampNeg = k) (hv : G c0 k = v) (hdg : decode cc pc = .ok (.iaload, 1))
    (kk : W p l e R s m args below meth c H locs cells slots Q (F0 m (pc + 1) ls (.int v :: rest))) : W p l e R s m args below meth c H locs cells slots Q (F0 m pc ls (.int i :: .ref (gad P c0) :: rest)) := by
  subst hk
  subst hv
  exact va_iald E.1 E.2.1 E.2.2.2.2.2.2.2.1 h.1 c0 0 (by rw [gw_at hc.1, hc.2]) rfl hin hdg kk
theorem g_baload {c0 n k : Nat} {i v : Int32} (E : gE p s m args meth c P own cc nL ret) (h : gH P s G H locs) (hc : c0 < 64 ∧ ∀ g, gc P c0 g = .inl (gcZ P, n, .inl g)) (hin : vp_in i n) (hk : i.toNatClampNeg = k) (hv : G c0 k = v) (hdg : decode cc pc = .ok (.baload, 1))
    (kk : W p l e R s m args below meth c H locs cells slots Q (F0 m (pc + 1) ls (.int v :: rest))) : W p l e R s m args below meth c H locs cells slots Q (F0 m pc ls (.int i :: .ref (gad P c0) :: rest)) := by
  subst hk
  subst hv
  exact va_zald E.1 E.2.1 E.2.2.2.2.2.2.2.1 h.1 c0 1 (by rw [gw_at hc.1, hc.2]) rfl hin hdg kk
theorem g_iastore {c0 n k : Nat} {i x : Int32} (E : gE p s m args meth c P own cc nL ret) (h : gH P s G H locs) (hc : c0 < 64 ∧ ∀ g, gc P c0 g = .inl (gcI P, n, .inl g)) (hin : vp_in i n) (hk : i.toNatClampNeg = k) (hdg : decode cc pc = .ok (.iastore, 1))
    (kk : ∀ (H1 : Heap) (locs1 : List Loc), gH P s (wr G c0 k x) H1 locs1 → W p l e R s m args below meth c H1 locs1 cells slots Q (F0 m (pc + 1) ls rest)) : W p l e R s m args below meth c H locs cells slots Q (F0 m pc ls (.int x :: .int i :: .ref (gad P c0) :: rest)) := by
  subst hk
  refine va_iast E.1 E.2.1 E.2.2.2.2.2.2.2.1 h.1 (gD_of E.2.2.2.2.2.2.2.2.1 G) h.2 c0 0 (by rw [gw_at hc.1, hc.2]) rfl hin hdg (fun H1 locs1 hP _ hS => kk H1 locs1 ⟨?_, hS⟩)
  rw [← hc.2, gw_set hc.1] at hP
  exact hP
theorem g_bastore {c0 n k : Nat} {i x : Int32} (E : gE p s m args meth c P own cc nL ret) (h : gH P s G H locs) (hc : c0 < 64 ∧ ∀ g, gc P c0 g = .inl (gcZ P, n, .inl g)) (hin : vp_in i n) (hk : i.toNatClampNeg = k) (hdg : decode cc pc = .ok (.bastore, 1))
    (kk : ∀ (H1 : Heap) (locs1 : List Loc), gH P s (wr G c0 k (zb x)) H1 locs1 → W p l e R s m args below meth c H1 locs1 cells slots Q (F0 m (pc + 1) ls rest)) : W p l e R s m args below meth c H locs cells slots Q (F0 m pc ls (.int x :: .int i :: .ref (gad P c0) :: rest)) := by
  subst hk
  refine va_zast E.1 E.2.1 E.2.2.2.2.2.2.2.1 h.1 (gD_of E.2.2.2.2.2.2.2.2.1 G) h.2 c0 1 (by rw [gw_at hc.1, hc.2]) rfl hin hdg (fun H1 locs1 hP _ hS => kk H1 locs1 ⟨?_, hS⟩)
  rw [← hc.2, gw_set hc.1] at hP
  exact hP
theorem g_acmp_ne {x y : Int32} {off : Int} {tgt : Nat} (E : gE p s m args meth c P own cc nL ret) (hb : c.code = cc) (hdg : decode cc pc = .ok (.if_acmp .ne off, 3)) (ht : (pc : Int) + off = (tgt : Int))
    (kt : ¬ n3 x = n3 y → W p l e R s m args below meth c H locs cells slots Q (F0 m tgt ls rest)) (kf : n3 x = n3 y → W p l e R s m args below meth c H locs cells slots Q (F0 m (pc + 3) ls rest)) : W p l e R s m args below meth c H locs cells slots Q (F0 m pc ls (.ref (gae P y) :: .ref (gae P x) :: rest)) := by
  have hinj := E.2.2.2.2.2.2.2.2.2.2.2
  have key : (some (gae P x) = some (gae P y)) ↔ n3 x = n3 y := by
    refine ⟨fun h => n3_eq.mp (hinj _ _ (n3n_lt x) (n3n_lt y) (Option.some.inj h)), fun h => ?_⟩
    unfold gae
    rw [n3_eq.mpr h]
  exact lv_acmp_ne (rx := some (gae P x)) (ry := some (gae P y)) E.1 hb hdg ht (fun h => kt (fun q => h (key.mpr q))) (fun h => kf (key.mp h))
theorem g_gets {idx : Nat} (E : gE p s m args meth c P own cc nL ret) (h : gH P s G H locs) (k : Nat) {x : Int32} (hk : k < 3) (hx : n3n x = k) (hl : Cond.fieldLink own idx "FramedLine$State" ((["SEARCHING", "TRYING", "ALIGNED"] : List String).getD k "") "LFramedLine$State;" ∈ GW) (hdg : decode cc pc = .ok (.getstatic idx, 3))
    (kk : W p l e R s m args below meth c H locs cells slots Q (F0 m (pc + 3) ls (.ref (gae P x) :: rest))) : W p l e R s m args below meth c H locs cells slots Q (F0 m pc ls rest) := by
  subst hx
  exact va_gets E.1 E.2.1 (E.2.2.2.2.2.2.2.2.2.2.1 _ hk).1 h.2 E.2.2.2.2.1 (E.2.2.2.2.2.1 _ hl) (fun _ q => q) hdg kk
theorem g_preV {c0 ci N : Nat} {C : String} {T : u_T} {fl : (Nat → Int32) → List Value} {As : List Value} (E : gE p s m args meth c P own cc nL ret) (h : gH P s G H locs) (hc : c0 < 64 ∧ ∀ g, gc P c0 g = .inr (ci, fl g)) (hcl : gCl ci C T N) : PreV s H C (gad P c0) (va_Pc (.ref (gad P c0) :: As) (gPre P G)) As :=
  ⟨gPre_blind, va_recv (q := (C, T, N)) E.2.2.2.2.2.2.2.1 h.1 hcl.1 (q0 := c0) (fs := fl (G c0)) (by rw [gw_at hc.1, hc.2]), fun U hU hW => ⟨rfl, by rw [hU]; exact h.1, gS_moved E.2.2.2.2.2.2.2 h.2 hU hW⟩⟩
theorem g_preS {As : List Value} (E : gE p s m args meth c P own cc nL ret) (h : gH P s G H locs) : PreS s H (va_Pc As (gPre P G)) As :=
  ⟨gPre_blind, fun U hU hW => ⟨rfl, by rw [hU]; exact h.1, gS_moved E.2.2.2.2.2.2.2 h.2 hU hW⟩⟩
theorem g_cb {y : MethodName} {cy : ByteArray} {my n idx : Nat} {ry : Option FieldType} {rm : Room} (hts : ∀ w ∈ GW, w.before args s = true) (L : Cond.code y cy my ry ∈ GW ∧ Cond.initialized y.cls ∈ GW ∧ (y.cls ≠ "java/lang/invoke/MethodHandle" ∧ y.cls ≠ "java/lang/invoke/VarHandle" ∧ (parseMethodDescriptor y.desc).map (fun d => d.parameters.length) = some n)) (hl : (Cond.methodLink own idx y).before args s = true) (hc : rm.cells = 0) (hs : rm.slots = 0) (hR : rm.frames + 1 ≤ R.frames ∧ 8 + (my + 11) + rm.locals ≤ R.locals) : CallB R s args own idx y cy my ry (Cond.code y cy my ry :: GW) rm 0 0 n :=
  callB_of n hts (GW_good (big := GW) (fun w h => (List.mem_cons.mp h).elim (fun q => by rw [q]; exact L.1) id)) rfl hc hs (hts _ L.2.1) hl L.2.2 hR

theorem g_endv {X : Mem} {st0 : List Value} {a : Array Value} (h : gH P s G H locs) (hr : va_Run p l e R s m args below meth c H locs cells slots 0 0 (F0 m pc ls st0) rest (va_Qv (fun u : Mem => X = u) (fun u t => va_P (gDD P) vwCl (gw P u) t.heap) (gA P) a) (gA P))
    (kk : ∀ (H1 : Heap) (locs1 : List Loc), gH P s X H1 locs1 → W p l e R s m args below meth c H1 locs1 cells slots Q (F0 m (pc + 3) ls rest)) : W p l e R s m args below meth c H locs cells slots Q (F0 m pc ls st0) :=
  va_callv hr h.2 (fun q _ z => z) (fun q z => z) (fun u t H1 locs1 ht _ hX hB _ _ hS => kk H1 locs1 ⟨by rw [hX, ← ht]; exact hB, hS⟩)
theorem g_endi {X : Int32 × Mem} {st0 : List Value} {a : Array Value} (h : gH P s G H locs) (hr : va_Run p l e R s m args below meth c H locs cells slots 0 0 (F0 m pc ls st0) rest (va_Qi (fun (r : Int32) (u : Mem) => X = (r, u)) (fun u t => va_P (gDD P) vwCl (gw P u) t.heap) (gA P) a) (gA P))
    (kk : ∀ (H1 : Heap) (locs1 : List Loc), gH P s X.2 H1 locs1 → W p l e R s m args below meth c H1 locs1 cells slots Q (F0 m (pc + 3) ls (.int X.1 :: rest))) : W p l e R s m args below meth c H locs cells slots Q (F0 m pc ls st0) :=
  va_calli hr h.2 (fun q _ z => z) (fun q z => z) (fun r u t H1 locs1 ht _ hX hB _ _ hS => by
    subst hX
    exact kk H1 locs1 ⟨by rw [← ht]; exact hB, hS⟩)
theorem g_endz {X : Int32 × Mem} {st0 : List Value} {a : Array Value} (h : gH P s G H locs) (hr : va_Run p l e R s m args below meth c H locs cells slots 0 0 (F0 m pc ls st0) rest (va_Qi (fun (r : Int32) (u : Mem) => X = (r, u) ∧ isB r) (fun u t => va_P (gDD P) vwCl (gw P u) t.heap) (gA P) a) (gA P))
    (kk : ∀ (H1 : Heap) (locs1 : List Loc), gH P s X.2 H1 locs1 → isB X.1 → W p l e R s m args below meth c H1 locs1 cells slots Q (F0 m (pc + 3) ls (.int X.1 :: rest))) : W p l e R s m args below meth c H locs cells slots Q (F0 m pc ls st0) :=
  va_calli hr h.2 (fun q _ z => z) (fun q z => z) (fun r u t H1 locs1 ht _ hX hB _ _ hS => by
    obtain ⟨hX, hz⟩ := hX
    subst hX
    exact kk H1 locs1 ⟨by rw [← ht]; exact hB, hS⟩ hz)
theorem g_callVv {y : MethodName} {cy : ByteArray} {my n idx : Nat} {ry : Option FieldType} {rm : Room} {lv : List (Nat × Value)} {st0 As : List Value} {X : Mem} {c0 ci N : Nat} {C : String} {T : u_T} {fl : (Nat → Int32) → List Value} (E : gE p s m args meth c P own cc nL ret) (h : gH P s G H locs) (hl : lv_has ls nL lv) (hM : gMv l y cy my ry rm (.ref (gad P c0) :: As) P G X) (L : gLV own C idx y cy my ry n) (hc : c0 < 64 ∧ ∀ g, gc P c0 g = .inr (ci, fl g)) (hcl : gCl ci C T N)
    (hF : rm.frames + 1 ≤ R.frames) (hL : 8 + (my + 11) + rm.locals ≤ R.locals) (hCe : cells ≤ R.cells) (hSl : slots ≤ R.slots) (hroom : (rest.map fun v => v.category).sum ≤ 8) (hc0 : rm.cells = 0) (hs0 : rm.slots = 0) (hn : As.length = n) (hst : st0 = As.reverse ++ .ref (gad P c0) :: rest) (hdg : decode cc pc = .ok (.invokevirtual idx, 3))
    (kk : ∀ (H1 : Heap) (locs1 : List Loc), gH P s X H1 locs1 → W p l e R s m args below meth c H1 locs1 cells slots Q (F0 m (pc + 3) ls rest)) : W p l e R s m args below meth c H locs cells slots Q (F0 m pc ls st0) :=
  g_endv h (va_runV ⟨E.1, E.2.1, E.2.2.2.1, E.2.2.2.2.1, E.2.2.2.2.2.1⟩ hM ⟨g_cb E.2.2.2.2.2.1 L.1 (E.2.2.2.2.2.1 _ L.2.1) hc0 hs0 ⟨hF, hL⟩, E.2.2.2.2.2.1 _ L.2.2.1, E.2.2.2.2.2.1 _ L.2.2.2⟩ (g_preV E h hc hcl) rfl hn hl.1 hst (lv_room hroom) hdg ⟨hCe, hSl⟩) kk
theorem g_callVi {y : MethodName} {cy : ByteArray} {my n idx : Nat} {ry : Option FieldType} {rm : Room} {lv : List (Nat × Value)} {st0 As : List Value} {X : Int32 × Mem} {c0 ci N : Nat} {C : String} {T : u_T} {fl : (Nat → Int32) → List Value} (E : gE p s m args meth c P own cc nL ret) (h : gH P s G H locs) (hl : lv_has ls nL lv) (hM : gMi l y cy my ry rm (.ref (gad P c0) :: As) P G X) (L : gLV own C idx y cy my ry n) (hc : c0 < 64 ∧ ∀ g, gc P c0 g = .inr (ci, fl g)) (hcl : gCl ci C T N)
    (hF : rm.frames + 1 ≤ R.frames) (hL : 8 + (my + 11) + rm.locals ≤ R.locals) (hCe : cells ≤ R.cells) (hSl : slots ≤ R.slots) (hroom : (rest.map fun v => v.category).sum ≤ 8) (hc0 : rm.cells = 0) (hs0 : rm.slots = 0) (hn : As.length = n) (hst : st0 = As.reverse ++ .ref (gad P c0) :: rest) (hdg : decode cc pc = .ok (.invokevirtual idx, 3))
    (kk : ∀ (H1 : Heap) (locs1 : List Loc), gH P s X.2 H1 locs1 → W p l e R s m args below meth c H1 locs1 cells slots Q (F0 m (pc + 3) ls (.int X.1 :: rest))) : W p l e R s m args below meth c H locs cells slots Q (F0 m pc ls st0) :=
  g_endi h (va_runV ⟨E.1, E.2.1, E.2.2.2.1, E.2.2.2.2.1, E.2.2.2.2.2.1⟩ hM ⟨g_cb E.2.2.2.2.2.1 L.1 (E.2.2.2.2.2.1 _ L.2.1) hc0 hs0 ⟨hF, hL⟩, E.2.2.2.2.2.1 _ L.2.2.1, E.2.2.2.2.2.1 _ L.2.2.2⟩ (g_preV E h hc hcl) rfl hn hl.1 hst (lv_room hroom) hdg ⟨hCe, hSl⟩) kk
theorem g_callVz {y : MethodName} {cy : ByteArray} {my n idx : Nat} {ry : Option FieldType} {rm : Room} {lv : List (Nat × Value)} {st0 As : List Value} {X : Int32 × Mem} {c0 ci N : Nat} {C : String} {T : u_T} {fl : (Nat → Int32) → List Value} (E : gE p s m args meth c P own cc nL ret) (h : gH P s G H locs) (hl : lv_has ls nL lv) (hM : gMz l y cy my ry rm (.ref (gad P c0) :: As) P G X) (L : gLV own C idx y cy my ry n) (hc : c0 < 64 ∧ ∀ g, gc P c0 g = .inr (ci, fl g)) (hcl : gCl ci C T N)
    (hF : rm.frames + 1 ≤ R.frames) (hL : 8 + (my + 11) + rm.locals ≤ R.locals) (hCe : cells ≤ R.cells) (hSl : slots ≤ R.slots) (hroom : (rest.map fun v => v.category).sum ≤ 8) (hc0 : rm.cells = 0) (hs0 : rm.slots = 0) (hn : As.length = n) (hst : st0 = As.reverse ++ .ref (gad P c0) :: rest) (hdg : decode cc pc = .ok (.invokevirtual idx, 3))
    (kk : ∀ (H1 : Heap) (locs1 : List Loc), gH P s X.2 H1 locs1 → isB X.1 → W p l e R s m args below meth c H1 locs1 cells slots Q (F0 m (pc + 3) ls (.int X.1 :: rest))) : W p l e R s m args below meth c H locs cells slots Q (F0 m pc ls st0) :=
  g_endz h (va_runV ⟨E.1, E.2.1, E.2.2.2.1, E.2.2.2.2.1, E.2.2.2.2.2.1⟩ hM ⟨g_cb E.2.2.2.2.2.1 L.1 (E.2.2.2.2.2.1 _ L.2.1) hc0 hs0 ⟨hF, hL⟩, E.2.2.2.2.2.1 _ L.2.2.1, E.2.2.2.2.2.1 _ L.2.2.2⟩ (g_preV E h hc hcl) rfl hn hl.1 hst (lv_room hroom) hdg ⟨hCe, hSl⟩) kk
theorem g_callVri {y : MethodName} {cy : ByteArray} {my n idx : Nat} {ry : Option FieldType} {rm : Room} {lv : List (Nat × Value)} {st0 As : List Value} {X : Int32} {c0 ci N : Nat} {C : String} {T : u_T} {fl : (Nat → Int32) → List Value} (E : gE p s m args meth c P own cc nL ret) (h : gH P s G H locs) (hl : lv_has ls nL lv) (hM : gMri l y cy my ry rm (.ref (gad P c0) :: As) P G X) (L : gLV own C idx y cy my ry n) (hc : c0 < 64 ∧ ∀ g, gc P c0 g = .inr (ci, fl g)) (hcl : gCl ci C T N)
    (hF : rm.frames + 1 ≤ R.frames) (hL : 8 + (my + 11) + rm.locals ≤ R.locals) (hCe : cells ≤ R.cells) (hSl : slots ≤ R.slots) (hroom : (rest.map fun v => v.category).sum ≤ 8) (hc0 : rm.cells = 0) (hs0 : rm.slots = 0) (hn : As.length = n) (hst : st0 = As.reverse ++ .ref (gad P c0) :: rest) (hdg : decode cc pc = .ok (.invokevirtual idx, 3))
    (kk : ∀ (H1 : Heap) (locs1 : List Loc), gH P s G H1 locs1 → W p l e R s m args below meth c H1 locs1 cells slots Q (F0 m (pc + 3) ls (.int X :: rest))) : W p l e R s m args below meth c H locs cells slots Q (F0 m pc ls st0) :=
  g_endi h (va_runV ⟨E.1, E.2.1, E.2.2.2.1, E.2.2.2.2.1, E.2.2.2.2.2.1⟩ hM ⟨g_cb E.2.2.2.2.2.1 L.1 (E.2.2.2.2.2.1 _ L.2.1) hc0 hs0 ⟨hF, hL⟩, E.2.2.2.2.2.1 _ L.2.2.1, E.2.2.2.2.2.1 _ L.2.2.2⟩ (g_preV E h hc hcl) rfl hn hl.1 hst (lv_room hroom) hdg ⟨hCe, hSl⟩) kk
theorem g_callVrz {y : MethodName} {cy : ByteArray} {my n idx : Nat} {ry : Option FieldType} {rm : Room} {lv : List (Nat × Value)} {st0 As : List Value} {X : Int32} {c0 ci N : Nat} {C : String} {T : u_T} {fl : (Nat → Int32) → List Value} (E : gE p s m args meth c P own cc nL ret) (h : gH P s G H locs) (hl : lv_has ls nL lv) (hM : gMrz l y cy my ry rm (.ref (gad P c0) :: As) P G X) (L : gLV own C idx y cy my ry n) (hc : c0 < 64 ∧ ∀ g, gc P c0 g = .inr (ci, fl g)) (hcl : gCl ci C T N)
    (hF : rm.frames + 1 ≤ R.frames) (hL : 8 + (my + 11) + rm.locals ≤ R.locals) (hCe : cells ≤ R.cells) (hSl : slots ≤ R.slots) (hroom : (rest.map fun v => v.category).sum ≤ 8) (hc0 : rm.cells = 0) (hs0 : rm.slots = 0) (hn : As.length = n) (hst : st0 = As.reverse ++ .ref (gad P c0) :: rest) (hdg : decode cc pc = .ok (.invokevirtual idx, 3))
    (kk : ∀ (H1 : Heap) (locs1 : List Loc), gH P s G H1 locs1 → isB X → W p l e R s m args below meth c H1 locs1 cells slots Q (F0 m (pc + 3) ls (.int X :: rest))) : W p l e R s m args below meth c H locs cells slots Q (F0 m pc ls st0) :=
  g_endz h (va_runV ⟨E.1, E.2.1, E.2.2.2.1, E.2.2.2.2.1, E.2.2.2.2.2.1⟩ hM ⟨g_cb E.2.2.2.2.2.1 L.1 (E.2.2.2.2.2.1 _ L.2.1) hc0 hs0 ⟨hF, hL⟩, E.2.2.2.2.2.1 _ L.2.2.1, E.2.2.2.2.2.1 _ L.2.2.2⟩ (g_preV E h hc hcl) rfl hn hl.1 hst (lv_room hroom) hdg ⟨hCe, hSl⟩) kk
theorem g_callSv {y : MethodName} {cy : ByteArray} {my n idx : Nat} {ry : Option FieldType} {rm : Room} {lv : List (Nat × Value)} {st0 As : List Value} {X : Mem} (E : gE p s m args meth c P own cc nL ret) (h : gH P s G H locs) (hl : lv_has ls nL lv) (hM : gMv l y cy my ry rm As P G X) (L : gLS own idx y cy my ry n)
    (hF : rm.frames + 1 ≤ R.frames) (hL : 8 + (my + 11) + rm.locals ≤ R.locals) (hCe : cells ≤ R.cells) (hSl : slots ≤ R.slots) (hroom : (rest.map fun v => v.category).sum ≤ 8) (hc0 : rm.cells = 0) (hs0 : rm.slots = 0) (hn : As.length = n) (hst : st0 = As.reverse ++ rest) (hdg : decode cc pc = .ok (.invokestatic idx, 3))
    (kk : ∀ (H1 : Heap) (locs1 : List Loc), gH P s X H1 locs1 → W p l e R s m args below meth c H1 locs1 cells slots Q (F0 m (pc + 3) ls rest)) : W p l e R s m args below meth c H locs cells slots Q (F0 m pc ls st0) :=
  g_endv h (va_runS ⟨E.1, E.2.1, E.2.2.2.1, E.2.2.2.2.1, E.2.2.2.2.2.1⟩ hM ⟨g_cb E.2.2.2.2.2.1 L.1 (E.2.2.2.2.2.1 _ L.2.1) hc0 hs0 ⟨hF, hL⟩, E.2.2.2.2.2.1 _ L.2.2⟩ (g_preS E h) rfl hn hl.1 hst (lv_room hroom) hdg ⟨hCe, hSl⟩) kk
theorem g_callSi {y : MethodName} {cy : ByteArray} {my n idx : Nat} {ry : Option FieldType} {rm : Room} {lv : List (Nat × Value)} {st0 As : List Value} {X : Int32 × Mem} (E : gE p s m args meth c P own cc nL ret) (h : gH P s G H locs) (hl : lv_has ls nL lv) (hM : gMi l y cy my ry rm As P G X) (L : gLS own idx y cy my ry n)
    (hF : rm.frames + 1 ≤ R.frames) (hL : 8 + (my + 11) + rm.locals ≤ R.locals) (hCe : cells ≤ R.cells) (hSl : slots ≤ R.slots) (hroom : (rest.map fun v => v.category).sum ≤ 8) (hc0 : rm.cells = 0) (hs0 : rm.slots = 0) (hn : As.length = n) (hst : st0 = As.reverse ++ rest) (hdg : decode cc pc = .ok (.invokestatic idx, 3))
    (kk : ∀ (H1 : Heap) (locs1 : List Loc), gH P s X.2 H1 locs1 → W p l e R s m args below meth c H1 locs1 cells slots Q (F0 m (pc + 3) ls (.int X.1 :: rest))) : W p l e R s m args below meth c H locs cells slots Q (F0 m pc ls st0) :=
  g_endi h (va_runS ⟨E.1, E.2.1, E.2.2.2.1, E.2.2.2.2.1, E.2.2.2.2.2.1⟩ hM ⟨g_cb E.2.2.2.2.2.1 L.1 (E.2.2.2.2.2.1 _ L.2.1) hc0 hs0 ⟨hF, hL⟩, E.2.2.2.2.2.1 _ L.2.2⟩ (g_preS E h) rfl hn hl.1 hst (lv_room hroom) hdg ⟨hCe, hSl⟩) kk
theorem g_callSz {y : MethodName} {cy : ByteArray} {my n idx : Nat} {ry : Option FieldType} {rm : Room} {lv : List (Nat × Value)} {st0 As : List Value} {X : Int32 × Mem} (E : gE p s m args meth c P own cc nL ret) (h : gH P s G H locs) (hl : lv_has ls nL lv) (hM : gMz l y cy my ry rm As P G X) (L : gLS own idx y cy my ry n)
    (hF : rm.frames + 1 ≤ R.frames) (hL : 8 + (my + 11) + rm.locals ≤ R.locals) (hCe : cells ≤ R.cells) (hSl : slots ≤ R.slots) (hroom : (rest.map fun v => v.category).sum ≤ 8) (hc0 : rm.cells = 0) (hs0 : rm.slots = 0) (hn : As.length = n) (hst : st0 = As.reverse ++ rest) (hdg : decode cc pc = .ok (.invokestatic idx, 3))
    (kk : ∀ (H1 : Heap) (locs1 : List Loc), gH P s X.2 H1 locs1 → isB X.1 → W p l e R s m args below meth c H1 locs1 cells slots Q (F0 m (pc + 3) ls (.int X.1 :: rest))) : W p l e R s m args below meth c H locs cells slots Q (F0 m pc ls st0) :=
  g_endz h (va_runS ⟨E.1, E.2.1, E.2.2.2.1, E.2.2.2.2.1, E.2.2.2.2.2.1⟩ hM ⟨g_cb E.2.2.2.2.2.1 L.1 (E.2.2.2.2.2.1 _ L.2.1) hc0 hs0 ⟨hF, hL⟩, E.2.2.2.2.2.1 _ L.2.2⟩ (g_preS E h) rfl hn hl.1 hst (lv_room hroom) hdg ⟨hCe, hSl⟩) kk
theorem g_callSri {y : MethodName} {cy : ByteArray} {my n idx : Nat} {ry : Option FieldType} {rm : Room} {lv : List (Nat × Value)} {st0 As : List Value} {X : Int32} (E : gE p s m args meth c P own cc nL ret) (h : gH P s G H locs) (hl : lv_has ls nL lv) (hM : gMri l y cy my ry rm As P G X) (L : gLS own idx y cy my ry n)
    (hF : rm.frames + 1 ≤ R.frames) (hL : 8 + (my + 11) + rm.locals ≤ R.locals) (hCe : cells ≤ R.cells) (hSl : slots ≤ R.slots) (hroom : (rest.map fun v => v.category).sum ≤ 8) (hc0 : rm.cells = 0) (hs0 : rm.slots = 0) (hn : As.length = n) (hst : st0 = As.reverse ++ rest) (hdg : decode cc pc = .ok (.invokestatic idx, 3))
    (kk : ∀ (H1 : Heap) (locs1 : List Loc), gH P s G H1 locs1 → W p l e R s m args below meth c H1 locs1 cells slots Q (F0 m (pc + 3) ls (.int X :: rest))) : W p l e R s m args below meth c H locs cells slots Q (F0 m pc ls st0) :=
  g_endi h (va_runS ⟨E.1, E.2.1, E.2.2.2.1, E.2.2.2.2.1, E.2.2.2.2.2.1⟩ hM ⟨g_cb E.2.2.2.2.2.1 L.1 (E.2.2.2.2.2.1 _ L.2.1) hc0 hs0 ⟨hF, hL⟩, E.2.2.2.2.2.1 _ L.2.2⟩ (g_preS E h) rfl hn hl.1 hst (lv_room hroom) hdg ⟨hCe, hSl⟩) kk
theorem g_callSrz {y : MethodName} {cy : ByteArray} {my n idx : Nat} {ry : Option FieldType} {rm : Room} {lv : List (Nat × Value)} {st0 As : List Value} {X : Int32} (E : gE p s m args meth c P own cc nL ret) (h : gH P s G H locs) (hl : lv_has ls nL lv) (hM : gMrz l y cy my ry rm As P G X) (L : gLS own idx y cy my ry n)
    (hF : rm.frames + 1 ≤ R.frames) (hL : 8 + (my + 11) + rm.locals ≤ R.locals) (hCe : cells ≤ R.cells) (hSl : slots ≤ R.slots) (hroom : (rest.map fun v => v.category).sum ≤ 8) (hc0 : rm.cells = 0) (hs0 : rm.slots = 0) (hn : As.length = n) (hst : st0 = As.reverse ++ rest) (hdg : decode cc pc = .ok (.invokestatic idx, 3))
    (kk : ∀ (H1 : Heap) (locs1 : List Loc), gH P s G H1 locs1 → isB X → W p l e R s m args below meth c H1 locs1 cells slots Q (F0 m (pc + 3) ls (.int X :: rest))) : W p l e R s m args below meth c H locs cells slots Q (F0 m pc ls st0) :=
  g_endz h (va_runS ⟨E.1, E.2.1, E.2.2.2.1, E.2.2.2.2.1, E.2.2.2.2.2.1⟩ hM ⟨g_cb E.2.2.2.2.2.1 L.1 (E.2.2.2.2.2.1 _ L.2.1) hc0 hs0 ⟨hF, hL⟩, E.2.2.2.2.2.1 _ L.2.2⟩ (g_preS E h) rfl hn hl.1 hst (lv_room hroom) hdg ⟨hCe, hSl⟩) kk
theorem g_cn {y : MethodName} {cy : ByteArray} {my n idx : Nat} {host : String} {ry : Option FieldType} {rm : Room} (hts : ∀ w ∈ GW, w.before args s = true) (L : Cond.code y cy my ry ∈ GW ∧ Cond.initialized y.cls ∈ GW ∧ (y.cls ≠ "java/lang/invoke/MethodHandle" ∧ y.cls ≠ "java/lang/invoke/VarHandle" ∧ (parseMethodDescriptor y.desc).map (fun d => d.parameters.length) = some n)) (hl : va_Nw (.methodLinkNest own idx y host) s) (hc : rm.cells = 0) (hs : rm.slots = 0) (hR : rm.frames + 1 ≤ R.frames ∧ 8 + (my + 11) + rm.locals ≤ R.locals) : va_CN R s args own idx y host cy my ry (Cond.code y cy my ry :: GW) rm 0 0 n :=
  va_cnB n hts (GW_good (big := GW) (fun w h => (List.mem_cons.mp h).elim (fun q => by rw [q]; exact L.1) id)) rfl hc hs hl (hts _ L.2.1) L.2.2 hR
theorem g_callSNv {y : MethodName} {cy : ByteArray} {my n idx : Nat} {ry : Option FieldType} {rm : Room} {lv : List (Nat × Value)} {st0 As : List Value} {X : Mem} {host : String} (E : gE p s m args meth c P own cc nL ret) (h : gH P s G H locs) (hl : lv_has ls nL lv) (hM : gMv l y cy my ry rm As P G X) (L : gLSN own host idx y cy my ry n)
    (hF : rm.frames + 1 ≤ R.frames) (hL : 8 + (my + 11) + rm.locals ≤ R.locals) (hCe : cells ≤ R.cells) (hSl : slots ≤ R.slots) (hroom : (rest.map fun v => v.category).sum ≤ 8) (hc0 : rm.cells = 0) (hs0 : rm.slots = 0) (hn : As.length = n) (hst : st0 = As.reverse ++ rest) (hdg : decode cc pc = .ok (.invokestatic idx, 3))
    (kk : ∀ (H1 : Heap) (locs1 : List Loc), gH P s X H1 locs1 → W p l e R s m args below meth c H1 locs1 cells slots Q (F0 m (pc + 3) ls rest)) : W p l e R s m args below meth c H locs cells slots Q (F0 m pc ls st0) :=
  g_endv h (va_runSN ⟨E.1, E.2.1, E.2.2.2.1, E.2.2.2.2.1, E.2.2.2.2.2.1⟩ hM ⟨g_cn E.2.2.2.2.2.1 L.1 (E.2.2.2.2.2.2.2.2.2.1 _ L.2.1) hc0 hs0 ⟨hF, hL⟩, E.2.2.2.2.2.1 _ L.2.2, trivial⟩ (g_preS E h) rfl hn hl.1 hst (lv_room hroom) hdg ⟨hCe, hSl⟩) kk
theorem g_callSNi {y : MethodName} {cy : ByteArray} {my n idx : Nat} {ry : Option FieldType} {rm : Room} {lv : List (Nat × Value)} {st0 As : List Value} {X : Int32 × Mem} {host : String} (E : gE p s m args meth c P own cc nL ret) (h : gH P s G H locs) (hl : lv_has ls nL lv) (hM : gMi l y cy my ry rm As P G X) (L : gLSN own host idx y cy my ry n)
    (hF : rm.frames + 1 ≤ R.frames) (hL : 8 + (my + 11) + rm.locals ≤ R.locals) (hCe : cells ≤ R.cells) (hSl : slots ≤ R.slots) (hroom : (rest.map fun v => v.category).sum ≤ 8) (hc0 : rm.cells = 0) (hs0 : rm.slots = 0) (hn : As.length = n) (hst : st0 = As.reverse ++ rest) (hdg : decode cc pc = .ok (.invokestatic idx, 3))
    (kk : ∀ (H1 : Heap) (locs1 : List Loc), gH P s X.2 H1 locs1 → W p l e R s m args below meth c H1 locs1 cells slots Q (F0 m (pc + 3) ls (.int X.1 :: rest))) : W p l e R s m args below meth c H locs cells slots Q (F0 m pc ls st0) :=
  g_endi h (va_runSN ⟨E.1, E.2.1, E.2.2.2.1, E.2.2.2.2.1, E.2.2.2.2.2.1⟩ hM ⟨g_cn E.2.2.2.2.2.1 L.1 (E.2.2.2.2.2.2.2.2.2.1 _ L.2.1) hc0 hs0 ⟨hF, hL⟩, E.2.2.2.2.2.1 _ L.2.2, trivial⟩ (g_preS E h) rfl hn hl.1 hst (lv_room hroom) hdg ⟨hCe, hSl⟩) kk
theorem g_callSNz {y : MethodName} {cy : ByteArray} {my n idx : Nat} {ry : Option FieldType} {rm : Room} {lv : List (Nat × Value)} {st0 As : List Value} {X : Int32 × Mem} {host : String} (E : gE p s m args meth c P own cc nL ret) (h : gH P s G H locs) (hl : lv_has ls nL lv) (hM : gMz l y cy my ry rm As P G X) (L : gLSN own host idx y cy my ry n)
    (hF : rm.frames + 1 ≤ R.frames) (hL : 8 + (my + 11) + rm.locals ≤ R.locals) (hCe : cells ≤ R.cells) (hSl : slots ≤ R.slots) (hroom : (rest.map fun v => v.category).sum ≤ 8) (hc0 : rm.cells = 0) (hs0 : rm.slots = 0) (hn : As.length = n) (hst : st0 = As.reverse ++ rest) (hdg : decode cc pc = .ok (.invokestatic idx, 3))
    (kk : ∀ (H1 : Heap) (locs1 : List Loc), gH P s X.2 H1 locs1 → isB X.1 → W p l e R s m args below meth c H1 locs1 cells slots Q (F0 m (pc + 3) ls (.int X.1 :: rest))) : W p l e R s m args below meth c H locs cells slots Q (F0 m pc ls st0) :=
  g_endz h (va_runSN ⟨E.1, E.2.1, E.2.2.2.1, E.2.2.2.2.1, E.2.2.2.2.2.1⟩ hM ⟨g_cn E.2.2.2.2.2.1 L.1 (E.2.2.2.2.2.2.2.2.2.1 _ L.2.1) hc0 hs0 ⟨hF, hL⟩, E.2.2.2.2.2.1 _ L.2.2, trivial⟩ (g_preS E h) rfl hn hl.1 hst (lv_room hroom) hdg ⟨hCe, hSl⟩) kk
theorem g_callSNri {y : MethodName} {cy : ByteArray} {my n idx : Nat} {ry : Option FieldType} {rm : Room} {lv : List (Nat × Value)} {st0 As : List Value} {X : Int32} {host : String} (E : gE p s m args meth c P own cc nL ret) (h : gH P s G H locs) (hl : lv_has ls nL lv) (hM : gMri l y cy my ry rm As P G X) (L : gLSN own host idx y cy my ry n)
    (hF : rm.frames + 1 ≤ R.frames) (hL : 8 + (my + 11) + rm.locals ≤ R.locals) (hCe : cells ≤ R.cells) (hSl : slots ≤ R.slots) (hroom : (rest.map fun v => v.category).sum ≤ 8) (hc0 : rm.cells = 0) (hs0 : rm.slots = 0) (hn : As.length = n) (hst : st0 = As.reverse ++ rest) (hdg : decode cc pc = .ok (.invokestatic idx, 3))
    (kk : ∀ (H1 : Heap) (locs1 : List Loc), gH P s G H1 locs1 → W p l e R s m args below meth c H1 locs1 cells slots Q (F0 m (pc + 3) ls (.int X :: rest))) : W p l e R s m args below meth c H locs cells slots Q (F0 m pc ls st0) :=
  g_endi h (va_runSN ⟨E.1, E.2.1, E.2.2.2.1, E.2.2.2.2.1, E.2.2.2.2.2.1⟩ hM ⟨g_cn E.2.2.2.2.2.1 L.1 (E.2.2.2.2.2.2.2.2.2.1 _ L.2.1) hc0 hs0 ⟨hF, hL⟩, E.2.2.2.2.2.1 _ L.2.2, trivial⟩ (g_preS E h) rfl hn hl.1 hst (lv_room hroom) hdg ⟨hCe, hSl⟩) kk
theorem g_callSNrz {y : MethodName} {cy : ByteArray} {my n idx : Nat} {ry : Option FieldType} {rm : Room} {lv : List (Nat × Value)} {st0 As : List Value} {X : Int32} {host : String} (E : gE p s m args meth c P own cc nL ret) (h : gH P s G H locs) (hl : lv_has ls nL lv) (hM : gMrz l y cy my ry rm As P G X) (L : gLSN own host idx y cy my ry n)
    (hF : rm.frames + 1 ≤ R.frames) (hL : 8 + (my + 11) + rm.locals ≤ R.locals) (hCe : cells ≤ R.cells) (hSl : slots ≤ R.slots) (hroom : (rest.map fun v => v.category).sum ≤ 8) (hc0 : rm.cells = 0) (hs0 : rm.slots = 0) (hn : As.length = n) (hst : st0 = As.reverse ++ rest) (hdg : decode cc pc = .ok (.invokestatic idx, 3))
    (kk : ∀ (H1 : Heap) (locs1 : List Loc), gH P s G H1 locs1 → isB X → W p l e R s m args below meth c H1 locs1 cells slots Q (F0 m (pc + 3) ls (.int X :: rest))) : W p l e R s m args below meth c H locs cells slots Q (F0 m pc ls st0) :=
  g_endz h (va_runSN ⟨E.1, E.2.1, E.2.2.2.1, E.2.2.2.2.1, E.2.2.2.2.2.1⟩ hM ⟨g_cn E.2.2.2.2.2.1 L.1 (E.2.2.2.2.2.2.2.2.2.1 _ L.2.1) hc0 hs0 ⟨hF, hL⟩, E.2.2.2.2.2.1 _ L.2.2, trivial⟩ (g_preS E h) rfl hn hl.1 hst (lv_room hroom) hdg ⟨hCe, hSl⟩) kk
theorem g_vret {X : Mem} (E : gE p s m args meth c P own cc nL none) (h : gH P s G H locs) (hX : X = G) (hdg : decode cc pc = .ok (.return_, 1)) : W p l e R s m args below meth c H locs cells slots (MQ below (va_Qv (fun u : Mem => X = u) (fun u t => va_P (gDD P) vwCl (gw P u) t.heap) (gA P)) args s cells slots (gA P)) (F0 m pc ls []) :=
  W.vret E.1 E.2.1 E.2.2.1 (fun t ht _ => ⟨⟨G, rfl, hX, by show va_P _ _ _ t.heap; rw [ht]; exact h.1⟩, h.2.F ht⟩) h.2.2.2 hdg E.2.2.2.2.2.2.1
theorem g_iret {X : Int32 × Mem} {v : Int32} (E : gE p s m args meth c P own cc nL (some .int)) (h : gH P s G H locs) (hX : X = (v, G)) (hdg : decode cc pc = .ok (.ireturn, 1)) : W p l e R s m args below meth c H locs cells slots (MQ below (va_Qi (fun (r : Int32) (u : Mem) => X = (r, u)) (fun u t => va_P (gDD P) vwCl (gw P u) t.heap) (gA P)) args s cells slots (gA P)) (F0 m pc ls [.int v]) :=
  W.iret E.1 E.2.1 E.2.2.1 (fun t ht _ => ⟨⟨v, G, rfl, hX, by show va_P _ _ _ t.heap; rw [ht]; exact h.1⟩, h.2.F ht⟩) h.2.2.2 hdg E.2.2.2.2.2.2.1
theorem g_zret {X : Int32 × Mem} {v : Int32} (E : gE p s m args meth c P own cc nL (some .boolean)) (h : gH P s G H locs) (hX : X = (v, G)) (hz : isB v) (hdg : decode cc pc = .ok (.ireturn, 1)) : W p l e R s m args below meth c H locs cells slots (MQ below (va_Qi (fun (r : Int32) (u : Mem) => X = (r, u) ∧ isB r) (fun u t => va_P (gDD P) vwCl (gw P u) t.heap) (gA P)) args s cells slots (gA P)) (F0 m pc ls [.int v]) :=
  W.zret E.1 E.2.1 E.2.2.1 hz.1 (fun t ht _ => ⟨⟨v, G, rfl, ⟨hX, hz⟩, by show va_P _ _ _ t.heap; rw [ht]; exact h.1⟩, h.2.F ht⟩) h.2.2.2 hdg E.2.2.2.2.2.2.1
theorem g_riret {X : Int32} {v : Int32} (E : gE p s m args meth c P own cc nL (some .int)) (h : gH P s G H locs) (hX : X = v) (hdg : decode cc pc = .ok (.ireturn, 1)) : W p l e R s m args below meth c H locs cells slots (MQ below (va_Qi (fun (r : Int32) (u : Mem) => (X, G) = (r, u)) (fun u t => va_P (gDD P) vwCl (gw P u) t.heap) (gA P)) args s cells slots (gA P)) (F0 m pc ls [.int v]) := g_iret E h (by rw [hX]) hdg
theorem g_rzret {X : Int32} {v : Int32} (E : gE p s m args meth c P own cc nL (some .boolean)) (h : gH P s G H locs) (hX : X = v) (hz : isB v) (hdg : decode cc pc = .ok (.ireturn, 1)) : W p l e R s m args below meth c H locs cells slots (MQ below (va_Qi (fun (r : Int32) (u : Mem) => (X, G) = (r, u) ∧ isB r) (fun u t => va_P (gDD P) vwCl (gw P u) t.heap) (gA P)) args s cells slots (gA P)) (F0 m pc ls [.int v]) := g_zret E h (by rw [hX]) hz hdg
end GR
abbrev b_A_init : ByteArray := prog_2_method_1_code
def y_A_init : MethodName := ⟨"FramedLine$Arrivals", "<init>", "()V"⟩
abbrev b_A_change : ByteArray := prog_2_method_2_code
def y_A_change : MethodName := ⟨"FramedLine$Arrivals", "change", "(II)Z"⟩
abbrev b_A_doubleNext : ByteArray := prog_2_method_3_code
def y_A_doubleNext : MethodName := ⟨"FramedLine$Arrivals", "doubleNext", "()Z"⟩
abbrev b_A_asItComes : ByteArray := prog_2_method_4_code
def y_A_asItComes : MethodName := ⟨"FramedLine$Arrivals", "asItComes", "(II)I"⟩
abbrev b_A_comings : ByteArray := prog_2_method_5_code
def y_A_comings : MethodName := ⟨"FramedLine$Arrivals", "comings", "()I"⟩
abbrev b_A_placeOf : ByteArray := prog_2_method_6_code
def y_A_placeOf : MethodName := ⟨"FramedLine$Arrivals", "placeOf", "(I)I"⟩
abbrev b_D_init : ByteArray := prog_3_method_1_code
def y_D_init : MethodName := ⟨"FramedLine$Decoder", "<init>", "()V"⟩
abbrev b_D_bitBehind : ByteArray := prog_3_method_2_code
def y_D_bitBehind : MethodName := ⟨"FramedLine$Decoder", "bitBehind", "(I)I"⟩
abbrev b_D_takeZero : ByteArray := prog_3_method_3_code
def y_D_takeZero : MethodName := ⟨"FramedLine$Decoder", "takeZero", "()V"⟩
abbrev b_D_takePulse : ByteArray := prog_3_method_4_code
def y_D_takePulse : MethodName := ⟨"FramedLine$Decoder", "takePulse", "(I)V"⟩
abbrev b_D_takeV : ByteArray := prog_3_method_5_code
def y_D_takeV : MethodName := ⟨"FramedLine$Decoder", "takeV", "(I)V"⟩
abbrev b_E_init : ByteArray := prog_4_method_1_code
def y_E_init : MethodName := ⟨"FramedLine$Encoder", "<init>", "()V"⟩
abbrev b_E_symbolBehind : ByteArray := prog_4_method_2_code
def y_E_symbolBehind : MethodName := ⟨"FramedLine$Encoder", "symbolBehind", "(I)I"⟩
abbrev b_E_pulseOfOne : ByteArray := prog_4_method_3_code
def y_E_pulseOfOne : MethodName := ⟨"FramedLine$Encoder", "pulseOfOne", "()I"⟩
abbrev b_E_symbolOfZero : ByteArray := prog_4_method_4_code
def y_E_symbolOfZero : MethodName := ⟨"FramedLine$Encoder", "symbolOfZero", "()I"⟩
abbrev b_N_init : ByteArray := prog_5_method_1_code
def y_N_init : MethodName := ⟨"FramedLine$End", "<init>", "()V"⟩
abbrev b_N_send : ByteArray := prog_5_method_2_code
def y_N_send : MethodName := ⟨"FramedLine$End", "send", "()I"⟩
abbrev b_N_receive : ByteArray := prog_5_method_3_code
def y_N_receive : MethodName := ⟨"FramedLine$End", "receive", "(II)V"⟩
abbrev b_R_init : ByteArray := prog_6_method_1_code
def y_R_init : MethodName := ⟨"FramedLine$Receiver", "<init>", "()V"⟩
abbrev b_R_isAligned : ByteArray := prog_6_method_2_code
def y_R_isAligned : MethodName := ⟨"FramedLine$Receiver", "isAligned", "()Z"⟩
abbrev b_R_byteOf : ByteArray := prog_6_method_3_code
def y_R_byteOf : MethodName := ⟨"FramedLine$Receiver", "byteOf", "(I)I"⟩
abbrev b_R_takeBit : ByteArray := prog_6_method_4_code
def y_R_takeBit : MethodName := ⟨"FramedLine$Receiver", "takeBit", "(I)V"⟩
abbrev b_R_search : ByteArray := prog_6_method_5_code
def y_R_search : MethodName := ⟨"FramedLine$Receiver", "search", "()V"⟩
abbrev b_R_tryWord : ByteArray := prog_6_method_6_code
def y_R_tryWord : MethodName := ⟨"FramedLine$Receiver", "tryWord", "(I)V"⟩
abbrev b_R_align : ByteArray := prog_6_method_7_code
def y_R_align : MethodName := ⟨"FramedLine$Receiver", "align", "()V"⟩
abbrev b_R_lookAtWord : ByteArray := prog_6_method_8_code
def y_R_lookAtWord : MethodName := ⟨"FramedLine$Receiver", "lookAtWord", "()V"⟩
abbrev b_R_complete : ByteArray := prog_6_method_9_code
def y_R_complete : MethodName := ⟨"FramedLine$Receiver", "complete", "()V"⟩
abbrev b_R_wordStands : ByteArray := prog_6_method_10_code
def y_R_wordStands : MethodName := ⟨"FramedLine$Receiver", "wordStands", "()Z"⟩
abbrev b_R_enter : ByteArray := prog_6_method_11_code
def y_R_enter : MethodName := ⟨"FramedLine$Receiver", "enter", "(LFramedLine$State;)V"⟩
abbrev b_O_init : ByteArray := prog_7_method_1_code
def y_O_init : MethodName := ⟨"FramedLine$Rounds", "<init>", "()V"⟩
abbrev b_O_startAnew : ByteArray := prog_7_method_2_code
def y_O_startAnew : MethodName := ⟨"FramedLine$Rounds", "startAnew", "()V"⟩
abbrev b_O_takeFrame : ByteArray := prog_7_method_3_code
def y_O_takeFrame : MethodName := ⟨"FramedLine$Rounds", "takeFrame", "(IZ)V"⟩
abbrev b_O_findNumber : ByteArray := prog_7_method_4_code
def y_O_findNumber : MethodName := ⟨"FramedLine$Rounds", "findNumber", "(Z)V"⟩
abbrev b_O_judgeRoundWord : ByteArray := prog_7_method_5_code
def y_O_judgeRoundWord : MethodName := ⟨"FramedLine$Rounds", "judgeRoundWord", "()V"⟩
abbrev b_O_endHalf : ByteArray := prog_7_method_6_code
def y_O_endHalf : MethodName := ⟨"FramedLine$Rounds", "endHalf", "()V"⟩
abbrev b_O_judgeHalfBefore : ByteArray := prog_7_method_7_code
def y_O_judgeHalfBefore : MethodName := ⟨"FramedLine$Rounds", "judgeHalfBefore", "()V"⟩
abbrev b_O_forgetNumber : ByteArray := prog_7_method_8_code
def y_O_forgetNumber : MethodName := ⟨"FramedLine$Rounds", "forgetNumber", "()V"⟩
abbrev b_S_init : ByteArray := prog_8_method_1_code
def y_S_init : MethodName := ⟨"FramedLine$Sender", "<init>", "()V"⟩
abbrev b_S_exchange : ByteArray := prog_8_method_2_code
def y_S_exchange : MethodName := ⟨"FramedLine$Sender", "exchange", "(II)I"⟩
abbrev b_S_isBetweenFrames : ByteArray := prog_8_method_3_code
def y_S_isBetweenFrames : MethodName := ⟨"FramedLine$Sender", "isBetweenFrames", "()Z"⟩
abbrev b_S_beginFrame : ByteArray := prog_8_method_4_code
def y_S_beginFrame : MethodName := ⟨"FramedLine$Sender", "beginFrame", "(LFramedLine$Receiver;)V"⟩
abbrev b_S_nextBit : ByteArray := prog_8_method_5_code
def y_S_nextBit : MethodName := ⟨"FramedLine$Sender", "nextBit", "()I"⟩
abbrev b_S_evenSlotZero : ByteArray := prog_8_method_6_code
def y_S_evenSlotZero : MethodName := ⟨"FramedLine$Sender", "evenSlotZero", "()I"⟩
abbrev b_S_oddSlotZero : ByteArray := prog_8_method_7_code
def y_S_oddSlotZero : MethodName := ⟨"FramedLine$Sender", "oddSlotZero", "(LFramedLine$Receiver;)I"⟩
abbrev b_S_firstBitOfOdd : ByteArray := prog_8_method_8_code
def y_S_firstBitOfOdd : MethodName := ⟨"FramedLine$Sender", "firstBitOfOdd", "(LFramedLine$Rounds;)I"⟩
abbrev b_F_init : ByteArray := prog_1_method_1_code
def y_F_init : MethodName := ⟨"FramedLine", "<init>", "()V"⟩
abbrev b_F_load : ByteArray := prog_1_method_2_code
def y_F_load : MethodName := ⟨"FramedLine", "load", "(III)I"⟩
abbrev b_F_disturb : ByteArray := prog_1_method_3_code
def y_F_disturb : MethodName := ⟨"FramedLine", "disturb", "(III)I"⟩
abbrev b_F_slip : ByteArray := prog_1_method_4_code
def y_F_slip : MethodName := ⟨"FramedLine", "slip", "(I)Z"⟩
abbrev b_F_pass : ByteArray := prog_1_method_5_code
def y_F_pass : MethodName := ⟨"FramedLine", "pass", "(I)I"⟩
abbrev b_F_symbol : ByteArray := prog_1_method_6_code
def y_F_symbol : MethodName := ⟨"FramedLine", "symbol", "(I)I"⟩
abbrev b_F_aligned : ByteArray := prog_1_method_7_code
def y_F_aligned : MethodName := ⟨"FramedLine", "aligned", "(I)Z"⟩
abbrev b_F_frame : ByteArray := prog_1_method_8_code
def y_F_frame : MethodName := ⟨"FramedLine", "frame", "(I)I"⟩
abbrev b_F_slot : ByteArray := prog_1_method_9_code
def y_F_slot : MethodName := ⟨"FramedLine", "slot", "(II)I"⟩
abbrev b_F_alarm : ByteArray := prog_1_method_10_code
def y_F_alarm : MethodName := ⟨"FramedLine", "alarm", "(I)Z"⟩
abbrev b_F_count : ByteArray := prog_1_method_11_code
def y_F_count : MethodName := ⟨"FramedLine", "count", "(II)I"⟩
abbrev b_F_endOf : ByteArray := prog_1_method_12_code
def y_F_endOf : MethodName := ⟨"FramedLine", "endOf", "(I)LFramedLine$End;"⟩
abbrev b_F_require : ByteArray := prog_1_method_13_code
def y_F_require : MethodName := ⟨"FramedLine", "require", "(Z)V"⟩
abbrev b_F_checkOver : ByteArray := prog_1_method_14_code
def y_F_checkOver : MethodName := ⟨"FramedLine", "checkOver", "(II)I"⟩
abbrev b_F_endsHalf : ByteArray := prog_1_method_15_code
def y_F_endsHalf : MethodName := ⟨"FramedLine", "endsHalf", "(I)Z"⟩
abbrev b_L_load : ByteArray := method_3_code
def y_L_load : MethodName := ⟨"FramedLineLaw", "load", "(LFramedLine;III[J)I"⟩
abbrev b_L_disturb : ByteArray := method_4_code
def y_L_disturb : MethodName := ⟨"FramedLineLaw", "disturb", "(LFramedLine;III[J)I"⟩
abbrev b_L_slip : ByteArray := method_5_code
def y_L_slip : MethodName := ⟨"FramedLineLaw", "slip", "(LFramedLine;I[J)I"⟩
abbrev b_L_pass : ByteArray := method_6_code
def y_L_pass : MethodName := ⟨"FramedLineLaw", "pass", "(LFramedLine;I[J)I"⟩
abbrev b_L_symbol : ByteArray := method_7_code
def y_L_symbol : MethodName := ⟨"FramedLineLaw", "symbol", "(LFramedLine;I[J)I"⟩
abbrev b_L_aligned : ByteArray := method_8_code
def y_L_aligned : MethodName := ⟨"FramedLineLaw", "aligned", "(LFramedLine;I[J)I"⟩
abbrev b_L_frame : ByteArray := method_9_code
def y_L_frame : MethodName := ⟨"FramedLineLaw", "frame", "(LFramedLine;I[J)I"⟩
abbrev b_L_slot : ByteArray := method_10_code
def y_L_slot : MethodName := ⟨"FramedLineLaw", "slot", "(LFramedLine;II[J)I"⟩
abbrev b_L_alarm : ByteArray := method_11_code
def y_L_alarm : MethodName := ⟨"FramedLineLaw", "alarm", "(LFramedLine;I[J)I"⟩
abbrev b_L_count : ByteArray := method_12_code
def y_L_count : MethodName := ⟨"FramedLineLaw", "count", "(LFramedLine;II[J)I"⟩
abbrev b_L_law : ByteArray := code
abbrev b_M_init : ByteArray := prog_11_method_1_code
def y_M_init : MethodName := ⟨"FramedLineModel", "<init>", "()V"⟩
abbrev b_M_thrown : ByteArray := prog_11_method_2_code
def y_M_thrown : MethodName := ⟨"FramedLineModel", "thrown", "()I"⟩
abbrev b_M_within : ByteArray := prog_11_method_3_code
def y_M_within : MethodName := ⟨"FramedLineModel", "within", "(III)Z"⟩
abbrev b_M_isEnd : ByteArray := prog_11_method_4_code
def y_M_isEnd : MethodName := ⟨"FramedLineModel", "isEnd", "(I)Z"⟩
abbrev b_M_with : ByteArray := prog_11_method_5_code
def y_M_with : MethodName := ⟨"FramedLineModel", "with", "(II)I"⟩
abbrev b_M_mark : ByteArray := prog_11_method_6_code
def y_M_mark : MethodName := ⟨"FramedLineModel", "mark", "(II)I"⟩
abbrev b_M_beginFrame : ByteArray := prog_11_method_7_code
def y_M_beginFrame : MethodName := ⟨"FramedLineModel", "beginFrame", "(I)V"⟩
abbrev b_M_nextBit : ByteArray := prog_11_method_8_code
def y_M_nextBit : MethodName := ⟨"FramedLineModel", "nextBit", "(I)I"⟩
abbrev b_M_turned : ByteArray := prog_11_method_9_code
def y_M_turned : MethodName := ⟨"FramedLineModel", "turned", "(I)I"⟩
abbrev b_M_send : ByteArray := prog_11_method_10_code
def y_M_send : MethodName := ⟨"FramedLineModel", "send", "(I)I"⟩
abbrev b_M_said : ByteArray := prog_11_method_11_code
def y_M_said : MethodName := ⟨"FramedLineModel", "said", "(II)I"⟩
abbrev b_M_coming : ByteArray := prog_11_method_12_code
def y_M_coming : MethodName := ⟨"FramedLineModel", "coming", "(II)I"⟩
abbrev b_M_fault : ByteArray := prog_11_method_13_code
def y_M_fault : MethodName := ⟨"FramedLineModel", "fault", "(IZI)V"⟩
abbrev b_M_take : ByteArray := prog_11_method_14_code
def y_M_take : MethodName := ⟨"FramedLineModel", "take", "(II)V"⟩
abbrev b_M_search : ByteArray := prog_11_method_15_code
def y_M_search : MethodName := ⟨"FramedLineModel", "search", "(I)V"⟩
abbrev b_M_forget : ByteArray := prog_11_method_16_code
def y_M_forget : MethodName := ⟨"FramedLineModel", "forget", "(I)V"⟩
abbrev b_M_isWord : ByteArray := prog_11_method_17_code
def y_M_isWord : MethodName := ⟨"FramedLineModel", "isWord", "(I)Z"⟩
abbrev b_M_make : ByteArray := prog_11_method_18_code
def y_M_make : MethodName := ⟨"FramedLineModel", "make", "(II)V"⟩
abbrev b_M_frameBit : ByteArray := prog_11_method_19_code
def y_M_frameBit : MethodName := ⟨"FramedLineModel", "frameBit", "(I)V"⟩
abbrev b_M_complete : ByteArray := prog_11_method_20_code
def y_M_complete : MethodName := ⟨"FramedLineModel", "complete", "(I)V"⟩
abbrev b_M_halves : ByteArray := prog_11_method_21_code
def y_M_halves : MethodName := ⟨"FramedLineModel", "halves", "(III)V"⟩
abbrev b_M_load : ByteArray := prog_11_method_22_code
def y_M_load : MethodName := ⟨"FramedLineModel", "load", "(III)I"⟩
abbrev b_M_disturb : ByteArray := prog_11_method_23_code
def y_M_disturb : MethodName := ⟨"FramedLineModel", "disturb", "(III)I"⟩
abbrev b_M_slip : ByteArray := prog_11_method_24_code
def y_M_slip : MethodName := ⟨"FramedLineModel", "slip", "(I)Z"⟩
abbrev b_M_pass : ByteArray := prog_11_method_25_code
def y_M_pass : MethodName := ⟨"FramedLineModel", "pass", "(I)I"⟩
abbrev b_M_arrive : ByteArray := prog_11_method_26_code
def y_M_arrive : MethodName := ⟨"FramedLineModel", "arrive", "(II)V"⟩
abbrev b_M_symbol : ByteArray := prog_11_method_27_code
def y_M_symbol : MethodName := ⟨"FramedLineModel", "symbol", "(I)I"⟩
abbrev b_M_aligned : ByteArray := prog_11_method_28_code
def y_M_aligned : MethodName := ⟨"FramedLineModel", "aligned", "(I)Z"⟩
abbrev b_M_frame : ByteArray := prog_11_method_29_code
def y_M_frame : MethodName := ⟨"FramedLineModel", "frame", "(I)I"⟩
abbrev b_M_slot : ByteArray := prog_11_method_30_code
def y_M_slot : MethodName := ⟨"FramedLineModel", "slot", "(II)I"⟩
abbrev b_M_alarm : ByteArray := prog_11_method_31_code
def y_M_alarm : MethodName := ⟨"FramedLineModel", "alarm", "(I)Z"⟩
abbrev b_M_count : ByteArray := prog_11_method_32_code
def y_M_count : MethodName := ⟨"FramedLineModel", "count", "(II)I"⟩
theorem cl_A : gCl 0 "FramedLine$Arrivals" T_A 4 := ⟨rfl, by
  show ∀ w ∈ (List.range 4).map (u_lay "FramedLine$Arrivals" T_A), w ∈ GW
  intro w hw
  obtain ⟨k, hk, rfl⟩ := List.mem_map.mp hw
  have hk := List.mem_range.mp hk
  match k, hk with
  | 0, _ => exact GW_at 133 (by decide +kernel) (by decide +kernel)
  | 1, _ => exact GW_at 135 (by decide +kernel) (by decide +kernel)
  | 2, _ => exact GW_at 137 (by decide +kernel) (by decide +kernel)
  | 3, _ => exact GW_at 139 (by decide +kernel) (by decide +kernel)⟩
theorem ct_A : gCt "FramedLine$Arrivals" T_A 4 t_A := ⟨by decide +kernel, by decide +kernel⟩
theorem cl_D : gCl 1 "FramedLine$Decoder" T_D 7 := ⟨rfl, by
  show ∀ w ∈ (List.range 7).map (u_lay "FramedLine$Decoder" T_D), w ∈ GW
  intro w hw
  obtain ⟨k, hk, rfl⟩ := List.mem_map.mp hw
  have hk := List.mem_range.mp hk
  match k, hk with
  | 0, _ => exact GW_at 157 (by decide +kernel) (by decide +kernel)
  | 1, _ => exact GW_at 159 (by decide +kernel) (by decide +kernel)
  | 2, _ => exact GW_at 161 (by decide +kernel) (by decide +kernel)
  | 3, _ => exact GW_at 163 (by decide +kernel) (by decide +kernel)
  | 4, _ => exact GW_at 165 (by decide +kernel) (by decide +kernel)
  | 5, _ => exact GW_at 167 (by decide +kernel) (by decide +kernel)
  | 6, _ => exact GW_at 169 (by decide +kernel) (by decide +kernel)⟩
theorem ct_D : gCt "FramedLine$Decoder" T_D 7 t_D := ⟨by decide +kernel, by decide +kernel⟩
theorem cl_E : gCl 2 "FramedLine$Encoder" T_E 6 := ⟨rfl, by
  show ∀ w ∈ (List.range 6).map (u_lay "FramedLine$Encoder" T_E), w ∈ GW
  intro w hw
  obtain ⟨k, hk, rfl⟩ := List.mem_map.mp hw
  have hk := List.mem_range.mp hk
  match k, hk with
  | 0, _ => exact GW_at 109 (by decide +kernel) (by decide +kernel)
  | 1, _ => exact GW_at 111 (by decide +kernel) (by decide +kernel)
  | 2, _ => exact GW_at 113 (by decide +kernel) (by decide +kernel)
  | 3, _ => exact GW_at 115 (by decide +kernel) (by decide +kernel)
  | 4, _ => exact GW_at 117 (by decide +kernel) (by decide +kernel)
  | 5, _ => exact GW_at 119 (by decide +kernel) (by decide +kernel)⟩
theorem ct_E : gCt "FramedLine$Encoder" T_E 6 t_E := ⟨by decide +kernel, by decide +kernel⟩
theorem cl_N : gCl 3 "FramedLine$End" T_N 5 := ⟨rfl, by
  show ∀ w ∈ (List.range 5).map (u_lay "FramedLine$End" T_N), w ∈ GW
  intro w hw
  obtain ⟨k, hk, rfl⟩ := List.mem_map.mp hw
  have hk := List.mem_range.mp hk
  match k, hk with
  | 0, _ => exact GW_at 276 (by decide +kernel) (by decide +kernel)
  | 1, _ => exact GW_at 278 (by decide +kernel) (by decide +kernel)
  | 2, _ => exact GW_at 280 (by decide +kernel) (by decide +kernel)
  | 3, _ => exact GW_at 282 (by decide +kernel) (by decide +kernel)
  | 4, _ => exact GW_at 284 (by decide +kernel) (by decide +kernel)⟩
theorem ct_N : gCt "FramedLine$End" T_N 5 t_N := ⟨by decide +kernel, by decide +kernel⟩
theorem cl_R : gCl 4 "FramedLine$Receiver" T_R 10 := ⟨rfl, by
  show ∀ w ∈ (List.range 10).map (u_lay "FramedLine$Receiver" T_R), w ∈ GW
  intro w hw
  obtain ⟨k, hk, rfl⟩ := List.mem_map.mp hw
  have hk := List.mem_range.mp hk
  match k, hk with
  | 0, _ => exact GW_at 246 (by decide +kernel) (by decide +kernel)
  | 1, _ => exact GW_at 248 (by decide +kernel) (by decide +kernel)
  | 2, _ => exact GW_at 250 (by decide +kernel) (by decide +kernel)
  | 3, _ => exact GW_at 252 (by decide +kernel) (by decide +kernel)
  | 4, _ => exact GW_at 254 (by decide +kernel) (by decide +kernel)
  | 5, _ => exact GW_at 256 (by decide +kernel) (by decide +kernel)
  | 6, _ => exact GW_at 258 (by decide +kernel) (by decide +kernel)
  | 7, _ => exact GW_at 260 (by decide +kernel) (by decide +kernel)
  | 8, _ => exact GW_at 262 (by decide +kernel) (by decide +kernel)
  | 9, _ => exact GW_at 264 (by decide +kernel) (by decide +kernel)⟩
theorem ct_R : gCt "FramedLine$Receiver" T_R 10 t_R := ⟨by decide +kernel, by decide +kernel⟩
theorem cl_O : gCl 5 "FramedLine$Rounds" T_O 13 := ⟨rfl, by
  show ∀ w ∈ (List.range 13).map (u_lay "FramedLine$Rounds" T_O), w ∈ GW
  intro w hw
  obtain ⟨k, hk, rfl⟩ := List.mem_map.mp hw
  have hk := List.mem_range.mp hk
  match k, hk with
  | 0, _ => exact GW_at 202 (by decide +kernel) (by decide +kernel)
  | 1, _ => exact GW_at 204 (by decide +kernel) (by decide +kernel)
  | 2, _ => exact GW_at 206 (by decide +kernel) (by decide +kernel)
  | 3, _ => exact GW_at 208 (by decide +kernel) (by decide +kernel)
  | 4, _ => exact GW_at 210 (by decide +kernel) (by decide +kernel)
  | 5, _ => exact GW_at 212 (by decide +kernel) (by decide +kernel)
  | 6, _ => exact GW_at 214 (by decide +kernel) (by decide +kernel)
  | 7, _ => exact GW_at 216 (by decide +kernel) (by decide +kernel)
  | 8, _ => exact GW_at 218 (by decide +kernel) (by decide +kernel)
  | 9, _ => exact GW_at 220 (by decide +kernel) (by decide +kernel)
  | 10, _ => exact GW_at 222 (by decide +kernel) (by decide +kernel)
  | 11, _ => exact GW_at 224 (by decide +kernel) (by decide +kernel)
  | 12, _ => exact GW_at 226 (by decide +kernel) (by decide +kernel)⟩
theorem ct_O : gCt "FramedLine$Rounds" T_O 13 t_O := ⟨by decide +kernel, by decide +kernel⟩
theorem cl_S : gCl 6 "FramedLine$Sender" T_S 6 := ⟨rfl, by
  show ∀ w ∈ (List.range 6).map (u_lay "FramedLine$Sender" T_S), w ∈ GW
  intro w hw
  obtain ⟨k, hk, rfl⟩ := List.mem_map.mp hw
  have hk := List.mem_range.mp hk
  match k, hk with
  | 0, _ => exact GW_at 83 (by decide +kernel) (by decide +kernel)
  | 1, _ => exact GW_at 85 (by decide +kernel) (by decide +kernel)
  | 2, _ => exact GW_at 87 (by decide +kernel) (by decide +kernel)
  | 3, _ => exact GW_at 89 (by decide +kernel) (by decide +kernel)
  | 4, _ => exact GW_at 91 (by decide +kernel) (by decide +kernel)
  | 5, _ => exact GW_at 93 (by decide +kernel) (by decide +kernel)⟩
theorem ct_S : gCt "FramedLine$Sender" T_S 6 t_S := ⟨by decide +kernel, by decide +kernel⟩
theorem cl_F : gCl 7 "FramedLine" T_F 3 := ⟨rfl, by
  show ∀ w ∈ (List.range 3).map (u_lay "FramedLine" T_F), w ∈ GW
  intro w hw
  obtain ⟨k, hk, rfl⟩ := List.mem_map.mp hw
  have hk := List.mem_range.mp hk
  match k, hk with
  | 0, _ => exact GW_at 290 (by decide +kernel) (by decide +kernel)
  | 1, _ => exact GW_at 292 (by decide +kernel) (by decide +kernel)
  | 2, _ => exact GW_at 294 (by decide +kernel) (by decide +kernel)⟩
theorem ct_F : gCt "FramedLine" T_F 3 t_F := ⟨by decide +kernel, by decide +kernel⟩
theorem cl_M : gCl 8 "FramedLineModel" T_M 44 := ⟨rfl, by
  show ∀ w ∈ (List.range 44).map (u_lay "FramedLineModel" T_M), w ∈ GW
  intro w hw
  obtain ⟨k, hk, rfl⟩ := List.mem_map.mp hw
  have hk := List.mem_range.mp hk
  match k, hk with
  | 0, _ => exact GW_at 678 (by decide +kernel) (by decide +kernel)
  | 1, _ => exact GW_at 680 (by decide +kernel) (by decide +kernel)
  | 2, _ => exact GW_at 682 (by decide +kernel) (by decide +kernel)
  | 3, _ => exact GW_at 684 (by decide +kernel) (by decide +kernel)
  | 4, _ => exact GW_at 686 (by decide +kernel) (by decide +kernel)
  | 5, _ => exact GW_at 688 (by decide +kernel) (by decide +kernel)
  | 6, _ => exact GW_at 690 (by decide +kernel) (by decide +kernel)
  | 7, _ => exact GW_at 692 (by decide +kernel) (by decide +kernel)
  | 8, _ => exact GW_at 694 (by decide +kernel) (by decide +kernel)
  | 9, _ => exact GW_at 696 (by decide +kernel) (by decide +kernel)
  | 10, _ => exact GW_at 698 (by decide +kernel) (by decide +kernel)
  | 11, _ => exact GW_at 700 (by decide +kernel) (by decide +kernel)
  | 12, _ => exact GW_at 702 (by decide +kernel) (by decide +kernel)
  | 13, _ => exact GW_at 704 (by decide +kernel) (by decide +kernel)
  | 14, _ => exact GW_at 706 (by decide +kernel) (by decide +kernel)
  | 15, _ => exact GW_at 708 (by decide +kernel) (by decide +kernel)
  | 16, _ => exact GW_at 710 (by decide +kernel) (by decide +kernel)
  | 17, _ => exact GW_at 712 (by decide +kernel) (by decide +kernel)
  | 18, _ => exact GW_at 714 (by decide +kernel) (by decide +kernel)
  | 19, _ => exact GW_at 716 (by decide +kernel) (by decide +kernel)
  | 20, _ => exact GW_at 718 (by decide +kernel) (by decide +kernel)
  | 21, _ => exact GW_at 720 (by decide +kernel) (by decide +kernel)
  | 22, _ => exact GW_at 722 (by decide +kernel) (by decide +kernel)
  | 23, _ => exact GW_at 724 (by decide +kernel) (by decide +kernel)
  | 24, _ => exact GW_at 726 (by decide +kernel) (by decide +kernel)
  | 25, _ => exact GW_at 728 (by decide +kernel) (by decide +kernel)
  | 26, _ => exact GW_at 730 (by decide +kernel) (by decide +kernel)
  | 27, _ => exact GW_at 732 (by decide +kernel) (by decide +kernel)
  | 28, _ => exact GW_at 734 (by decide +kernel) (by decide +kernel)
  | 29, _ => exact GW_at 736 (by decide +kernel) (by decide +kernel)
  | 30, _ => exact GW_at 738 (by decide +kernel) (by decide +kernel)
  | 31, _ => exact GW_at 740 (by decide +kernel) (by decide +kernel)
  | 32, _ => exact GW_at 742 (by decide +kernel) (by decide +kernel)
  | 33, _ => exact GW_at 744 (by decide +kernel) (by decide +kernel)
  | 34, _ => exact GW_at 746 (by decide +kernel) (by decide +kernel)
  | 35, _ => exact GW_at 748 (by decide +kernel) (by decide +kernel)
  | 36, _ => exact GW_at 750 (by decide +kernel) (by decide +kernel)
  | 37, _ => exact GW_at 752 (by decide +kernel) (by decide +kernel)
  | 38, _ => exact GW_at 754 (by decide +kernel) (by decide +kernel)
  | 39, _ => exact GW_at 756 (by decide +kernel) (by decide +kernel)
  | 40, _ => exact GW_at 758 (by decide +kernel) (by decide +kernel)
  | 41, _ => exact GW_at 760 (by decide +kernel) (by decide +kernel)
  | 42, _ => exact GW_at 762 (by decide +kernel) (by decide +kernel)
  | 43, _ => exact GW_at 764 (by decide +kernel) (by decide +kernel)
  | j + 44, h => exact absurd h (by omega)⟩
theorem ct_M : gCt "FramedLineModel" T_M 44 t_M := ⟨by decide +kernel, by decide +kernel⟩
