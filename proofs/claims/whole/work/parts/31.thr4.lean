section XR4
variable {p : Program} {l : Launch} {e : Env} {R : Room} {s : State} {m : MethodId} {args : Array Value} {below : List Frame} {meth : Method} {c : Code} {H : Heap} {locs : List Loc} {Q : State → Prop}
variable {cc : ByteArray} {pc : Nat} {ls : Array Slot} {rest : List Value} {P : gP} {G : Mem} {own : String} {nL : Nat}
abbrev vI : Int32 → Option Value := fun r => some (.int r)
abbrev vV : Int32 → Option Value := fun _ => none
abbrev vR (P : gP) : Int32 → Option Value := fun r => some (.ref (gad P (tn r)))
theorem x_iret {X : Int32 × Int32 × Mem} {v : Int32} (E : gE p s m args meth c P own cc nL (some .int)) (h : gH P s G H locs) (hX : X = (0, v, G)) (hdg : decode cc pc = .ok (.ireturn, 1)) : W p l e R s m args below meth c H locs 0 0 (xMQ below vI P X args s) (F0 m pc ls [.int v]) := by
  subst hX
  exact x_ret rfl rfl h (W.iret E.1 E.2.1 E.2.2.1 (fun t ht _ => ⟨rfl, ht⟩) h.2.2.2 hdg E.2.2.2.2.2.2.1)
theorem x_zret {X : Int32 × Int32 × Mem} {v : Int32} (E : gE p s m args meth c P own cc nL (some .boolean)) (h : gH P s G H locs) (hX : X = (0, v, G)) (hz : isB v) (hdg : decode cc pc = .ok (.ireturn, 1)) : W p l e R s m args below meth c H locs 0 0 (xMQ below vI P X args s) (F0 m pc ls [.int v]) := by
  subst hX
  exact x_ret rfl rfl h (W.zret E.1 E.2.1 E.2.2.1 hz.1 (fun t ht _ => ⟨rfl, ht⟩) h.2.2.2 hdg E.2.2.2.2.2.2.1)
theorem x_vret {X : Int32 × Int32 × Mem} (E : gE p s m args meth c P own cc nL none) (h : gH P s G H locs) (hX : X = (0, 0, G)) (hdg : decode cc pc = .ok (.return_, 1)) : W p l e R s m args below meth c H locs 0 0 (xMQ below vV P X args s) (F0 m pc ls []) := by
  subst hX
  exact x_ret rfl rfl h (W.vret E.1 E.2.1 E.2.2.1 (fun t ht _ => ⟨rfl, ht⟩) h.2.2.2 hdg E.2.2.2.2.2.2.1)
theorem x_aret {X : Int32 × Int32 × Mem} {r : Int32} {a : Nat} {C : String} (E : gE p s m args meth c P own cc nL (some (.object C))) (h : gH P s G H locs) (hX : X = (0, r, G)) (hr : tn r = a) (hdg : decode cc pc = .ok (.areturn, 1)) : W p l e R s m args below meth c H locs 0 0 (xMQ below (vR P) P X args s) (F0 m pc ls [.ref (gad P a)]) := by
  subst hX
  subst hr
  exact x_ret rfl rfl h (W.aret E.1 E.2.1 E.2.2.1 (Or.inl ⟨_, rfl⟩) (Or.inr ⟨_, rfl⟩) (fun t ht _ => ⟨rfl, ht⟩) h.2.2.2 hdg E.2.2.2.2.2.2.1)
theorem x_on {X Y : Int32 × Int32 × Mem} {val : Int32 → Option Value} {q : Addr} {ce : Cell} {ret : Option FieldType} (E : gE p s m args meth c P own cc nL ret) (hno : c.exceptionTable.isEmpty = true) (h0 : Y.1 ≠ 0) (hX : X = (Y.1, 0, Y.2.2)) (h : gH P s Y.2.2 H locs) (hce : H[q]? = some ce) (hcv : ce.vm = .none) (hcl : s.vm.findClass (xE Y.1) = some ce.cls) :
    xW p l e R s m args below meth c H locs 1 6 (xMQ below val P X args s) (F0 m pc ls rest) q := by
  subst hX
  exact x_out hno E.2.2.2.2.2.2.1 h0 rfl rfl h hce hcv hcl
end XR4
theorem gE_ofX {p : Program} {l : Launch} {e : Env} {s : State} {m : MethodId} {args : Array Value} {below : List Frame} {meth : Method} {c : Code} {s₁ : State} {y : MethodName} {cc : ByteArray} {maxL : Nat} {ret : Option FieldType} {rm : Room} {P : gP} {G : Mem}
    (B : BodyLoose p l y (headSpec (Cond.code y cc maxL ret :: GW) rm) cc maxL ret e s m args below meth c s₁) (hml : c.maxLocals = maxL) (hpre : gPreX P G s) : (gE p s m args meth c P y.cls cc maxL ret ∧ gH P s G s.heap []) ∧ gXs P s ∧ c.exceptionTable.isEmpty = true :=
  ⟨gE_of B hml hpre.1, hpre.2, B.noHandlers (atoms_spec (ws := Cond.code y cc maxL ret :: GW) B.pre _ List.mem_cons_self)⟩
theorem xOk_a : xOk 127 "java/lang/IllegalArgumentException" := by
  have key : ∀ w ∈ Bundle.ownAtoms "FramedLine" 127 "java/lang/IllegalArgumentException" ["java/lang/RuntimeException", "java/lang/Exception"], (w ∈ lw_tbl ∧ goodWord w = true) ∨ (w ∈ lw_tbl ∧ xkind w = true) ∨ w = .laysStatic xT "UNASSIGNED_STACK" "[Ljava/lang/StackTraceElement;" ∨ w = .laysStatic xT "SUPPRESSED_SENTINEL" "Ljava/util/List;" ∨ w = .isRef (.static xT "UNASSIGNED_STACK" "[Ljava/lang/StackTraceElement;") ∨ w = .isRef (.static xT "SUPPRESSED_SENTINEL" "Ljava/util/List;") := by decide +kernel
  intro w hw
  rcases key w hw with h | h | h
  · exact Or.inl (List.mem_filter.mpr h)
  · exact Or.inr (Or.inl (List.mem_filter.mpr h))
  · exact Or.inr (Or.inr h)
theorem xOk_s : xOk 55 "java/lang/IllegalStateException" := by
  have key : ∀ w ∈ Bundle.ownAtoms "FramedLine" 55 "java/lang/IllegalStateException" ["java/lang/RuntimeException", "java/lang/Exception"], (w ∈ lw_tbl ∧ goodWord w = true) ∨ (w ∈ lw_tbl ∧ xkind w = true) ∨ w = .laysStatic xT "UNASSIGNED_STACK" "[Ljava/lang/StackTraceElement;" ∨ w = .laysStatic xT "SUPPRESSED_SENTINEL" "Ljava/util/List;" ∨ w = .isRef (.static xT "UNASSIGNED_STACK" "[Ljava/lang/StackTraceElement;") ∨ w = .isRef (.static xT "SUPPRESSED_SENTINEL" "Ljava/util/List;") := by decide +kernel
  intro w hw
  rcases key w hw with h | h | h
  · exact Or.inl (List.mem_filter.mpr h)
  · exact Or.inr (Or.inl (List.mem_filter.mpr h))
  · exact Or.inr (Or.inr h)
theorem tb5_out {x : Int32} (h0 : ¬ x = 0) (h1 : ¬ x = 1) (h2 : ¬ x = 2) (h3 : ¬ x = 3) (h4 : ¬ x = 4) : x.toInt < 0 ∨ 4 < x.toInt := by
  have e : ∀ k : Int32, x.toInt = k.toInt → x = k := fun k hk => Int32.toInt_inj.mp hk
  have n0 : ¬ x.toInt = 0 := fun h => h0 (e 0 h)
  have n1 : ¬ x.toInt = 1 := fun h => h1 (e 1 h)
  have n2 : ¬ x.toInt = 2 := fun h => h2 (e 2 h)
  have n3 : ¬ x.toInt = 3 := fun h => h3 (e 3 h)
  have n4 : ¬ x.toInt = 4 := fun h => h4 (e 4 h)
  omega
