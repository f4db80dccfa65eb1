/-! THE LAW. What stands at its loop's head: the two systems' memory, and out's cell. -/
def R_law : String := "FramedLineLaw"
def lH (P : gP) (s : State) (o : Nat) (cL : ClassId) (v : Int64) (G : Mem) (H : Heap) : Prop := gH P s G H [] ∧ oV cL o v H
def lE (p : Program) (s : State) (m : MethodId) (meth : Method) (c : Code) (P : gP) (b L : Nat) (xs : Nat → Int32) (o : Nat) (cL : ClassId) : Prop :=
  gE p s m #[Value.ref b] meth c P "FramedLineLaw" code 7 ret ∧ gXs P s ∧ ArrOfT s cL .long ∧ ¬ gA P o ∧ (∀ q, hA P o q → s.heap.size ≤ q) ∧ va_X b L xs s s.heap ∧ b < s.heap.size ∧ L ≤ 2048
/-- the locals -/
abbrev lL (P : gP) (b o : Nat) (i : Int32) : List (Nat × Value) := [(0, .ref b), (1, .ref (gad P 0)), (2, .ref (gad P 21)), (3, .ref o), (4, .int i)]
section LR
variable {p : Program} {l : Launch} {e : Env} {R : Room} {s : State} {m : MethodId} {below : List Frame} {meth : Method} {c : Code} {H : Heap} {cells slots : Nat} {Q : State → Prop}
variable {pc : Nat} {ls : Array Slot} {rest : List Value} {P : gP} {G : Mem} {b L o : Nat} {xs : Nat → Int32} {cL : ClassId} {v : Int64} {lv : List (Nat × Value)} {j : Nat}
theorem l_arg {n : Int} (t : Nat) {i : Int32} (E : lE p s m meth c P b L xs o cL) (h : lH P s o cL v G H) (hl : lv_has ls 7 lv) (h0 : ∃ q : Nat, lv[q]? = some (0, Value.ref b)) (h4 : ∃ q : Nat, lv[q]? = some (4, Value.int i)) (hi : i = nI (4 * j)) (ht : 4 * j + t < L) (hv : Int32.ofInt n = nI t)
    (d0 : decode code pc = .ok (.aload_n 0, 1)) (d1 : decode code (pc + 1) = .ok (.iload 4, 2)) (d2 : decode code (pc + 3) = .ok (.iconst n, 1)) (d3 : decode code (pc + 4) = .ok (.iadd, 1)) (d4 : decode code (pc + 5) = .ok (.iaload, 1))
    (kk : W p l e R s m #[Value.ref b] below meth c H [] cells slots Q (F0 m (pc + 6) ls (.int (xs (4 * j + t)) :: rest))) : W p l e R s m #[Value.ref b] below meth c H [] cells slots Q (F0 m pc ls rest) := by
  obtain ⟨q0, h0⟩ := h0
  obtain ⟨q4, h4⟩ := h4
  refine lv_aload_n E.1.1 E.1.2.1 d0 rfl (lv_at hl q0 h0) ?_
  refine lv_iload E.1.1 E.1.2.1 d1 (lv_at hl q4 h4) ?_
  refine lv_iconst (v := nI t) E.1.1 E.1.2.1 d2 hv ?_
  refine lv_iadd E.1.1 E.1.2.1 d3 ?_
  have hb := E.2.2.2.2.2.2.1
  have hL := E.2.2.2.2.2.2.2
  have hz : i + nI t = nI (4 * j + t) := by rw [hi, nI_add]
  rw [hz]
  refine va_sld (A := gA P) E.1.1 E.1.2.1 E.2.2.2.2.2.1 hb (fun h9 => absurd (E.2.2.2.2.1 b (Or.inl h9)) (by omega)) h.1.2 (i := nI (4 * j + t)) (vp_in_nI ht (by omega)) d4 ?_
  rw [nI_clamp (by omega)]
  exact kk
theorem l_end {As : Array Value} {X : Int32 × Mem} {post : Int32 → Mem → Prop} {st0 : List Value} (E : lE p s m meth c P b L xs o cL) (h : lH P s o cL v G H) (hp : ∀ r u, post r u → X = (r, u)) (hr : va_Run p l e R s m #[Value.ref b] below meth c H [] cells slots 0 0 (F0 m pc ls st0) rest (va_Qi post (fun u t => va_P (gDD P) vwCl (gw P u) t.heap) (gA P) As) (gA P))
    (kk : ∀ (H1 : Heap), lH P s o cL v X.2 H1 → W p l e R s m #[Value.ref b] below meth c H1 [] cells slots Q (F0 m (pc + 3) ls (.int X.1 :: rest))) : W p l e R s m #[Value.ref b] below meth c H [] cells slots Q (F0 m pc ls st0) := by
  intro T0 hT0 X0
  obtain ⟨r, st9, t, T', L9, hst9, X', hL9, e2, -, ⟨⟨r1, u, h1, h2, h3⟩, q4, q5⟩, go⟩ := hr T0 hT0 X0
  cases h1
  have hX := hp _ _ h2
  subst hX
  rw [hst9] at q4 q5
  have hnew : ∀ q, gA P q → s.heap.size ≤ q := fun q hq => E.2.2.2.2.1 q (Or.inl hq)
  obtain ⟨t', a1, b1⟩ := kk T'.heap ⟨⟨by rw [e2]; exact h3, Nat.le_trans h.1.2.1 (by rw [e2]; exact q4), fun q h8 h9 => by
      rw [e2, q5 q (Nat.lt_of_lt_of_le h8 h.1.2.1) h9]
      exact h.1.2.2.1 q h8 h9, fun _ h9 => by cases h9⟩, by
      show T'.heap[o]? = _
      rw [e2, q5 o (Array.getElem?_eq_some_iff.mp h.2).1 E.2.2.2.1]
      exact h.2⟩ T' rfl (Stand.forget (locs := []) X' (fun z hz => hnew _ (hL9 z hz)))
  exact ⟨t', go _ a1, b1⟩
theorem l_callVi {y : MethodName} {cy : ByteArray} {my n idx : Nat} {ry : Option FieldType} {rm : Room} {st0 As : List Value} {X : Int32 × Mem} {c0 ci N : Nat} {C : String} {T : u_T} {fl : (Nat → Int32) → List Value} (E : lE p s m meth c P b L xs o cL) (h : lH P s o cL v G H) (hl : lv_has ls 7 lv) (hM : gMi l y cy my ry rm (.ref (gad P c0) :: As) P G X) (L9 : gLV "FramedLineLaw" C idx y cy my ry n) (hc : c0 < 64 ∧ ∀ g, gc P c0 g = .inr (ci, fl g)) (hcl : gCl ci C T N)
    (hF : rm.frames + 1 ≤ R.frames) (hL : 8 + (my + 11) + rm.locals ≤ R.locals) (hCe : cells ≤ R.cells) (hSl : slots ≤ R.slots) (hroom : (rest.map fun v => v.category).sum ≤ 8) (hc0 : rm.cells = 0) (hs0 : rm.slots = 0) (hn : As.length = n) (hst : st0 = As.reverse ++ .ref (gad P c0) :: rest) (hdg : decode code pc = .ok (.invokevirtual idx, 3))
    (kk : ∀ (H1 : Heap), lH P s o cL v X.2 H1 → W p l e R s m #[Value.ref b] below meth c H1 [] cells slots Q (F0 m (pc + 3) ls (.int X.1 :: rest))) : W p l e R s m #[Value.ref b] below meth c H [] cells slots Q (F0 m pc ls st0) :=
  l_end E h (fun _ _ h => h) (va_runV ⟨E.1.1, E.1.2.1, E.1.2.2.2.1, E.1.2.2.2.2.1, E.1.2.2.2.2.2.1⟩ hM ⟨g_cb E.1.2.2.2.2.2.1 L9.1 (E.1.2.2.2.2.2.1 _ L9.2.1) hc0 hs0 ⟨hF, hL⟩, E.1.2.2.2.2.2.1 _ L9.2.2.1, E.1.2.2.2.2.2.1 _ L9.2.2.2⟩ (g_preV E.1 h.1 hc hcl) rfl hn hl.1 hst (lv_room hroom) hdg ⟨hCe, hSl⟩) kk
theorem l_callVz {y : MethodName} {cy : ByteArray} {my n idx : Nat} {ry : Option FieldType} {rm : Room} {st0 As : List Value} {X : Int32 × Mem} {c0 ci N : Nat} {C : String} {T : u_T} {fl : (Nat → Int32) → List Value} (E : lE p s m meth c P b L xs o cL) (h : lH P s o cL v G H) (hl : lv_has ls 7 lv) (hM : gMz l y cy my ry rm (.ref (gad P c0) :: As) P G X) (L9 : gLV "FramedLineLaw" C idx y cy my ry n) (hc : c0 < 64 ∧ ∀ g, gc P c0 g = .inr (ci, fl g)) (hcl : gCl ci C T N)
    (hF : rm.frames + 1 ≤ R.frames) (hL : 8 + (my + 11) + rm.locals ≤ R.locals) (hCe : cells ≤ R.cells) (hSl : slots ≤ R.slots) (hroom : (rest.map fun v => v.category).sum ≤ 8) (hc0 : rm.cells = 0) (hs0 : rm.slots = 0) (hn : As.length = n) (hst : st0 = As.reverse ++ .ref (gad P c0) :: rest) (hdg : decode code pc = .ok (.invokevirtual idx, 3))
    (kk : ∀ (H1 : Heap), lH P s o cL v X.2 H1 → W p l e R s m #[Value.ref b] below meth c H1 [] cells slots Q (F0 m (pc + 3) ls (.int X.1 :: rest))) : W p l e R s m #[Value.ref b] below meth c H [] cells slots Q (F0 m pc ls st0) :=
  l_end E h (fun _ _ h => h.1) (va_runV ⟨E.1.1, E.1.2.1, E.1.2.2.2.1, E.1.2.2.2.2.1, E.1.2.2.2.2.2.1⟩ hM ⟨g_cb E.1.2.2.2.2.2.1 L9.1 (E.1.2.2.2.2.2.1 _ L9.2.1) hc0 hs0 ⟨hF, hL⟩, E.1.2.2.2.2.2.1 _ L9.2.2.1, E.1.2.2.2.2.2.1 _ L9.2.2.2⟩ (g_preV E.1 h.1 hc hcl) rfl hn hl.1 hst (lv_room hroom) hdg ⟨hCe, hSl⟩) kk
theorem l_callH {y : MethodName} {cy : ByteArray} {my n idx : Nat} {ry : Option FieldType} {hh : List (Nat × Nat × Nat × Nat)} {rm : Room} {st0 As : List Value} {X : Int32 × Int32 × Mem} {ov : Int32 → Int64} (E : lE p s m meth c P b L xs o cL) (h : lH P s o cL v G H) (hl : lv_has ls 7 lv) (hM : hMet l y cy my ry hh rm As P o cL v ov G X) (L9 : gLH "FramedLineLaw" idx y cy my ry hh n)
    (hF : rm.frames + 1 ≤ R.frames) (hL : 8 + (my + 11) + rm.locals ≤ R.locals) (hCe : cells + 1 ≤ R.cells) (hSl : slots + 6 ≤ R.slots) (hrc : rm.cells = 1) (hrs : rm.slots = 6) (hroom : (rest.map fun v => v.category).sum ≤ 8) (hn : As.length = n) (hst : st0 = As.reverse ++ rest) (hdg : decode code pc = .ok (.invokestatic idx, 3))
    (kk : ∀ (H1 : Heap), lH P s o cL (if X.1 = 0 then ov X.2.1 else v) X.2.2 H1 → W p l e R s m #[Value.ref b] below meth c H1 [] (cells + 1) (slots + 6) Q (F0 m (pc + 3) ls (.int X.1 :: rest))) : W p l e R s m #[Value.ref b] below meth c H [] cells slots Q (F0 m pc ls st0) :=
  h_callS E.1 E.2.1 h.1 h.2 E.2.2.1 E.2.2.2.1 E.2.2.2.2.1 hl hM L9 hF hL hCe hSl hrc hrs hroom hn hst hdg (fun H1 a b => kk H1 ⟨a, b⟩)
theorem l_lald (E : lE p s m meth c P b L xs o cL) (h : lH P s o cL v G H) (hdg : decode code pc = .ok (.laload, 1))
    (kk : W p l e R s m #[Value.ref b] below meth c H [] cells slots Q (F0 m (pc + 1) ls (.long v :: rest))) : W p l e R s m #[Value.ref b] below meth c H [] cells slots Q (F0 m pc ls (.int 0 :: .ref o :: rest)) :=
  W.lald (v := .long v) E.1.1 E.1.2.1 h.2 (E.2.2.1 1 (fun _ => .long v)) (fun q => by cases q) (by rw [arrV_size]; decide) (by rw [show (0 : Int32).toNatClampNeg = 0 from rfl, arrV_read _ _ (by decide)]) rfl rfl hdg kk
end LR
theorem cmp_self (x : Int64) : lg_cmp x x = 0 := (lg_cmp_eq x x).mpr rfl
/-- one call compared: the same exception or none, the same answer, and the relation goes on -/
def okk (Rel : Nat → Mem → Prop) (n : Nat) (X : Int32 × Int32 × Mem) (Y : Int32 × Mem) : Prop := Y.2 21 0 = X.1 ∧ (X.1 = 0 → Y.1 = X.2.1) ∧ Rel (n + 1) Y.2
/-- what the second layer owes: a relation that holds of two new systems, and that each call keeps -/
def LawOK (Rel : Nat → Mem → Prop) : Prop :=
  Rel 0 Gi ∧ (∀ n G, Rel n G → hmC G) ∧ (∀ n G, Rel n G → Rel (n + 1) G) ∧
  (∀ n G, n < 512 → Rel n G → ∀ a b c : Int32, okk Rel n (sp_F_load G a b c) (sp_M_load (sp_F_load G a b c).2.2 a b c)) ∧
  (∀ n G, n < 512 → Rel n G → ∀ a b c : Int32, hmM (sp_F_disturb G a b c).2.2 ∧ okk Rel n (sp_F_disturb G a b c) (sp_M_disturb (sp_F_disturb G a b c).2.2 a b c)) ∧
  (∀ n G, n < 512 → Rel n G → ∀ a : Int32, okk Rel n (sp_F_slip G a) (sp_M_slip (sp_F_slip G a).2.2 a)) ∧
  (∀ n G, n < 512 → Rel n G → ∀ a : Int32, hmM (sp_F_pass G a).2.2 ∧ okk Rel n (sp_F_pass G a) (sp_M_pass (sp_F_pass G a).2.2 a)) ∧
  (∀ n G, n < 512 → Rel n G → ∀ a : Int32, okk Rel n (sp_F_symbol G a) (sp_M_symbol (sp_F_symbol G a).2.2 a)) ∧
  (∀ n G, n < 512 → Rel n G → ∀ a : Int32, okk Rel n (sp_F_aligned G a) (sp_M_aligned (sp_F_aligned G a).2.2 a)) ∧
  (∀ n G, n < 512 → Rel n G → ∀ a : Int32, okk Rel n (sp_F_frame G a) (sp_M_frame (sp_F_frame G a).2.2 a)) ∧
  (∀ n G, n < 512 → Rel n G → ∀ a b : Int32, okk Rel n (sp_F_slot G a b) (sp_M_slot (sp_F_slot G a b).2.2 a b)) ∧
  (∀ n G, n < 512 → Rel n G → ∀ a : Int32, okk Rel n (sp_F_alarm G a) (sp_M_alarm (sp_F_alarm G a).2.2 a)) ∧
  (∀ n G, n < 512 → Rel n G → ∀ a b : Int32, okk Rel n (sp_F_count G a b) (sp_M_count (sp_F_count G a b).2.2 a b))
