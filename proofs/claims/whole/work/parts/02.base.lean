def T_A : u_T := fun k => match k with
  | 0 => ("FramedLine$Arrivals", "times", "[I", true)
  | 1 => ("FramedLine$Arrivals", "symbols", "[I", true)
  | 2 => ("FramedLine$Arrivals", "waiting", "I", false)
  | _ => ("FramedLine$Arrivals", "slipping", "Z", false)
def t_A : Nat → FieldType := fun k => match k with
  | 0 => .array .int
  | 1 => .array .int
  | 2 => .int
  | _ => .boolean
def T_D : u_T := fun k => match k with
  | 0 => ("FramedLine$Decoder", "latestSymbol", "I", false)
  | 1 => ("FramedLine$Decoder", "latestPulse", "I", false)
  | 2 => ("FramedLine$Decoder", "latestV", "I", false)
  | 3 => ("FramedLine$Decoder", "zeros", "I", false)
  | 4 => ("FramedLine$Decoder", "latestBits", "I", false)
  | 5 => ("FramedLine$Decoder", "symbolsAhead", "I", false)
  | _ => ("FramedLine$Decoder", "faults", "I", false)
def t_D : Nat → FieldType := fun k => match k with
  | 0 => .int
  | 1 => .int
  | 2 => .int
  | 3 => .int
  | 4 => .int
  | 5 => .int
  | _ => .int
def T_E : u_T := fun k => match k with
  | 0 => ("FramedLine$Encoder", "latestPulse", "I", false)
  | 1 => ("FramedLine$Encoder", "oddPulses", "Z", false)
  | 2 => ("FramedLine$Encoder", "zeros", "I", false)
  | 3 => ("FramedLine$Encoder", "threeBehind", "I", false)
  | 4 => ("FramedLine$Encoder", "twoBehind", "I", false)
  | _ => ("FramedLine$Encoder", "oneBehind", "I", false)
def t_E : Nat → FieldType := fun k => match k with
  | 0 => .int
  | 1 => .boolean
  | 2 => .int
  | 3 => .int
  | 4 => .int
  | _ => .int
def T_N : u_T := fun k => match k with
  | 0 => ("FramedLine$End", "sender", "LFramedLine$Sender;", true)
  | 1 => ("FramedLine$End", "encoder", "LFramedLine$Encoder;", true)
  | 2 => ("FramedLine$End", "arrivals", "LFramedLine$Arrivals;", true)
  | 3 => ("FramedLine$End", "decoder", "LFramedLine$Decoder;", true)
  | _ => ("FramedLine$End", "receiver", "LFramedLine$Receiver;", true)
def t_N : Nat → FieldType := fun k => match k with
  | 0 => .object "FramedLine$Sender"
  | 1 => .object "FramedLine$Encoder"
  | 2 => .object "FramedLine$Arrivals"
  | 3 => .object "FramedLine$Decoder"
  | _ => .object "FramedLine$Receiver"
def T_R : u_T := fun k => match k with
  | 0 => ("FramedLine$Receiver", "rounds", "LFramedLine$Rounds;", true)
  | 1 => ("FramedLine$Receiver", "state", "LFramedLine$State;", false)
  | 2 => ("FramedLine$Receiver", "latestBits", "I", false)
  | 3 => ("FramedLine$Receiver", "bits", "I", false)
  | 4 => ("FramedLine$Receiver", "odd", "Z", false)
  | 5 => ("FramedLine$Receiver", "wrongWords", "I", false)
  | 6 => ("FramedLine$Receiver", "latestFrame", "I", false)
  | 7 => ("FramedLine$Receiver", "completeFrames", "I", false)
  | 8 => ("FramedLine$Receiver", "losses", "I", false)
  | _ => ("FramedLine$Receiver", "alarmCame", "Z", false)
def t_R : Nat → FieldType := fun k => match k with
  | 0 => .object "FramedLine$Rounds"
  | 1 => .object "FramedLine$State"
  | 2 => .int
  | 3 => .int
  | 4 => .boolean
  | 5 => .int
  | 6 => .int
  | 7 => .int
  | 8 => .int
  | _ => .boolean
def T_O : u_T := fun k => match k with
  | 0 => ("FramedLine$Rounds", "number", "I", false)
  | 1 => ("FramedLine$Rounds", "oddFrames", "I", false)
  | 2 => ("FramedLine$Rounds", "firstBitsOfOdd", "I", false)
  | 3 => ("FramedLine$Rounds", "wrongRounds", "I", false)
  | 4 => ("FramedLine$Rounds", "halfBegunKnown", "Z", false)
  | 5 => ("FramedLine$Rounds", "halfBeforeKnown", "Z", false)
  | 6 => ("FramedLine$Rounds", "check", "I", false)
  | 7 => ("FramedLine$Rounds", "checkOfHalfBefore", "I", false)
  | 8 => ("FramedLine$Rounds", "checkCome", "I", false)
  | 9 => ("FramedLine$Rounds", "firstHalfWrong", "Z", false)
  | 10 => ("FramedLine$Rounds", "secondHalfWrong", "Z", false)
  | 11 => ("FramedLine$Rounds", "wrongHalves", "I", false)
  | _ => ("FramedLine$Rounds", "farFaults", "I", false)
def t_O : Nat → FieldType := fun k => match k with
  | 0 => .int
  | 1 => .int
  | 2 => .int
  | 3 => .int
  | 4 => .boolean
  | 5 => .boolean
  | 6 => .int
  | 7 => .int
  | 8 => .int
  | 9 => .boolean
  | 10 => .boolean
  | 11 => .int
  | _ => .int
def T_S : u_T := fun k => match k with
  | 0 => ("FramedLine$Sender", "loaded", "[I", true)
  | 1 => ("FramedLine$Sender", "next", "I", false)
  | 2 => ("FramedLine$Sender", "frameBits", "I", false)
  | 3 => ("FramedLine$Sender", "bitsSent", "I", false)
  | 4 => ("FramedLine$Sender", "check", "I", false)
  | _ => ("FramedLine$Sender", "checkOfHalfBefore", "I", false)
def t_S : Nat → FieldType := fun k => match k with
  | 0 => .array .int
  | 1 => .int
  | 2 => .int
  | 3 => .int
  | 4 => .int
  | _ => .int
def T_F : u_T := fun k => match k with
  | 0 => ("FramedLine", "zero", "LFramedLine$End;", true)
  | 1 => ("FramedLine", "one", "LFramedLine$End;", true)
  | _ => ("FramedLine", "passed", "I", false)
def t_F : Nat → FieldType := fun k => match k with
  | 0 => .object "FramedLine$End"
  | 1 => .object "FramedLine$End"
  | _ => .int
def T_M : u_T := fun k => match k with
  | 0 => ("FramedLineModel", "code", "I", false)
  | 1 => ("FramedLineModel", "now", "I", false)
  | 2 => ("FramedLineModel", "loaded", "[I", false)
  | 3 => ("FramedLineModel", "word", "[I", false)
  | 4 => ("FramedLineModel", "number", "[I", false)
  | 5 => ("FramedLineModel", "gone", "[I", false)
  | 6 => ("FramedLineModel", "check", "[I", false)
  | 7 => ("FramedLineModel", "before", "[I", false)
  | 8 => ("FramedLineModel", "ahead", "[I", false)
  | 9 => ("FramedLineModel", "group", "[I", false)
  | 10 => ("FramedLineModel", "pulse", "[I", false)
  | 11 => ("FramedLineModel", "odd", "[Z", false)
  | 12 => ("FramedLineModel", "many", "[I", false)
  | 13 => ("FramedLineModel", "when", "[I", false)
  | 14 => ("FramedLineModel", "what", "[I", false)
  | 15 => ("FramedLineModel", "slips", "[Z", false)
  | 16 => ("FramedLineModel", "came", "[I", false)
  | 17 => ("FramedLineModel", "latest", "[I", false)
  | 18 => ("FramedLineModel", "back", "[I", false)
  | 19 => ("FramedLineModel", "wasV", "[Z", false)
  | 20 => ("FramedLineModel", "heard", "[I", false)
  | 21 => ("FramedLineModel", "lastV", "[I", false)
  | 22 => ("FramedLineModel", "zeros", "[I", false)
  | 23 => ("FramedLineModel", "mode", "[I", false)
  | 24 => ("FramedLineModel", "since", "[I", false)
  | 25 => ("FramedLineModel", "bits", "[I", false)
  | 26 => ("FramedLineModel", "at", "[I", false)
  | 27 => ("FramedLineModel", "even", "[Z", false)
  | 28 => ("FramedLineModel", "wrongs", "[I", false)
  | 29 => ("FramedLineModel", "any", "[Z", false)
  | 30 => ("FramedLineModel", "frame", "[I", false)
  | 31 => ("FramedLineModel", "alarms", "[Z", false)
  | 32 => ("FramedLineModel", "known", "[Z", false)
  | 33 => ("FramedLineModel", "place", "[I", false)
  | 34 => ("FramedLineModel", "firsts", "[I", false)
  | 35 => ("FramedLineModel", "odds", "[I", false)
  | 36 => ("FramedLineModel", "misses", "[I", false)
  | 37 => ("FramedLineModel", "whole", "[Z", false)
  | 38 => ("FramedLineModel", "sum", "[I", false)
  | 39 => ("FramedLineModel", "told", "[I", false)
  | 40 => ("FramedLineModel", "wholeBefore", "[Z", false)
  | 41 => ("FramedLineModel", "sumBefore", "[I", false)
  | 42 => ("FramedLineModel", "foundWrong", "[Z", false)
  | _ => ("FramedLineModel", "counts", "[I", false)
def t_M : Nat → FieldType := fun k => match k with
  | 0 => .int
  | 1 => .int
  | 2 => .array .int
  | 3 => .array .int
  | 4 => .array .int
  | 5 => .array .int
  | 6 => .array .int
  | 7 => .array .int
  | 8 => .array .int
  | 9 => .array .int
  | 10 => .array .int
  | 11 => .array .boolean
  | 12 => .array .int
  | 13 => .array .int
  | 14 => .array .int
  | 15 => .array .boolean
  | 16 => .array .int
  | 17 => .array .int
  | 18 => .array .int
  | 19 => .array .boolean
  | 20 => .array .int
  | 21 => .array .int
  | 22 => .array .int
  | 23 => .array .int
  | 24 => .array .int
  | 25 => .array .int
  | 26 => .array .int
  | 27 => .array .boolean
  | 28 => .array .int
  | 29 => .array .boolean
  | 30 => .array .int
  | 31 => .array .boolean
  | 32 => .array .boolean
  | 33 => .array .int
  | 34 => .array .int
  | 35 => .array .int
  | 36 => .array .int
  | 37 => .array .boolean
  | 38 => .array .int
  | 39 => .array .int
  | 40 => .array .boolean
  | 41 => .array .int
  | 42 => .array .boolean
  | _ => .array .int
abbrev vwCl : List vw_C := [("FramedLine$Arrivals", T_A, 4), ("FramedLine$Decoder", T_D, 7), ("FramedLine$Encoder", T_E, 6), ("FramedLine$End", T_N, 5), ("FramedLine$Receiver", T_R, 10), ("FramedLine$Rounds", T_O, 13), ("FramedLine$Sender", T_S, 6), ("FramedLine", T_F, 3), ("FramedLineModel", T_M, 44)]
/-! OUR OWN BASE. One memory G for all cells of the two systems: G c k is the number in field (or element) k of cell c. gw P G is the world that it stands for; each row of a walk takes 'gH P s G H locs' to the same of the next memory. -/
abbrev Mem : Type := Nat → Nat → Int32
def wr (G : Mem) (c k : Nat) (v : Int32) : Mem := va_up G c (upd (G c) k v)
theorem wr_same (G : Mem) (c k : Nat) (v : Int32) : wr G c k v c k = v := by simp [wr, va_up, upd]
theorem wr_k (G : Mem) (c k : Nat) (v : Int32) {k' : Nat} (h : k' ≠ k) : wr G c k v c k' = G c k' := by simp [wr, va_up, upd, h]
theorem wr_c (G : Mem) (c k : Nat) (v : Int32) {c' : Nat} (h : c' ≠ c) : wr G c k v c' = G c' := by simp [wr, va_up, h]
theorem wr_ck (G : Mem) (c k : Nat) (v : Int32) {c' k' : Nat} (h : c' ≠ c) : wr G c k v c' k' = G c' k' := by rw [wr_c G c k v h]
abbrev tn (i : Int32) : Nat := i.toNatClampNeg
def zb (x : Int32) : Int32 := x &&& 1
theorem zb_nar (x : Int32) : vp_nar .boolean x = zb x := rfl
def isB (v : Int32) : Prop := narrow .boolean (.int v) = .int v ∧ fits .boolean (.int v) = true
theorem isB_0 : isB 0 := ⟨rfl, rfl⟩
theorem isB_1 : isB 1 := ⟨rfl, rfl⟩
theorem isB_or {v : Int32} (h : isB v) : v = 0 ∨ v = 1 := by
  have h2 : (v == 0 || v == 1) = true := h.2
  simpa using h2
theorem isB_of {v : Int32} (h : v = 0 ∨ v = 1) : isB v := by rcases h with rfl | rfl <;> exact ⟨rfl, rfl⟩
theorem zb_or (x : Int32) : zb x = 0 ∨ zb x = 1 := by
  obtain ⟨j, hj, e⟩ := pk_andE x (m := 1) 1 (by decide)
  have : j = 0 ∨ j = 1 := by omega
  rcases this with rfl | rfl
  · exact Or.inl e
  · exact Or.inr e
theorem isB_zb (x : Int32) : isB (zb x) := isB_of (zb_or x)
theorem zb_isB {v : Int32} (h : isB v) : zb v = v := by rcases isB_or h with rfl | rfl <;> rfl
def iu (x y : Int32) : Int32 := (x.toUInt32 >>> (y.toUInt32 &&& Int32.toUInt32 31)).toInt32
def n3 (x : Int32) : Int32 := if x = 0 then 0 else if x = 1 then 1 else 2
def n3n (x : Int32) : Nat := if x = 0 then 0 else if x = 1 then 1 else 2
theorem n3_eq {x y : Int32} : n3n x = n3n y ↔ n3 x = n3 y := by
  unfold n3 n3n
  by_cases h1 : x = 0 <;> by_cases h2 : x = 1 <;> by_cases h3 : y = 0 <;> by_cases h4 : y = 1 <;> simp [h1, h2, h3, h4]
theorem n3n_lt (x : Int32) : n3n x < 3 := by unfold n3n; split; omega; split <;> omega
/-- addresses, classes' places, the classes of int[] and boolean[], the addresses of the enum's three -/
abbrev gP : Type := (Nat → Nat) × va_G × ClassId × ClassId × (Nat → Nat)
def gad (P : gP) : Nat → Nat := P.1
def gDD (P : gP) : va_G := P.2.1
def gcI (P : gP) : ClassId := P.2.2.1
def gcZ (P : gP) : ClassId := P.2.2.2.1
def gae (P : gP) (x : Int32) : Nat := P.2.2.2.2 (n3n x)
def fl_F (P : gP) (c : Nat) (g : Nat → Int32) : List Value := [.ref (gad P (1)), .ref (gad P (11)), .int (g 2)]
def fl_N (P : gP) (c : Nat) (g : Nat → Int32) : List Value := [.ref (gad P (c+1)), .ref (gad P (c+3)), .ref (gad P (c+4)), .ref (gad P (c+7)), .ref (gad P (c+8))]
def fl_S (P : gP) (c : Nat) (g : Nat → Int32) : List Value := [.ref (gad P (c+1)), .int (g 1), .int (g 2), .int (g 3), .int (g 4), .int (g 5)]
def fl_E (P : gP) (c : Nat) (g : Nat → Int32) : List Value := [.int (g 0), .int (zb (g 1)), .int (g 2), .int (g 3), .int (g 4), .int (g 5)]
def fl_A (P : gP) (c : Nat) (g : Nat → Int32) : List Value := [.ref (gad P (c+1)), .ref (gad P (c+2)), .int (g 2), .int (zb (g 3))]
def fl_D (P : gP) (c : Nat) (g : Nat → Int32) : List Value := [.int (g 0), .int (g 1), .int (g 2), .int (g 3), .int (g 4), .int (g 5), .int (g 6)]
def fl_R (P : gP) (c : Nat) (g : Nat → Int32) : List Value := [.ref (gad P (c+1)), .ref (gae P (g 1)), .int (g 2), .int (g 3), .int (zb (g 4)), .int (g 5), .int (g 6), .int (g 7), .int (g 8), .int (zb (g 9))]
def fl_O (P : gP) (c : Nat) (g : Nat → Int32) : List Value := [.int (g 0), .int (g 1), .int (g 2), .int (g 3), .int (zb (g 4)), .int (zb (g 5)), .int (g 6), .int (g 7), .int (g 8), .int (zb (g 9)), .int (zb (g 10)), .int (g 11), .int (g 12)]
def fl_M (P : gP) (c : Nat) (g : Nat → Int32) : List Value := [.int (g 0), .int (g 1), .ref (gad P (22)), .ref (gad P (23)), .ref (gad P (24)), .ref (gad P (25)), .ref (gad P (26)), .ref (gad P (27)), .ref (gad P (28)), .ref (gad P (29)), .ref (gad P (30)), .ref (gad P (31)), .ref (gad P (32)), .ref (gad P (33)), .ref (gad P (34)), .ref (gad P (35)), .ref (gad P (36)), .ref (gad P (37)), .ref (gad P (38)), .ref (gad P (39)), .ref (gad P (40)), .ref (gad P (41)), .ref (gad P (42)), .ref (gad P (43)), .ref (gad P (44)), .ref (gad P (45)), .ref (gad P (46)), .ref (gad P (47)), .ref (gad P (48)), .ref (gad P (49)), .ref (gad P (50)), .ref (gad P (51)), .ref (gad P (52)), .ref (gad P (53)), .ref (gad P (54)), .ref (gad P (55)), .ref (gad P (56)), .ref (gad P (57)), .ref (gad P (58)), .ref (gad P (59)), .ref (gad P (60)), .ref (gad P (61)), .ref (gad P (62)), .ref (gad P (63))]
/-- what stands in cell c when its numbers are g -/
def gc (P : gP) (c : Nat) (g : Nat → Int32) : va_E := match c with
  | 0 => .inr (7, fl_F P 0 g)
  | 1 => .inr (3, fl_N P 1 g)
  | 2 => .inr (6, fl_S P 2 g)
  | 3 => .inl (gcI P, 4, .inl g)
  | 4 => .inr (2, fl_E P 4 g)
  | 5 => .inr (0, fl_A P 5 g)
  | 6 => .inl (gcI P, 8, .inl g)
  | 7 => .inl (gcI P, 8, .inl g)
  | 8 => .inr (1, fl_D P 8 g)
  | 9 => .inr (4, fl_R P 9 g)
  | 10 => .inr (5, fl_O P 10 g)
  | 11 => .inr (3, fl_N P 11 g)
  | 12 => .inr (6, fl_S P 12 g)
  | 13 => .inl (gcI P, 4, .inl g)
  | 14 => .inr (2, fl_E P 14 g)
  | 15 => .inr (0, fl_A P 15 g)
  | 16 => .inl (gcI P, 8, .inl g)
  | 17 => .inl (gcI P, 8, .inl g)
  | 18 => .inr (1, fl_D P 18 g)
  | 19 => .inr (4, fl_R P 19 g)
  | 20 => .inr (5, fl_O P 20 g)
  | 21 => .inr (8, fl_M P 21 g)
  | 22 => .inl (gcI P, 8, .inl g)
  | 23 => .inl (gcI P, 2, .inl g)
  | 24 => .inl (gcI P, 2, .inl g)
  | 25 => .inl (gcI P, 2, .inl g)
  | 26 => .inl (gcI P, 2, .inl g)
  | 27 => .inl (gcI P, 2, .inl g)
  | 28 => .inl (gcI P, 2, .inl g)
  | 29 => .inl (gcI P, 2, .inl g)
  | 30 => .inl (gcI P, 2, .inl g)
  | 31 => .inl (gcZ P, 2, .inl g)
  | 32 => .inl (gcI P, 2, .inl g)
  | 33 => .inl (gcI P, 16, .inl g)
  | 34 => .inl (gcI P, 16, .inl g)
  | 35 => .inl (gcZ P, 2, .inl g)
  | 36 => .inl (gcI P, 2, .inl g)
  | 37 => .inl (gcI P, 2, .inl g)
  | 38 => .inl (gcI P, 6, .inl g)
  | 39 => .inl (gcZ P, 6, .inl g)
  | 40 => .inl (gcI P, 2, .inl g)
  | 41 => .inl (gcI P, 2, .inl g)
  | 42 => .inl (gcI P, 2, .inl g)
  | 43 => .inl (gcI P, 2, .inl g)
  | 44 => .inl (gcI P, 2, .inl g)
  | 45 => .inl (gcI P, 2, .inl g)
  | 46 => .inl (gcI P, 2, .inl g)
  | 47 => .inl (gcZ P, 2, .inl g)
  | 48 => .inl (gcI P, 2, .inl g)
  | 49 => .inl (gcZ P, 2, .inl g)
  | 50 => .inl (gcI P, 2, .inl g)
  | 51 => .inl (gcZ P, 2, .inl g)
  | 52 => .inl (gcZ P, 2, .inl g)
  | 53 => .inl (gcI P, 2, .inl g)
  | 54 => .inl (gcI P, 2, .inl g)
  | 55 => .inl (gcI P, 2, .inl g)
  | 56 => .inl (gcI P, 2, .inl g)
  | 57 => .inl (gcZ P, 2, .inl g)
  | 58 => .inl (gcI P, 2, .inl g)
  | 59 => .inl (gcI P, 2, .inl g)
  | 60 => .inl (gcZ P, 2, .inl g)
  | 61 => .inl (gcI P, 2, .inl g)
  | 62 => .inl (gcZ P, 4, .inl g)
  | _ => .inl (gcI P, 10, .inl g)
def gw (P : gP) (G : Mem) : va_W := (List.range 64).map (fun c => (gad P c, gc P c (G c)))
theorem gw_at {P : gP} {G : Mem} {c : Nat} (h : c < 64) : (gw P G)[c]? = some (gad P c, gc P c (G c)) := by simp [gw, h]
theorem gw_lt {P : gP} {G : Mem} {c : Nat} {q : Nat × va_E} (h : (gw P G)[c]? = some q) : c < 64 := by
  have := (List.getElem?_eq_some_iff.mp h).1
  simpa [gw] using this
theorem gw_set {P : gP} {G : Mem} {c : Nat} {g : Nat → Int32} (h : c < 64) : (gw P G).set c (gad P c, gc P c g) = gw P (va_up G c g) := by
  apply List.ext_getElem?
  intro i
  by_cases hi : i = c
  · subst hi
    rw [List.getElem?_set_self (by simpa [gw] using h), gw_at h, va_up_self]
  · rw [List.getElem?_set_ne (Ne.symm hi)]
    by_cases hl : i < 64
    · rw [gw_at hl, gw_at hl, va_up_ne _ _ hi]
    · rw [List.getElem?_eq_none (by simp [gw]; omega), List.getElem?_eq_none (by simp [gw]; omega)]
/-- the cells of the two systems -/
def gA (P : gP) : Nat → Prop := fun q => ∃ c, c < 64 ∧ q = gad P c
def gInj (P : gP) : Prop := ∀ i j, i < 64 → j < 64 → gad P i = gad P j → i = j
theorem gD_of {P : gP} (h : gInj P) (G : Mem) : va_D (gA P) (gw P G) := by
  refine ⟨fun i j p q hi hj e => ?_, fun k q hk => ?_⟩
  · have li := gw_lt hi
    have lj := gw_lt hj
    rw [gw_at li] at hi
    rw [gw_at lj] at hj
    cases hi
    cases hj
    exact h i j li lj e
  · have lk := gw_lt hk
    rw [gw_at lk] at hk
    cases hk
    exact ⟨k, lk, rfl⟩
def kF (c : Nat) : Prop := c = 0
def kN (c : Nat) : Prop := c = 1 ∨ c = 11
def kS (c : Nat) : Prop := c = 2 ∨ c = 12
def kI4 (c : Nat) : Prop := c = 3 ∨ c = 13
def kE (c : Nat) : Prop := c = 4 ∨ c = 14
def kA (c : Nat) : Prop := c = 5 ∨ c = 15
def kD (c : Nat) : Prop := c = 8 ∨ c = 18
def kR (c : Nat) : Prop := c = 9 ∨ c = 19
def kO (c : Nat) : Prop := c = 10 ∨ c = 20
def kM (c : Nat) : Prop := c = 21
def kI8 (c : Nat) : Prop := (c = 6 ∨ c = 16) ∨ (c = 7 ∨ c = 17)
theorem gc_F {P : gP} {c : Nat} (h : kF c) : c < 64 ∧ ∀ g, gc P c g = .inr (7, fl_F P c g) := by rcases h with rfl <;> exact ⟨by decide, fun _ => rfl⟩
theorem gc_N {P : gP} {c : Nat} (h : kN c) : c < 64 ∧ ∀ g, gc P c g = .inr (3, fl_N P c g) := by rcases h with rfl | rfl <;> exact ⟨by decide, fun _ => rfl⟩
theorem gc_S {P : gP} {c : Nat} (h : kS c) : c < 64 ∧ ∀ g, gc P c g = .inr (6, fl_S P c g) := by rcases h with rfl | rfl <;> exact ⟨by decide, fun _ => rfl⟩
theorem gc_E {P : gP} {c : Nat} (h : kE c) : c < 64 ∧ ∀ g, gc P c g = .inr (2, fl_E P c g) := by rcases h with rfl | rfl <;> exact ⟨by decide, fun _ => rfl⟩
theorem gc_A {P : gP} {c : Nat} (h : kA c) : c < 64 ∧ ∀ g, gc P c g = .inr (0, fl_A P c g) := by rcases h with rfl | rfl <;> exact ⟨by decide, fun _ => rfl⟩
theorem gc_D {P : gP} {c : Nat} (h : kD c) : c < 64 ∧ ∀ g, gc P c g = .inr (1, fl_D P c g) := by rcases h with rfl | rfl <;> exact ⟨by decide, fun _ => rfl⟩
theorem gc_R {P : gP} {c : Nat} (h : kR c) : c < 64 ∧ ∀ g, gc P c g = .inr (4, fl_R P c g) := by rcases h with rfl | rfl <;> exact ⟨by decide, fun _ => rfl⟩
theorem gc_O {P : gP} {c : Nat} (h : kO c) : c < 64 ∧ ∀ g, gc P c g = .inr (5, fl_O P c g) := by rcases h with rfl | rfl <;> exact ⟨by decide, fun _ => rfl⟩
theorem gc_M {P : gP} {c : Nat} (h : kM c) : c < 64 ∧ ∀ g, gc P c g = .inr (8, fl_M P c g) := by rcases h with rfl <;> exact ⟨by decide, fun _ => rfl⟩
theorem ga_I4 {P : gP} {c : Nat} (h : kI4 c) : c < 64 ∧ ∀ g, gc P c g = .inl (gcI P, 4, .inl g) := by rcases h with rfl | rfl <;> exact ⟨by decide, fun _ => rfl⟩
theorem ga_I8 {P : gP} {c : Nat} (h : kI8 c) : c < 64 ∧ ∀ g, gc P c g = .inl (gcI P, 8, .inl g) := by rcases h with (rfl | rfl) | (rfl | rfl) <;> exact ⟨by decide, fun _ => rfl⟩
theorem kN_sender {c : Nat} (h : kN c) : kS (c + 1) := by rcases h with rfl | rfl <;> simp [kS]
theorem kN_encoder {c : Nat} (h : kN c) : kE (c + 3) := by rcases h with rfl | rfl <;> simp [kE]
theorem kN_arrivals {c : Nat} (h : kN c) : kA (c + 4) := by rcases h with rfl | rfl <;> simp [kA]
theorem kN_decoder {c : Nat} (h : kN c) : kD (c + 7) := by rcases h with rfl | rfl <;> simp [kD]
theorem kN_receiver {c : Nat} (h : kN c) : kR (c + 8) := by rcases h with rfl | rfl <;> simp [kR]
theorem kS_loaded {c : Nat} (h : kS c) : kI4 (c + 1) := by rcases h with rfl | rfl <;> simp [kI4]
theorem kR_rounds {c : Nat} (h : kR c) : kO (c + 1) := by rcases h with rfl | rfl <;> simp [kO]
theorem kA_times {c : Nat} (h : kA c) : kI8 (c + 1) := by rcases h with rfl | rfl <;> simp [kI8]
theorem kA_symbols {c : Nat} (h : kA c) : kI8 (c + 2) := by rcases h with rfl | rfl <;> simp [kI8]
theorem set_E1 (P : gP) (c : Nat) : ∀ (g : Nat → Int32) (nv : Int32), isB nv → (fl_E P c g).set 1 (.int nv) = fl_E P c (upd g 1 nv) := by
  intro g nv h
  have e := zb_isB h
  simp [fl_E, upd, e]
theorem set_A3 (P : gP) (c : Nat) : ∀ (g : Nat → Int32) (nv : Int32), isB nv → (fl_A P c g).set 3 (.int nv) = fl_A P c (upd g 3 nv) := by
  intro g nv h
  have e := zb_isB h
  simp [fl_A, upd, e]
theorem set_R4 (P : gP) (c : Nat) : ∀ (g : Nat → Int32) (nv : Int32), isB nv → (fl_R P c g).set 4 (.int nv) = fl_R P c (upd g 4 nv) := by
  intro g nv h
  have e := zb_isB h
  simp [fl_R, upd, e]
theorem set_R9 (P : gP) (c : Nat) : ∀ (g : Nat → Int32) (nv : Int32), isB nv → (fl_R P c g).set 9 (.int nv) = fl_R P c (upd g 9 nv) := by
  intro g nv h
  have e := zb_isB h
  simp [fl_R, upd, e]
theorem set_O4 (P : gP) (c : Nat) : ∀ (g : Nat → Int32) (nv : Int32), isB nv → (fl_O P c g).set 4 (.int nv) = fl_O P c (upd g 4 nv) := by
  intro g nv h
  have e := zb_isB h
  simp [fl_O, upd, e]
theorem set_O5 (P : gP) (c : Nat) : ∀ (g : Nat → Int32) (nv : Int32), isB nv → (fl_O P c g).set 5 (.int nv) = fl_O P c (upd g 5 nv) := by
  intro g nv h
  have e := zb_isB h
  simp [fl_O, upd, e]
theorem set_O9 (P : gP) (c : Nat) : ∀ (g : Nat → Int32) (nv : Int32), isB nv → (fl_O P c g).set 9 (.int nv) = fl_O P c (upd g 9 nv) := by
  intro g nv h
  have e := zb_isB h
  simp [fl_O, upd, e]
theorem set_O10 (P : gP) (c : Nat) : ∀ (g : Nat → Int32) (nv : Int32), isB nv → (fl_O P c g).set 10 (.int nv) = fl_O P c (upd g 10 nv) := by
  intro g nv h
  have e := zb_isB h
  simp [fl_O, upd, e]
