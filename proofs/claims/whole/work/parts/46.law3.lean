set_option maxHeartbeats 4000000 in
set_option maxRecDepth 100000 in
theorem lc_load {p : Program} {l : Launch} {e : Env} {s : State} {m : MethodId} {below : List Frame} {meth : Method} {c : Code} {H : Heap} {cells slots : Nat} {Q : State → Prop} {ls : Array Slot} {P : gP} {G : Mem} {b L o : Nat} {xs : Nat → Int32} {cL : ClassId} {v : Int64} {i : Int32} {j n : Nat} (Rel : Nat → Mem → Prop) (htr : l.stackTraces = false) (E : lE p s m meth c P b L xs o cL) (h : lH P s o cL v G H) (hl : lv_has ls 7 (lL P b o i)) (hi : i = nI (4 * j)) (hj : 4 * j + 3 < L) (hC : cells + 1 ≤ 1092) (hS : slots + 6 ≤ 8536) (ok : okk Rel n (sp_F_load G (xs (4 * j + 1)) (xs (4 * j + 2)) (xs (4 * j + 3))) (sp_M_load (sp_F_load G (xs (4 * j + 1)) (xs (4 * j + 2)) (xs (4 * j + 3))).2.2 (xs (4 * j + 1)) (xs (4 * j + 2)) (xs (4 * j + 3))))
    (kk : ∀ (H1 : Heap) (ls1 : Array Slot) (v1 : Int64), lH P s o cL v1 (sp_M_load (sp_F_load G (xs (4 * j + 1)) (xs (4 * j + 2)) (xs (4 * j + 3))).2.2 (xs (4 * j + 1)) (xs (4 * j + 2)) (xs (4 * j + 3))).2 H1 → lv_has ls1 7 (lL P b o i) → W p l e room_1 s m #[Value.ref b] below meth c H1 [] (cells + 1) (slots + 6) Q (F0 m 745 ls1 [])) : W p l e room_1 s m #[Value.ref b] below meth c H [] cells slots Q (F0 m 92 ls []) := by
  have hx := E.1.1
  have hb := E.1.2.1
  refine lv_aload_n hx hb d_L_law_92 rfl (lv_at hl 1 rfl) ?_
  refine l_arg 1 E h hl ⟨0, rfl⟩ ⟨4, rfl⟩ hi (by omega) (by decide) d_L_law_93 d_L_law_94 d_L_law_96 d_L_law_97 d_L_law_98 ?_
  refine l_arg 2 E h hl ⟨0, rfl⟩ ⟨4, rfl⟩ hi (by omega) (by decide) d_L_law_99 d_L_law_100 d_L_law_102 d_L_law_103 d_L_law_104 ?_
  refine l_arg 3 E h hl ⟨0, rfl⟩ ⟨4, rfl⟩ hi (by omega) (by decide) d_L_law_105 d_L_law_106 d_L_law_108 d_L_law_109 d_L_law_110 ?_
  refine lv_aload_n hx hb d_L_law_111 rfl (lv_at hl 3 rfl) ?_
  refine l_callH (As := [.ref (gad P 0), .int _, .int _, .int _, .ref o]) E h hl (c_L_load l htr P o cL v _ _ _ _) lmh_load (Nat.le_of_ble_eq_true rfl) (Nat.le_of_ble_eq_true rfl) hC hS rfl rfl (Nat.le_of_ble_eq_true rfl) rfl rfl d_L_law_112 (fun H h => ?_)
  refine lv_istore hx hb d_L_law_115 hl (by decide) rfl (fun ls hl => ?_)
  refine lv_aload_n hx hb d_L_law_117 rfl (lv_at hl 3 rfl) ?_
  refine l_arg 1 E h hl ⟨1, rfl⟩ ⟨5, rfl⟩ hi (by omega) (by decide) d_L_law_118 d_L_law_119 d_L_law_121 d_L_law_122 d_L_law_123 ?_
  refine l_arg 2 E h hl ⟨1, rfl⟩ ⟨5, rfl⟩ hi (by omega) (by decide) d_L_law_124 d_L_law_125 d_L_law_127 d_L_law_128 d_L_law_129 ?_
  refine l_arg 3 E h hl ⟨1, rfl⟩ ⟨5, rfl⟩ hi (by omega) (by decide) d_L_law_130 d_L_law_131 d_L_law_133 d_L_law_134 d_L_law_135 ?_
  refine l_callVi (As := [.int _, .int _, .int _]) E h hl (c_M_load l P _ _ _ _) lm_L_56 (gc_M rfl) cl_M (Nat.le_of_ble_eq_true rfl) (Nat.le_of_ble_eq_true rfl) hC hS (Nat.le_of_ble_eq_true rfl) rfl rfl rfl rfl d_L_law_136 (fun H h => ?_)
  refine lv_istore hx hb d_L_law_139 hl (by decide) rfl (fun ls hl => ?_)
  refine lv_aload_n hx hb d_L_law_141 rfl (lv_at hl 4 rfl) ?_
  refine l_callVi (As := []) E h hl (c_M_thrown l P _) lm_L_57 (gc_M rfl) cl_M (Nat.le_of_ble_eq_true rfl) (Nat.le_of_ble_eq_true rfl) hC hS (Nat.le_of_ble_eq_true rfl) rfl rfl rfl rfl d_L_law_142 (fun H h => ?_)
  refine lv_iload hx hb d_L_law_145 (lv_at hl 1 rfl) ?_
  refine lv_icmp_eq (tgt := 152) hx hb d_L_law_147 (by decide) (fun h9 => ?_) (fun h9 => absurd ok.1 h9)
  refine lv_iload hx hb d_L_law_152 (lv_at hl 1 rfl) ?_
  refine lv_if_ne (tgt := 169) hx hb d_L_law_154 (by decide) (fun h8 => ?_) (fun h8 => ?_)
  · refine lv_goto (tgt := 745) hx hb d_L_law_169 (by decide) ?_
    exact kk _ _ _ h (lv_sub hl [2, 3, 4, 5, 6] rfl)
  · refine lv_aload_n hx hb d_L_law_157 rfl (lv_at hl 5 rfl) ?_
    refine lv_iconst (v := 0) hx hb d_L_law_158 (by decide) ?_
    refine l_lald E h d_L_law_159 ?_
    refine lv_iload hx hb d_L_law_160 (lv_at hl 0 rfl) ?_
    refine lv_i2l hx hb d_L_law_162 rfl ?_
    refine W.lcmp hx hb d_L_law_163 ?_
    refine lv_if_eq (tgt := 169) hx hb d_L_law_164 (by decide) (fun h7 => ?_) (fun h7 => absurd ?_ h7)
    · refine lv_goto (tgt := 745) hx hb d_L_law_169 (by decide) ?_
      exact kk _ _ _ h (lv_sub hl [2, 3, 4, 5, 6] rfl)
    · rw [if_pos (show (sp_F_load G (xs (4 * j + 1)) (xs (4 * j + 2)) (xs (4 * j + 3))).1 = 0 from h8)]
      rw [ok.2.1 (h8)]
      exact cmp_self _
set_option maxHeartbeats 4000000 in
set_option maxRecDepth 100000 in
theorem lc_disturb {p : Program} {l : Launch} {e : Env} {s : State} {m : MethodId} {below : List Frame} {meth : Method} {c : Code} {H : Heap} {cells slots : Nat} {Q : State → Prop} {ls : Array Slot} {P : gP} {G : Mem} {b L o : Nat} {xs : Nat → Int32} {cL : ClassId} {v : Int64} {i : Int32} {j n : Nat} (Rel : Nat → Mem → Prop) (htr : l.stackTraces = false) (E : lE p s m meth c P b L xs o cL) (h : lH P s o cL v G H) (hl : lv_has ls 7 (lL P b o i)) (hi : i = nI (4 * j)) (hj : 4 * j + 3 < L) (hC : cells + 1 ≤ 1092) (hS : slots + 6 ≤ 8536) (hm : hmC G) (hm2 : hmM (sp_F_disturb G (xs (4 * j + 1)) (xs (4 * j + 2)) (xs (4 * j + 3))).2.2) (ok : okk Rel n (sp_F_disturb G (xs (4 * j + 1)) (xs (4 * j + 2)) (xs (4 * j + 3))) (sp_M_disturb (sp_F_disturb G (xs (4 * j + 1)) (xs (4 * j + 2)) (xs (4 * j + 3))).2.2 (xs (4 * j + 1)) (xs (4 * j + 2)) (xs (4 * j + 3))))
    (kk : ∀ (H1 : Heap) (ls1 : Array Slot) (v1 : Int64), lH P s o cL v1 (sp_M_disturb (sp_F_disturb G (xs (4 * j + 1)) (xs (4 * j + 2)) (xs (4 * j + 3))).2.2 (xs (4 * j + 1)) (xs (4 * j + 2)) (xs (4 * j + 3))).2 H1 → lv_has ls1 7 (lL P b o i) → W p l e room_1 s m #[Value.ref b] below meth c H1 [] (cells + 1) (slots + 6) Q (F0 m 745 ls1 [])) : W p l e room_1 s m #[Value.ref b] below meth c H [] cells slots Q (F0 m 172 ls []) := by
  have hx := E.1.1
  have hb := E.1.2.1
  refine lv_aload_n hx hb d_L_law_172 rfl (lv_at hl 1 rfl) ?_
  refine l_arg 1 E h hl ⟨0, rfl⟩ ⟨4, rfl⟩ hi (by omega) (by decide) d_L_law_173 d_L_law_174 d_L_law_176 d_L_law_177 d_L_law_178 ?_
  refine l_arg 2 E h hl ⟨0, rfl⟩ ⟨4, rfl⟩ hi (by omega) (by decide) d_L_law_179 d_L_law_180 d_L_law_182 d_L_law_183 d_L_law_184 ?_
  refine l_arg 3 E h hl ⟨0, rfl⟩ ⟨4, rfl⟩ hi (by omega) (by decide) d_L_law_185 d_L_law_186 d_L_law_188 d_L_law_189 d_L_law_190 ?_
  refine lv_aload_n hx hb d_L_law_191 rfl (lv_at hl 3 rfl) ?_
  refine l_callH (As := [.ref (gad P 0), .int _, .int _, .int _, .ref o]) E h hl (c_L_disturb l htr P o cL v _ _ _ _ hm) lmh_disturb (Nat.le_of_ble_eq_true rfl) (Nat.le_of_ble_eq_true rfl) hC hS rfl rfl (Nat.le_of_ble_eq_true rfl) rfl rfl d_L_law_192 (fun H h => ?_)
  refine lv_istore hx hb d_L_law_195 hl (by decide) rfl (fun ls hl => ?_)
  refine lv_aload_n hx hb d_L_law_197 rfl (lv_at hl 3 rfl) ?_
  refine l_arg 1 E h hl ⟨1, rfl⟩ ⟨5, rfl⟩ hi (by omega) (by decide) d_L_law_198 d_L_law_199 d_L_law_201 d_L_law_202 d_L_law_203 ?_
  refine l_arg 2 E h hl ⟨1, rfl⟩ ⟨5, rfl⟩ hi (by omega) (by decide) d_L_law_204 d_L_law_205 d_L_law_207 d_L_law_208 d_L_law_209 ?_
  refine l_arg 3 E h hl ⟨1, rfl⟩ ⟨5, rfl⟩ hi (by omega) (by decide) d_L_law_210 d_L_law_211 d_L_law_213 d_L_law_214 d_L_law_215 ?_
  refine l_callVi (As := [.int _, .int _, .int _]) E h hl (c_M_disturb l P _ _ _ _ hm2) lm_L_63 (gc_M rfl) cl_M (Nat.le_of_ble_eq_true rfl) (Nat.le_of_ble_eq_true rfl) hC hS (Nat.le_of_ble_eq_true rfl) rfl rfl rfl rfl d_L_law_216 (fun H h => ?_)
  refine lv_istore hx hb d_L_law_219 hl (by decide) rfl (fun ls hl => ?_)
  refine lv_aload_n hx hb d_L_law_221 rfl (lv_at hl 4 rfl) ?_
  refine l_callVi (As := []) E h hl (c_M_thrown l P _) lm_L_57 (gc_M rfl) cl_M (Nat.le_of_ble_eq_true rfl) (Nat.le_of_ble_eq_true rfl) hC hS (Nat.le_of_ble_eq_true rfl) rfl rfl rfl rfl d_L_law_222 (fun H h => ?_)
  refine lv_iload hx hb d_L_law_225 (lv_at hl 1 rfl) ?_
  refine lv_icmp_eq (tgt := 232) hx hb d_L_law_227 (by decide) (fun h9 => ?_) (fun h9 => absurd ok.1 h9)
  refine lv_iload hx hb d_L_law_232 (lv_at hl 1 rfl) ?_
  refine lv_if_ne (tgt := 249) hx hb d_L_law_234 (by decide) (fun h8 => ?_) (fun h8 => ?_)
  · refine lv_goto (tgt := 745) hx hb d_L_law_249 (by decide) ?_
    exact kk _ _ _ h (lv_sub hl [2, 3, 4, 5, 6] rfl)
  · refine lv_aload_n hx hb d_L_law_237 rfl (lv_at hl 5 rfl) ?_
    refine lv_iconst (v := 0) hx hb d_L_law_238 (by decide) ?_
    refine l_lald E h d_L_law_239 ?_
    refine lv_iload hx hb d_L_law_240 (lv_at hl 0 rfl) ?_
    refine lv_i2l hx hb d_L_law_242 rfl ?_
    refine W.lcmp hx hb d_L_law_243 ?_
    refine lv_if_eq (tgt := 249) hx hb d_L_law_244 (by decide) (fun h7 => ?_) (fun h7 => absurd ?_ h7)
    · refine lv_goto (tgt := 745) hx hb d_L_law_249 (by decide) ?_
      exact kk _ _ _ h (lv_sub hl [2, 3, 4, 5, 6] rfl)
    · rw [if_pos (show (sp_F_disturb G (xs (4 * j + 1)) (xs (4 * j + 2)) (xs (4 * j + 3))).1 = 0 from h8)]
      rw [ok.2.1 (h8)]
      exact cmp_self _
set_option maxHeartbeats 4000000 in
set_option maxRecDepth 100000 in
theorem lc_slip {p : Program} {l : Launch} {e : Env} {s : State} {m : MethodId} {below : List Frame} {meth : Method} {c : Code} {H : Heap} {cells slots : Nat} {Q : State → Prop} {ls : Array Slot} {P : gP} {G : Mem} {b L o : Nat} {xs : Nat → Int32} {cL : ClassId} {v : Int64} {i : Int32} {j n : Nat} (Rel : Nat → Mem → Prop) (htr : l.stackTraces = false) (E : lE p s m meth c P b L xs o cL) (h : lH P s o cL v G H) (hl : lv_has ls 7 (lL P b o i)) (hi : i = nI (4 * j)) (hj : 4 * j + 3 < L) (hC : cells + 1 ≤ 1092) (hS : slots + 6 ≤ 8536) (ok : okk Rel n (sp_F_slip G (xs (4 * j + 1))) (sp_M_slip (sp_F_slip G (xs (4 * j + 1))).2.2 (xs (4 * j + 1))))
    (kk : ∀ (H1 : Heap) (ls1 : Array Slot) (v1 : Int64), lH P s o cL v1 (sp_M_slip (sp_F_slip G (xs (4 * j + 1))).2.2 (xs (4 * j + 1))).2 H1 → lv_has ls1 7 (lL P b o i) → W p l e room_1 s m #[Value.ref b] below meth c H1 [] (cells + 1) (slots + 6) Q (F0 m 745 ls1 [])) : W p l e room_1 s m #[Value.ref b] below meth c H [] cells slots Q (F0 m 252 ls []) := by
  have hx := E.1.1
  have hb := E.1.2.1
  refine lv_aload_n hx hb d_L_law_252 rfl (lv_at hl 1 rfl) ?_
  refine l_arg 1 E h hl ⟨0, rfl⟩ ⟨4, rfl⟩ hi (by omega) (by decide) d_L_law_253 d_L_law_254 d_L_law_256 d_L_law_257 d_L_law_258 ?_
  refine lv_aload_n hx hb d_L_law_259 rfl (lv_at hl 3 rfl) ?_
  refine l_callH (As := [.ref (gad P 0), .int _, .ref o]) E h hl (c_L_slip l htr P o cL v _ _) lmh_slip (Nat.le_of_ble_eq_true rfl) (Nat.le_of_ble_eq_true rfl) hC hS rfl rfl (Nat.le_of_ble_eq_true rfl) rfl rfl d_L_law_260 (fun H h => ?_)
  refine lv_istore hx hb d_L_law_263 hl (by decide) rfl (fun ls hl => ?_)
  refine lv_aload_n hx hb d_L_law_265 rfl (lv_at hl 3 rfl) ?_
  refine l_arg 1 E h hl ⟨1, rfl⟩ ⟨5, rfl⟩ hi (by omega) (by decide) d_L_law_266 d_L_law_267 d_L_law_269 d_L_law_270 d_L_law_271 ?_
  refine l_callVz (As := [.int _]) E h hl (c_M_slip l P _ _) lm_L_67 (gc_M rfl) cl_M (Nat.le_of_ble_eq_true rfl) (Nat.le_of_ble_eq_true rfl) hC hS (Nat.le_of_ble_eq_true rfl) rfl rfl rfl rfl d_L_law_272 (fun H h => ?_)
  refine lv_istore hx hb d_L_law_275 hl (by decide) rfl (fun ls hl => ?_)
  refine lv_aload_n hx hb d_L_law_277 rfl (lv_at hl 4 rfl) ?_
  refine l_callVi (As := []) E h hl (c_M_thrown l P _) lm_L_57 (gc_M rfl) cl_M (Nat.le_of_ble_eq_true rfl) (Nat.le_of_ble_eq_true rfl) hC hS (Nat.le_of_ble_eq_true rfl) rfl rfl rfl rfl d_L_law_278 (fun H h => ?_)
  refine lv_iload hx hb d_L_law_281 (lv_at hl 1 rfl) ?_
  refine lv_icmp_eq (tgt := 288) hx hb d_L_law_283 (by decide) (fun h9 => ?_) (fun h9 => absurd ok.1 h9)
  refine lv_iload hx hb d_L_law_288 (lv_at hl 1 rfl) ?_
  refine lv_if_ne (tgt := 312) hx hb d_L_law_290 (by decide) (fun h8 => ?_) (fun h8 => ?_)
  · refine lv_goto (tgt := 745) hx hb d_L_law_312 (by decide) ?_
    exact kk _ _ _ h (lv_sub hl [2, 3, 4, 5, 6] rfl)
  · refine lv_aload_n hx hb d_L_law_293 rfl (lv_at hl 5 rfl) ?_
    refine lv_iconst (v := 0) hx hb d_L_law_294 (by decide) ?_
    refine l_lald E h d_L_law_295 ?_
    refine lv_iload hx hb d_L_law_296 (lv_at hl 0 rfl) ?_
    refine lv_if_eq (tgt := 305) hx hb d_L_law_298 (by decide) (fun h5 => ?_) (fun h5 => ?_)
    · refine lv_lconst (v := 0) hx hb d_L_law_305 rfl ?_
      refine W.lcmp hx hb d_L_law_306 ?_
      refine lv_if_eq (tgt := 312) hx hb d_L_law_307 (by decide) (fun h7 => ?_) (fun h7 => absurd ?_ h7)
      · refine lv_goto (tgt := 745) hx hb d_L_law_312 (by decide) ?_
        exact kk _ _ _ h (lv_sub hl [2, 3, 4, 5, 6] rfl)
      · rw [if_pos (show (sp_F_slip G (xs (4 * j + 1))).1 = 0 from h8)]
        rw [ok.2.1 (h8)] at h5; unfold zL; rw [if_pos h5]
        exact cmp_self _
    · refine lv_lconst (v := 1) hx hb d_L_law_301 rfl ?_
      refine lv_goto (tgt := 306) hx hb d_L_law_302 (by decide) ?_
      refine W.lcmp hx hb d_L_law_306 ?_
      refine lv_if_eq (tgt := 312) hx hb d_L_law_307 (by decide) (fun h7 => ?_) (fun h7 => absurd ?_ h7)
      · refine lv_goto (tgt := 745) hx hb d_L_law_312 (by decide) ?_
        exact kk _ _ _ h (lv_sub hl [2, 3, 4, 5, 6] rfl)
      · rw [if_pos (show (sp_F_slip G (xs (4 * j + 1))).1 = 0 from h8)]
        rw [ok.2.1 (h8)] at h5; unfold zL; rw [if_neg h5]
        exact cmp_self _
set_option maxHeartbeats 4000000 in
set_option maxRecDepth 100000 in
theorem lc_pass {p : Program} {l : Launch} {e : Env} {s : State} {m : MethodId} {below : List Frame} {meth : Method} {c : Code} {H : Heap} {cells slots : Nat} {Q : State → Prop} {ls : Array Slot} {P : gP} {G : Mem} {b L o : Nat} {xs : Nat → Int32} {cL : ClassId} {v : Int64} {i : Int32} {j n : Nat} (Rel : Nat → Mem → Prop) (htr : l.stackTraces = false) (E : lE p s m meth c P b L xs o cL) (h : lH P s o cL v G H) (hl : lv_has ls 7 (lL P b o i)) (hi : i = nI (4 * j)) (hj : 4 * j + 3 < L) (hC : cells + 1 ≤ 1092) (hS : slots + 6 ≤ 8536) (hm : hmC G) (hm2 : hmM (sp_F_pass G (xs (4 * j + 1))).2.2) (ok : okk Rel n (sp_F_pass G (xs (4 * j + 1))) (sp_M_pass (sp_F_pass G (xs (4 * j + 1))).2.2 (xs (4 * j + 1))))
    (kk : ∀ (H1 : Heap) (ls1 : Array Slot) (v1 : Int64), lH P s o cL v1 (sp_M_pass (sp_F_pass G (xs (4 * j + 1))).2.2 (xs (4 * j + 1))).2 H1 → lv_has ls1 7 (lL P b o i) → W p l e room_1 s m #[Value.ref b] below meth c H1 [] (cells + 1) (slots + 6) Q (F0 m 745 ls1 [])) : W p l e room_1 s m #[Value.ref b] below meth c H [] cells slots Q (F0 m 315 ls []) := by
  have hx := E.1.1
  have hb := E.1.2.1
  refine lv_aload_n hx hb d_L_law_315 rfl (lv_at hl 1 rfl) ?_
  refine l_arg 1 E h hl ⟨0, rfl⟩ ⟨4, rfl⟩ hi (by omega) (by decide) d_L_law_316 d_L_law_317 d_L_law_319 d_L_law_320 d_L_law_321 ?_
  refine lv_aload_n hx hb d_L_law_322 rfl (lv_at hl 3 rfl) ?_
  refine l_callH (As := [.ref (gad P 0), .int _, .ref o]) E h hl (c_L_pass l htr P o cL v _ _ hm) lmh_pass (Nat.le_of_ble_eq_true rfl) (Nat.le_of_ble_eq_true rfl) hC hS rfl rfl (Nat.le_of_ble_eq_true rfl) rfl rfl d_L_law_323 (fun H h => ?_)
  refine lv_istore hx hb d_L_law_326 hl (by decide) rfl (fun ls hl => ?_)
  refine lv_aload_n hx hb d_L_law_328 rfl (lv_at hl 3 rfl) ?_
  refine l_arg 1 E h hl ⟨1, rfl⟩ ⟨5, rfl⟩ hi (by omega) (by decide) d_L_law_329 d_L_law_330 d_L_law_332 d_L_law_333 d_L_law_334 ?_
  refine l_callVi (As := [.int _]) E h hl (c_M_pass l P _ _ hm2) lm_L_70 (gc_M rfl) cl_M (Nat.le_of_ble_eq_true rfl) (Nat.le_of_ble_eq_true rfl) hC hS (Nat.le_of_ble_eq_true rfl) rfl rfl rfl rfl d_L_law_335 (fun H h => ?_)
  refine lv_istore hx hb d_L_law_338 hl (by decide) rfl (fun ls hl => ?_)
  refine lv_aload_n hx hb d_L_law_340 rfl (lv_at hl 4 rfl) ?_
  refine l_callVi (As := []) E h hl (c_M_thrown l P _) lm_L_57 (gc_M rfl) cl_M (Nat.le_of_ble_eq_true rfl) (Nat.le_of_ble_eq_true rfl) hC hS (Nat.le_of_ble_eq_true rfl) rfl rfl rfl rfl d_L_law_341 (fun H h => ?_)
  refine lv_iload hx hb d_L_law_344 (lv_at hl 1 rfl) ?_
  refine lv_icmp_eq (tgt := 351) hx hb d_L_law_346 (by decide) (fun h9 => ?_) (fun h9 => absurd ok.1 h9)
  refine lv_iload hx hb d_L_law_351 (lv_at hl 1 rfl) ?_
  refine lv_if_ne (tgt := 368) hx hb d_L_law_353 (by decide) (fun h8 => ?_) (fun h8 => ?_)
  · refine lv_goto (tgt := 745) hx hb d_L_law_368 (by decide) ?_
    exact kk _ _ _ h (lv_sub hl [2, 3, 4, 5, 6] rfl)
  · refine lv_aload_n hx hb d_L_law_356 rfl (lv_at hl 5 rfl) ?_
    refine lv_iconst (v := 0) hx hb d_L_law_357 (by decide) ?_
    refine l_lald E h d_L_law_358 ?_
    refine lv_iload hx hb d_L_law_359 (lv_at hl 0 rfl) ?_
    refine lv_i2l hx hb d_L_law_361 rfl ?_
    refine W.lcmp hx hb d_L_law_362 ?_
    refine lv_if_eq (tgt := 368) hx hb d_L_law_363 (by decide) (fun h7 => ?_) (fun h7 => absurd ?_ h7)
    · refine lv_goto (tgt := 745) hx hb d_L_law_368 (by decide) ?_
      exact kk _ _ _ h (lv_sub hl [2, 3, 4, 5, 6] rfl)
    · rw [if_pos (show (sp_F_pass G (xs (4 * j + 1))).1 = 0 from h8)]
      rw [ok.2.1 (h8)]
      exact cmp_self _
set_option maxHeartbeats 4000000 in
set_option maxRecDepth 100000 in
theorem lc_symbol {p : Program} {l : Launch} {e : Env} {s : State} {m : MethodId} {below : List Frame} {meth : Method} {c : Code} {H : Heap} {cells slots : Nat} {Q : State → Prop} {ls : Array Slot} {P : gP} {G : Mem} {b L o : Nat} {xs : Nat → Int32} {cL : ClassId} {v : Int64} {i : Int32} {j n : Nat} (Rel : Nat → Mem → Prop) (htr : l.stackTraces = false) (E : lE p s m meth c P b L xs o cL) (h : lH P s o cL v G H) (hl : lv_has ls 7 (lL P b o i)) (hi : i = nI (4 * j)) (hj : 4 * j + 3 < L) (hC : cells + 1 ≤ 1092) (hS : slots + 6 ≤ 8536) (ok : okk Rel n (sp_F_symbol G (xs (4 * j + 1))) (sp_M_symbol (sp_F_symbol G (xs (4 * j + 1))).2.2 (xs (4 * j + 1))))
    (kk : ∀ (H1 : Heap) (ls1 : Array Slot) (v1 : Int64), lH P s o cL v1 (sp_M_symbol (sp_F_symbol G (xs (4 * j + 1))).2.2 (xs (4 * j + 1))).2 H1 → lv_has ls1 7 (lL P b o i) → W p l e room_1 s m #[Value.ref b] below meth c H1 [] (cells + 1) (slots + 6) Q (F0 m 745 ls1 [])) : W p l e room_1 s m #[Value.ref b] below meth c H [] cells slots Q (F0 m 371 ls []) := by
  have hx := E.1.1
  have hb := E.1.2.1
  refine lv_aload_n hx hb d_L_law_371 rfl (lv_at hl 1 rfl) ?_
  refine l_arg 1 E h hl ⟨0, rfl⟩ ⟨4, rfl⟩ hi (by omega) (by decide) d_L_law_372 d_L_law_373 d_L_law_375 d_L_law_376 d_L_law_377 ?_
  refine lv_aload_n hx hb d_L_law_378 rfl (lv_at hl 3 rfl) ?_
  refine l_callH (As := [.ref (gad P 0), .int _, .ref o]) E h hl (c_L_symbol l htr P o cL v _ _) lmh_symbol (Nat.le_of_ble_eq_true rfl) (Nat.le_of_ble_eq_true rfl) hC hS rfl rfl (Nat.le_of_ble_eq_true rfl) rfl rfl d_L_law_379 (fun H h => ?_)
  refine lv_istore hx hb d_L_law_382 hl (by decide) rfl (fun ls hl => ?_)
  refine lv_aload_n hx hb d_L_law_384 rfl (lv_at hl 3 rfl) ?_
  refine l_arg 1 E h hl ⟨1, rfl⟩ ⟨5, rfl⟩ hi (by omega) (by decide) d_L_law_385 d_L_law_386 d_L_law_388 d_L_law_389 d_L_law_390 ?_
  refine l_callVi (As := [.int _]) E h hl (c_M_symbol l P _ _) lm_L_73 (gc_M rfl) cl_M (Nat.le_of_ble_eq_true rfl) (Nat.le_of_ble_eq_true rfl) hC hS (Nat.le_of_ble_eq_true rfl) rfl rfl rfl rfl d_L_law_391 (fun H h => ?_)
  refine lv_istore hx hb d_L_law_394 hl (by decide) rfl (fun ls hl => ?_)
  refine lv_aload_n hx hb d_L_law_396 rfl (lv_at hl 4 rfl) ?_
  refine l_callVi (As := []) E h hl (c_M_thrown l P _) lm_L_57 (gc_M rfl) cl_M (Nat.le_of_ble_eq_true rfl) (Nat.le_of_ble_eq_true rfl) hC hS (Nat.le_of_ble_eq_true rfl) rfl rfl rfl rfl d_L_law_397 (fun H h => ?_)
  refine lv_iload hx hb d_L_law_400 (lv_at hl 1 rfl) ?_
  refine lv_icmp_eq (tgt := 407) hx hb d_L_law_402 (by decide) (fun h9 => ?_) (fun h9 => absurd ok.1 h9)
  refine lv_iload hx hb d_L_law_407 (lv_at hl 1 rfl) ?_
  refine lv_if_ne (tgt := 424) hx hb d_L_law_409 (by decide) (fun h8 => ?_) (fun h8 => ?_)
  · refine lv_goto (tgt := 745) hx hb d_L_law_424 (by decide) ?_
    exact kk _ _ _ h (lv_sub hl [2, 3, 4, 5, 6] rfl)
  · refine lv_aload_n hx hb d_L_law_412 rfl (lv_at hl 5 rfl) ?_
    refine lv_iconst (v := 0) hx hb d_L_law_413 (by decide) ?_
    refine l_lald E h d_L_law_414 ?_
    refine lv_iload hx hb d_L_law_415 (lv_at hl 0 rfl) ?_
    refine lv_i2l hx hb d_L_law_417 rfl ?_
    refine W.lcmp hx hb d_L_law_418 ?_
    refine lv_if_eq (tgt := 424) hx hb d_L_law_419 (by decide) (fun h7 => ?_) (fun h7 => absurd ?_ h7)
    · refine lv_goto (tgt := 745) hx hb d_L_law_424 (by decide) ?_
      exact kk _ _ _ h (lv_sub hl [2, 3, 4, 5, 6] rfl)
    · rw [if_pos (show (sp_F_symbol G (xs (4 * j + 1))).1 = 0 from h8)]
      rw [ok.2.1 (h8)]
      exact cmp_self _
set_option maxHeartbeats 4000000 in
set_option maxRecDepth 100000 in
theorem lc_aligned {p : Program} {l : Launch} {e : Env} {s : State} {m : MethodId} {below : List Frame} {meth : Method} {c : Code} {H : Heap} {cells slots : Nat} {Q : State → Prop} {ls : Array Slot} {P : gP} {G : Mem} {b L o : Nat} {xs : Nat → Int32} {cL : ClassId} {v : Int64} {i : Int32} {j n : Nat} (Rel : Nat → Mem → Prop) (htr : l.stackTraces = false) (E : lE p s m meth c P b L xs o cL) (h : lH P s o cL v G H) (hl : lv_has ls 7 (lL P b o i)) (hi : i = nI (4 * j)) (hj : 4 * j + 3 < L) (hC : cells + 1 ≤ 1092) (hS : slots + 6 ≤ 8536) (ok : okk Rel n (sp_F_aligned G (xs (4 * j + 1))) (sp_M_aligned (sp_F_aligned G (xs (4 * j + 1))).2.2 (xs (4 * j + 1))))
    (kk : ∀ (H1 : Heap) (ls1 : Array Slot) (v1 : Int64), lH P s o cL v1 (sp_M_aligned (sp_F_aligned G (xs (4 * j + 1))).2.2 (xs (4 * j + 1))).2 H1 → lv_has ls1 7 (lL P b o i) → W p l e room_1 s m #[Value.ref b] below meth c H1 [] (cells + 1) (slots + 6) Q (F0 m 745 ls1 [])) : W p l e room_1 s m #[Value.ref b] below meth c H [] cells slots Q (F0 m 427 ls []) := by
  have hx := E.1.1
  have hb := E.1.2.1
  refine lv_aload_n hx hb d_L_law_427 rfl (lv_at hl 1 rfl) ?_
  refine l_arg 1 E h hl ⟨0, rfl⟩ ⟨4, rfl⟩ hi (by omega) (by decide) d_L_law_428 d_L_law_429 d_L_law_431 d_L_law_432 d_L_law_433 ?_
  refine lv_aload_n hx hb d_L_law_434 rfl (lv_at hl 3 rfl) ?_
  refine l_callH (As := [.ref (gad P 0), .int _, .ref o]) E h hl (c_L_aligned l htr P o cL v _ _) lmh_aligned (Nat.le_of_ble_eq_true rfl) (Nat.le_of_ble_eq_true rfl) hC hS rfl rfl (Nat.le_of_ble_eq_true rfl) rfl rfl d_L_law_435 (fun H h => ?_)
  refine lv_istore hx hb d_L_law_438 hl (by decide) rfl (fun ls hl => ?_)
  refine lv_aload_n hx hb d_L_law_440 rfl (lv_at hl 3 rfl) ?_
  refine l_arg 1 E h hl ⟨1, rfl⟩ ⟨5, rfl⟩ hi (by omega) (by decide) d_L_law_441 d_L_law_442 d_L_law_444 d_L_law_445 d_L_law_446 ?_
  refine l_callVz (As := [.int _]) E h hl (c_M_aligned l P _ _) lm_L_76 (gc_M rfl) cl_M (Nat.le_of_ble_eq_true rfl) (Nat.le_of_ble_eq_true rfl) hC hS (Nat.le_of_ble_eq_true rfl) rfl rfl rfl rfl d_L_law_447 (fun H h => ?_)
  refine lv_istore hx hb d_L_law_450 hl (by decide) rfl (fun ls hl => ?_)
  refine lv_aload_n hx hb d_L_law_452 rfl (lv_at hl 4 rfl) ?_
  refine l_callVi (As := []) E h hl (c_M_thrown l P _) lm_L_57 (gc_M rfl) cl_M (Nat.le_of_ble_eq_true rfl) (Nat.le_of_ble_eq_true rfl) hC hS (Nat.le_of_ble_eq_true rfl) rfl rfl rfl rfl d_L_law_453 (fun H h => ?_)
  refine lv_iload hx hb d_L_law_456 (lv_at hl 1 rfl) ?_
  refine lv_icmp_eq (tgt := 463) hx hb d_L_law_458 (by decide) (fun h9 => ?_) (fun h9 => absurd ok.1 h9)
  refine lv_iload hx hb d_L_law_463 (lv_at hl 1 rfl) ?_
  refine lv_if_ne (tgt := 487) hx hb d_L_law_465 (by decide) (fun h8 => ?_) (fun h8 => ?_)
  · refine lv_goto (tgt := 745) hx hb d_L_law_487 (by decide) ?_
    exact kk _ _ _ h (lv_sub hl [2, 3, 4, 5, 6] rfl)
  · refine lv_aload_n hx hb d_L_law_468 rfl (lv_at hl 5 rfl) ?_
    refine lv_iconst (v := 0) hx hb d_L_law_469 (by decide) ?_
    refine l_lald E h d_L_law_470 ?_
    refine lv_iload hx hb d_L_law_471 (lv_at hl 0 rfl) ?_
    refine lv_if_eq (tgt := 480) hx hb d_L_law_473 (by decide) (fun h5 => ?_) (fun h5 => ?_)
    · refine lv_lconst (v := 0) hx hb d_L_law_480 rfl ?_
      refine W.lcmp hx hb d_L_law_481 ?_
      refine lv_if_eq (tgt := 487) hx hb d_L_law_482 (by decide) (fun h7 => ?_) (fun h7 => absurd ?_ h7)
      · refine lv_goto (tgt := 745) hx hb d_L_law_487 (by decide) ?_
        exact kk _ _ _ h (lv_sub hl [2, 3, 4, 5, 6] rfl)
      · rw [if_pos (show (sp_F_aligned G (xs (4 * j + 1))).1 = 0 from h8)]
        rw [ok.2.1 (h8)] at h5; unfold zL; rw [if_pos h5]
        exact cmp_self _
    · refine lv_lconst (v := 1) hx hb d_L_law_476 rfl ?_
      refine lv_goto (tgt := 481) hx hb d_L_law_477 (by decide) ?_
      refine W.lcmp hx hb d_L_law_481 ?_
      refine lv_if_eq (tgt := 487) hx hb d_L_law_482 (by decide) (fun h7 => ?_) (fun h7 => absurd ?_ h7)
      · refine lv_goto (tgt := 745) hx hb d_L_law_487 (by decide) ?_
        exact kk _ _ _ h (lv_sub hl [2, 3, 4, 5, 6] rfl)
      · rw [if_pos (show (sp_F_aligned G (xs (4 * j + 1))).1 = 0 from h8)]
        rw [ok.2.1 (h8)] at h5; unfold zL; rw [if_neg h5]
        exact cmp_self _
set_option maxHeartbeats 4000000 in
set_option maxRecDepth 100000 in
theorem lc_frame {p : Program} {l : Launch} {e : Env} {s : State} {m : MethodId} {below : List Frame} {meth : Method} {c : Code} {H : Heap} {cells slots : Nat} {Q : State → Prop} {ls : Array Slot} {P : gP} {G : Mem} {b L o : Nat} {xs : Nat → Int32} {cL : ClassId} {v : Int64} {i : Int32} {j n : Nat} (Rel : Nat → Mem → Prop) (htr : l.stackTraces = false) (E : lE p s m meth c P b L xs o cL) (h : lH P s o cL v G H) (hl : lv_has ls 7 (lL P b o i)) (hi : i = nI (4 * j)) (hj : 4 * j + 3 < L) (hC : cells + 1 ≤ 1092) (hS : slots + 6 ≤ 8536) (ok : okk Rel n (sp_F_frame G (xs (4 * j + 1))) (sp_M_frame (sp_F_frame G (xs (4 * j + 1))).2.2 (xs (4 * j + 1))))
    (kk : ∀ (H1 : Heap) (ls1 : Array Slot) (v1 : Int64), lH P s o cL v1 (sp_M_frame (sp_F_frame G (xs (4 * j + 1))).2.2 (xs (4 * j + 1))).2 H1 → lv_has ls1 7 (lL P b o i) → W p l e room_1 s m #[Value.ref b] below meth c H1 [] (cells + 1) (slots + 6) Q (F0 m 745 ls1 [])) : W p l e room_1 s m #[Value.ref b] below meth c H [] cells slots Q (F0 m 490 ls []) := by
  have hx := E.1.1
  have hb := E.1.2.1
  refine lv_aload_n hx hb d_L_law_490 rfl (lv_at hl 1 rfl) ?_
  refine l_arg 1 E h hl ⟨0, rfl⟩ ⟨4, rfl⟩ hi (by omega) (by decide) d_L_law_491 d_L_law_492 d_L_law_494 d_L_law_495 d_L_law_496 ?_
  refine lv_aload_n hx hb d_L_law_497 rfl (lv_at hl 3 rfl) ?_
  refine l_callH (As := [.ref (gad P 0), .int _, .ref o]) E h hl (c_L_frame l htr P o cL v _ _) lmh_frame (Nat.le_of_ble_eq_true rfl) (Nat.le_of_ble_eq_true rfl) hC hS rfl rfl (Nat.le_of_ble_eq_true rfl) rfl rfl d_L_law_498 (fun H h => ?_)
  refine lv_istore hx hb d_L_law_501 hl (by decide) rfl (fun ls hl => ?_)
  refine lv_aload_n hx hb d_L_law_503 rfl (lv_at hl 3 rfl) ?_
  refine l_arg 1 E h hl ⟨1, rfl⟩ ⟨5, rfl⟩ hi (by omega) (by decide) d_L_law_504 d_L_law_505 d_L_law_507 d_L_law_508 d_L_law_509 ?_
  refine l_callVi (As := [.int _]) E h hl (c_M_frame l P _ _) lm_L_79 (gc_M rfl) cl_M (Nat.le_of_ble_eq_true rfl) (Nat.le_of_ble_eq_true rfl) hC hS (Nat.le_of_ble_eq_true rfl) rfl rfl rfl rfl d_L_law_510 (fun H h => ?_)
  refine lv_istore hx hb d_L_law_513 hl (by decide) rfl (fun ls hl => ?_)
  refine lv_aload_n hx hb d_L_law_515 rfl (lv_at hl 4 rfl) ?_
  refine l_callVi (As := []) E h hl (c_M_thrown l P _) lm_L_57 (gc_M rfl) cl_M (Nat.le_of_ble_eq_true rfl) (Nat.le_of_ble_eq_true rfl) hC hS (Nat.le_of_ble_eq_true rfl) rfl rfl rfl rfl d_L_law_516 (fun H h => ?_)
  refine lv_iload hx hb d_L_law_519 (lv_at hl 1 rfl) ?_
  refine lv_icmp_eq (tgt := 526) hx hb d_L_law_521 (by decide) (fun h9 => ?_) (fun h9 => absurd ok.1 h9)
  refine lv_iload hx hb d_L_law_526 (lv_at hl 1 rfl) ?_
  refine lv_if_ne (tgt := 543) hx hb d_L_law_528 (by decide) (fun h8 => ?_) (fun h8 => ?_)
  · refine lv_goto (tgt := 745) hx hb d_L_law_543 (by decide) ?_
    exact kk _ _ _ h (lv_sub hl [2, 3, 4, 5, 6] rfl)
  · refine lv_aload_n hx hb d_L_law_531 rfl (lv_at hl 5 rfl) ?_
    refine lv_iconst (v := 0) hx hb d_L_law_532 (by decide) ?_
    refine l_lald E h d_L_law_533 ?_
    refine lv_iload hx hb d_L_law_534 (lv_at hl 0 rfl) ?_
    refine lv_i2l hx hb d_L_law_536 rfl ?_
    refine W.lcmp hx hb d_L_law_537 ?_
    refine lv_if_eq (tgt := 543) hx hb d_L_law_538 (by decide) (fun h7 => ?_) (fun h7 => absurd ?_ h7)
    · refine lv_goto (tgt := 745) hx hb d_L_law_543 (by decide) ?_
      exact kk _ _ _ h (lv_sub hl [2, 3, 4, 5, 6] rfl)
    · rw [if_pos (show (sp_F_frame G (xs (4 * j + 1))).1 = 0 from h8)]
      rw [ok.2.1 (h8)]
      exact cmp_self _
set_option maxHeartbeats 4000000 in
set_option maxRecDepth 100000 in
theorem lc_slot {p : Program} {l : Launch} {e : Env} {s : State} {m : MethodId} {below : List Frame} {meth : Method} {c : Code} {H : Heap} {cells slots : Nat} {Q : State → Prop} {ls : Array Slot} {P : gP} {G : Mem} {b L o : Nat} {xs : Nat → Int32} {cL : ClassId} {v : Int64} {i : Int32} {j n : Nat} (Rel : Nat → Mem → Prop) (htr : l.stackTraces = false) (E : lE p s m meth c P b L xs o cL) (h : lH P s o cL v G H) (hl : lv_has ls 7 (lL P b o i)) (hi : i = nI (4 * j)) (hj : 4 * j + 3 < L) (hC : cells + 1 ≤ 1092) (hS : slots + 6 ≤ 8536) (ok : okk Rel n (sp_F_slot G (xs (4 * j + 1)) (xs (4 * j + 2))) (sp_M_slot (sp_F_slot G (xs (4 * j + 1)) (xs (4 * j + 2))).2.2 (xs (4 * j + 1)) (xs (4 * j + 2))))
    (kk : ∀ (H1 : Heap) (ls1 : Array Slot) (v1 : Int64), lH P s o cL v1 (sp_M_slot (sp_F_slot G (xs (4 * j + 1)) (xs (4 * j + 2))).2.2 (xs (4 * j + 1)) (xs (4 * j + 2))).2 H1 → lv_has ls1 7 (lL P b o i) → W p l e room_1 s m #[Value.ref b] below meth c H1 [] (cells + 1) (slots + 6) Q (F0 m 745 ls1 [])) : W p l e room_1 s m #[Value.ref b] below meth c H [] cells slots Q (F0 m 546 ls []) := by
  have hx := E.1.1
  have hb := E.1.2.1
  refine lv_aload_n hx hb d_L_law_546 rfl (lv_at hl 1 rfl) ?_
  refine l_arg 1 E h hl ⟨0, rfl⟩ ⟨4, rfl⟩ hi (by omega) (by decide) d_L_law_547 d_L_law_548 d_L_law_550 d_L_law_551 d_L_law_552 ?_
  refine l_arg 2 E h hl ⟨0, rfl⟩ ⟨4, rfl⟩ hi (by omega) (by decide) d_L_law_553 d_L_law_554 d_L_law_556 d_L_law_557 d_L_law_558 ?_
  refine lv_aload_n hx hb d_L_law_559 rfl (lv_at hl 3 rfl) ?_
  refine l_callH (As := [.ref (gad P 0), .int _, .int _, .ref o]) E h hl (c_L_slot l htr P o cL v _ _ _) lmh_slot (Nat.le_of_ble_eq_true rfl) (Nat.le_of_ble_eq_true rfl) hC hS rfl rfl (Nat.le_of_ble_eq_true rfl) rfl rfl d_L_law_560 (fun H h => ?_)
  refine lv_istore hx hb d_L_law_563 hl (by decide) rfl (fun ls hl => ?_)
  refine lv_aload_n hx hb d_L_law_565 rfl (lv_at hl 3 rfl) ?_
  refine l_arg 1 E h hl ⟨1, rfl⟩ ⟨5, rfl⟩ hi (by omega) (by decide) d_L_law_566 d_L_law_567 d_L_law_569 d_L_law_570 d_L_law_571 ?_
  refine l_arg 2 E h hl ⟨1, rfl⟩ ⟨5, rfl⟩ hi (by omega) (by decide) d_L_law_572 d_L_law_573 d_L_law_575 d_L_law_576 d_L_law_577 ?_
  refine l_callVi (As := [.int _, .int _]) E h hl (c_M_slot l P _ _ _) lm_L_83 (gc_M rfl) cl_M (Nat.le_of_ble_eq_true rfl) (Nat.le_of_ble_eq_true rfl) hC hS (Nat.le_of_ble_eq_true rfl) rfl rfl rfl rfl d_L_law_578 (fun H h => ?_)
  refine lv_istore hx hb d_L_law_581 hl (by decide) rfl (fun ls hl => ?_)
  refine lv_aload_n hx hb d_L_law_583 rfl (lv_at hl 4 rfl) ?_
  refine l_callVi (As := []) E h hl (c_M_thrown l P _) lm_L_57 (gc_M rfl) cl_M (Nat.le_of_ble_eq_true rfl) (Nat.le_of_ble_eq_true rfl) hC hS (Nat.le_of_ble_eq_true rfl) rfl rfl rfl rfl d_L_law_584 (fun H h => ?_)
  refine lv_iload hx hb d_L_law_587 (lv_at hl 1 rfl) ?_
  refine lv_icmp_eq (tgt := 594) hx hb d_L_law_589 (by decide) (fun h9 => ?_) (fun h9 => absurd ok.1 h9)
  refine lv_iload hx hb d_L_law_594 (lv_at hl 1 rfl) ?_
  refine lv_if_ne (tgt := 611) hx hb d_L_law_596 (by decide) (fun h8 => ?_) (fun h8 => ?_)
  · refine lv_goto (tgt := 745) hx hb d_L_law_611 (by decide) ?_
    exact kk _ _ _ h (lv_sub hl [2, 3, 4, 5, 6] rfl)
  · refine lv_aload_n hx hb d_L_law_599 rfl (lv_at hl 5 rfl) ?_
    refine lv_iconst (v := 0) hx hb d_L_law_600 (by decide) ?_
    refine l_lald E h d_L_law_601 ?_
    refine lv_iload hx hb d_L_law_602 (lv_at hl 0 rfl) ?_
    refine lv_i2l hx hb d_L_law_604 rfl ?_
    refine W.lcmp hx hb d_L_law_605 ?_
    refine lv_if_eq (tgt := 611) hx hb d_L_law_606 (by decide) (fun h7 => ?_) (fun h7 => absurd ?_ h7)
    · refine lv_goto (tgt := 745) hx hb d_L_law_611 (by decide) ?_
      exact kk _ _ _ h (lv_sub hl [2, 3, 4, 5, 6] rfl)
    · rw [if_pos (show (sp_F_slot G (xs (4 * j + 1)) (xs (4 * j + 2))).1 = 0 from h8)]
      rw [ok.2.1 (h8)]
      exact cmp_self _
set_option maxHeartbeats 4000000 in
set_option maxRecDepth 100000 in
theorem lc_alarm {p : Program} {l : Launch} {e : Env} {s : State} {m : MethodId} {below : List Frame} {meth : Method} {c : Code} {H : Heap} {cells slots : Nat} {Q : State → Prop} {ls : Array Slot} {P : gP} {G : Mem} {b L o : Nat} {xs : Nat → Int32} {cL : ClassId} {v : Int64} {i : Int32} {j n : Nat} (Rel : Nat → Mem → Prop) (htr : l.stackTraces = false) (E : lE p s m meth c P b L xs o cL) (h : lH P s o cL v G H) (hl : lv_has ls 7 (lL P b o i)) (hi : i = nI (4 * j)) (hj : 4 * j + 3 < L) (hC : cells + 1 ≤ 1092) (hS : slots + 6 ≤ 8536) (ok : okk Rel n (sp_F_alarm G (xs (4 * j + 1))) (sp_M_alarm (sp_F_alarm G (xs (4 * j + 1))).2.2 (xs (4 * j + 1))))
    (kk : ∀ (H1 : Heap) (ls1 : Array Slot) (v1 : Int64), lH P s o cL v1 (sp_M_alarm (sp_F_alarm G (xs (4 * j + 1))).2.2 (xs (4 * j + 1))).2 H1 → lv_has ls1 7 (lL P b o i) → W p l e room_1 s m #[Value.ref b] below meth c H1 [] (cells + 1) (slots + 6) Q (F0 m 745 ls1 [])) : W p l e room_1 s m #[Value.ref b] below meth c H [] cells slots Q (F0 m 614 ls []) := by
  have hx := E.1.1
  have hb := E.1.2.1
  refine lv_aload_n hx hb d_L_law_614 rfl (lv_at hl 1 rfl) ?_
  refine l_arg 1 E h hl ⟨0, rfl⟩ ⟨4, rfl⟩ hi (by omega) (by decide) d_L_law_615 d_L_law_616 d_L_law_618 d_L_law_619 d_L_law_620 ?_
  refine lv_aload_n hx hb d_L_law_621 rfl (lv_at hl 3 rfl) ?_
  refine l_callH (As := [.ref (gad P 0), .int _, .ref o]) E h hl (c_L_alarm l htr P o cL v _ _) lmh_alarm (Nat.le_of_ble_eq_true rfl) (Nat.le_of_ble_eq_true rfl) hC hS rfl rfl (Nat.le_of_ble_eq_true rfl) rfl rfl d_L_law_622 (fun H h => ?_)
  refine lv_istore hx hb d_L_law_625 hl (by decide) rfl (fun ls hl => ?_)
  refine lv_aload_n hx hb d_L_law_627 rfl (lv_at hl 3 rfl) ?_
  refine l_arg 1 E h hl ⟨1, rfl⟩ ⟨5, rfl⟩ hi (by omega) (by decide) d_L_law_628 d_L_law_629 d_L_law_631 d_L_law_632 d_L_law_633 ?_
  refine l_callVz (As := [.int _]) E h hl (c_M_alarm l P _ _) lm_L_86 (gc_M rfl) cl_M (Nat.le_of_ble_eq_true rfl) (Nat.le_of_ble_eq_true rfl) hC hS (Nat.le_of_ble_eq_true rfl) rfl rfl rfl rfl d_L_law_634 (fun H h => ?_)
  refine lv_istore hx hb d_L_law_637 hl (by decide) rfl (fun ls hl => ?_)
  refine lv_aload_n hx hb d_L_law_639 rfl (lv_at hl 4 rfl) ?_
  refine l_callVi (As := []) E h hl (c_M_thrown l P _) lm_L_57 (gc_M rfl) cl_M (Nat.le_of_ble_eq_true rfl) (Nat.le_of_ble_eq_true rfl) hC hS (Nat.le_of_ble_eq_true rfl) rfl rfl rfl rfl d_L_law_640 (fun H h => ?_)
  refine lv_iload hx hb d_L_law_643 (lv_at hl 1 rfl) ?_
  refine lv_icmp_eq (tgt := 650) hx hb d_L_law_645 (by decide) (fun h9 => ?_) (fun h9 => absurd ok.1 h9)
  refine lv_iload hx hb d_L_law_650 (lv_at hl 1 rfl) ?_
  refine lv_if_ne (tgt := 674) hx hb d_L_law_652 (by decide) (fun h8 => ?_) (fun h8 => ?_)
  · refine lv_goto (tgt := 745) hx hb d_L_law_674 (by decide) ?_
    exact kk _ _ _ h (lv_sub hl [2, 3, 4, 5, 6] rfl)
  · refine lv_aload_n hx hb d_L_law_655 rfl (lv_at hl 5 rfl) ?_
    refine lv_iconst (v := 0) hx hb d_L_law_656 (by decide) ?_
    refine l_lald E h d_L_law_657 ?_
    refine lv_iload hx hb d_L_law_658 (lv_at hl 0 rfl) ?_
    refine lv_if_eq (tgt := 667) hx hb d_L_law_660 (by decide) (fun h5 => ?_) (fun h5 => ?_)
    · refine lv_lconst (v := 0) hx hb d_L_law_667 rfl ?_
      refine W.lcmp hx hb d_L_law_668 ?_
      refine lv_if_eq (tgt := 674) hx hb d_L_law_669 (by decide) (fun h7 => ?_) (fun h7 => absurd ?_ h7)
      · refine lv_goto (tgt := 745) hx hb d_L_law_674 (by decide) ?_
        exact kk _ _ _ h (lv_sub hl [2, 3, 4, 5, 6] rfl)
      · rw [if_pos (show (sp_F_alarm G (xs (4 * j + 1))).1 = 0 from h8)]
        rw [ok.2.1 (h8)] at h5; unfold zL; rw [if_pos h5]
        exact cmp_self _
    · refine lv_lconst (v := 1) hx hb d_L_law_663 rfl ?_
      refine lv_goto (tgt := 668) hx hb d_L_law_664 (by decide) ?_
      refine W.lcmp hx hb d_L_law_668 ?_
      refine lv_if_eq (tgt := 674) hx hb d_L_law_669 (by decide) (fun h7 => ?_) (fun h7 => absurd ?_ h7)
      · refine lv_goto (tgt := 745) hx hb d_L_law_674 (by decide) ?_
        exact kk _ _ _ h (lv_sub hl [2, 3, 4, 5, 6] rfl)
      · rw [if_pos (show (sp_F_alarm G (xs (4 * j + 1))).1 = 0 from h8)]
        rw [ok.2.1 (h8)] at h5; unfold zL; rw [if_neg h5]
        exact cmp_self _
set_option maxHeartbeats 4000000 in
set_option maxRecDepth 100000 in
theorem lc_count {p : Program} {l : Launch} {e : Env} {s : State} {m : MethodId} {below : List Frame} {meth : Method} {c : Code} {H : Heap} {cells slots : Nat} {Q : State → Prop} {ls : Array Slot} {P : gP} {G : Mem} {b L o : Nat} {xs : Nat → Int32} {cL : ClassId} {v : Int64} {i : Int32} {j n : Nat} (Rel : Nat → Mem → Prop) (htr : l.stackTraces = false) (E : lE p s m meth c P b L xs o cL) (h : lH P s o cL v G H) (hl : lv_has ls 7 (lL P b o i)) (hi : i = nI (4 * j)) (hj : 4 * j + 3 < L) (hC : cells + 1 ≤ 1092) (hS : slots + 6 ≤ 8536) (ok : okk Rel n (sp_F_count G (xs (4 * j + 1)) (xs (4 * j + 2))) (sp_M_count (sp_F_count G (xs (4 * j + 1)) (xs (4 * j + 2))).2.2 (xs (4 * j + 1)) (xs (4 * j + 2))))
    (kk : ∀ (H1 : Heap) (ls1 : Array Slot) (v1 : Int64), lH P s o cL v1 (sp_M_count (sp_F_count G (xs (4 * j + 1)) (xs (4 * j + 2))).2.2 (xs (4 * j + 1)) (xs (4 * j + 2))).2 H1 → lv_has ls1 7 (lL P b o i) → W p l e room_1 s m #[Value.ref b] below meth c H1 [] (cells + 1) (slots + 6) Q (F0 m 745 ls1 [])) : W p l e room_1 s m #[Value.ref b] below meth c H [] cells slots Q (F0 m 677 ls []) := by
  have hx := E.1.1
  have hb := E.1.2.1
  refine lv_aload_n hx hb d_L_law_677 rfl (lv_at hl 1 rfl) ?_
  refine l_arg 1 E h hl ⟨0, rfl⟩ ⟨4, rfl⟩ hi (by omega) (by decide) d_L_law_678 d_L_law_679 d_L_law_681 d_L_law_682 d_L_law_683 ?_
  refine l_arg 2 E h hl ⟨0, rfl⟩ ⟨4, rfl⟩ hi (by omega) (by decide) d_L_law_684 d_L_law_685 d_L_law_687 d_L_law_688 d_L_law_689 ?_
  refine lv_aload_n hx hb d_L_law_690 rfl (lv_at hl 3 rfl) ?_
  refine l_callH (As := [.ref (gad P 0), .int _, .int _, .ref o]) E h hl (c_L_count l htr P o cL v _ _ _) lmh_count (Nat.le_of_ble_eq_true rfl) (Nat.le_of_ble_eq_true rfl) hC hS rfl rfl (Nat.le_of_ble_eq_true rfl) rfl rfl d_L_law_691 (fun H h => ?_)
  refine lv_istore hx hb d_L_law_694 hl (by decide) rfl (fun ls hl => ?_)
  refine lv_aload_n hx hb d_L_law_696 rfl (lv_at hl 3 rfl) ?_
  refine l_arg 1 E h hl ⟨1, rfl⟩ ⟨5, rfl⟩ hi (by omega) (by decide) d_L_law_697 d_L_law_698 d_L_law_700 d_L_law_701 d_L_law_702 ?_
  refine l_arg 2 E h hl ⟨1, rfl⟩ ⟨5, rfl⟩ hi (by omega) (by decide) d_L_law_703 d_L_law_704 d_L_law_706 d_L_law_707 d_L_law_708 ?_
  refine l_callVi (As := [.int _, .int _]) E h hl (c_M_count l P _ _ _) lm_L_89 (gc_M rfl) cl_M (Nat.le_of_ble_eq_true rfl) (Nat.le_of_ble_eq_true rfl) hC hS (Nat.le_of_ble_eq_true rfl) rfl rfl rfl rfl d_L_law_709 (fun H h => ?_)
  refine lv_istore hx hb d_L_law_712 hl (by decide) rfl (fun ls hl => ?_)
  refine lv_aload_n hx hb d_L_law_714 rfl (lv_at hl 4 rfl) ?_
  refine l_callVi (As := []) E h hl (c_M_thrown l P _) lm_L_57 (gc_M rfl) cl_M (Nat.le_of_ble_eq_true rfl) (Nat.le_of_ble_eq_true rfl) hC hS (Nat.le_of_ble_eq_true rfl) rfl rfl rfl rfl d_L_law_715 (fun H h => ?_)
  refine lv_iload hx hb d_L_law_718 (lv_at hl 1 rfl) ?_
  refine lv_icmp_eq (tgt := 725) hx hb d_L_law_720 (by decide) (fun h9 => ?_) (fun h9 => absurd ok.1 h9)
  refine lv_iload hx hb d_L_law_725 (lv_at hl 1 rfl) ?_
  refine lv_if_ne (tgt := 742) hx hb d_L_law_727 (by decide) (fun h8 => ?_) (fun h8 => ?_)
  · refine lv_goto (tgt := 745) hx hb d_L_law_742 (by decide) ?_
    exact kk _ _ _ h (lv_sub hl [2, 3, 4, 5, 6] rfl)
  · refine lv_aload_n hx hb d_L_law_730 rfl (lv_at hl 5 rfl) ?_
    refine lv_iconst (v := 0) hx hb d_L_law_731 (by decide) ?_
    refine l_lald E h d_L_law_732 ?_
    refine lv_iload hx hb d_L_law_733 (lv_at hl 0 rfl) ?_
    refine lv_i2l hx hb d_L_law_735 rfl ?_
    refine W.lcmp hx hb d_L_law_736 ?_
    refine lv_if_eq (tgt := 742) hx hb d_L_law_737 (by decide) (fun h7 => ?_) (fun h7 => absurd ?_ h7)
    · refine lv_goto (tgt := 745) hx hb d_L_law_742 (by decide) ?_
      exact kk _ _ _ h (lv_sub hl [2, 3, 4, 5, 6] rfl)
    · rw [if_pos (show (sp_F_count G (xs (4 * j + 1)) (xs (4 * j + 2))).1 = 0 from h8)]
      rw [ok.2.1 (h8)]
      exact cmp_self _
