/-! THE LAW'S CALLS: what stands at the head of each, and the steps that all share -/
def zlE (p : Program) (m : MethodId) (c : Code) (s : State) (b : Nat) (X : zq_X) (a0 m0 Ln : Nat) (xs : Nat → Int32) (w0 : Cond) : Prop := (CallFix p m c cL_law 4 s #[Value.ref b] (w0 :: zt) RL) ∧ (zq_K X s) ∧ (zq_L X) ∧ (zq_k X a0 = 9) ∧ (zq_k X m0 = 10) ∧ (zTz X a0 m0) ∧ (va_X b Ln xs s s.heap) ∧ (b < s.heap.size) ∧ (∀ q, zq_A X q → s.heap.size ≤ q) ∧ (Ln ≤ 3072)
theorem zlE.E {p : Program} {m : MethodId} {c : Code} {s : State} {b : Nat} {X : zq_X} {a0 m0 Ln : Nat} {xs : Nat → Int32} {w0 : Cond} (h : zlE p m c s b X a0 m0 Ln xs w0) : CallFix p m c cL_law 4 s #[Value.ref b] (w0 :: zt) RL := h.1
theorem zlE.hZ {p : Program} {m : MethodId} {c : Code} {s : State} {b : Nat} {X : zq_X} {a0 m0 Ln : Nat} {xs : Nat → Int32} {w0 : Cond} (h : zlE p m c s b X a0 m0 Ln xs w0) : zq_K X s := h.2.1
theorem zlE.L {p : Program} {m : MethodId} {c : Code} {s : State} {b : Nat} {X : zq_X} {a0 m0 Ln : Nat} {xs : Nat → Int32} {w0 : Cond} (h : zlE p m c s b X a0 m0 Ln xs w0) : zq_L X := h.2.2.1
theorem zlE.ka {p : Program} {m : MethodId} {c : Code} {s : State} {b : Nat} {X : zq_X} {a0 m0 Ln : Nat} {xs : Nat → Int32} {w0 : Cond} (h : zlE p m c s b X a0 m0 Ln xs w0) : zq_k X a0 = 9 := h.2.2.2.1
theorem zlE.km {p : Program} {m : MethodId} {c : Code} {s : State} {b : Nat} {X : zq_X} {a0 m0 Ln : Nat} {xs : Nat → Int32} {w0 : Cond} (h : zlE p m c s b X a0 m0 Ln xs w0) : zq_k X m0 = 10 := h.2.2.2.2.1
theorem zlE.K {p : Program} {m : MethodId} {c : Code} {s : State} {b : Nat} {X : zq_X} {a0 m0 Ln : Nat} {xs : Nat → Int32} {w0 : Cond} (h : zlE p m c s b X a0 m0 Ln xs w0) : zTz X a0 m0 := h.2.2.2.2.2.1
theorem zlE.hX {p : Program} {m : MethodId} {c : Code} {s : State} {b : Nat} {X : zq_X} {a0 m0 Ln : Nat} {xs : Nat → Int32} {w0 : Cond} (h : zlE p m c s b X a0 m0 Ln xs w0) : va_X b Ln xs s s.heap := h.2.2.2.2.2.2.1
theorem zlE.hbl {p : Program} {m : MethodId} {c : Code} {s : State} {b : Nat} {X : zq_X} {a0 m0 Ln : Nat} {xs : Nat → Int32} {w0 : Cond} (h : zlE p m c s b X a0 m0 Ln xs w0) : b < s.heap.size := h.2.2.2.2.2.2.2.1
theorem zlE.hA {p : Program} {m : MethodId} {c : Code} {s : State} {b : Nat} {X : zq_X} {a0 m0 Ln : Nat} {xs : Nat → Int32} {w0 : Cond} (h : zlE p m c s b X a0 m0 Ln xs w0) : ∀ q, zq_A X q → s.heap.size ≤ q := h.2.2.2.2.2.2.2.2.1
theorem zlE.hLn {p : Program} {m : MethodId} {c : Code} {s : State} {b : Nat} {X : zq_X} {a0 m0 Ln : Nat} {xs : Nat → Int32} {w0 : Cond} (h : zlE p m c s b X a0 m0 Ln xs w0) : Ln ≤ 3072 := h.2.2.2.2.2.2.2.2.2
def zlI (ls : Array Slot) (b a0 m0 Ln : Nat) (i : Int32) (ct : Nat) : Prop := (lv_has ls 4 [(3, .int i), (2, .ref m0), (1, .ref a0), (0, .ref b)]) ∧ (i.toInt = 6 * (ct : Int)) ∧ (6 * ct + 6 ≤ Ln)
theorem zlI.hl {ls : Array Slot} {b a0 m0 Ln : Nat} {i : Int32} {ct : Nat} (h : zlI ls b a0 m0 Ln i ct) : lv_has ls 4 [(3, .int i), (2, .ref m0), (1, .ref a0), (0, .ref b)] := h.1
theorem zlI.hi {ls : Array Slot} {b a0 m0 Ln : Nat} {i : Int32} {ct : Nat} (h : zlI ls b a0 m0 Ln i ct) : i.toInt = 6 * (ct : Int) := h.2.1
theorem zlI.hc {ls : Array Slot} {b a0 m0 Ln : Nat} {i : Int32} {ct : Nat} (h : zlI ls b a0 m0 Ln i ct) : 6 * ct + 6 ≤ Ln := h.2.2
section ZE
variable {p : Program} {l : Launch} {e : Env} {s : State} {m : MethodId} {below : List Frame} {meth : Method} {c : Code} {H : Heap} {locs : List Loc} {cells slots pc : Nat} {Q : State → Prop} {ls : Array Slot} {rest : List Value} {w0 : Cond} {X : zq_X} {b a0 m0 Ln ct : Nat} {xs : Nat → Int32} {i : Int32}
theorem zlE.c6 (C : zlE p m c s b X a0 m0 Ln xs w0) (D : zlI ls b a0 m0 Ln i ct) : ct ≤ 600 := by have := C.hLn; have := D.hc; omega
theorem zlE.z44 (C : zlE p m c s b X a0 m0 Ln xs w0) (D : zlI ls b a0 m0 Ln i ct) : 4 * ct ≤ 4400 ∧ 4 * ct ≤ 4400 := by have := C.hLn; have := D.hc; omega
theorem zlE.z22 (C : zlE p m c s b X a0 m0 Ln xs w0) (D : zlI ls b a0 m0 Ln i ct) : 4 * ct ≤ 2200 := by have := C.hLn; have := D.hc; omega
theorem zlE.bA (C : zlE p m c s b X a0 m0 Ln xs w0) : ¬ zq_A X b := fun h => absurd (C.hA _ h) (by have := C.hbl; omega)
theorem zl_arg (C : zlE p m c s b X a0 m0 Ln xs w0) (D : zlI ls b a0 m0 Ln i ct) (hS : va_S (zq_A X) s.heap H locs) {n : Int} {v : Int32} (d1 : decode cL_law pc = .ok (.aload_n 0, 1)) (d2 : decode cL_law (pc + 1) = .ok (.iload_n 3, 1)) (d3 : decode cL_law (pc + 2) = .ok (.iconst n, 1)) (d4 : decode cL_law (pc + 3) = .ok (.iadd, 1)) (d5 : decode cL_law (pc + 4) = .ok (.iaload, 1)) (hv : Int32.ofInt n = v) (hr : 0 ≤ v.toInt ∧ v.toInt ≤ 5)
    (kk : W p l e room_1 s m #[Value.ref b] below meth c H locs cells slots Q (F0 m (pc + 5) ls (.int (xs (i + v).toNatClampNeg) :: rest))) : W p l e room_1 s m #[Value.ref b] below meth c H locs cells slots Q (F0 m pc ls rest) := by
  refine lv_aload_n C.E.1 C.E.2.1 d1 rfl (lv_at D.hl 3 rfl) ?_
  refine lv_iload_n C.E.1 C.E.2.1 d2 rfl (lv_at D.hl 0 rfl) ?_
  refine lv_iconst C.E.1 C.E.2.1 d3 hv ?_
  refine lv_iadd C.E.1 C.E.2.1 d4 ?_
  have h1 := C.hLn
  have h2 := D.hc
  have h3 := D.hi
  have h4 : (i + v).toInt = 6 * (ct : Int) + v.toInt := zi_add rfl h3 rfl (by omega)
  exact va_sld C.E.1 C.E.2.1 C.hX C.hbl C.bA hS (zq_in ⟨by omega, by omega⟩) d5 kk
theorem zl_bool {x : Int32} (C : zlE p m c s b X a0 m0 Ln xs w0) (d1 : decode cL_law pc = .ok (.ifCond .eq 7, 3)) (d2 : decode cL_law (pc + 3) = .ok (.iconst 1, 1)) (d3 : decode cL_law (pc + 4) = .ok (.goto 4, 3)) (d4 : decode cL_law (pc + 7) = .ok (.iconst 0, 1))
    (kk : ∀ y : Int32, 0 ≤ y.toInt ∧ y.toInt ≤ 1 → W p l e room_1 s m #[Value.ref b] below meth c H locs cells slots Q (F0 m (pc + 8) ls (.int y :: rest))) : W p l e room_1 s m #[Value.ref b] below meth c H locs cells slots Q (F0 m pc ls (.int x :: rest)) := by
  refine lv_if_eq (tgt := pc + 7) C.E.1 C.E.2.1 d1 (by omega) (fun _ => ?_) (fun _ => ?_)
  · exact lv_iconst (v := 0) C.E.1 C.E.2.1 d4 (by decide +kernel) (kk 0 (by decide))
  · refine lv_iconst (v := 1) C.E.1 C.E.2.1 d2 (by decide +kernel) ?_
    exact lv_goto (tgt := pc + 8) C.E.1 C.E.2.1 d3 (by omega) (kk 1 (by decide))
end ZE

set_option maxHeartbeats 2000000 in
theorem zl_c0 {p : Program} {l : Launch} {e : Env} {s : State} {m : MethodId} {below : List Frame} {meth : Method} {c : Code} {H : Heap} {locs : List Loc} {Q : State → Prop} {ls : Array Slot} {w0 : Cond} {X : zq_X} {b a0 m0 Ln ct : Nat} {xs : Nat → Int32} {i : Int32} {I : zq_M} (C : zlE p m c s b X a0 m0 Ln xs w0) (D : zlI ls b a0 m0 Ln i ct) (hM : zq_hm X (4 * ct, 4 * ct) I H) (hS : va_S (zq_A X) s.heap H locs) (hJ : zJ X a0 m0 I ct)
    (kk : ∀ (I2 : zq_M) (H : Heap) (locs : List Loc), zq_hm X (4 * (ct + 1), 4 * (ct + 1)) I2 H → va_S (zq_A X) s.heap H locs → zJ X a0 m0 I2 (ct + 1) → W p l e room_1 s m #[Value.ref b] below meth c H locs 500 15578 Q (F0 m 1246 ls [])) : W p l e room_1 s m #[Value.ref b] below meth c H locs 500 15578 Q (F0 m 176 ls []) := by
  refine lv_aload_n C.E.1 C.E.2.1 dL_law_176 rfl (lv_at D.hl 2 rfl) ?_
  refine zl_arg C D hS (v := 1) dL_law_177 dL_law_178 dL_law_179 dL_law_180 dL_law_181 (by decide +kernel) (by decide) ?_
  refine zl_arg C D hS (v := 2) dL_law_182 dL_law_183 dL_law_184 dL_law_185 dL_law_186 (by decide +kernel) (by decide) ?_
  refine zl_arg C D hS (v := 3) dL_law_187 dL_law_188 dL_law_189 dL_law_190 dL_law_191 (by decide +kernel) (by decide) ?_
  refine zl_arg C D hS (v := 4) dL_law_192 dL_law_193 dL_law_194 dL_law_195 dL_law_196 (by decide +kernel) (by decide) ?_
  refine zl_arg C D hS (v := 5) dL_law_197 dL_law_198 dL_law_199 dL_law_200 dL_law_201 (by decide +kernel) (by decide) ?_
  refine zq_calli (zl_rV (As := [.int (xs (i + 1).toNatClampNeg), .int (xs (i + 2).toNatClampNeg), .int (xs (i + 3).toNatClampNeg), .int (xs (i + 4).toNatClampNeg), .int (xs (i + 5).toNatClampNeg)]) (rest := []) C.E C.hZ hM C.ka (c_X11_feed l X (4 * ct) (4 * ct) I C.L ct a0 C.ka ((xs (i + 1).toNatClampNeg)) ((xs (i + 2).toNatClampNeg)) ((xs (i + 3).toNatClampNeg)) ((xs (i + 4).toNatClampNeg)) ((xs (i + 5).toNatClampNeg)) hJ.1 hJ.2.1 (C.c6 D)) zmL_13 zM_X11_feed ⟨by decide, by decide⟩ (by decide) ⟨by decide, by decide⟩ rfl D.hl.1 rfl rfl (Nat.le_of_ble_eq_true rfl) dL_law_202) hS (fun r2 I2 H locs h2 hM hS => ?_)
  have hJ := hJ.cls C.L C.K h2.1 h2.2.1 h2.2.2.1 (by decide +kernel)
  refine lv_pop C.E.1 C.E.2.1 dL_law_205 rfl ?_
  refine lv_aload_n C.E.1 C.E.2.1 dL_law_206 rfl (lv_at D.hl 1 rfl) ?_
  refine zl_arg C D hS (v := 1) dL_law_207 dL_law_208 dL_law_209 dL_law_210 dL_law_211 (by decide +kernel) (by decide) ?_
  refine zl_arg C D hS (v := 2) dL_law_212 dL_law_213 dL_law_214 dL_law_215 dL_law_216 (by decide +kernel) (by decide) ?_
  refine zl_arg C D hS (v := 3) dL_law_217 dL_law_218 dL_law_219 dL_law_220 dL_law_221 (by decide +kernel) (by decide) ?_
  refine zl_arg C D hS (v := 4) dL_law_222 dL_law_223 dL_law_224 dL_law_225 dL_law_226 (by decide +kernel) (by decide) ?_
  refine zl_arg C D hS (v := 5) dL_law_227 dL_law_228 dL_law_229 dL_law_230 dL_law_231 (by decide +kernel) (by decide) ?_
  refine zq_calli (zl_rV (As := [.int (xs (i + 1).toNatClampNeg), .int (xs (i + 2).toNatClampNeg), .int (xs (i + 3).toNatClampNeg), .int (xs (i + 4).toNatClampNeg), .int (xs (i + 5).toNatClampNeg)]) (rest := []) C.E C.hZ hM C.km (c_X12_feed l X (4 * ct) (4 * ct) I2 C.L m0 C.km ((xs (i + 1).toNatClampNeg)) ((xs (i + 2).toNatClampNeg)) ((xs (i + 3).toNatClampNeg)) ((xs (i + 4).toNatClampNeg)) ((xs (i + 5).toNatClampNeg)) (C.z44 D)) zmL_17 zM_X12_feed ⟨by decide, by decide⟩ (by decide) ⟨by decide, by decide⟩ rfl D.hl.1 rfl rfl (Nat.le_of_ble_eq_true rfl) dL_law_232) hS (fun r3 I3 H locs h3 hM hS => ?_)
  have hJ := hJ.ref C.L C.ka C.K h3.1 (hJ.2.2.1.fr C.L C.km h3.1 (by decide +kernel)) (by decide +kernel)
  refine lv_pop C.E.1 C.E.2.1 dL_law_235 rfl ?_
  refine lv_goto (tgt := 1246) C.E.1 C.E.2.1 dL_law_236 (by decide) ?_
  exact kk _ _ _ (hM.mono (by show 4 * ct ≤ 4 * (ct + 1); omega) (by show 4 * ct ≤ 4 * (ct + 1); omega)) hS hJ
set_option maxHeartbeats 2000000 in
theorem zl_c1 {p : Program} {l : Launch} {e : Env} {s : State} {m : MethodId} {below : List Frame} {meth : Method} {c : Code} {H : Heap} {locs : List Loc} {Q : State → Prop} {ls : Array Slot} {w0 : Cond} {X : zq_X} {b a0 m0 Ln ct : Nat} {xs : Nat → Int32} {i : Int32} {I : zq_M} (C : zlE p m c s b X a0 m0 Ln xs w0) (D : zlI ls b a0 m0 Ln i ct) (hM : zq_hm X (4 * ct, 4 * ct) I H) (hS : va_S (zq_A X) s.heap H locs) (hJ : zJ X a0 m0 I ct)
    (kk : ∀ (I2 : zq_M) (H : Heap) (locs : List Loc), zq_hm X (4 * (ct + 1), 4 * (ct + 1)) I2 H → va_S (zq_A X) s.heap H locs → zJ X a0 m0 I2 (ct + 1) → W p l e room_1 s m #[Value.ref b] below meth c H locs 500 15578 Q (F0 m 1246 ls [])) : W p l e room_1 s m #[Value.ref b] below meth c H locs 500 15578 Q (F0 m 239 ls []) := by
  refine lv_aload_n C.E.1 C.E.2.1 dL_law_239 rfl (lv_at D.hl 2 rfl) ?_
  refine zl_arg C D hS (v := 1) dL_law_240 dL_law_241 dL_law_242 dL_law_243 dL_law_244 (by decide +kernel) (by decide) ?_
  refine zq_calli (zl_rV (As := [.int (xs (i + 1).toNatClampNeg)]) (rest := []) C.E C.hZ hM C.ka (c_X11_end l X (4 * ct) (4 * ct) I C.L ct a0 C.ka ((xs (i + 1).toNatClampNeg)) hJ.1 hJ.2.1 (C.c6 D)) zmL_18 zM_X11_end ⟨by decide, by decide⟩ (by decide) ⟨by decide, by decide⟩ rfl D.hl.1 rfl rfl (Nat.le_of_ble_eq_true rfl) dL_law_245) hS (fun r2 I2 H locs h2 hM hS => ?_)
  have hJ := hJ.cls C.L C.K h2.1 h2.2.1 h2.2.2.1 (by decide +kernel)
  refine lv_pop C.E.1 C.E.2.1 dL_law_248 rfl ?_
  refine lv_aload_n C.E.1 C.E.2.1 dL_law_249 rfl (lv_at D.hl 1 rfl) ?_
  refine zl_arg C D hS (v := 1) dL_law_250 dL_law_251 dL_law_252 dL_law_253 dL_law_254 (by decide +kernel) (by decide) ?_
  refine zq_calli (zl_rV (As := [.int (xs (i + 1).toNatClampNeg)]) (rest := []) C.E C.hZ hM C.km (c_X12_end l X (4 * ct) (4 * ct) I2 C.L m0 C.km ((xs (i + 1).toNatClampNeg)) (C.z44 D)) zmL_22 zM_X12_end ⟨by decide, by decide⟩ (by decide) ⟨by decide, by decide⟩ rfl D.hl.1 rfl rfl (Nat.le_of_ble_eq_true rfl) dL_law_255) hS (fun r3 I3 H locs h3 hM hS => ?_)
  have hJ := hJ.ref C.L C.ka C.K h3.1 (hJ.2.2.1.fr C.L C.km h3.1 (by decide +kernel)) (by decide +kernel)
  refine lv_pop C.E.1 C.E.2.1 dL_law_258 rfl ?_
  refine lv_goto (tgt := 1246) C.E.1 C.E.2.1 dL_law_259 (by decide) ?_
  exact kk _ _ _ (hM.mono (by show 4 * ct ≤ 4 * (ct + 1); omega) (by show 4 * ct ≤ 4 * (ct + 1); omega)) hS hJ
set_option maxHeartbeats 2000000 in
theorem zl_c2 {p : Program} {l : Launch} {e : Env} {s : State} {m : MethodId} {below : List Frame} {meth : Method} {c : Code} {H : Heap} {locs : List Loc} {Q : State → Prop} {ls : Array Slot} {w0 : Cond} {X : zq_X} {b a0 m0 Ln ct : Nat} {xs : Nat → Int32} {i : Int32} {I : zq_M} (C : zlE p m c s b X a0 m0 Ln xs w0) (D : zlI ls b a0 m0 Ln i ct) (hM : zq_hm X (4 * ct, 4 * ct) I H) (hS : va_S (zq_A X) s.heap H locs) (hJ : zJ X a0 m0 I ct)
    (kk : ∀ (I2 : zq_M) (H : Heap) (locs : List Loc), zq_hm X (4 * (ct + 1), 4 * (ct + 1)) I2 H → va_S (zq_A X) s.heap H locs → zJ X a0 m0 I2 (ct + 1) → W p l e room_1 s m #[Value.ref b] below meth c H locs 500 15578 Q (F0 m 1246 ls [])) : W p l e room_1 s m #[Value.ref b] below meth c H locs 500 15578 Q (F0 m 262 ls []) := by
  refine lv_aload_n C.E.1 C.E.2.1 dL_law_262 rfl (lv_at D.hl 2 rfl) ?_
  refine zq_calli (zl_rV (As := []) (rest := []) C.E C.hZ hM C.ka (c_X11_trade l X (4 * ct) (4 * ct) I C.L ct a0 C.ka hJ.1 hJ.2.1 (C.c6 D)) zmL_23 zM_X11_trade ⟨by decide, by decide⟩ (by decide) ⟨by decide, by decide⟩ rfl D.hl.1 rfl rfl (Nat.le_of_ble_eq_true rfl) dL_law_263) hS (fun r2 I2 H locs h2 hM hS => ?_)
  have hJ := hJ.cls C.L C.K h2.1 h2.2.1 h2.2.2 (by decide +kernel)
  refine lv_pop C.E.1 C.E.2.1 dL_law_266 rfl ?_
  refine lv_aload_n C.E.1 C.E.2.1 dL_law_267 rfl (lv_at D.hl 1 rfl) ?_
  refine zq_calli (zl_rV (As := []) (rest := []) C.E C.hZ hM C.km (c_X12_trade l X (4 * ct) (4 * ct) I2 C.L m0 C.km (C.z44 D) hJ.2.2.1) zmL_27 zM_X12_trade ⟨by decide, by decide⟩ (by decide) ⟨by decide, by decide⟩ rfl D.hl.1 rfl rfl (Nat.le_of_ble_eq_true rfl) dL_law_268) hS (fun r3 I3 H locs h3 hM hS => ?_)
  have hJ := hJ.ref C.L C.ka C.K h3.1 h3.2 (by decide +kernel)
  refine lv_pop C.E.1 C.E.2.1 dL_law_271 rfl ?_
  refine lv_goto (tgt := 1246) C.E.1 C.E.2.1 dL_law_272 (by decide) ?_
  exact kk _ _ _ (hM.mono (by show 4 * ct ≤ 4 * (ct + 1); omega) (by show 4 * ct ≤ 4 * (ct + 1); omega)) hS hJ
set_option maxHeartbeats 2000000 in
theorem zl_c3 {p : Program} {l : Launch} {e : Env} {s : State} {m : MethodId} {below : List Frame} {meth : Method} {c : Code} {H : Heap} {locs : List Loc} {Q : State → Prop} {ls : Array Slot} {w0 : Cond} {X : zq_X} {b a0 m0 Ln ct : Nat} {xs : Nat → Int32} {i : Int32} {I : zq_M} (C : zlE p m c s b X a0 m0 Ln xs w0) (D : zlI ls b a0 m0 Ln i ct) (hM : zq_hm X (4 * ct, 4 * ct) I H) (hS : va_S (zq_A X) s.heap H locs) (hJ : zJ X a0 m0 I ct)
    (kk : ∀ (I2 : zq_M) (H : Heap) (locs : List Loc), zq_hm X (4 * (ct + 1), 4 * (ct + 1)) I2 H → va_S (zq_A X) s.heap H locs → zJ X a0 m0 I2 (ct + 1) → W p l e room_1 s m #[Value.ref b] below meth c H locs 500 15578 Q (F0 m 1246 ls [])) : W p l e room_1 s m #[Value.ref b] below meth c H locs 500 15578 Q (F0 m 275 ls []) := by
  refine lv_aload_n C.E.1 C.E.2.1 dL_law_275 rfl (lv_at D.hl 2 rfl) ?_
  refine zq_calli (zl_rV (As := []) (rest := []) C.E C.hZ hM C.ka (c_X11_rule l X (4 * ct) (4 * ct) I C.L ct a0 C.ka hJ.1 hJ.2.1 (C.c6 D)) zmL_28 zM_X11_rule ⟨by decide, by decide⟩ (by decide) ⟨by decide, by decide⟩ rfl D.hl.1 rfl rfl (Nat.le_of_ble_eq_true rfl) dL_law_276) hS (fun r2 I2 H locs h2 hM hS => ?_)
  have hJ := hJ.cls C.L C.K h2.1 h2.2.1 h2.2.2 (by decide +kernel)
  refine lv_pop C.E.1 C.E.2.1 dL_law_279 rfl ?_
  refine lv_aload_n C.E.1 C.E.2.1 dL_law_280 rfl (lv_at D.hl 1 rfl) ?_
  refine zq_calli (zl_rV (As := []) (rest := []) C.E C.hZ hM C.km (c_X12_rule l X (4 * ct) (4 * ct) I2 C.L m0 C.km (C.z44 D) hJ.2.2.1) zmL_31 zM_X12_rule ⟨by decide, by decide⟩ (by decide) ⟨by decide, by decide⟩ rfl D.hl.1 rfl rfl (Nat.le_of_ble_eq_true rfl) dL_law_281) hS (fun r3 I3 H locs h3 hM hS => ?_)
  have hJ := hJ.ref C.L C.ka C.K h3.1 h3.2 (by decide +kernel)
  refine lv_pop C.E.1 C.E.2.1 dL_law_284 rfl ?_
  refine lv_goto (tgt := 1246) C.E.1 C.E.2.1 dL_law_285 (by decide) ?_
  exact kk _ _ _ (hM.mono (by show 4 * ct ≤ 4 * (ct + 1); omega) (by show 4 * ct ≤ 4 * (ct + 1); omega)) hS hJ
set_option maxHeartbeats 2000000 in
theorem zl_c4 {p : Program} {l : Launch} {e : Env} {s : State} {m : MethodId} {below : List Frame} {meth : Method} {c : Code} {H : Heap} {locs : List Loc} {Q : State → Prop} {ls : Array Slot} {w0 : Cond} {X : zq_X} {b a0 m0 Ln ct : Nat} {xs : Nat → Int32} {i : Int32} {I : zq_M} (C : zlE p m c s b X a0 m0 Ln xs w0) (D : zlI ls b a0 m0 Ln i ct) (hM : zq_hm X (4 * ct, 4 * ct) I H) (hS : va_S (zq_A X) s.heap H locs) (hJ : zJ X a0 m0 I ct)
    (kk : ∀ (I2 : zq_M) (H : Heap) (locs : List Loc), zq_hm X (4 * (ct + 1), 4 * (ct + 1)) I2 H → va_S (zq_A X) s.heap H locs → zJ X a0 m0 I2 (ct + 1) → W p l e room_1 s m #[Value.ref b] below meth c H locs 500 15578 Q (F0 m 1246 ls [])) : W p l e room_1 s m #[Value.ref b] below meth c H locs 500 15578 Q (F0 m 288 ls []) := by
  refine lv_aload_n C.E.1 C.E.2.1 dL_law_288 rfl (lv_at D.hl 2 rfl) ?_
  refine zl_arg C D hS (v := 1) dL_law_289 dL_law_290 dL_law_291 dL_law_292 dL_law_293 (by decide +kernel) (by decide) ?_
  refine zq_calli (zl_rV (As := [.int (xs (i + 1).toNatClampNeg)]) (rest := []) C.E C.hZ hM C.ka (c_X11_force l X (4 * ct) (4 * ct) I C.L ct a0 C.ka ((xs (i + 1).toNatClampNeg)) hJ.1 hJ.2.1 (C.c6 D)) zmL_32 zM_X11_force ⟨by decide, by decide⟩ (by decide) ⟨by decide, by decide⟩ rfl D.hl.1 rfl rfl (Nat.le_of_ble_eq_true rfl) dL_law_294) hS (fun r2 I2 H locs h2 hM hS => ?_)
  have hJ := hJ.cls C.L C.K h2.1 h2.2.1 h2.2.2 (by decide +kernel)
  refine lv_pop C.E.1 C.E.2.1 dL_law_297 rfl ?_
  refine lv_aload_n C.E.1 C.E.2.1 dL_law_298 rfl (lv_at D.hl 1 rfl) ?_
  refine zl_arg C D hS (v := 1) dL_law_299 dL_law_300 dL_law_301 dL_law_302 dL_law_303 (by decide +kernel) (by decide) ?_
  refine zq_calli (zl_rV (As := [.int (xs (i + 1).toNatClampNeg)]) (rest := []) C.E C.hZ hM C.km (c_X12_force l X (4 * ct) (4 * ct) I2 C.L m0 C.km ((xs (i + 1).toNatClampNeg)) (C.z44 D)) zmL_35 zM_X12_force ⟨by decide, by decide⟩ (by decide) ⟨by decide, by decide⟩ rfl D.hl.1 rfl rfl (Nat.le_of_ble_eq_true rfl) dL_law_304) hS (fun r3 I3 H locs h3 hM hS => ?_)
  have hJ := hJ.ref C.L C.ka C.K h3.1 (hJ.2.2.1.fr C.L C.km h3.1 (by decide +kernel)) (by decide +kernel)
  refine lv_pop C.E.1 C.E.2.1 dL_law_307 rfl ?_
  refine lv_goto (tgt := 1246) C.E.1 C.E.2.1 dL_law_308 (by decide) ?_
  exact kk _ _ _ (hM.mono (by show 4 * ct ≤ 4 * (ct + 1); omega) (by show 4 * ct ≤ 4 * (ct + 1); omega)) hS hJ
set_option maxHeartbeats 2000000 in
theorem zl_c5 {p : Program} {l : Launch} {e : Env} {s : State} {m : MethodId} {below : List Frame} {meth : Method} {c : Code} {H : Heap} {locs : List Loc} {Q : State → Prop} {ls : Array Slot} {w0 : Cond} {X : zq_X} {b a0 m0 Ln ct : Nat} {xs : Nat → Int32} {i : Int32} {I : zq_M} (C : zlE p m c s b X a0 m0 Ln xs w0) (D : zlI ls b a0 m0 Ln i ct) (hM : zq_hm X (4 * ct, 4 * ct) I H) (hS : va_S (zq_A X) s.heap H locs) (hJ : zJ X a0 m0 I ct)
    (kk : ∀ (I2 : zq_M) (H : Heap) (locs : List Loc), zq_hm X (4 * (ct + 1), 4 * (ct + 1)) I2 H → va_S (zq_A X) s.heap H locs → zJ X a0 m0 I2 (ct + 1) → W p l e room_1 s m #[Value.ref b] below meth c H locs 500 15578 Q (F0 m 1246 ls [])) : W p l e room_1 s m #[Value.ref b] below meth c H locs 500 15578 Q (F0 m 311 ls []) := by
  refine lv_aload_n C.E.1 C.E.2.1 dL_law_311 rfl (lv_at D.hl 2 rfl) ?_
  refine zl_arg C D hS (v := 1) dL_law_312 dL_law_313 dL_law_314 dL_law_315 dL_law_316 (by decide +kernel) (by decide) ?_
  refine zl_arg C D hS (v := 2) dL_law_317 dL_law_318 dL_law_319 dL_law_320 dL_law_321 (by decide +kernel) (by decide) ?_
  refine zq_calli (zl_rV (As := [.int (xs (i + 1).toNatClampNeg), .int (xs (i + 2).toNatClampNeg)]) (rest := []) C.E C.hZ hM C.ka (c_X11_ship l X (4 * ct) (4 * ct) I C.L ct a0 C.ka ((xs (i + 1).toNatClampNeg)) ((xs (i + 2).toNatClampNeg)) hJ.1 hJ.2.1 (C.c6 D)) zmL_36 zM_X11_ship ⟨by decide, by decide⟩ (by decide) ⟨by decide, by decide⟩ rfl D.hl.1 rfl rfl (Nat.le_of_ble_eq_true rfl) dL_law_322) hS (fun r2 I2 H locs h2 hM hS => ?_)
  have e2 := h2.1
  rw [e2] at hM h2
  have hJ : zJ X a0 m0 I (ct + 1) := ⟨h2.2.1, hJ.2⟩
  refine lv_pop C.E.1 C.E.2.1 dL_law_325 rfl ?_
  refine lv_aload_n C.E.1 C.E.2.1 dL_law_326 rfl (lv_at D.hl 1 rfl) ?_
  refine zl_arg C D hS (v := 1) dL_law_327 dL_law_328 dL_law_329 dL_law_330 dL_law_331 (by decide +kernel) (by decide) ?_
  refine zl_arg C D hS (v := 2) dL_law_332 dL_law_333 dL_law_334 dL_law_335 dL_law_336 (by decide +kernel) (by decide) ?_
  refine zq_calli (zl_rV (As := [.int (xs (i + 1).toNatClampNeg), .int (xs (i + 2).toNatClampNeg)]) (rest := []) C.E C.hZ hM C.km (c_X12_ship l X (4 * ct) (4 * ct) I C.L m0 C.km ((xs (i + 1).toNatClampNeg)) ((xs (i + 2).toNatClampNeg)) (C.z44 D)) zmL_40 zM_X12_ship ⟨by decide, by decide⟩ (by decide) ⟨by decide, by decide⟩ rfl D.hl.1 rfl rfl (Nat.le_of_ble_eq_true rfl) dL_law_337) hS (fun r3 I3 H locs h3 hM hS => ?_)
  have e3 := h3.1
  rw [e3] at hM
  refine lv_pop C.E.1 C.E.2.1 dL_law_340 rfl ?_
  refine lv_goto (tgt := 1246) C.E.1 C.E.2.1 dL_law_341 (by decide) ?_
  exact kk _ _ _ (hM.mono (by show 4 * ct ≤ 4 * (ct + 1); omega) (by show 4 * ct ≤ 4 * (ct + 1); omega)) hS hJ
set_option maxHeartbeats 2000000 in
theorem zl_c6 {p : Program} {l : Launch} {e : Env} {s : State} {m : MethodId} {below : List Frame} {meth : Method} {c : Code} {H : Heap} {locs : List Loc} {Q : State → Prop} {ls : Array Slot} {w0 : Cond} {X : zq_X} {b a0 m0 Ln ct : Nat} {xs : Nat → Int32} {i : Int32} {I : zq_M} (C : zlE p m c s b X a0 m0 Ln xs w0) (D : zlI ls b a0 m0 Ln i ct) (hM : zq_hm X (4 * ct, 4 * ct) I H) (hS : va_S (zq_A X) s.heap H locs) (hJ : zJ X a0 m0 I ct)
    (kk : ∀ (I2 : zq_M) (H : Heap) (locs : List Loc), zq_hm X (4 * (ct + 1), 4 * (ct + 1)) I2 H → va_S (zq_A X) s.heap H locs → zJ X a0 m0 I2 (ct + 1) → W p l e room_1 s m #[Value.ref b] below meth c H locs 500 15578 Q (F0 m 1246 ls [])) : W p l e room_1 s m #[Value.ref b] below meth c H locs 500 15578 Q (F0 m 344 ls []) := by
  refine lv_aload_n C.E.1 C.E.2.1 dL_law_344 rfl (lv_at D.hl 2 rfl) ?_
  refine zl_arg C D hS (v := 1) dL_law_345 dL_law_346 dL_law_347 dL_law_348 dL_law_349 (by decide +kernel) (by decide) ?_
  refine zl_arg C D hS (v := 2) dL_law_350 dL_law_351 dL_law_352 dL_law_353 dL_law_354 (by decide +kernel) (by decide) ?_
  refine zq_calli (zl_rV (As := [.int (xs (i + 1).toNatClampNeg), .int (xs (i + 2).toNatClampNeg)]) (rest := []) C.E C.hZ hM C.ka (c_X11_town l X (4 * ct) (4 * ct) I C.L ct a0 C.ka ((xs (i + 1).toNatClampNeg)) ((xs (i + 2).toNatClampNeg)) hJ.1 hJ.2.1 (C.c6 D)) zmL_41 zM_X11_town ⟨by decide, by decide⟩ (by decide) ⟨by decide, by decide⟩ rfl D.hl.1 rfl rfl (Nat.le_of_ble_eq_true rfl) dL_law_355) hS (fun r2 I2 H locs h2 hM hS => ?_)
  have e2 := h2.1
  rw [e2] at hM h2
  have hJ : zJ X a0 m0 I (ct + 1) := ⟨h2.2.1, hJ.2⟩
  refine lv_pop C.E.1 C.E.2.1 dL_law_358 rfl ?_
  refine lv_aload_n C.E.1 C.E.2.1 dL_law_359 rfl (lv_at D.hl 1 rfl) ?_
  refine zl_arg C D hS (v := 1) dL_law_360 dL_law_361 dL_law_362 dL_law_363 dL_law_364 (by decide +kernel) (by decide) ?_
  refine zl_arg C D hS (v := 2) dL_law_365 dL_law_366 dL_law_367 dL_law_368 dL_law_369 (by decide +kernel) (by decide) ?_
  refine zq_calli (zl_rV (As := [.int (xs (i + 1).toNatClampNeg), .int (xs (i + 2).toNatClampNeg)]) (rest := []) C.E C.hZ hM C.km (c_X12_town l X (4 * ct) (4 * ct) I C.L m0 C.km ((xs (i + 1).toNatClampNeg)) ((xs (i + 2).toNatClampNeg)) (C.z44 D)) zmL_44 zM_X12_town ⟨by decide, by decide⟩ (by decide) ⟨by decide, by decide⟩ rfl D.hl.1 rfl rfl (Nat.le_of_ble_eq_true rfl) dL_law_370) hS (fun r3 I3 H locs h3 hM hS => ?_)
  have e3 := h3.1
  rw [e3] at hM
  refine lv_pop C.E.1 C.E.2.1 dL_law_373 rfl ?_
  refine lv_goto (tgt := 1246) C.E.1 C.E.2.1 dL_law_374 (by decide) ?_
  exact kk _ _ _ (hM.mono (by show 4 * ct ≤ 4 * (ct + 1); omega) (by show 4 * ct ≤ 4 * (ct + 1); omega)) hS hJ
set_option maxHeartbeats 2000000 in
theorem zl_c7 {p : Program} {l : Launch} {e : Env} {s : State} {m : MethodId} {below : List Frame} {meth : Method} {c : Code} {H : Heap} {locs : List Loc} {Q : State → Prop} {ls : Array Slot} {w0 : Cond} {X : zq_X} {b a0 m0 Ln ct : Nat} {xs : Nat → Int32} {i : Int32} {I : zq_M} (C : zlE p m c s b X a0 m0 Ln xs w0) (D : zlI ls b a0 m0 Ln i ct) (hM : zq_hm X (4 * ct, 4 * ct) I H) (hS : va_S (zq_A X) s.heap H locs) (hJ : zJ X a0 m0 I ct)
    (kk : ∀ (I2 : zq_M) (H : Heap) (locs : List Loc), zq_hm X (4 * (ct + 1), 4 * (ct + 1)) I2 H → va_S (zq_A X) s.heap H locs → zJ X a0 m0 I2 (ct + 1) → W p l e room_1 s m #[Value.ref b] below meth c H locs 500 15578 Q (F0 m 1246 ls [])) : W p l e room_1 s m #[Value.ref b] below meth c H locs 500 15578 Q (F0 m 377 ls []) := by
  refine lv_aload_n C.E.1 C.E.2.1 dL_law_377 rfl (lv_at D.hl 2 rfl) ?_
  refine zq_calli (zl_rV (As := []) (rest := []) C.E C.hZ hM C.ka (c_X11_month l X (4 * ct) (4 * ct) I C.L ct a0 C.ka hJ.1 hJ.2.1 (C.c6 D)) zmL_45 zM_X11_month ⟨by decide, by decide⟩ (by decide) ⟨by decide, by decide⟩ rfl D.hl.1 rfl rfl (Nat.le_of_ble_eq_true rfl) dL_law_378) hS (fun r2 I2 H locs h2 hM hS => ?_)
  have hJ := hJ.cls C.L C.K h2.1 h2.2.1 h2.2.2 (by decide +kernel)
  refine lv_pop C.E.1 C.E.2.1 dL_law_381 rfl ?_
  refine lv_aload_n C.E.1 C.E.2.1 dL_law_382 rfl (lv_at D.hl 1 rfl) ?_
  refine zq_calli (zl_rV (As := []) (rest := []) C.E C.hZ hM C.km (c_X12_month l X (4 * ct) (4 * ct) I2 C.L m0 C.km (C.z44 D) hJ.2.2.1 (C.z22 D)) zmL_48 zM_X12_month ⟨by decide, by decide⟩ (by decide) ⟨by decide, by decide⟩ rfl D.hl.1 rfl rfl (Nat.le_of_ble_eq_true rfl) dL_law_383) hS (fun r3 I3 H locs h3 hM hS => ?_)
  have hJ := hJ.ref C.L C.ka C.K h3 (hJ.2.2.1.fr C.L C.km h3 (by decide +kernel)) (by decide +kernel)
  refine lv_pop C.E.1 C.E.2.1 dL_law_386 rfl ?_
  refine lv_goto (tgt := 1246) C.E.1 C.E.2.1 dL_law_387 (by decide) ?_
  exact kk _ _ _ (hM.mono (by show 4 * ct ≤ 4 * (ct + 1); omega) (by show 4 * ct + 4 ≤ 4 * (ct + 1); omega)) hS hJ
set_option maxHeartbeats 2000000 in
theorem zl_c8 {p : Program} {l : Launch} {e : Env} {s : State} {m : MethodId} {below : List Frame} {meth : Method} {c : Code} {H : Heap} {locs : List Loc} {Q : State → Prop} {ls : Array Slot} {w0 : Cond} {X : zq_X} {b a0 m0 Ln ct : Nat} {xs : Nat → Int32} {i : Int32} {I : zq_M} (C : zlE p m c s b X a0 m0 Ln xs w0) (D : zlI ls b a0 m0 Ln i ct) (hM : zq_hm X (4 * ct, 4 * ct) I H) (hS : va_S (zq_A X) s.heap H locs) (hJ : zJ X a0 m0 I ct)
    (kk : ∀ (I2 : zq_M) (H : Heap) (locs : List Loc), zq_hm X (4 * (ct + 1), 4 * (ct + 1)) I2 H → va_S (zq_A X) s.heap H locs → zJ X a0 m0 I2 (ct + 1) → W p l e room_1 s m #[Value.ref b] below meth c H locs 500 15578 Q (F0 m 1246 ls [])) : W p l e room_1 s m #[Value.ref b] below meth c H locs 500 15578 Q (F0 m 390 ls []) := by
  refine lv_aload_n C.E.1 C.E.2.1 dL_law_390 rfl (lv_at D.hl 2 rfl) ?_
  refine zl_arg C D hS (v := 1) dL_law_391 dL_law_392 dL_law_393 dL_law_394 dL_law_395 (by decide +kernel) (by decide) ?_
  refine zl_arg C D hS (v := 2) dL_law_396 dL_law_397 dL_law_398 dL_law_399 dL_law_400 (by decide +kernel) (by decide) ?_
  refine zl_arg C D hS (v := 3) dL_law_401 dL_law_402 dL_law_403 dL_law_404 dL_law_405 (by decide +kernel) (by decide) ?_
  refine zl_arg C D hS (v := 4) dL_law_406 dL_law_407 dL_law_408 dL_law_409 dL_law_410 (by decide +kernel) (by decide) ?_
  refine zl_bool C dL_law_411 dL_law_414 dL_law_415 dL_law_418 (fun y1 g1 => ?_)
  refine zq_calli (zl_rV (As := [.int (xs (i + 1).toNatClampNeg), .int (xs (i + 2).toNatClampNeg), .int (xs (i + 3).toNatClampNeg), .int y1]) (rest := []) C.E C.hZ hM C.ka (c_X11_sail l X (4 * ct) (4 * ct) I C.L ct a0 C.ka ((xs (i + 1).toNatClampNeg)) ((xs (i + 2).toNatClampNeg)) ((xs (i + 3).toNatClampNeg)) (y1) g1 hJ.1 hJ.2.1 (C.c6 D)) zmL_49 zM_X11_sail ⟨by decide, by decide⟩ (by decide) ⟨by decide, by decide⟩ rfl D.hl.1 rfl rfl (Nat.le_of_ble_eq_true rfl) dL_law_419) hS (fun r2 I2 H locs h2 hM hS => ?_)
  have hJ := hJ.cls C.L C.K h2.1 h2.2.1 h2.2.2 (by decide +kernel)
  refine lv_pop C.E.1 C.E.2.1 dL_law_422 rfl ?_
  refine lv_aload_n C.E.1 C.E.2.1 dL_law_423 rfl (lv_at D.hl 1 rfl) ?_
  refine zl_arg C D hS (v := 1) dL_law_424 dL_law_425 dL_law_426 dL_law_427 dL_law_428 (by decide +kernel) (by decide) ?_
  refine zl_arg C D hS (v := 2) dL_law_429 dL_law_430 dL_law_431 dL_law_432 dL_law_433 (by decide +kernel) (by decide) ?_
  refine zl_arg C D hS (v := 3) dL_law_434 dL_law_435 dL_law_436 dL_law_437 dL_law_438 (by decide +kernel) (by decide) ?_
  refine zl_arg C D hS (v := 4) dL_law_439 dL_law_440 dL_law_441 dL_law_442 dL_law_443 (by decide +kernel) (by decide) ?_
  refine zl_bool C dL_law_444 dL_law_447 dL_law_448 dL_law_451 (fun y2 g2 => ?_)
  refine zq_calli (zl_rV (As := [.int (xs (i + 1).toNatClampNeg), .int (xs (i + 2).toNatClampNeg), .int (xs (i + 3).toNatClampNeg), .int y2]) (rest := []) C.E C.hZ hM C.km (c_X12_sail l X (4 * ct) (4 * ct) I2 C.L m0 C.km ((xs (i + 1).toNatClampNeg)) ((xs (i + 2).toNatClampNeg)) ((xs (i + 3).toNatClampNeg)) (y2) g2 (C.z44 D) (C.z22 D)) zmL_53 zM_X12_sail ⟨by decide, by decide⟩ (by decide) ⟨by decide, by decide⟩ rfl D.hl.1 rfl rfl (Nat.le_of_ble_eq_true rfl) dL_law_452) hS (fun r3 I3 H locs h3 hM hS => ?_)
  have hJ := hJ.ref C.L C.ka C.K h3 (hJ.2.2.1.fr C.L C.km h3 (by decide +kernel)) (by decide +kernel)
  refine lv_pop C.E.1 C.E.2.1 dL_law_455 rfl ?_
  refine lv_goto (tgt := 1246) C.E.1 C.E.2.1 dL_law_456 (by decide) ?_
  exact kk _ _ _ (hM.mono (by show 4 * ct ≤ 4 * (ct + 1); omega) (by show 4 * ct ≤ 4 * (ct + 1); omega)) hS hJ
set_option maxHeartbeats 2000000 in
theorem zl_c9 {p : Program} {l : Launch} {e : Env} {s : State} {m : MethodId} {below : List Frame} {meth : Method} {c : Code} {H : Heap} {locs : List Loc} {Q : State → Prop} {ls : Array Slot} {w0 : Cond} {X : zq_X} {b a0 m0 Ln ct : Nat} {xs : Nat → Int32} {i : Int32} {I : zq_M} (C : zlE p m c s b X a0 m0 Ln xs w0) (D : zlI ls b a0 m0 Ln i ct) (hM : zq_hm X (4 * ct, 4 * ct) I H) (hS : va_S (zq_A X) s.heap H locs) (hJ : zJ X a0 m0 I ct)
    (kk : ∀ (I2 : zq_M) (H : Heap) (locs : List Loc), zq_hm X (4 * (ct + 1), 4 * (ct + 1)) I2 H → va_S (zq_A X) s.heap H locs → zJ X a0 m0 I2 (ct + 1) → W p l e room_1 s m #[Value.ref b] below meth c H locs 500 15578 Q (F0 m 1246 ls [])) : W p l e room_1 s m #[Value.ref b] below meth c H locs 500 15578 Q (F0 m 459 ls []) := by
  refine lv_aload_n C.E.1 C.E.2.1 dL_law_459 rfl (lv_at D.hl 2 rfl) ?_
  refine zl_arg C D hS (v := 1) dL_law_460 dL_law_461 dL_law_462 dL_law_463 dL_law_464 (by decide +kernel) (by decide) ?_
  refine zl_arg C D hS (v := 2) dL_law_465 dL_law_466 dL_law_467 dL_law_468 dL_law_469 (by decide +kernel) (by decide) ?_
  refine zq_calli (zl_rV (As := [.int (xs (i + 1).toNatClampNeg), .int (xs (i + 2).toNatClampNeg)]) (rest := []) C.E C.hZ hM C.ka (c_X11_teach l X (4 * ct) (4 * ct) I C.L ct a0 C.ka ((xs (i + 1).toNatClampNeg)) ((xs (i + 2).toNatClampNeg)) hJ.1 hJ.2.1 (C.c6 D)) zmL_54 zM_X11_teach ⟨by decide, by decide⟩ (by decide) ⟨by decide, by decide⟩ rfl D.hl.1 rfl rfl (Nat.le_of_ble_eq_true rfl) dL_law_470) hS (fun r2 I2 H locs h2 hM hS => ?_)
  have hJ := hJ.cls C.L C.K h2.1 h2.2.1 h2.2.2.1 (by decide +kernel)
  refine lv_pop C.E.1 C.E.2.1 dL_law_473 rfl ?_
  refine lv_aload_n C.E.1 C.E.2.1 dL_law_474 rfl (lv_at D.hl 1 rfl) ?_
  refine zl_arg C D hS (v := 1) dL_law_475 dL_law_476 dL_law_477 dL_law_478 dL_law_479 (by decide +kernel) (by decide) ?_
  refine zl_arg C D hS (v := 2) dL_law_480 dL_law_481 dL_law_482 dL_law_483 dL_law_484 (by decide +kernel) (by decide) ?_
  refine zq_calli (zl_rV (As := [.int (xs (i + 1).toNatClampNeg), .int (xs (i + 2).toNatClampNeg)]) (rest := []) C.E C.hZ hM C.km (c_X12_teach l X (4 * ct) (4 * ct) I2 C.L m0 C.km ((xs (i + 1).toNatClampNeg)) ((xs (i + 2).toNatClampNeg)) (C.z44 D) (C.z22 D)) zmL_57 zM_X12_teach ⟨by decide, by decide⟩ (by decide) ⟨by decide, by decide⟩ rfl D.hl.1 rfl rfl (Nat.le_of_ble_eq_true rfl) dL_law_485) hS (fun r3 I3 H locs h3 hM hS => ?_)
  have hJ := hJ.ref C.L C.ka C.K h3.1 (hJ.2.2.1.fr C.L C.km h3.1 (by decide +kernel)) (by decide +kernel)
  refine lv_pop C.E.1 C.E.2.1 dL_law_488 rfl ?_
  refine lv_goto (tgt := 1246) C.E.1 C.E.2.1 dL_law_489 (by decide) ?_
  exact kk _ _ _ (hM.mono (by show 4 * ct ≤ 4 * (ct + 1); omega) (by show 4 * ct ≤ 4 * (ct + 1); omega)) hS hJ
set_option maxHeartbeats 2000000 in
theorem zl_c10 {p : Program} {l : Launch} {e : Env} {s : State} {m : MethodId} {below : List Frame} {meth : Method} {c : Code} {H : Heap} {locs : List Loc} {Q : State → Prop} {ls : Array Slot} {w0 : Cond} {X : zq_X} {b a0 m0 Ln ct : Nat} {xs : Nat → Int32} {i : Int32} {I : zq_M} (C : zlE p m c s b X a0 m0 Ln xs w0) (D : zlI ls b a0 m0 Ln i ct) (hM : zq_hm X (4 * ct, 4 * ct) I H) (hS : va_S (zq_A X) s.heap H locs) (hJ : zJ X a0 m0 I ct)
    (kk : ∀ (I2 : zq_M) (H : Heap) (locs : List Loc), zq_hm X (4 * (ct + 1), 4 * (ct + 1)) I2 H → va_S (zq_A X) s.heap H locs → zJ X a0 m0 I2 (ct + 1) → W p l e room_1 s m #[Value.ref b] below meth c H locs 500 15578 Q (F0 m 1246 ls [])) : W p l e room_1 s m #[Value.ref b] below meth c H locs 500 15578 Q (F0 m 492 ls []) := by
  refine lv_aload_n C.E.1 C.E.2.1 dL_law_492 rfl (lv_at D.hl 2 rfl) ?_
  refine zl_arg C D hS (v := 1) dL_law_493 dL_law_494 dL_law_495 dL_law_496 dL_law_497 (by decide +kernel) (by decide) ?_
  refine zq_calli (zl_rV (As := [.int (xs (i + 1).toNatClampNeg)]) (rest := []) C.E C.hZ hM C.ka (c_X11_build l X (4 * ct) (4 * ct) I C.L ct a0 C.ka ((xs (i + 1).toNatClampNeg)) hJ.1 hJ.2.1 (C.c6 D)) zmL_58 zM_X11_build ⟨by decide, by decide⟩ (by decide) ⟨by decide, by decide⟩ rfl D.hl.1 rfl rfl (Nat.le_of_ble_eq_true rfl) dL_law_498) hS (fun r2 I2 H locs h2 hM hS => ?_)
  have hJ := hJ.cls C.L C.K h2.1 h2.2.1 h2.2.2 (by decide +kernel)
  refine lv_pop C.E.1 C.E.2.1 dL_law_501 rfl ?_
  refine lv_aload_n C.E.1 C.E.2.1 dL_law_502 rfl (lv_at D.hl 1 rfl) ?_
  refine zl_arg C D hS (v := 1) dL_law_503 dL_law_504 dL_law_505 dL_law_506 dL_law_507 (by decide +kernel) (by decide) ?_
  refine zq_calli (zl_rV (As := [.int (xs (i + 1).toNatClampNeg)]) (rest := []) C.E C.hZ hM C.km (c_X12_build l X (4 * ct) (4 * ct) I2 C.L m0 C.km ((xs (i + 1).toNatClampNeg)) (C.z44 D) (C.z22 D)) zmL_61 zM_X12_build ⟨by decide, by decide⟩ (by decide) ⟨by decide, by decide⟩ rfl D.hl.1 rfl rfl (Nat.le_of_ble_eq_true rfl) dL_law_508) hS (fun r3 I3 H locs h3 hM hS => ?_)
  have hJ := hJ.ref C.L C.ka C.K h3 (hJ.2.2.1.fr C.L C.km h3 (by decide +kernel)) (by decide +kernel)
  refine lv_pop C.E.1 C.E.2.1 dL_law_511 rfl ?_
  refine lv_goto (tgt := 1246) C.E.1 C.E.2.1 dL_law_512 (by decide) ?_
  exact kk _ _ _ (hM.mono (by show 4 * ct ≤ 4 * (ct + 1); omega) (by show 4 * ct ≤ 4 * (ct + 1); omega)) hS hJ
set_option maxHeartbeats 2000000 in
theorem zl_c11 {p : Program} {l : Launch} {e : Env} {s : State} {m : MethodId} {below : List Frame} {meth : Method} {c : Code} {H : Heap} {locs : List Loc} {Q : State → Prop} {ls : Array Slot} {w0 : Cond} {X : zq_X} {b a0 m0 Ln ct : Nat} {xs : Nat → Int32} {i : Int32} {I : zq_M} (C : zlE p m c s b X a0 m0 Ln xs w0) (D : zlI ls b a0 m0 Ln i ct) (hM : zq_hm X (4 * ct, 4 * ct) I H) (hS : va_S (zq_A X) s.heap H locs) (hJ : zJ X a0 m0 I ct)
    (kk : ∀ (I2 : zq_M) (H : Heap) (locs : List Loc), zq_hm X (4 * (ct + 1), 4 * (ct + 1)) I2 H → va_S (zq_A X) s.heap H locs → zJ X a0 m0 I2 (ct + 1) → W p l e room_1 s m #[Value.ref b] below meth c H locs 500 15578 Q (F0 m 1246 ls [])) : W p l e room_1 s m #[Value.ref b] below meth c H locs 500 15578 Q (F0 m 515 ls []) := by
  refine lv_aload_n C.E.1 C.E.2.1 dL_law_515 rfl (lv_at D.hl 2 rfl) ?_
  refine zl_arg C D hS (v := 1) dL_law_516 dL_law_517 dL_law_518 dL_law_519 dL_law_520 (by decide +kernel) (by decide) ?_
  refine zl_arg C D hS (v := 2) dL_law_521 dL_law_522 dL_law_523 dL_law_524 dL_law_525 (by decide +kernel) (by decide) ?_
  refine zq_calli (zl_rV (As := [.int (xs (i + 1).toNatClampNeg), .int (xs (i + 2).toNatClampNeg)]) (rest := []) C.E C.hZ hM C.ka (c_X11_ask l X (4 * ct) (4 * ct) I C.L ct a0 C.ka ((xs (i + 1).toNatClampNeg)) ((xs (i + 2).toNatClampNeg)) hJ.1 hJ.2.1 (C.c6 D)) zmL_62 zM_X11_ask ⟨by decide, by decide⟩ (by decide) ⟨by decide, by decide⟩ rfl D.hl.1 rfl rfl (Nat.le_of_ble_eq_true rfl) dL_law_526) hS (fun r2 I2 H locs h2 hM hS => ?_)
  have hJ := hJ.cls C.L C.K h2.1 h2.2.1 h2.2.2.1 (by decide +kernel)
  refine lv_pop C.E.1 C.E.2.1 dL_law_529 rfl ?_
  refine lv_aload_n C.E.1 C.E.2.1 dL_law_530 rfl (lv_at D.hl 1 rfl) ?_
  refine zl_arg C D hS (v := 1) dL_law_531 dL_law_532 dL_law_533 dL_law_534 dL_law_535 (by decide +kernel) (by decide) ?_
  refine zl_arg C D hS (v := 2) dL_law_536 dL_law_537 dL_law_538 dL_law_539 dL_law_540 (by decide +kernel) (by decide) ?_
  refine zq_calli (zl_rV (As := [.int (xs (i + 1).toNatClampNeg), .int (xs (i + 2).toNatClampNeg)]) (rest := []) C.E C.hZ hM C.km (c_X12_ask l X (4 * ct) (4 * ct) I2 C.L m0 C.km ((xs (i + 1).toNatClampNeg)) ((xs (i + 2).toNatClampNeg)) (C.z44 D) (C.z22 D)) zmL_65 zM_X12_ask ⟨by decide, by decide⟩ (by decide) ⟨by decide, by decide⟩ rfl D.hl.1 rfl rfl (Nat.le_of_ble_eq_true rfl) dL_law_541) hS (fun r3 I3 H locs h3 hM hS => ?_)
  have hJ := hJ.ref C.L C.ka C.K h3.1 (hJ.2.2.1.fr C.L C.km h3.1 (by decide +kernel)) (by decide +kernel)
  refine lv_pop C.E.1 C.E.2.1 dL_law_544 rfl ?_
  refine lv_goto (tgt := 1246) C.E.1 C.E.2.1 dL_law_545 (by decide) ?_
  exact kk _ _ _ (hM.mono (by show 4 * ct ≤ 4 * (ct + 1); omega) (by show 4 * ct ≤ 4 * (ct + 1); omega)) hS hJ
set_option maxHeartbeats 2000000 in
theorem zl_c12 {p : Program} {l : Launch} {e : Env} {s : State} {m : MethodId} {below : List Frame} {meth : Method} {c : Code} {H : Heap} {locs : List Loc} {Q : State → Prop} {ls : Array Slot} {w0 : Cond} {X : zq_X} {b a0 m0 Ln ct : Nat} {xs : Nat → Int32} {i : Int32} {I : zq_M} (C : zlE p m c s b X a0 m0 Ln xs w0) (D : zlI ls b a0 m0 Ln i ct) (hM : zq_hm X (4 * ct, 4 * ct) I H) (hS : va_S (zq_A X) s.heap H locs) (hJ : zJ X a0 m0 I ct)
    (kk : ∀ (I2 : zq_M) (H : Heap) (locs : List Loc), zq_hm X (4 * (ct + 1), 4 * (ct + 1)) I2 H → va_S (zq_A X) s.heap H locs → zJ X a0 m0 I2 (ct + 1) → W p l e room_1 s m #[Value.ref b] below meth c H locs 500 15578 Q (F0 m 1246 ls [])) : W p l e room_1 s m #[Value.ref b] below meth c H locs 500 15578 Q (F0 m 548 ls []) := by
  refine lv_aload_n C.E.1 C.E.2.1 dL_law_548 rfl (lv_at D.hl 2 rfl) ?_
  refine zq_calli (zl_rV (As := []) (rest := []) C.E C.hZ hM C.ka (c_X11_undo l X (4 * ct) (4 * ct) I C.L ct a0 C.ka hJ.1 hJ.2.1 (C.c6 D)) zmL_66 zM_X11_undo ⟨by decide, by decide⟩ (by decide) ⟨by decide, by decide⟩ rfl D.hl.1 rfl rfl (Nat.le_of_ble_eq_true rfl) dL_law_549) hS (fun r2 I2 H locs h2 hM hS => ?_)
  have hJ := hJ.cls C.L C.K h2.1 h2.2.1 h2.2.2 (by decide +kernel)
  refine lv_pop C.E.1 C.E.2.1 dL_law_552 rfl ?_
  refine lv_aload_n C.E.1 C.E.2.1 dL_law_553 rfl (lv_at D.hl 1 rfl) ?_
  refine zq_calli (zl_rV (As := []) (rest := []) C.E C.hZ hM C.km (c_X12_undo l X (4 * ct) (4 * ct) I2 C.L m0 C.km (C.z44 D)) zmL_69 zM_X12_undo ⟨by decide, by decide⟩ (by decide) ⟨by decide, by decide⟩ rfl D.hl.1 rfl rfl (Nat.le_of_ble_eq_true rfl) dL_law_554) hS (fun r3 I3 H locs h3 hM hS => ?_)
  have hJ := hJ.ref C.L C.ka C.K h3.1 (hJ.2.2.1.fr C.L C.km h3.1 (by decide +kernel)) (by decide +kernel)
  refine lv_pop C.E.1 C.E.2.1 dL_law_557 rfl ?_
  refine lv_goto (tgt := 1246) C.E.1 C.E.2.1 dL_law_558 (by decide) ?_
  exact kk _ _ _ (hM.mono (by show 4 * ct ≤ 4 * (ct + 1); omega) (by show 4 * ct ≤ 4 * (ct + 1); omega)) hS hJ
set_option maxHeartbeats 2000000 in
theorem zl_c13 {p : Program} {l : Launch} {e : Env} {s : State} {m : MethodId} {below : List Frame} {meth : Method} {c : Code} {H : Heap} {locs : List Loc} {Q : State → Prop} {ls : Array Slot} {w0 : Cond} {X : zq_X} {b a0 m0 Ln ct : Nat} {xs : Nat → Int32} {i : Int32} {I : zq_M} (C : zlE p m c s b X a0 m0 Ln xs w0) (D : zlI ls b a0 m0 Ln i ct) (hM : zq_hm X (4 * ct, 4 * ct) I H) (hS : va_S (zq_A X) s.heap H locs) (hJ : zJ X a0 m0 I ct)
    (kk : ∀ (I2 : zq_M) (H : Heap) (locs : List Loc), zq_hm X (4 * (ct + 1), 4 * (ct + 1)) I2 H → va_S (zq_A X) s.heap H locs → zJ X a0 m0 I2 (ct + 1) → W p l e room_1 s m #[Value.ref b] below meth c H locs 500 15578 Q (F0 m 1246 ls [])) : W p l e room_1 s m #[Value.ref b] below meth c H locs 500 15578 Q (F0 m 561 ls []) := by
  refine lv_aload_n C.E.1 C.E.2.1 dL_law_561 rfl (lv_at D.hl 2 rfl) ?_
  refine zl_arg C D hS (v := 1) dL_law_562 dL_law_563 dL_law_564 dL_law_565 dL_law_566 (by decide +kernel) (by decide) ?_
  refine zl_arg C D hS (v := 2) dL_law_567 dL_law_568 dL_law_569 dL_law_570 dL_law_571 (by decide +kernel) (by decide) ?_
  refine zl_arg C D hS (v := 3) dL_law_572 dL_law_573 dL_law_574 dL_law_575 dL_law_576 (by decide +kernel) (by decide) ?_
  refine zq_calli (zl_rV (As := [.int (xs (i + 1).toNatClampNeg), .int (xs (i + 2).toNatClampNeg), .int (xs (i + 3).toNatClampNeg)]) (rest := []) C.E C.hZ hM C.ka (c_X11_ahead l X (4 * ct) (4 * ct) I C.L ct a0 C.ka ((xs (i + 1).toNatClampNeg)) ((xs (i + 2).toNatClampNeg)) ((xs (i + 3).toNatClampNeg)) hJ.1 hJ.2.1 (C.c6 D)) zmL_70 zM_X11_ahead ⟨by decide, by decide⟩ (by decide) ⟨by decide, by decide⟩ rfl D.hl.1 rfl rfl (Nat.le_of_ble_eq_true rfl) dL_law_577) hS (fun r2 I2 H locs h2 hM hS => ?_)
  have hJ := hJ.cls C.L C.K h2.1 h2.2.1 h2.2.2 (by decide +kernel)
  refine lv_pop C.E.1 C.E.2.1 dL_law_580 rfl ?_
  refine lv_aload_n C.E.1 C.E.2.1 dL_law_581 rfl (lv_at D.hl 1 rfl) ?_
  refine zl_arg C D hS (v := 1) dL_law_582 dL_law_583 dL_law_584 dL_law_585 dL_law_586 (by decide +kernel) (by decide) ?_
  refine zl_arg C D hS (v := 2) dL_law_587 dL_law_588 dL_law_589 dL_law_590 dL_law_591 (by decide +kernel) (by decide) ?_
  refine zl_arg C D hS (v := 3) dL_law_592 dL_law_593 dL_law_594 dL_law_595 dL_law_596 (by decide +kernel) (by decide) ?_
  refine zq_calli (zl_rV (As := [.int (xs (i + 1).toNatClampNeg), .int (xs (i + 2).toNatClampNeg), .int (xs (i + 3).toNatClampNeg)]) (rest := []) C.E C.hZ hM C.km (c_X12_ahead l X (4 * ct) (4 * ct) I2 C.L m0 C.km ((xs (i + 1).toNatClampNeg)) ((xs (i + 2).toNatClampNeg)) ((xs (i + 3).toNatClampNeg)) (C.z44 D) hJ.2.2.1 (C.z22 D)) zmL_74 zM_X12_ahead ⟨by decide, by decide⟩ (by decide) ⟨by decide, by decide⟩ rfl D.hl.1 rfl rfl (Nat.le_of_ble_eq_true rfl) dL_law_597) hS (fun r3 I3 H locs h3 hM hS => ?_)
  have hJ := hJ.ref C.L C.ka C.K h3 (hJ.2.2.1.fr C.L C.km h3 (by decide +kernel)) (by decide +kernel)
  refine lv_pop C.E.1 C.E.2.1 dL_law_600 rfl ?_
  refine lv_goto (tgt := 1246) C.E.1 C.E.2.1 dL_law_601 (by decide) ?_
  exact kk _ _ _ (hM.mono (by show 4 * ct ≤ 4 * (ct + 1); omega) (by show 4 * ct ≤ 4 * (ct + 1); omega)) hS hJ
set_option maxHeartbeats 2000000 in
theorem zl_c14 {p : Program} {l : Launch} {e : Env} {s : State} {m : MethodId} {below : List Frame} {meth : Method} {c : Code} {H : Heap} {locs : List Loc} {Q : State → Prop} {ls : Array Slot} {w0 : Cond} {X : zq_X} {b a0 m0 Ln ct : Nat} {xs : Nat → Int32} {i : Int32} {I : zq_M} (C : zlE p m c s b X a0 m0 Ln xs w0) (D : zlI ls b a0 m0 Ln i ct) (hM : zq_hm X (4 * ct, 4 * ct) I H) (hS : va_S (zq_A X) s.heap H locs) (hJ : zJ X a0 m0 I ct)
    (kk : ∀ (I2 : zq_M) (H : Heap) (locs : List Loc), zq_hm X (4 * (ct + 1), 4 * (ct + 1)) I2 H → va_S (zq_A X) s.heap H locs → zJ X a0 m0 I2 (ct + 1) → W p l e room_1 s m #[Value.ref b] below meth c H locs 500 15578 Q (F0 m 1246 ls [])) : W p l e room_1 s m #[Value.ref b] below meth c H locs 500 15578 Q (F0 m 604 ls []) := by
  refine lv_aload_n C.E.1 C.E.2.1 dL_law_604 rfl (lv_at D.hl 2 rfl) ?_
  refine zl_arg C D hS (v := 1) dL_law_605 dL_law_606 dL_law_607 dL_law_608 dL_law_609 (by decide +kernel) (by decide) ?_
  refine zl_arg C D hS (v := 2) dL_law_610 dL_law_611 dL_law_612 dL_law_613 dL_law_614 (by decide +kernel) (by decide) ?_
  refine zl_arg C D hS (v := 3) dL_law_615 dL_law_616 dL_law_617 dL_law_618 dL_law_619 (by decide +kernel) (by decide) ?_
  refine zl_bool C dL_law_620 dL_law_623 dL_law_624 dL_law_627 (fun y1 g1 => ?_)
  refine zq_calli (zl_rV (As := [.int (xs (i + 1).toNatClampNeg), .int (xs (i + 2).toNatClampNeg), .int y1]) (rest := []) C.E C.hZ hM C.ka (c_X11_comes l X (4 * ct) (4 * ct) I C.L ct a0 C.ka ((xs (i + 1).toNatClampNeg)) ((xs (i + 2).toNatClampNeg)) (y1) g1 hJ.1 hJ.2.1 (C.c6 D)) zmL_75 zM_X11_comes ⟨by decide, by decide⟩ (by decide) ⟨by decide, by decide⟩ rfl D.hl.1 rfl rfl (Nat.le_of_ble_eq_true rfl) dL_law_628) hS (fun r2 I2 H locs h2 hM hS => ?_)
  have e2 := h2.1
  rw [e2] at hM h2
  have hJ : zJ X a0 m0 I (ct + 1) := ⟨h2.2.1, hJ.2⟩
  refine lv_pop C.E.1 C.E.2.1 dL_law_631 rfl ?_
  refine lv_aload_n C.E.1 C.E.2.1 dL_law_632 rfl (lv_at D.hl 1 rfl) ?_
  refine zl_arg C D hS (v := 1) dL_law_633 dL_law_634 dL_law_635 dL_law_636 dL_law_637 (by decide +kernel) (by decide) ?_
  refine zl_arg C D hS (v := 2) dL_law_638 dL_law_639 dL_law_640 dL_law_641 dL_law_642 (by decide +kernel) (by decide) ?_
  refine zl_arg C D hS (v := 3) dL_law_643 dL_law_644 dL_law_645 dL_law_646 dL_law_647 (by decide +kernel) (by decide) ?_
  refine zl_bool C dL_law_648 dL_law_651 dL_law_652 dL_law_655 (fun y2 g2 => ?_)
  refine zq_calli (zl_rV (As := [.int (xs (i + 1).toNatClampNeg), .int (xs (i + 2).toNatClampNeg), .int y2]) (rest := []) C.E C.hZ hM C.km (c_X12_comes l X (4 * ct) (4 * ct) I C.L m0 C.km ((xs (i + 1).toNatClampNeg)) ((xs (i + 2).toNatClampNeg)) (y2) g2 (C.z44 D)) zmL_79 zM_X12_comes ⟨by decide, by decide⟩ (by decide) ⟨by decide, by decide⟩ rfl D.hl.1 rfl rfl (Nat.le_of_ble_eq_true rfl) dL_law_656) hS (fun r3 I3 H locs h3 hM hS => ?_)
  have e3 := h3.1
  rw [e3] at hM
  refine lv_pop C.E.1 C.E.2.1 dL_law_659 rfl ?_
  refine lv_goto (tgt := 1246) C.E.1 C.E.2.1 dL_law_660 (by decide) ?_
  exact kk _ _ _ (hM.mono (by show 4 * ct ≤ 4 * (ct + 1); omega) (by show 4 * ct ≤ 4 * (ct + 1); omega)) hS hJ
set_option maxHeartbeats 2000000 in
theorem zl_c15 {p : Program} {l : Launch} {e : Env} {s : State} {m : MethodId} {below : List Frame} {meth : Method} {c : Code} {H : Heap} {locs : List Loc} {Q : State → Prop} {ls : Array Slot} {w0 : Cond} {X : zq_X} {b a0 m0 Ln ct : Nat} {xs : Nat → Int32} {i : Int32} {I : zq_M} (C : zlE p m c s b X a0 m0 Ln xs w0) (D : zlI ls b a0 m0 Ln i ct) (hM : zq_hm X (4 * ct, 4 * ct) I H) (hS : va_S (zq_A X) s.heap H locs) (hJ : zJ X a0 m0 I ct)
    (kk : ∀ (I2 : zq_M) (H : Heap) (locs : List Loc), zq_hm X (4 * (ct + 1), 4 * (ct + 1)) I2 H → va_S (zq_A X) s.heap H locs → zJ X a0 m0 I2 (ct + 1) → W p l e room_1 s m #[Value.ref b] below meth c H locs 500 15578 Q (F0 m 1246 ls [])) : W p l e room_1 s m #[Value.ref b] below meth c H locs 500 15578 Q (F0 m 663 ls []) := by
  refine lv_aload_n C.E.1 C.E.2.1 dL_law_663 rfl (lv_at D.hl 2 rfl) ?_
  refine zl_arg C D hS (v := 1) dL_law_664 dL_law_665 dL_law_666 dL_law_667 dL_law_668 (by decide +kernel) (by decide) ?_
  refine zl_arg C D hS (v := 2) dL_law_669 dL_law_670 dL_law_671 dL_law_672 dL_law_673 (by decide +kernel) (by decide) ?_
  refine zl_arg C D hS (v := 3) dL_law_674 dL_law_675 dL_law_676 dL_law_677 dL_law_678 (by decide +kernel) (by decide) ?_
  refine zl_bool C dL_law_679 dL_law_682 dL_law_683 dL_law_686 (fun y1 g1 => ?_)
  refine zq_calli (zl_rV (As := [.int (xs (i + 1).toNatClampNeg), .int (xs (i + 2).toNatClampNeg), .int y1]) (rest := []) C.E C.hZ hM C.ka (c_X11_load l X (4 * ct) (4 * ct) I C.L ct a0 C.ka ((xs (i + 1).toNatClampNeg)) ((xs (i + 2).toNatClampNeg)) (y1) g1 hJ.1 hJ.2.1 (C.c6 D)) zmL_80 zM_X11_load ⟨by decide, by decide⟩ (by decide) ⟨by decide, by decide⟩ rfl D.hl.1 rfl rfl (Nat.le_of_ble_eq_true rfl) dL_law_687) hS (fun r2 I2 H locs h2 hM hS => ?_)
  have e2 := h2.1
  rw [e2] at hM h2
  have hJ : zJ X a0 m0 I (ct + 1) := ⟨h2.2.1, hJ.2⟩
  refine lv_pop C.E.1 C.E.2.1 dL_law_690 rfl ?_
  refine lv_aload_n C.E.1 C.E.2.1 dL_law_691 rfl (lv_at D.hl 1 rfl) ?_
  refine zl_arg C D hS (v := 1) dL_law_692 dL_law_693 dL_law_694 dL_law_695 dL_law_696 (by decide +kernel) (by decide) ?_
  refine zl_arg C D hS (v := 2) dL_law_697 dL_law_698 dL_law_699 dL_law_700 dL_law_701 (by decide +kernel) (by decide) ?_
  refine zl_arg C D hS (v := 3) dL_law_702 dL_law_703 dL_law_704 dL_law_705 dL_law_706 (by decide +kernel) (by decide) ?_
  refine zl_bool C dL_law_707 dL_law_710 dL_law_711 dL_law_714 (fun y2 g2 => ?_)
  refine zq_calli (zl_rV (As := [.int (xs (i + 1).toNatClampNeg), .int (xs (i + 2).toNatClampNeg), .int y2]) (rest := []) C.E C.hZ hM C.km (c_X12_load l X (4 * ct) (4 * ct) I C.L m0 C.km ((xs (i + 1).toNatClampNeg)) ((xs (i + 2).toNatClampNeg)) (y2) g2 (C.z44 D)) zmL_83 zM_X12_load ⟨by decide, by decide⟩ (by decide) ⟨by decide, by decide⟩ rfl D.hl.1 rfl rfl (Nat.le_of_ble_eq_true rfl) dL_law_715) hS (fun r3 I3 H locs h3 hM hS => ?_)
  have e3 := h3.1
  rw [e3] at hM
  refine lv_pop C.E.1 C.E.2.1 dL_law_718 rfl ?_
  refine lv_goto (tgt := 1246) C.E.1 C.E.2.1 dL_law_719 (by decide) ?_
  exact kk _ _ _ (hM.mono (by show 4 * ct ≤ 4 * (ct + 1); omega) (by show 4 * ct ≤ 4 * (ct + 1); omega)) hS hJ
set_option maxHeartbeats 2000000 in
theorem zl_c16 {p : Program} {l : Launch} {e : Env} {s : State} {m : MethodId} {below : List Frame} {meth : Method} {c : Code} {H : Heap} {locs : List Loc} {Q : State → Prop} {ls : Array Slot} {w0 : Cond} {X : zq_X} {b a0 m0 Ln ct : Nat} {xs : Nat → Int32} {i : Int32} {I : zq_M} (C : zlE p m c s b X a0 m0 Ln xs w0) (D : zlI ls b a0 m0 Ln i ct) (hM : zq_hm X (4 * ct, 4 * ct) I H) (hS : va_S (zq_A X) s.heap H locs) (hJ : zJ X a0 m0 I ct)
    (kk : ∀ (I2 : zq_M) (H : Heap) (locs : List Loc), zq_hm X (4 * (ct + 1), 4 * (ct + 1)) I2 H → va_S (zq_A X) s.heap H locs → zJ X a0 m0 I2 (ct + 1) → W p l e room_1 s m #[Value.ref b] below meth c H locs 500 15578 Q (F0 m 1246 ls [])) : W p l e room_1 s m #[Value.ref b] below meth c H locs 500 15578 Q (F0 m 722 ls []) := by
  refine lv_aload_n C.E.1 C.E.2.1 dL_law_722 rfl (lv_at D.hl 2 rfl) ?_
  refine zl_arg C D hS (v := 1) dL_law_723 dL_law_724 dL_law_725 dL_law_726 dL_law_727 (by decide +kernel) (by decide) ?_
  refine zl_arg C D hS (v := 2) dL_law_728 dL_law_729 dL_law_730 dL_law_731 dL_law_732 (by decide +kernel) (by decide) ?_
  refine zl_arg C D hS (v := 3) dL_law_733 dL_law_734 dL_law_735 dL_law_736 dL_law_737 (by decide +kernel) (by decide) ?_
  refine zq_calli (zl_rV (As := [.int (xs (i + 1).toNatClampNeg), .int (xs (i + 2).toNatClampNeg), .int (xs (i + 3).toNatClampNeg)]) (rest := []) C.E C.hZ hM C.ka (c_X11_send l X (4 * ct) (4 * ct) I C.L ct a0 C.ka ((xs (i + 1).toNatClampNeg)) ((xs (i + 2).toNatClampNeg)) ((xs (i + 3).toNatClampNeg)) hJ.1 hJ.2.1 (C.c6 D)) zmL_84 zM_X11_send ⟨by decide, by decide⟩ (by decide) ⟨by decide, by decide⟩ rfl D.hl.1 rfl rfl (Nat.le_of_ble_eq_true rfl) dL_law_738) hS (fun r2 I2 H locs h2 hM hS => ?_)
  have hJ := hJ.cls C.L C.K h2.1 h2.2.1 h2.2.2 (by decide +kernel)
  refine lv_pop C.E.1 C.E.2.1 dL_law_741 rfl ?_
  refine lv_aload_n C.E.1 C.E.2.1 dL_law_742 rfl (lv_at D.hl 1 rfl) ?_
  refine zl_arg C D hS (v := 1) dL_law_743 dL_law_744 dL_law_745 dL_law_746 dL_law_747 (by decide +kernel) (by decide) ?_
  refine zl_arg C D hS (v := 2) dL_law_748 dL_law_749 dL_law_750 dL_law_751 dL_law_752 (by decide +kernel) (by decide) ?_
  refine zl_arg C D hS (v := 3) dL_law_753 dL_law_754 dL_law_755 dL_law_756 dL_law_757 (by decide +kernel) (by decide) ?_
  refine zq_calli (zl_rV (As := [.int (xs (i + 1).toNatClampNeg), .int (xs (i + 2).toNatClampNeg), .int (xs (i + 3).toNatClampNeg)]) (rest := []) C.E C.hZ hM C.km (c_X12_send l X (4 * ct) (4 * ct) I2 C.L m0 C.km ((xs (i + 1).toNatClampNeg)) ((xs (i + 2).toNatClampNeg)) ((xs (i + 3).toNatClampNeg)) (C.z44 D) hJ.2.2.1 (C.z22 D)) zmL_87 zM_X12_send ⟨by decide, by decide⟩ (by decide) ⟨by decide, by decide⟩ rfl D.hl.1 rfl rfl (Nat.le_of_ble_eq_true rfl) dL_law_758) hS (fun r3 I3 H locs h3 hM hS => ?_)
  have hJ := hJ.ref C.L C.ka C.K h3 (hJ.2.2.1.fr C.L C.km h3 (by decide +kernel)) (by decide +kernel)
  refine lv_pop C.E.1 C.E.2.1 dL_law_761 rfl ?_
  refine lv_goto (tgt := 1246) C.E.1 C.E.2.1 dL_law_762 (by decide) ?_
  exact kk _ _ _ (hM.mono (by show 4 * ct ≤ 4 * (ct + 1); omega) (by show 4 * ct ≤ 4 * (ct + 1); omega)) hS hJ
set_option maxHeartbeats 2000000 in
theorem zl_c17 {p : Program} {l : Launch} {e : Env} {s : State} {m : MethodId} {below : List Frame} {meth : Method} {c : Code} {H : Heap} {locs : List Loc} {Q : State → Prop} {ls : Array Slot} {w0 : Cond} {X : zq_X} {b a0 m0 Ln ct : Nat} {xs : Nat → Int32} {i : Int32} {I : zq_M} (C : zlE p m c s b X a0 m0 Ln xs w0) (D : zlI ls b a0 m0 Ln i ct) (hM : zq_hm X (4 * ct, 4 * ct) I H) (hS : va_S (zq_A X) s.heap H locs) (hJ : zJ X a0 m0 I ct)
    (kk : ∀ (I2 : zq_M) (H : Heap) (locs : List Loc), zq_hm X (4 * (ct + 1), 4 * (ct + 1)) I2 H → va_S (zq_A X) s.heap H locs → zJ X a0 m0 I2 (ct + 1) → W p l e room_1 s m #[Value.ref b] below meth c H locs 500 15578 Q (F0 m 1246 ls [])) : W p l e room_1 s m #[Value.ref b] below meth c H locs 500 15578 Q (F0 m 765 ls []) := by
  refine lv_aload_n C.E.1 C.E.2.1 dL_law_765 rfl (lv_at D.hl 2 rfl) ?_
  refine zl_arg C D hS (v := 1) dL_law_766 dL_law_767 dL_law_768 dL_law_769 dL_law_770 (by decide +kernel) (by decide) ?_
  refine zl_arg C D hS (v := 2) dL_law_771 dL_law_772 dL_law_773 dL_law_774 dL_law_775 (by decide +kernel) (by decide) ?_
  refine zq_calli (zl_rV (As := [.int (xs (i + 1).toNatClampNeg), .int (xs (i + 2).toNatClampNeg)]) (rest := []) C.E C.hZ hM C.ka (c_X11_fleet l X (4 * ct) (4 * ct) I C.L ct a0 C.ka ((xs (i + 1).toNatClampNeg)) ((xs (i + 2).toNatClampNeg)) hJ.1 hJ.2.1 (C.c6 D)) zmL_88 zM_X11_fleet ⟨by decide, by decide⟩ (by decide) ⟨by decide, by decide⟩ rfl D.hl.1 rfl rfl (Nat.le_of_ble_eq_true rfl) dL_law_776) hS (fun r2 I2 H locs h2 hM hS => ?_)
  have hJ := hJ.cls C.L C.K h2.1 h2.2.1 h2.2.2 (by decide +kernel)
  refine lv_pop C.E.1 C.E.2.1 dL_law_779 rfl ?_
  refine lv_aload_n C.E.1 C.E.2.1 dL_law_780 rfl (lv_at D.hl 1 rfl) ?_
  refine zl_arg C D hS (v := 1) dL_law_781 dL_law_782 dL_law_783 dL_law_784 dL_law_785 (by decide +kernel) (by decide) ?_
  refine zl_arg C D hS (v := 2) dL_law_786 dL_law_787 dL_law_788 dL_law_789 dL_law_790 (by decide +kernel) (by decide) ?_
  refine zq_calli (zl_rV (As := [.int (xs (i + 1).toNatClampNeg), .int (xs (i + 2).toNatClampNeg)]) (rest := []) C.E C.hZ hM C.km (c_X12_fleet l X (4 * ct) (4 * ct) I2 C.L m0 C.km ((xs (i + 1).toNatClampNeg)) ((xs (i + 2).toNatClampNeg)) (C.z44 D) hJ.2.2.1 (C.z22 D)) zmL_91 zM_X12_fleet ⟨by decide, by decide⟩ (by decide) ⟨by decide, by decide⟩ rfl D.hl.1 rfl rfl (Nat.le_of_ble_eq_true rfl) dL_law_791) hS (fun r3 I3 H locs h3 hM hS => ?_)
  have hJ := hJ.ref C.L C.ka C.K h3.1 (hJ.2.2.1.fr C.L C.km h3.1 (by decide +kernel)) (by decide +kernel)
  refine lv_pop C.E.1 C.E.2.1 dL_law_794 rfl ?_
  refine lv_goto (tgt := 1246) C.E.1 C.E.2.1 dL_law_795 (by decide) ?_
  exact kk _ _ _ (hM.mono (by show 4 * ct ≤ 4 * (ct + 1); omega) (by show 4 * ct ≤ 4 * (ct + 1); omega)) hS hJ
set_option maxHeartbeats 2000000 in
theorem zl_c18 {p : Program} {l : Launch} {e : Env} {s : State} {m : MethodId} {below : List Frame} {meth : Method} {c : Code} {H : Heap} {locs : List Loc} {Q : State → Prop} {ls : Array Slot} {w0 : Cond} {X : zq_X} {b a0 m0 Ln ct : Nat} {xs : Nat → Int32} {i : Int32} {I : zq_M} (C : zlE p m c s b X a0 m0 Ln xs w0) (D : zlI ls b a0 m0 Ln i ct) (hM : zq_hm X (4 * ct, 4 * ct) I H) (hS : va_S (zq_A X) s.heap H locs) (hJ : zJ X a0 m0 I ct)
    (kk : ∀ (I2 : zq_M) (H : Heap) (locs : List Loc), zq_hm X (4 * (ct + 1), 4 * (ct + 1)) I2 H → va_S (zq_A X) s.heap H locs → zJ X a0 m0 I2 (ct + 1) → W p l e room_1 s m #[Value.ref b] below meth c H locs 500 15578 Q (F0 m 1246 ls [])) : W p l e room_1 s m #[Value.ref b] below meth c H locs 500 15578 Q (F0 m 798 ls []) := by
  refine lv_aload_n C.E.1 C.E.2.1 dL_law_798 rfl (lv_at D.hl 2 rfl) ?_
  refine zl_arg C D hS (v := 1) dL_law_799 dL_law_800 dL_law_801 dL_law_802 dL_law_803 (by decide +kernel) (by decide) ?_
  refine zl_arg C D hS (v := 2) dL_law_804 dL_law_805 dL_law_806 dL_law_807 dL_law_808 (by decide +kernel) (by decide) ?_
  refine zl_arg C D hS (v := 3) dL_law_809 dL_law_810 dL_law_811 dL_law_812 dL_law_813 (by decide +kernel) (by decide) ?_
  refine zq_calli (zl_rV (As := [.int (xs (i + 1).toNatClampNeg), .int (xs (i + 2).toNatClampNeg), .int (xs (i + 3).toNatClampNeg)]) (rest := []) C.E C.hZ hM C.ka (c_X11_give l X (4 * ct) (4 * ct) I C.L ct a0 C.ka ((xs (i + 1).toNatClampNeg)) ((xs (i + 2).toNatClampNeg)) ((xs (i + 3).toNatClampNeg)) hJ.1 hJ.2.1 (C.c6 D)) zmL_92 zM_X11_give ⟨by decide, by decide⟩ (by decide) ⟨by decide, by decide⟩ rfl D.hl.1 rfl rfl (Nat.le_of_ble_eq_true rfl) dL_law_814) hS (fun r2 I2 H locs h2 hM hS => ?_)
  have hJ := hJ.cls C.L C.K h2.1 h2.2.1 h2.2.2 (by decide +kernel)
  refine lv_pop C.E.1 C.E.2.1 dL_law_817 rfl ?_
  refine lv_aload_n C.E.1 C.E.2.1 dL_law_818 rfl (lv_at D.hl 1 rfl) ?_
  refine zl_arg C D hS (v := 1) dL_law_819 dL_law_820 dL_law_821 dL_law_822 dL_law_823 (by decide +kernel) (by decide) ?_
  refine zl_arg C D hS (v := 2) dL_law_824 dL_law_825 dL_law_826 dL_law_827 dL_law_828 (by decide +kernel) (by decide) ?_
  refine zl_arg C D hS (v := 3) dL_law_829 dL_law_830 dL_law_831 dL_law_832 dL_law_833 (by decide +kernel) (by decide) ?_
  refine zq_calli (zl_rV (As := [.int (xs (i + 1).toNatClampNeg), .int (xs (i + 2).toNatClampNeg), .int (xs (i + 3).toNatClampNeg)]) (rest := []) C.E C.hZ hM C.km (c_X12_give l X (4 * ct) (4 * ct) I2 C.L m0 C.km ((xs (i + 1).toNatClampNeg)) ((xs (i + 2).toNatClampNeg)) ((xs (i + 3).toNatClampNeg)) (C.z44 D) hJ.2.2.1 (C.z22 D)) zmL_95 zM_X12_give ⟨by decide, by decide⟩ (by decide) ⟨by decide, by decide⟩ rfl D.hl.1 rfl rfl (Nat.le_of_ble_eq_true rfl) dL_law_834) hS (fun r3 I3 H locs h3 hM hS => ?_)
  have hJ := hJ.ref C.L C.ka C.K h3.1 (hJ.2.2.1.fr C.L C.km h3.1 (by decide +kernel)) (by decide +kernel)
  refine lv_pop C.E.1 C.E.2.1 dL_law_837 rfl ?_
  refine lv_goto (tgt := 1246) C.E.1 C.E.2.1 dL_law_838 (by decide) ?_
  exact kk _ _ _ (hM.mono (by show 4 * ct ≤ 4 * (ct + 1); omega) (by show 4 * ct ≤ 4 * (ct + 1); omega)) hS hJ
set_option maxHeartbeats 2000000 in
theorem zl_c19 {p : Program} {l : Launch} {e : Env} {s : State} {m : MethodId} {below : List Frame} {meth : Method} {c : Code} {H : Heap} {locs : List Loc} {Q : State → Prop} {ls : Array Slot} {w0 : Cond} {X : zq_X} {b a0 m0 Ln ct : Nat} {xs : Nat → Int32} {i : Int32} {I : zq_M} (C : zlE p m c s b X a0 m0 Ln xs w0) (D : zlI ls b a0 m0 Ln i ct) (hM : zq_hm X (4 * ct, 4 * ct) I H) (hS : va_S (zq_A X) s.heap H locs) (hJ : zJ X a0 m0 I ct)
    (kk : ∀ (I2 : zq_M) (H : Heap) (locs : List Loc), zq_hm X (4 * (ct + 1), 4 * (ct + 1)) I2 H → va_S (zq_A X) s.heap H locs → zJ X a0 m0 I2 (ct + 1) → W p l e room_1 s m #[Value.ref b] below meth c H locs 500 15578 Q (F0 m 1246 ls [])) : W p l e room_1 s m #[Value.ref b] below meth c H locs 500 15578 Q (F0 m 841 ls []) := by
  refine lv_aload_n C.E.1 C.E.2.1 dL_law_841 rfl (lv_at D.hl 2 rfl) ?_
  refine zl_arg C D hS (v := 1) dL_law_842 dL_law_843 dL_law_844 dL_law_845 dL_law_846 (by decide +kernel) (by decide) ?_
  refine zl_arg C D hS (v := 2) dL_law_847 dL_law_848 dL_law_849 dL_law_850 dL_law_851 (by decide +kernel) (by decide) ?_
  refine zq_calli (zl_rV (As := [.int (xs (i + 1).toNatClampNeg), .int (xs (i + 2).toNatClampNeg)]) (rest := []) C.E C.hZ hM C.ka (c_X11_site l X (4 * ct) (4 * ct) I C.L ct a0 C.ka ((xs (i + 1).toNatClampNeg)) ((xs (i + 2).toNatClampNeg)) hJ.1 hJ.2.1 (C.c6 D)) zmL_96 zM_X11_site ⟨by decide, by decide⟩ (by decide) ⟨by decide, by decide⟩ rfl D.hl.1 rfl rfl (Nat.le_of_ble_eq_true rfl) dL_law_852) hS (fun r2 I2 H locs h2 hM hS => ?_)
  have hJ := hJ.cls C.L C.K h2.1 h2.2.1 h2.2.2 (by decide +kernel)
  refine lv_pop C.E.1 C.E.2.1 dL_law_855 rfl ?_
  refine lv_aload_n C.E.1 C.E.2.1 dL_law_856 rfl (lv_at D.hl 1 rfl) ?_
  refine zl_arg C D hS (v := 1) dL_law_857 dL_law_858 dL_law_859 dL_law_860 dL_law_861 (by decide +kernel) (by decide) ?_
  refine zl_arg C D hS (v := 2) dL_law_862 dL_law_863 dL_law_864 dL_law_865 dL_law_866 (by decide +kernel) (by decide) ?_
  refine zq_calli (zl_rV (As := [.int (xs (i + 1).toNatClampNeg), .int (xs (i + 2).toNatClampNeg)]) (rest := []) C.E C.hZ hM C.km (c_X12_site l X (4 * ct) (4 * ct) I2 C.L m0 C.km ((xs (i + 1).toNatClampNeg)) ((xs (i + 2).toNatClampNeg)) (C.z44 D) hJ.2.2.1 (C.z22 D)) zmL_99 zM_X12_site ⟨by decide, by decide⟩ (by decide) ⟨by decide, by decide⟩ rfl D.hl.1 rfl rfl (Nat.le_of_ble_eq_true rfl) dL_law_867) hS (fun r3 I3 H locs h3 hM hS => ?_)
  have hJ := hJ.ref C.L C.ka C.K h3 (hJ.2.2.1.fr C.L C.km h3 (by decide +kernel)) (by decide +kernel)
  refine lv_pop C.E.1 C.E.2.1 dL_law_870 rfl ?_
  refine lv_goto (tgt := 1246) C.E.1 C.E.2.1 dL_law_871 (by decide) ?_
  exact kk _ _ _ (hM.mono (by show 4 * ct ≤ 4 * (ct + 1); omega) (by show 4 * ct ≤ 4 * (ct + 1); omega)) hS hJ
set_option maxHeartbeats 2000000 in
theorem zl_c20 {p : Program} {l : Launch} {e : Env} {s : State} {m : MethodId} {below : List Frame} {meth : Method} {c : Code} {H : Heap} {locs : List Loc} {Q : State → Prop} {ls : Array Slot} {w0 : Cond} {X : zq_X} {b a0 m0 Ln ct : Nat} {xs : Nat → Int32} {i : Int32} {I : zq_M} (C : zlE p m c s b X a0 m0 Ln xs w0) (D : zlI ls b a0 m0 Ln i ct) (hM : zq_hm X (4 * ct, 4 * ct) I H) (hS : va_S (zq_A X) s.heap H locs) (hJ : zJ X a0 m0 I ct)
    (kk : ∀ (I2 : zq_M) (H : Heap) (locs : List Loc), zq_hm X (4 * (ct + 1), 4 * (ct + 1)) I2 H → va_S (zq_A X) s.heap H locs → zJ X a0 m0 I2 (ct + 1) → W p l e room_1 s m #[Value.ref b] below meth c H locs 500 15578 Q (F0 m 1246 ls [])) : W p l e room_1 s m #[Value.ref b] below meth c H locs 500 15578 Q (F0 m 874 ls []) := by
  refine lv_aload_n C.E.1 C.E.2.1 dL_law_874 rfl (lv_at D.hl 2 rfl) ?_
  refine zl_arg C D hS (v := 1) dL_law_875 dL_law_876 dL_law_877 dL_law_878 dL_law_879 (by decide +kernel) (by decide) ?_
  refine zl_arg C D hS (v := 2) dL_law_880 dL_law_881 dL_law_882 dL_law_883 dL_law_884 (by decide +kernel) (by decide) ?_
  refine zl_arg C D hS (v := 3) dL_law_885 dL_law_886 dL_law_887 dL_law_888 dL_law_889 (by decide +kernel) (by decide) ?_
  refine zq_calli (zl_rV (As := [.int (xs (i + 1).toNatClampNeg), .int (xs (i + 2).toNatClampNeg), .int (xs (i + 3).toNatClampNeg)]) (rest := []) C.E C.hZ hM C.ka (c_X11_pricing l X (4 * ct) (4 * ct) I C.L ct a0 C.ka ((xs (i + 1).toNatClampNeg)) ((xs (i + 2).toNatClampNeg)) ((xs (i + 3).toNatClampNeg)) hJ.1 hJ.2.1 (C.c6 D)) zmL_100 zM_X11_pricing ⟨by decide, by decide⟩ (by decide) ⟨by decide, by decide⟩ rfl D.hl.1 rfl rfl (Nat.le_of_ble_eq_true rfl) dL_law_890) hS (fun r2 I2 H locs h2 hM hS => ?_)
  have hJ := hJ.cls C.L C.K h2.1 h2.2.1 h2.2.2 (by decide +kernel)
  refine lv_pop C.E.1 C.E.2.1 dL_law_893 rfl ?_
  refine lv_aload_n C.E.1 C.E.2.1 dL_law_894 rfl (lv_at D.hl 1 rfl) ?_
  refine zl_arg C D hS (v := 1) dL_law_895 dL_law_896 dL_law_897 dL_law_898 dL_law_899 (by decide +kernel) (by decide) ?_
  refine zl_arg C D hS (v := 2) dL_law_900 dL_law_901 dL_law_902 dL_law_903 dL_law_904 (by decide +kernel) (by decide) ?_
  refine zl_arg C D hS (v := 3) dL_law_905 dL_law_906 dL_law_907 dL_law_908 dL_law_909 (by decide +kernel) (by decide) ?_
  refine zq_calli (zl_rV (As := [.int (xs (i + 1).toNatClampNeg), .int (xs (i + 2).toNatClampNeg), .int (xs (i + 3).toNatClampNeg)]) (rest := []) C.E C.hZ hM C.km (c_X12_pricing l X (4 * ct) (4 * ct) I2 C.L m0 C.km ((xs (i + 1).toNatClampNeg)) ((xs (i + 2).toNatClampNeg)) ((xs (i + 3).toNatClampNeg)) (C.z44 D) hJ.2.2.1 (C.z22 D)) zmL_103 zM_X12_pricing ⟨by decide, by decide⟩ (by decide) ⟨by decide, by decide⟩ rfl D.hl.1 rfl rfl (Nat.le_of_ble_eq_true rfl) dL_law_910) hS (fun r3 I3 H locs h3 hM hS => ?_)
  have hJ := hJ.ref C.L C.ka C.K h3.1 (hJ.2.2.1.fr C.L C.km h3.1 (by decide +kernel)) (by decide +kernel)
  refine lv_pop C.E.1 C.E.2.1 dL_law_913 rfl ?_
  refine lv_goto (tgt := 1246) C.E.1 C.E.2.1 dL_law_914 (by decide) ?_
  exact kk _ _ _ (hM.mono (by show 4 * ct ≤ 4 * (ct + 1); omega) (by show 4 * ct ≤ 4 * (ct + 1); omega)) hS hJ
set_option maxHeartbeats 2000000 in
theorem zl_c21 {p : Program} {l : Launch} {e : Env} {s : State} {m : MethodId} {below : List Frame} {meth : Method} {c : Code} {H : Heap} {locs : List Loc} {Q : State → Prop} {ls : Array Slot} {w0 : Cond} {X : zq_X} {b a0 m0 Ln ct : Nat} {xs : Nat → Int32} {i : Int32} {I : zq_M} (C : zlE p m c s b X a0 m0 Ln xs w0) (D : zlI ls b a0 m0 Ln i ct) (hM : zq_hm X (4 * ct, 4 * ct) I H) (hS : va_S (zq_A X) s.heap H locs) (hJ : zJ X a0 m0 I ct)
    (kk : ∀ (I2 : zq_M) (H : Heap) (locs : List Loc), zq_hm X (4 * (ct + 1), 4 * (ct + 1)) I2 H → va_S (zq_A X) s.heap H locs → zJ X a0 m0 I2 (ct + 1) → W p l e room_1 s m #[Value.ref b] below meth c H locs 500 15578 Q (F0 m 1246 ls [])) : W p l e room_1 s m #[Value.ref b] below meth c H locs 500 15578 Q (F0 m 917 ls []) := by
  refine lv_aload_n C.E.1 C.E.2.1 dL_law_917 rfl (lv_at D.hl 2 rfl) ?_
  refine zl_arg C D hS (v := 1) dL_law_918 dL_law_919 dL_law_920 dL_law_921 dL_law_922 (by decide +kernel) (by decide) ?_
  refine zl_arg C D hS (v := 2) dL_law_923 dL_law_924 dL_law_925 dL_law_926 dL_law_927 (by decide +kernel) (by decide) ?_
  refine zq_calli (zl_rV (As := [.int (xs (i + 1).toNatClampNeg), .int (xs (i + 2).toNatClampNeg)]) (rest := []) C.E C.hZ hM C.ka (c_X11_war l X (4 * ct) (4 * ct) I C.L ct a0 C.ka ((xs (i + 1).toNatClampNeg)) ((xs (i + 2).toNatClampNeg)) hJ.1 hJ.2.1 (C.c6 D)) zmL_104 zM_X11_war ⟨by decide, by decide⟩ (by decide) ⟨by decide, by decide⟩ rfl D.hl.1 rfl rfl (Nat.le_of_ble_eq_true rfl) dL_law_928) hS (fun r2 I2 H locs h2 hM hS => ?_)
  have hJ := hJ.cls C.L C.K h2.1 h2.2.1 h2.2.2 (by decide +kernel)
  refine lv_pop C.E.1 C.E.2.1 dL_law_931 rfl ?_
  refine lv_aload_n C.E.1 C.E.2.1 dL_law_932 rfl (lv_at D.hl 1 rfl) ?_
  refine zl_arg C D hS (v := 1) dL_law_933 dL_law_934 dL_law_935 dL_law_936 dL_law_937 (by decide +kernel) (by decide) ?_
  refine zl_arg C D hS (v := 2) dL_law_938 dL_law_939 dL_law_940 dL_law_941 dL_law_942 (by decide +kernel) (by decide) ?_
  refine zq_calli (zl_rV (As := [.int (xs (i + 1).toNatClampNeg), .int (xs (i + 2).toNatClampNeg)]) (rest := []) C.E C.hZ hM C.km (c_X12_war l X (4 * ct) (4 * ct) I2 C.L m0 C.km ((xs (i + 1).toNatClampNeg)) ((xs (i + 2).toNatClampNeg)) (C.z44 D)) zmL_107 zM_X12_war ⟨by decide, by decide⟩ (by decide) ⟨by decide, by decide⟩ rfl D.hl.1 rfl rfl (Nat.le_of_ble_eq_true rfl) dL_law_943) hS (fun r3 I3 H locs h3 hM hS => ?_)
  have e3 := h3.1
  rw [e3] at hM
  refine lv_pop C.E.1 C.E.2.1 dL_law_946 rfl ?_
  refine lv_goto (tgt := 1246) C.E.1 C.E.2.1 dL_law_947 (by decide) ?_
  exact kk _ _ _ (hM.mono (by show 4 * ct ≤ 4 * (ct + 1); omega) (by show 4 * ct ≤ 4 * (ct + 1); omega)) hS hJ
set_option maxHeartbeats 2000000 in
theorem zl_c22 {p : Program} {l : Launch} {e : Env} {s : State} {m : MethodId} {below : List Frame} {meth : Method} {c : Code} {H : Heap} {locs : List Loc} {Q : State → Prop} {ls : Array Slot} {w0 : Cond} {X : zq_X} {b a0 m0 Ln ct : Nat} {xs : Nat → Int32} {i : Int32} {I : zq_M} (C : zlE p m c s b X a0 m0 Ln xs w0) (D : zlI ls b a0 m0 Ln i ct) (hM : zq_hm X (4 * ct, 4 * ct) I H) (hS : va_S (zq_A X) s.heap H locs) (hJ : zJ X a0 m0 I ct)
    (kk : ∀ (I2 : zq_M) (H : Heap) (locs : List Loc), zq_hm X (4 * (ct + 1), 4 * (ct + 1)) I2 H → va_S (zq_A X) s.heap H locs → zJ X a0 m0 I2 (ct + 1) → W p l e room_1 s m #[Value.ref b] below meth c H locs 500 15578 Q (F0 m 1246 ls [])) : W p l e room_1 s m #[Value.ref b] below meth c H locs 500 15578 Q (F0 m 950 ls []) := by
  refine lv_aload_n C.E.1 C.E.2.1 dL_law_950 rfl (lv_at D.hl 2 rfl) ?_
  refine zq_calli (zl_rV (As := []) (rest := []) C.E C.hZ hM C.ka (c_X11_out l X (4 * ct) (4 * ct) I C.L ct a0 C.ka hJ.1 hJ.2.1 (C.c6 D)) zmL_108 zM_X11_out ⟨by decide, by decide⟩ (by decide) ⟨by decide, by decide⟩ rfl D.hl.1 rfl rfl (Nat.le_of_ble_eq_true rfl) dL_law_951) hS (fun r2 I2 H locs h2 hM hS => ?_)
  have hJ := hJ.cls C.L C.K h2.1 h2.2.1 h2.2.2 (by decide +kernel)
  refine lv_pop C.E.1 C.E.2.1 dL_law_954 rfl ?_
  refine lv_aload_n C.E.1 C.E.2.1 dL_law_955 rfl (lv_at D.hl 1 rfl) ?_
  refine zq_calli (zl_rV (As := []) (rest := []) C.E C.hZ hM C.km (c_X12_out l X (4 * ct) (4 * ct) I2 C.L m0 C.km (C.z44 D) hJ.2.2.1 (C.z22 D)) zmL_111 zM_X12_out ⟨by decide, by decide⟩ (by decide) ⟨by decide, by decide⟩ rfl D.hl.1 rfl rfl (Nat.le_of_ble_eq_true rfl) dL_law_956) hS (fun r3 I3 H locs h3 hM hS => ?_)
  have hJ := hJ.ref C.L C.ka C.K h3.1 (hJ.2.2.1.fr C.L C.km h3.1 (by decide +kernel)) (by decide +kernel)
  refine lv_pop C.E.1 C.E.2.1 dL_law_959 rfl ?_
  refine lv_goto (tgt := 1246) C.E.1 C.E.2.1 dL_law_960 (by decide) ?_
  exact kk _ _ _ (hM.mono (by show 4 * ct ≤ 4 * (ct + 1); omega) (by show 4 * ct ≤ 4 * (ct + 1); omega)) hS hJ
set_option maxHeartbeats 2000000 in
theorem zl_c23 {p : Program} {l : Launch} {e : Env} {s : State} {m : MethodId} {below : List Frame} {meth : Method} {c : Code} {H : Heap} {locs : List Loc} {Q : State → Prop} {ls : Array Slot} {w0 : Cond} {X : zq_X} {b a0 m0 Ln ct : Nat} {xs : Nat → Int32} {i : Int32} {I : zq_M} (C : zlE p m c s b X a0 m0 Ln xs w0) (D : zlI ls b a0 m0 Ln i ct) (hM : zq_hm X (4 * ct, 4 * ct) I H) (hS : va_S (zq_A X) s.heap H locs) (hJ : zJ X a0 m0 I ct)
    (kk : ∀ (I2 : zq_M) (H : Heap) (locs : List Loc), zq_hm X (4 * (ct + 1), 4 * (ct + 1)) I2 H → va_S (zq_A X) s.heap H locs → zJ X a0 m0 I2 (ct + 1) → W p l e room_1 s m #[Value.ref b] below meth c H locs 500 15578 Q (F0 m 1246 ls [])) : W p l e room_1 s m #[Value.ref b] below meth c H locs 500 15578 Q (F0 m 963 ls []) := by
  refine lv_aload_n C.E.1 C.E.2.1 dL_law_963 rfl (lv_at D.hl 2 rfl) ?_
  refine zl_arg C D hS (v := 1) dL_law_964 dL_law_965 dL_law_966 dL_law_967 dL_law_968 (by decide +kernel) (by decide) ?_
  refine zl_arg C D hS (v := 2) dL_law_969 dL_law_970 dL_law_971 dL_law_972 dL_law_973 (by decide +kernel) (by decide) ?_
  refine zl_arg C D hS (v := 3) dL_law_974 dL_law_975 dL_law_976 dL_law_977 dL_law_978 (by decide +kernel) (by decide) ?_
  refine zl_bool C dL_law_979 dL_law_982 dL_law_983 dL_law_986 (fun y1 g1 => ?_)
  refine zl_arg C D hS (v := 4) dL_law_987 dL_law_988 dL_law_989 dL_law_990 dL_law_991 (by decide +kernel) (by decide) ?_
  refine zq_calli (zl_rV (As := [.int (xs (i + 1).toNatClampNeg), .int (xs (i + 2).toNatClampNeg), .int y1, .int (xs (i + 4).toNatClampNeg)]) (rest := []) C.E C.hZ hM C.ka (c_X11_hatch l X (4 * ct) (4 * ct) I C.L ct a0 C.ka ((xs (i + 1).toNatClampNeg)) ((xs (i + 2).toNatClampNeg)) (y1) ((xs (i + 4).toNatClampNeg)) g1 hJ.1 hJ.2.1 (C.c6 D)) zmL_112 zM_X11_hatch ⟨by decide, by decide⟩ (by decide) ⟨by decide, by decide⟩ rfl D.hl.1 rfl rfl (Nat.le_of_ble_eq_true rfl) dL_law_992) hS (fun r2 I2 H locs h2 hM hS => ?_)
  have hJ := hJ.cls C.L C.K h2.1 h2.2.1 h2.2.2 (by decide +kernel)
  refine lv_pop C.E.1 C.E.2.1 dL_law_995 rfl ?_
  refine lv_aload_n C.E.1 C.E.2.1 dL_law_996 rfl (lv_at D.hl 1 rfl) ?_
  refine zl_arg C D hS (v := 1) dL_law_997 dL_law_998 dL_law_999 dL_law_1000 dL_law_1001 (by decide +kernel) (by decide) ?_
  refine zl_arg C D hS (v := 2) dL_law_1002 dL_law_1003 dL_law_1004 dL_law_1005 dL_law_1006 (by decide +kernel) (by decide) ?_
  refine zl_arg C D hS (v := 3) dL_law_1007 dL_law_1008 dL_law_1009 dL_law_1010 dL_law_1011 (by decide +kernel) (by decide) ?_
  refine zl_bool C dL_law_1012 dL_law_1015 dL_law_1016 dL_law_1019 (fun y2 g2 => ?_)
  refine zl_arg C D hS (v := 4) dL_law_1020 dL_law_1021 dL_law_1022 dL_law_1023 dL_law_1024 (by decide +kernel) (by decide) ?_
  refine zq_calli (zl_rV (As := [.int (xs (i + 1).toNatClampNeg), .int (xs (i + 2).toNatClampNeg), .int y2, .int (xs (i + 4).toNatClampNeg)]) (rest := []) C.E C.hZ hM C.km (c_X12_hatch l X (4 * ct) (4 * ct) I2 C.L m0 C.km ((xs (i + 1).toNatClampNeg)) ((xs (i + 2).toNatClampNeg)) (y2) ((xs (i + 4).toNatClampNeg)) g2 (C.z44 D)) zmL_116 zM_X12_hatch ⟨by decide, by decide⟩ (by decide) ⟨by decide, by decide⟩ rfl D.hl.1 rfl rfl (Nat.le_of_ble_eq_true rfl) dL_law_1025) hS (fun r3 I3 H locs h3 hM hS => ?_)
  have e3 := h3.1
  rw [e3] at hM
  refine lv_pop C.E.1 C.E.2.1 dL_law_1028 rfl ?_
  refine lv_goto (tgt := 1246) C.E.1 C.E.2.1 dL_law_1029 (by decide) ?_
  exact kk _ _ _ (hM.mono (by show 4 * ct ≤ 4 * (ct + 1); omega) (by show 4 * ct ≤ 4 * (ct + 1); omega)) hS hJ
set_option maxHeartbeats 2000000 in
theorem zl_c24 {p : Program} {l : Launch} {e : Env} {s : State} {m : MethodId} {below : List Frame} {meth : Method} {c : Code} {H : Heap} {locs : List Loc} {Q : State → Prop} {ls : Array Slot} {w0 : Cond} {X : zq_X} {b a0 m0 Ln ct : Nat} {xs : Nat → Int32} {i : Int32} {I : zq_M} (C : zlE p m c s b X a0 m0 Ln xs w0) (D : zlI ls b a0 m0 Ln i ct) (hM : zq_hm X (4 * ct, 4 * ct) I H) (hS : va_S (zq_A X) s.heap H locs) (hJ : zJ X a0 m0 I ct)
    (kk : ∀ (I2 : zq_M) (H : Heap) (locs : List Loc), zq_hm X (4 * (ct + 1), 4 * (ct + 1)) I2 H → va_S (zq_A X) s.heap H locs → zJ X a0 m0 I2 (ct + 1) → W p l e room_1 s m #[Value.ref b] below meth c H locs 500 15578 Q (F0 m 1246 ls [])) : W p l e room_1 s m #[Value.ref b] below meth c H locs 500 15578 Q (F0 m 1032 ls []) := by
  refine lv_aload_n C.E.1 C.E.2.1 dL_law_1032 rfl (lv_at D.hl 2 rfl) ?_
  refine zl_arg C D hS (v := 1) dL_law_1033 dL_law_1034 dL_law_1035 dL_law_1036 dL_law_1037 (by decide +kernel) (by decide) ?_
  refine zl_arg C D hS (v := 2) dL_law_1038 dL_law_1039 dL_law_1040 dL_law_1041 dL_law_1042 (by decide +kernel) (by decide) ?_
  refine zq_calli (zl_rV (As := [.int (xs (i + 1).toNatClampNeg), .int (xs (i + 2).toNatClampNeg)]) (rest := []) C.E C.hZ hM C.ka (c_X11_note l X (4 * ct) (4 * ct) I C.L ct a0 C.ka ((xs (i + 1).toNatClampNeg)) ((xs (i + 2).toNatClampNeg)) hJ.1 hJ.2.1 (C.c6 D)) zmL_117 zM_X11_note ⟨by decide, by decide⟩ (by decide) ⟨by decide, by decide⟩ rfl D.hl.1 rfl rfl (Nat.le_of_ble_eq_true rfl) dL_law_1043) hS (fun r2 I2 H locs h2 hM hS => ?_)
  have hJ := hJ.cls C.L C.K h2.1 h2.2.1 h2.2.2.1 (by decide +kernel)
  refine lv_pop C.E.1 C.E.2.1 dL_law_1046 rfl ?_
  refine lv_aload_n C.E.1 C.E.2.1 dL_law_1047 rfl (lv_at D.hl 1 rfl) ?_
  refine zl_arg C D hS (v := 1) dL_law_1048 dL_law_1049 dL_law_1050 dL_law_1051 dL_law_1052 (by decide +kernel) (by decide) ?_
  refine zl_arg C D hS (v := 2) dL_law_1053 dL_law_1054 dL_law_1055 dL_law_1056 dL_law_1057 (by decide +kernel) (by decide) ?_
  refine zq_calli (zl_rV (As := [.int (xs (i + 1).toNatClampNeg), .int (xs (i + 2).toNatClampNeg)]) (rest := []) C.E C.hZ hM C.km (c_X12_note l X (4 * ct) (4 * ct) I2 C.L m0 C.km ((xs (i + 1).toNatClampNeg)) ((xs (i + 2).toNatClampNeg)) (C.z44 D)) zmL_120 zM_X12_note ⟨by decide, by decide⟩ (by decide) ⟨by decide, by decide⟩ rfl D.hl.1 rfl rfl (Nat.le_of_ble_eq_true rfl) dL_law_1058) hS (fun r3 I3 H locs h3 hM hS => ?_)
  have hJ := hJ.ref C.L C.ka C.K h3.1 (hJ.2.2.1.fr C.L C.km h3.1 (by decide +kernel)) (by decide +kernel)
  refine lv_pop C.E.1 C.E.2.1 dL_law_1061 rfl ?_
  refine lv_goto (tgt := 1246) C.E.1 C.E.2.1 dL_law_1062 (by decide) ?_
  exact kk _ _ _ (hM.mono (by show 4 * ct ≤ 4 * (ct + 1); omega) (by show 4 * ct ≤ 4 * (ct + 1); omega)) hS hJ
set_option maxHeartbeats 2000000 in
theorem zl_c25 {p : Program} {l : Launch} {e : Env} {s : State} {m : MethodId} {below : List Frame} {meth : Method} {c : Code} {H : Heap} {locs : List Loc} {Q : State → Prop} {ls : Array Slot} {w0 : Cond} {X : zq_X} {b a0 m0 Ln ct : Nat} {xs : Nat → Int32} {i : Int32} {I : zq_M} (C : zlE p m c s b X a0 m0 Ln xs w0) (D : zlI ls b a0 m0 Ln i ct) (hM : zq_hm X (4 * ct, 4 * ct) I H) (hS : va_S (zq_A X) s.heap H locs) (hJ : zJ X a0 m0 I ct)
    (kk : ∀ (I2 : zq_M) (H : Heap) (locs : List Loc), zq_hm X (4 * (ct + 1), 4 * (ct + 1)) I2 H → va_S (zq_A X) s.heap H locs → zJ X a0 m0 I2 (ct + 1) → W p l e room_1 s m #[Value.ref b] below meth c H locs 500 15578 Q (F0 m 1246 ls [])) : W p l e room_1 s m #[Value.ref b] below meth c H locs 500 15578 Q (F0 m 1065 ls []) := by
  refine lv_aload_n C.E.1 C.E.2.1 dL_law_1065 rfl (lv_at D.hl 2 rfl) ?_
  refine zl_arg C D hS (v := 1) dL_law_1066 dL_law_1067 dL_law_1068 dL_law_1069 dL_law_1070 (by decide +kernel) (by decide) ?_
  refine zq_calli (zl_rV (As := [.int (xs (i + 1).toNatClampNeg)]) (rest := []) C.E C.hZ hM C.ka (c_X11_ruled l X (4 * ct) (4 * ct) I C.L ct a0 C.ka ((xs (i + 1).toNatClampNeg)) hJ.1 hJ.2.1 (C.c6 D)) zmL_121 zM_X11_ruled ⟨by decide, by decide⟩ (by decide) ⟨by decide, by decide⟩ rfl D.hl.1 rfl rfl (Nat.le_of_ble_eq_true rfl) dL_law_1071) hS (fun r2 I2 H locs h2 hM hS => ?_)
  have hJ := hJ.cls C.L C.K h2.1 h2.2.1 h2.2.2 (by decide +kernel)
  refine lv_pop C.E.1 C.E.2.1 dL_law_1074 rfl ?_
  refine lv_aload_n C.E.1 C.E.2.1 dL_law_1075 rfl (lv_at D.hl 1 rfl) ?_
  refine zl_arg C D hS (v := 1) dL_law_1076 dL_law_1077 dL_law_1078 dL_law_1079 dL_law_1080 (by decide +kernel) (by decide) ?_
  refine zq_calli (zl_rV (As := [.int (xs (i + 1).toNatClampNeg)]) (rest := []) C.E C.hZ hM C.km (c_X12_ruled l X (4 * ct) (4 * ct) I2 C.L m0 C.km ((xs (i + 1).toNatClampNeg)) (C.z44 D) hJ.2.2.1 (C.z22 D)) zmL_124 zM_X12_ruled ⟨by decide, by decide⟩ (by decide) ⟨by decide, by decide⟩ rfl D.hl.1 rfl rfl (Nat.le_of_ble_eq_true rfl) dL_law_1081) hS (fun r3 I3 H locs h3 hM hS => ?_)
  have hJ := hJ.ref C.L C.ka C.K h3 (hJ.2.2.1.fr C.L C.km h3 (by decide +kernel)) (by decide +kernel)
  refine lv_pop C.E.1 C.E.2.1 dL_law_1084 rfl ?_
  refine lv_goto (tgt := 1246) C.E.1 C.E.2.1 dL_law_1085 (by decide) ?_
  exact kk _ _ _ (hM.mono (by show 4 * ct ≤ 4 * (ct + 1); omega) (by show 4 * ct ≤ 4 * (ct + 1); omega)) hS hJ
set_option maxHeartbeats 2000000 in
theorem zl_c26 {p : Program} {l : Launch} {e : Env} {s : State} {m : MethodId} {below : List Frame} {meth : Method} {c : Code} {H : Heap} {locs : List Loc} {Q : State → Prop} {ls : Array Slot} {w0 : Cond} {X : zq_X} {b a0 m0 Ln ct : Nat} {xs : Nat → Int32} {i : Int32} {I : zq_M} (C : zlE p m c s b X a0 m0 Ln xs w0) (D : zlI ls b a0 m0 Ln i ct) (hM : zq_hm X (4 * ct, 4 * ct) I H) (hS : va_S (zq_A X) s.heap H locs) (hJ : zJ X a0 m0 I ct)
    (kk : ∀ (I2 : zq_M) (H : Heap) (locs : List Loc), zq_hm X (4 * (ct + 1), 4 * (ct + 1)) I2 H → va_S (zq_A X) s.heap H locs → zJ X a0 m0 I2 (ct + 1) → W p l e room_1 s m #[Value.ref b] below meth c H locs 500 15578 Q (F0 m 1246 ls [])) : W p l e room_1 s m #[Value.ref b] below meth c H locs 500 15578 Q (F0 m 1088 ls []) := by
  refine lv_aload_n C.E.1 C.E.2.1 dL_law_1088 rfl (lv_at D.hl 2 rfl) ?_
  refine zl_arg C D hS (v := 1) dL_law_1089 dL_law_1090 dL_law_1091 dL_law_1092 dL_law_1093 (by decide +kernel) (by decide) ?_
  refine zq_calli (zl_rV (As := [.int (xs (i + 1).toNatClampNeg)]) (rest := []) C.E C.hZ hM C.ka (c_X11_look l X (4 * ct) (4 * ct) I C.L ct a0 C.ka ((xs (i + 1).toNatClampNeg)) hJ.1 hJ.2.1 (C.c6 D)) zmL_125 zM_X11_look ⟨by decide, by decide⟩ (by decide) ⟨by decide, by decide⟩ rfl D.hl.1 rfl rfl (Nat.le_of_ble_eq_true rfl) dL_law_1094) hS (fun r2 I2 H locs h2 hM hS => ?_)
  have hJ := hJ.cls C.L C.K h2.1 h2.2.1 h2.2.2.1 (by decide +kernel)
  refine lv_pop C.E.1 C.E.2.1 dL_law_1097 rfl ?_
  refine lv_aload_n C.E.1 C.E.2.1 dL_law_1098 rfl (lv_at D.hl 1 rfl) ?_
  refine zl_arg C D hS (v := 1) dL_law_1099 dL_law_1100 dL_law_1101 dL_law_1102 dL_law_1103 (by decide +kernel) (by decide) ?_
  refine zq_calli (zl_rV (As := [.int (xs (i + 1).toNatClampNeg)]) (rest := []) C.E C.hZ hM C.km (c_X12_look l X (4 * ct) (4 * ct) I2 C.L m0 C.km ((xs (i + 1).toNatClampNeg)) (C.z44 D) hJ.2.2.1 (C.z22 D)) zmL_128 zM_X12_look ⟨by decide, by decide⟩ (by decide) ⟨by decide, by decide⟩ rfl D.hl.1 rfl rfl (Nat.le_of_ble_eq_true rfl) dL_law_1104) hS (fun r3 I3 H locs h3 hM hS => ?_)
  have hJ := hJ.ref C.L C.ka C.K h3.1 (hJ.2.2.1.fr C.L C.km h3.1 (by decide +kernel)) (by decide +kernel)
  refine lv_pop C.E.1 C.E.2.1 dL_law_1107 rfl ?_
  refine lv_goto (tgt := 1246) C.E.1 C.E.2.1 dL_law_1108 (by decide) ?_
  exact kk _ _ _ (hM.mono (by show 4 * ct ≤ 4 * (ct + 1); omega) (by show 4 * ct ≤ 4 * (ct + 1); omega)) hS hJ
set_option maxHeartbeats 2000000 in
theorem zl_c27 {p : Program} {l : Launch} {e : Env} {s : State} {m : MethodId} {below : List Frame} {meth : Method} {c : Code} {H : Heap} {locs : List Loc} {Q : State → Prop} {ls : Array Slot} {w0 : Cond} {X : zq_X} {b a0 m0 Ln ct : Nat} {xs : Nat → Int32} {i : Int32} {I : zq_M} (C : zlE p m c s b X a0 m0 Ln xs w0) (D : zlI ls b a0 m0 Ln i ct) (hM : zq_hm X (4 * ct, 4 * ct) I H) (hS : va_S (zq_A X) s.heap H locs) (hJ : zJ X a0 m0 I ct)
    (kk : ∀ (I2 : zq_M) (H : Heap) (locs : List Loc), zq_hm X (4 * (ct + 1), 4 * (ct + 1)) I2 H → va_S (zq_A X) s.heap H locs → zJ X a0 m0 I2 (ct + 1) → W p l e room_1 s m #[Value.ref b] below meth c H locs 500 15578 Q (F0 m 1246 ls [])) : W p l e room_1 s m #[Value.ref b] below meth c H locs 500 15578 Q (F0 m 1111 ls []) := by
  refine lv_aload_n C.E.1 C.E.2.1 dL_law_1111 rfl (lv_at D.hl 2 rfl) ?_
  refine zl_arg C D hS (v := 1) dL_law_1112 dL_law_1113 dL_law_1114 dL_law_1115 dL_law_1116 (by decide +kernel) (by decide) ?_
  refine zq_calli (zl_rV (As := [.int (xs (i + 1).toNatClampNeg)]) (rest := []) C.E C.hZ hM C.ka (c_X11_seed l X (4 * ct) (4 * ct) I C.L ct a0 C.ka ((xs (i + 1).toNatClampNeg)) hJ.1 hJ.2.1 (C.c6 D)) zmL_129 zM_X11_seed ⟨by decide, by decide⟩ (by decide) ⟨by decide, by decide⟩ rfl D.hl.1 rfl rfl (Nat.le_of_ble_eq_true rfl) dL_law_1117) hS (fun r2 I2 H locs h2 hM hS => ?_)
  obtain ⟨f1, s1, s2, s3⟩ := h2
  refine lv_aload_n C.E.1 C.E.2.1 dL_law_1120 rfl (lv_at D.hl 1 rfl) ?_
  refine zl_arg C D hS (v := 1) dL_law_1121 dL_law_1122 dL_law_1123 dL_law_1124 dL_law_1125 (by decide +kernel) (by decide) ?_
  refine zq_calli (zl_rV (As := [.int (xs (i + 1).toNatClampNeg)]) (rest := [.int r2]) C.E C.hZ hM C.km (c_X12_seed l X (4 * ct) (4 * ct) I2 C.L m0 C.km ((xs (i + 1).toNatClampNeg))) zmL_132 zM_X12_seed ⟨by decide, by decide⟩ (by decide) ⟨by decide, by decide⟩ rfl D.hl.1 rfl rfl (Nat.le_of_ble_eq_true rfl) dL_law_1126) hS (fun r3 I3 H locs h3 hM hS => ?_)
  obtain ⟨hT, hr⟩ := hJ.2.2.2.seed C.K f1 (by decide +kernel) (by decide +kernel) h3.1 (by decide +kernel) (by decide +kernel) s3 h3.2
  have hJ : zJ X a0 m0 I3 (ct + 1) := ⟨s1.frL C.L h3.1 (by decide +kernel) (by decide +kernel), s2.fr C.L (zq_lk C.L.1 C.ka rfl (by decide)) h3.1 (by decide +kernel), ((hJ.2.2.1.fr C.L C.km f1 (by decide +kernel)).fr C.L C.km h3.1 (by decide +kernel)), hT⟩
  refine lv_icmp_eq (tgt := 1246) C.E.1 C.E.2.1 dL_law_1129 (by decide) (fun _ => ?_) (fun hne => absurd hr hne)
  exact kk _ _ _ (hM.mono (by show 4 * ct ≤ 4 * (ct + 1); omega) (by show 4 * ct ≤ 4 * (ct + 1); omega)) hS hJ
set_option maxHeartbeats 2000000 in
theorem zl_c28 {p : Program} {l : Launch} {e : Env} {s : State} {m : MethodId} {below : List Frame} {meth : Method} {c : Code} {H : Heap} {locs : List Loc} {Q : State → Prop} {ls : Array Slot} {w0 : Cond} {X : zq_X} {b a0 m0 Ln ct : Nat} {xs : Nat → Int32} {i : Int32} {I : zq_M} (C : zlE p m c s b X a0 m0 Ln xs w0) (D : zlI ls b a0 m0 Ln i ct) (hM : zq_hm X (4 * ct, 4 * ct) I H) (hS : va_S (zq_A X) s.heap H locs) (hJ : zJ X a0 m0 I ct)
    (kk : ∀ (I2 : zq_M) (H : Heap) (locs : List Loc), zq_hm X (4 * (ct + 1), 4 * (ct + 1)) I2 H → va_S (zq_A X) s.heap H locs → zJ X a0 m0 I2 (ct + 1) → W p l e room_1 s m #[Value.ref b] below meth c H locs 500 15578 Q (F0 m 1246 ls [])) : W p l e room_1 s m #[Value.ref b] below meth c H locs 500 15578 Q (F0 m 1134 ls []) := by
  refine lv_aload_n C.E.1 C.E.2.1 dL_law_1134 rfl (lv_at D.hl 2 rfl) ?_
  refine zl_arg C D hS (v := 1) dL_law_1135 dL_law_1136 dL_law_1137 dL_law_1138 dL_law_1139 (by decide +kernel) (by decide) ?_
  refine zl_arg C D hS (v := 2) dL_law_1140 dL_law_1141 dL_law_1142 dL_law_1143 dL_law_1144 (by decide +kernel) (by decide) ?_
  refine zl_arg C D hS (v := 3) dL_law_1145 dL_law_1146 dL_law_1147 dL_law_1148 dL_law_1149 (by decide +kernel) (by decide) ?_
  refine zq_calli (zl_rV (As := [.int (xs (i + 1).toNatClampNeg), .int (xs (i + 2).toNatClampNeg), .int (xs (i + 3).toNatClampNeg)]) (rest := []) C.E C.hZ hM C.ka (c_X11_years l X (4 * ct) (4 * ct) I C.L ct a0 C.ka ((xs (i + 1).toNatClampNeg)) ((xs (i + 2).toNatClampNeg)) ((xs (i + 3).toNatClampNeg)) hJ.1 hJ.2.1 (C.c6 D)) zmL_133 zM_X11_years ⟨by decide, by decide⟩ (by decide) ⟨by decide, by decide⟩ rfl D.hl.1 rfl rfl (Nat.le_of_ble_eq_true rfl) dL_law_1150) hS (fun r2 I2 H locs h2 hM hS => ?_)
  have hJ := hJ.cls C.L C.K h2.1 h2.2.1 h2.2.2 (by decide +kernel)
  refine lv_pop C.E.1 C.E.2.1 dL_law_1153 rfl ?_
  refine lv_aload_n C.E.1 C.E.2.1 dL_law_1154 rfl (lv_at D.hl 1 rfl) ?_
  refine zl_arg C D hS (v := 1) dL_law_1155 dL_law_1156 dL_law_1157 dL_law_1158 dL_law_1159 (by decide +kernel) (by decide) ?_
  refine zl_arg C D hS (v := 2) dL_law_1160 dL_law_1161 dL_law_1162 dL_law_1163 dL_law_1164 (by decide +kernel) (by decide) ?_
  refine zl_arg C D hS (v := 3) dL_law_1165 dL_law_1166 dL_law_1167 dL_law_1168 dL_law_1169 (by decide +kernel) (by decide) ?_
  refine zq_calli (zl_rV (As := [.int (xs (i + 1).toNatClampNeg), .int (xs (i + 2).toNatClampNeg), .int (xs (i + 3).toNatClampNeg)]) (rest := []) C.E C.hZ hM C.km (c_X12_years l X (4 * ct) (4 * ct) I2 C.L m0 C.km ((xs (i + 1).toNatClampNeg)) ((xs (i + 2).toNatClampNeg)) ((xs (i + 3).toNatClampNeg)) (C.z44 D) hJ.2.2.1 (C.z22 D)) zmL_136 zM_X12_years ⟨by decide, by decide⟩ (by decide) ⟨by decide, by decide⟩ rfl D.hl.1 rfl rfl (Nat.le_of_ble_eq_true rfl) dL_law_1170) hS (fun r3 I3 H locs h3 hM hS => ?_)
  have hJ := hJ.ref C.L C.ka C.K h3 (hJ.2.2.1.fr C.L C.km h3 (by decide +kernel)) (by decide +kernel)
  refine lv_pop C.E.1 C.E.2.1 dL_law_1173 rfl ?_
  refine lv_goto (tgt := 1246) C.E.1 C.E.2.1 dL_law_1174 (by decide) ?_
  exact kk _ _ _ (hM.mono (by show 4 * ct ≤ 4 * (ct + 1); omega) (by show 4 * ct ≤ 4 * (ct + 1); omega)) hS hJ
set_option maxHeartbeats 2000000 in
theorem zl_c29 {p : Program} {l : Launch} {e : Env} {s : State} {m : MethodId} {below : List Frame} {meth : Method} {c : Code} {H : Heap} {locs : List Loc} {Q : State → Prop} {ls : Array Slot} {w0 : Cond} {X : zq_X} {b a0 m0 Ln ct : Nat} {xs : Nat → Int32} {i : Int32} {I : zq_M} (C : zlE p m c s b X a0 m0 Ln xs w0) (D : zlI ls b a0 m0 Ln i ct) (hM : zq_hm X (4 * ct, 4 * ct) I H) (hS : va_S (zq_A X) s.heap H locs) (hJ : zJ X a0 m0 I ct)
    (kk : ∀ (I2 : zq_M) (H : Heap) (locs : List Loc), zq_hm X (4 * (ct + 1), 4 * (ct + 1)) I2 H → va_S (zq_A X) s.heap H locs → zJ X a0 m0 I2 (ct + 1) → W p l e room_1 s m #[Value.ref b] below meth c H locs 500 15578 Q (F0 m 1246 ls [])) : W p l e room_1 s m #[Value.ref b] below meth c H locs 500 15578 Q (F0 m 1177 ls []) := by
  refine lv_aload_n C.E.1 C.E.2.1 dL_law_1177 rfl (lv_at D.hl 2 rfl) ?_
  refine zl_arg C D hS (v := 1) dL_law_1178 dL_law_1179 dL_law_1180 dL_law_1181 dL_law_1182 (by decide +kernel) (by decide) ?_
  refine zq_calli (zl_rV (As := [.int (xs (i + 1).toNatClampNeg)]) (rest := []) C.E C.hZ hM C.ka (c_X11_count l X (4 * ct) (4 * ct) I C.L ct a0 C.ka ((xs (i + 1).toNatClampNeg)) hJ.1 hJ.2.1 (C.c6 D)) zmL_137 zM_X11_count ⟨by decide, by decide⟩ (by decide) ⟨by decide, by decide⟩ rfl D.hl.1 rfl rfl (Nat.le_of_ble_eq_true rfl) dL_law_1183) hS (fun r2 I2 H locs h2 hM hS => ?_)
  have e2 := h2.1
  rw [e2] at hM h2
  have hJ : zJ X a0 m0 I (ct + 1) := ⟨h2.2.1, hJ.2⟩
  refine lv_pop C.E.1 C.E.2.1 dL_law_1186 rfl ?_
  refine lv_aload_n C.E.1 C.E.2.1 dL_law_1187 rfl (lv_at D.hl 1 rfl) ?_
  refine zl_arg C D hS (v := 1) dL_law_1188 dL_law_1189 dL_law_1190 dL_law_1191 dL_law_1192 (by decide +kernel) (by decide) ?_
  refine zq_calli (zl_rV (As := [.int (xs (i + 1).toNatClampNeg)]) (rest := []) C.E C.hZ hM C.km (c_X12_count l X (4 * ct) (4 * ct) I C.L m0 C.km ((xs (i + 1).toNatClampNeg)) (C.z44 D)) zmL_140 zM_X12_count ⟨by decide, by decide⟩ (by decide) ⟨by decide, by decide⟩ rfl D.hl.1 rfl rfl (Nat.le_of_ble_eq_true rfl) dL_law_1193) hS (fun r3 I3 H locs h3 hM hS => ?_)
  have e3 := h3.1
  rw [e3] at hM
  refine lv_pop C.E.1 C.E.2.1 dL_law_1196 rfl ?_
  refine lv_goto (tgt := 1246) C.E.1 C.E.2.1 dL_law_1197 (by decide) ?_
  exact kk _ _ _ (hM.mono (by show 4 * ct ≤ 4 * (ct + 1); omega) (by show 4 * ct ≤ 4 * (ct + 1); omega)) hS hJ
set_option maxHeartbeats 2000000 in
theorem zl_c30 {p : Program} {l : Launch} {e : Env} {s : State} {m : MethodId} {below : List Frame} {meth : Method} {c : Code} {H : Heap} {locs : List Loc} {Q : State → Prop} {ls : Array Slot} {w0 : Cond} {X : zq_X} {b a0 m0 Ln ct : Nat} {xs : Nat → Int32} {i : Int32} {I : zq_M} (C : zlE p m c s b X a0 m0 Ln xs w0) (D : zlI ls b a0 m0 Ln i ct) (hM : zq_hm X (4 * ct, 4 * ct) I H) (hS : va_S (zq_A X) s.heap H locs) (hJ : zJ X a0 m0 I ct)
    (kk : ∀ (I2 : zq_M) (H : Heap) (locs : List Loc), zq_hm X (4 * (ct + 1), 4 * (ct + 1)) I2 H → va_S (zq_A X) s.heap H locs → zJ X a0 m0 I2 (ct + 1) → W p l e room_1 s m #[Value.ref b] below meth c H locs 500 15578 Q (F0 m 1246 ls [])) : W p l e room_1 s m #[Value.ref b] below meth c H locs 500 15578 Q (F0 m 1200 ls []) := by
  refine lv_aload_n C.E.1 C.E.2.1 dL_law_1200 rfl (lv_at D.hl 2 rfl) ?_
  refine zl_arg C D hS (v := 1) dL_law_1201 dL_law_1202 dL_law_1203 dL_law_1204 dL_law_1205 (by decide +kernel) (by decide) ?_
  refine zq_calli (zl_rV (As := [.int (xs (i + 1).toNatClampNeg)]) (rest := []) C.E C.hZ hM C.ka (c_X11_image l X (4 * ct) (4 * ct) I C.L ct a0 C.ka ((xs (i + 1).toNatClampNeg)) hJ.1 hJ.2.1 (C.c6 D)) zmL_141 zM_X11_image ⟨by decide, by decide⟩ (by decide) ⟨by decide, by decide⟩ rfl D.hl.1 rfl rfl (Nat.le_of_ble_eq_true rfl) dL_law_1206) hS (fun r2 I2 H locs h2 hM hS => ?_)
  obtain ⟨f1, s1, s2, s3⟩ := h2
  refine lv_pop C.E.1 C.E.2.1 dL_law_1209 rfl ?_
  refine lv_aload_n C.E.1 C.E.2.1 dL_law_1210 rfl (lv_at D.hl 1 rfl) ?_
  refine zl_arg C D hS (v := 1) dL_law_1211 dL_law_1212 dL_law_1213 dL_law_1214 dL_law_1215 (by decide +kernel) (by decide) ?_
  refine zq_calli (zl_rV (As := [.int (xs (i + 1).toNatClampNeg)]) (rest := []) C.E C.hZ hM C.km (c_X12_image l X (4 * ct) (4 * ct) I2 C.L m0 C.km ((xs (i + 1).toNatClampNeg)) (C.z44 D)) zmL_144 zM_X12_image ⟨by decide, by decide⟩ (by decide) ⟨by decide, by decide⟩ rfl D.hl.1 rfl rfl (Nat.le_of_ble_eq_true rfl) dL_law_1216) hS (fun r3 I3 H locs h3 hM hS => ?_)
  have hT := hJ.2.2.2.image C.K f1 (by decide +kernel) h3.1 (by decide +kernel) (by decide +kernel) s3 h3.2.1
  have hJ : zJ X a0 m0 I3 (ct + 1) := ⟨s1.frL C.L h3.1 (by decide +kernel) (by decide +kernel), s2.fr C.L (zq_lk C.L.1 C.ka rfl (by decide)) h3.1 (by decide +kernel), ((hJ.2.2.1.fr C.L C.km f1 (by decide +kernel)).fr C.L C.km h3.1 (by decide +kernel)), hT⟩
  refine lv_pop C.E.1 C.E.2.1 dL_law_1219 rfl ?_
  refine lv_goto (tgt := 1246) C.E.1 C.E.2.1 dL_law_1220 (by decide) ?_
  exact kk _ _ _ (hM.mono (by show 4 * ct ≤ 4 * (ct + 1); omega) (by show 4 * ct ≤ 4 * (ct + 1); omega)) hS hJ
set_option maxHeartbeats 2000000 in
theorem zl_c31 {p : Program} {l : Launch} {e : Env} {s : State} {m : MethodId} {below : List Frame} {meth : Method} {c : Code} {H : Heap} {locs : List Loc} {Q : State → Prop} {ls : Array Slot} {w0 : Cond} {X : zq_X} {b a0 m0 Ln ct : Nat} {xs : Nat → Int32} {i : Int32} {I : zq_M} (C : zlE p m c s b X a0 m0 Ln xs w0) (D : zlI ls b a0 m0 Ln i ct) (hM : zq_hm X (4 * ct, 4 * ct) I H) (hS : va_S (zq_A X) s.heap H locs) (hJ : zJ X a0 m0 I ct)
    (kk : ∀ (I2 : zq_M) (H : Heap) (locs : List Loc), zq_hm X (4 * (ct + 1), 4 * (ct + 1)) I2 H → va_S (zq_A X) s.heap H locs → zJ X a0 m0 I2 (ct + 1) → W p l e room_1 s m #[Value.ref b] below meth c H locs 500 15578 Q (F0 m 1246 ls [])) : W p l e room_1 s m #[Value.ref b] below meth c H locs 500 15578 Q (F0 m 1223 ls []) := by
  refine lv_aload_n C.E.1 C.E.2.1 dL_law_1223 rfl (lv_at D.hl 2 rfl) ?_
  refine zl_arg C D hS (v := 1) dL_law_1224 dL_law_1225 dL_law_1226 dL_law_1227 dL_law_1228 (by decide +kernel) (by decide) ?_
  refine zq_calli (zl_rV (As := [.int (xs (i + 1).toNatClampNeg)]) (rest := []) C.E C.hZ hM C.ka (c_X11_back l X (4 * ct) (4 * ct) I C.L ct a0 C.ka ((xs (i + 1).toNatClampNeg)) hJ.1 hJ.2.1 (C.c6 D)) zmL_145 zM_X11_back ⟨by decide, by decide⟩ (by decide) ⟨by decide, by decide⟩ rfl D.hl.1 rfl rfl (Nat.le_of_ble_eq_true rfl) dL_law_1229) hS (fun r2 I2 H locs h2 hM hS => ?_)
  obtain ⟨f1, s1, s2, s3⟩ := h2
  refine lv_pop C.E.1 C.E.2.1 dL_law_1232 rfl ?_
  refine lv_aload_n C.E.1 C.E.2.1 dL_law_1233 rfl (lv_at D.hl 1 rfl) ?_
  refine zl_arg C D hS (v := 1) dL_law_1234 dL_law_1235 dL_law_1236 dL_law_1237 dL_law_1238 (by decide +kernel) (by decide) ?_
  refine zq_calli (zl_rV (As := [.int (xs (i + 1).toNatClampNeg)]) (rest := []) C.E C.hZ hM C.km (c_X12_back l X (4 * ct) (4 * ct) I2 C.L m0 C.km ((xs (i + 1).toNatClampNeg)) (C.z44 D)) zmL_148 zM_X12_back ⟨by decide, by decide⟩ (by decide) ⟨by decide, by decide⟩ rfl D.hl.1 rfl rfl (Nat.le_of_ble_eq_true rfl) dL_law_1239) hS (fun r3 I3 H locs h3 hM hS => ?_)
  have hT := hJ.2.2.2.back C.K f1 (by decide +kernel) h3.1 (by decide +kernel) (by decide +kernel) s3 h3.2.1
  have hJ : zJ X a0 m0 I3 (ct + 1) := ⟨s1.frL C.L h3.1 (by decide +kernel) (by decide +kernel), s2.fr C.L (zq_lk C.L.1 C.ka rfl (by decide)) h3.1 (by decide +kernel), ((hJ.2.2.1.fr C.L C.km f1 (by decide +kernel)).fr C.L C.km h3.1 (by decide +kernel)), hT⟩
  refine lv_pop C.E.1 C.E.2.1 dL_law_1242 rfl ?_
  refine lv_goto (tgt := 1246) C.E.1 C.E.2.1 dL_law_1243 (by decide) ?_
  exact kk _ _ _ (hM.mono (by show 4 * ct ≤ 4 * (ct + 1); omega) (by show 4 * ct ≤ 4 * (ct + 1); omega)) hS hJ
