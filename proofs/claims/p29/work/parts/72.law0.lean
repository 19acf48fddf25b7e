def R_law : String := "PondIceTradeLaw"
def lw_P (b : Addr) (xs : List Int32) (args : Array Value) (s : State) : Prop := args = #[.ref b] ∧ s.IntsAt b xs ∧ xs.length ≤ 3072 ∧ (Jvm.Cond.and given_1 narrow_1).before args s = true ∧ heapFits s = true
def lw_Q (_ : Array Value) (s : State) (o : Outcome) (t : State) : Prop := o = .returned (some (.int 1)) ∧ Framed s o t [] 600000 7302250
def lw_Z (below : List Frame) (a : Array Value) (s : State) : State → Prop := fun t => ∃ o, t.status = .running ∧ Ended t below o ∧ lw_Q a s o t
/-- the law's own end, with 1 on the stack, nothing written that was there before, its room as the claim has it -/
theorem lw_ret {p : Program} {l : Launch} {e : Env} {s : State} {m : MethodId} {below : List Frame} {meth : Method} {c : Code} {b : Nat} (hx : p.tables.exec = Jvm.exec) (hb : c.code = code) (hr : meth.sig.returnType = ret) (hlocks : meth.locks = false) {pc : Nat} {H : Heap} {ls : Array Slot} (hdg : decode code pc = .ok (.ireturn, 1)) : W p l e room_1 s m #[Value.ref b] below meth c H [] 600000 7302250 (lw_Z below #[Value.ref b] s) (F0 m pc ls [.int 1]) := by
  intro T hT X
  obtain ⟨fs, hret, hrun, hended, hW, hframe⟩ := X.leave (v := some (.int 1)) (hlocks := hlocks) (fun h => by rw [hr] at h; cases h)
  have hmeth' : T.vm.method? m = some meth := X.method'
  refine ⟨T.setFrames fs, ?_, .returned (some (.int 1)), hrun, hended, rfl, ⟨_, rfl⟩, hW, hframe⟩
  jvm_step X.here [X.here.top, hx, hb, hdg, hmeth', hr, ret, narrow_b1]
  (try refine ⟨rfl, ?_⟩); (try refine ⟨rfl, ?_⟩)
  first | (intro acts; rw [hret _ acts rfl rfl rfl]) | rw [hret _ _ rfl rfl rfl]
  exact Steps.refl _
/-- what holds at the law's entry: the machine, the code, the tables' words (any of lw_tbl by 'hts w (by decide +kernel)'), the script of L ints xs at the cell b, what the Statement gives of the start (any of its parts by flat_of_before) -/
def lw_At (p : Program) (s : State) (m : MethodId) (meth : Method) (c : Code) (b L : Nat) (xs : Nat → Int32) : Prop :=
  p.tables.exec = Jvm.exec ∧ c.code = code ∧ meth.sig.returnType = ret ∧ c.maxLocals = 4 ∧ s.vm.findClass R_law = some m.cls ∧ (∀ w ∈ lw_tbl, w.before #[Value.ref b] s = true) ∧ va_X b L xs s s.heap ∧ b < s.heap.size ∧ meth.locks = false ∧ (Jvm.Cond.and given_1 narrow_1).before #[Value.ref b] s = true ∧ heapFits s = true
/-! THE LAW: the two objects are made, then the calls one after another -/
def zl_s (X : zq_X) (i : Nat) (H : Heap) : Prop := H.size = (zq_h0 X).size + i ∧ (∀ q, (zq_h0 X).size ≤ q → q < (zq_h0 X).size + i → zdn X q H) ∧ ∀ q, q < (zq_h0 X).size → H[q]? = (zq_h0 X)[q]?
section ZL
variable {p : Program} {l : Launch} {e : Env} {R : Room} {s : State} {m : MethodId} {args : Array Value} {below : List Frame} {meth : Method} {c : Code} {H : Heap} {locs : List Loc} {cells slots : Nat} {Q : State → Prop}
variable {cc : ByteArray} {nL pc : Nat} {ls : Array Slot} {rest : List Value} {w0 : Cond} {own : String} {X : zq_X} {k i index : Nat}
/-- new, dup, <init>, with no parent -/
theorem zl_make {k2 N2 c2 n2 d maxL idx : Nat} {C : String} {T : u_T} {y : MethodName} {code2 : ByteArray} (E : CallFix p m c cc nL s args (w0 :: zt) own) (hK : zcK X s) (h : zl_s X i H) (hS : va_S (zcA (zq_h0 X).size) s.heap H locs) (met : zcM l X y code2 maxL d k2 ((zq_h0 X).size + i) c2 n2) (hc : vwCl[k2 - 1]? = some (C, T, N2)) (hNz : N2 = zq_n k2) (hin : ∀ w ∈ u_ws C T N2, w ∈ zt) (ty : Nat → FieldType) (hty : ∀ k, k < N2 → parseFieldDescriptor (T k).2.2.1 = some (ty k)) (hdv : ∀ j, j < N2 → defaultValue (ty j) = zdV k2 j)
    (hw1 : Cond.classLink own index C ∈ zt) (hw2 : Cond.instantiable C N2 ∈ zt) (hw3 : Cond.initialized C ∈ zt) (hw4 : Cond.methodLink own idx y ∈ zt) (hw5 : Cond.instanceMethod y ∈ zt) (hw6 : Cond.code y code2 maxL none ∈ zt) (hy : y.name = "<init>" ∧ y.cls = C) (hyd : y.cls ≠ "java/lang/invoke/MethodHandle" ∧ y.cls ≠ "java/lang/invoke/VarHandle" ∧ (parseMethodDescriptor y.desc).map (fun d => d.parameters.length) = some 0)
    (hR : (d + 1 ≤ R.frames ∧ 8 + (maxL + 11) + 64 * d ≤ R.locals) ∧ cells + 1 + c2 ≤ R.cells ∧ slots + N2 + n2 ≤ R.slots) (hs : ls.size = nL) (hW : ((Value.ref ((zq_h0 X).size + i) :: rest).map fun v => v.category).sum ≤ 8) (d1 : decode cc pc = .ok (.new index, 3)) (d2 : decode cc (pc + 3) = .ok (.dup, 1)) (d3 : decode cc (pc + 4) = .ok (.invokespecial idx, 3))
    (kk : ∀ (H1 : Heap) (locs1 : List Loc), zl_s X (i + 1 + c2) H1 → va_S (zcA (zq_h0 X).size) s.heap H1 locs1 → W p l e R s m args below meth c H1 locs1 (cells + 1 + c2) (slots + N2 + n2) Q (F0 m (pc + 7) ls (.ref ((zq_h0 X).size + i) :: rest))) : W p l e R s m args below meth c H locs cells slots Q (F0 m pc ls rest) := by
  have hin' : ∀ w ∈ u_ws C T N2, w ∈ (w0 :: zt) := fun w hw => List.mem_cons_of_mem _ (hin w hw)
  have hh : ∀ w ∈ zt, w.before args s = true := fun w hw => E.2.2.2.2 _ (List.mem_cons_of_mem _ hw)
  have hKn := hK.1.1.1 (k2 - 1) _ hc
  refine W.newcK E.1 E.2.1 E.2.2.2.1 (hh _ hw1) (hh _ hw2) (hh _ hw3) rfl d1 (by omega) (by omega) hKn.2.1 h.1 fun H1 kC hkC e1 z1 o1 => ?_
  have hb : zob X k2 ((zq_h0 X).size + i) (zdV k2) H1 := by
    have := (u_born ty E.2.2.2.2 hin' hKn hkC e1 hty).to hdv
    rw [hNz] at this
    exact this
  obtain ⟨h1, h3, h5⟩ := id h
  refine lv_dup E.1 E.2.1 d2 rfl ?_
  have hS1 : va_S (zcA (zq_h0 X).size) s.heap H1 locs := zcS.grow hS (by rw [h1, z1]; omega) (by rw [h1]; exact o1)
  have hcb := callB_of (rm := zc_rm d c2 n2) (mc := c2) (ms := n2) (R := R) 0 E.2.2.2.2 (zt_good (w0 := w0) (zt_code hw6)) rfl rfl rfl (by rw [hy.2]; exact hh _ hw3) (hh _ hw4) hyd hR.1
  refine va_callv (va_runI (As := []) (rest := .ref ((zq_h0 X).size + i) :: rest) E met ⟨hcb, hy.1, hh _ hw5⟩ ⟨zcblind, fun U hU hWm => ⟨rfl, ⟨by rw [hU]; exact z1, by omega, by rw [hU]; exact hb, fun q hq => by rw [hU]; exact (o1 q (by omega)).trans (h5 q hq)⟩, hK.warm hWm⟩⟩ rfl rfl hs rfl (lv_room hW) d3 ⟨hR.2.1, hR.2.2⟩) hS1 (fun q _ hq => Nat.le_trans (by omega) hq) (fun q hq => Nat.le_trans (by omega) hq) (fun _ t H2 locs1 ht _ _ hB hz hkeep hS2 => ?_)
  obtain ⟨b1, b2⟩ := hB
  rw [ht] at b1 b2
  have o2 : ∀ q, q < (zq_h0 X).size + i → H2[q]? = H[q]? := fun q hq => (hkeep q (by omega) (fun z => by have : (zq_h0 X).size + i ≤ q := z; omega)).trans (o1 q hq)
  refine kk H2 locs1 ⟨by omega, fun q g1 g2 => ?_, fun q hq => (o2 q (by omega)).trans (h5 q hq)⟩ hS2
  by_cases c : q < (zq_h0 X).size + i
  · exact (h3 q g1 c).kept (o2 q c)
  · exact b2 q (by omega) (by omega)
/-- the run of a call out of the law: room is used up to some cells -/
theorem zl_rV {T : u_T} {N n maxL d a : Nat} {z : zq_Z} {I : zq_M} {C : String} {y : MethodName} {bytes : ByteArray} {ret : Option FieldType} {As st0 : List Value} {Qc : Array Value → State → Outcome → State → Prop} (E : CallFix p m c cc nL s args (w0 :: zt) own) (hZ : zq_K X s) (hM : zq_hm X z I H) (hk : zq_k X a = k) (met : Met l y (zt_w y bytes maxL ret) (zq_rm d) (va_Pc (.ref a :: As) (zq_W X z I)) Qc 0 0 (zq_A X)) (hL : Cond.methodLink own index y ∈ zt) (hV : zt_V C y bytes maxL ret n)
    (hR : zq_rok d maxL R) (hcs : cells ≤ R.cells ∧ slots ≤ R.slots) (h1 : 0 < k ∧ k < 11) (hc : vwCl[k - 1]? = some (C, T, N)) (hs : ls.size = nL) (hn : As.length = n) (hst : st0 = As.reverse ++ .ref a :: rest) (hW : (rest.map fun v => v.category).sum ≤ 8) (hdg : decode cc pc = .ok (.invokevirtual index, 3)) :
    va_Run p l e R s m args below meth c H locs cells slots 0 0 (F0 m pc ls st0) rest (Qc (Value.ref a :: As).toArray) (zq_A X) :=
  va_runV (As := As) (rest := rest) E met (zq_cwV E hL hV hR) (zq_preV hM hZ hk h1 hc) rfl hn hs hst (lv_room hW) hdg ⟨hcs.1, hcs.2⟩
end ZL
/-! the numbers at the start are in their ranges -/
theorem zl_ls {l : List (Int × Int)} (h : l.all (fun q => decide (q.1 ≤ 0) && decide (0 ≤ q.2)) = true) (j : Nat) : (zq_ls l j).1 ≤ 0 ∧ 0 ≤ (zq_ls l j).2 := by
  unfold zq_ls
  rw [List.getD_eq_getElem?_getD]
  rcases Nat.lt_or_ge j l.length with q | q
  · rw [List.getElem?_eq_getElem q]
    have := List.all_eq_true.mp h _ (List.getElem_mem q)
    simp only [Bool.and_eq_true, decide_eq_true_eq] at this
    exact this
  · rw [List.getElem?_eq_none q]
    exact ⟨by decide, by decide⟩
theorem zl_r0 (z : Nat × Nat) (k j : Nat) : (zq_rg z k j).1 ≤ 0 ∧ 0 ≤ (zq_rg z k j).2 := by
  unfold zq_rg
  split <;> first | exact zl_ls (by decide) j | exact zk_0 _ _ | exact ⟨by decide, by decide⟩
theorem zl_rg (k j : Nat) : (zq_rg (0, 0) k j).1 ≤ (zv0 k j).toInt ∧ (zv0 k j).toInt ≤ (zq_rg (0, 0) k j).2 := by
  unfold zv0
  by_cases q : (k = 5 ∧ j = 2) ∨ (k = 1 ∧ j = 2) ∨ (k = 10 ∧ j = 21)
  · rw [if_pos q]
    rcases q with ⟨rfl, rfl⟩ | ⟨rfl, rfl⟩ | ⟨rfl, rfl⟩ <;> decide
  · rw [if_neg q]
    by_cases q2 : k = 10 ∧ j = 23
    · rw [if_pos q2]
      obtain ⟨rfl, rfl⟩ := q2
      decide
    · rw [if_neg q2]
      exact zl_r0 (0, 0) k j
theorem zl_v0 {k j : Nat} (h : j ≠ 2) (h2 : j < 21 ∨ j = 22) : zv0 k j = 0 := by
  unfold zv0
  rw [if_neg (by omega), if_neg (by omega)]
theorem zl_v1 (k j : Nat) (h : j < 6) : (zv0 k j).toInt ≤ 0 := by
  unfold zv0
  by_cases q : (k = 5 ∧ j = 2) ∨ (k = 1 ∧ j = 2) ∨ (k = 10 ∧ j = 21)
  · rw [if_pos q]; decide
  · rw [if_neg q, if_neg (by omega)]; decide
/-- the seeds of the two sides go together: now, and in each image -/
def zTie (X : zq_X) (a m : Nat) (I : zq_M) : Prop := I (zq_r X a 3) 3 = I m 22 ∧ ∀ k, k < 4 → I (zq_r X a 6) k = I (zq_r X m 33) k ∧ (¬ (I (zq_r X a 6) k).toInt = 0 → I (zq_r X (zq_r X a 5) k) 3 = I (zq_r X m 32) k)
def zJ (X : zq_X) (a m : Nat) (I : zq_M) (ct : Nat) : Prop := zI X I ct ∧ zS0 X I (zq_r X a 4) ∧ zWF X I m ∧ zTie X a m I
section ZT
variable {X : zq_X} {a m : Nat} {I I2 I3 : zq_M}
theorem zJ.start (L : zq_L X) (ka : zq_k X a = 9) (km : zq_k X m = 10) : zJ X a m (zI0 X) 0 := by
  refine ⟨fun w hw _ => zW.none (by show (zv0 _ 6).toInt = 0; rw [zl_v0 (by decide) (by decide)]; decide), fun j _ => by show (zv0 _ 4).toInt = 0; rw [zl_v0 (by decide) (by decide)]; decide, fun r hr c hc => ?_, ?_, fun k hk => ?_⟩
  · have h1 : ((zI0 X) (zq_r X m 6) r).toInt ≤ 0 := zl_v1 _ r hr
    omega
  · show zv0 _ 3 = zv0 _ 22
    rw [zl_v0 (by decide) (by decide), zl_v0 (by decide) (by decide)]
  · have k1 : zq_k X (zq_r X a 6) = 41 := zq_lk L.1 ka rfl (by decide)
    have k2 : zq_k X (zq_r X m 33) = 67 := zq_lk L.1 km rfl (by decide)
    have e1 : (zI0 X) (zq_r X a 6) k = 0 := by show zv0 _ k = 0; rw [k1]; exact zv0_arr (by decide)
    have e2 : (zI0 X) (zq_r X m 33) k = 0 := by show zv0 _ k = 0; rw [k2]; exact zv0_arr (by decide)
    exact ⟨e1.trans e2.symm, fun h => absurd (by rw [e1]; decide) h⟩
/-- what a frame leaves alone, of the class's side and of the reference's -/
def zNa (Lw : List (Nat × Nat)) : Bool := Lw.all (fun q => (q.1 != 1 || (q.2 != 3 && q.2 != 999)) && q.1 != 41)
def zNm (Lw : List (Nat × Nat)) : Bool := Lw.all (fun q => (q.1 != 10 || (q.2 != 22 && q.2 != 999)) && q.1 != 66 && q.1 != 67)
theorem zNa.fr {Lw : List (Nat × Nat)} {P : Nat → Prop} (f : zq_fr (zf X Lw P) I I2) (h : zNa Lw = true) : (∀ q, zq_k X q = 1 → I2 q 3 = I q 3) ∧ ∀ q j, zq_k X q = 41 → I2 q j = I q j := by
  have h1 : ∀ q ∈ Lw, (q.1 ≠ 1 ∨ (q.2 ≠ 3 ∧ q.2 ≠ 999)) ∧ q.1 ≠ 41 := fun q hq => by
    have := List.all_eq_true.mp h q hq
    simpa only [Bool.and_eq_true, Bool.or_eq_true, bne_iff_ne, ne_eq] using this
  refine ⟨fun q hq => f _ _ (zf_n hq ?_), fun q j hq => f _ _ (zf_n hq ?_)⟩
  · unfold zf_in
    rw [List.any_eq_false]
    intro r hr
    have := h1 r hr
    simp only [Bool.and_eq_true, Bool.or_eq_true, beq_iff_eq, not_and]
    omega
  · unfold zf_in
    rw [List.any_eq_false]
    intro r hr
    have := h1 r hr
    simp only [Bool.and_eq_true, Bool.or_eq_true, beq_iff_eq, not_and]
    omega
theorem zNm.fr {Lw : List (Nat × Nat)} {P : Nat → Prop} (f : zq_fr (zf X Lw P) I I2) (h : zNm Lw = true) : (∀ q, zq_k X q = 10 → I2 q 22 = I q 22) ∧ ∀ q j, zq_k X q = 66 ∨ zq_k X q = 67 → I2 q j = I q j := by
  have h1 : ∀ q ∈ Lw, ((q.1 ≠ 10 ∨ (q.2 ≠ 22 ∧ q.2 ≠ 999)) ∧ q.1 ≠ 66) ∧ q.1 ≠ 67 := fun q hq => by
    have := List.all_eq_true.mp h q hq
    simpa only [Bool.and_eq_true, Bool.or_eq_true, bne_iff_ne, ne_eq] using this
  refine ⟨fun q hq => f _ _ (zf_n hq ?_), fun q j hq => ?_⟩
  · unfold zf_in
    rw [List.any_eq_false]
    intro r hr
    have := h1 r hr
    simp only [Bool.and_eq_true, Bool.or_eq_true, beq_iff_eq, not_and]
    omega
  · have hn : zf_in Lw (zq_k X q) j = false := by
      unfold zf_in
      rw [List.any_eq_false]
      intro r hr
      have := h1 r hr
      simp only [Bool.and_eq_true, Bool.or_eq_true, beq_iff_eq, not_and]
      omega
    exact f _ _ (zf_n rfl hn)
def zTz (X : zq_X) (a m : Nat) : Prop := (zq_k X (zq_r X a 3) = 1) ∧ (zq_k X (zq_r X a 6) = 41) ∧ (∀ k, k < 4 → zq_k X (zq_r X (zq_r X a 5) k) = 1) ∧ (zq_k X m = 10) ∧ (zq_k X (zq_r X m 32) = 66) ∧ (zq_k X (zq_r X m 33) = 67) ∧ (∀ k, k < 4 → zq_r X (zq_r X a 5) k ≠ zq_r X a 3) ∧ (∀ k i, k < 4 → i < 4 → k ≠ i → zq_r X (zq_r X a 5) k ≠ zq_r X (zq_r X a 5) i)
theorem zTz.b3 {X : zq_X} {a m : Nat} (h : zTz X a m) : zq_k X (zq_r X a 3) = 1 := h.1
theorem zTz.b6 {X : zq_X} {a m : Nat} (h : zTz X a m) : zq_k X (zq_r X a 6) = 41 := h.2.1
theorem zTz.b5 {X : zq_X} {a m : Nat} (h : zTz X a m) : ∀ k, k < 4 → zq_k X (zq_r X (zq_r X a 5) k) = 1 := h.2.2.1
theorem zTz.km {X : zq_X} {a m : Nat} (h : zTz X a m) : zq_k X m = 10 := h.2.2.2.1
theorem zTz.m2 {X : zq_X} {a m : Nat} (h : zTz X a m) : zq_k X (zq_r X m 32) = 66 := h.2.2.2.2.1
theorem zTz.m3 {X : zq_X} {a m : Nat} (h : zTz X a m) : zq_k X (zq_r X m 33) = 67 := h.2.2.2.2.2.1
theorem zTz.ne {X : zq_X} {a m : Nat} (h : zTz X a m) : ∀ k, k < 4 → zq_r X (zq_r X a 5) k ≠ zq_r X a 3 := h.2.2.2.2.2.2.1
theorem zTz.nn {X : zq_X} {a m : Nat} (h : zTz X a m) : ∀ k i, k < 4 → i < 4 → k ≠ i → zq_r X (zq_r X a 5) k ≠ zq_r X (zq_r X a 5) i := h.2.2.2.2.2.2.2
theorem zTz.of (L : zq_L X) (ka : zq_k X a = 9) (km : zq_k X m = 10) : zTz X a m := by
  have h5 : zq_k X (zq_r X a 5) = zq_rk 9 5 := L.1 a 9 5 ka (by decide)
  have ho := L.2.2.2.1 a ka
  exact ⟨zq_lk L.1 ka rfl (by decide), zq_lk L.1 ka rfl (by decide), fun k hk => zq_lay_a L.1 h5 (n := 4) hk (by decide) (by decide), km, zq_lk L.1 km rfl (by decide), zq_lk L.1 km rfl (by decide), fun k hk e => by have h1 := ho.2.2.1 k hk; rw [e, ho.1] at h1; omega, fun k i hk hi hn e => by have h1 := ho.2.2.1 k hk; have h2 := ho.2.2.1 i hi; rw [e, h2] at h1; omega⟩
theorem zTie.fr {Lw : List (Nat × Nat)} {P : Nat → Prop} (t : zTie X a m I) (K : zTz X a m) (f : zq_fr (zf X Lw P) I I2) (h1 : zNa Lw = true) (h2 : zNm Lw = true) : zTie X a m I2 := by
  obtain ⟨f1, f2⟩ := zNa.fr f h1
  obtain ⟨g1, g2⟩ := zNm.fr f h2
  refine ⟨by rw [f1 _ K.b3, g1 _ K.km]; exact t.1, fun k hk => ?_⟩
  rw [f2 _ _ K.b6, g2 _ _ (Or.inr K.m3), f1 _ (K.b5 k hk), g2 _ _ (Or.inl K.m2)]
  exact t.2 k hk
theorem zJ.cls {Lw : List (Nat × Nat)} {P : Nat → Prop} {ct : Nat} (h : zJ X a m I ct) (L : zq_L X) (K : zTz X a m) (f : zq_fr (zf X Lw P) I I2) (h1 : zI X I2 (ct + 1)) (h2 : zS0 X I2 (zq_r X a 4)) (n : (Lw.all (fun q => q.1 != 51 && q.1 != 53 && q.1 != 54) && zNa Lw && zNm Lw) = true) : zJ X a m I2 (ct + 1) := by
  simp only [Bool.and_eq_true] at n
  exact ⟨h1, h2, h.2.2.1.fr L K.km f n.1.1, h.2.2.2.fr K f n.1.2 n.2⟩
theorem zJ.ref {Lw : List (Nat × Nat)} {P : Nat → Prop} {ct : Nat} (h : zJ X a m I ct) (L : zq_L X) (ka : zq_k X a = 9) (K : zTz X a m) (f : zq_fr (zf X Lw P) I I2) (h3 : zWF X I2 m) (n : ((!(zf_in Lw 8 6)) && (!(zf_in Lw 7 1 || zf_in Lw 7 2 || zf_in Lw 7 3 || zf_in Lw 7 4)) && (!(zf_in Lw 7 4)) && zNa Lw && zNm Lw) = true) : zJ X a m I2 ct := by
  simp only [Bool.and_eq_true, Bool.not_eq_true'] at n
  exact ⟨h.1.frL L f n.1.1.1.1 n.1.1.1.2, h.2.1.fr L (zq_lk L.1 ka rfl (by decide)) f n.1.1.2, h3, h.2.2.2.fr K f n.1.2 n.2⟩
theorem zTie.seed {L1 L2 : List (Nat × Nat)} {P1 P2 : Nat → Prop} {p1 r1 r2 : Int32} (t : zTie X a m I) (K : zTz X a m) (f : zq_fr (zf X L1 P1) I I2) (n1 : zNm L1 = true) (n6 : L1.all (fun q => q.1 != 41) = true) (g : zq_fr (zf X L2 P2) I2 I3) (n2 : zNa L2 = true) (n7 : L2.all (fun q => q.1 != 66 && q.1 != 67) = true)
    (h : (p1.toInt < 0 ∧ r1.toInt = -1 ∧ I2 (zq_r X a 3) 3 = I (zq_r X a 3) 3 ∧ (∀ q, zq_k X q = 1 → q ≠ (zq_r X a 3) → I2 q 3 = I q 3)) ∨ (0 ≤ p1.toInt ∧ r1 = I (zq_r X a 3) 3 ∧ I2 (zq_r X a 3) 3 = p1 ∧ (∀ q, zq_k X q = 1 → q ≠ (zq_r X a 3) → I2 q 3 = I q 3)))
    (h2 : (p1.toInt < 0 ∧ r2.toInt = -1 ∧ I3 m 22 = I2 m 22) ∨ (0 ≤ p1.toInt ∧ r2 = I2 m 22 ∧ I3 m 22 = p1)) : zTie X a m I3 ∧ r1 = r2 := by
  obtain ⟨f1, f2⟩ := zNm.fr f n1
  obtain ⟨g1, g2⟩ := zNa.fr g n2
  have f6 : ∀ j, I2 (zq_r X a 6) j = I (zq_r X a 6) j := fun j => f _ _ (zf_n K.b6 (by
    unfold zf_in
    rw [List.any_eq_false]
    intro r hr
    have := List.all_eq_true.mp n6 r hr
    simp only [bne_iff_ne, ne_eq] at this
    simp only [Bool.and_eq_true, Bool.or_eq_true, beq_iff_eq, not_and]
    omega))
  have g7 : ∀ q j, zq_k X q = 66 ∨ zq_k X q = 67 → I3 q j = I2 q j := fun q j hq => g _ _ (zf_n rfl (by
    unfold zf_in
    rw [List.any_eq_false]
    intro r hr
    have := List.all_eq_true.mp n7 r hr
    simp only [Bool.and_eq_true, bne_iff_ne, ne_eq] at this
    simp only [Bool.and_eq_true, Bool.or_eq_true, beq_iff_eq, not_and]
    omega))
  have hne : ∀ q, zq_k X q = 1 → q ≠ zq_r X a 3 → I2 q 3 = I q 3 := by
    rcases h with h | h
    · exact h.2.2.2
    · exact h.2.2.2
  have rest : ∀ k, k < 4 → I3 (zq_r X a 6) k = I3 (zq_r X m 33) k ∧ (¬ (I3 (zq_r X a 6) k).toInt = 0 → I3 (zq_r X (zq_r X a 5) k) 3 = I3 (zq_r X m 32) k) := fun k hk => by
    rw [g2 _ _ K.b6, g1 _ (K.b5 k hk), g7 _ _ (Or.inr K.m3), g7 _ _ (Or.inl K.m2), f6, hne _ (K.b5 k hk) (K.ne k hk), f2 _ _ (Or.inr K.m3), f2 _ _ (Or.inl K.m2)]
    exact t.2 k hk
  rcases h with h | h
  · rcases h2 with h2 | h2
    · refine ⟨⟨?_, rest⟩, Int32.toInt_inj.mp (h.2.1.trans h2.2.1.symm)⟩
      rw [g1 _ K.b3, h.2.2.1, h2.2.2, f1 _ K.km]
      exact t.1
    · exact absurd h2.1 (by omega)
  · rcases h2 with h2 | h2
    · exact absurd h2.1 (by omega)
    · refine ⟨⟨?_, rest⟩, ?_⟩
      · rw [g1 _ K.b3, h.2.2.1, h2.2.2]
      · rw [h.2.1, h2.2.1, f1 _ K.km]
        exact t.1
theorem zTie.image {L1 L2 : List (Nat × Nat)} {P1 P2 : Nat → Prop} {p1 : Int32} (t : zTie X a m I) (K : zTz X a m) (f : zq_fr (zf X L1 P1) I I2) (n1 : zNm L1 = true) (g : zq_fr (zf X L2 P2) I2 I3) (n2 : zNa L2 = true) (n7 : zf_in L2 10 22 = false)
    (h : ((p1.toInt < 0 ∨ 3 < p1.toInt) ∧ (∀ q, zq_k X q = 1 → I2 q 3 = I q 3) ∧ (∀ i, I2 (zq_r X a 6) i = I (zq_r X a 6) i)) ∨ (0 ≤ p1.toInt ∧ p1.toInt ≤ 3 ∧ I2 (zq_r X (zq_r X a 5) p1.toNatClampNeg) 3 = I (zq_r X a 3) 3 ∧ (∀ q, zq_k X q = 1 → q ≠ (zq_r X (zq_r X a 5) p1.toNatClampNeg) → I2 q 3 = I q 3) ∧ I2 (zq_r X a 6) p1.toNatClampNeg = 1 ∧ (∀ i, i ≠ p1.toNatClampNeg → I2 (zq_r X a 6) i = I (zq_r X a 6) i)))
    (h2 : ((p1.toInt < 0 ∨ 3 < p1.toInt) ∧ (∀ i, I3 (zq_r X m 32) i = I2 (zq_r X m 32) i) ∧ (∀ i, I3 (zq_r X m 33) i = I2 (zq_r X m 33) i)) ∨ (0 ≤ p1.toInt ∧ p1.toInt ≤ 3 ∧ (I3 (zq_r X m 32) p1.toNatClampNeg = I2 m 22 ∧ (∀ i, i ≠ p1.toNatClampNeg → I3 (zq_r X m 32) i = I2 (zq_r X m 32) i)) ∧ (I3 (zq_r X m 33) p1.toNatClampNeg = 1 ∧ (∀ i, i ≠ p1.toNatClampNeg → I3 (zq_r X m 33) i = I2 (zq_r X m 33) i)))) : zTie X a m I3 := by
  obtain ⟨f1, f2⟩ := zNm.fr f n1
  obtain ⟨g1, g2⟩ := zNa.fr g n2
  have gm : I3 m 22 = I2 m 22 := g _ _ (zf_n K.km n7)
  rcases h with ⟨h0, h1, h3⟩ | ⟨h0, h1, h3, h4, h5, h6⟩
  · rcases h2 with ⟨k0, k1, k3⟩ | ⟨k0, k1, -⟩
    · refine ⟨by rw [g1 _ K.b3, h1 _ K.b3, gm, f1 _ K.km]; exact t.1, fun k hk => ?_⟩
      rw [g2 _ _ K.b6, h3, k3, f2 _ _ (Or.inr K.m3), g1 _ (K.b5 k hk), h1 _ (K.b5 k hk), k1, f2 _ _ (Or.inl K.m2)]
      exact t.2 k hk
    · omega
  · rcases h2 with ⟨k0, -⟩ | ⟨k0, k1, ⟨k2, k3⟩, k4, k5⟩
    · omega
    · have hlt : p1.toNatClampNeg < 4 := by
        have := zq_inn (i := p1) (n := 4) ⟨h0, by omega⟩
        exact this
      refine ⟨by rw [g1 _ K.b3, h4 _ K.b3 (fun e => K.ne _ hlt e.symm), gm, f1 _ K.km]; exact t.1, fun k hk => ?_⟩
      by_cases e : k = p1.toNatClampNeg
      · subst e
        rw [g2 _ _ K.b6, h5, k4, g1 _ (K.b5 _ hk), h3, k2, f1 _ K.km]
        exact ⟨rfl, fun _ => t.1⟩
      · rw [g2 _ _ K.b6, h6 k e, k5 k e, f2 _ _ (Or.inr K.m3), g1 _ (K.b5 k hk), h4 _ (K.b5 k hk) (K.nn k _ hk hlt e), k3 k e, f2 _ _ (Or.inl K.m2)]
        exact t.2 k hk
theorem zTie.back {L1 L2 : List (Nat × Nat)} {P1 P2 : Nat → Prop} {p1 : Int32} (t : zTie X a m I) (K : zTz X a m) (f : zq_fr (zf X L1 P1) I I2) (n1 : zNm L1 = true) (g : zq_fr (zf X L2 P2) I2 I3) (n2 : zNa L2 = true) (n7 : L2.all (fun q => q.1 != 66 && q.1 != 67) = true)
    (h : (((∀ q, zq_k X q = 1 → I2 q 3 = I q 3) ∧ (∀ i, I2 (zq_r X a 6) i = I (zq_r X a 6) i)) ∧ ((p1.toInt < 0 ∨ 3 < p1.toInt) ∨ (I (zq_r X a 6) p1.toNatClampNeg).toInt = 0)) ∨ (0 ≤ p1.toInt ∧ p1.toInt ≤ 3 ∧ ¬ (I (zq_r X a 6) p1.toNatClampNeg).toInt = 0 ∧ I2 (zq_r X a 3) 3 = I (zq_r X (zq_r X a 5) p1.toNatClampNeg) 3 ∧ (∀ q, zq_k X q = 1 → q ≠ (zq_r X a 3) → I2 q 3 = I q 3) ∧ (∀ i, I2 (zq_r X a 6) i = I (zq_r X a 6) i)))
    (h2 : (I3 m 22 = I2 m 22 ∧ ((p1.toInt < 0 ∨ 3 < p1.toInt) ∨ (I2 (zq_r X m 33) p1.toNatClampNeg).toInt = 0)) ∨ (0 ≤ p1.toInt ∧ p1.toInt ≤ 3 ∧ ¬ (I2 (zq_r X m 33) p1.toNatClampNeg).toInt = 0 ∧ I3 m 22 = I2 (zq_r X m 32) p1.toNatClampNeg)) : zTie X a m I3 := by
  obtain ⟨f1, f2⟩ := zNm.fr f n1
  obtain ⟨g1, g2⟩ := zNa.fr g n2
  have g7 : ∀ q j, zq_k X q = 66 ∨ zq_k X q = 67 → I3 q j = I2 q j := fun q j hq => g _ _ (zf_n rfl (by
    unfold zf_in
    rw [List.any_eq_false]
    intro r hr
    have := List.all_eq_true.mp n7 r hr
    simp only [Bool.and_eq_true, bne_iff_ne, ne_eq] at this
    simp only [Bool.and_eq_true, Bool.or_eq_true, beq_iff_eq, not_and]
    omega))
  have h6 : ∀ i, I2 (zq_r X a 6) i = I (zq_r X a 6) i := by
    rcases h with h | h
    · exact h.1.2
    · exact h.2.2.2.2.2
  have hne : ∀ q, zq_k X q = 1 → q ≠ zq_r X a 3 → I2 q 3 = I q 3 := by
    rcases h with h | h
    · exact fun q hq _ => h.1.1 q hq
    · exact h.2.2.2.2.1
  have rest : ∀ k, k < 4 → I3 (zq_r X a 6) k = I3 (zq_r X m 33) k ∧ (¬ (I3 (zq_r X a 6) k).toInt = 0 → I3 (zq_r X (zq_r X a 5) k) 3 = I3 (zq_r X m 32) k) := fun k hk => by
    rw [g2 _ _ K.b6, h6, g1 _ (K.b5 k hk), hne _ (K.b5 k hk) (K.ne k hk), g7 _ _ (Or.inr K.m3), g7 _ _ (Or.inl K.m2), f2 _ _ (Or.inr K.m3), f2 _ _ (Or.inl K.m2)]
    exact t.2 k hk
  refine ⟨?_, rest⟩
  rw [g1 _ K.b3]
  rw [f2 _ _ (Or.inr K.m3), f2 _ _ (Or.inl K.m2), f1 _ K.km] at h2
  rcases h with ⟨⟨h1, -⟩, h3⟩ | ⟨h0, h1, h3, h4, h5, -⟩
  · rw [h1 _ K.b3]
    rcases h2 with ⟨k1, k2⟩ | ⟨k0, k1, k2, k3⟩
    · rw [k1]; exact t.1
    · exfalso
      have hlt : p1.toNatClampNeg < 4 := zq_inn (i := p1) (n := 4) ⟨k0, by omega⟩
      have := (t.2 _ hlt).1
      rw [← this] at k2
      rcases h3 with h3 | h3
      · omega
      · exact k2 h3
  · have hlt : p1.toNatClampNeg < 4 := zq_inn (i := p1) (n := 4) ⟨h0, by omega⟩
    have hT := t.2 _ hlt
    rw [h4]
    rcases h2 with ⟨k1, k2⟩ | ⟨k0, k1, k2, k3⟩
    · exfalso
      rw [← hT.1] at k2
      rcases k2 with k2 | k2
      · omega
      · exact h3 k2
    · rw [k3]
      exact hT.2 h3
end ZT
