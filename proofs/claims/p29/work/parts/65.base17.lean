/-! CONSTRUCTION: cells that are finished, an object that is being made, rows that are being filled -/
def zv0 (k j : Nat) : Int32 := if (k = 5 ∧ j = 2) ∨ (k = 1 ∧ j = 2) ∨ (k = 10 ∧ j = 21) then -1 else if k = 10 ∧ j = 23 then 100 else 0
def zI0 (X : zq_X) : zq_M := fun a j => zv0 (zq_k X a) j
theorem zv0_arr {k j : Nat} (h : 20 ≤ k) : zv0 k j = 0 := by
  unfold zv0
  rw [if_neg (by omega), if_neg (by omega)]
def zdn (X : zq_X) (a : Nat) (H : Heap) : Prop := (0 < zq_k X a → zq_k X a < 11 → zq_ob X (zI0 X) (zq_k X a) a H) ∧ (20 ≤ zq_k X a → zq_aa X (zI0 X) (zq_k X a) a H)
theorem zdn.kept {X : zq_X} {a : Nat} {H H1 : Heap} (h : zdn X a H) (e : H1[a]? = H[a]?) : zdn X a H1 :=
  ⟨fun h1 h2 => by obtain ⟨r, V, hr, hO, hV⟩ := h.1 h1 h2; exact ⟨r, V, hr, hO.kept e, hV⟩, fun h1 => by obtain ⟨V, hV, hw⟩ := h.2 h1; exact ⟨V, e.trans hV, hw⟩⟩
def zdt (t : Nat) : Value := match t with | 0 => .int 0 | 1 => .int 0 | 2 => .int 0 | 3 => .long 0 | _ => .null
def zdV (k : Nat) : Nat → Value := fun j => zdt (zq_os k j)
def zob (X : zq_X) (k a : Nat) (V : Nat → Value) (H : Heap) : Prop := t_OB a (X.1.1 (k - 1)) (zq_n k) (X.1.2 (k - 1)) H V
/-- the Words, as their own row has them -/
def zcZ (X : zq_X) (U : State) : Prop := ∃ (b : Nat) (cell : Cell), va_Z RX9 "$VALUES" "[LPondIceTrade$Word;" (.ref b) (zq_A X) U (zq_h0 X) ∧ b < (zq_h0 X).size ∧ (zq_h0 X)[b]? = some cell ∧ (cell.cls = X.2.1 9 ∧ (∀ k, cell.vm ≠ .statics k) ∧ cell.vm ≠ .unknown ∧ cell.slots.size = 21) ∧ ∀ j, j < 21 → ∃ w, zq_k X w = 12 ∧ cell.slots[j]? = some (.ref w)
theorem zcZ.moved {X : zq_X} {u U : State} (hvm : u.vm.Alike U.vm) (h : zcZ X u) : zcZ X U := by
  obtain ⟨b, V, h1, h2⟩ := h
  exact ⟨b, V, va_Z.moved hvm h1, h2⟩
def zcK (X : zq_X) (U : State) : Prop := zq_K X U ∧ va_AO RX3 U ∧ va_AO RX10 U ∧ va_AO RX0 U ∧ va_AO RX5 U ∧ va_AO RX7 U ∧ va_AO RX9 U ∧ zcZ X U ∧ va_Nw (.castable "[LPondIceTrade$Word;" "java/lang/Cloneable") U ∧ (Cond.arrayOver (.array .int)).before #[] U = true
theorem zAOA.moved {u U : State} (hvm : u.vm.Alike U.vm) (h : (Cond.arrayOver (.array .int)).before #[] u = true) : (Cond.arrayOver (.array .int)).before #[] U = true := by
  have q : (Cond.arrayOver (.array .int)).before #[] (u.setVm U.vm) = true := by rw [Cond.arrayOver_setVmC hvm]; exact h
  simp only [Cond.before, Cond.holds, Cond.value] at q ⊢
  exact q
theorem zcK.warm {X : zq_X} {u U : State} (hW : u.WarmedH U.vm) (h : zcK X u) : zcK X U :=
  ⟨h.1.warm hW, va_AO.moved hW.alike h.2.1, va_AO.moved hW.alike h.2.2.1, va_AO.moved hW.alike h.2.2.2.1, va_AO.moved hW.alike h.2.2.2.2.1, va_AO.moved hW.alike h.2.2.2.2.2.1, va_AO.moved hW.alike h.2.2.2.2.2.2.1, zcZ.moved hW.alike h.2.2.2.2.2.2.2.1, va_Nw.warmC hW h.2.2.2.2.2.2.2.2.1, zAOA.moved hW.alike h.2.2.2.2.2.2.2.2.2⟩
theorem zcK.same {X : zq_X} {u U : State} (e : u.vm = U.vm) (h : zcK X u) : zcK X U := by
  have hA : u.vm.Alike U.vm := by rw [← e]; exact Vm.Alike.refl u.vm
  exact ⟨h.1.same e, va_AO.moved hA h.2.1, va_AO.moved hA h.2.2.1, va_AO.moved hA h.2.2.2.1, va_AO.moved hA h.2.2.2.2.1, va_AO.moved hA h.2.2.2.2.2.1, va_AO.moved hA h.2.2.2.2.2.2.1, zcZ.moved hA h.2.2.2.2.2.2.2.1, va_Nw.same rfl e h.2.2.2.2.2.2.2.2.1, zAOA.moved hA h.2.2.2.2.2.2.2.2.2⟩
/-- where a constructor begins: its object blank at a, the heap ends behind it -/
def zcW (X : zq_X) (k a : Nat) (U : State) : Prop := (U.heap.size = a + 1 ∧ (zq_h0 X).size ≤ a ∧ zob X k a (zdV k) U.heap ∧ ∀ q, q < (zq_h0 X).size → U.heap[q]? = (zq_h0 X)[q]?) ∧ zcK X U
def zcA (a : Nat) : Nat → Prop := fun q => a ≤ q
def zcQ (X : zq_X) (a c : Nat) : Array Value → State → Outcome → State → Prop := va_Qv (fun _ : Unit => True) (fun _ t => t.heap.size = a + 1 + c ∧ (∀ q, a ≤ q → q < a + 1 + c → zdn X q t.heap)) (zcA a)
abbrev zc_rm (d c n : Nat) : Room := { frames := d, cells := c, slots := n, locals := 64 * d }
abbrev zcM (l : Launch) (X : zq_X) (y : MethodName) (code : ByteArray) (maxL d k a c n : Nat) : Prop := Met l y (zt_w y code maxL none) (zc_rm d c n) (va_Pc [.ref a] (zcW X k a)) (zcQ X a c) c n (zcA a)
abbrev zcO : Type := Nat × Nat × Nat × (Nat → Value)
/-- within a constructor: i cells are made, all finished but the rows of O -/
def zcs (X : zq_X) (k a i : Nat) (V : Nat → Value) (O : List zcO) (H : Heap) : Prop :=
  H.size = a + 1 + i ∧ zob X k a V H ∧ (∀ q, a < q → q < a + 1 + i → (∀ e ∈ O, e.1 ≠ q) → zdn X q H) ∧ (∀ e ∈ O, a < e.1 ∧ e.1 < a + 1 + i ∧ H[e.1]? = some (arrV (X.2.1 e.2.1) e.2.2.1 e.2.2.2)) ∧ (∀ q, q < (zq_h0 X).size → H[q]? = (zq_h0 X)[q]?) ∧ (zq_h0 X).size ≤ a
theorem zcblind {X : zq_X} {k a : Nat} : FrameBlind (va_Pc [.ref a] (zcW X k a)) := fun _ U _ _ q => ⟨q.1, ⟨q.2.1, zcK.same (u := U) rfl q.2.2⟩⟩
section ZC
variable {p : Program} {l : Launch} {e : Env} {R : Room} {s : State} {m : MethodId} {args : Array Value} {below : List Frame} {meth : Method} {c : Code} {H : Heap} {locs : List Loc} {cells slots : Nat} {Q : State → Prop}
variable {cc : ByteArray} {nL pc : Nat} {ls : Array Slot} {rest : List Value} {w0 : Cond} {own : String} {X : zq_X} {a k j i index : Nat} {V : Nat → Value} {O : List zcO}
/-- the heap grows by a cell -/
theorem zcs.grow {H1 : Heap} (h : zcs X k a i V O H) (o1 : ∀ q, q < a + 1 + i → H1[q]? = H[q]?) (z : H1.size = a + 1 + (i + 1)) (hd : zdn X (a + 1 + i) H1) : zcs X k a (i + 1) V O H1 := by
  obtain ⟨h1, h2, h3, h4, h5, h6⟩ := h
  refine ⟨z, h2.kept (o1 a (by omega)), fun q g1 g2 g3 => ?_, fun e he => ?_, fun q hq => (o1 q (by omega)).trans (h5 q hq), h6⟩
  · by_cases c : q = a + 1 + i
    · rw [c]; exact hd
    · exact (h3 q g1 (by omega) g3).kept (o1 q (by omega))
  · obtain ⟨g1, g2, g3⟩ := h4 e he
    exact ⟨g1, by omega, (o1 _ g2).trans g3⟩
theorem zcs.opn {H1 : Heap} {t N : Nat} {f : Nat → Value} (h : zcs X k a i V O H) (o1 : ∀ q, q < a + 1 + i → H1[q]? = H[q]?) (z : H1.size = a + 1 + (i + 1)) (hd : H1[a + 1 + i]? = some (arrV (X.2.1 t) N f)) : zcs X k a (i + 1) V ((a + 1 + i, t, N, f) :: O) H1 := by
  obtain ⟨h1, h2, h3, h4, h5, h6⟩ := h
  refine ⟨z, h2.kept (o1 a (by omega)), fun q g1 g2 g3 => ?_, fun e he => ?_, fun q hq => (o1 q (by omega)).trans (h5 q hq), h6⟩
  · have hne : a + 1 + i ≠ q := g3 (a + 1 + i, t, N, f) List.mem_cons_self
    exact (h3 q g1 (by omega) fun e he => g3 e (List.mem_cons_of_mem _ he)).kept (o1 q (by omega))
  · rcases List.mem_cons.mp he with rfl | he
    · exact ⟨by show a < a + 1 + i; omega, by show a + 1 + i < _; omega, hd⟩
    · obtain ⟨g1, g2, g3⟩ := h4 e he
      exact ⟨g1, by omega, (o1 _ g2).trans g3⟩
theorem zcS.grow {H1 : Heap} (hS : va_S (zcA a) s.heap H locs) (z : H.size ≤ H1.size) (o1 : ∀ q, q < H.size → H1[q]? = H[q]?) : va_S (zcA a) s.heap H1 locs :=
  ⟨Nat.le_trans hS.1 z, fun q h1 h2 => (o1 q (Nat.lt_of_lt_of_le h1 hS.1)).trans (hS.2.1 q h1 h2), hS.2.2⟩
/-- a row of numbers -/
theorem zc_newa {t N k2 : Nat} {ty : FieldType} {at0 : ArrayType} {nn : Int32} (E : CallFix p m c cc nL s args (w0 :: zt) own) (hK : zcK X s) (h : zcs X k a i V O H) (hS : va_S (zcA a) s.heap H locs) (hty : newarray.typeOf at0 = ty) (hw : Cond.arrayClass ty ∈ zt) (ht : (zq_tys X)[t]? = some (X.2.1 t, ty)) (hra : va_RA s (X.2.1 t) ty → s.vm.findClass ("[" ++ ty.toString) = some (X.2.1 t)) (hk2 : zq_k X (a + 1 + i) = k2) (h20 : 20 ≤ k2) (har : zq_ar k2 = (t, N))
    (hv : ∀ j, zq_vl X (zI0 X) (zq_as t) (a + 1 + i) j (defaultValue ty)) (hn : ¬ nn < 0) (hN : nn.toNatClampNeg = N) (hby : N * componentBytes ty ≤ 536870912) (hc1 : cells + 1 ≤ R.cells) (hc2 : slots + N ≤ R.slots) (hdg : decode cc pc = .ok (.newarray at0, 2))
    (kk : ∀ H1 : Heap, zcs X k a (i + 1) V O H1 → va_S (zcA a) s.heap H1 locs → W p l e R s m args below meth c H1 locs (cells + 1) (slots + N) Q (F0 m (pc + 2) ls (.ref (a + 1 + i) :: rest))) : W p l e R s m args below meth c H locs cells slots Q (F0 m pc ls (.int nn :: rest)) := by
  subst hty
  refine va_newaK E.1 E.2.1 (E.2.2.2.2 _ (List.mem_cons_of_mem _ hw)) rfl hdg rfl hn hN hby hc1 hc2 h.1 fun H1 cA e1 z1 o1 hAr hNm => ?_
  have hcA : cA = X.2.1 t := Option.some.inj (hNm.symm.trans (hra (hK.1.1.2 t _ ht).2))
  subst hcA
  refine kk H1 (h.grow o1 (by omega) ⟨fun g1 g2 => by rw [hk2] at g2; omega, fun _ => ?_⟩) (zcS.grow hS (by rw [h.1, z1]; omega) (by rw [h.1]; exact o1))
  rw [hk2]
  refine ⟨fun _ => defaultValue (newarray.typeOf at0), ?_, fun j _ => ?_⟩
  · rw [har]; exact e1
  · rw [har]; exact hv j
/-- a row of references, to be filled -/
theorem zc_anew {t N : Nat} {C : String} {nn : Int32} (E : CallFix p m c cc nL s args (w0 :: zt) own) (hK : zcK X s) (h : zcs X k a i V O H) (hS : va_S (zcA a) s.heap H locs) (hw : Cond.classLink own index C ∈ zt) (hao : va_AO C s) (ht : (zq_tys X)[t]? = some (X.2.1 t, .object C)) (hn : ¬ nn < 0) (hN : nn.toNatClampNeg = N) (hby : N * 4 ≤ 536870912) (hc1 : cells + 1 ≤ R.cells) (hc2 : slots + N ≤ R.slots) (hdg : decode cc pc = .ok (.anewarray index, 3))
    (kk : ∀ H1 : Heap, zcs X k a (i + 1) V ((a + 1 + i, t, N, fun _ => .null) :: O) H1 → va_S (zcA a) s.heap H1 locs → W p l e R s m args below meth c H1 locs (cells + 1) (slots + N) Q (F0 m (pc + 3) ls (.ref (a + 1 + i) :: rest))) : W p l e R s m args below meth c H locs cells slots Q (F0 m pc ls (.int nn :: rest)) := by
  subst hN
  refine W.anew E.1 E.2.1 E.2.2.2.1 (E.2.2.2.2 _ (List.mem_cons_of_mem _ hw)) (va_AO.use hao) rfl hdg rfl hn hby hc1 hc2 fun cA kA comp f1 f2 f3 f4 => ?_
  obtain ⟨kB, cB, g1, g2, g3, g4⟩ := (hK.1.1.2 t _ ht).2
  have hcA : cA = X.2.1 t := Option.some.inj (f1.symm.trans g4)
  subst hcA
  generalize hH1 : H.push ({ cls := X.2.1 t, slots := Array.replicate nn.toNatClampNeg .null, vm := .none } : Cell) = H1
  have z1 : H1.size = H.size + 1 := by rw [← hH1, Array.size_push]
  have e1 : H1[H.size]? = some (arrV (X.2.1 t) nn.toNatClampNeg (fun _ => .null)) := by rw [← hH1, Array.getElem?_push_size, ← arrV_new]
  have o1 : ∀ q : Nat, q < H.size → H1[q]? = H[q]? := fun q hq => by rw [← hH1, Array.getElem?_push, if_neg (Nat.ne_of_lt hq)]
  rw [h.1] at z1 e1 o1 ⊢
  exact kk H1 (h.opn o1 (by omega) e1) (zcS.grow hS (by rw [h.1, z1]; omega) (by rw [h.1]; exact o1))
/-- a field of the object that is being made -/
def zc_G (X : zq_X) (s : State) (m : MethodId) (args : Array Value) (own : String) (index k j : Nat) (ty : FieldType) : Prop :=
  ∃ (ref nm ds : String) (cf : Nat) (kf : Class) (fi : Nat) (f : Field), (Cond.fieldLink own index ref nm ds).before args s = true ∧ s.fieldFound? ref nm ds = some (cf, kf, fi, f) ∧ f.isStatic = false ∧ f.slot = X.1.2 (k - 1) j ∧ m.cls = cf ∧
    (∀ v : Value, narrow ty v = v → fits ty v = true → narrow f.type v = v ∧ s.fitsSlot (X.1.1 (k - 1)) .none f.slot v = true) ∧ ∀ x y, x < zq_n k → y < zq_n k → x ≠ y → X.1.2 (k - 1) x ≠ X.1.2 (k - 1) y
theorem zc_G.of {C : String} {T : u_T} {N : Nat} {ty : FieldType} (E : CallFix p m c cc nL s args (w0 :: zt) own) (hK : zcK X s) (hc : vwCl[k - 1]? = some (C, T, N)) (hin : ∀ w ∈ u_ws C T N, w ∈ zt) (hN : N = zq_n k) (ty0 : Nat → FieldType) (hty : ∀ k, k < N → parseFieldDescriptor (T k).2.2.1 = some (ty0 k)) (hnm : ∀ a, a < N → ∀ b, b < N → a ≠ b → (T a).2.1 ≠ (T b).2.1) (hj : j < N) (hfin : (T j).2.2.2 = true) (hd : ty0 j = ty) (hdecl : (T j).1 = own) (hl : Cond.fieldLink own index (T j).1 (T j).2.1 (T j).2.2.1 ∈ zt) : zc_G X s m args own index k j ty := by
  have hin' : ∀ w ∈ u_ws C T N, w ∈ (w0 :: zt) := fun w hw => List.mem_cons_of_mem _ (hin w hw)
  have hap := va_apart (own := own) E.2.2.2.2 hin' ty0 hty hnm hK.1.1 hc
  obtain ⟨hS, hfc, kC, hkC, hkind⟩ := hK.1.1.1 (k - 1) _ hc
  obtain ⟨cf, kf, fi, f, hi, hsl⟩ := hS j hj
  have hlay := E.2.2.2.2 _ (hin' _ (u_in_lay hj))
  unfold u_lay at hlay
  rw [if_pos hfin] at hlay
  have hst := (u_facts hfc hkC (u_lays E.2.2.2.2 hin' hj) hi).1
  have hcf : m.cls = cf := by
    obtain ⟨_, _, c', _, _, _, -, -, hf', -, -, -, hown2, -⟩ := Cond.laysFinal_spec hlay
    have e1 : c' = cf := by have := hi.symm.trans hf'; simp at this; exact this.1.symm
    rw [hdecl] at hown2
    rw [← e1]; exact Option.some.inj (E.2.2.2.1.symm.trans hown2)
  refine ⟨_, _, _, cf, kf, fi, f, E.2.2.2.2 _ (List.mem_cons_of_mem _ hl), hi, hst, hsl, hcf, fun v hn hf => u_fits hfc hkC hkind (Or.inr hlay) hi (by rw [hty j hj, hd]) hn hf, ?_⟩
  rw [← hN]
  exact hap
/-- the object's own field is written -/
theorem zcs.put {H1 : Heap} {cell : Cell} {v : Value} (h : zcs X k a i V O H) (hj : j < zq_n k) (hap : ∀ x y, x < zq_n k → y < zq_n k → x ≠ y → X.1.2 (k - 1) x ≠ X.1.2 (k - 1) y) (q1 : H[a]? = some cell) (e1 : H1[a]? = some (cell.setSlot (X.1.2 (k - 1) j) v)) (e2 : H1.size = H.size) (e3 : ∀ q, q ≠ a → H1[q]? = H[q]?) : zcs X k a i (updV V j v) O H1 := by
  obtain ⟨h1, ⟨cell', r1, r2, r3, r4⟩, h3, h4, h5, h6⟩ := h
  have : cell' = cell := Option.some.inj (r1.symm.trans q1)
  subst this
  refine ⟨by rw [e2]; exact h1, ⟨_, e1, r2, r3, t_set r4 hap hj v⟩, fun q g1 g2 g3 => (h3 q g1 g2 g3).kept (e3 q (by omega)), fun e he => ?_, fun q hq => (e3 q (by omega)).trans (h5 q hq), h6⟩
  obtain ⟨g1, g2, g3⟩ := h4 e he
  exact ⟨g1, g2, (e3 _ (by omega)).trans g3⟩
theorem zc_putF {ty : FieldType} {v : Value} (E : CallFix p m c cc nL s args (w0 :: zt) own) (h : zcs X k a i V O H) (hS : va_S (zcA a) s.heap H locs) (G : zc_G X s m args own index k j ty) (hin : meth.name = "<init>") (hj : j < zq_n k) (hn : narrow ty v = v) (hf : fits ty v = true) (hdg : decode cc pc = .ok (.putfield index, 3))
    (kk : ∀ (H1 : Heap) (locs1 : List Loc), zcs X k a i (updV V j v) O H1 → va_S (zcA a) s.heap H1 locs1 → W p l e R s m args below meth c H1 locs1 cells slots Q (F0 m (pc + 3) ls rest)) : W p l e R s m args below meth c H locs cells slots Q (F0 m pc ls (v :: .ref a :: rest)) := by
  obtain ⟨ref, nm, ds, cf, kf, fi, f, hl, hi, hst, hsl, hcf, hsd, hap⟩ := G
  obtain ⟨cell, q1, q2, q3, q4⟩ := h.2.1
  refine W.putFinK E.1 E.2.1 E.2.2.2.1 hl hi hst hcf hin (by rw [q2]; exact hsd v hn hf) q1 q3 (by rw [hsl]; exact k2_hasslot (q4 j hj)) rfl rfl hdg fun H' e1 e2 e3 => ?_
  rw [hsl] at e1 ⊢
  exact kk H' _ (h.put hj hap q1 e1 e2 e3) (hS.put e2 e3 (Nat.le_refl a))
theorem zc_puti {v : Int32} (E : CallFix p m c cc nL s args (w0 :: zt) own) (h : zcs X k a i V O H) (hS : va_S (zcA a) s.heap H locs) (G : zq_G X s args own index k j .int) (hj : j < zq_n k) (hdg : decode cc pc = .ok (.putfield index, 3))
    (kk : ∀ (H1 : Heap) (locs1 : List Loc), zcs X k a i (updV V j (.int v)) O H1 → va_S (zcA a) s.heap H1 locs1 → W p l e R s m args below meth c H1 locs1 cells slots Q (F0 m (pc + 3) ls rest)) : W p l e R s m args below meth c H locs cells slots Q (F0 m pc ls (.int v :: .ref a :: rest)) := by
  obtain ⟨ref, nm, ds, cf, kf, fi, f, hl, hi, hst, hsl, hsd, hap⟩ := G
  obtain ⟨cell, q1, q2, q3, q4⟩ := h.2.1
  refine W.putK E.1 E.2.1 (f := f) ⟨E.2.2.2.1, hl, ⟨_, _, _, hi⟩, hst⟩ (by rw [q2]; exact hsd _ rfl rfl) q1 q3 (by rw [hsl]; exact k2_hasslot (q4 j hj)) rfl rfl hdg fun H' e1 e2 e3 => ?_
  rw [hsl] at e1 ⊢
  exact kk H' _ (h.put hj hap q1 e1 e2 e3) (hS.put e2 e3 (Nat.le_refl a))
theorem zc_get {v : Value} (E : CallFix p m c cc nL s args (w0 :: zt) own) (h : zcs X k a i V O H) (F : zq_F X s args own index k j) (hj : j < zq_n k) (hv : V j = v) (hdg : decode cc pc = .ok (.getfield index, 3))
    (kk : W p l e R s m args below meth c H locs cells slots Q (F0 m (pc + 3) ls (v :: rest))) : W p l e R s m args below meth c H locs cells slots Q (F0 m pc ls (.ref a :: rest)) := by
  obtain ⟨ref, nm, ds, cf, kf, fi, f, hl, hi, hst, hsl⟩ := F
  obtain ⟨cell, q1, q2, q3, q4⟩ := h.2.1
  refine W.getf E.1 E.2.1 E.2.2.2.1 hl hi hst q1 (by rw [q3]; exact fun h => by cases h) (v := v) ?_ rfl rfl hdg kk
  rw [hsl, q4 j hj, hv]
/-- how long a row is that is being filled -/
theorem zc_alen {b t N : Nat} {f : Nat → Value} {nn : Int32} {ty : FieldType} (E : CallFix p m c cc nL s args (w0 :: zt) own) (hK : zcK X s) (h : zcs X k a i V ((b, t, N, f) :: O) H) (ht : (zq_tys X)[t]? = some (X.2.1 t, ty)) (hN : N.toInt32 = nn) (hdg : decode cc pc = .ok (.arraylength, 1))
    (kk : W p l e R s m args below meth c H locs cells slots Q (F0 m (pc + 1) ls (.int nn :: rest))) : W p l e R s m args below meth c H locs cells slots Q (F0 m pc ls (.ref b :: rest)) :=
  W.alen E.1 E.2.1 (h.2.2.2.1 _ List.mem_cons_self).2.2 ((hK.1.1.2 t _ ht).1 N f) (by rw [arrV_size]; exact hN) rfl rfl hdg kk
theorem zcs.fill {H1 : Heap} {b t N x : Nat} {f : Nat → Value} {v : Value} (h : zcs X k a i V ((b, t, N, f) :: O) H) (hno : ∀ e ∈ O, e.1 ≠ b) (e1 : H1[b]? = some ((arrV (X.2.1 t) N f).setSlot x v)) (e2 : H1.size = H.size) (e3 : ∀ q, q ≠ b → H1[q]? = H[q]?) : zcs X k a i V ((b, t, N, updV f x v) :: O) H1 := by
  obtain ⟨h1, h2, h3, h4, h5, h6⟩ := h
  obtain ⟨b1, b2, b3⟩ := h4 _ List.mem_cons_self
  have b1 : a < b := b1
  refine ⟨by rw [e2]; exact h1, h2.kept (e3 a (by omega)), fun q g1 g2 g3 => ?_, fun e he => ?_, fun q hq => (e3 q (by omega)).trans (h5 q hq), h6⟩
  · have hb : b ≠ q := g3 (b, t, N, updV f x v) List.mem_cons_self
    refine (h3 q g1 g2 fun e he => ?_).kept (e3 q (Ne.symm hb))
    rcases List.mem_cons.mp he with rfl | he
    · exact hb
    · exact g3 e (List.mem_cons_of_mem _ he)
  · rcases List.mem_cons.mp he with rfl | he
    · exact ⟨b1, b2, by show H1[b]? = _; rw [e1, arrV_store]⟩
    · obtain ⟨g1, g2, g3⟩ := h4 e (List.mem_cons_of_mem _ he)
      exact ⟨g1, g2, (e3 _ (hno e he)).trans g3⟩
/-- a finished object is laid into a row -/
theorem zc_aast {b t N w k3 : Nat} {f : Nat → Value} {x : Int32} {C : String} {T : u_T} {N2 : Nat} (E : CallFix p m c cc nL s args (w0 :: zt) own) (hK : zcK X s) (h : zcs X k a i V ((b, t, N, f) :: O) H) (hS : va_S (zcA a) s.heap H locs) (hno : ∀ e ∈ O, e.1 ≠ b) (ht : (zq_tys X)[t]? = some (X.2.1 t, .object C)) (hc : vwCl[k3 - 1]? = some (C, T, N2)) (hk3 : zq_k X w = k3) (h3 : 0 < k3 ∧ k3 < 11) (hw : a < w ∧ w < a + 1 + i ∧ w ≠ b) (hwo : ∀ e ∈ O, e.1 ≠ w) (hx : 0 ≤ x.toInt ∧ x.toInt < (N : Int)) (hdg : decode cc pc = .ok (.aastore, 1))
    (kk : ∀ (H1 : Heap) (locs1 : List Loc), zcs X k a i V ((b, t, N, updV f x.toNatClampNeg (.ref w)) :: O) H1 → va_S (zcA a) s.heap H1 locs1 → W p l e R s m args below meth c H1 locs1 cells slots Q (F0 m (pc + 1) ls rest)) : W p l e R s m args below meth c H locs cells slots Q (F0 m pc ls (.ref w :: .int x :: .ref b :: rest)) := by
  obtain ⟨b1, b2, hV⟩ := h.2.2.2.1 _ List.mem_cons_self
  have hV : H[b]? = some (arrV (X.2.1 t) N f) := hV
  have hd := h.2.2.1 w hw.1 hw.2.1 (fun e he => by
    rcases List.mem_cons.mp he with rfl | he
    · exact fun q => hw.2.2 q.symm
    · exact hwo e he)
  obtain ⟨r, V2, hr, ⟨cw, g1, g2, g3, -⟩, -⟩ := hd.1 (by rw [hk3]; exact h3.1) (by rw [hk3]; exact h3.2)
  rw [hk3] at g2
  obtain ⟨kA, comp, k1, k2, k3', -⟩ := (hK.1.1.2 t _ ht).2
  have hfc := (hK.1.1.1 (k3 - 1) _ hc).2.1
  have hcomp : comp = cw.cls := by rw [g2]; exact Option.some.inj (k3'.symm.trans hfc)
  obtain ⟨kC, hkC, -⟩ := Vm.findClass_spec k3'
  have hlt := zq_inn hx
  have h0 : ¬ x < 0 := fun q => (zq_in hx) (Or.inl q)
  refine W.aast E.1 E.2.1 hV (fun q h => by cases h) (fun h => by cases h) k1 k2 rfl hkC ⟨h0, by rw [arrV_size]; exact hlt⟩ g1 (fun q h => by rw [g3] at h; cases h) (by rw [← hcomp]; exact hkC) (by rw [← hcomp]; exact va_asg _ _) rfl rfl hdg fun H1 e1 e2 e3 => ?_
  exact kk H1 _ (h.fill hno e1 e2 e3) (hS.put e2 e3 (Nat.le_of_lt b1))
/-- a row is filled -/
theorem zcs.close {b t N k3 : Nat} {f : Nat → Value} (h : zcs X k a i V ((b, t, N, f) :: O) H) (hk : zq_k X b = k3) (h20 : 20 ≤ k3) (har : zq_ar k3 = (t, N)) (hv : ∀ j, j < N → zq_vl X (zI0 X) (zq_as t) b j (f j)) : zcs X k a i V O H := by
  obtain ⟨h1, h2, h3, h4, h5, h6⟩ := h
  refine ⟨h1, h2, fun q g1 g2 g3 => ?_, fun e he => h4 e (List.mem_cons_of_mem _ he), h5, h6⟩
  by_cases c : b = q
  · subst c
    refine ⟨fun g1 g2 => by rw [hk] at g2; omega, fun _ => ?_⟩
    rw [hk]
    refine ⟨f, ?_, fun j hj => ?_⟩
    · rw [har]; exact (h4 _ List.mem_cons_self).2.2
    · rw [har] at hj ⊢; exact hv j hj
  · refine h3 q g1 g2 fun e he => ?_
    rcases List.mem_cons.mp he with rfl | he
    · exact c
    · exact g3 e he
/-- new, dup, <init> -/
theorem zc_make {k2 N2 c2 n2 d maxL idx : Nat} {C : String} {T : u_T} {y : MethodName} {code2 : ByteArray} (E : CallFix p m c cc nL s args (w0 :: zt) own) (hK : zcK X s) (h : zcs X k a i V O H) (hS : va_S (zcA a) s.heap H locs) (met : zcM l X y code2 maxL d k2 (a + 1 + i) c2 n2) (hc : vwCl[k2 - 1]? = some (C, T, N2)) (hNz : N2 = zq_n k2) (hin : ∀ w ∈ u_ws C T N2, w ∈ zt) (ty : Nat → FieldType) (hty : ∀ k, k < N2 → parseFieldDescriptor (T k).2.2.1 = some (ty k)) (hdv : ∀ j, j < N2 → defaultValue (ty j) = zdV k2 j)
    (hw1 : Cond.classLink own index C ∈ zt) (hw2 : Cond.instantiable C N2 ∈ zt) (hw3 : Cond.initialized C ∈ zt) (hw4 : Cond.methodLink own idx y ∈ zt) (hw5 : Cond.instanceMethod y ∈ zt) (hw6 : Cond.code y code2 maxL none ∈ zt) (hy : y.name = "<init>" ∧ y.cls = C) (hyd : y.cls ≠ "java/lang/invoke/MethodHandle" ∧ y.cls ≠ "java/lang/invoke/VarHandle" ∧ (parseMethodDescriptor y.desc).map (fun d => d.parameters.length) = some 0)
    (hR : (d + 1 ≤ R.frames ∧ 8 + (maxL + 11) + 64 * d ≤ R.locals) ∧ cells + 1 + c2 ≤ R.cells ∧ slots + N2 + n2 ≤ R.slots) (hs : ls.size = nL) (hW : ((Value.ref (a + 1 + i) :: rest).map fun v => v.category).sum ≤ 8) (d1 : decode cc pc = .ok (.new index, 3)) (d2 : decode cc (pc + 3) = .ok (.dup, 1)) (d3 : decode cc (pc + 4) = .ok (.invokespecial idx, 3))
    (kk : ∀ (H1 : Heap) (locs1 : List Loc), zcs X k a (i + 1 + c2) V O H1 → va_S (zcA a) s.heap H1 locs1 → W p l e R s m args below meth c H1 locs1 (cells + 1 + c2) (slots + N2 + n2) Q (F0 m (pc + 7) ls (.ref (a + 1 + i) :: rest))) : W p l e R s m args below meth c H locs cells slots Q (F0 m pc ls rest) := by
  have hin' : ∀ w ∈ u_ws C T N2, w ∈ (w0 :: zt) := fun w hw => List.mem_cons_of_mem _ (hin w hw)
  have hh : ∀ w ∈ zt, w.before args s = true := fun w hw => E.2.2.2.2 _ (List.mem_cons_of_mem _ hw)
  have hKn := hK.1.1.1 (k2 - 1) _ hc
  refine W.newcK E.1 E.2.1 E.2.2.2.1 (hh _ hw1) (hh _ hw2) (hh _ hw3) rfl d1 (by omega) (by omega) hKn.2.1 h.1 fun H1 kC hkC e1 z1 o1 => ?_
  have hb : zob X k2 (a + 1 + i) (zdV k2) H1 := by
    have := (u_born ty E.2.2.2.2 hin' hKn hkC e1 hty).to hdv
    rw [hNz] at this
    exact this
  have h' := h
  obtain ⟨h1, h2, h3, h4, h5, h6⟩ := h'
  refine lv_dup E.1 E.2.1 d2 rfl ?_
  have hS1 : va_S (zcA a) s.heap H1 locs := zcS.grow hS (by rw [h1, z1]; omega) (by rw [h1]; exact o1)
  have hcb := callB_of (rm := zc_rm d c2 n2) (mc := c2) (ms := n2) (R := R) 0 E.2.2.2.2 (zt_good (w0 := w0) (zt_code hw6)) rfl rfl rfl (by rw [hy.2]; exact hh _ hw3) (hh _ hw4) hyd hR.1
  refine va_callv (va_runI (As := []) (rest := .ref (a + 1 + i) :: rest) E met ⟨hcb, hy.1, hh _ hw5⟩ ⟨zcblind, fun U hU hWm => ⟨rfl, ⟨by rw [hU]; exact z1, by omega, by rw [hU]; exact hb, fun q hq => by rw [hU]; exact (o1 q (by omega)).trans (h5 q hq)⟩, hK.warm hWm⟩⟩ rfl rfl hs rfl (lv_room hW) d3 ⟨hR.2.1, hR.2.2⟩) hS1 (fun q _ hq => Nat.le_trans (by omega) hq) (fun q hq => Nat.le_trans (by omega) hq) (fun _ t H2 locs1 ht _ _ hB hz hkeep hS2 => ?_)
  obtain ⟨b1, b2⟩ := hB
  rw [ht] at b1 b2
  have o2 : ∀ q, q < a + 1 + i → H2[q]? = H[q]? := fun q hq => (hkeep q (by omega) (fun z => by have : a + 1 + i ≤ q := z; omega)).trans (o1 q hq)
  refine kk H2 locs1 ⟨by omega, h2.kept (o2 a (by omega)), fun q g1 g2 g3 => ?_, fun e he => ?_, fun q hq => (o2 q (by omega)).trans (h5 q hq), h6⟩ hS2
  · by_cases c : q < a + 1 + i
    · exact (h3 q g1 c g3).kept (o2 q c)
    · exact b2 q (by omega) (by omega)
  · obtain ⟨g1, g2, g3⟩ := h4 e he
    exact ⟨g1, by omega, (o2 _ g2).trans g3⟩
/-- Object.<init> -/
theorem zc_obj {idx : Nat} (E : CallFix p m c cc nL s args (w0 :: zt) own) (hw1 : Cond.methodLink own idx Lib.objectInit ∈ zt) (hw2 : Cond.instanceMethod Lib.objectInit ∈ zt) (hw3 : Cond.code Lib.objectInit ⟨#[0xb1]⟩ 1 none ∈ zt) (hs : ls.size = nL) (hR : 1 ≤ R.frames ∧ 12 ≤ R.locals) (hdg : decode cc pc = .ok (.invokespecial idx, 3))
    (kk : W p l e R s m args below meth c H locs cells slots Q (F0 m (pc + 3) ls [])) : W p l e R s m args below meth c H locs cells slots Q (F0 m pc ls [.ref a]) := by
  have hh : ∀ w ∈ zt, w.before args s = true := fun w hw => E.2.2.2.2 _ (List.mem_cons_of_mem _ hw)
  exact W.objInit E.1 E.2.1 E.2.2.2.1 (hh _ hw1) (hh _ hw2) (hh _ hw3) rfl (hs.trans E.2.2.1.symm) rfl hdg hR.1 (by show 2 * 0 + 0 + 12 ≤ R.locals; omega) kk
/-- the end of a constructor -/
theorem zc_ret {i2 n2 : Nat} (E : CallFix p m c cc nL s args (w0 :: zt) own) (hr : meth.sig.returnType = none) (h : zcs X k a i2 V [] H) (hS : va_S (zcA a) s.heap H locs) (hk : zq_k X a = k) (hk0 : 0 < k ∧ k < 11) (hv : ∀ j, j < zq_n k → zq_vl X (zI0 X) (zq_os k j) a j (V j)) (hlocks : meth.locks = false) (hdg : decode cc pc = .ok (.return_, 1)) :
    W p l e R s m args below meth c H locs i2 n2 (MQ below (zcQ X a i2) args s i2 n2 (zcA a)) (F0 m pc ls []) := by
  refine W.vret E.1 E.2.1 hr (fun t ht hWm => ⟨⟨(), rfl, trivial, by rw [ht]; exact h.1, fun q h1 h2 => ?_⟩, hS.F ht⟩) hS.2.2 hdg hlocks
  rw [ht]
  by_cases c : q = a
  · subst c
    refine ⟨fun _ _ => ?_, fun g => by rw [hk] at g; omega⟩
    rw [hk]
    have hcl : ∃ r, vwCl[k - 1]? = some r := by
      rcases (show k = 1 ∨ k = 2 ∨ k = 3 ∨ k = 4 ∨ k = 5 ∨ k = 6 ∨ k = 7 ∨ k = 8 ∨ k = 9 ∨ k = 10 by omega) with rfl | rfl | rfl | rfl | rfl | rfl | rfl | rfl | rfl | rfl <;> exact ⟨_, rfl⟩
    obtain ⟨r, hr2⟩ := hcl
    have hn := zq_nl k r hk0.1 hk0.2 hr2
    exact ⟨r, V, hr2, by rw [hn]; exact h.2.1, fun j hj => hv j (by rw [← hn]; exact hj)⟩
  · exact h.2.2.1 q (by omega) h2 (fun e he => by cases he)
end ZC
