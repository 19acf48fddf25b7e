/-! the Words' own row, cloned; the Tape -/
theorem zcw_40 : Cond.methodLink RX9 73 ⟨"[LPondIceTrade$Word;", "clone", "()Ljava/lang/Object;"⟩ ∈ zt := zt_t 40 (by decide +kernel) rfl
theorem zcw_41 : Cond.sameMethod "[LPondIceTrade$Word;" "java/lang/Object" "clone" "()Ljava/lang/Object;" ∈ zt := zt_t 41 (by decide +kernel) rfl
theorem zcw_42 : Cond.native ⟨"java/lang/Object", "clone", "()Ljava/lang/Object;"⟩ ∈ zt := zt_t 42 (by decide +kernel) rfl
theorem zcw_43 : Cond.instanceMethod ⟨"java/lang/Object", "clone", "()Ljava/lang/Object;"⟩ ∈ zt := zt_t 43 (by decide +kernel) rfl
theorem zcw_44 : Cond.selects "[LPondIceTrade$Word;" ⟨"[LPondIceTrade$Word;", "clone", "()Ljava/lang/Object;"⟩ ⟨"java/lang/Object", "clone", "()Ljava/lang/Object;"⟩ ∈ zt := zt_t 44 (by decide +kernel) rfl
def zcvW (X : zq_X) (n : Nat) (U : State) : Prop := (U.heap.size = n ∧ (zq_h0 X).size ≤ n ∧ ∀ q, q < (zq_h0 X).size → U.heap[q]? = (zq_h0 X)[q]?) ∧ zcK X U
def zcvQ (X : zq_X) (n : Nat) : Array Value → State → Outcome → State → Prop := va_Qr (fun _ : Unit => True) (fun _ r t => r = n ∧ t.heap.size = n + 1 ∧ ∃ V : Nat → Value, t.heap[n]? = some (arrV (X.2.1 9) 21 V) ∧ ∀ j, j < 21 → ∃ w, zq_k X w = 12 ∧ V j = .ref w) (zcA n)
set_option maxHeartbeats 4000000 in
set_option maxRecDepth 100000 in
theorem c_X9_values (l : Launch) (X : zq_X) (n : Nat) : Met l yX9_values (zt_w yX9_values cX9_values 0 (some (.array (.object "PondIceTrade$Word")))) (zc_rm 1 1 21) (va_Pc [] (zcvW X n)) (zcvQ X n) 1 21 (zcA n) := by
  refine Met.ofW (cc := cX9_values) (maxL := 0) (ret := some (.array (.object "PondIceTrade$Word"))) (by decide) rfl ?_
  intro p e s m args below meth c s₁ B hml hv
  obtain ⟨hargs, ⟨hsz, hh0, hold⟩, hK⟩ := hv
  have hown : s.vm.findClass RX9 = some m.cls := findClass_of_methodNamed B.named
  have hts := atoms_spec (ws := zt_w yX9_values cX9_values 0 (some (.array (.object "PondIceTrade$Word")))) B.pre
  have E : CallFix p m c cX9_values 0 s args (Cond.code yX9_values cX9_values 0 (some (.array (.object "PondIceTrade$Word"))) :: zt) RX9 := ⟨B.exec, B.bytes, hml, hown, hts⟩
  have hr := B.returns
  have hlocks := B.notSynchronized
  clear B
  have hl := lv_entry ([]) (n := 0) (Nat.le_of_ble_eq_true rfl)
  have hg : entryFrame m args 0 = F0 m 0 ((lg_sl ([]) ++ List.replicate (0 - (lg_sl ([])).length) Slot.unset).toArray) [] := by rw [hargs]; exact lg_entry_eq m ([]) 0
  rw [hg]
  generalize (lg_sl ([]) ++ List.replicate (0 - (lg_sl ([])).length) Slot.unset).toArray = ls at hl ⊢
  have hls : ls.size = 0 := hl.1
  obtain ⟨R, hRm⟩ : ∃ R : Room, R = (headSpec (zt_w yX9_values cX9_values 0 (some (.array (.object "PondIceTrade$Word")))) (zc_rm 1 1 21)).room := ⟨_, rfl⟩
  rw [← hRm]
  have hRr : R.frames = 1 ∧ R.cells = 1 ∧ R.slots = 21 ∧ R.locals = 64 := by rw [hRm]; exact ⟨rfl, rfl, rfl, rfl⟩
  obtain ⟨b, cell, hz, hb0, hcell, ⟨hq1, hq2, hq3, hq4⟩, hW⟩ := hK.2.2.2.2.2.2.2.1
  obtain ⟨V, hVd⟩ : ∃ V : Nat → Value, V = fun j => (cell.slots[j]?).getD .null := ⟨_, rfl⟩
  have hce : ({ cls := cell.cls, slots := cell.slots } : Cell) = arrV (X.2.1 9) 21 V := by
    have hsl : cell.slots = Array.ofFn (n := 21) (fun j => V j.val) := by
      apply Array.ext
      · simp [hq4]
      · intro i h1 h2
        simp [hVd, Array.getElem?_eq_getElem h1]
    unfold arrV
    rw [← hsl, ← hq1]
  obtain ⟨hAr, kA, comp, k1, k2, k3, k4⟩ := hK.1.1.2 9 _ rfl
  have hnm : s.vm.findClass "[LPondIceTrade$Word;" = some (X.2.1 9) := k4
  refine zc_gets E hold hz zLX9_69 dX9_values_0 ?_
  refine zc_clone (b := b) (cell := cell) (rest := []) E hls zcw_40 zcw_41 zcw_42 zcw_43 zcw_44 hK.2.2.2.2.2.2.2.2.1 hAr hnm ((hold b hb0).trans hcell) hq1 hq2 hq3 (fun j v hv => by
    have hj : j < 21 := by
      rcases Nat.lt_or_ge j 21 with q | q
      · exact q
      · rw [Array.getElem?_eq_none (by omega)] at hv; cases hv
    obtain ⟨w, -, e⟩ := hW j hj
    rw [e] at hv; cases hv; rfl) ⟨by omega, by show 0 + 14 ≤ _; omega, by omega, by rw [hq4]; omega⟩ dX9_values_3 (fun H1 z1 e1 o1 => ?_)
  rw [hce] at e1
  rw [hq4]
  rw [hsz] at z1 e1 o1 ⊢
  refine zc_cast E zcl_X9_74 hnm e1 dX9_values_6 ?_
  have hS : va_S (zcA n) s.heap H1 [] := ⟨by rw [hsz, z1]; omega, fun q h1 h2 => o1 q (by rw [hsz] at h1; exact h1), fun q hq => absurd hq List.not_mem_nil⟩
  exact W.aret E.1 E.2.1 hr (Or.inr ⟨_, rfl⟩) (Or.inr ⟨_, rfl⟩) (fun t ht hWm => ⟨⟨(), n, rfl, trivial, rfl, by rw [ht]; exact z1, V, by rw [ht]; exact e1, fun j hj => by obtain ⟨w, h1, h2⟩ := hW j hj; exact ⟨w, h1, by rw [hVd]; simp [h2]⟩⟩, hS.F ht⟩) hS.2.2 dX9_values_9 hlocks
section ZE
variable {p : Program} {l : Launch} {e : Env} {R : Room} {s : State} {m : MethodId} {args : Array Value} {below : List Frame} {meth : Method} {c : Code} {H : Heap} {locs : List Loc} {cells slots : Nat} {Q : State → Prop}
variable {cc : ByteArray} {nL pc : Nat} {ls : Array Slot} {rest : List Value} {w0 : Cond} {own : String} {X : zq_X} {a k j i index : Nat} {V : Nat → Value} {O : List zcO}
theorem zc_values (E : CallFix p m c cc nL s args (w0 :: zt) own) (hK : zcK X s) (h : zcs X k a i V O H) (hS : va_S (zcA a) s.heap H locs) (hk2 : zq_k X (a + 1 + i) = 21) (hw : Cond.methodLink own index yX9_values ∈ zt) (hR : (2 ≤ R.frames ∧ 83 ≤ R.locals) ∧ cells + 1 ≤ R.cells ∧ slots + 21 ≤ R.slots) (hs : ls.size = nL) (hW : (rest.map fun v => v.category).sum ≤ 8) (hdg : decode cc pc = .ok (.invokestatic index, 3))
    (kk : ∀ (H1 : Heap) (locs1 : List Loc), zcs X k a (i + 1) V O H1 → va_S (zcA a) s.heap H1 locs1 → W p l e R s m args below meth c H1 locs1 (cells + 1) (slots + 21) Q (F0 m (pc + 3) ls (.ref (a + 1 + i) :: rest))) : W p l e R s m args below meth c H locs cells slots Q (F0 m pc ls rest) := by
  have hh : ∀ w ∈ zt, w.before args s = true := fun w hw => E.2.2.2.2 _ (List.mem_cons_of_mem _ hw)
  have hV := zM_X9_values
  have hcb := callB_of (rm := zc_rm 1 1 21) (mc := 1) (ms := 21) (R := R) 0 E.2.2.2.2 (zt_good (w0 := w0) (zt_code hV.1.2.2)) rfl rfl rfl (by rw [hV.2.1]; exact hh _ hV.1.2.1) (hh _ hw) hV.2.2 ⟨by show 1 + 1 ≤ _; omega, by show 8 + (0 + 11) + 64 ≤ _; omega⟩
  refine va_callr (va_runS (As := []) (rest := rest) E (c_X9_values l X (a + 1 + i)) ⟨hcb, hh _ hV.1.1⟩ ⟨fun _ U _ _ q => ⟨q.1, ⟨q.2.1, zcK.same (u := U) rfl q.2.2⟩⟩, fun U hU hWm => ⟨rfl, ⟨by rw [hU]; exact h.1, by have := h.2.2.2.2.2; omega, fun q hq => by rw [hU]; exact h.2.2.2.2.1 q hq⟩, hK.warm hWm⟩⟩ rfl rfl hs rfl (lv_room hW) hdg ⟨hR.2.1, hR.2.2⟩) hS (fun q _ hq => by have : a + 1 + i ≤ q := hq; show a ≤ q; omega) (fun q hq => by have : a + 1 + i ≤ q := hq; show a ≤ q; omega) (fun _ ra t H1 locs1 ht _ _ hB hz hkeep hS1 => ?_)
  obtain ⟨b1, b2, V2, b3, b4⟩ := hB
  subst b1
  rw [ht] at b2 b3
  have o1 : ∀ q, q < a + 1 + i → H1[q]? = H[q]? := fun q hq => hkeep q (by rw [h.1]; exact hq) (fun z => by have : a + 1 + i ≤ q := z; omega)
  refine kk H1 locs1 (h.grow o1 (by omega) ⟨fun g1 g2 => by rw [hk2] at g2; omega, fun _ => ?_⟩) hS1
  rw [hk2]
  exact ⟨V2, b3, fun j hj => b4 j hj⟩
end ZE
set_option maxHeartbeats 8000000 in
set_option maxRecDepth 100000 in
theorem c_X6_init (l : Launch) (X : zq_X) (a : Nat) (hl0 : zLay X a 6) : zcM l X yX6_init cX6_init 2 3 6 a 6 2025 := by
  refine Met.ofW (cc := cX6_init) (maxL := 2) (ret := none) (by decide) rfl ?_
  intro p e s m args below meth c s₁ B hml hv
  obtain ⟨hargs, ⟨hsz, hh0, hob, hold⟩, hK⟩ := hv
  have hown : s.vm.findClass RX6 = some m.cls := findClass_of_methodNamed B.named
  have hts := atoms_spec (ws := zt_w yX6_init cX6_init 2 none) B.pre
  have E : CallFix p m c cX6_init 2 s args (Cond.code yX6_init cX6_init 2 none :: zt) RX6 := ⟨B.exec, B.bytes, hml, hown, hts⟩
  have hx := B.exec
  have hb := B.bytes
  have hr := B.returns
  have hlocks := B.notSynchronized
  have hin : meth.name = "<init>" := (name_of_methodNamed B.named B.method).1
  clear B
  have hk0 : zq_k X a = 6 := hl0.k 0 rfl rfl
  have hc : zcs X 6 a 0 (zdV 6) [] s.heap := ⟨hsz, hob, fun q h1 h2 => absurd h2 (by omega), fun e he => absurd he List.not_mem_nil, hold, hh0⟩
  have hS : va_S (zcA a) s.heap s.heap [] := va_S.rf
  have hl := lv_entry ([.ref a]) (n := 2) (Nat.le_of_ble_eq_true rfl)
  have hg : entryFrame m args 2 = F0 m 0 ((lg_sl ([.ref a]) ++ List.replicate (2 - (lg_sl ([.ref a])).length) Slot.unset).toArray) [] := by rw [hargs]; exact lg_entry_eq m ([.ref a]) 2
  rw [hg]
  clear hg hargs
  generalize (lg_sl ([.ref a]) ++ List.replicate (2 - (lg_sl ([.ref a])).length) Slot.unset).toArray = ls at hl ⊢
  have hl : lv_has ls 2 [(0, .ref a)] := hl
  obtain ⟨R, hRm⟩ : ∃ R : Room, R = (headSpec (zt_w yX6_init cX6_init 2 none) (zc_rm 3 6 2025)).room := ⟨_, rfl⟩
  rw [← hRm]
  have hRr : R.frames = 3 ∧ R.cells = 6 ∧ R.slots = 2025 ∧ R.locals = 192 := by rw [hRm]; exact ⟨rfl, rfl, rfl, rfl⟩
  generalize hQ : MQ below _ args s _ _ (zcA a) = Q
  obtain ⟨H, hH⟩ : ∃ H, H = s.heap := ⟨_, rfl⟩
  obtain ⟨locs, hlo⟩ : ∃ x : List Loc, x = [] := ⟨_, rfl⟩
  rw [show W p l e R s m args below meth c s.heap [] 0 0 Q = W p l e R s m args below meth c H locs 0 0 Q by rw [hH, hlo]]
  have hc : zcs X 6 a 0 (zdV 6) [] H := by rw [hH]; exact hc
  have hS : va_S (zcA a) s.heap H locs := by rw [hH, hlo]; exact hS
  clear hH hlo
  refine lv_aload_n hx hb dX6_init_0 rfl (lv_at hl 0 rfl) ?_
  refine zc_obj E zcm_X6_3 zcx_O zcc_O hl.1 ⟨by omega, by omega⟩ dX6_init_1 ?_
  refine lv_aload_n hx hb dX6_init_4 rfl (lv_at hl 0 rfl) ?_
  refine lv_sipush (v := 400) hx hb dX6_init_5 (by decide +kernel) ?_
  have hk : zq_k X (a + 1 + 0) = 20 := hl0.k 1 rfl rfl
  refine zc_newa (t := 2) (N := 400) (k2 := 20) (ty := .byte) E hK hc hS rfl zca_byte rfl (fun q => q) hk (by decide) rfl (fun j => by show Value.int 0 = Value.int (zv0 (zq_k X (a + 1 + 0)) j); rw [hk, zv0_arr (by decide)]) (by decide +kernel) (by decide +kernel) (by decide +kernel) (by omega) (by omega) dX6_init_8 (fun H hc hS => ?_)
  refine W.widen (k := 1) (n := 400) (by omega) (by omega) ?_
  have hc : zcs X 6 a 1 _ [] H := hc
  refine zc_putF (j := 0) E hc hS (zc_G.of (C := RX6) (T := TX6) (N := 10) E hK rfl iz_X6 rfl tyX6 tyX6_ok nmX6 (by decide) rfl rfl rfl zLX6_11) hin (by decide) rfl rfl dX6_init_10 (fun H locs hc hS => ?_)
  refine lv_aload_n hx hb dX6_init_13 rfl (lv_at hl 0 rfl) ?_
  have hk : zq_k X (a + 1 + 1) = 21 := hl0.k 2 rfl rfl
  refine zc_values E hK hc hS hk zmX6_15 ⟨⟨by omega, by omega⟩, by omega, by omega⟩ hl.1 (Nat.le_of_ble_eq_true rfl) dX6_init_14 (fun H locs hc hS => ?_)
  refine W.widen (k := 2) (n := 421) (by omega) (by omega) ?_
  have hc : zcs X 6 a 2 _ [] H := hc
  refine zc_putF (j := 2) E hc hS (zc_G.of (C := RX6) (T := TX6) (N := 10) E hK rfl iz_X6 rfl tyX6 tyX6_ok nmX6 (by decide) rfl rfl rfl zLX6_21) hin (by decide) rfl rfl dX6_init_17 (fun H locs hc hS => ?_)
  refine lv_aload_n hx hb dX6_init_20 rfl (lv_at hl 0 rfl) ?_
  refine lv_sipush (v := 401) hx hb dX6_init_21 (by decide +kernel) ?_
  have hk : zq_k X (a + 1 + 2) = 22 := hl0.k 3 rfl rfl
  refine zc_newa (t := 0) (N := 401) (k2 := 22) (ty := .int) E hK hc hS rfl zca_int rfl (fun q => q) hk (by decide) rfl (fun j => by show Value.int 0 = Value.int (zv0 (zq_k X (a + 1 + 2)) j); rw [hk, zv0_arr (by decide)]) (by decide +kernel) (by decide +kernel) (by decide +kernel) (by omega) (by omega) dX6_init_24 (fun H hc hS => ?_)
  refine W.widen (k := 3) (n := 822) (by omega) (by omega) ?_
  have hc : zcs X 6 a 3 _ [] H := hc
  refine zc_putF (j := 3) E hc hS (zc_G.of (C := RX6) (T := TX6) (N := 10) E hK rfl iz_X6 rfl tyX6 tyX6_ok nmX6 (by decide) rfl rfl rfl zLX6_25) hin (by decide) rfl rfl dX6_init_26 (fun H locs hc hS => ?_)
  refine lv_aload_n hx hb dX6_init_29 rfl (lv_at hl 0 rfl) ?_
  refine lv_sipush (v := 401) hx hb dX6_init_30 (by decide +kernel) ?_
  have hk : zq_k X (a + 1 + 3) = 43 := hl0.k 4 rfl rfl
  refine zc_newa (t := 0) (N := 401) (k2 := 43) (ty := .int) E hK hc hS rfl zca_int rfl (fun q => q) hk (by decide) rfl (fun j => by show Value.int 0 = Value.int (zv0 (zq_k X (a + 1 + 3)) j); rw [hk, zv0_arr (by decide)]) (by decide +kernel) (by decide +kernel) (by decide +kernel) (by omega) (by omega) dX6_init_33 (fun H hc hS => ?_)
  refine W.widen (k := 4) (n := 1223) (by omega) (by omega) ?_
  have hc : zcs X 6 a 4 _ [] H := hc
  refine zc_putF (j := 4) E hc hS (zc_G.of (C := RX6) (T := TX6) (N := 10) E hK rfl iz_X6 rfl tyX6 tyX6_ok nmX6 (by decide) rfl rfl rfl zLX6_29) hin (by decide) rfl rfl dX6_init_35 (fun H locs hc hS => ?_)
  refine lv_aload_n hx hb dX6_init_38 rfl (lv_at hl 0 rfl) ?_
  refine lv_sipush (v := 401) hx hb dX6_init_39 (by decide +kernel) ?_
  have hk : zq_k X (a + 1 + 4) = 22 := hl0.k 5 rfl rfl
  refine zc_newa (t := 0) (N := 401) (k2 := 22) (ty := .int) E hK hc hS rfl zca_int rfl (fun q => q) hk (by decide) rfl (fun j => by show Value.int 0 = Value.int (zv0 (zq_k X (a + 1 + 4)) j); rw [hk, zv0_arr (by decide)]) (by decide +kernel) (by decide +kernel) (by decide +kernel) (by omega) (by omega) dX6_init_42 (fun H hc hS => ?_)
  refine W.widen (k := 5) (n := 1624) (by omega) (by omega) ?_
  have hc : zcs X 6 a 5 _ [] H := hc
  refine zc_putF (j := 5) E hc hS (zc_G.of (C := RX6) (T := TX6) (N := 10) E hK rfl iz_X6 rfl tyX6 tyX6_ok nmX6 (by decide) rfl rfl rfl zLX6_32) hin (by decide) rfl rfl dX6_init_44 (fun H locs hc hS => ?_)
  refine lv_aload_n hx hb dX6_init_47 rfl (lv_at hl 0 rfl) ?_
  refine lv_sipush (v := 401) hx hb dX6_init_48 (by decide +kernel) ?_
  refine zc_anew (t := 9) (N := 401) (C := RX9) E hK hc hS zcl_X6_16 (hK.2.2.2.2.2.2.1) rfl (by decide +kernel) (by decide +kernel) (by decide +kernel) (by omega) (by omega) dX6_init_51 (fun H hc hS => ?_)
  refine W.widen (k := 6) (n := 2025) (by omega) (by omega) ?_
  have hc : zcs X 6 a 6 _ _ H := hc
  refine zc_putF (j := 6) E hc hS (zc_G.of (C := RX6) (T := TX6) (N := 10) E hK rfl iz_X6 rfl tyX6 tyX6_ok nmX6 (by decide) rfl rfl rfl zLX6_35) hin (by decide) rfl rfl dX6_init_54 (fun H locs hc hS => ?_)
  refine lv_iconst (v := 0) hx hb dX6_init_57 (by decide +kernel) ?_
  refine lv_istore_n (lv' := [(1, .int (0 : Int32)), (0, .ref a)]) hx hb dX6_init_58 rfl hl (by decide) rfl (fun ls hl => ?_)
  have loop : ∀ (n i : Nat) (x : Int32) (f : Nat → Value) (H : Heap) (locs : List Loc) (ls : Array Slot), n + i = 401 → x.toInt = (i : Int) → (∀ j, j < i → ∃ w, zq_k X w = 12 ∧ f j = .ref w) → zcs X 6 a 6 (updV (updV (updV (updV (updV (updV (zdV 6) 0 (.ref (a + 1))) 2 (.ref (a + 2))) 3 (.ref (a + 3))) 4 (.ref (a + 4))) 5 (.ref (a + 5))) 6 (.ref (a + 6))) [(a + 6, 9, 401, f)] H → va_S (zcA a) s.heap H locs → lv_has ls 2 [(1, .int x), (0, .ref a)] → W p l e R s m args below meth c H locs 6 2025 Q (F0 m 59 ls []) := by
    intro n
    induction n with
    | zero =>
      intro i x f H locs ls hn hxi hf hc hS hl
      refine lv_iload_n hx hb dX6_init_59 rfl (lv_at hl 0 rfl) ?_
      refine lv_aload_n hx hb dX6_init_60 rfl (lv_at hl 1 rfl) ?_
      refine zc_get (j := 6) (v := .ref (a + 6)) E hc (zFX6_35 E hK.1) (by decide) rfl dX6_init_61 ?_
      refine zc_alen (b := a + 6) (nn := 401) E hK hc rfl (by decide +kernel) dX6_init_64 ?_
      refine lv_icmp_ge (tgt := 83) hx hb dX6_init_65 (by decide) (fun b => ?_) (fun b => ?_)
      · have hkb : zq_k X (a + 6) = 23 := hl0.k 6 rfl rfl
        have hc := hc.close hkb (by decide) rfl (fun j hj => by obtain ⟨w, h1, h2⟩ := hf j (by omega); exact ⟨w, h1, h2⟩)
        subst hQ
        have hr0 : zq_r X a 0 = (a + 1) := hl0.r 0 0 rfl rfl
        have hr2 : zq_r X a 2 = (a + 2) := hl0.r 0 2 rfl rfl
        have hr3 : zq_r X a 3 = (a + 3) := hl0.r 0 3 rfl rfl
        have hr4 : zq_r X a 4 = (a + 4) := hl0.r 0 4 rfl rfl
        have hr5 : zq_r X a 5 = (a + 5) := hl0.r 0 5 rfl rfl
        have hr6 : zq_r X a 6 = (a + 6) := hl0.r 0 6 rfl rfl
        refine zc_ret E hr hc hS hk0 (by decide) (fun j hj => ?_) hlocks dX6_init_83
        have hj : j < 10 := hj
        rcases (show j = 0 ∨ j = 1 ∨ j = 2 ∨ j = 3 ∨ j = 4 ∨ j = 5 ∨ j = 6 ∨ j = 7 ∨ j = 8 ∨ j = 9 by omega) with rfl | rfl | rfl | rfl | rfl | rfl | rfl | rfl | rfl | rfl
        · show Value.ref (a + 1) = Value.ref (zq_r X a 0); rw [hr0]
        · show Value.int 0 = Value.int (zv0 (zq_k X a) 1); rw [hk0]; rfl
        · show Value.ref (a + 2) = Value.ref (zq_r X a 2); rw [hr2]
        · show Value.ref (a + 3) = Value.ref (zq_r X a 3); rw [hr3]
        · show Value.ref (a + 4) = Value.ref (zq_r X a 4); rw [hr4]
        · show Value.ref (a + 5) = Value.ref (zq_r X a 5); rw [hr5]
        · show Value.ref (a + 6) = Value.ref (zq_r X a 6); rw [hr6]
        · show Value.int 0 = Value.int (zv0 (zq_k X a) 7); rw [hk0]; rfl
        · show Value.int 0 = Value.int (zv0 (zq_k X a) 8); rw [hk0]; rfl
        · show Value.int 0 = Value.int (zv0 (zq_k X a) 9); rw [hk0]; rfl
      · exact absurd (Int32.le_iff_toInt_le.mpr (by rw [hxi, show (401 : Int32).toInt = 401 from by decide +kernel]; omega)) b
    | succ n ih =>
      intro i x f H locs ls hn hxi hf hc hS hl
      refine lv_iload_n hx hb dX6_init_59 rfl (lv_at hl 0 rfl) ?_
      refine lv_aload_n hx hb dX6_init_60 rfl (lv_at hl 1 rfl) ?_
      refine zc_get (j := 6) (v := .ref (a + 6)) E hc (zFX6_35 E hK.1) (by decide) rfl dX6_init_61 ?_
      refine zc_alen (b := a + 6) (nn := 401) E hK hc rfl (by decide +kernel) dX6_init_64 ?_
      refine lv_icmp_ge (tgt := 83) hx hb dX6_init_65 (by decide) (fun b => ?_) (fun b => ?_)
      · exact absurd (Int32.le_iff_toInt_le.mp b) (by rw [hxi, show (401 : Int32).toInt = 401 from by decide +kernel]; omega)
      · refine lv_aload_n hx hb dX6_init_68 rfl (lv_at hl 1 rfl) ?_
        refine zc_get (j := 6) (v := .ref (a + 6)) E hc (zFX6_35 E hK.1) (by decide) rfl dX6_init_69 ?_
        refine lv_iload_n hx hb dX6_init_72 rfl (lv_at hl 0 rfl) ?_
        obtain ⟨w, hw, hz⟩ := hK.1.2.2.2.2.2.1 "OTHER" (by decide)
        refine zc_gets E hc.2.2.2.2.1 hz zLX6_38 dX6_init_73 ?_
        refine zc_aastw (b := a + 6) E hK hc hS (fun e he => absurd he List.not_mem_nil) hw ⟨by omega, by omega⟩ dX6_init_76 (fun H locs hc hS => ?_)
        obtain ⟨x2, ex2⟩ : ∃ y : Int32, y = x + 1 := ⟨_, rfl⟩
        have tx2 := zi_add ex2 (rfl : x.toInt = x.toInt) zl_1 ⟨by omega, by omega⟩
        refine lv_iinc (v := x2) (lv' := [(1, .int x2), (0, .ref a)]) hx hb dX6_init_77 hl (k := 0) rfl (by rw [ex2]; rfl) (by decide) rfl (fun ls hl => ?_)
        refine lv_goto (tgt := 59) hx hb dX6_init_80 (by decide) ?_
        have cx := zq_cl (i := x) (by omega)
        refine ih (i + 1) x2 _ H locs ls (by omega) (by omega) (fun j hj => ?_) hc hS hl
        by_cases q : j = x.toNatClampNeg
        · exact ⟨w, hw, if_pos q⟩
        · obtain ⟨w2, h1, h2⟩ := hf j (by omega)
          exact ⟨w2, h1, (if_neg q).trans h2⟩
  exact loop 401 0 0 _ H locs ls rfl (by decide +kernel) (fun j hj => absurd hj (by omega)) hc hS hl
