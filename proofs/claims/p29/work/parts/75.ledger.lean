/-! THE LEDGER: a row of rows of numbers -/
theorem zoc (c : ClassId) (N h0 : Nat) : ∀ i, Jvm.Free.Multi.outerC c N h0 i = arrV c N (fun j => if j < i then .ref (h0 + 1 + j) else .null)
  | 0 => by
    have h : (fun j : Nat => if j < 0 then Value.ref (h0 + 1 + j) else Value.null) = fun _ => Value.null := funext fun j => if_neg (Nat.not_lt_zero j)
    rw [h, ← arrV_new]
    rfl
  | i + 1 => by
    show (Jvm.Free.Multi.outerC c N h0 i).setSlot i (.ref (h0 + 1 + i)) = _
    rw [zoc c N h0 i, arrV_store]
    congr 1
    funext j
    unfold updV
    by_cases h : j = i
    · subst h
      rw [if_pos rfl, if_pos (by omega)]
    · rw [if_neg h]
      show (if j < i then Value.ref (h0 + 1 + j) else Value.null) = _
      by_cases h2 : j < i
      · rw [if_pos h2, if_pos (by omega)]
      · rw [if_neg h2, if_neg (by omega)]
section ZG
variable {p : Program} {l : Launch} {e : Env} {R : Room} {s : State} {m : MethodId} {args : Array Value} {below : List Frame} {meth : Method} {c : Code} {H : Heap} {locs : List Loc} {cells slots : Nat} {Q : State → Prop}
variable {cc : ByteArray} {nL pc : Nat} {ls : Array Slot} {rest : List Value} {w0 : Cond} {own : String} {X : zq_X} {a k j i index : Nat} {V : Nat → Value} {O : List zcO}
set_option maxRecDepth 100000 in
theorem zc_multi (E : CallFix p m c cc nL s args (w0 :: zt) own) (hK : zcK X s) (h : zcs X k a i V O H) (hS : va_S (zcA a) s.heap H locs) (hw : Cond.classLink own index "[[I" ∈ zt) (hk36 : zq_k X (a + 1 + i) = 36) (hk37 : ∀ j, j < 7 → zq_k X (a + 1 + i + 1 + j) = 37) (hr : ∀ j, j < 7 → zq_r X (a + 1 + i) j = a + 1 + i + 1 + j) (hc1 : cells + 8 ≤ R.cells) (hc2 : slots + 434 ≤ R.slots) (hdg : decode cc pc = .ok (.multianewarray index 2, 4))
    (kk : ∀ H1 : Heap, zcs X k a (i + 8) V O H1 → va_S (zcA a) s.heap H1 locs → W p l e R s m args below meth c H1 locs (cells + 1 + 7) (slots + 7 + 7 * 61) Q (F0 m (pc + 4) ls (.ref (a + 1 + i) :: rest))) : W p l e R s m args below meth c H locs cells slots Q (F0 m pc ls (.int 61 :: .int 7 :: rest)) := by
  have es : "[" ++ (FieldType.array FieldType.int).toString = "[[I" := by decide +kernel
  have hcl : (Cond.classLink own index ("[" ++ (FieldType.array FieldType.int).toString)).before args s = true := by rw [es]; exact E.2.2.2.2 _ (List.mem_cons_of_mem _ hw)
  have hov : (Cond.arrayOver (.array .int)).before args s = true := by
    have q := hK.2.2.2.2.2.2.2.2.2
    simp only [Cond.before, Cond.holds, Cond.value] at q ⊢
    exact q
  have n7 : (7 : Int32).toNatClampNeg = 7 := by decide +kernel
  have n61 : (61 : Int32).toNatClampNeg = 61 := by decide +kernel
  intro T hT Y
  obtain ⟨vm₁, cA, comp, hW, hfA, hfC, -, -, X1, step⟩ := Y.multianewarray2F E.1 E.2.2.2.1 hcl hov (E.2.2.2.2 _ (List.mem_cons_of_mem _ zca_int)) (g := F0 m pc ls (.int 61 :: .int 7 :: rest)) rfl (by rw [E.2.1]; exact hdg) (n := 7) (k := 61) (rest := rest) rfl (by decide) (by decide) (by rw [n7]; decide) (by rw [n61]; decide) (by rw [n61]; decide) rfl rfl (by rw [n7]; omega) (by rw [n7, n61]; omega)
  rw [n7, n61] at X1 step
  have hcA : cA = X.2.1 10 := Option.some.inj (hfA.symm.trans (hK.1.1.2 10 _ rfl).2)
  have hco : comp = X.2.1 0 := Option.some.inj (hfC.symm.trans (hK.1.1.2 0 _ rfl).2)
  subst hcA hco
  obtain ⟨f1, f2, -, -⟩ := Jvm.Free.Multi.fill_facts (T.setVm vm₁) (X.2.1 10) (X.2.1 0) 7 61 (defaultValue .int) 7
  have fo := fun (q : Nat) (hq : q < (T.setVm vm₁).heap.size) => Jvm.Free.Multi.fill_old (T.setVm vm₁) (X.2.1 10) (X.2.1 0) 7 61 (defaultValue .int) hq 7
  have fi := fun (j : Nat) (hj : j < 7) => Jvm.Free.Multi.fill_inner (T.setVm vm₁) (X.2.1 10) (X.2.1 0) 7 61 (defaultValue .int) 7 j hj
  have hTs : T.heap.size = a + 1 + i := by rw [hT]; exact h.1
  have hTh : (T.setVm vm₁).heap = H := hT
  rw [hTh, h.1] at f1 f2
  rw [hTh] at fo
  rw [hTh, h.1] at fi
  rw [zoc] at f2
  generalize hH1 : (Jvm.Free.Multi.fill (T.setVm vm₁) (X.2.1 10) (X.2.1 0) 7 61 (defaultValue .int) 7).heap = H1 at f1 f2 fo fi
  rw [h.1] at fo
  have hz := h
  obtain ⟨h1, h2, h3, h4, h5, h6⟩ := hz
  have hzc : zcs X k a (i + 8) V O H1 := by
    refine ⟨by omega, h2.kept (fo a (by omega)), fun q g1 g2 g3 => ?_, fun e he => ?_, fun q hq => (fo q (by omega)).trans (h5 q hq), h6⟩
    · rcases Nat.lt_or_ge q (a + 1 + i) with q1 | q1
      · exact (h3 q g1 q1 g3).kept (fo q q1)
      · by_cases q2 : q = a + 1 + i
        · subst q2
          refine ⟨fun g1 g2 => by rw [hk36] at g2; omega, fun _ => ?_⟩
          rw [hk36]
          refine ⟨_, f2, fun j hj => ?_⟩
          have hj : j < 7 := hj
          show (if j < 7 then Value.ref (a + 1 + i + 1 + j) else Value.null) = Value.ref (zq_r X (a + 1 + i) j)
          rw [if_pos hj, hr j hj]
        · obtain ⟨j, rfl⟩ : ∃ j, q = a + 1 + i + 1 + j := ⟨q - (a + 1 + i + 1), by omega⟩
          have hj : j < 7 := by omega
          have hk := hk37 j hj
          refine ⟨fun g1 g2 => by rw [hk] at g2; omega, fun _ => ?_⟩
          rw [hk]
          refine ⟨fun _ => .int 0, ?_, fun j2 _ => ?_⟩
          · rw [fi j hj]
            show some (Jvm.Free.Multi.innerC (X.2.1 0) 61 (defaultValue .int)) = some (arrV (X.2.1 0) 61 (fun _ => .int 0))
            rw [← arrV_new]
            rfl
          · show Value.int 0 = Value.int (zv0 (zq_k X (a + 1 + i + 1 + j)) j2)
            rw [hk, zv0_arr (by decide)]
    · obtain ⟨g1, g2, g3⟩ := h4 e he
      exact ⟨g1, by omega, (fo _ g2).trans g3⟩
  have hS1 : va_S (zcA a) s.heap H1 locs := zcS.grow hS (by omega) (by rw [h1]; exact fo)
  obtain ⟨t, b1, b2⟩ := kk H1 hzc hS1 _ hH1 X1
  refine ⟨t, step t ?_, b2⟩
  rw [hTs]
  exact b1
end ZG
set_option maxHeartbeats 8000000 in
set_option maxRecDepth 100000 in
theorem c_X1_init (l : Launch) (X : zq_X) (a : Nat) (hl0 : zLay X a 2) : zcM l X yX1_init cX1_init 1 3 2 a 20 516 := by
  refine Met.ofW (cc := cX1_init) (maxL := 1) (ret := none) (by decide) rfl ?_
  intro p e s m args below meth c s₁ B hml hv
  obtain ⟨hargs, ⟨hsz, hh0, hob, hold⟩, hK⟩ := hv
  have hown : s.vm.findClass RX1 = some m.cls := findClass_of_methodNamed B.named
  have hts := atoms_spec (ws := zt_w yX1_init cX1_init 1 none) B.pre
  have E : CallFix p m c cX1_init 1 s args (Cond.code yX1_init cX1_init 1 none :: zt) RX1 := ⟨B.exec, B.bytes, hml, hown, hts⟩
  have hx := B.exec
  have hb := B.bytes
  have hr := B.returns
  have hlocks := B.notSynchronized
  have hin : meth.name = "<init>" := (name_of_methodNamed B.named B.method).1
  clear B
  have hk0 : zq_k X a = 2 := hl0.k 0 rfl rfl
  have hc : zcs X 2 a 0 (zdV 2) [] s.heap := ⟨hsz, hob, fun q h1 h2 => absurd h2 (by omega), fun e he => absurd he List.not_mem_nil, hold, hh0⟩
  have hS : va_S (zcA a) s.heap s.heap [] := va_S.rf
  have hl := lv_entry ([.ref a]) (n := 1) (Nat.le_of_ble_eq_true rfl)
  have hg : entryFrame m args 1 = F0 m 0 ((lg_sl ([.ref a]) ++ List.replicate (1 - (lg_sl ([.ref a])).length) Slot.unset).toArray) [] := by rw [hargs]; exact lg_entry_eq m ([.ref a]) 1
  rw [hg]
  clear hg hargs
  generalize (lg_sl ([.ref a]) ++ List.replicate (1 - (lg_sl ([.ref a])).length) Slot.unset).toArray = ls at hl ⊢
  have hl : lv_has ls 1 [(0, .ref a)] := hl
  obtain ⟨R, hRm⟩ : ∃ R : Room, R = (headSpec (zt_w yX1_init cX1_init 1 none) (zc_rm 3 20 516)).room := ⟨_, rfl⟩
  rw [← hRm]
  have hRr : R.frames = 3 ∧ R.cells = 20 ∧ R.slots = 516 ∧ R.locals = 192 := by rw [hRm]; exact ⟨rfl, rfl, rfl, rfl⟩
  generalize hQ : MQ below _ args s _ _ (zcA a) = Q
  obtain ⟨H, hH⟩ : ∃ H, H = s.heap := ⟨_, rfl⟩
  obtain ⟨locs, hlo⟩ : ∃ x : List Loc, x = [] := ⟨_, rfl⟩
  rw [show W p l e R s m args below meth c s.heap [] 0 0 Q = W p l e R s m args below meth c H locs 0 0 Q by rw [hH, hlo]]
  have hc : zcs X 2 a 0 (zdV 2) [] H := by rw [hH]; exact hc
  have hS : va_S (zcA a) s.heap H locs := by rw [hH, hlo]; exact hS
  clear hH hlo
  refine lv_aload_n hx hb dX1_init_0 rfl (lv_at hl 0 rfl) ?_
  refine zc_obj E zcm_X1_3 zcx_O zcc_O hl.1 ⟨by omega, by omega⟩ dX1_init_1 ?_
  refine lv_aload_n hx hb dX1_init_4 rfl (lv_at hl 0 rfl) ?_
  refine zc_make (k2 := 8) (N2 := 10) (c2 := 10) (n2 := 65) (d := 2) (maxL := 2) E hK hc hS (c_X10_init l X (a + 1 + 0) (hl0.sub 1 8 (by decide +kernel))) rfl rfl iz_X10 tyX10 tyX10_ok zdv_X10 zcl_X1_9 zci_X10 zcn_X10 zcm_X1_11 zcx_X10 zcc_X10 ⟨rfl, rfl⟩ (by decide +kernel) ⟨⟨by omega, by omega⟩, by omega, by omega⟩ hl.1 (Nat.le_of_ble_eq_true rfl) dX1_init_5 dX1_init_8 dX1_init_9 (fun H locs hc hS => ?_)
  refine W.widen (k := 11) (n := 75) (by omega) (by omega) ?_
  have hc : zcs X 2 a 11 _ [] H := hc
  refine zc_putF (j := 0) E hc hS (zc_G.of (C := RX1) (T := TX1) (N := 3) E hK rfl iz_X1 rfl tyX1 tyX1_ok nmX1 (by decide) rfl rfl rfl zLX1_12) hin (by decide) rfl rfl dX1_init_12 (fun H locs hc hS => ?_)
  refine lv_aload_n hx hb dX1_init_15 rfl (lv_at hl 0 rfl) ?_
  refine lv_bipush (v := 7) hx hb dX1_init_16 (by decide +kernel) ?_
  refine lv_bipush (v := 61) hx hb dX1_init_18 (by decide +kernel) ?_
  have hk36 : zq_k X (a + 1 + 11) = 36 := hl0.k 12 rfl rfl
  have hk37 : ∀ j, j < 7 → zq_k X (a + 1 + 11 + 1 + j) = 37 := fun j hj => by
    rcases (show j = 0 ∨ j = 1 ∨ j = 2 ∨ j = 3 ∨ j = 4 ∨ j = 5 ∨ j = 6 by omega) with rfl | rfl | rfl | rfl | rfl | rfl | rfl
    · exact hl0.k 13 rfl rfl
    · exact hl0.k 14 rfl rfl
    · exact hl0.k 15 rfl rfl
    · exact hl0.k 16 rfl rfl
    · exact hl0.k 17 rfl rfl
    · exact hl0.k 18 rfl rfl
    · exact hl0.k 19 rfl rfl
  have hr7 : ∀ j, j < 7 → zq_r X (a + 1 + 11) j = a + 1 + 11 + 1 + j := fun j hj => by
    rcases (show j = 0 ∨ j = 1 ∨ j = 2 ∨ j = 3 ∨ j = 4 ∨ j = 5 ∨ j = 6 by omega) with rfl | rfl | rfl | rfl | rfl | rfl | rfl
    · exact hl0.r 12 0 rfl rfl
    · exact hl0.r 12 1 rfl rfl
    · exact hl0.r 12 2 rfl rfl
    · exact hl0.r 12 3 rfl rfl
    · exact hl0.r 12 4 rfl rfl
    · exact hl0.r 12 5 rfl rfl
    · exact hl0.r 12 6 rfl rfl
  refine zc_multi E hK hc hS zcl_X1_18 hk36 hk37 hr7 (by omega) (by omega) dX1_init_20 (fun H hc hS => ?_)
  refine W.widen (k := 19) (n := 509) (by omega) (by omega) ?_
  have hc : zcs X 2 a 19 _ [] H := hc
  refine zc_putF (j := 1) E hc hS (zc_G.of (C := RX1) (T := TX1) (N := 3) E hK rfl iz_X1 rfl tyX1 tyX1_ok nmX1 (by decide) rfl rfl rfl zLX1_20) hin (by decide) rfl rfl dX1_init_24 (fun H locs hc hS => ?_)
  refine lv_aload_n hx hb dX1_init_27 rfl (lv_at hl 0 rfl) ?_
  refine lv_bipush (v := 7) hx hb dX1_init_28 (by decide +kernel) ?_
  have hk : zq_k X (a + 1 + 19) = 38 := hl0.k 20 rfl rfl
  refine zc_newa (t := 1) (N := 7) (k2 := 38) (ty := .boolean) E hK hc hS rfl zca_boolean rfl (fun q => q) hk (by decide) rfl (fun j => by show Value.int 0 = Value.int (zv0 (zq_k X (a + 1 + 19)) j); rw [hk, zv0_arr (by decide)]) (by decide +kernel) (by decide +kernel) (by decide +kernel) (by omega) (by omega) dX1_init_30 (fun H hc hS => ?_)
  refine W.widen (k := 20) (n := 516) (by omega) (by omega) ?_
  have hc : zcs X 2 a 20 _ [] H := hc
  refine zc_putF (j := 2) E hc hS (zc_G.of (C := RX1) (T := TX1) (N := 3) E hK rfl iz_X1 rfl tyX1 tyX1_ok nmX1 (by decide) rfl rfl rfl zLX1_23) hin (by decide) rfl rfl dX1_init_32 (fun H locs hc hS => ?_)
  subst hQ
  have hr0 : zq_r X a 0 = (a + 1) := hl0.r 0 0 rfl rfl
  have hr1 : zq_r X a 1 = (a + 12) := hl0.r 0 1 rfl rfl
  have hr2 : zq_r X a 2 = (a + 20) := hl0.r 0 2 rfl rfl
  refine zc_ret E hr hc hS hk0 (by decide) (fun j hj => ?_) hlocks dX1_init_35
  have hj : j < 3 := hj
  rcases (show j = 0 ∨ j = 1 ∨ j = 2 by omega) with rfl | rfl | rfl
  · show Value.ref (a + 1) = Value.ref (zq_r X a 0); rw [hr0]
  · show Value.ref (a + 12) = Value.ref (zq_r X a 1); rw [hr1]
  · show Value.ref (a + 20) = Value.ref (zq_r X a 2); rw [hr2]
