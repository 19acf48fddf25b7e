set_option maxHeartbeats 8000000 in
set_option maxRecDepth 100000 in
theorem c_X5_init (l : Launch) (X : zq_X) (a : Nat) (hl0 : zLay X a 5) : zcM l X yX5_init cX5_init 1 1 5 a 0 0 := by
  refine Met.ofW (cc := cX5_init) (maxL := 1) (ret := none) (by decide) rfl ?_
  intro p e s m args below meth c s₁ B hml hv
  obtain ⟨hargs, ⟨hsz, hh0, hob, hold⟩, hK⟩ := hv
  have hown : s.vm.findClass RX5 = some m.cls := findClass_of_methodNamed B.named
  have hts := atoms_spec (ws := zt_w yX5_init cX5_init 1 none) B.pre
  have E : CallFix p m c cX5_init 1 s args (Cond.code yX5_init cX5_init 1 none :: zt) RX5 := ⟨B.exec, B.bytes, hml, hown, hts⟩
  have hx := B.exec
  have hb := B.bytes
  have hr := B.returns
  have hlocks := B.notSynchronized
  have hin : meth.name = "<init>" := (name_of_methodNamed B.named B.method).1
  clear B
  have hk0 : zq_k X a = 5 := hl0.k 0 rfl rfl
  have hc : zcs X 5 a 0 (zdV 5) [] s.heap := ⟨hsz, hob, fun q h1 h2 => absurd h2 (by omega), fun e he => absurd he List.not_mem_nil, hold, hh0⟩
  have hS : va_S (zcA a) s.heap s.heap [] := va_S.rf
  have hl := lv_entry ([.ref a]) (n := 1) (Nat.le_of_ble_eq_true rfl)
  have hg : entryFrame m args 1 = F0 m 0 ((lg_sl ([.ref a]) ++ List.replicate (1 - (lg_sl ([.ref a])).length) Slot.unset).toArray) [] := by rw [hargs]; exact lg_entry_eq m ([.ref a]) 1
  rw [hg]
  clear hg hargs
  generalize (lg_sl ([.ref a]) ++ List.replicate (1 - (lg_sl ([.ref a])).length) Slot.unset).toArray = ls at hl ⊢
  have hl : lv_has ls 1 [(0, .ref a)] := hl
  obtain ⟨R, hRm⟩ : ∃ R : Room, R = (headSpec (zt_w yX5_init cX5_init 1 none) (zc_rm 1 0 0)).room := ⟨_, rfl⟩
  rw [← hRm]
  have hRr : R.frames = 1 ∧ R.cells = 0 ∧ R.slots = 0 ∧ R.locals = 64 := by rw [hRm]; exact ⟨rfl, rfl, rfl, rfl⟩
  generalize hQ : MQ below _ args s _ _ (zcA a) = Q
  obtain ⟨H, hH⟩ : ∃ H, H = s.heap := ⟨_, rfl⟩
  obtain ⟨locs, hlo⟩ : ∃ x : List Loc, x = [] := ⟨_, rfl⟩
  rw [show W p l e R s m args below meth c s.heap [] 0 0 Q = W p l e R s m args below meth c H locs 0 0 Q by rw [hH, hlo]]
  have hc : zcs X 5 a 0 (zdV 5) [] H := by rw [hH]; exact hc
  have hS : va_S (zcA a) s.heap H locs := by rw [hH, hlo]; exact hS
  clear hH hlo
  refine lv_aload_n hx hb dX5_init_0 rfl (lv_at hl 0 rfl) ?_
  refine zc_obj E zcm_X5_3 zcx_O zcc_O hl.1 ⟨by omega, by omega⟩ dX5_init_1 ?_
  refine lv_aload_n hx hb dX5_init_4 rfl (lv_at hl 0 rfl) ?_
  refine lv_iconst (v := (-1)) hx hb dX5_init_5 (by decide +kernel) ?_
  refine zc_puti (j := 2) E hc hS (zGX5_9 E hK.1) (by decide) dX5_init_6 (fun H locs hc hS => ?_)
  subst hQ
  refine zc_ret E hr hc hS hk0 (by decide) (fun j hj => ?_) hlocks dX5_init_9
  have hj : j < 6 := hj
  rcases (show j = 0 ∨ j = 1 ∨ j = 2 ∨ j = 3 ∨ j = 4 ∨ j = 5 by omega) with rfl | rfl | rfl | rfl | rfl | rfl
  · show Value.int (0) = Value.int (zv0 (zq_k X a) 0); rw [hk0]; rfl
  · show Value.int (0) = Value.int (zv0 (zq_k X a) 1); rw [hk0]; rfl
  · show Value.int (-1) = Value.int (zv0 (zq_k X a) 2); rw [hk0]; rfl
  · show Value.int (0) = Value.int (zv0 (zq_k X a) 3); rw [hk0]; rfl
  · show Value.int (0) = Value.int (zv0 (zq_k X a) 4); rw [hk0]; rfl
  · show Value.int (0) = Value.int (zv0 (zq_k X a) 5); rw [hk0]; rfl
set_option maxHeartbeats 8000000 in
set_option maxRecDepth 100000 in
theorem c_X7_init (l : Launch) (X : zq_X) (a : Nat) (hl0 : zLay X a 7) : zcM l X yX7_init cX7_init 1 1 7 a 0 0 := by
  refine Met.ofW (cc := cX7_init) (maxL := 1) (ret := none) (by decide) rfl ?_
  intro p e s m args below meth c s₁ B hml hv
  obtain ⟨hargs, ⟨hsz, hh0, hob, hold⟩, hK⟩ := hv
  have hown : s.vm.findClass RX7 = some m.cls := findClass_of_methodNamed B.named
  have hts := atoms_spec (ws := zt_w yX7_init cX7_init 1 none) B.pre
  have E : CallFix p m c cX7_init 1 s args (Cond.code yX7_init cX7_init 1 none :: zt) RX7 := ⟨B.exec, B.bytes, hml, hown, hts⟩
  have hx := B.exec
  have hb := B.bytes
  have hr := B.returns
  have hlocks := B.notSynchronized
  have hin : meth.name = "<init>" := (name_of_methodNamed B.named B.method).1
  clear B
  have hk0 : zq_k X a = 7 := hl0.k 0 rfl rfl
  have hc : zcs X 7 a 0 (zdV 7) [] s.heap := ⟨hsz, hob, fun q h1 h2 => absurd h2 (by omega), fun e he => absurd he List.not_mem_nil, hold, hh0⟩
  have hS : va_S (zcA a) s.heap s.heap [] := va_S.rf
  have hl := lv_entry ([.ref a]) (n := 1) (Nat.le_of_ble_eq_true rfl)
  have hg : entryFrame m args 1 = F0 m 0 ((lg_sl ([.ref a]) ++ List.replicate (1 - (lg_sl ([.ref a])).length) Slot.unset).toArray) [] := by rw [hargs]; exact lg_entry_eq m ([.ref a]) 1
  rw [hg]
  clear hg hargs
  generalize (lg_sl ([.ref a]) ++ List.replicate (1 - (lg_sl ([.ref a])).length) Slot.unset).toArray = ls at hl ⊢
  have hl : lv_has ls 1 [(0, .ref a)] := hl
  obtain ⟨R, hRm⟩ : ∃ R : Room, R = (headSpec (zt_w yX7_init cX7_init 1 none) (zc_rm 1 0 0)).room := ⟨_, rfl⟩
  rw [← hRm]
  have hRr : R.frames = 1 ∧ R.cells = 0 ∧ R.slots = 0 ∧ R.locals = 64 := by rw [hRm]; exact ⟨rfl, rfl, rfl, rfl⟩
  generalize hQ : MQ below _ args s _ _ (zcA a) = Q
  obtain ⟨H, hH⟩ : ∃ H, H = s.heap := ⟨_, rfl⟩
  obtain ⟨locs, hlo⟩ : ∃ x : List Loc, x = [] := ⟨_, rfl⟩
  rw [show W p l e R s m args below meth c s.heap [] 0 0 Q = W p l e R s m args below meth c H locs 0 0 Q by rw [hH, hlo]]
  have hc : zcs X 7 a 0 (zdV 7) [] H := by rw [hH]; exact hc
  have hS : va_S (zcA a) s.heap H locs := by rw [hH, hlo]; exact hS
  clear hH hlo
  refine lv_aload_n hx hb dX7_init_0 rfl (lv_at hl 0 rfl) ?_
  refine zc_obj E zcm_X7_3 zcx_O zcc_O hl.1 ⟨by omega, by omega⟩ dX7_init_1 ?_
  subst hQ
  refine zc_ret E hr hc hS hk0 (by decide) (fun j hj => ?_) hlocks dX7_init_4
  have hj : j < 7 := hj
  rcases (show j = 0 ∨ j = 1 ∨ j = 2 ∨ j = 3 ∨ j = 4 ∨ j = 5 ∨ j = 6 by omega) with rfl | rfl | rfl | rfl | rfl | rfl | rfl
  · show Value.int (0) = Value.int (zv0 (zq_k X a) 0); rw [hk0]; rfl
  · show Value.int (0) = Value.int (zv0 (zq_k X a) 1); rw [hk0]; rfl
  · show Value.int (0) = Value.int (zv0 (zq_k X a) 2); rw [hk0]; rfl
  · show Value.int (0) = Value.int (zv0 (zq_k X a) 3); rw [hk0]; rfl
  · show Value.int (0) = Value.int (zv0 (zq_k X a) 4); rw [hk0]; rfl
  · show Value.int (0) = Value.int (zv0 (zq_k X a) 5); rw [hk0]; rfl
  · show Value.int (0) = Value.int (zv0 (zq_k X a) 6); rw [hk0]; rfl
set_option maxHeartbeats 8000000 in
set_option maxRecDepth 100000 in
theorem c_X10_init (l : Launch) (X : zq_X) (a : Nat) (hl0 : zLay X a 8) : zcM l X yX10_init cX10_init 2 2 8 a 10 65 := by
  refine Met.ofW (cc := cX10_init) (maxL := 2) (ret := none) (by decide) rfl ?_
  intro p e s m args below meth c s₁ B hml hv
  obtain ⟨hargs, ⟨hsz, hh0, hob, hold⟩, hK⟩ := hv
  have hown : s.vm.findClass RX10 = some m.cls := findClass_of_methodNamed B.named
  have hts := atoms_spec (ws := zt_w yX10_init cX10_init 2 none) B.pre
  have E : CallFix p m c cX10_init 2 s args (Cond.code yX10_init cX10_init 2 none :: zt) RX10 := ⟨B.exec, B.bytes, hml, hown, hts⟩
  have hx := B.exec
  have hb := B.bytes
  have hr := B.returns
  have hlocks := B.notSynchronized
  have hin : meth.name = "<init>" := (name_of_methodNamed B.named B.method).1
  clear B
  have hk0 : zq_k X a = 8 := hl0.k 0 rfl rfl
  have hc : zcs X 8 a 0 (zdV 8) [] s.heap := ⟨hsz, hob, fun q h1 h2 => absurd h2 (by omega), fun e he => absurd he List.not_mem_nil, hold, hh0⟩
  have hS : va_S (zcA a) s.heap s.heap [] := va_S.rf
  have hl := lv_entry ([.ref a]) (n := 2) (Nat.le_of_ble_eq_true rfl)
  have hg : entryFrame m args 2 = F0 m 0 ((lg_sl ([.ref a]) ++ List.replicate (2 - (lg_sl ([.ref a])).length) Slot.unset).toArray) [] := by rw [hargs]; exact lg_entry_eq m ([.ref a]) 2
  rw [hg]
  clear hg hargs
  generalize (lg_sl ([.ref a]) ++ List.replicate (2 - (lg_sl ([.ref a])).length) Slot.unset).toArray = ls at hl ⊢
  have hl : lv_has ls 2 [(0, .ref a)] := hl
  obtain ⟨R, hRm⟩ : ∃ R : Room, R = (headSpec (zt_w yX10_init cX10_init 2 none) (zc_rm 2 10 65)).room := ⟨_, rfl⟩
  rw [← hRm]
  have hRr : R.frames = 2 ∧ R.cells = 10 ∧ R.slots = 65 ∧ R.locals = 128 := by rw [hRm]; exact ⟨rfl, rfl, rfl, rfl⟩
  generalize hQ : MQ below _ args s _ _ (zcA a) = Q
  obtain ⟨H, hH⟩ : ∃ H, H = s.heap := ⟨_, rfl⟩
  obtain ⟨locs, hlo⟩ : ∃ x : List Loc, x = [] := ⟨_, rfl⟩
  rw [show W p l e R s m args below meth c s.heap [] 0 0 Q = W p l e R s m args below meth c H locs 0 0 Q by rw [hH, hlo]]
  have hc : zcs X 8 a 0 (zdV 8) [] H := by rw [hH]; exact hc
  have hS : va_S (zcA a) s.heap H locs := by rw [hH, hlo]; exact hS
  clear hH hlo
  refine lv_aload_n hx hb dX10_init_0 rfl (lv_at hl 0 rfl) ?_
  refine zc_obj E zcm_X10_3 zcx_O zcc_O hl.1 ⟨by omega, by omega⟩ dX10_init_1 ?_
  refine lv_aload_n hx hb dX10_init_4 rfl (lv_at hl 0 rfl) ?_
  refine lv_bipush (v := 12) hx hb dX10_init_5 (by decide +kernel) ?_
  have hk : zq_k X (a + 1 + 0) = 30 := hl0.k 1 rfl rfl
  refine zc_newa (t := 0) (N := 12) (k2 := 30) (ty := .int) E hK hc hS rfl zca_int rfl (fun q => q) hk (by decide) rfl (fun j => by show Value.int 0 = Value.int (zv0 (zq_k X (a + 1 + 0)) j); rw [hk, zv0_arr (by decide)]) (by decide +kernel) (by decide +kernel) (by decide +kernel) (by omega) (by omega) dX10_init_7 (fun H hc hS => ?_)
  refine W.widen (k := 1) (n := 12) (by omega) (by omega) ?_
  have hc : zcs X 8 a 1 _ [] H := hc
  refine zc_putF (j := 7) E hc hS (zc_G.of (C := RX10) (T := TX10) (N := 10) E hK rfl iz_X10 rfl tyX10 tyX10_ok nmX10 (by decide) rfl rfl rfl zLX10_11) hin (by decide) rfl rfl dX10_init_9 (fun H locs hc hS => ?_)
  refine lv_aload_n hx hb dX10_init_12 rfl (lv_at hl 0 rfl) ?_
  refine lv_iconst (v := 3) hx hb dX10_init_13 (by decide +kernel) ?_
  refine zc_anew (t := 7) (N := 3) (C := RX5) E hK hc hS zcl_X10_15 (hK.2.2.2.2.1) rfl (by decide +kernel) (by decide +kernel) (by decide +kernel) (by omega) (by omega) dX10_init_14 (fun H hc hS => ?_)
  refine W.widen (k := 2) (n := 15) (by omega) (by omega) ?_
  have hc : zcs X 8 a 2 _ _ H := hc
  refine zc_putF (j := 8) E hc hS (zc_G.of (C := RX10) (T := TX10) (N := 10) E hK rfl iz_X10 rfl tyX10 tyX10_ok nmX10 (by decide) rfl rfl rfl zLX10_17) hin (by decide) rfl rfl dX10_init_17 (fun H locs hc hS => ?_)
  refine lv_aload_n hx hb dX10_init_20 rfl (lv_at hl 0 rfl) ?_
  refine lv_iconst (v := 4) hx hb dX10_init_21 (by decide +kernel) ?_
  refine zc_anew (t := 8) (N := 4) (C := RX7) E hK hc hS zcl_X10_21 (hK.2.2.2.2.2.1) rfl (by decide +kernel) (by decide +kernel) (by decide +kernel) (by omega) (by omega) dX10_init_22 (fun H hc hS => ?_)
  refine W.widen (k := 3) (n := 19) (by omega) (by omega) ?_
  have hc : zcs X 8 a 3 _ _ H := hc
  refine zc_putF (j := 9) E hc hS (zc_G.of (C := RX10) (T := TX10) (N := 10) E hK rfl iz_X10 rfl tyX10 tyX10_ok nmX10 (by decide) rfl rfl rfl zLX10_23) hin (by decide) rfl rfl dX10_init_25 (fun H locs hc hS => ?_)
  refine lv_iconst (v := 0) hx hb dX10_init_28 (by decide +kernel) ?_
  refine lv_istore_n (lv' := [(1, .int (0 : Int32)), (0, .ref a)]) hx hb dX10_init_29 rfl hl (by decide) rfl (fun ls hl => ?_)
  refine lv_iload_n hx hb dX10_init_30 rfl (lv_at hl 0 rfl) ?_
  refine lv_iconst (v := 3) hx hb dX10_init_31 (by decide +kernel) ?_
  refine lv_icmp_ge (tgt := 54) hx hb dX10_init_32 (by decide) (fun b => absurd b (by decide +kernel)) (fun b => ?_)
  refine lv_aload_n hx hb dX10_init_35 rfl (lv_at hl 1 rfl) ?_
  refine zc_get (j := 8) (v := .ref (a + 2)) E hc (zFX10_17 E hK.1) (by decide) rfl dX10_init_36 ?_
  refine lv_iload_n hx hb dX10_init_39 rfl (lv_at hl 0 rfl) ?_
  refine zc_make (k2 := 5) (N2 := 6) (c2 := 0) (n2 := 0) (d := 1) (maxL := 1) E hK hc hS (c_X5_init l X (a + 1 + 3) (hl0.sub 4 5 (by decide +kernel))) rfl rfl iz_X5 tyX5 tyX5_ok zdv_X5 zcl_X10_15 zci_X5 zcn_X5 zcm_X10_27 zcx_X5 zcc_X5 ⟨rfl, rfl⟩ (by decide +kernel) ⟨⟨by omega, by omega⟩, by omega, by omega⟩ hl.1 (Nat.le_of_ble_eq_true rfl) dX10_init_40 dX10_init_43 dX10_init_44 (fun H locs hc hS => ?_)
  refine W.widen (k := 4) (n := 25) (by omega) (by omega) ?_
  have hc : zcs X 8 a 4 _ _ H := hc
  have hc := zcs.swap hc
  have hk : zq_k X (a + 4) = 5 := hl0.k 4 rfl rfl
  refine zc_aast' (b := (a + 2)) (x' := 0) (k3 := 5) E hK hc hS (fun e he => by rw [List.mem_singleton.mp he]; show (a + 3) ≠ (a + 2); omega) rfl rfl hk (by decide) ⟨by omega, by omega, by omega⟩ (fun e he => by rw [List.mem_singleton.mp he]; show (a + 3) ≠ (a + 4); omega) (by decide +kernel) (by decide +kernel) dX10_init_47 (fun H locs hc hS => ?_)
  refine lv_iinc (v := (1 : Int32)) (lv' := [(1, .int (1 : Int32)), (0, .ref a)]) hx hb dX10_init_48 hl (k := 0) rfl (by decide +kernel) (by decide) rfl (fun ls hl => ?_)
  refine lv_goto (tgt := 30) hx hb dX10_init_51 (by decide) ?_
  refine lv_iload_n hx hb dX10_init_30 rfl (lv_at hl 0 rfl) ?_
  refine lv_iconst (v := 3) hx hb dX10_init_31 (by decide +kernel) ?_
  refine lv_icmp_ge (tgt := 54) hx hb dX10_init_32 (by decide) (fun b => absurd b (by decide +kernel)) (fun b => ?_)
  refine lv_aload_n hx hb dX10_init_35 rfl (lv_at hl 1 rfl) ?_
  refine zc_get (j := 8) (v := .ref (a + 2)) E hc (zFX10_17 E hK.1) (by decide) rfl dX10_init_36 ?_
  refine lv_iload_n hx hb dX10_init_39 rfl (lv_at hl 0 rfl) ?_
  refine zc_make (k2 := 5) (N2 := 6) (c2 := 0) (n2 := 0) (d := 1) (maxL := 1) E hK hc hS (c_X5_init l X (a + 1 + 4) (hl0.sub 5 5 (by decide +kernel))) rfl rfl iz_X5 tyX5 tyX5_ok zdv_X5 zcl_X10_15 zci_X5 zcn_X5 zcm_X10_27 zcx_X5 zcc_X5 ⟨rfl, rfl⟩ (by decide +kernel) ⟨⟨by omega, by omega⟩, by omega, by omega⟩ hl.1 (Nat.le_of_ble_eq_true rfl) dX10_init_40 dX10_init_43 dX10_init_44 (fun H locs hc hS => ?_)
  refine W.widen (k := 5) (n := 31) (by omega) (by omega) ?_
  have hc : zcs X 8 a 5 _ _ H := hc
  have hk : zq_k X (a + 5) = 5 := hl0.k 5 rfl rfl
  refine zc_aast' (b := (a + 2)) (x' := 1) (k3 := 5) E hK hc hS (fun e he => by rw [List.mem_singleton.mp he]; show (a + 3) ≠ (a + 2); omega) rfl rfl hk (by decide) ⟨by omega, by omega, by omega⟩ (fun e he => by rw [List.mem_singleton.mp he]; show (a + 3) ≠ (a + 5); omega) (by decide +kernel) (by decide +kernel) dX10_init_47 (fun H locs hc hS => ?_)
  refine lv_iinc (v := (2 : Int32)) (lv' := [(1, .int (2 : Int32)), (0, .ref a)]) hx hb dX10_init_48 hl (k := 0) rfl (by decide +kernel) (by decide) rfl (fun ls hl => ?_)
  refine lv_goto (tgt := 30) hx hb dX10_init_51 (by decide) ?_
  refine lv_iload_n hx hb dX10_init_30 rfl (lv_at hl 0 rfl) ?_
  refine lv_iconst (v := 3) hx hb dX10_init_31 (by decide +kernel) ?_
  refine lv_icmp_ge (tgt := 54) hx hb dX10_init_32 (by decide) (fun b => absurd b (by decide +kernel)) (fun b => ?_)
  refine lv_aload_n hx hb dX10_init_35 rfl (lv_at hl 1 rfl) ?_
  refine zc_get (j := 8) (v := .ref (a + 2)) E hc (zFX10_17 E hK.1) (by decide) rfl dX10_init_36 ?_
  refine lv_iload_n hx hb dX10_init_39 rfl (lv_at hl 0 rfl) ?_
  refine zc_make (k2 := 5) (N2 := 6) (c2 := 0) (n2 := 0) (d := 1) (maxL := 1) E hK hc hS (c_X5_init l X (a + 1 + 5) (hl0.sub 6 5 (by decide +kernel))) rfl rfl iz_X5 tyX5 tyX5_ok zdv_X5 zcl_X10_15 zci_X5 zcn_X5 zcm_X10_27 zcx_X5 zcc_X5 ⟨rfl, rfl⟩ (by decide +kernel) ⟨⟨by omega, by omega⟩, by omega, by omega⟩ hl.1 (Nat.le_of_ble_eq_true rfl) dX10_init_40 dX10_init_43 dX10_init_44 (fun H locs hc hS => ?_)
  refine W.widen (k := 6) (n := 37) (by omega) (by omega) ?_
  have hc : zcs X 8 a 6 _ _ H := hc
  have hk : zq_k X (a + 6) = 5 := hl0.k 6 rfl rfl
  refine zc_aast' (b := (a + 2)) (x' := 2) (k3 := 5) E hK hc hS (fun e he => by rw [List.mem_singleton.mp he]; show (a + 3) ≠ (a + 2); omega) rfl rfl hk (by decide) ⟨by omega, by omega, by omega⟩ (fun e he => by rw [List.mem_singleton.mp he]; show (a + 3) ≠ (a + 6); omega) (by decide +kernel) (by decide +kernel) dX10_init_47 (fun H locs hc hS => ?_)
  refine lv_iinc (v := (3 : Int32)) (lv' := [(1, .int (3 : Int32)), (0, .ref a)]) hx hb dX10_init_48 hl (k := 0) rfl (by decide +kernel) (by decide) rfl (fun ls hl => ?_)
  refine lv_goto (tgt := 30) hx hb dX10_init_51 (by decide) ?_
  refine lv_iload_n hx hb dX10_init_30 rfl (lv_at hl 0 rfl) ?_
  refine lv_iconst (v := 3) hx hb dX10_init_31 (by decide +kernel) ?_
  refine lv_icmp_ge (tgt := 54) hx hb dX10_init_32 (by decide) (fun b => ?_) (fun b => absurd (by decide +kernel) b)
  have hkb : zq_k X (a + 2) = 31 := hl0.k 2 rfl rfl
  have hr0 : zq_r X (a + 2) 0 = (a + 4) := hl0.r 2 0 rfl rfl
  have hr1 : zq_r X (a + 2) 1 = (a + 5) := hl0.r 2 1 rfl rfl
  have hr2 : zq_r X (a + 2) 2 = (a + 6) := hl0.r 2 2 rfl rfl
  have hc := hc.close hkb (by decide) rfl (fun j hj => by
    rcases (show j = 0 ∨ j = 1 ∨ j = 2 by omega) with rfl | rfl | rfl
    · show Value.ref (a + 4) = Value.ref (zq_r X (a + 2) 0); rw [hr0]
    · show Value.ref (a + 5) = Value.ref (zq_r X (a + 2) 1); rw [hr1]
    · show Value.ref (a + 6) = Value.ref (zq_r X (a + 2) 2); rw [hr2])
  clear hr0 hr1 hr2
  refine lv_iconst (v := 0) hx hb dX10_init_54 (by decide +kernel) ?_
  refine lv_istore_n (lv' := [(1, .int (0 : Int32)), (0, .ref a)]) hx hb dX10_init_55 rfl hl (by decide) rfl (fun ls hl => ?_)
  refine lv_iload_n hx hb dX10_init_56 rfl (lv_at hl 0 rfl) ?_
  refine lv_iconst (v := 4) hx hb dX10_init_57 (by decide +kernel) ?_
  refine lv_icmp_ge (tgt := 80) hx hb dX10_init_58 (by decide) (fun b => absurd b (by decide +kernel)) (fun b => ?_)
  refine lv_aload_n hx hb dX10_init_61 rfl (lv_at hl 1 rfl) ?_
  refine zc_get (j := 9) (v := .ref (a + 3)) E hc (zFX10_23 E hK.1) (by decide) rfl dX10_init_62 ?_
  refine lv_iload_n hx hb dX10_init_65 rfl (lv_at hl 0 rfl) ?_
  refine zc_make (k2 := 7) (N2 := 7) (c2 := 0) (n2 := 0) (d := 1) (maxL := 1) E hK hc hS (c_X7_init l X (a + 1 + 6) (hl0.sub 7 7 (by decide +kernel))) rfl rfl iz_X7 tyX7 tyX7_ok zdv_X7 zcl_X10_21 zci_X7 zcn_X7 zcm_X10_28 zcx_X7 zcc_X7 ⟨rfl, rfl⟩ (by decide +kernel) ⟨⟨by omega, by omega⟩, by omega, by omega⟩ hl.1 (Nat.le_of_ble_eq_true rfl) dX10_init_66 dX10_init_69 dX10_init_70 (fun H locs hc hS => ?_)
  refine W.widen (k := 7) (n := 44) (by omega) (by omega) ?_
  have hc : zcs X 8 a 7 _ _ H := hc
  have hk : zq_k X (a + 7) = 7 := hl0.k 7 rfl rfl
  refine zc_aast' (b := (a + 3)) (x' := 0) (k3 := 7) E hK hc hS (fun e he => absurd he List.not_mem_nil) rfl rfl hk (by decide) ⟨by omega, by omega, by omega⟩ (fun e he => absurd he List.not_mem_nil) (by decide +kernel) (by decide +kernel) dX10_init_73 (fun H locs hc hS => ?_)
  refine lv_iinc (v := (1 : Int32)) (lv' := [(1, .int (1 : Int32)), (0, .ref a)]) hx hb dX10_init_74 hl (k := 0) rfl (by decide +kernel) (by decide) rfl (fun ls hl => ?_)
  refine lv_goto (tgt := 56) hx hb dX10_init_77 (by decide) ?_
  refine lv_iload_n hx hb dX10_init_56 rfl (lv_at hl 0 rfl) ?_
  refine lv_iconst (v := 4) hx hb dX10_init_57 (by decide +kernel) ?_
  refine lv_icmp_ge (tgt := 80) hx hb dX10_init_58 (by decide) (fun b => absurd b (by decide +kernel)) (fun b => ?_)
  refine lv_aload_n hx hb dX10_init_61 rfl (lv_at hl 1 rfl) ?_
  refine zc_get (j := 9) (v := .ref (a + 3)) E hc (zFX10_23 E hK.1) (by decide) rfl dX10_init_62 ?_
  refine lv_iload_n hx hb dX10_init_65 rfl (lv_at hl 0 rfl) ?_
  refine zc_make (k2 := 7) (N2 := 7) (c2 := 0) (n2 := 0) (d := 1) (maxL := 1) E hK hc hS (c_X7_init l X (a + 1 + 7) (hl0.sub 8 7 (by decide +kernel))) rfl rfl iz_X7 tyX7 tyX7_ok zdv_X7 zcl_X10_21 zci_X7 zcn_X7 zcm_X10_28 zcx_X7 zcc_X7 ⟨rfl, rfl⟩ (by decide +kernel) ⟨⟨by omega, by omega⟩, by omega, by omega⟩ hl.1 (Nat.le_of_ble_eq_true rfl) dX10_init_66 dX10_init_69 dX10_init_70 (fun H locs hc hS => ?_)
  refine W.widen (k := 8) (n := 51) (by omega) (by omega) ?_
  have hc : zcs X 8 a 8 _ _ H := hc
  have hk : zq_k X (a + 8) = 7 := hl0.k 8 rfl rfl
  refine zc_aast' (b := (a + 3)) (x' := 1) (k3 := 7) E hK hc hS (fun e he => absurd he List.not_mem_nil) rfl rfl hk (by decide) ⟨by omega, by omega, by omega⟩ (fun e he => absurd he List.not_mem_nil) (by decide +kernel) (by decide +kernel) dX10_init_73 (fun H locs hc hS => ?_)
  refine lv_iinc (v := (2 : Int32)) (lv' := [(1, .int (2 : Int32)), (0, .ref a)]) hx hb dX10_init_74 hl (k := 0) rfl (by decide +kernel) (by decide) rfl (fun ls hl => ?_)
  refine lv_goto (tgt := 56) hx hb dX10_init_77 (by decide) ?_
  refine lv_iload_n hx hb dX10_init_56 rfl (lv_at hl 0 rfl) ?_
  refine lv_iconst (v := 4) hx hb dX10_init_57 (by decide +kernel) ?_
  refine lv_icmp_ge (tgt := 80) hx hb dX10_init_58 (by decide) (fun b => absurd b (by decide +kernel)) (fun b => ?_)
  refine lv_aload_n hx hb dX10_init_61 rfl (lv_at hl 1 rfl) ?_
  refine zc_get (j := 9) (v := .ref (a + 3)) E hc (zFX10_23 E hK.1) (by decide) rfl dX10_init_62 ?_
  refine lv_iload_n hx hb dX10_init_65 rfl (lv_at hl 0 rfl) ?_
  refine zc_make (k2 := 7) (N2 := 7) (c2 := 0) (n2 := 0) (d := 1) (maxL := 1) E hK hc hS (c_X7_init l X (a + 1 + 8) (hl0.sub 9 7 (by decide +kernel))) rfl rfl iz_X7 tyX7 tyX7_ok zdv_X7 zcl_X10_21 zci_X7 zcn_X7 zcm_X10_28 zcx_X7 zcc_X7 ⟨rfl, rfl⟩ (by decide +kernel) ⟨⟨by omega, by omega⟩, by omega, by omega⟩ hl.1 (Nat.le_of_ble_eq_true rfl) dX10_init_66 dX10_init_69 dX10_init_70 (fun H locs hc hS => ?_)
  refine W.widen (k := 9) (n := 58) (by omega) (by omega) ?_
  have hc : zcs X 8 a 9 _ _ H := hc
  have hk : zq_k X (a + 9) = 7 := hl0.k 9 rfl rfl
  refine zc_aast' (b := (a + 3)) (x' := 2) (k3 := 7) E hK hc hS (fun e he => absurd he List.not_mem_nil) rfl rfl hk (by decide) ⟨by omega, by omega, by omega⟩ (fun e he => absurd he List.not_mem_nil) (by decide +kernel) (by decide +kernel) dX10_init_73 (fun H locs hc hS => ?_)
  refine lv_iinc (v := (3 : Int32)) (lv' := [(1, .int (3 : Int32)), (0, .ref a)]) hx hb dX10_init_74 hl (k := 0) rfl (by decide +kernel) (by decide) rfl (fun ls hl => ?_)
  refine lv_goto (tgt := 56) hx hb dX10_init_77 (by decide) ?_
  refine lv_iload_n hx hb dX10_init_56 rfl (lv_at hl 0 rfl) ?_
  refine lv_iconst (v := 4) hx hb dX10_init_57 (by decide +kernel) ?_
  refine lv_icmp_ge (tgt := 80) hx hb dX10_init_58 (by decide) (fun b => absurd b (by decide +kernel)) (fun b => ?_)
  refine lv_aload_n hx hb dX10_init_61 rfl (lv_at hl 1 rfl) ?_
  refine zc_get (j := 9) (v := .ref (a + 3)) E hc (zFX10_23 E hK.1) (by decide) rfl dX10_init_62 ?_
  refine lv_iload_n hx hb dX10_init_65 rfl (lv_at hl 0 rfl) ?_
  refine zc_make (k2 := 7) (N2 := 7) (c2 := 0) (n2 := 0) (d := 1) (maxL := 1) E hK hc hS (c_X7_init l X (a + 1 + 9) (hl0.sub 10 7 (by decide +kernel))) rfl rfl iz_X7 tyX7 tyX7_ok zdv_X7 zcl_X10_21 zci_X7 zcn_X7 zcm_X10_28 zcx_X7 zcc_X7 ⟨rfl, rfl⟩ (by decide +kernel) ⟨⟨by omega, by omega⟩, by omega, by omega⟩ hl.1 (Nat.le_of_ble_eq_true rfl) dX10_init_66 dX10_init_69 dX10_init_70 (fun H locs hc hS => ?_)
  refine W.widen (k := 10) (n := 65) (by omega) (by omega) ?_
  have hc : zcs X 8 a 10 _ _ H := hc
  have hk : zq_k X (a + 10) = 7 := hl0.k 10 rfl rfl
  refine zc_aast' (b := (a + 3)) (x' := 3) (k3 := 7) E hK hc hS (fun e he => absurd he List.not_mem_nil) rfl rfl hk (by decide) ⟨by omega, by omega, by omega⟩ (fun e he => absurd he List.not_mem_nil) (by decide +kernel) (by decide +kernel) dX10_init_73 (fun H locs hc hS => ?_)
  refine lv_iinc (v := (4 : Int32)) (lv' := [(1, .int (4 : Int32)), (0, .ref a)]) hx hb dX10_init_74 hl (k := 0) rfl (by decide +kernel) (by decide) rfl (fun ls hl => ?_)
  refine lv_goto (tgt := 56) hx hb dX10_init_77 (by decide) ?_
  refine lv_iload_n hx hb dX10_init_56 rfl (lv_at hl 0 rfl) ?_
  refine lv_iconst (v := 4) hx hb dX10_init_57 (by decide +kernel) ?_
  refine lv_icmp_ge (tgt := 80) hx hb dX10_init_58 (by decide) (fun b => ?_) (fun b => absurd (by decide +kernel) b)
  have hkb : zq_k X (a + 3) = 32 := hl0.k 3 rfl rfl
  have hr0 : zq_r X (a + 3) 0 = (a + 7) := hl0.r 3 0 rfl rfl
  have hr1 : zq_r X (a + 3) 1 = (a + 8) := hl0.r 3 1 rfl rfl
  have hr2 : zq_r X (a + 3) 2 = (a + 9) := hl0.r 3 2 rfl rfl
  have hr3 : zq_r X (a + 3) 3 = (a + 10) := hl0.r 3 3 rfl rfl
  have hc := hc.close hkb (by decide) rfl (fun j hj => by
    rcases (show j = 0 ∨ j = 1 ∨ j = 2 ∨ j = 3 by omega) with rfl | rfl | rfl | rfl
    · show Value.ref (a + 7) = Value.ref (zq_r X (a + 3) 0); rw [hr0]
    · show Value.ref (a + 8) = Value.ref (zq_r X (a + 3) 1); rw [hr1]
    · show Value.ref (a + 9) = Value.ref (zq_r X (a + 3) 2); rw [hr2]
    · show Value.ref (a + 10) = Value.ref (zq_r X (a + 3) 3); rw [hr3])
  clear hr0 hr1 hr2 hr3
  subst hQ
  have hr7 : zq_r X a 7 = (a + 1) := hl0.r 0 7 rfl rfl
  have hr8 : zq_r X a 8 = (a + 2) := hl0.r 0 8 rfl rfl
  have hr9 : zq_r X a 9 = (a + 3) := hl0.r 0 9 rfl rfl
  refine zc_ret E hr hc hS hk0 (by decide) (fun j hj => ?_) hlocks dX10_init_80
  have hj : j < 10 := hj
  rcases (show j = 0 ∨ j = 1 ∨ j = 2 ∨ j = 3 ∨ j = 4 ∨ j = 5 ∨ j = 6 ∨ j = 7 ∨ j = 8 ∨ j = 9 by omega) with rfl | rfl | rfl | rfl | rfl | rfl | rfl | rfl | rfl | rfl
  · show Value.int (0) = Value.int (zv0 (zq_k X a) 0); rw [hk0]; rfl
  · show Value.int (0) = Value.int (zv0 (zq_k X a) 1); rw [hk0]; rfl
  · show Value.int (0) = Value.int (zv0 (zq_k X a) 2); rw [hk0]; rfl
  · show Value.int (0) = Value.int (zv0 (zq_k X a) 3); rw [hk0]; rfl
  · show Value.int (0) = Value.int (zv0 (zq_k X a) 4); rw [hk0]; rfl
  · show Value.int (0) = Value.int (zv0 (zq_k X a) 5); rw [hk0]; rfl
  · show Value.int (0) = Value.int (zv0 (zq_k X a) 6); rw [hk0]; rfl
  · show Value.ref (a + 1) = Value.ref (zq_r X a 7); rw [hr7]
  · show Value.ref (a + 2) = Value.ref (zq_r X a 8); rw [hr8]
  · show Value.ref (a + 3) = Value.ref (zq_r X a 9); rw [hr9]
set_option maxHeartbeats 8000000 in
set_option maxRecDepth 100000 in
theorem c_X3_init (l : Launch) (X : zq_X) (a : Nat) (hl0 : zLay X a 4) : zcM l X yX3_init cX3_init 1 1 4 a 12 821 := by
  refine Met.ofW (cc := cX3_init) (maxL := 1) (ret := none) (by decide) rfl ?_
  intro p e s m args below meth c s₁ B hml hv
  obtain ⟨hargs, ⟨hsz, hh0, hob, hold⟩, hK⟩ := hv
  have hown : s.vm.findClass RX3 = some m.cls := findClass_of_methodNamed B.named
  have hts := atoms_spec (ws := zt_w yX3_init cX3_init 1 none) B.pre
  have E : CallFix p m c cX3_init 1 s args (Cond.code yX3_init cX3_init 1 none :: zt) RX3 := ⟨B.exec, B.bytes, hml, hown, hts⟩
  have hx := B.exec
  have hb := B.bytes
  have hr := B.returns
  have hlocks := B.notSynchronized
  have hin : meth.name = "<init>" := (name_of_methodNamed B.named B.method).1
  clear B
  have hk0 : zq_k X a = 4 := hl0.k 0 rfl rfl
  have hc : zcs X 4 a 0 (zdV 4) [] s.heap := ⟨hsz, hob, fun q h1 h2 => absurd h2 (by omega), fun e he => absurd he List.not_mem_nil, hold, hh0⟩
  have hS : va_S (zcA a) s.heap s.heap [] := va_S.rf
  have hl := lv_entry ([.ref a]) (n := 1) (Nat.le_of_ble_eq_true rfl)
  have hg : entryFrame m args 1 = F0 m 0 ((lg_sl ([.ref a]) ++ List.replicate (1 - (lg_sl ([.ref a])).length) Slot.unset).toArray) [] := by rw [hargs]; exact lg_entry_eq m ([.ref a]) 1
  rw [hg]
  clear hg hargs
  generalize (lg_sl ([.ref a]) ++ List.replicate (1 - (lg_sl ([.ref a])).length) Slot.unset).toArray = ls at hl ⊢
  have hl : lv_has ls 1 [(0, .ref a)] := hl
  obtain ⟨R, hRm⟩ : ∃ R : Room, R = (headSpec (zt_w yX3_init cX3_init 1 none) (zc_rm 1 12 821)).room := ⟨_, rfl⟩
  rw [← hRm]
  have hRr : R.frames = 1 ∧ R.cells = 12 ∧ R.slots = 821 ∧ R.locals = 64 := by rw [hRm]; exact ⟨rfl, rfl, rfl, rfl⟩
  generalize hQ : MQ below _ args s _ _ (zcA a) = Q
  obtain ⟨H, hH⟩ : ∃ H, H = s.heap := ⟨_, rfl⟩
  obtain ⟨locs, hlo⟩ : ∃ x : List Loc, x = [] := ⟨_, rfl⟩
  rw [show W p l e R s m args below meth c s.heap [] 0 0 Q = W p l e R s m args below meth c H locs 0 0 Q by rw [hH, hlo]]
  have hc : zcs X 4 a 0 (zdV 4) [] H := by rw [hH]; exact hc
  have hS : va_S (zcA a) s.heap H locs := by rw [hH, hlo]; exact hS
  clear hH hlo
  refine lv_aload_n hx hb dX3_init_0 rfl (lv_at hl 0 rfl) ?_
  refine zc_obj E zcm_X3_3 zcx_O zcc_O hl.1 ⟨by omega, by omega⟩ dX3_init_1 ?_
  refine lv_aload_n hx hb dX3_init_4 rfl (lv_at hl 0 rfl) ?_
  refine lv_bipush (v := 13) hx hb dX3_init_5 (by decide +kernel) ?_
  have hk : zq_k X (a + 1 + 0) = 24 := hl0.k 1 rfl rfl
  refine zc_newa (t := 3) (N := 13) (k2 := 24) (ty := .long) E hK hc hS rfl zca_long rfl (fun q => q) hk (by decide) rfl (fun j => ⟨0, rfl⟩) (by decide +kernel) (by decide +kernel) (by decide +kernel) (by omega) (by omega) dX3_init_7 (fun H hc hS => ?_)
  refine W.widen (k := 1) (n := 13) (by omega) (by omega) ?_
  have hc : zcs X 4 a 1 _ [] H := hc
  refine zc_putF (j := 0) E hc hS (zc_G.of (C := RX3) (T := TX3) (N := 16) E hK rfl iz_X3 rfl tyX3 tyX3_ok nmX3 (by decide) rfl rfl rfl zLX3_11) hin (by decide) rfl rfl dX3_init_9 (fun H locs hc hS => ?_)
  refine lv_aload_n hx hb dX3_init_12 rfl (lv_at hl 0 rfl) ?_
  refine lv_bipush (v := 60) hx hb dX3_init_13 (by decide +kernel) ?_
  have hk : zq_k X (a + 1 + 1) = 25 := hl0.k 2 rfl rfl
  refine zc_newa (t := 0) (N := 60) (k2 := 25) (ty := .int) E hK hc hS rfl zca_int rfl (fun q => q) hk (by decide) rfl (fun j => by show Value.int 0 = Value.int (zv0 (zq_k X (a + 1 + 1)) j); rw [hk, zv0_arr (by decide)]) (by decide +kernel) (by decide +kernel) (by decide +kernel) (by omega) (by omega) dX3_init_15 (fun H hc hS => ?_)
  refine W.widen (k := 2) (n := 73) (by omega) (by omega) ?_
  have hc : zcs X 4 a 2 _ [] H := hc
  refine zc_putF (j := 1) E hc hS (zc_G.of (C := RX3) (T := TX3) (N := 16) E hK rfl iz_X3 rfl tyX3 tyX3_ok nmX3 (by decide) rfl rfl rfl zLX3_15) hin (by decide) rfl rfl dX3_init_17 (fun H locs hc hS => ?_)
  refine lv_aload_n hx hb dX3_init_20 rfl (lv_at hl 0 rfl) ?_
  refine lv_bipush (v := 60) hx hb dX3_init_21 (by decide +kernel) ?_
  have hk : zq_k X (a + 1 + 2) = 25 := hl0.k 3 rfl rfl
  refine zc_newa (t := 0) (N := 60) (k2 := 25) (ty := .int) E hK hc hS rfl zca_int rfl (fun q => q) hk (by decide) rfl (fun j => by show Value.int 0 = Value.int (zv0 (zq_k X (a + 1 + 2)) j); rw [hk, zv0_arr (by decide)]) (by decide +kernel) (by decide +kernel) (by decide +kernel) (by omega) (by omega) dX3_init_23 (fun H hc hS => ?_)
  refine W.widen (k := 3) (n := 133) (by omega) (by omega) ?_
  have hc : zcs X 4 a 3 _ [] H := hc
  refine zc_putF (j := 2) E hc hS (zc_G.of (C := RX3) (T := TX3) (N := 16) E hK rfl iz_X3 rfl tyX3 tyX3_ok nmX3 (by decide) rfl rfl rfl zLX3_19) hin (by decide) rfl rfl dX3_init_25 (fun H locs hc hS => ?_)
  refine lv_aload_n hx hb dX3_init_28 rfl (lv_at hl 0 rfl) ?_
  refine lv_bipush (v := 60) hx hb dX3_init_29 (by decide +kernel) ?_
  have hk : zq_k X (a + 1 + 3) = 26 := hl0.k 4 rfl rfl
  refine zc_newa (t := 0) (N := 60) (k2 := 26) (ty := .int) E hK hc hS rfl zca_int rfl (fun q => q) hk (by decide) rfl (fun j => by show Value.int 0 = Value.int (zv0 (zq_k X (a + 1 + 3)) j); rw [hk, zv0_arr (by decide)]) (by decide +kernel) (by decide +kernel) (by decide +kernel) (by omega) (by omega) dX3_init_31 (fun H hc hS => ?_)
  refine W.widen (k := 4) (n := 193) (by omega) (by omega) ?_
  have hc : zcs X 4 a 4 _ [] H := hc
  refine zc_putF (j := 4) E hc hS (zc_G.of (C := RX3) (T := TX3) (N := 16) E hK rfl iz_X3 rfl tyX3 tyX3_ok nmX3 (by decide) rfl rfl rfl zLX3_22) hin (by decide) rfl rfl dX3_init_33 (fun H locs hc hS => ?_)
  refine lv_aload_n hx hb dX3_init_36 rfl (lv_at hl 0 rfl) ?_
  refine lv_bipush (v := 60) hx hb dX3_init_37 (by decide +kernel) ?_
  have hk : zq_k X (a + 1 + 4) = 26 := hl0.k 5 rfl rfl
  refine zc_newa (t := 0) (N := 60) (k2 := 26) (ty := .int) E hK hc hS rfl zca_int rfl (fun q => q) hk (by decide) rfl (fun j => by show Value.int 0 = Value.int (zv0 (zq_k X (a + 1 + 4)) j); rw [hk, zv0_arr (by decide)]) (by decide +kernel) (by decide +kernel) (by decide +kernel) (by omega) (by omega) dX3_init_39 (fun H hc hS => ?_)
  refine W.widen (k := 5) (n := 253) (by omega) (by omega) ?_
  have hc : zcs X 4 a 5 _ [] H := hc
  refine zc_putF (j := 5) E hc hS (zc_G.of (C := RX3) (T := TX3) (N := 16) E hK rfl iz_X3 rfl tyX3 tyX3_ok nmX3 (by decide) rfl rfl rfl zLX3_25) hin (by decide) rfl rfl dX3_init_41 (fun H locs hc hS => ?_)
  refine lv_aload_n hx hb dX3_init_44 rfl (lv_at hl 0 rfl) ?_
  refine lv_bipush (v := 60) hx hb dX3_init_45 (by decide +kernel) ?_
  have hk : zq_k X (a + 1 + 5) = 25 := hl0.k 6 rfl rfl
  refine zc_newa (t := 0) (N := 60) (k2 := 25) (ty := .int) E hK hc hS rfl zca_int rfl (fun q => q) hk (by decide) rfl (fun j => by show Value.int 0 = Value.int (zv0 (zq_k X (a + 1 + 5)) j); rw [hk, zv0_arr (by decide)]) (by decide +kernel) (by decide +kernel) (by decide +kernel) (by omega) (by omega) dX3_init_47 (fun H hc hS => ?_)
  refine W.widen (k := 6) (n := 313) (by omega) (by omega) ?_
  have hc : zcs X 4 a 6 _ [] H := hc
  refine zc_putF (j := 6) E hc hS (zc_G.of (C := RX3) (T := TX3) (N := 16) E hK rfl iz_X3 rfl tyX3 tyX3_ok nmX3 (by decide) rfl rfl rfl zLX3_28) hin (by decide) rfl rfl dX3_init_49 (fun H locs hc hS => ?_)
  refine lv_aload_n hx hb dX3_init_52 rfl (lv_at hl 0 rfl) ?_
  refine lv_bipush (v := 60) hx hb dX3_init_53 (by decide +kernel) ?_
  have hk : zq_k X (a + 1 + 6) = 25 := hl0.k 7 rfl rfl
  refine zc_newa (t := 0) (N := 60) (k2 := 25) (ty := .int) E hK hc hS rfl zca_int rfl (fun q => q) hk (by decide) rfl (fun j => by show Value.int 0 = Value.int (zv0 (zq_k X (a + 1 + 6)) j); rw [hk, zv0_arr (by decide)]) (by decide +kernel) (by decide +kernel) (by decide +kernel) (by omega) (by omega) dX3_init_55 (fun H hc hS => ?_)
  refine W.widen (k := 7) (n := 373) (by omega) (by omega) ?_
  have hc : zcs X 4 a 7 _ [] H := hc
  refine zc_putF (j := 7) E hc hS (zc_G.of (C := RX3) (T := TX3) (N := 16) E hK rfl iz_X3 rfl tyX3 tyX3_ok nmX3 (by decide) rfl rfl rfl zLX3_31) hin (by decide) rfl rfl dX3_init_57 (fun H locs hc hS => ?_)
  refine lv_aload_n hx hb dX3_init_60 rfl (lv_at hl 0 rfl) ?_
  refine lv_sipush (v := 400) hx hb dX3_init_61 (by decide +kernel) ?_
  have hk : zq_k X (a + 1 + 7) = 27 := hl0.k 8 rfl rfl
  refine zc_newa (t := 0) (N := 400) (k2 := 27) (ty := .int) E hK hc hS rfl zca_int rfl (fun q => q) hk (by decide) rfl (fun j => by show Value.int 0 = Value.int (zv0 (zq_k X (a + 1 + 7)) j); rw [hk, zv0_arr (by decide)]) (by decide +kernel) (by decide +kernel) (by decide +kernel) (by omega) (by omega) dX3_init_64 (fun H hc hS => ?_)
  refine W.widen (k := 8) (n := 773) (by omega) (by omega) ?_
  have hc : zcs X 4 a 8 _ [] H := hc
  refine zc_putF (j := 9) E hc hS (zc_G.of (C := RX3) (T := TX3) (N := 16) E hK rfl iz_X3 rfl tyX3 tyX3_ok nmX3 (by decide) rfl rfl rfl zLX3_36) hin (by decide) rfl rfl dX3_init_66 (fun H locs hc hS => ?_)
  refine lv_aload_n hx hb dX3_init_69 rfl (lv_at hl 0 rfl) ?_
  refine lv_bipush (v := 12) hx hb dX3_init_70 (by decide +kernel) ?_
  have hk : zq_k X (a + 1 + 8) = 28 := hl0.k 9 rfl rfl
  refine zc_newa (t := 0) (N := 12) (k2 := 28) (ty := .int) E hK hc hS rfl zca_int rfl (fun q => q) hk (by decide) rfl (fun j => by show Value.int 0 = Value.int (zv0 (zq_k X (a + 1 + 8)) j); rw [hk, zv0_arr (by decide)]) (by decide +kernel) (by decide +kernel) (by decide +kernel) (by omega) (by omega) dX3_init_72 (fun H hc hS => ?_)
  refine W.widen (k := 9) (n := 785) (by omega) (by omega) ?_
  have hc : zcs X 4 a 9 _ [] H := hc
  refine zc_putF (j := 11) E hc hS (zc_G.of (C := RX3) (T := TX3) (N := 16) E hK rfl iz_X3 rfl tyX3 tyX3_ok nmX3 (by decide) rfl rfl rfl zLX3_39) hin (by decide) rfl rfl dX3_init_74 (fun H locs hc hS => ?_)
  refine lv_aload_n hx hb dX3_init_77 rfl (lv_at hl 0 rfl) ?_
  refine lv_bipush (v := 12) hx hb dX3_init_78 (by decide +kernel) ?_
  have hk : zq_k X (a + 1 + 9) = 29 := hl0.k 10 rfl rfl
  refine zc_newa (t := 0) (N := 12) (k2 := 29) (ty := .int) E hK hc hS rfl zca_int rfl (fun q => q) hk (by decide) rfl (fun j => by show Value.int 0 = Value.int (zv0 (zq_k X (a + 1 + 9)) j); rw [hk, zv0_arr (by decide)]) (by decide +kernel) (by decide +kernel) (by decide +kernel) (by omega) (by omega) dX3_init_80 (fun H hc hS => ?_)
  refine W.widen (k := 10) (n := 797) (by omega) (by omega) ?_
  have hc : zcs X 4 a 10 _ [] H := hc
  refine zc_putF (j := 12) E hc hS (zc_G.of (C := RX3) (T := TX3) (N := 16) E hK rfl iz_X3 rfl tyX3 tyX3_ok nmX3 (by decide) rfl rfl rfl zLX3_42) hin (by decide) rfl rfl dX3_init_82 (fun H locs hc hS => ?_)
  refine lv_aload_n hx hb dX3_init_85 rfl (lv_at hl 0 rfl) ?_
  refine lv_bipush (v := 12) hx hb dX3_init_86 (by decide +kernel) ?_
  have hk : zq_k X (a + 1 + 10) = 28 := hl0.k 11 rfl rfl
  refine zc_newa (t := 0) (N := 12) (k2 := 28) (ty := .int) E hK hc hS rfl zca_int rfl (fun q => q) hk (by decide) rfl (fun j => by show Value.int 0 = Value.int (zv0 (zq_k X (a + 1 + 10)) j); rw [hk, zv0_arr (by decide)]) (by decide +kernel) (by decide +kernel) (by decide +kernel) (by omega) (by omega) dX3_init_88 (fun H hc hS => ?_)
  refine W.widen (k := 11) (n := 809) (by omega) (by omega) ?_
  have hc : zcs X 4 a 11 _ [] H := hc
  refine zc_putF (j := 13) E hc hS (zc_G.of (C := RX3) (T := TX3) (N := 16) E hK rfl iz_X3 rfl tyX3 tyX3_ok nmX3 (by decide) rfl rfl rfl zLX3_45) hin (by decide) rfl rfl dX3_init_90 (fun H locs hc hS => ?_)
  refine lv_aload_n hx hb dX3_init_93 rfl (lv_at hl 0 rfl) ?_
  refine lv_bipush (v := 12) hx hb dX3_init_94 (by decide +kernel) ?_
  have hk : zq_k X (a + 1 + 11) = 29 := hl0.k 12 rfl rfl
  refine zc_newa (t := 0) (N := 12) (k2 := 29) (ty := .int) E hK hc hS rfl zca_int rfl (fun q => q) hk (by decide) rfl (fun j => by show Value.int 0 = Value.int (zv0 (zq_k X (a + 1 + 11)) j); rw [hk, zv0_arr (by decide)]) (by decide +kernel) (by decide +kernel) (by decide +kernel) (by omega) (by omega) dX3_init_96 (fun H hc hS => ?_)
  refine W.widen (k := 12) (n := 821) (by omega) (by omega) ?_
  have hc : zcs X 4 a 12 _ [] H := hc
  refine zc_putF (j := 14) E hc hS (zc_G.of (C := RX3) (T := TX3) (N := 16) E hK rfl iz_X3 rfl tyX3 tyX3_ok nmX3 (by decide) rfl rfl rfl zLX3_48) hin (by decide) rfl rfl dX3_init_98 (fun H locs hc hS => ?_)
  subst hQ
  have hr0 : zq_r X a 0 = (a + 1) := hl0.r 0 0 rfl rfl
  have hr1 : zq_r X a 1 = (a + 2) := hl0.r 0 1 rfl rfl
  have hr2 : zq_r X a 2 = (a + 3) := hl0.r 0 2 rfl rfl
  have hr4 : zq_r X a 4 = (a + 4) := hl0.r 0 4 rfl rfl
  have hr5 : zq_r X a 5 = (a + 5) := hl0.r 0 5 rfl rfl
  have hr6 : zq_r X a 6 = (a + 6) := hl0.r 0 6 rfl rfl
  have hr7 : zq_r X a 7 = (a + 7) := hl0.r 0 7 rfl rfl
  have hr9 : zq_r X a 9 = (a + 8) := hl0.r 0 9 rfl rfl
  have hr11 : zq_r X a 11 = (a + 9) := hl0.r 0 11 rfl rfl
  have hr12 : zq_r X a 12 = (a + 10) := hl0.r 0 12 rfl rfl
  have hr13 : zq_r X a 13 = (a + 11) := hl0.r 0 13 rfl rfl
  have hr14 : zq_r X a 14 = (a + 12) := hl0.r 0 14 rfl rfl
  refine zc_ret E hr hc hS hk0 (by decide) (fun j hj => ?_) hlocks dX3_init_101
  have hj : j < 16 := hj
  rcases (show j = 0 ∨ j = 1 ∨ j = 2 ∨ j = 3 ∨ j = 4 ∨ j = 5 ∨ j = 6 ∨ j = 7 ∨ j = 8 ∨ j = 9 ∨ j = 10 ∨ j = 11 ∨ j = 12 ∨ j = 13 ∨ j = 14 ∨ j = 15 by omega) with rfl | rfl | rfl | rfl | rfl | rfl | rfl | rfl | rfl | rfl | rfl | rfl | rfl | rfl | rfl | rfl
  · show Value.ref (a + 1) = Value.ref (zq_r X a 0); rw [hr0]
  · show Value.ref (a + 2) = Value.ref (zq_r X a 1); rw [hr1]
  · show Value.ref (a + 3) = Value.ref (zq_r X a 2); rw [hr2]
  · show Value.int (0) = Value.int (zv0 (zq_k X a) 3); rw [hk0]; rfl
  · show Value.ref (a + 4) = Value.ref (zq_r X a 4); rw [hr4]
  · show Value.ref (a + 5) = Value.ref (zq_r X a 5); rw [hr5]
  · show Value.ref (a + 6) = Value.ref (zq_r X a 6); rw [hr6]
  · show Value.ref (a + 7) = Value.ref (zq_r X a 7); rw [hr7]
  · show Value.int (0) = Value.int (zv0 (zq_k X a) 8); rw [hk0]; rfl
  · show Value.ref (a + 8) = Value.ref (zq_r X a 9); rw [hr9]
  · show Value.int (0) = Value.int (zv0 (zq_k X a) 10); rw [hk0]; rfl
  · show Value.ref (a + 9) = Value.ref (zq_r X a 11); rw [hr11]
  · show Value.ref (a + 10) = Value.ref (zq_r X a 12); rw [hr12]
  · show Value.ref (a + 11) = Value.ref (zq_r X a 13); rw [hr13]
  · show Value.ref (a + 12) = Value.ref (zq_r X a 14); rw [hr14]
  · show Value.int (0) = Value.int (zv0 (zq_k X a) 15); rw [hk0]; rfl
set_option maxHeartbeats 8000000 in
set_option maxRecDepth 100000 in
theorem c_X0_init (l : Launch) (X : zq_X) (a : Nat) (hl0 : zLay X a 1) : zcM l X yX0_init cX0_init 1 3 1 a 24 170 := by
  refine Met.ofW (cc := cX0_init) (maxL := 1) (ret := none) (by decide) rfl ?_
  intro p e s m args below meth c s₁ B hml hv
  obtain ⟨hargs, ⟨hsz, hh0, hob, hold⟩, hK⟩ := hv
  have hown : s.vm.findClass RX0 = some m.cls := findClass_of_methodNamed B.named
  have hts := atoms_spec (ws := zt_w yX0_init cX0_init 1 none) B.pre
  have E : CallFix p m c cX0_init 1 s args (Cond.code yX0_init cX0_init 1 none :: zt) RX0 := ⟨B.exec, B.bytes, hml, hown, hts⟩
  have hx := B.exec
  have hb := B.bytes
  have hr := B.returns
  have hlocks := B.notSynchronized
  have hin : meth.name = "<init>" := (name_of_methodNamed B.named B.method).1
  clear B
  have hk0 : zq_k X a = 1 := hl0.k 0 rfl rfl
  have hc : zcs X 1 a 0 (zdV 1) [] s.heap := ⟨hsz, hob, fun q h1 h2 => absurd h2 (by omega), fun e he => absurd he List.not_mem_nil, hold, hh0⟩
  have hS : va_S (zcA a) s.heap s.heap [] := va_S.rf
  have hl := lv_entry ([.ref a]) (n := 1) (Nat.le_of_ble_eq_true rfl)
  have hg : entryFrame m args 1 = F0 m 0 ((lg_sl ([.ref a]) ++ List.replicate (1 - (lg_sl ([.ref a])).length) Slot.unset).toArray) [] := by rw [hargs]; exact lg_entry_eq m ([.ref a]) 1
  rw [hg]
  clear hg hargs
  generalize (lg_sl ([.ref a]) ++ List.replicate (1 - (lg_sl ([.ref a])).length) Slot.unset).toArray = ls at hl ⊢
  have hl : lv_has ls 1 [(0, .ref a)] := hl
  obtain ⟨R, hRm⟩ : ∃ R : Room, R = (headSpec (zt_w yX0_init cX0_init 1 none) (zc_rm 3 24 170)).room := ⟨_, rfl⟩
  rw [← hRm]
  have hRr : R.frames = 3 ∧ R.cells = 24 ∧ R.slots = 170 ∧ R.locals = 192 := by rw [hRm]; exact ⟨rfl, rfl, rfl, rfl⟩
  generalize hQ : MQ below _ args s _ _ (zcA a) = Q
  obtain ⟨H, hH⟩ : ∃ H, H = s.heap := ⟨_, rfl⟩
  obtain ⟨locs, hlo⟩ : ∃ x : List Loc, x = [] := ⟨_, rfl⟩
  rw [show W p l e R s m args below meth c s.heap [] 0 0 Q = W p l e R s m args below meth c H locs 0 0 Q by rw [hH, hlo]]
  have hc : zcs X 1 a 0 (zdV 1) [] H := by rw [hH]; exact hc
  have hS : va_S (zcA a) s.heap H locs := by rw [hH, hlo]; exact hS
  clear hH hlo
  refine lv_aload_n hx hb dX0_init_0 rfl (lv_at hl 0 rfl) ?_
  refine zc_obj E zcm_X0_3 zcx_O zcc_O hl.1 ⟨by omega, by omega⟩ dX0_init_1 ?_
  refine lv_aload_n hx hb dX0_init_4 rfl (lv_at hl 0 rfl) ?_
  refine zc_make (k2 := 8) (N2 := 10) (c2 := 10) (n2 := 65) (d := 2) (maxL := 2) E hK hc hS (c_X10_init l X (a + 1 + 0) (hl0.sub 1 8 (by decide +kernel))) rfl rfl iz_X10 tyX10 tyX10_ok zdv_X10 zcl_X0_9 zci_X10 zcn_X10 zcm_X0_11 zcx_X10 zcc_X10 ⟨rfl, rfl⟩ (by decide +kernel) ⟨⟨by omega, by omega⟩, by omega, by omega⟩ hl.1 (Nat.le_of_ble_eq_true rfl) dX0_init_5 dX0_init_8 dX0_init_9 (fun H locs hc hS => ?_)
  refine W.widen (k := 11) (n := 75) (by omega) (by omega) ?_
  have hc : zcs X 1 a 11 _ [] H := hc
  refine zc_putF (j := 0) E hc hS (zc_G.of (C := RX0) (T := TX0) (N := 7) E hK rfl iz_X0 rfl tyX0 tyX0_ok nmX0 (by decide) rfl rfl rfl zLX0_12) hin (by decide) rfl rfl dX0_init_12 (fun H locs hc hS => ?_)
  refine lv_aload_n hx hb dX0_init_15 rfl (lv_at hl 0 rfl) ?_
  refine zc_make (k2 := 8) (N2 := 10) (c2 := 10) (n2 := 65) (d := 2) (maxL := 2) E hK hc hS (c_X10_init l X (a + 1 + 11) (hl0.sub 12 8 (by decide +kernel))) rfl rfl iz_X10 tyX10 tyX10_ok zdv_X10 zcl_X0_9 zci_X10 zcn_X10 zcm_X0_11 zcx_X10 zcc_X10 ⟨rfl, rfl⟩ (by decide +kernel) ⟨⟨by omega, by omega⟩, by omega, by omega⟩ hl.1 (Nat.le_of_ble_eq_true rfl) dX0_init_16 dX0_init_19 dX0_init_20 (fun H locs hc hS => ?_)
  refine W.widen (k := 22) (n := 150) (by omega) (by omega) ?_
  have hc : zcs X 1 a 22 _ [] H := hc
  refine zc_putF (j := 1) E hc hS (zc_G.of (C := RX0) (T := TX0) (N := 7) E hK rfl iz_X0 rfl tyX0 tyX0_ok nmX0 (by decide) rfl rfl rfl zLX0_18) hin (by decide) rfl rfl dX0_init_23 (fun H locs hc hS => ?_)
  refine lv_aload_n hx hb dX0_init_26 rfl (lv_at hl 0 rfl) ?_
  refine lv_iconst (v := (-1)) hx hb dX0_init_27 (by decide +kernel) ?_
  refine zc_puti (j := 2) E hc hS (zGX0_21 E hK.1) (by decide) dX0_init_28 (fun H locs hc hS => ?_)
  refine lv_aload_n hx hb dX0_init_31 rfl (lv_at hl 0 rfl) ?_
  refine lv_bipush (v := 10) hx hb dX0_init_32 (by decide +kernel) ?_
  have hk : zq_k X (a + 1 + 22) = 33 := hl0.k 23 rfl rfl
  refine zc_newa (t := 0) (N := 10) (k2 := 33) (ty := .int) E hK hc hS rfl zca_int rfl (fun q => q) hk (by decide) rfl (fun j => by show Value.int 0 = Value.int (zv0 (zq_k X (a + 1 + 22)) j); rw [hk, zv0_arr (by decide)]) (by decide +kernel) (by decide +kernel) (by decide +kernel) (by omega) (by omega) dX0_init_34 (fun H hc hS => ?_)
  refine W.widen (k := 23) (n := 160) (by omega) (by omega) ?_
  have hc : zcs X 1 a 23 _ [] H := hc
  refine zc_putF (j := 4) E hc hS (zc_G.of (C := RX0) (T := TX0) (N := 7) E hK rfl iz_X0 rfl tyX0 tyX0_ok nmX0 (by decide) rfl rfl rfl zLX0_25) hin (by decide) rfl rfl dX0_init_36 (fun H locs hc hS => ?_)
  refine lv_aload_n hx hb dX0_init_39 rfl (lv_at hl 0 rfl) ?_
  refine lv_bipush (v := 10) hx hb dX0_init_40 (by decide +kernel) ?_
  have hk : zq_k X (a + 1 + 23) = 33 := hl0.k 24 rfl rfl
  refine zc_newa (t := 0) (N := 10) (k2 := 33) (ty := .int) E hK hc hS rfl zca_int rfl (fun q => q) hk (by decide) rfl (fun j => by show Value.int 0 = Value.int (zv0 (zq_k X (a + 1 + 23)) j); rw [hk, zv0_arr (by decide)]) (by decide +kernel) (by decide +kernel) (by decide +kernel) (by omega) (by omega) dX0_init_42 (fun H hc hS => ?_)
  refine W.widen (k := 24) (n := 170) (by omega) (by omega) ?_
  have hc : zcs X 1 a 24 _ [] H := hc
  refine zc_putF (j := 5) E hc hS (zc_G.of (C := RX0) (T := TX0) (N := 7) E hK rfl iz_X0 rfl tyX0 tyX0_ok nmX0 (by decide) rfl rfl rfl zLX0_29) hin (by decide) rfl rfl dX0_init_44 (fun H locs hc hS => ?_)
  subst hQ
  have hr0 : zq_r X a 0 = (a + 1) := hl0.r 0 0 rfl rfl
  have hr1 : zq_r X a 1 = (a + 12) := hl0.r 0 1 rfl rfl
  have hr4 : zq_r X a 4 = (a + 23) := hl0.r 0 4 rfl rfl
  have hr5 : zq_r X a 5 = (a + 24) := hl0.r 0 5 rfl rfl
  refine zc_ret E hr hc hS hk0 (by decide) (fun j hj => ?_) hlocks dX0_init_47
  have hj : j < 7 := hj
  rcases (show j = 0 ∨ j = 1 ∨ j = 2 ∨ j = 3 ∨ j = 4 ∨ j = 5 ∨ j = 6 by omega) with rfl | rfl | rfl | rfl | rfl | rfl | rfl
  · show Value.ref (a + 1) = Value.ref (zq_r X a 0); rw [hr0]
  · show Value.ref (a + 12) = Value.ref (zq_r X a 1); rw [hr1]
  · show Value.int (-1) = Value.int (zv0 (zq_k X a) 2); rw [hk0]; rfl
  · show Value.int (0) = Value.int (zv0 (zq_k X a) 3); rw [hk0]; rfl
  · show Value.ref (a + 23) = Value.ref (zq_r X a 4); rw [hr4]
  · show Value.ref (a + 24) = Value.ref (zq_r X a 5); rw [hr5]
  · show Value.int (0) = Value.int (zv0 (zq_k X a) 6); rw [hk0]; rfl
set_option maxHeartbeats 8000000 in
set_option maxRecDepth 100000 in
theorem c_X2_init (l : Launch) (X : zq_X) (a : Nat) (hl0 : zLay X a 3) : zcM l X yX2_init cX2_init 1 3 3 a 13 82 := by
  refine Met.ofW (cc := cX2_init) (maxL := 1) (ret := none) (by decide) rfl ?_
  intro p e s m args below meth c s₁ B hml hv
  obtain ⟨hargs, ⟨hsz, hh0, hob, hold⟩, hK⟩ := hv
  have hown : s.vm.findClass RX2 = some m.cls := findClass_of_methodNamed B.named
  have hts := atoms_spec (ws := zt_w yX2_init cX2_init 1 none) B.pre
  have E : CallFix p m c cX2_init 1 s args (Cond.code yX2_init cX2_init 1 none :: zt) RX2 := ⟨B.exec, B.bytes, hml, hown, hts⟩
  have hx := B.exec
  have hb := B.bytes
  have hr := B.returns
  have hlocks := B.notSynchronized
  have hin : meth.name = "<init>" := (name_of_methodNamed B.named B.method).1
  clear B
  have hk0 : zq_k X a = 3 := hl0.k 0 rfl rfl
  have hc : zcs X 3 a 0 (zdV 3) [] s.heap := ⟨hsz, hob, fun q h1 h2 => absurd h2 (by omega), fun e he => absurd he List.not_mem_nil, hold, hh0⟩
  have hS : va_S (zcA a) s.heap s.heap [] := va_S.rf
  have hl := lv_entry ([.ref a]) (n := 1) (Nat.le_of_ble_eq_true rfl)
  have hg : entryFrame m args 1 = F0 m 0 ((lg_sl ([.ref a]) ++ List.replicate (1 - (lg_sl ([.ref a])).length) Slot.unset).toArray) [] := by rw [hargs]; exact lg_entry_eq m ([.ref a]) 1
  rw [hg]
  clear hg hargs
  generalize (lg_sl ([.ref a]) ++ List.replicate (1 - (lg_sl ([.ref a])).length) Slot.unset).toArray = ls at hl ⊢
  have hl : lv_has ls 1 [(0, .ref a)] := hl
  obtain ⟨R, hRm⟩ : ∃ R : Room, R = (headSpec (zt_w yX2_init cX2_init 1 none) (zc_rm 3 13 82)).room := ⟨_, rfl⟩
  rw [← hRm]
  have hRr : R.frames = 3 ∧ R.cells = 13 ∧ R.slots = 82 ∧ R.locals = 192 := by rw [hRm]; exact ⟨rfl, rfl, rfl, rfl⟩
  generalize hQ : MQ below _ args s _ _ (zcA a) = Q
  obtain ⟨H, hH⟩ : ∃ H, H = s.heap := ⟨_, rfl⟩
  obtain ⟨locs, hlo⟩ : ∃ x : List Loc, x = [] := ⟨_, rfl⟩
  rw [show W p l e R s m args below meth c s.heap [] 0 0 Q = W p l e R s m args below meth c H locs 0 0 Q by rw [hH, hlo]]
  have hc : zcs X 3 a 0 (zdV 3) [] H := by rw [hH]; exact hc
  have hS : va_S (zcA a) s.heap H locs := by rw [hH, hlo]; exact hS
  clear hH hlo
  refine lv_aload_n hx hb dX2_init_0 rfl (lv_at hl 0 rfl) ?_
  refine zc_obj E zcm_X2_3 zcx_O zcc_O hl.1 ⟨by omega, by omega⟩ dX2_init_1 ?_
  refine lv_aload_n hx hb dX2_init_4 rfl (lv_at hl 0 rfl) ?_
  refine zc_make (k2 := 8) (N2 := 10) (c2 := 10) (n2 := 65) (d := 2) (maxL := 2) E hK hc hS (c_X10_init l X (a + 1 + 0) (hl0.sub 1 8 (by decide +kernel))) rfl rfl iz_X10 tyX10 tyX10_ok zdv_X10 zcl_X2_9 zci_X10 zcn_X10 zcm_X2_11 zcx_X10 zcc_X10 ⟨rfl, rfl⟩ (by decide +kernel) ⟨⟨by omega, by omega⟩, by omega, by omega⟩ hl.1 (Nat.le_of_ble_eq_true rfl) dX2_init_5 dX2_init_8 dX2_init_9 (fun H locs hc hS => ?_)
  refine W.widen (k := 11) (n := 75) (by omega) (by omega) ?_
  have hc : zcs X 3 a 11 _ [] H := hc
  refine zc_putF (j := 0) E hc hS (zc_G.of (C := RX2) (T := TX2) (N := 6) E hK rfl iz_X2 rfl tyX2 tyX2_ok nmX2 (by decide) rfl rfl rfl zLX2_12) hin (by decide) rfl rfl dX2_init_12 (fun H locs hc hS => ?_)
  refine lv_aload_n hx hb dX2_init_15 rfl (lv_at hl 0 rfl) ?_
  refine lv_iconst (v := 4) hx hb dX2_init_16 (by decide +kernel) ?_
  have hk : zq_k X (a + 1 + 11) = 34 := hl0.k 12 rfl rfl
  refine zc_newa (t := 0) (N := 4) (k2 := 34) (ty := .int) E hK hc hS rfl zca_int rfl (fun q => q) hk (by decide) rfl (fun j => by show Value.int 0 = Value.int (zv0 (zq_k X (a + 1 + 11)) j); rw [hk, zv0_arr (by decide)]) (by decide +kernel) (by decide +kernel) (by decide +kernel) (by omega) (by omega) dX2_init_17 (fun H hc hS => ?_)
  refine W.widen (k := 12) (n := 79) (by omega) (by omega) ?_
  have hc : zcs X 3 a 12 _ [] H := hc
  refine zc_putF (j := 1) E hc hS (zc_G.of (C := RX2) (T := TX2) (N := 6) E hK rfl iz_X2 rfl tyX2 tyX2_ok nmX2 (by decide) rfl rfl rfl zLX2_18) hin (by decide) rfl rfl dX2_init_19 (fun H locs hc hS => ?_)
  refine lv_aload_n hx hb dX2_init_22 rfl (lv_at hl 0 rfl) ?_
  refine lv_iconst (v := 3) hx hb dX2_init_23 (by decide +kernel) ?_
  have hk : zq_k X (a + 1 + 12) = 35 := hl0.k 13 rfl rfl
  refine zc_newa (t := 0) (N := 3) (k2 := 35) (ty := .int) E hK hc hS rfl zca_int rfl (fun q => q) hk (by decide) rfl (fun j => by show Value.int 0 = Value.int (zv0 (zq_k X (a + 1 + 12)) j); rw [hk, zv0_arr (by decide)]) (by decide +kernel) (by decide +kernel) (by decide +kernel) (by omega) (by omega) dX2_init_24 (fun H hc hS => ?_)
  refine W.widen (k := 13) (n := 82) (by omega) (by omega) ?_
  have hc : zcs X 3 a 13 _ [] H := hc
  refine zc_putF (j := 2) E hc hS (zc_G.of (C := RX2) (T := TX2) (N := 6) E hK rfl iz_X2 rfl tyX2 tyX2_ok nmX2 (by decide) rfl rfl rfl zLX2_22) hin (by decide) rfl rfl dX2_init_26 (fun H locs hc hS => ?_)
  subst hQ
  have hr0 : zq_r X a 0 = (a + 1) := hl0.r 0 0 rfl rfl
  have hr1 : zq_r X a 1 = (a + 12) := hl0.r 0 1 rfl rfl
  have hr2 : zq_r X a 2 = (a + 13) := hl0.r 0 2 rfl rfl
  refine zc_ret E hr hc hS hk0 (by decide) (fun j hj => ?_) hlocks dX2_init_29
  have hj : j < 6 := hj
  rcases (show j = 0 ∨ j = 1 ∨ j = 2 ∨ j = 3 ∨ j = 4 ∨ j = 5 by omega) with rfl | rfl | rfl | rfl | rfl | rfl
  · show Value.ref (a + 1) = Value.ref (zq_r X a 0); rw [hr0]
  · show Value.ref (a + 12) = Value.ref (zq_r X a 1); rw [hr1]
  · show Value.ref (a + 13) = Value.ref (zq_r X a 2); rw [hr2]
  · show Value.int (0) = Value.int (zv0 (zq_k X a) 3); rw [hk0]; rfl
  · show Value.int (0) = Value.int (zv0 (zq_k X a) 4); rw [hk0]; rfl
  · show Value.int (0) = Value.int (zv0 (zq_k X a) 5); rw [hk0]; rfl
set_option maxHeartbeats 8000000 in
set_option maxRecDepth 100000 in
theorem c_X12_init (l : Launch) (X : zq_X) (a : Nat) (hl0 : zLay X a 10) : zcM l X yX12_init cX12_init 1 1 10 a 18 5374 := by
  refine Met.ofW (cc := cX12_init) (maxL := 1) (ret := none) (by decide) rfl ?_
  intro p e s m args below meth c s₁ B hml hv
  obtain ⟨hargs, ⟨hsz, hh0, hob, hold⟩, hK⟩ := hv
  have hown : s.vm.findClass RX12 = some m.cls := findClass_of_methodNamed B.named
  have hts := atoms_spec (ws := zt_w yX12_init cX12_init 1 none) B.pre
  have E : CallFix p m c cX12_init 1 s args (Cond.code yX12_init cX12_init 1 none :: zt) RX12 := ⟨B.exec, B.bytes, hml, hown, hts⟩
  have hx := B.exec
  have hb := B.bytes
  have hr := B.returns
  have hlocks := B.notSynchronized
  have hin : meth.name = "<init>" := (name_of_methodNamed B.named B.method).1
  clear B
  have hk0 : zq_k X a = 10 := hl0.k 0 rfl rfl
  have hc : zcs X 10 a 0 (zdV 10) [] s.heap := ⟨hsz, hob, fun q h1 h2 => absurd h2 (by omega), fun e he => absurd he List.not_mem_nil, hold, hh0⟩
  have hS : va_S (zcA a) s.heap s.heap [] := va_S.rf
  have hl := lv_entry ([.ref a]) (n := 1) (Nat.le_of_ble_eq_true rfl)
  have hg : entryFrame m args 1 = F0 m 0 ((lg_sl ([.ref a]) ++ List.replicate (1 - (lg_sl ([.ref a])).length) Slot.unset).toArray) [] := by rw [hargs]; exact lg_entry_eq m ([.ref a]) 1
  rw [hg]
  clear hg hargs
  generalize (lg_sl ([.ref a]) ++ List.replicate (1 - (lg_sl ([.ref a])).length) Slot.unset).toArray = ls at hl ⊢
  have hl : lv_has ls 1 [(0, .ref a)] := hl
  obtain ⟨R, hRm⟩ : ∃ R : Room, R = (headSpec (zt_w yX12_init cX12_init 1 none) (zc_rm 1 18 5374)).room := ⟨_, rfl⟩
  rw [← hRm]
  have hRr : R.frames = 1 ∧ R.cells = 18 ∧ R.slots = 5374 ∧ R.locals = 64 := by rw [hRm]; exact ⟨rfl, rfl, rfl, rfl⟩
  generalize hQ : MQ below _ args s _ _ (zcA a) = Q
  obtain ⟨H, hH⟩ : ∃ H, H = s.heap := ⟨_, rfl⟩
  obtain ⟨locs, hlo⟩ : ∃ x : List Loc, x = [] := ⟨_, rfl⟩
  rw [show W p l e R s m args below meth c s.heap [] 0 0 Q = W p l e R s m args below meth c H locs 0 0 Q by rw [hH, hlo]]
  have hc : zcs X 10 a 0 (zdV 10) [] H := by rw [hH]; exact hc
  have hS : va_S (zcA a) s.heap H locs := by rw [hH, hlo]; exact hS
  clear hH hlo
  refine lv_aload_n hx hb dX12_init_0 rfl (lv_at hl 0 rfl) ?_
  refine zc_obj E zcm_X12_1 zcx_O zcc_O hl.1 ⟨by omega, by omega⟩ dX12_init_1 ?_
  refine lv_aload_n hx hb dX12_init_4 rfl (lv_at hl 0 rfl) ?_
  refine lv_sipush (v := 400) hx hb dX12_init_5 (by decide +kernel) ?_
  have hk : zq_k X (a + 1 + 0) = 50 := hl0.k 1 rfl rfl
  refine zc_newa (t := 2) (N := 400) (k2 := 50) (ty := .byte) E hK hc hS rfl zca_byte rfl (fun q => q) hk (by decide) rfl (fun j => by show Value.int 0 = Value.int (zv0 (zq_k X (a + 1 + 0)) j); rw [hk, zv0_arr (by decide)]) (by decide +kernel) (by decide +kernel) (by decide +kernel) (by omega) (by omega) dX12_init_8 (fun H hc hS => ?_)
  refine W.widen (k := 1) (n := 400) (by omega) (by omega) ?_
  have hc : zcs X 10 a 1 _ [] H := hc
  refine zc_putF (j := 0) E hc hS (zc_G.of (C := RX12) (T := TX12) (N := 34) E hK rfl iz_X12 rfl tyX12 tyX12_ok nmX12 (by decide) rfl rfl rfl zLX12_7) hin (by decide) rfl rfl dX12_init_10 (fun H locs hc hS => ?_)
  refine lv_aload_n hx hb dX12_init_13 rfl (lv_at hl 0 rfl) ?_
  refine lv_sipush (v := 2400) hx hb dX12_init_14 (by decide +kernel) ?_
  have hk : zq_k X (a + 1 + 1) = 51 := hl0.k 2 rfl rfl
  refine zc_newa (t := 0) (N := 2400) (k2 := 51) (ty := .int) E hK hc hS rfl zca_int rfl (fun q => q) hk (by decide) rfl (fun j => by show Value.int 0 = Value.int (zv0 (zq_k X (a + 1 + 1)) j); rw [hk, zv0_arr (by decide)]) (by decide +kernel) (by decide +kernel) (by decide +kernel) (by omega) (by omega) dX12_init_17 (fun H hc hS => ?_)
  refine W.widen (k := 2) (n := 2800) (by omega) (by omega) ?_
  have hc : zcs X 10 a 2 _ [] H := hc
  refine zc_putF (j := 3) E hc hS (zc_G.of (C := RX12) (T := TX12) (N := 34) E hK rfl iz_X12 rfl tyX12 tyX12_ok nmX12 (by decide) rfl rfl rfl zLX12_13) hin (by decide) rfl rfl dX12_init_19 (fun H locs hc hS => ?_)
  refine lv_aload_n hx hb dX12_init_22 rfl (lv_at hl 0 rfl) ?_
  refine lv_bipush (v := 7) hx hb dX12_init_23 (by decide +kernel) ?_
  have hk : zq_k X (a + 1 + 2) = 52 := hl0.k 3 rfl rfl
  refine zc_newa (t := 0) (N := 7) (k2 := 52) (ty := .int) E hK hc hS rfl zca_int rfl (fun q => q) hk (by decide) rfl (fun j => by show Value.int 0 = Value.int (zv0 (zq_k X (a + 1 + 2)) j); rw [hk, zv0_arr (by decide)]) (by decide +kernel) (by decide +kernel) (by decide +kernel) (by omega) (by omega) dX12_init_25 (fun H hc hS => ?_)
  refine W.widen (k := 3) (n := 2807) (by omega) (by omega) ?_
  have hc : zcs X 10 a 3 _ [] H := hc
  refine zc_putF (j := 4) E hc hS (zc_G.of (C := RX12) (T := TX12) (N := 34) E hK rfl iz_X12 rfl tyX12 tyX12_ok nmX12 (by decide) rfl rfl rfl zLX12_17) hin (by decide) rfl rfl dX12_init_27 (fun H locs hc hS => ?_)
  refine lv_aload_n hx hb dX12_init_30 rfl (lv_at hl 0 rfl) ?_
  refine lv_sipush (v := 288) hx hb dX12_init_31 (by decide +kernel) ?_
  have hk : zq_k X (a + 1 + 3) = 53 := hl0.k 4 rfl rfl
  refine zc_newa (t := 0) (N := 288) (k2 := 53) (ty := .int) E hK hc hS rfl zca_int rfl (fun q => q) hk (by decide) rfl (fun j => by show Value.int 0 = Value.int (zv0 (zq_k X (a + 1 + 3)) j); rw [hk, zv0_arr (by decide)]) (by decide +kernel) (by decide +kernel) (by decide +kernel) (by omega) (by omega) dX12_init_34 (fun H hc hS => ?_)
  refine W.widen (k := 4) (n := 3095) (by omega) (by omega) ?_
  have hc : zcs X 10 a 4 _ [] H := hc
  refine zc_putF (j := 5) E hc hS (zc_G.of (C := RX12) (T := TX12) (N := 34) E hK rfl iz_X12 rfl tyX12 tyX12_ok nmX12 (by decide) rfl rfl rfl zLX12_20) hin (by decide) rfl rfl dX12_init_36 (fun H locs hc hS => ?_)
  refine lv_aload_n hx hb dX12_init_39 rfl (lv_at hl 0 rfl) ?_
  refine lv_bipush (v := 6) hx hb dX12_init_40 (by decide +kernel) ?_
  have hk : zq_k X (a + 1 + 4) = 54 := hl0.k 5 rfl rfl
  refine zc_newa (t := 0) (N := 6) (k2 := 54) (ty := .int) E hK hc hS rfl zca_int rfl (fun q => q) hk (by decide) rfl (fun j => by show Value.int 0 = Value.int (zv0 (zq_k X (a + 1 + 4)) j); rw [hk, zv0_arr (by decide)]) (by decide +kernel) (by decide +kernel) (by decide +kernel) (by omega) (by omega) dX12_init_42 (fun H hc hS => ?_)
  refine W.widen (k := 5) (n := 3101) (by omega) (by omega) ?_
  have hc : zcs X 10 a 5 _ [] H := hc
  refine zc_putF (j := 6) E hc hS (zc_G.of (C := RX12) (T := TX12) (N := 34) E hK rfl iz_X12 rfl tyX12 tyX12_ok nmX12 (by decide) rfl rfl rfl zLX12_23) hin (by decide) rfl rfl dX12_init_44 (fun H locs hc hS => ?_)
  refine lv_aload_n hx hb dX12_init_47 rfl (lv_at hl 0 rfl) ?_
  refine lv_bipush (v := 85) hx hb dX12_init_48 (by decide +kernel) ?_
  have hk : zq_k X (a + 1 + 5) = 55 := hl0.k 6 rfl rfl
  refine zc_newa (t := 0) (N := 85) (k2 := 55) (ty := .int) E hK hc hS rfl zca_int rfl (fun q => q) hk (by decide) rfl (fun j => by show Value.int 0 = Value.int (zv0 (zq_k X (a + 1 + 5)) j); rw [hk, zv0_arr (by decide)]) (by decide +kernel) (by decide +kernel) (by decide +kernel) (by omega) (by omega) dX12_init_50 (fun H hc hS => ?_)
  refine W.widen (k := 6) (n := 3186) (by omega) (by omega) ?_
  have hc : zcs X 10 a 6 _ [] H := hc
  refine zc_putF (j := 7) E hc hS (zc_G.of (C := RX12) (T := TX12) (N := 34) E hK rfl iz_X12 rfl tyX12 tyX12_ok nmX12 (by decide) rfl rfl rfl zLX12_26) hin (by decide) rfl rfl dX12_init_52 (fun H locs hc hS => ?_)
  refine lv_aload_n hx hb dX12_init_55 rfl (lv_at hl 0 rfl) ?_
  refine lv_sipush (v := 400) hx hb dX12_init_56 (by decide +kernel) ?_
  have hk : zq_k X (a + 1 + 6) = 56 := hl0.k 7 rfl rfl
  refine zc_newa (t := 0) (N := 400) (k2 := 56) (ty := .int) E hK hc hS rfl zca_int rfl (fun q => q) hk (by decide) rfl (fun j => by show Value.int 0 = Value.int (zv0 (zq_k X (a + 1 + 6)) j); rw [hk, zv0_arr (by decide)]) (by decide +kernel) (by decide +kernel) (by decide +kernel) (by omega) (by omega) dX12_init_59 (fun H hc hS => ?_)
  refine W.widen (k := 7) (n := 3586) (by omega) (by omega) ?_
  have hc : zcs X 10 a 7 _ [] H := hc
  refine zc_putF (j := 15) E hc hS (zc_G.of (C := RX12) (T := TX12) (N := 34) E hK rfl iz_X12 rfl tyX12 tyX12_ok nmX12 (by decide) rfl rfl rfl zLX12_29) hin (by decide) rfl rfl dX12_init_61 (fun H locs hc hS => ?_)
  refine lv_aload_n hx hb dX12_init_64 rfl (lv_at hl 0 rfl) ?_
  refine lv_bipush (v := 64) hx hb dX12_init_65 (by decide +kernel) ?_
  have hk : zq_k X (a + 1 + 7) = 57 := hl0.k 8 rfl rfl
  refine zc_newa (t := 3) (N := 64) (k2 := 57) (ty := .long) E hK hc hS rfl zca_long rfl (fun q => q) hk (by decide) rfl (fun j => ⟨0, rfl⟩) (by decide +kernel) (by decide +kernel) (by decide +kernel) (by omega) (by omega) dX12_init_67 (fun H hc hS => ?_)
  refine W.widen (k := 8) (n := 3650) (by omega) (by omega) ?_
  have hc : zcs X 10 a 8 _ [] H := hc
  refine zc_putF (j := 17) E hc hS (zc_G.of (C := RX12) (T := TX12) (N := 34) E hK rfl iz_X12 rfl tyX12 tyX12_ok nmX12 (by decide) rfl rfl rfl zLX12_32) hin (by decide) rfl rfl dX12_init_69 (fun H locs hc hS => ?_)
  refine lv_aload_n hx hb dX12_init_72 rfl (lv_at hl 0 rfl) ?_
  refine lv_bipush (v := 13) hx hb dX12_init_73 (by decide +kernel) ?_
  have hk : zq_k X (a + 1 + 8) = 58 := hl0.k 9 rfl rfl
  refine zc_newa (t := 3) (N := 13) (k2 := 58) (ty := .long) E hK hc hS rfl zca_long rfl (fun q => q) hk (by decide) rfl (fun j => ⟨0, rfl⟩) (by decide +kernel) (by decide +kernel) (by decide +kernel) (by omega) (by omega) dX12_init_75 (fun H hc hS => ?_)
  refine W.widen (k := 9) (n := 3663) (by omega) (by omega) ?_
  have hc : zcs X 10 a 9 _ [] H := hc
  refine zc_putF (j := 19) E hc hS (zc_G.of (C := RX12) (T := TX12) (N := 34) E hK rfl iz_X12 rfl tyX12 tyX12_ok nmX12 (by decide) rfl rfl rfl zLX12_36) hin (by decide) rfl rfl dX12_init_77 (fun H locs hc hS => ?_)
  refine lv_aload_n hx hb dX12_init_80 rfl (lv_at hl 0 rfl) ?_
  refine lv_bipush (v := 106) hx hb dX12_init_81 (by decide +kernel) ?_
  have hk : zq_k X (a + 1 + 9) = 59 := hl0.k 10 rfl rfl
  refine zc_newa (t := 0) (N := 106) (k2 := 59) (ty := .int) E hK hc hS rfl zca_int rfl (fun q => q) hk (by decide) rfl (fun j => by show Value.int 0 = Value.int (zv0 (zq_k X (a + 1 + 9)) j); rw [hk, zv0_arr (by decide)]) (by decide +kernel) (by decide +kernel) (by decide +kernel) (by omega) (by omega) dX12_init_83 (fun H hc hS => ?_)
  refine W.widen (k := 10) (n := 3769) (by omega) (by omega) ?_
  have hc : zcs X 10 a 10 _ [] H := hc
  refine zc_putF (j := 20) E hc hS (zc_G.of (C := RX12) (T := TX12) (N := 34) E hK rfl iz_X12 rfl tyX12 tyX12_ok nmX12 (by decide) rfl rfl rfl zLX12_39) hin (by decide) rfl rfl dX12_init_85 (fun H locs hc hS => ?_)
  refine lv_aload_n hx hb dX12_init_88 rfl (lv_at hl 0 rfl) ?_
  refine lv_iconst (v := (-1)) hx hb dX12_init_89 (by decide +kernel) ?_
  refine zc_puti (j := 21) E hc hS (zGX12_42 E hK.1) (by decide) dX12_init_90 (fun H locs hc hS => ?_)
  refine lv_aload_n hx hb dX12_init_93 rfl (lv_at hl 0 rfl) ?_
  refine lv_bipush (v := 100) hx hb dX12_init_94 (by decide +kernel) ?_
  refine zc_puti (j := 23) E hc hS (zGX12_46 E hK.1) (by decide) dX12_init_96 (fun H locs hc hS => ?_)
  refine lv_aload_n hx hb dX12_init_99 rfl (lv_at hl 0 rfl) ?_
  refine lv_sipush (v := 700) hx hb dX12_init_100 (by decide +kernel) ?_
  have hk : zq_k X (a + 1 + 10) = 60 := hl0.k 11 rfl rfl
  refine zc_newa (t := 0) (N := 700) (k2 := 60) (ty := .int) E hK hc hS rfl zca_int rfl (fun q => q) hk (by decide) rfl (fun j => by show Value.int 0 = Value.int (zv0 (zq_k X (a + 1 + 10)) j); rw [hk, zv0_arr (by decide)]) (by decide +kernel) (by decide +kernel) (by decide +kernel) (by omega) (by omega) dX12_init_103 (fun H hc hS => ?_)
  refine W.widen (k := 11) (n := 4469) (by omega) (by omega) ?_
  have hc : zcs X 10 a 11 _ [] H := hc
  refine zc_putF (j := 24) E hc hS (zc_G.of (C := RX12) (T := TX12) (N := 34) E hK rfl iz_X12 rfl tyX12 tyX12_ok nmX12 (by decide) rfl rfl rfl zLX12_49) hin (by decide) rfl rfl dX12_init_105 (fun H locs hc hS => ?_)
  refine lv_aload_n hx hb dX12_init_108 rfl (lv_at hl 0 rfl) ?_
  refine lv_bipush (v := 35) hx hb dX12_init_109 (by decide +kernel) ?_
  have hk : zq_k X (a + 1 + 11) = 61 := hl0.k 12 rfl rfl
  refine zc_newa (t := 0) (N := 35) (k2 := 61) (ty := .int) E hK hc hS rfl zca_int rfl (fun q => q) hk (by decide) rfl (fun j => by show Value.int 0 = Value.int (zv0 (zq_k X (a + 1 + 11)) j); rw [hk, zv0_arr (by decide)]) (by decide +kernel) (by decide +kernel) (by decide +kernel) (by omega) (by omega) dX12_init_111 (fun H hc hS => ?_)
  refine W.widen (k := 12) (n := 4504) (by omega) (by omega) ?_
  have hc : zcs X 10 a 12 _ [] H := hc
  refine zc_putF (j := 26) E hc hS (zc_G.of (C := RX12) (T := TX12) (N := 34) E hK rfl iz_X12 rfl tyX12 tyX12_ok nmX12 (by decide) rfl rfl rfl zLX12_52) hin (by decide) rfl rfl dX12_init_113 (fun H locs hc hS => ?_)
  refine lv_aload_n hx hb dX12_init_116 rfl (lv_at hl 0 rfl) ?_
  refine lv_bipush (v := 7) hx hb dX12_init_117 (by decide +kernel) ?_
  have hk : zq_k X (a + 1 + 12) = 62 := hl0.k 13 rfl rfl
  refine zc_newa (t := 1) (N := 7) (k2 := 62) (ty := .boolean) E hK hc hS rfl zca_boolean rfl (fun q => q) hk (by decide) rfl (fun j => by show Value.int 0 = Value.int (zv0 (zq_k X (a + 1 + 12)) j); rw [hk, zv0_arr (by decide)]) (by decide +kernel) (by decide +kernel) (by decide +kernel) (by omega) (by omega) dX12_init_119 (fun H hc hS => ?_)
  refine W.widen (k := 13) (n := 4511) (by omega) (by omega) ?_
  have hc : zcs X 10 a 13 _ [] H := hc
  refine zc_putF (j := 27) E hc hS (zc_G.of (C := RX12) (T := TX12) (N := 34) E hK rfl iz_X12 rfl tyX12 tyX12_ok nmX12 (by decide) rfl rfl rfl zLX12_55) hin (by decide) rfl rfl dX12_init_121 (fun H locs hc hS => ?_)
  refine lv_aload_n hx hb dX12_init_124 rfl (lv_at hl 0 rfl) ?_
  refine lv_sipush (v := 427) hx hb dX12_init_125 (by decide +kernel) ?_
  have hk : zq_k X (a + 1 + 13) = 63 := hl0.k 14 rfl rfl
  refine zc_newa (t := 0) (N := 427) (k2 := 63) (ty := .int) E hK hc hS rfl zca_int rfl (fun q => q) hk (by decide) rfl (fun j => by show Value.int 0 = Value.int (zv0 (zq_k X (a + 1 + 13)) j); rw [hk, zv0_arr (by decide)]) (by decide +kernel) (by decide +kernel) (by decide +kernel) (by omega) (by omega) dX12_init_128 (fun H hc hS => ?_)
  refine W.widen (k := 14) (n := 4938) (by omega) (by omega) ?_
  have hc : zcs X 10 a 14 _ [] H := hc
  refine zc_putF (j := 28) E hc hS (zc_G.of (C := RX12) (T := TX12) (N := 34) E hK rfl iz_X12 rfl tyX12 tyX12_ok nmX12 (by decide) rfl rfl rfl zLX12_59) hin (by decide) rfl rfl dX12_init_130 (fun H locs hc hS => ?_)
  refine lv_aload_n hx hb dX12_init_133 rfl (lv_at hl 0 rfl) ?_
  refine lv_sipush (v := 424) hx hb dX12_init_134 (by decide +kernel) ?_
  have hk : zq_k X (a + 1 + 14) = 64 := hl0.k 15 rfl rfl
  refine zc_newa (t := 0) (N := 424) (k2 := 64) (ty := .int) E hK hc hS rfl zca_int rfl (fun q => q) hk (by decide) rfl (fun j => by show Value.int 0 = Value.int (zv0 (zq_k X (a + 1 + 14)) j); rw [hk, zv0_arr (by decide)]) (by decide +kernel) (by decide +kernel) (by decide +kernel) (by omega) (by omega) dX12_init_137 (fun H hc hS => ?_)
  refine W.widen (k := 15) (n := 5362) (by omega) (by omega) ?_
  have hc : zcs X 10 a 15 _ [] H := hc
  refine zc_putF (j := 30) E hc hS (zc_G.of (C := RX12) (T := TX12) (N := 34) E hK rfl iz_X12 rfl tyX12 tyX12_ok nmX12 (by decide) rfl rfl rfl zLX12_62) hin (by decide) rfl rfl dX12_init_139 (fun H locs hc hS => ?_)
  refine lv_aload_n hx hb dX12_init_142 rfl (lv_at hl 0 rfl) ?_
  refine lv_iconst (v := 4) hx hb dX12_init_143 (by decide +kernel) ?_
  have hk : zq_k X (a + 1 + 15) = 65 := hl0.k 16 rfl rfl
  refine zc_newa (t := 0) (N := 4) (k2 := 65) (ty := .int) E hK hc hS rfl zca_int rfl (fun q => q) hk (by decide) rfl (fun j => by show Value.int 0 = Value.int (zv0 (zq_k X (a + 1 + 15)) j); rw [hk, zv0_arr (by decide)]) (by decide +kernel) (by decide +kernel) (by decide +kernel) (by omega) (by omega) dX12_init_144 (fun H hc hS => ?_)
  refine W.widen (k := 16) (n := 5366) (by omega) (by omega) ?_
  have hc : zcs X 10 a 16 _ [] H := hc
  refine zc_putF (j := 31) E hc hS (zc_G.of (C := RX12) (T := TX12) (N := 34) E hK rfl iz_X12 rfl tyX12 tyX12_ok nmX12 (by decide) rfl rfl rfl zLX12_65) hin (by decide) rfl rfl dX12_init_146 (fun H locs hc hS => ?_)
  refine lv_aload_n hx hb dX12_init_149 rfl (lv_at hl 0 rfl) ?_
  refine lv_iconst (v := 4) hx hb dX12_init_150 (by decide +kernel) ?_
  have hk : zq_k X (a + 1 + 16) = 66 := hl0.k 17 rfl rfl
  refine zc_newa (t := 0) (N := 4) (k2 := 66) (ty := .int) E hK hc hS rfl zca_int rfl (fun q => q) hk (by decide) rfl (fun j => by show Value.int 0 = Value.int (zv0 (zq_k X (a + 1 + 16)) j); rw [hk, zv0_arr (by decide)]) (by decide +kernel) (by decide +kernel) (by decide +kernel) (by omega) (by omega) dX12_init_151 (fun H hc hS => ?_)
  refine W.widen (k := 17) (n := 5370) (by omega) (by omega) ?_
  have hc : zcs X 10 a 17 _ [] H := hc
  refine zc_putF (j := 32) E hc hS (zc_G.of (C := RX12) (T := TX12) (N := 34) E hK rfl iz_X12 rfl tyX12 tyX12_ok nmX12 (by decide) rfl rfl rfl zLX12_68) hin (by decide) rfl rfl dX12_init_153 (fun H locs hc hS => ?_)
  refine lv_aload_n hx hb dX12_init_156 rfl (lv_at hl 0 rfl) ?_
  refine lv_iconst (v := 4) hx hb dX12_init_157 (by decide +kernel) ?_
  have hk : zq_k X (a + 1 + 17) = 67 := hl0.k 18 rfl rfl
  refine zc_newa (t := 1) (N := 4) (k2 := 67) (ty := .boolean) E hK hc hS rfl zca_boolean rfl (fun q => q) hk (by decide) rfl (fun j => by show Value.int 0 = Value.int (zv0 (zq_k X (a + 1 + 17)) j); rw [hk, zv0_arr (by decide)]) (by decide +kernel) (by decide +kernel) (by decide +kernel) (by omega) (by omega) dX12_init_158 (fun H hc hS => ?_)
  refine W.widen (k := 18) (n := 5374) (by omega) (by omega) ?_
  have hc : zcs X 10 a 18 _ [] H := hc
  refine zc_putF (j := 33) E hc hS (zc_G.of (C := RX12) (T := TX12) (N := 34) E hK rfl iz_X12 rfl tyX12 tyX12_ok nmX12 (by decide) rfl rfl rfl zLX12_71) hin (by decide) rfl rfl dX12_init_160 (fun H locs hc hS => ?_)
  subst hQ
  have hr0 : zq_r X a 0 = (a + 1) := hl0.r 0 0 rfl rfl
  have hr3 : zq_r X a 3 = (a + 2) := hl0.r 0 3 rfl rfl
  have hr4 : zq_r X a 4 = (a + 3) := hl0.r 0 4 rfl rfl
  have hr5 : zq_r X a 5 = (a + 4) := hl0.r 0 5 rfl rfl
  have hr6 : zq_r X a 6 = (a + 5) := hl0.r 0 6 rfl rfl
  have hr7 : zq_r X a 7 = (a + 6) := hl0.r 0 7 rfl rfl
  have hr15 : zq_r X a 15 = (a + 7) := hl0.r 0 15 rfl rfl
  have hr17 : zq_r X a 17 = (a + 8) := hl0.r 0 17 rfl rfl
  have hr19 : zq_r X a 19 = (a + 9) := hl0.r 0 19 rfl rfl
  have hr20 : zq_r X a 20 = (a + 10) := hl0.r 0 20 rfl rfl
  have hr24 : zq_r X a 24 = (a + 11) := hl0.r 0 24 rfl rfl
  have hr26 : zq_r X a 26 = (a + 12) := hl0.r 0 26 rfl rfl
  have hr27 : zq_r X a 27 = (a + 13) := hl0.r 0 27 rfl rfl
  have hr28 : zq_r X a 28 = (a + 14) := hl0.r 0 28 rfl rfl
  have hr30 : zq_r X a 30 = (a + 15) := hl0.r 0 30 rfl rfl
  have hr31 : zq_r X a 31 = (a + 16) := hl0.r 0 31 rfl rfl
  have hr32 : zq_r X a 32 = (a + 17) := hl0.r 0 32 rfl rfl
  have hr33 : zq_r X a 33 = (a + 18) := hl0.r 0 33 rfl rfl
  refine zc_ret E hr hc hS hk0 (by decide) (fun j hj => ?_) hlocks dX12_init_163
  have hj : j < 34 := hj
  rcases (show j = 0 ∨ j = 1 ∨ j = 2 ∨ j = 3 ∨ j = 4 ∨ j = 5 ∨ j = 6 ∨ j = 7 ∨ j = 8 ∨ j = 9 ∨ j = 10 ∨ j = 11 ∨ j = 12 ∨ j = 13 ∨ j = 14 ∨ j = 15 ∨ j = 16 ∨ j = 17 ∨ j = 18 ∨ j = 19 ∨ j = 20 ∨ j = 21 ∨ j = 22 ∨ j = 23 ∨ j = 24 ∨ j = 25 ∨ j = 26 ∨ j = 27 ∨ j = 28 ∨ j = 29 ∨ j = 30 ∨ j = 31 ∨ j = 32 ∨ j = 33 by omega) with rfl | rfl | rfl | rfl | rfl | rfl | rfl | rfl | rfl | rfl | rfl | rfl | rfl | rfl | rfl | rfl | rfl | rfl | rfl | rfl | rfl | rfl | rfl | rfl | rfl | rfl | rfl | rfl | rfl | rfl | rfl | rfl | rfl | rfl
  · show Value.ref (a + 1) = Value.ref (zq_r X a 0); rw [hr0]
  · show Value.int (0) = Value.int (zv0 (zq_k X a) 1); rw [hk0]; rfl
  · show Value.int (0) = Value.int (zv0 (zq_k X a) 2); rw [hk0]; rfl
  · show Value.ref (a + 2) = Value.ref (zq_r X a 3); rw [hr3]
  · show Value.ref (a + 3) = Value.ref (zq_r X a 4); rw [hr4]
  · show Value.ref (a + 4) = Value.ref (zq_r X a 5); rw [hr5]
  · show Value.ref (a + 5) = Value.ref (zq_r X a 6); rw [hr6]
  · show Value.ref (a + 6) = Value.ref (zq_r X a 7); rw [hr7]
  · show Value.int (0) = Value.int (zv0 (zq_k X a) 8); rw [hk0]; rfl
  · show Value.int (0) = Value.int (zv0 (zq_k X a) 9); rw [hk0]; rfl
  · show Value.int (0) = Value.int (zv0 (zq_k X a) 10); rw [hk0]; rfl
  · show Value.int (0) = Value.int (zv0 (zq_k X a) 11); rw [hk0]; rfl
  · show Value.int (0) = Value.int (zv0 (zq_k X a) 12); rw [hk0]; rfl
  · show Value.int (0) = Value.int (zv0 (zq_k X a) 13); rw [hk0]; rfl
  · show Value.int (0) = Value.int (zv0 (zq_k X a) 14); rw [hk0]; rfl
  · show Value.ref (a + 7) = Value.ref (zq_r X a 15); rw [hr15]
  · show Value.int (0) = Value.int (zv0 (zq_k X a) 16); rw [hk0]; rfl
  · show Value.ref (a + 8) = Value.ref (zq_r X a 17); rw [hr17]
  · show Value.int (0) = Value.int (zv0 (zq_k X a) 18); rw [hk0]; rfl
  · show Value.ref (a + 9) = Value.ref (zq_r X a 19); rw [hr19]
  · show Value.ref (a + 10) = Value.ref (zq_r X a 20); rw [hr20]
  · show Value.int (-1) = Value.int (zv0 (zq_k X a) 21); rw [hk0]; rfl
  · show Value.int (0) = Value.int (zv0 (zq_k X a) 22); rw [hk0]; rfl
  · show Value.int (100) = Value.int (zv0 (zq_k X a) 23); rw [hk0]; rfl
  · show Value.ref (a + 11) = Value.ref (zq_r X a 24); rw [hr24]
  · show Value.int (0) = Value.int (zv0 (zq_k X a) 25); rw [hk0]; rfl
  · show Value.ref (a + 12) = Value.ref (zq_r X a 26); rw [hr26]
  · show Value.ref (a + 13) = Value.ref (zq_r X a 27); rw [hr27]
  · show Value.ref (a + 14) = Value.ref (zq_r X a 28); rw [hr28]
  · exact ⟨0, rfl⟩
  · show Value.ref (a + 15) = Value.ref (zq_r X a 30); rw [hr30]
  · show Value.ref (a + 16) = Value.ref (zq_r X a 31); rw [hr31]
  · show Value.ref (a + 17) = Value.ref (zq_r X a 32); rw [hr32]
  · show Value.ref (a + 18) = Value.ref (zq_r X a 33); rw [hr33]
