set_option maxHeartbeats 8000000 in
set_option maxRecDepth 100000 in
theorem c_X11_init (l : Launch) (X : zq_X) (a : Nat) (hl0 : zLay X a 9) (hled : ∀ a, zLay X a 2 → zcM l X yX1_init cX1_init 1 3 2 a 20 516) : zcM l X yX11_init cX11_init 2 4 9 a 480 10158 := by
  refine Met.ofW (cc := cX11_init) (maxL := 2) (ret := none) (by decide) rfl ?_
  intro p e s m args below meth c s₁ B hml hv
  obtain ⟨hargs, ⟨hsz, hh0, hob, hold⟩, hK⟩ := hv
  have hown : s.vm.findClass RX11 = some m.cls := findClass_of_methodNamed B.named
  have hts := atoms_spec (ws := zt_w yX11_init cX11_init 2 none) B.pre
  have E : CallFix p m c cX11_init 2 s args (Cond.code yX11_init cX11_init 2 none :: zt) RX11 := ⟨B.exec, B.bytes, hml, hown, hts⟩
  have hx := B.exec
  have hb := B.bytes
  have hr := B.returns
  have hlocks := B.notSynchronized
  have hin : meth.name = "<init>" := (name_of_methodNamed B.named B.method).1
  clear B
  have hk0 : zq_k X a = 9 := hl0.k 0 rfl rfl
  have hc : zcs X 9 a 0 (zdV 9) [] s.heap := ⟨hsz, hob, fun q h1 h2 => absurd h2 (by omega), fun e he => absurd he List.not_mem_nil, hold, hh0⟩
  have hS : va_S (zcA a) s.heap s.heap [] := va_S.rf
  have hl := lv_entry ([.ref a]) (n := 2) (Nat.le_of_ble_eq_true rfl)
  have hg : entryFrame m args 2 = F0 m 0 ((lg_sl ([.ref a]) ++ List.replicate (2 - (lg_sl ([.ref a])).length) Slot.unset).toArray) [] := by rw [hargs]; exact lg_entry_eq m ([.ref a]) 2
  rw [hg]
  clear hg hargs
  generalize (lg_sl ([.ref a]) ++ List.replicate (2 - (lg_sl ([.ref a])).length) Slot.unset).toArray = ls at hl ⊢
  have hl : lv_has ls 2 [(0, .ref a)] := hl
  obtain ⟨R, hRm⟩ : ∃ R : Room, R = (headSpec (zt_w yX11_init cX11_init 2 none) (zc_rm 4 480 10158)).room := ⟨_, rfl⟩
  rw [← hRm]
  have hRr : R.frames = 4 ∧ R.cells = 480 ∧ R.slots = 10158 ∧ R.locals = 256 := by rw [hRm]; exact ⟨rfl, rfl, rfl, rfl⟩
  generalize hQ : MQ below _ args s _ _ (zcA a) = Q
  obtain ⟨H, hH⟩ : ∃ H, H = s.heap := ⟨_, rfl⟩
  obtain ⟨locs, hlo⟩ : ∃ x : List Loc, x = [] := ⟨_, rfl⟩
  rw [show W p l e R s m args below meth c s.heap [] 0 0 Q = W p l e R s m args below meth c H locs 0 0 Q by rw [hH, hlo]]
  have hc : zcs X 9 a 0 (zdV 9) [] H := by rw [hH]; exact hc
  have hS : va_S (zcA a) s.heap H locs := by rw [hH, hlo]; exact hS
  clear hH hlo
  refine lv_aload_n hx hb dX11_init_0 rfl (lv_at hl 0 rfl) ?_
  refine zc_obj E zcm_X11_1 zcx_O zcc_O hl.1 ⟨by omega, by omega⟩ dX11_init_1 ?_
  refine lv_aload_n hx hb dX11_init_4 rfl (lv_at hl 0 rfl) ?_
  refine zc_make (k2 := 6) (N2 := 10) (c2 := 6) (n2 := 2025) (d := 3) (maxL := 2) E hK hc hS (c_X6_init l X (a + 1 + 0) (hl0.sub 1 6 (by decide +kernel))) rfl rfl iz_X6 tyX6 tyX6_ok zdv_X6 zcl_X11_7 zci_X6 zcn_X6 zcm_X11_9 zcx_X6 zcc_X6 ⟨rfl, rfl⟩ (by decide +kernel) ⟨⟨by omega, by omega⟩, by omega, by omega⟩ hl.1 (Nat.le_of_ble_eq_true rfl) dX11_init_5 dX11_init_8 dX11_init_9 (fun H locs hc hS => ?_)
  refine W.widen (k := 7) (n := 2035) (by omega) (by omega) ?_
  have hc : zcs X 9 a 7 _ [] H := hc
  refine zc_putF (j := 0) E hc hS (zc_G.of (C := RX11) (T := TX11) (N := 12) E hK rfl iz_X11 rfl tyX11 tyX11_ok nmX11 (by decide) rfl rfl rfl zLX11_10) hin (by decide) rfl rfl dX11_init_12 (fun H locs hc hS => ?_)
  refine lv_aload_n hx hb dX11_init_15 rfl (lv_at hl 0 rfl) ?_
  refine lv_bipush (v := 6) hx hb dX11_init_16 (by decide +kernel) ?_
  refine zc_anew (t := 4) (N := 6) (C := RX3) E hK hc hS zcl_X11_16 (hK.2.1) rfl (by decide +kernel) (by decide +kernel) (by decide +kernel) (by omega) (by omega) dX11_init_18 (fun H hc hS => ?_)
  refine W.widen (k := 8) (n := 2041) (by omega) (by omega) ?_
  have hc : zcs X 9 a 8 _ _ H := hc
  refine zc_putF (j := 1) E hc hS (zc_G.of (C := RX11) (T := TX11) (N := 12) E hK rfl iz_X11 rfl tyX11 tyX11_ok nmX11 (by decide) rfl rfl rfl zLX11_18) hin (by decide) rfl rfl dX11_init_21 (fun H locs hc hS => ?_)
  refine lv_iconst (v := 0) hx hb dX11_init_24 (by decide +kernel) ?_
  refine lv_istore_n (lv' := [(1, .int (0 : Int32)), (0, .ref a)]) hx hb dX11_init_25 rfl hl (by decide) rfl (fun ls hl => ?_)
  refine lv_iload_n hx hb dX11_init_26 rfl (lv_at hl 0 rfl) ?_
  refine lv_aload_n hx hb dX11_init_27 rfl (lv_at hl 1 rfl) ?_
  refine zc_get (j := 1) (v := .ref (a + 8)) E hc (zFX11_18 E hK.1) (by decide) rfl dX11_init_28 ?_
  refine zc_alen (b := (a + 8)) (nn := 6) E hK hc rfl (by decide +kernel) dX11_init_31 ?_
  refine lv_icmp_ge (tgt := 54) hx hb dX11_init_32 (by decide) (fun b => absurd b (by decide +kernel)) (fun b => ?_)
  refine lv_aload_n hx hb dX11_init_35 rfl (lv_at hl 1 rfl) ?_
  refine zc_get (j := 1) (v := .ref (a + 8)) E hc (zFX11_18 E hK.1) (by decide) rfl dX11_init_36 ?_
  refine lv_iload_n hx hb dX11_init_39 rfl (lv_at hl 0 rfl) ?_
  refine zc_make (k2 := 4) (N2 := 16) (c2 := 12) (n2 := 821) (d := 1) (maxL := 1) E hK hc hS (c_X3_init l X (a + 1 + 8) (hl0.sub 9 4 (by decide +kernel))) rfl rfl iz_X3 tyX3 tyX3_ok zdv_X3 zcl_X11_16 zci_X3 zcn_X3 zcm_X11_22 zcx_X3 zcc_X3 ⟨rfl, rfl⟩ (by decide +kernel) ⟨⟨by omega, by omega⟩, by omega, by omega⟩ hl.1 (Nat.le_of_ble_eq_true rfl) dX11_init_40 dX11_init_43 dX11_init_44 (fun H locs hc hS => ?_)
  refine W.widen (k := 21) (n := 2878) (by omega) (by omega) ?_
  have hc : zcs X 9 a 21 _ _ H := hc
  have hk : zq_k X (a + 9) = 4 := hl0.k 9 rfl rfl
  refine zc_aast' (b := (a + 8)) (x' := 0) (k3 := 4) E hK hc hS (fun e he => absurd he List.not_mem_nil) rfl rfl hk (by decide) ⟨by omega, by omega, by omega⟩ (fun e he => absurd he List.not_mem_nil) (by decide +kernel) (by decide +kernel) dX11_init_47 (fun H locs hc hS => ?_)
  refine lv_iinc (v := (1 : Int32)) (lv' := [(1, .int (1 : Int32)), (0, .ref a)]) hx hb dX11_init_48 hl (k := 0) rfl (by decide +kernel) (by decide) rfl (fun ls hl => ?_)
  refine lv_goto (tgt := 26) hx hb dX11_init_51 (by decide) ?_
  refine lv_iload_n hx hb dX11_init_26 rfl (lv_at hl 0 rfl) ?_
  refine lv_aload_n hx hb dX11_init_27 rfl (lv_at hl 1 rfl) ?_
  refine zc_get (j := 1) (v := .ref (a + 8)) E hc (zFX11_18 E hK.1) (by decide) rfl dX11_init_28 ?_
  refine zc_alen (b := (a + 8)) (nn := 6) E hK hc rfl (by decide +kernel) dX11_init_31 ?_
  refine lv_icmp_ge (tgt := 54) hx hb dX11_init_32 (by decide) (fun b => absurd b (by decide +kernel)) (fun b => ?_)
  refine lv_aload_n hx hb dX11_init_35 rfl (lv_at hl 1 rfl) ?_
  refine zc_get (j := 1) (v := .ref (a + 8)) E hc (zFX11_18 E hK.1) (by decide) rfl dX11_init_36 ?_
  refine lv_iload_n hx hb dX11_init_39 rfl (lv_at hl 0 rfl) ?_
  refine zc_make (k2 := 4) (N2 := 16) (c2 := 12) (n2 := 821) (d := 1) (maxL := 1) E hK hc hS (c_X3_init l X (a + 1 + 21) (hl0.sub 22 4 (by decide +kernel))) rfl rfl iz_X3 tyX3 tyX3_ok zdv_X3 zcl_X11_16 zci_X3 zcn_X3 zcm_X11_22 zcx_X3 zcc_X3 ⟨rfl, rfl⟩ (by decide +kernel) ⟨⟨by omega, by omega⟩, by omega, by omega⟩ hl.1 (Nat.le_of_ble_eq_true rfl) dX11_init_40 dX11_init_43 dX11_init_44 (fun H locs hc hS => ?_)
  refine W.widen (k := 34) (n := 3715) (by omega) (by omega) ?_
  have hc : zcs X 9 a 34 _ _ H := hc
  have hk : zq_k X (a + 22) = 4 := hl0.k 22 rfl rfl
  refine zc_aast' (b := (a + 8)) (x' := 1) (k3 := 4) E hK hc hS (fun e he => absurd he List.not_mem_nil) rfl rfl hk (by decide) ⟨by omega, by omega, by omega⟩ (fun e he => absurd he List.not_mem_nil) (by decide +kernel) (by decide +kernel) dX11_init_47 (fun H locs hc hS => ?_)
  refine lv_iinc (v := (2 : Int32)) (lv' := [(1, .int (2 : Int32)), (0, .ref a)]) hx hb dX11_init_48 hl (k := 0) rfl (by decide +kernel) (by decide) rfl (fun ls hl => ?_)
  refine lv_goto (tgt := 26) hx hb dX11_init_51 (by decide) ?_
  refine lv_iload_n hx hb dX11_init_26 rfl (lv_at hl 0 rfl) ?_
  refine lv_aload_n hx hb dX11_init_27 rfl (lv_at hl 1 rfl) ?_
  refine zc_get (j := 1) (v := .ref (a + 8)) E hc (zFX11_18 E hK.1) (by decide) rfl dX11_init_28 ?_
  refine zc_alen (b := (a + 8)) (nn := 6) E hK hc rfl (by decide +kernel) dX11_init_31 ?_
  refine lv_icmp_ge (tgt := 54) hx hb dX11_init_32 (by decide) (fun b => absurd b (by decide +kernel)) (fun b => ?_)
  refine lv_aload_n hx hb dX11_init_35 rfl (lv_at hl 1 rfl) ?_
  refine zc_get (j := 1) (v := .ref (a + 8)) E hc (zFX11_18 E hK.1) (by decide) rfl dX11_init_36 ?_
  refine lv_iload_n hx hb dX11_init_39 rfl (lv_at hl 0 rfl) ?_
  refine zc_make (k2 := 4) (N2 := 16) (c2 := 12) (n2 := 821) (d := 1) (maxL := 1) E hK hc hS (c_X3_init l X (a + 1 + 34) (hl0.sub 35 4 (by decide +kernel))) rfl rfl iz_X3 tyX3 tyX3_ok zdv_X3 zcl_X11_16 zci_X3 zcn_X3 zcm_X11_22 zcx_X3 zcc_X3 ⟨rfl, rfl⟩ (by decide +kernel) ⟨⟨by omega, by omega⟩, by omega, by omega⟩ hl.1 (Nat.le_of_ble_eq_true rfl) dX11_init_40 dX11_init_43 dX11_init_44 (fun H locs hc hS => ?_)
  refine W.widen (k := 47) (n := 4552) (by omega) (by omega) ?_
  have hc : zcs X 9 a 47 _ _ H := hc
  have hk : zq_k X (a + 35) = 4 := hl0.k 35 rfl rfl
  refine zc_aast' (b := (a + 8)) (x' := 2) (k3 := 4) E hK hc hS (fun e he => absurd he List.not_mem_nil) rfl rfl hk (by decide) ⟨by omega, by omega, by omega⟩ (fun e he => absurd he List.not_mem_nil) (by decide +kernel) (by decide +kernel) dX11_init_47 (fun H locs hc hS => ?_)
  refine lv_iinc (v := (3 : Int32)) (lv' := [(1, .int (3 : Int32)), (0, .ref a)]) hx hb dX11_init_48 hl (k := 0) rfl (by decide +kernel) (by decide) rfl (fun ls hl => ?_)
  refine lv_goto (tgt := 26) hx hb dX11_init_51 (by decide) ?_
  refine lv_iload_n hx hb dX11_init_26 rfl (lv_at hl 0 rfl) ?_
  refine lv_aload_n hx hb dX11_init_27 rfl (lv_at hl 1 rfl) ?_
  refine zc_get (j := 1) (v := .ref (a + 8)) E hc (zFX11_18 E hK.1) (by decide) rfl dX11_init_28 ?_
  refine zc_alen (b := (a + 8)) (nn := 6) E hK hc rfl (by decide +kernel) dX11_init_31 ?_
  refine lv_icmp_ge (tgt := 54) hx hb dX11_init_32 (by decide) (fun b => absurd b (by decide +kernel)) (fun b => ?_)
  refine lv_aload_n hx hb dX11_init_35 rfl (lv_at hl 1 rfl) ?_
  refine zc_get (j := 1) (v := .ref (a + 8)) E hc (zFX11_18 E hK.1) (by decide) rfl dX11_init_36 ?_
  refine lv_iload_n hx hb dX11_init_39 rfl (lv_at hl 0 rfl) ?_
  refine zc_make (k2 := 4) (N2 := 16) (c2 := 12) (n2 := 821) (d := 1) (maxL := 1) E hK hc hS (c_X3_init l X (a + 1 + 47) (hl0.sub 48 4 (by decide +kernel))) rfl rfl iz_X3 tyX3 tyX3_ok zdv_X3 zcl_X11_16 zci_X3 zcn_X3 zcm_X11_22 zcx_X3 zcc_X3 ⟨rfl, rfl⟩ (by decide +kernel) ⟨⟨by omega, by omega⟩, by omega, by omega⟩ hl.1 (Nat.le_of_ble_eq_true rfl) dX11_init_40 dX11_init_43 dX11_init_44 (fun H locs hc hS => ?_)
  refine W.widen (k := 60) (n := 5389) (by omega) (by omega) ?_
  have hc : zcs X 9 a 60 _ _ H := hc
  have hk : zq_k X (a + 48) = 4 := hl0.k 48 rfl rfl
  refine zc_aast' (b := (a + 8)) (x' := 3) (k3 := 4) E hK hc hS (fun e he => absurd he List.not_mem_nil) rfl rfl hk (by decide) ⟨by omega, by omega, by omega⟩ (fun e he => absurd he List.not_mem_nil) (by decide +kernel) (by decide +kernel) dX11_init_47 (fun H locs hc hS => ?_)
  refine lv_iinc (v := (4 : Int32)) (lv' := [(1, .int (4 : Int32)), (0, .ref a)]) hx hb dX11_init_48 hl (k := 0) rfl (by decide +kernel) (by decide) rfl (fun ls hl => ?_)
  refine lv_goto (tgt := 26) hx hb dX11_init_51 (by decide) ?_
  refine lv_iload_n hx hb dX11_init_26 rfl (lv_at hl 0 rfl) ?_
  refine lv_aload_n hx hb dX11_init_27 rfl (lv_at hl 1 rfl) ?_
  refine zc_get (j := 1) (v := .ref (a + 8)) E hc (zFX11_18 E hK.1) (by decide) rfl dX11_init_28 ?_
  refine zc_alen (b := (a + 8)) (nn := 6) E hK hc rfl (by decide +kernel) dX11_init_31 ?_
  refine lv_icmp_ge (tgt := 54) hx hb dX11_init_32 (by decide) (fun b => absurd b (by decide +kernel)) (fun b => ?_)
  refine lv_aload_n hx hb dX11_init_35 rfl (lv_at hl 1 rfl) ?_
  refine zc_get (j := 1) (v := .ref (a + 8)) E hc (zFX11_18 E hK.1) (by decide) rfl dX11_init_36 ?_
  refine lv_iload_n hx hb dX11_init_39 rfl (lv_at hl 0 rfl) ?_
  refine zc_make (k2 := 4) (N2 := 16) (c2 := 12) (n2 := 821) (d := 1) (maxL := 1) E hK hc hS (c_X3_init l X (a + 1 + 60) (hl0.sub 61 4 (by decide +kernel))) rfl rfl iz_X3 tyX3 tyX3_ok zdv_X3 zcl_X11_16 zci_X3 zcn_X3 zcm_X11_22 zcx_X3 zcc_X3 ⟨rfl, rfl⟩ (by decide +kernel) ⟨⟨by omega, by omega⟩, by omega, by omega⟩ hl.1 (Nat.le_of_ble_eq_true rfl) dX11_init_40 dX11_init_43 dX11_init_44 (fun H locs hc hS => ?_)
  refine W.widen (k := 73) (n := 6226) (by omega) (by omega) ?_
  have hc : zcs X 9 a 73 _ _ H := hc
  have hk : zq_k X (a + 61) = 4 := hl0.k 61 rfl rfl
  refine zc_aast' (b := (a + 8)) (x' := 4) (k3 := 4) E hK hc hS (fun e he => absurd he List.not_mem_nil) rfl rfl hk (by decide) ⟨by omega, by omega, by omega⟩ (fun e he => absurd he List.not_mem_nil) (by decide +kernel) (by decide +kernel) dX11_init_47 (fun H locs hc hS => ?_)
  refine lv_iinc (v := (5 : Int32)) (lv' := [(1, .int (5 : Int32)), (0, .ref a)]) hx hb dX11_init_48 hl (k := 0) rfl (by decide +kernel) (by decide) rfl (fun ls hl => ?_)
  refine lv_goto (tgt := 26) hx hb dX11_init_51 (by decide) ?_
  refine lv_iload_n hx hb dX11_init_26 rfl (lv_at hl 0 rfl) ?_
  refine lv_aload_n hx hb dX11_init_27 rfl (lv_at hl 1 rfl) ?_
  refine zc_get (j := 1) (v := .ref (a + 8)) E hc (zFX11_18 E hK.1) (by decide) rfl dX11_init_28 ?_
  refine zc_alen (b := (a + 8)) (nn := 6) E hK hc rfl (by decide +kernel) dX11_init_31 ?_
  refine lv_icmp_ge (tgt := 54) hx hb dX11_init_32 (by decide) (fun b => absurd b (by decide +kernel)) (fun b => ?_)
  refine lv_aload_n hx hb dX11_init_35 rfl (lv_at hl 1 rfl) ?_
  refine zc_get (j := 1) (v := .ref (a + 8)) E hc (zFX11_18 E hK.1) (by decide) rfl dX11_init_36 ?_
  refine lv_iload_n hx hb dX11_init_39 rfl (lv_at hl 0 rfl) ?_
  refine zc_make (k2 := 4) (N2 := 16) (c2 := 12) (n2 := 821) (d := 1) (maxL := 1) E hK hc hS (c_X3_init l X (a + 1 + 73) (hl0.sub 74 4 (by decide +kernel))) rfl rfl iz_X3 tyX3 tyX3_ok zdv_X3 zcl_X11_16 zci_X3 zcn_X3 zcm_X11_22 zcx_X3 zcc_X3 ⟨rfl, rfl⟩ (by decide +kernel) ⟨⟨by omega, by omega⟩, by omega, by omega⟩ hl.1 (Nat.le_of_ble_eq_true rfl) dX11_init_40 dX11_init_43 dX11_init_44 (fun H locs hc hS => ?_)
  refine W.widen (k := 86) (n := 7063) (by omega) (by omega) ?_
  have hc : zcs X 9 a 86 _ _ H := hc
  have hk : zq_k X (a + 74) = 4 := hl0.k 74 rfl rfl
  refine zc_aast' (b := (a + 8)) (x' := 5) (k3 := 4) E hK hc hS (fun e he => absurd he List.not_mem_nil) rfl rfl hk (by decide) ⟨by omega, by omega, by omega⟩ (fun e he => absurd he List.not_mem_nil) (by decide +kernel) (by decide +kernel) dX11_init_47 (fun H locs hc hS => ?_)
  refine lv_iinc (v := (6 : Int32)) (lv' := [(1, .int (6 : Int32)), (0, .ref a)]) hx hb dX11_init_48 hl (k := 0) rfl (by decide +kernel) (by decide) rfl (fun ls hl => ?_)
  refine lv_goto (tgt := 26) hx hb dX11_init_51 (by decide) ?_
  refine lv_iload_n hx hb dX11_init_26 rfl (lv_at hl 0 rfl) ?_
  refine lv_aload_n hx hb dX11_init_27 rfl (lv_at hl 1 rfl) ?_
  refine zc_get (j := 1) (v := .ref (a + 8)) E hc (zFX11_18 E hK.1) (by decide) rfl dX11_init_28 ?_
  refine zc_alen (b := (a + 8)) (nn := 6) E hK hc rfl (by decide +kernel) dX11_init_31 ?_
  refine lv_icmp_ge (tgt := 54) hx hb dX11_init_32 (by decide) (fun b => ?_) (fun b => absurd (by decide +kernel) b)
  have hkb : zq_k X (a + 8) = 39 := hl0.k 8 rfl rfl
  have hr0 : zq_r X (a + 8) 0 = (a + 9) := hl0.r 8 0 rfl rfl
  have hr1 : zq_r X (a + 8) 1 = (a + 22) := hl0.r 8 1 rfl rfl
  have hr2 : zq_r X (a + 8) 2 = (a + 35) := hl0.r 8 2 rfl rfl
  have hr3 : zq_r X (a + 8) 3 = (a + 48) := hl0.r 8 3 rfl rfl
  have hr4 : zq_r X (a + 8) 4 = (a + 61) := hl0.r 8 4 rfl rfl
  have hr5 : zq_r X (a + 8) 5 = (a + 74) := hl0.r 8 5 rfl rfl
  have hc := hc.close hkb (by decide) rfl (fun j hj => by
    rcases (show j = 0 ∨ j = 1 ∨ j = 2 ∨ j = 3 ∨ j = 4 ∨ j = 5 by omega) with rfl | rfl | rfl | rfl | rfl | rfl
    · show Value.ref (a + 9) = Value.ref (zq_r X (a + 8) 0); rw [hr0]
    · show Value.ref (a + 22) = Value.ref (zq_r X (a + 8) 1); rw [hr1]
    · show Value.ref (a + 35) = Value.ref (zq_r X (a + 8) 2); rw [hr2]
    · show Value.ref (a + 48) = Value.ref (zq_r X (a + 8) 3); rw [hr3]
    · show Value.ref (a + 61) = Value.ref (zq_r X (a + 8) 4); rw [hr4]
    · show Value.ref (a + 74) = Value.ref (zq_r X (a + 8) 5); rw [hr5])
  clear hr0 hr1 hr2 hr3 hr4 hr5
  refine lv_aload_n hx hb dX11_init_54 rfl (lv_at hl 1 rfl) ?_
  refine zc_make (k2 := 1) (N2 := 7) (c2 := 24) (n2 := 170) (d := 3) (maxL := 1) E hK hc hS (c_X0_init l X (a + 1 + 86) (hl0.sub 87 1 (by decide +kernel))) rfl rfl iz_X0 tyX0 tyX0_ok zdv_X0 zcl_X11_23 zci_X0 zcn_X0 zcm_X11_25 zcx_X0 zcc_X0 ⟨rfl, rfl⟩ (by decide +kernel) ⟨⟨by omega, by omega⟩, by omega, by omega⟩ hl.1 (Nat.le_of_ble_eq_true rfl) dX11_init_55 dX11_init_58 dX11_init_59 (fun H locs hc hS => ?_)
  refine W.widen (k := 111) (n := 7240) (by omega) (by omega) ?_
  have hc : zcs X 9 a 111 _ [] H := hc
  refine zc_putF (j := 3) E hc hS (zc_G.of (C := RX11) (T := TX11) (N := 12) E hK rfl iz_X11 rfl tyX11 tyX11_ok nmX11 (by decide) rfl rfl rfl zLX11_26) hin (by decide) rfl rfl dX11_init_62 (fun H locs hc hS => ?_)
  refine lv_aload_n hx hb dX11_init_65 rfl (lv_at hl 1 rfl) ?_
  refine zc_make (k2 := 8) (N2 := 10) (c2 := 10) (n2 := 65) (d := 2) (maxL := 2) E hK hc hS (c_X10_init l X (a + 1 + 111) (hl0.sub 112 8 (by decide +kernel))) rfl rfl iz_X10 tyX10 tyX10_ok zdv_X10 zcl_X11_30 zci_X10 zcn_X10 zcm_X11_32 zcx_X10 zcc_X10 ⟨rfl, rfl⟩ (by decide +kernel) ⟨⟨by omega, by omega⟩, by omega, by omega⟩ hl.1 (Nat.le_of_ble_eq_true rfl) dX11_init_66 dX11_init_69 dX11_init_70 (fun H locs hc hS => ?_)
  refine W.widen (k := 122) (n := 7315) (by omega) (by omega) ?_
  have hc : zcs X 9 a 122 _ [] H := hc
  refine zc_putF (j := 4) E hc hS (zc_G.of (C := RX11) (T := TX11) (N := 12) E hK rfl iz_X11 rfl tyX11 tyX11_ok nmX11 (by decide) rfl rfl rfl zLX11_33) hin (by decide) rfl rfl dX11_init_73 (fun H locs hc hS => ?_)
  refine lv_aload_n hx hb dX11_init_76 rfl (lv_at hl 1 rfl) ?_
  refine lv_iconst (v := 4) hx hb dX11_init_77 (by decide +kernel) ?_
  refine zc_anew (t := 6) (N := 4) (C := RX0) E hK hc hS zcl_X11_23 (hK.2.2.2.1) rfl (by decide +kernel) (by decide +kernel) (by decide +kernel) (by omega) (by omega) dX11_init_78 (fun H hc hS => ?_)
  refine W.widen (k := 123) (n := 7319) (by omega) (by omega) ?_
  have hc : zcs X 9 a 123 _ _ H := hc
  refine zc_putF (j := 5) E hc hS (zc_G.of (C := RX11) (T := TX11) (N := 12) E hK rfl iz_X11 rfl tyX11 tyX11_ok nmX11 (by decide) rfl rfl rfl zLX11_37) hin (by decide) rfl rfl dX11_init_81 (fun H locs hc hS => ?_)
  refine lv_aload_n hx hb dX11_init_84 rfl (lv_at hl 1 rfl) ?_
  refine lv_iconst (v := 4) hx hb dX11_init_85 (by decide +kernel) ?_
  have hk : zq_k X (a + 1 + 123) = 41 := hl0.k 124 rfl rfl
  refine zc_newa (t := 1) (N := 4) (k2 := 41) (ty := .boolean) E hK hc hS rfl zca_boolean rfl (fun q => q) hk (by decide) rfl (fun j => by show Value.int 0 = Value.int (zv0 (zq_k X (a + 1 + 123)) j); rw [hk, zv0_arr (by decide)]) (by decide +kernel) (by decide +kernel) (by decide +kernel) (by omega) (by omega) dX11_init_86 (fun H hc hS => ?_)
  refine W.widen (k := 124) (n := 7323) (by omega) (by omega) ?_
  have hc : zcs X 9 a 124 _ _ H := hc
  refine zc_putF (j := 6) E hc hS (zc_G.of (C := RX11) (T := TX11) (N := 12) E hK rfl iz_X11 rfl tyX11 tyX11_ok nmX11 (by decide) rfl rfl rfl zLX11_41) hin (by decide) rfl rfl dX11_init_88 (fun H locs hc hS => ?_)
  refine lv_iconst (v := 0) hx hb dX11_init_91 (by decide +kernel) ?_
  refine lv_istore_n (lv' := [(1, .int (0 : Int32)), (0, .ref a)]) hx hb dX11_init_92 rfl hl (by decide) rfl (fun ls hl => ?_)
  refine lv_iload_n hx hb dX11_init_93 rfl (lv_at hl 0 rfl) ?_
  refine lv_aload_n hx hb dX11_init_94 rfl (lv_at hl 1 rfl) ?_
  refine zc_get (j := 5) (v := .ref (a + 123)) E hc (zFX11_37 E hK.1) (by decide) rfl dX11_init_95 ?_
  refine zc_alen (b := (a + 123)) (nn := 4) E hK hc rfl (by decide +kernel) dX11_init_98 ?_
  refine lv_icmp_ge (tgt := 121) hx hb dX11_init_99 (by decide) (fun b => absurd b (by decide +kernel)) (fun b => ?_)
  refine lv_aload_n hx hb dX11_init_102 rfl (lv_at hl 1 rfl) ?_
  refine zc_get (j := 5) (v := .ref (a + 123)) E hc (zFX11_37 E hK.1) (by decide) rfl dX11_init_103 ?_
  refine lv_iload_n hx hb dX11_init_106 rfl (lv_at hl 0 rfl) ?_
  refine zc_make (k2 := 1) (N2 := 7) (c2 := 24) (n2 := 170) (d := 3) (maxL := 1) E hK hc hS (c_X0_init l X (a + 1 + 124) (hl0.sub 125 1 (by decide +kernel))) rfl rfl iz_X0 tyX0 tyX0_ok zdv_X0 zcl_X11_23 zci_X0 zcn_X0 zcm_X11_25 zcx_X0 zcc_X0 ⟨rfl, rfl⟩ (by decide +kernel) ⟨⟨by omega, by omega⟩, by omega, by omega⟩ hl.1 (Nat.le_of_ble_eq_true rfl) dX11_init_107 dX11_init_110 dX11_init_111 (fun H locs hc hS => ?_)
  refine W.widen (k := 149) (n := 7500) (by omega) (by omega) ?_
  have hc : zcs X 9 a 149 _ _ H := hc
  have hk : zq_k X (a + 125) = 1 := hl0.k 125 rfl rfl
  refine zc_aast' (b := (a + 123)) (x' := 0) (k3 := 1) E hK hc hS (fun e he => absurd he List.not_mem_nil) rfl rfl hk (by decide) ⟨by omega, by omega, by omega⟩ (fun e he => absurd he List.not_mem_nil) (by decide +kernel) (by decide +kernel) dX11_init_114 (fun H locs hc hS => ?_)
  refine lv_iinc (v := (1 : Int32)) (lv' := [(1, .int (1 : Int32)), (0, .ref a)]) hx hb dX11_init_115 hl (k := 0) rfl (by decide +kernel) (by decide) rfl (fun ls hl => ?_)
  refine lv_goto (tgt := 93) hx hb dX11_init_118 (by decide) ?_
  refine lv_iload_n hx hb dX11_init_93 rfl (lv_at hl 0 rfl) ?_
  refine lv_aload_n hx hb dX11_init_94 rfl (lv_at hl 1 rfl) ?_
  refine zc_get (j := 5) (v := .ref (a + 123)) E hc (zFX11_37 E hK.1) (by decide) rfl dX11_init_95 ?_
  refine zc_alen (b := (a + 123)) (nn := 4) E hK hc rfl (by decide +kernel) dX11_init_98 ?_
  refine lv_icmp_ge (tgt := 121) hx hb dX11_init_99 (by decide) (fun b => absurd b (by decide +kernel)) (fun b => ?_)
  refine lv_aload_n hx hb dX11_init_102 rfl (lv_at hl 1 rfl) ?_
  refine zc_get (j := 5) (v := .ref (a + 123)) E hc (zFX11_37 E hK.1) (by decide) rfl dX11_init_103 ?_
  refine lv_iload_n hx hb dX11_init_106 rfl (lv_at hl 0 rfl) ?_
  refine zc_make (k2 := 1) (N2 := 7) (c2 := 24) (n2 := 170) (d := 3) (maxL := 1) E hK hc hS (c_X0_init l X (a + 1 + 149) (hl0.sub 150 1 (by decide +kernel))) rfl rfl iz_X0 tyX0 tyX0_ok zdv_X0 zcl_X11_23 zci_X0 zcn_X0 zcm_X11_25 zcx_X0 zcc_X0 ⟨rfl, rfl⟩ (by decide +kernel) ⟨⟨by omega, by omega⟩, by omega, by omega⟩ hl.1 (Nat.le_of_ble_eq_true rfl) dX11_init_107 dX11_init_110 dX11_init_111 (fun H locs hc hS => ?_)
  refine W.widen (k := 174) (n := 7677) (by omega) (by omega) ?_
  have hc : zcs X 9 a 174 _ _ H := hc
  have hk : zq_k X (a + 150) = 1 := hl0.k 150 rfl rfl
  refine zc_aast' (b := (a + 123)) (x' := 1) (k3 := 1) E hK hc hS (fun e he => absurd he List.not_mem_nil) rfl rfl hk (by decide) ⟨by omega, by omega, by omega⟩ (fun e he => absurd he List.not_mem_nil) (by decide +kernel) (by decide +kernel) dX11_init_114 (fun H locs hc hS => ?_)
  refine lv_iinc (v := (2 : Int32)) (lv' := [(1, .int (2 : Int32)), (0, .ref a)]) hx hb dX11_init_115 hl (k := 0) rfl (by decide +kernel) (by decide) rfl (fun ls hl => ?_)
  refine lv_goto (tgt := 93) hx hb dX11_init_118 (by decide) ?_
  refine lv_iload_n hx hb dX11_init_93 rfl (lv_at hl 0 rfl) ?_
  refine lv_aload_n hx hb dX11_init_94 rfl (lv_at hl 1 rfl) ?_
  refine zc_get (j := 5) (v := .ref (a + 123)) E hc (zFX11_37 E hK.1) (by decide) rfl dX11_init_95 ?_
  refine zc_alen (b := (a + 123)) (nn := 4) E hK hc rfl (by decide +kernel) dX11_init_98 ?_
  refine lv_icmp_ge (tgt := 121) hx hb dX11_init_99 (by decide) (fun b => absurd b (by decide +kernel)) (fun b => ?_)
  refine lv_aload_n hx hb dX11_init_102 rfl (lv_at hl 1 rfl) ?_
  refine zc_get (j := 5) (v := .ref (a + 123)) E hc (zFX11_37 E hK.1) (by decide) rfl dX11_init_103 ?_
  refine lv_iload_n hx hb dX11_init_106 rfl (lv_at hl 0 rfl) ?_
  refine zc_make (k2 := 1) (N2 := 7) (c2 := 24) (n2 := 170) (d := 3) (maxL := 1) E hK hc hS (c_X0_init l X (a + 1 + 174) (hl0.sub 175 1 (by decide +kernel))) rfl rfl iz_X0 tyX0 tyX0_ok zdv_X0 zcl_X11_23 zci_X0 zcn_X0 zcm_X11_25 zcx_X0 zcc_X0 ⟨rfl, rfl⟩ (by decide +kernel) ⟨⟨by omega, by omega⟩, by omega, by omega⟩ hl.1 (Nat.le_of_ble_eq_true rfl) dX11_init_107 dX11_init_110 dX11_init_111 (fun H locs hc hS => ?_)
  refine W.widen (k := 199) (n := 7854) (by omega) (by omega) ?_
  have hc : zcs X 9 a 199 _ _ H := hc
  have hk : zq_k X (a + 175) = 1 := hl0.k 175 rfl rfl
  refine zc_aast' (b := (a + 123)) (x' := 2) (k3 := 1) E hK hc hS (fun e he => absurd he List.not_mem_nil) rfl rfl hk (by decide) ⟨by omega, by omega, by omega⟩ (fun e he => absurd he List.not_mem_nil) (by decide +kernel) (by decide +kernel) dX11_init_114 (fun H locs hc hS => ?_)
  refine lv_iinc (v := (3 : Int32)) (lv' := [(1, .int (3 : Int32)), (0, .ref a)]) hx hb dX11_init_115 hl (k := 0) rfl (by decide +kernel) (by decide) rfl (fun ls hl => ?_)
  refine lv_goto (tgt := 93) hx hb dX11_init_118 (by decide) ?_
  refine lv_iload_n hx hb dX11_init_93 rfl (lv_at hl 0 rfl) ?_
  refine lv_aload_n hx hb dX11_init_94 rfl (lv_at hl 1 rfl) ?_
  refine zc_get (j := 5) (v := .ref (a + 123)) E hc (zFX11_37 E hK.1) (by decide) rfl dX11_init_95 ?_
  refine zc_alen (b := (a + 123)) (nn := 4) E hK hc rfl (by decide +kernel) dX11_init_98 ?_
  refine lv_icmp_ge (tgt := 121) hx hb dX11_init_99 (by decide) (fun b => absurd b (by decide +kernel)) (fun b => ?_)
  refine lv_aload_n hx hb dX11_init_102 rfl (lv_at hl 1 rfl) ?_
  refine zc_get (j := 5) (v := .ref (a + 123)) E hc (zFX11_37 E hK.1) (by decide) rfl dX11_init_103 ?_
  refine lv_iload_n hx hb dX11_init_106 rfl (lv_at hl 0 rfl) ?_
  refine zc_make (k2 := 1) (N2 := 7) (c2 := 24) (n2 := 170) (d := 3) (maxL := 1) E hK hc hS (c_X0_init l X (a + 1 + 199) (hl0.sub 200 1 (by decide +kernel))) rfl rfl iz_X0 tyX0 tyX0_ok zdv_X0 zcl_X11_23 zci_X0 zcn_X0 zcm_X11_25 zcx_X0 zcc_X0 ⟨rfl, rfl⟩ (by decide +kernel) ⟨⟨by omega, by omega⟩, by omega, by omega⟩ hl.1 (Nat.le_of_ble_eq_true rfl) dX11_init_107 dX11_init_110 dX11_init_111 (fun H locs hc hS => ?_)
  refine W.widen (k := 224) (n := 8031) (by omega) (by omega) ?_
  have hc : zcs X 9 a 224 _ _ H := hc
  have hk : zq_k X (a + 200) = 1 := hl0.k 200 rfl rfl
  refine zc_aast' (b := (a + 123)) (x' := 3) (k3 := 1) E hK hc hS (fun e he => absurd he List.not_mem_nil) rfl rfl hk (by decide) ⟨by omega, by omega, by omega⟩ (fun e he => absurd he List.not_mem_nil) (by decide +kernel) (by decide +kernel) dX11_init_114 (fun H locs hc hS => ?_)
  refine lv_iinc (v := (4 : Int32)) (lv' := [(1, .int (4 : Int32)), (0, .ref a)]) hx hb dX11_init_115 hl (k := 0) rfl (by decide +kernel) (by decide) rfl (fun ls hl => ?_)
  refine lv_goto (tgt := 93) hx hb dX11_init_118 (by decide) ?_
  refine lv_iload_n hx hb dX11_init_93 rfl (lv_at hl 0 rfl) ?_
  refine lv_aload_n hx hb dX11_init_94 rfl (lv_at hl 1 rfl) ?_
  refine zc_get (j := 5) (v := .ref (a + 123)) E hc (zFX11_37 E hK.1) (by decide) rfl dX11_init_95 ?_
  refine zc_alen (b := (a + 123)) (nn := 4) E hK hc rfl (by decide +kernel) dX11_init_98 ?_
  refine lv_icmp_ge (tgt := 121) hx hb dX11_init_99 (by decide) (fun b => ?_) (fun b => absurd (by decide +kernel) b)
  have hkb : zq_k X (a + 123) = 40 := hl0.k 123 rfl rfl
  have hr0 : zq_r X (a + 123) 0 = (a + 125) := hl0.r 123 0 rfl rfl
  have hr1 : zq_r X (a + 123) 1 = (a + 150) := hl0.r 123 1 rfl rfl
  have hr2 : zq_r X (a + 123) 2 = (a + 175) := hl0.r 123 2 rfl rfl
  have hr3 : zq_r X (a + 123) 3 = (a + 200) := hl0.r 123 3 rfl rfl
  have hc := hc.close hkb (by decide) rfl (fun j hj => by
    rcases (show j = 0 ∨ j = 1 ∨ j = 2 ∨ j = 3 by omega) with rfl | rfl | rfl | rfl
    · show Value.ref (a + 125) = Value.ref (zq_r X (a + 123) 0); rw [hr0]
    · show Value.ref (a + 150) = Value.ref (zq_r X (a + 123) 1); rw [hr1]
    · show Value.ref (a + 175) = Value.ref (zq_r X (a + 123) 2); rw [hr2]
    · show Value.ref (a + 200) = Value.ref (zq_r X (a + 123) 3); rw [hr3])
  clear hr0 hr1 hr2 hr3
  refine lv_aload_n hx hb dX11_init_121 rfl (lv_at hl 1 rfl) ?_
  refine lv_bipush (v := 20) hx hb dX11_init_122 (by decide +kernel) ?_
  refine zc_anew (t := 5) (N := 20) (C := RX10) E hK hc hS zcl_X11_30 (hK.2.2.1) rfl (by decide +kernel) (by decide +kernel) (by decide +kernel) (by omega) (by omega) dX11_init_124 (fun H hc hS => ?_)
  refine W.widen (k := 225) (n := 8051) (by omega) (by omega) ?_
  have hc : zcs X 9 a 225 _ _ H := hc
  refine zc_putF (j := 7) E hc hS (zc_G.of (C := RX11) (T := TX11) (N := 12) E hK rfl iz_X11 rfl tyX11 tyX11_ok nmX11 (by decide) rfl rfl rfl zLX11_45) hin (by decide) rfl rfl dX11_init_127 (fun H locs hc hS => ?_)
  refine lv_iconst (v := 0) hx hb dX11_init_130 (by decide +kernel) ?_
  refine lv_istore_n (lv' := [(1, .int (0 : Int32)), (0, .ref a)]) hx hb dX11_init_131 rfl hl (by decide) rfl (fun ls hl => ?_)
  refine lv_iload_n hx hb dX11_init_132 rfl (lv_at hl 0 rfl) ?_
  refine lv_aload_n hx hb dX11_init_133 rfl (lv_at hl 1 rfl) ?_
  refine zc_get (j := 7) (v := .ref (a + 225)) E hc (zFX11_45 E hK.1) (by decide) rfl dX11_init_134 ?_
  refine zc_alen (b := (a + 225)) (nn := 20) E hK hc rfl (by decide +kernel) dX11_init_137 ?_
  refine lv_icmp_ge (tgt := 160) hx hb dX11_init_138 (by decide) (fun b => absurd b (by decide +kernel)) (fun b => ?_)
  refine lv_aload_n hx hb dX11_init_141 rfl (lv_at hl 1 rfl) ?_
  refine zc_get (j := 7) (v := .ref (a + 225)) E hc (zFX11_45 E hK.1) (by decide) rfl dX11_init_142 ?_
  refine lv_iload_n hx hb dX11_init_145 rfl (lv_at hl 0 rfl) ?_
  refine zc_make (k2 := 8) (N2 := 10) (c2 := 10) (n2 := 65) (d := 2) (maxL := 2) E hK hc hS (c_X10_init l X (a + 1 + 225) (hl0.sub 226 8 (by decide +kernel))) rfl rfl iz_X10 tyX10 tyX10_ok zdv_X10 zcl_X11_30 zci_X10 zcn_X10 zcm_X11_32 zcx_X10 zcc_X10 ⟨rfl, rfl⟩ (by decide +kernel) ⟨⟨by omega, by omega⟩, by omega, by omega⟩ hl.1 (Nat.le_of_ble_eq_true rfl) dX11_init_146 dX11_init_149 dX11_init_150 (fun H locs hc hS => ?_)
  refine W.widen (k := 236) (n := 8126) (by omega) (by omega) ?_
  have hc : zcs X 9 a 236 _ _ H := hc
  have hk : zq_k X (a + 226) = 8 := hl0.k 226 rfl rfl
  refine zc_aast' (b := (a + 225)) (x' := 0) (k3 := 8) E hK hc hS (fun e he => absurd he List.not_mem_nil) rfl rfl hk (by decide) ⟨by omega, by omega, by omega⟩ (fun e he => absurd he List.not_mem_nil) (by decide +kernel) (by decide +kernel) dX11_init_153 (fun H locs hc hS => ?_)
  refine lv_iinc (v := (1 : Int32)) (lv' := [(1, .int (1 : Int32)), (0, .ref a)]) hx hb dX11_init_154 hl (k := 0) rfl (by decide +kernel) (by decide) rfl (fun ls hl => ?_)
  refine lv_goto (tgt := 132) hx hb dX11_init_157 (by decide) ?_
  refine lv_iload_n hx hb dX11_init_132 rfl (lv_at hl 0 rfl) ?_
  refine lv_aload_n hx hb dX11_init_133 rfl (lv_at hl 1 rfl) ?_
  refine zc_get (j := 7) (v := .ref (a + 225)) E hc (zFX11_45 E hK.1) (by decide) rfl dX11_init_134 ?_
  refine zc_alen (b := (a + 225)) (nn := 20) E hK hc rfl (by decide +kernel) dX11_init_137 ?_
  refine lv_icmp_ge (tgt := 160) hx hb dX11_init_138 (by decide) (fun b => absurd b (by decide +kernel)) (fun b => ?_)
  refine lv_aload_n hx hb dX11_init_141 rfl (lv_at hl 1 rfl) ?_
  refine zc_get (j := 7) (v := .ref (a + 225)) E hc (zFX11_45 E hK.1) (by decide) rfl dX11_init_142 ?_
  refine lv_iload_n hx hb dX11_init_145 rfl (lv_at hl 0 rfl) ?_
  refine zc_make (k2 := 8) (N2 := 10) (c2 := 10) (n2 := 65) (d := 2) (maxL := 2) E hK hc hS (c_X10_init l X (a + 1 + 236) (hl0.sub 237 8 (by decide +kernel))) rfl rfl iz_X10 tyX10 tyX10_ok zdv_X10 zcl_X11_30 zci_X10 zcn_X10 zcm_X11_32 zcx_X10 zcc_X10 ⟨rfl, rfl⟩ (by decide +kernel) ⟨⟨by omega, by omega⟩, by omega, by omega⟩ hl.1 (Nat.le_of_ble_eq_true rfl) dX11_init_146 dX11_init_149 dX11_init_150 (fun H locs hc hS => ?_)
  refine W.widen (k := 247) (n := 8201) (by omega) (by omega) ?_
  have hc : zcs X 9 a 247 _ _ H := hc
  have hk : zq_k X (a + 237) = 8 := hl0.k 237 rfl rfl
  refine zc_aast' (b := (a + 225)) (x' := 1) (k3 := 8) E hK hc hS (fun e he => absurd he List.not_mem_nil) rfl rfl hk (by decide) ⟨by omega, by omega, by omega⟩ (fun e he => absurd he List.not_mem_nil) (by decide +kernel) (by decide +kernel) dX11_init_153 (fun H locs hc hS => ?_)
  refine lv_iinc (v := (2 : Int32)) (lv' := [(1, .int (2 : Int32)), (0, .ref a)]) hx hb dX11_init_154 hl (k := 0) rfl (by decide +kernel) (by decide) rfl (fun ls hl => ?_)
  refine lv_goto (tgt := 132) hx hb dX11_init_157 (by decide) ?_
  refine lv_iload_n hx hb dX11_init_132 rfl (lv_at hl 0 rfl) ?_
  refine lv_aload_n hx hb dX11_init_133 rfl (lv_at hl 1 rfl) ?_
  refine zc_get (j := 7) (v := .ref (a + 225)) E hc (zFX11_45 E hK.1) (by decide) rfl dX11_init_134 ?_
  refine zc_alen (b := (a + 225)) (nn := 20) E hK hc rfl (by decide +kernel) dX11_init_137 ?_
  refine lv_icmp_ge (tgt := 160) hx hb dX11_init_138 (by decide) (fun b => absurd b (by decide +kernel)) (fun b => ?_)
  refine lv_aload_n hx hb dX11_init_141 rfl (lv_at hl 1 rfl) ?_
  refine zc_get (j := 7) (v := .ref (a + 225)) E hc (zFX11_45 E hK.1) (by decide) rfl dX11_init_142 ?_
  refine lv_iload_n hx hb dX11_init_145 rfl (lv_at hl 0 rfl) ?_
  refine zc_make (k2 := 8) (N2 := 10) (c2 := 10) (n2 := 65) (d := 2) (maxL := 2) E hK hc hS (c_X10_init l X (a + 1 + 247) (hl0.sub 248 8 (by decide +kernel))) rfl rfl iz_X10 tyX10 tyX10_ok zdv_X10 zcl_X11_30 zci_X10 zcn_X10 zcm_X11_32 zcx_X10 zcc_X10 ⟨rfl, rfl⟩ (by decide +kernel) ⟨⟨by omega, by omega⟩, by omega, by omega⟩ hl.1 (Nat.le_of_ble_eq_true rfl) dX11_init_146 dX11_init_149 dX11_init_150 (fun H locs hc hS => ?_)
  refine W.widen (k := 258) (n := 8276) (by omega) (by omega) ?_
  have hc : zcs X 9 a 258 _ _ H := hc
  have hk : zq_k X (a + 248) = 8 := hl0.k 248 rfl rfl
  refine zc_aast' (b := (a + 225)) (x' := 2) (k3 := 8) E hK hc hS (fun e he => absurd he List.not_mem_nil) rfl rfl hk (by decide) ⟨by omega, by omega, by omega⟩ (fun e he => absurd he List.not_mem_nil) (by decide +kernel) (by decide +kernel) dX11_init_153 (fun H locs hc hS => ?_)
  refine lv_iinc (v := (3 : Int32)) (lv' := [(1, .int (3 : Int32)), (0, .ref a)]) hx hb dX11_init_154 hl (k := 0) rfl (by decide +kernel) (by decide) rfl (fun ls hl => ?_)
  refine lv_goto (tgt := 132) hx hb dX11_init_157 (by decide) ?_
  refine lv_iload_n hx hb dX11_init_132 rfl (lv_at hl 0 rfl) ?_
  refine lv_aload_n hx hb dX11_init_133 rfl (lv_at hl 1 rfl) ?_
  refine zc_get (j := 7) (v := .ref (a + 225)) E hc (zFX11_45 E hK.1) (by decide) rfl dX11_init_134 ?_
  refine zc_alen (b := (a + 225)) (nn := 20) E hK hc rfl (by decide +kernel) dX11_init_137 ?_
  refine lv_icmp_ge (tgt := 160) hx hb dX11_init_138 (by decide) (fun b => absurd b (by decide +kernel)) (fun b => ?_)
  refine lv_aload_n hx hb dX11_init_141 rfl (lv_at hl 1 rfl) ?_
  refine zc_get (j := 7) (v := .ref (a + 225)) E hc (zFX11_45 E hK.1) (by decide) rfl dX11_init_142 ?_
  refine lv_iload_n hx hb dX11_init_145 rfl (lv_at hl 0 rfl) ?_
  refine zc_make (k2 := 8) (N2 := 10) (c2 := 10) (n2 := 65) (d := 2) (maxL := 2) E hK hc hS (c_X10_init l X (a + 1 + 258) (hl0.sub 259 8 (by decide +kernel))) rfl rfl iz_X10 tyX10 tyX10_ok zdv_X10 zcl_X11_30 zci_X10 zcn_X10 zcm_X11_32 zcx_X10 zcc_X10 ⟨rfl, rfl⟩ (by decide +kernel) ⟨⟨by omega, by omega⟩, by omega, by omega⟩ hl.1 (Nat.le_of_ble_eq_true rfl) dX11_init_146 dX11_init_149 dX11_init_150 (fun H locs hc hS => ?_)
  refine W.widen (k := 269) (n := 8351) (by omega) (by omega) ?_
  have hc : zcs X 9 a 269 _ _ H := hc
  have hk : zq_k X (a + 259) = 8 := hl0.k 259 rfl rfl
  refine zc_aast' (b := (a + 225)) (x' := 3) (k3 := 8) E hK hc hS (fun e he => absurd he List.not_mem_nil) rfl rfl hk (by decide) ⟨by omega, by omega, by omega⟩ (fun e he => absurd he List.not_mem_nil) (by decide +kernel) (by decide +kernel) dX11_init_153 (fun H locs hc hS => ?_)
  refine lv_iinc (v := (4 : Int32)) (lv' := [(1, .int (4 : Int32)), (0, .ref a)]) hx hb dX11_init_154 hl (k := 0) rfl (by decide +kernel) (by decide) rfl (fun ls hl => ?_)
  refine lv_goto (tgt := 132) hx hb dX11_init_157 (by decide) ?_
  refine lv_iload_n hx hb dX11_init_132 rfl (lv_at hl 0 rfl) ?_
  refine lv_aload_n hx hb dX11_init_133 rfl (lv_at hl 1 rfl) ?_
  refine zc_get (j := 7) (v := .ref (a + 225)) E hc (zFX11_45 E hK.1) (by decide) rfl dX11_init_134 ?_
  refine zc_alen (b := (a + 225)) (nn := 20) E hK hc rfl (by decide +kernel) dX11_init_137 ?_
  refine lv_icmp_ge (tgt := 160) hx hb dX11_init_138 (by decide) (fun b => absurd b (by decide +kernel)) (fun b => ?_)
  refine lv_aload_n hx hb dX11_init_141 rfl (lv_at hl 1 rfl) ?_
  refine zc_get (j := 7) (v := .ref (a + 225)) E hc (zFX11_45 E hK.1) (by decide) rfl dX11_init_142 ?_
  refine lv_iload_n hx hb dX11_init_145 rfl (lv_at hl 0 rfl) ?_
  refine zc_make (k2 := 8) (N2 := 10) (c2 := 10) (n2 := 65) (d := 2) (maxL := 2) E hK hc hS (c_X10_init l X (a + 1 + 269) (hl0.sub 270 8 (by decide +kernel))) rfl rfl iz_X10 tyX10 tyX10_ok zdv_X10 zcl_X11_30 zci_X10 zcn_X10 zcm_X11_32 zcx_X10 zcc_X10 ⟨rfl, rfl⟩ (by decide +kernel) ⟨⟨by omega, by omega⟩, by omega, by omega⟩ hl.1 (Nat.le_of_ble_eq_true rfl) dX11_init_146 dX11_init_149 dX11_init_150 (fun H locs hc hS => ?_)
  refine W.widen (k := 280) (n := 8426) (by omega) (by omega) ?_
  have hc : zcs X 9 a 280 _ _ H := hc
  have hk : zq_k X (a + 270) = 8 := hl0.k 270 rfl rfl
  refine zc_aast' (b := (a + 225)) (x' := 4) (k3 := 8) E hK hc hS (fun e he => absurd he List.not_mem_nil) rfl rfl hk (by decide) ⟨by omega, by omega, by omega⟩ (fun e he => absurd he List.not_mem_nil) (by decide +kernel) (by decide +kernel) dX11_init_153 (fun H locs hc hS => ?_)
  refine lv_iinc (v := (5 : Int32)) (lv' := [(1, .int (5 : Int32)), (0, .ref a)]) hx hb dX11_init_154 hl (k := 0) rfl (by decide +kernel) (by decide) rfl (fun ls hl => ?_)
  refine lv_goto (tgt := 132) hx hb dX11_init_157 (by decide) ?_
  refine lv_iload_n hx hb dX11_init_132 rfl (lv_at hl 0 rfl) ?_
  refine lv_aload_n hx hb dX11_init_133 rfl (lv_at hl 1 rfl) ?_
  refine zc_get (j := 7) (v := .ref (a + 225)) E hc (zFX11_45 E hK.1) (by decide) rfl dX11_init_134 ?_
  refine zc_alen (b := (a + 225)) (nn := 20) E hK hc rfl (by decide +kernel) dX11_init_137 ?_
  refine lv_icmp_ge (tgt := 160) hx hb dX11_init_138 (by decide) (fun b => absurd b (by decide +kernel)) (fun b => ?_)
  refine lv_aload_n hx hb dX11_init_141 rfl (lv_at hl 1 rfl) ?_
  refine zc_get (j := 7) (v := .ref (a + 225)) E hc (zFX11_45 E hK.1) (by decide) rfl dX11_init_142 ?_
  refine lv_iload_n hx hb dX11_init_145 rfl (lv_at hl 0 rfl) ?_
  refine zc_make (k2 := 8) (N2 := 10) (c2 := 10) (n2 := 65) (d := 2) (maxL := 2) E hK hc hS (c_X10_init l X (a + 1 + 280) (hl0.sub 281 8 (by decide +kernel))) rfl rfl iz_X10 tyX10 tyX10_ok zdv_X10 zcl_X11_30 zci_X10 zcn_X10 zcm_X11_32 zcx_X10 zcc_X10 ⟨rfl, rfl⟩ (by decide +kernel) ⟨⟨by omega, by omega⟩, by omega, by omega⟩ hl.1 (Nat.le_of_ble_eq_true rfl) dX11_init_146 dX11_init_149 dX11_init_150 (fun H locs hc hS => ?_)
  refine W.widen (k := 291) (n := 8501) (by omega) (by omega) ?_
  have hc : zcs X 9 a 291 _ _ H := hc
  have hk : zq_k X (a + 281) = 8 := hl0.k 281 rfl rfl
  refine zc_aast' (b := (a + 225)) (x' := 5) (k3 := 8) E hK hc hS (fun e he => absurd he List.not_mem_nil) rfl rfl hk (by decide) ⟨by omega, by omega, by omega⟩ (fun e he => absurd he List.not_mem_nil) (by decide +kernel) (by decide +kernel) dX11_init_153 (fun H locs hc hS => ?_)
  refine lv_iinc (v := (6 : Int32)) (lv' := [(1, .int (6 : Int32)), (0, .ref a)]) hx hb dX11_init_154 hl (k := 0) rfl (by decide +kernel) (by decide) rfl (fun ls hl => ?_)
  refine lv_goto (tgt := 132) hx hb dX11_init_157 (by decide) ?_
  refine lv_iload_n hx hb dX11_init_132 rfl (lv_at hl 0 rfl) ?_
  refine lv_aload_n hx hb dX11_init_133 rfl (lv_at hl 1 rfl) ?_
  refine zc_get (j := 7) (v := .ref (a + 225)) E hc (zFX11_45 E hK.1) (by decide) rfl dX11_init_134 ?_
  refine zc_alen (b := (a + 225)) (nn := 20) E hK hc rfl (by decide +kernel) dX11_init_137 ?_
  refine lv_icmp_ge (tgt := 160) hx hb dX11_init_138 (by decide) (fun b => absurd b (by decide +kernel)) (fun b => ?_)
  refine lv_aload_n hx hb dX11_init_141 rfl (lv_at hl 1 rfl) ?_
  refine zc_get (j := 7) (v := .ref (a + 225)) E hc (zFX11_45 E hK.1) (by decide) rfl dX11_init_142 ?_
  refine lv_iload_n hx hb dX11_init_145 rfl (lv_at hl 0 rfl) ?_
  refine zc_make (k2 := 8) (N2 := 10) (c2 := 10) (n2 := 65) (d := 2) (maxL := 2) E hK hc hS (c_X10_init l X (a + 1 + 291) (hl0.sub 292 8 (by decide +kernel))) rfl rfl iz_X10 tyX10 tyX10_ok zdv_X10 zcl_X11_30 zci_X10 zcn_X10 zcm_X11_32 zcx_X10 zcc_X10 ⟨rfl, rfl⟩ (by decide +kernel) ⟨⟨by omega, by omega⟩, by omega, by omega⟩ hl.1 (Nat.le_of_ble_eq_true rfl) dX11_init_146 dX11_init_149 dX11_init_150 (fun H locs hc hS => ?_)
  refine W.widen (k := 302) (n := 8576) (by omega) (by omega) ?_
  have hc : zcs X 9 a 302 _ _ H := hc
  have hk : zq_k X (a + 292) = 8 := hl0.k 292 rfl rfl
  refine zc_aast' (b := (a + 225)) (x' := 6) (k3 := 8) E hK hc hS (fun e he => absurd he List.not_mem_nil) rfl rfl hk (by decide) ⟨by omega, by omega, by omega⟩ (fun e he => absurd he List.not_mem_nil) (by decide +kernel) (by decide +kernel) dX11_init_153 (fun H locs hc hS => ?_)
  refine lv_iinc (v := (7 : Int32)) (lv' := [(1, .int (7 : Int32)), (0, .ref a)]) hx hb dX11_init_154 hl (k := 0) rfl (by decide +kernel) (by decide) rfl (fun ls hl => ?_)
  refine lv_goto (tgt := 132) hx hb dX11_init_157 (by decide) ?_
  refine lv_iload_n hx hb dX11_init_132 rfl (lv_at hl 0 rfl) ?_
  refine lv_aload_n hx hb dX11_init_133 rfl (lv_at hl 1 rfl) ?_
  refine zc_get (j := 7) (v := .ref (a + 225)) E hc (zFX11_45 E hK.1) (by decide) rfl dX11_init_134 ?_
  refine zc_alen (b := (a + 225)) (nn := 20) E hK hc rfl (by decide +kernel) dX11_init_137 ?_
  refine lv_icmp_ge (tgt := 160) hx hb dX11_init_138 (by decide) (fun b => absurd b (by decide +kernel)) (fun b => ?_)
  refine lv_aload_n hx hb dX11_init_141 rfl (lv_at hl 1 rfl) ?_
  refine zc_get (j := 7) (v := .ref (a + 225)) E hc (zFX11_45 E hK.1) (by decide) rfl dX11_init_142 ?_
  refine lv_iload_n hx hb dX11_init_145 rfl (lv_at hl 0 rfl) ?_
  refine zc_make (k2 := 8) (N2 := 10) (c2 := 10) (n2 := 65) (d := 2) (maxL := 2) E hK hc hS (c_X10_init l X (a + 1 + 302) (hl0.sub 303 8 (by decide +kernel))) rfl rfl iz_X10 tyX10 tyX10_ok zdv_X10 zcl_X11_30 zci_X10 zcn_X10 zcm_X11_32 zcx_X10 zcc_X10 ⟨rfl, rfl⟩ (by decide +kernel) ⟨⟨by omega, by omega⟩, by omega, by omega⟩ hl.1 (Nat.le_of_ble_eq_true rfl) dX11_init_146 dX11_init_149 dX11_init_150 (fun H locs hc hS => ?_)
  refine W.widen (k := 313) (n := 8651) (by omega) (by omega) ?_
  have hc : zcs X 9 a 313 _ _ H := hc
  have hk : zq_k X (a + 303) = 8 := hl0.k 303 rfl rfl
  refine zc_aast' (b := (a + 225)) (x' := 7) (k3 := 8) E hK hc hS (fun e he => absurd he List.not_mem_nil) rfl rfl hk (by decide) ⟨by omega, by omega, by omega⟩ (fun e he => absurd he List.not_mem_nil) (by decide +kernel) (by decide +kernel) dX11_init_153 (fun H locs hc hS => ?_)
  refine lv_iinc (v := (8 : Int32)) (lv' := [(1, .int (8 : Int32)), (0, .ref a)]) hx hb dX11_init_154 hl (k := 0) rfl (by decide +kernel) (by decide) rfl (fun ls hl => ?_)
  refine lv_goto (tgt := 132) hx hb dX11_init_157 (by decide) ?_
  refine lv_iload_n hx hb dX11_init_132 rfl (lv_at hl 0 rfl) ?_
  refine lv_aload_n hx hb dX11_init_133 rfl (lv_at hl 1 rfl) ?_
  refine zc_get (j := 7) (v := .ref (a + 225)) E hc (zFX11_45 E hK.1) (by decide) rfl dX11_init_134 ?_
  refine zc_alen (b := (a + 225)) (nn := 20) E hK hc rfl (by decide +kernel) dX11_init_137 ?_
  refine lv_icmp_ge (tgt := 160) hx hb dX11_init_138 (by decide) (fun b => absurd b (by decide +kernel)) (fun b => ?_)
  refine lv_aload_n hx hb dX11_init_141 rfl (lv_at hl 1 rfl) ?_
  refine zc_get (j := 7) (v := .ref (a + 225)) E hc (zFX11_45 E hK.1) (by decide) rfl dX11_init_142 ?_
  refine lv_iload_n hx hb dX11_init_145 rfl (lv_at hl 0 rfl) ?_
  refine zc_make (k2 := 8) (N2 := 10) (c2 := 10) (n2 := 65) (d := 2) (maxL := 2) E hK hc hS (c_X10_init l X (a + 1 + 313) (hl0.sub 314 8 (by decide +kernel))) rfl rfl iz_X10 tyX10 tyX10_ok zdv_X10 zcl_X11_30 zci_X10 zcn_X10 zcm_X11_32 zcx_X10 zcc_X10 ⟨rfl, rfl⟩ (by decide +kernel) ⟨⟨by omega, by omega⟩, by omega, by omega⟩ hl.1 (Nat.le_of_ble_eq_true rfl) dX11_init_146 dX11_init_149 dX11_init_150 (fun H locs hc hS => ?_)
  refine W.widen (k := 324) (n := 8726) (by omega) (by omega) ?_
  have hc : zcs X 9 a 324 _ _ H := hc
  have hk : zq_k X (a + 314) = 8 := hl0.k 314 rfl rfl
  refine zc_aast' (b := (a + 225)) (x' := 8) (k3 := 8) E hK hc hS (fun e he => absurd he List.not_mem_nil) rfl rfl hk (by decide) ⟨by omega, by omega, by omega⟩ (fun e he => absurd he List.not_mem_nil) (by decide +kernel) (by decide +kernel) dX11_init_153 (fun H locs hc hS => ?_)
  refine lv_iinc (v := (9 : Int32)) (lv' := [(1, .int (9 : Int32)), (0, .ref a)]) hx hb dX11_init_154 hl (k := 0) rfl (by decide +kernel) (by decide) rfl (fun ls hl => ?_)
  refine lv_goto (tgt := 132) hx hb dX11_init_157 (by decide) ?_
  refine lv_iload_n hx hb dX11_init_132 rfl (lv_at hl 0 rfl) ?_
  refine lv_aload_n hx hb dX11_init_133 rfl (lv_at hl 1 rfl) ?_
  refine zc_get (j := 7) (v := .ref (a + 225)) E hc (zFX11_45 E hK.1) (by decide) rfl dX11_init_134 ?_
  refine zc_alen (b := (a + 225)) (nn := 20) E hK hc rfl (by decide +kernel) dX11_init_137 ?_
  refine lv_icmp_ge (tgt := 160) hx hb dX11_init_138 (by decide) (fun b => absurd b (by decide +kernel)) (fun b => ?_)
  refine lv_aload_n hx hb dX11_init_141 rfl (lv_at hl 1 rfl) ?_
  refine zc_get (j := 7) (v := .ref (a + 225)) E hc (zFX11_45 E hK.1) (by decide) rfl dX11_init_142 ?_
  refine lv_iload_n hx hb dX11_init_145 rfl (lv_at hl 0 rfl) ?_
  refine zc_make (k2 := 8) (N2 := 10) (c2 := 10) (n2 := 65) (d := 2) (maxL := 2) E hK hc hS (c_X10_init l X (a + 1 + 324) (hl0.sub 325 8 (by decide +kernel))) rfl rfl iz_X10 tyX10 tyX10_ok zdv_X10 zcl_X11_30 zci_X10 zcn_X10 zcm_X11_32 zcx_X10 zcc_X10 ⟨rfl, rfl⟩ (by decide +kernel) ⟨⟨by omega, by omega⟩, by omega, by omega⟩ hl.1 (Nat.le_of_ble_eq_true rfl) dX11_init_146 dX11_init_149 dX11_init_150 (fun H locs hc hS => ?_)
  refine W.widen (k := 335) (n := 8801) (by omega) (by omega) ?_
  have hc : zcs X 9 a 335 _ _ H := hc
  have hk : zq_k X (a + 325) = 8 := hl0.k 325 rfl rfl
  refine zc_aast' (b := (a + 225)) (x' := 9) (k3 := 8) E hK hc hS (fun e he => absurd he List.not_mem_nil) rfl rfl hk (by decide) ⟨by omega, by omega, by omega⟩ (fun e he => absurd he List.not_mem_nil) (by decide +kernel) (by decide +kernel) dX11_init_153 (fun H locs hc hS => ?_)
  refine lv_iinc (v := (10 : Int32)) (lv' := [(1, .int (10 : Int32)), (0, .ref a)]) hx hb dX11_init_154 hl (k := 0) rfl (by decide +kernel) (by decide) rfl (fun ls hl => ?_)
  refine lv_goto (tgt := 132) hx hb dX11_init_157 (by decide) ?_
  refine lv_iload_n hx hb dX11_init_132 rfl (lv_at hl 0 rfl) ?_
  refine lv_aload_n hx hb dX11_init_133 rfl (lv_at hl 1 rfl) ?_
  refine zc_get (j := 7) (v := .ref (a + 225)) E hc (zFX11_45 E hK.1) (by decide) rfl dX11_init_134 ?_
  refine zc_alen (b := (a + 225)) (nn := 20) E hK hc rfl (by decide +kernel) dX11_init_137 ?_
  refine lv_icmp_ge (tgt := 160) hx hb dX11_init_138 (by decide) (fun b => absurd b (by decide +kernel)) (fun b => ?_)
  refine lv_aload_n hx hb dX11_init_141 rfl (lv_at hl 1 rfl) ?_
  refine zc_get (j := 7) (v := .ref (a + 225)) E hc (zFX11_45 E hK.1) (by decide) rfl dX11_init_142 ?_
  refine lv_iload_n hx hb dX11_init_145 rfl (lv_at hl 0 rfl) ?_
  refine zc_make (k2 := 8) (N2 := 10) (c2 := 10) (n2 := 65) (d := 2) (maxL := 2) E hK hc hS (c_X10_init l X (a + 1 + 335) (hl0.sub 336 8 (by decide +kernel))) rfl rfl iz_X10 tyX10 tyX10_ok zdv_X10 zcl_X11_30 zci_X10 zcn_X10 zcm_X11_32 zcx_X10 zcc_X10 ⟨rfl, rfl⟩ (by decide +kernel) ⟨⟨by omega, by omega⟩, by omega, by omega⟩ hl.1 (Nat.le_of_ble_eq_true rfl) dX11_init_146 dX11_init_149 dX11_init_150 (fun H locs hc hS => ?_)
  refine W.widen (k := 346) (n := 8876) (by omega) (by omega) ?_
  have hc : zcs X 9 a 346 _ _ H := hc
  have hk : zq_k X (a + 336) = 8 := hl0.k 336 rfl rfl
  refine zc_aast' (b := (a + 225)) (x' := 10) (k3 := 8) E hK hc hS (fun e he => absurd he List.not_mem_nil) rfl rfl hk (by decide) ⟨by omega, by omega, by omega⟩ (fun e he => absurd he List.not_mem_nil) (by decide +kernel) (by decide +kernel) dX11_init_153 (fun H locs hc hS => ?_)
  refine lv_iinc (v := (11 : Int32)) (lv' := [(1, .int (11 : Int32)), (0, .ref a)]) hx hb dX11_init_154 hl (k := 0) rfl (by decide +kernel) (by decide) rfl (fun ls hl => ?_)
  refine lv_goto (tgt := 132) hx hb dX11_init_157 (by decide) ?_
  refine lv_iload_n hx hb dX11_init_132 rfl (lv_at hl 0 rfl) ?_
  refine lv_aload_n hx hb dX11_init_133 rfl (lv_at hl 1 rfl) ?_
  refine zc_get (j := 7) (v := .ref (a + 225)) E hc (zFX11_45 E hK.1) (by decide) rfl dX11_init_134 ?_
  refine zc_alen (b := (a + 225)) (nn := 20) E hK hc rfl (by decide +kernel) dX11_init_137 ?_
  refine lv_icmp_ge (tgt := 160) hx hb dX11_init_138 (by decide) (fun b => absurd b (by decide +kernel)) (fun b => ?_)
  refine lv_aload_n hx hb dX11_init_141 rfl (lv_at hl 1 rfl) ?_
  refine zc_get (j := 7) (v := .ref (a + 225)) E hc (zFX11_45 E hK.1) (by decide) rfl dX11_init_142 ?_
  refine lv_iload_n hx hb dX11_init_145 rfl (lv_at hl 0 rfl) ?_
  refine zc_make (k2 := 8) (N2 := 10) (c2 := 10) (n2 := 65) (d := 2) (maxL := 2) E hK hc hS (c_X10_init l X (a + 1 + 346) (hl0.sub 347 8 (by decide +kernel))) rfl rfl iz_X10 tyX10 tyX10_ok zdv_X10 zcl_X11_30 zci_X10 zcn_X10 zcm_X11_32 zcx_X10 zcc_X10 ⟨rfl, rfl⟩ (by decide +kernel) ⟨⟨by omega, by omega⟩, by omega, by omega⟩ hl.1 (Nat.le_of_ble_eq_true rfl) dX11_init_146 dX11_init_149 dX11_init_150 (fun H locs hc hS => ?_)
  refine W.widen (k := 357) (n := 8951) (by omega) (by omega) ?_
  have hc : zcs X 9 a 357 _ _ H := hc
  have hk : zq_k X (a + 347) = 8 := hl0.k 347 rfl rfl
  refine zc_aast' (b := (a + 225)) (x' := 11) (k3 := 8) E hK hc hS (fun e he => absurd he List.not_mem_nil) rfl rfl hk (by decide) ⟨by omega, by omega, by omega⟩ (fun e he => absurd he List.not_mem_nil) (by decide +kernel) (by decide +kernel) dX11_init_153 (fun H locs hc hS => ?_)
  refine lv_iinc (v := (12 : Int32)) (lv' := [(1, .int (12 : Int32)), (0, .ref a)]) hx hb dX11_init_154 hl (k := 0) rfl (by decide +kernel) (by decide) rfl (fun ls hl => ?_)
  refine lv_goto (tgt := 132) hx hb dX11_init_157 (by decide) ?_
  refine lv_iload_n hx hb dX11_init_132 rfl (lv_at hl 0 rfl) ?_
  refine lv_aload_n hx hb dX11_init_133 rfl (lv_at hl 1 rfl) ?_
  refine zc_get (j := 7) (v := .ref (a + 225)) E hc (zFX11_45 E hK.1) (by decide) rfl dX11_init_134 ?_
  refine zc_alen (b := (a + 225)) (nn := 20) E hK hc rfl (by decide +kernel) dX11_init_137 ?_
  refine lv_icmp_ge (tgt := 160) hx hb dX11_init_138 (by decide) (fun b => absurd b (by decide +kernel)) (fun b => ?_)
  refine lv_aload_n hx hb dX11_init_141 rfl (lv_at hl 1 rfl) ?_
  refine zc_get (j := 7) (v := .ref (a + 225)) E hc (zFX11_45 E hK.1) (by decide) rfl dX11_init_142 ?_
  refine lv_iload_n hx hb dX11_init_145 rfl (lv_at hl 0 rfl) ?_
  refine zc_make (k2 := 8) (N2 := 10) (c2 := 10) (n2 := 65) (d := 2) (maxL := 2) E hK hc hS (c_X10_init l X (a + 1 + 357) (hl0.sub 358 8 (by decide +kernel))) rfl rfl iz_X10 tyX10 tyX10_ok zdv_X10 zcl_X11_30 zci_X10 zcn_X10 zcm_X11_32 zcx_X10 zcc_X10 ⟨rfl, rfl⟩ (by decide +kernel) ⟨⟨by omega, by omega⟩, by omega, by omega⟩ hl.1 (Nat.le_of_ble_eq_true rfl) dX11_init_146 dX11_init_149 dX11_init_150 (fun H locs hc hS => ?_)
  refine W.widen (k := 368) (n := 9026) (by omega) (by omega) ?_
  have hc : zcs X 9 a 368 _ _ H := hc
  have hk : zq_k X (a + 358) = 8 := hl0.k 358 rfl rfl
  refine zc_aast' (b := (a + 225)) (x' := 12) (k3 := 8) E hK hc hS (fun e he => absurd he List.not_mem_nil) rfl rfl hk (by decide) ⟨by omega, by omega, by omega⟩ (fun e he => absurd he List.not_mem_nil) (by decide +kernel) (by decide +kernel) dX11_init_153 (fun H locs hc hS => ?_)
  refine lv_iinc (v := (13 : Int32)) (lv' := [(1, .int (13 : Int32)), (0, .ref a)]) hx hb dX11_init_154 hl (k := 0) rfl (by decide +kernel) (by decide) rfl (fun ls hl => ?_)
  refine lv_goto (tgt := 132) hx hb dX11_init_157 (by decide) ?_
  refine lv_iload_n hx hb dX11_init_132 rfl (lv_at hl 0 rfl) ?_
  refine lv_aload_n hx hb dX11_init_133 rfl (lv_at hl 1 rfl) ?_
  refine zc_get (j := 7) (v := .ref (a + 225)) E hc (zFX11_45 E hK.1) (by decide) rfl dX11_init_134 ?_
  refine zc_alen (b := (a + 225)) (nn := 20) E hK hc rfl (by decide +kernel) dX11_init_137 ?_
  refine lv_icmp_ge (tgt := 160) hx hb dX11_init_138 (by decide) (fun b => absurd b (by decide +kernel)) (fun b => ?_)
  refine lv_aload_n hx hb dX11_init_141 rfl (lv_at hl 1 rfl) ?_
  refine zc_get (j := 7) (v := .ref (a + 225)) E hc (zFX11_45 E hK.1) (by decide) rfl dX11_init_142 ?_
  refine lv_iload_n hx hb dX11_init_145 rfl (lv_at hl 0 rfl) ?_
  refine zc_make (k2 := 8) (N2 := 10) (c2 := 10) (n2 := 65) (d := 2) (maxL := 2) E hK hc hS (c_X10_init l X (a + 1 + 368) (hl0.sub 369 8 (by decide +kernel))) rfl rfl iz_X10 tyX10 tyX10_ok zdv_X10 zcl_X11_30 zci_X10 zcn_X10 zcm_X11_32 zcx_X10 zcc_X10 ⟨rfl, rfl⟩ (by decide +kernel) ⟨⟨by omega, by omega⟩, by omega, by omega⟩ hl.1 (Nat.le_of_ble_eq_true rfl) dX11_init_146 dX11_init_149 dX11_init_150 (fun H locs hc hS => ?_)
  refine W.widen (k := 379) (n := 9101) (by omega) (by omega) ?_
  have hc : zcs X 9 a 379 _ _ H := hc
  have hk : zq_k X (a + 369) = 8 := hl0.k 369 rfl rfl
  refine zc_aast' (b := (a + 225)) (x' := 13) (k3 := 8) E hK hc hS (fun e he => absurd he List.not_mem_nil) rfl rfl hk (by decide) ⟨by omega, by omega, by omega⟩ (fun e he => absurd he List.not_mem_nil) (by decide +kernel) (by decide +kernel) dX11_init_153 (fun H locs hc hS => ?_)
  refine lv_iinc (v := (14 : Int32)) (lv' := [(1, .int (14 : Int32)), (0, .ref a)]) hx hb dX11_init_154 hl (k := 0) rfl (by decide +kernel) (by decide) rfl (fun ls hl => ?_)
  refine lv_goto (tgt := 132) hx hb dX11_init_157 (by decide) ?_
  refine lv_iload_n hx hb dX11_init_132 rfl (lv_at hl 0 rfl) ?_
  refine lv_aload_n hx hb dX11_init_133 rfl (lv_at hl 1 rfl) ?_
  refine zc_get (j := 7) (v := .ref (a + 225)) E hc (zFX11_45 E hK.1) (by decide) rfl dX11_init_134 ?_
  refine zc_alen (b := (a + 225)) (nn := 20) E hK hc rfl (by decide +kernel) dX11_init_137 ?_
  refine lv_icmp_ge (tgt := 160) hx hb dX11_init_138 (by decide) (fun b => absurd b (by decide +kernel)) (fun b => ?_)
  refine lv_aload_n hx hb dX11_init_141 rfl (lv_at hl 1 rfl) ?_
  refine zc_get (j := 7) (v := .ref (a + 225)) E hc (zFX11_45 E hK.1) (by decide) rfl dX11_init_142 ?_
  refine lv_iload_n hx hb dX11_init_145 rfl (lv_at hl 0 rfl) ?_
  refine zc_make (k2 := 8) (N2 := 10) (c2 := 10) (n2 := 65) (d := 2) (maxL := 2) E hK hc hS (c_X10_init l X (a + 1 + 379) (hl0.sub 380 8 (by decide +kernel))) rfl rfl iz_X10 tyX10 tyX10_ok zdv_X10 zcl_X11_30 zci_X10 zcn_X10 zcm_X11_32 zcx_X10 zcc_X10 ⟨rfl, rfl⟩ (by decide +kernel) ⟨⟨by omega, by omega⟩, by omega, by omega⟩ hl.1 (Nat.le_of_ble_eq_true rfl) dX11_init_146 dX11_init_149 dX11_init_150 (fun H locs hc hS => ?_)
  refine W.widen (k := 390) (n := 9176) (by omega) (by omega) ?_
  have hc : zcs X 9 a 390 _ _ H := hc
  have hk : zq_k X (a + 380) = 8 := hl0.k 380 rfl rfl
  refine zc_aast' (b := (a + 225)) (x' := 14) (k3 := 8) E hK hc hS (fun e he => absurd he List.not_mem_nil) rfl rfl hk (by decide) ⟨by omega, by omega, by omega⟩ (fun e he => absurd he List.not_mem_nil) (by decide +kernel) (by decide +kernel) dX11_init_153 (fun H locs hc hS => ?_)
  refine lv_iinc (v := (15 : Int32)) (lv' := [(1, .int (15 : Int32)), (0, .ref a)]) hx hb dX11_init_154 hl (k := 0) rfl (by decide +kernel) (by decide) rfl (fun ls hl => ?_)
  refine lv_goto (tgt := 132) hx hb dX11_init_157 (by decide) ?_
  refine lv_iload_n hx hb dX11_init_132 rfl (lv_at hl 0 rfl) ?_
  refine lv_aload_n hx hb dX11_init_133 rfl (lv_at hl 1 rfl) ?_
  refine zc_get (j := 7) (v := .ref (a + 225)) E hc (zFX11_45 E hK.1) (by decide) rfl dX11_init_134 ?_
  refine zc_alen (b := (a + 225)) (nn := 20) E hK hc rfl (by decide +kernel) dX11_init_137 ?_
  refine lv_icmp_ge (tgt := 160) hx hb dX11_init_138 (by decide) (fun b => absurd b (by decide +kernel)) (fun b => ?_)
  refine lv_aload_n hx hb dX11_init_141 rfl (lv_at hl 1 rfl) ?_
  refine zc_get (j := 7) (v := .ref (a + 225)) E hc (zFX11_45 E hK.1) (by decide) rfl dX11_init_142 ?_
  refine lv_iload_n hx hb dX11_init_145 rfl (lv_at hl 0 rfl) ?_
  refine zc_make (k2 := 8) (N2 := 10) (c2 := 10) (n2 := 65) (d := 2) (maxL := 2) E hK hc hS (c_X10_init l X (a + 1 + 390) (hl0.sub 391 8 (by decide +kernel))) rfl rfl iz_X10 tyX10 tyX10_ok zdv_X10 zcl_X11_30 zci_X10 zcn_X10 zcm_X11_32 zcx_X10 zcc_X10 ⟨rfl, rfl⟩ (by decide +kernel) ⟨⟨by omega, by omega⟩, by omega, by omega⟩ hl.1 (Nat.le_of_ble_eq_true rfl) dX11_init_146 dX11_init_149 dX11_init_150 (fun H locs hc hS => ?_)
  refine W.widen (k := 401) (n := 9251) (by omega) (by omega) ?_
  have hc : zcs X 9 a 401 _ _ H := hc
  have hk : zq_k X (a + 391) = 8 := hl0.k 391 rfl rfl
  refine zc_aast' (b := (a + 225)) (x' := 15) (k3 := 8) E hK hc hS (fun e he => absurd he List.not_mem_nil) rfl rfl hk (by decide) ⟨by omega, by omega, by omega⟩ (fun e he => absurd he List.not_mem_nil) (by decide +kernel) (by decide +kernel) dX11_init_153 (fun H locs hc hS => ?_)
  refine lv_iinc (v := (16 : Int32)) (lv' := [(1, .int (16 : Int32)), (0, .ref a)]) hx hb dX11_init_154 hl (k := 0) rfl (by decide +kernel) (by decide) rfl (fun ls hl => ?_)
  refine lv_goto (tgt := 132) hx hb dX11_init_157 (by decide) ?_
  refine lv_iload_n hx hb dX11_init_132 rfl (lv_at hl 0 rfl) ?_
  refine lv_aload_n hx hb dX11_init_133 rfl (lv_at hl 1 rfl) ?_
  refine zc_get (j := 7) (v := .ref (a + 225)) E hc (zFX11_45 E hK.1) (by decide) rfl dX11_init_134 ?_
  refine zc_alen (b := (a + 225)) (nn := 20) E hK hc rfl (by decide +kernel) dX11_init_137 ?_
  refine lv_icmp_ge (tgt := 160) hx hb dX11_init_138 (by decide) (fun b => absurd b (by decide +kernel)) (fun b => ?_)
  refine lv_aload_n hx hb dX11_init_141 rfl (lv_at hl 1 rfl) ?_
  refine zc_get (j := 7) (v := .ref (a + 225)) E hc (zFX11_45 E hK.1) (by decide) rfl dX11_init_142 ?_
  refine lv_iload_n hx hb dX11_init_145 rfl (lv_at hl 0 rfl) ?_
  refine zc_make (k2 := 8) (N2 := 10) (c2 := 10) (n2 := 65) (d := 2) (maxL := 2) E hK hc hS (c_X10_init l X (a + 1 + 401) (hl0.sub 402 8 (by decide +kernel))) rfl rfl iz_X10 tyX10 tyX10_ok zdv_X10 zcl_X11_30 zci_X10 zcn_X10 zcm_X11_32 zcx_X10 zcc_X10 ⟨rfl, rfl⟩ (by decide +kernel) ⟨⟨by omega, by omega⟩, by omega, by omega⟩ hl.1 (Nat.le_of_ble_eq_true rfl) dX11_init_146 dX11_init_149 dX11_init_150 (fun H locs hc hS => ?_)
  refine W.widen (k := 412) (n := 9326) (by omega) (by omega) ?_
  have hc : zcs X 9 a 412 _ _ H := hc
  have hk : zq_k X (a + 402) = 8 := hl0.k 402 rfl rfl
  refine zc_aast' (b := (a + 225)) (x' := 16) (k3 := 8) E hK hc hS (fun e he => absurd he List.not_mem_nil) rfl rfl hk (by decide) ⟨by omega, by omega, by omega⟩ (fun e he => absurd he List.not_mem_nil) (by decide +kernel) (by decide +kernel) dX11_init_153 (fun H locs hc hS => ?_)
  refine lv_iinc (v := (17 : Int32)) (lv' := [(1, .int (17 : Int32)), (0, .ref a)]) hx hb dX11_init_154 hl (k := 0) rfl (by decide +kernel) (by decide) rfl (fun ls hl => ?_)
  refine lv_goto (tgt := 132) hx hb dX11_init_157 (by decide) ?_
  refine lv_iload_n hx hb dX11_init_132 rfl (lv_at hl 0 rfl) ?_
  refine lv_aload_n hx hb dX11_init_133 rfl (lv_at hl 1 rfl) ?_
  refine zc_get (j := 7) (v := .ref (a + 225)) E hc (zFX11_45 E hK.1) (by decide) rfl dX11_init_134 ?_
  refine zc_alen (b := (a + 225)) (nn := 20) E hK hc rfl (by decide +kernel) dX11_init_137 ?_
  refine lv_icmp_ge (tgt := 160) hx hb dX11_init_138 (by decide) (fun b => absurd b (by decide +kernel)) (fun b => ?_)
  refine lv_aload_n hx hb dX11_init_141 rfl (lv_at hl 1 rfl) ?_
  refine zc_get (j := 7) (v := .ref (a + 225)) E hc (zFX11_45 E hK.1) (by decide) rfl dX11_init_142 ?_
  refine lv_iload_n hx hb dX11_init_145 rfl (lv_at hl 0 rfl) ?_
  refine zc_make (k2 := 8) (N2 := 10) (c2 := 10) (n2 := 65) (d := 2) (maxL := 2) E hK hc hS (c_X10_init l X (a + 1 + 412) (hl0.sub 413 8 (by decide +kernel))) rfl rfl iz_X10 tyX10 tyX10_ok zdv_X10 zcl_X11_30 zci_X10 zcn_X10 zcm_X11_32 zcx_X10 zcc_X10 ⟨rfl, rfl⟩ (by decide +kernel) ⟨⟨by omega, by omega⟩, by omega, by omega⟩ hl.1 (Nat.le_of_ble_eq_true rfl) dX11_init_146 dX11_init_149 dX11_init_150 (fun H locs hc hS => ?_)
  refine W.widen (k := 423) (n := 9401) (by omega) (by omega) ?_
  have hc : zcs X 9 a 423 _ _ H := hc
  have hk : zq_k X (a + 413) = 8 := hl0.k 413 rfl rfl
  refine zc_aast' (b := (a + 225)) (x' := 17) (k3 := 8) E hK hc hS (fun e he => absurd he List.not_mem_nil) rfl rfl hk (by decide) ⟨by omega, by omega, by omega⟩ (fun e he => absurd he List.not_mem_nil) (by decide +kernel) (by decide +kernel) dX11_init_153 (fun H locs hc hS => ?_)
  refine lv_iinc (v := (18 : Int32)) (lv' := [(1, .int (18 : Int32)), (0, .ref a)]) hx hb dX11_init_154 hl (k := 0) rfl (by decide +kernel) (by decide) rfl (fun ls hl => ?_)
  refine lv_goto (tgt := 132) hx hb dX11_init_157 (by decide) ?_
  refine lv_iload_n hx hb dX11_init_132 rfl (lv_at hl 0 rfl) ?_
  refine lv_aload_n hx hb dX11_init_133 rfl (lv_at hl 1 rfl) ?_
  refine zc_get (j := 7) (v := .ref (a + 225)) E hc (zFX11_45 E hK.1) (by decide) rfl dX11_init_134 ?_
  refine zc_alen (b := (a + 225)) (nn := 20) E hK hc rfl (by decide +kernel) dX11_init_137 ?_
  refine lv_icmp_ge (tgt := 160) hx hb dX11_init_138 (by decide) (fun b => absurd b (by decide +kernel)) (fun b => ?_)
  refine lv_aload_n hx hb dX11_init_141 rfl (lv_at hl 1 rfl) ?_
  refine zc_get (j := 7) (v := .ref (a + 225)) E hc (zFX11_45 E hK.1) (by decide) rfl dX11_init_142 ?_
  refine lv_iload_n hx hb dX11_init_145 rfl (lv_at hl 0 rfl) ?_
  refine zc_make (k2 := 8) (N2 := 10) (c2 := 10) (n2 := 65) (d := 2) (maxL := 2) E hK hc hS (c_X10_init l X (a + 1 + 423) (hl0.sub 424 8 (by decide +kernel))) rfl rfl iz_X10 tyX10 tyX10_ok zdv_X10 zcl_X11_30 zci_X10 zcn_X10 zcm_X11_32 zcx_X10 zcc_X10 ⟨rfl, rfl⟩ (by decide +kernel) ⟨⟨by omega, by omega⟩, by omega, by omega⟩ hl.1 (Nat.le_of_ble_eq_true rfl) dX11_init_146 dX11_init_149 dX11_init_150 (fun H locs hc hS => ?_)
  refine W.widen (k := 434) (n := 9476) (by omega) (by omega) ?_
  have hc : zcs X 9 a 434 _ _ H := hc
  have hk : zq_k X (a + 424) = 8 := hl0.k 424 rfl rfl
  refine zc_aast' (b := (a + 225)) (x' := 18) (k3 := 8) E hK hc hS (fun e he => absurd he List.not_mem_nil) rfl rfl hk (by decide) ⟨by omega, by omega, by omega⟩ (fun e he => absurd he List.not_mem_nil) (by decide +kernel) (by decide +kernel) dX11_init_153 (fun H locs hc hS => ?_)
  refine lv_iinc (v := (19 : Int32)) (lv' := [(1, .int (19 : Int32)), (0, .ref a)]) hx hb dX11_init_154 hl (k := 0) rfl (by decide +kernel) (by decide) rfl (fun ls hl => ?_)
  refine lv_goto (tgt := 132) hx hb dX11_init_157 (by decide) ?_
  refine lv_iload_n hx hb dX11_init_132 rfl (lv_at hl 0 rfl) ?_
  refine lv_aload_n hx hb dX11_init_133 rfl (lv_at hl 1 rfl) ?_
  refine zc_get (j := 7) (v := .ref (a + 225)) E hc (zFX11_45 E hK.1) (by decide) rfl dX11_init_134 ?_
  refine zc_alen (b := (a + 225)) (nn := 20) E hK hc rfl (by decide +kernel) dX11_init_137 ?_
  refine lv_icmp_ge (tgt := 160) hx hb dX11_init_138 (by decide) (fun b => absurd b (by decide +kernel)) (fun b => ?_)
  refine lv_aload_n hx hb dX11_init_141 rfl (lv_at hl 1 rfl) ?_
  refine zc_get (j := 7) (v := .ref (a + 225)) E hc (zFX11_45 E hK.1) (by decide) rfl dX11_init_142 ?_
  refine lv_iload_n hx hb dX11_init_145 rfl (lv_at hl 0 rfl) ?_
  refine zc_make (k2 := 8) (N2 := 10) (c2 := 10) (n2 := 65) (d := 2) (maxL := 2) E hK hc hS (c_X10_init l X (a + 1 + 434) (hl0.sub 435 8 (by decide +kernel))) rfl rfl iz_X10 tyX10 tyX10_ok zdv_X10 zcl_X11_30 zci_X10 zcn_X10 zcm_X11_32 zcx_X10 zcc_X10 ⟨rfl, rfl⟩ (by decide +kernel) ⟨⟨by omega, by omega⟩, by omega, by omega⟩ hl.1 (Nat.le_of_ble_eq_true rfl) dX11_init_146 dX11_init_149 dX11_init_150 (fun H locs hc hS => ?_)
  refine W.widen (k := 445) (n := 9551) (by omega) (by omega) ?_
  have hc : zcs X 9 a 445 _ _ H := hc
  have hk : zq_k X (a + 435) = 8 := hl0.k 435 rfl rfl
  refine zc_aast' (b := (a + 225)) (x' := 19) (k3 := 8) E hK hc hS (fun e he => absurd he List.not_mem_nil) rfl rfl hk (by decide) ⟨by omega, by omega, by omega⟩ (fun e he => absurd he List.not_mem_nil) (by decide +kernel) (by decide +kernel) dX11_init_153 (fun H locs hc hS => ?_)
  refine lv_iinc (v := (20 : Int32)) (lv' := [(1, .int (20 : Int32)), (0, .ref a)]) hx hb dX11_init_154 hl (k := 0) rfl (by decide +kernel) (by decide) rfl (fun ls hl => ?_)
  refine lv_goto (tgt := 132) hx hb dX11_init_157 (by decide) ?_
  refine lv_iload_n hx hb dX11_init_132 rfl (lv_at hl 0 rfl) ?_
  refine lv_aload_n hx hb dX11_init_133 rfl (lv_at hl 1 rfl) ?_
  refine zc_get (j := 7) (v := .ref (a + 225)) E hc (zFX11_45 E hK.1) (by decide) rfl dX11_init_134 ?_
  refine zc_alen (b := (a + 225)) (nn := 20) E hK hc rfl (by decide +kernel) dX11_init_137 ?_
  refine lv_icmp_ge (tgt := 160) hx hb dX11_init_138 (by decide) (fun b => ?_) (fun b => absurd (by decide +kernel) b)
  have hkb : zq_k X (a + 225) = 42 := hl0.k 225 rfl rfl
  have hr0 : zq_r X (a + 225) 0 = (a + 226) := hl0.r 225 0 rfl rfl
  have hr1 : zq_r X (a + 225) 1 = (a + 237) := hl0.r 225 1 rfl rfl
  have hr2 : zq_r X (a + 225) 2 = (a + 248) := hl0.r 225 2 rfl rfl
  have hr3 : zq_r X (a + 225) 3 = (a + 259) := hl0.r 225 3 rfl rfl
  have hr4 : zq_r X (a + 225) 4 = (a + 270) := hl0.r 225 4 rfl rfl
  have hr5 : zq_r X (a + 225) 5 = (a + 281) := hl0.r 225 5 rfl rfl
  have hr6 : zq_r X (a + 225) 6 = (a + 292) := hl0.r 225 6 rfl rfl
  have hr7 : zq_r X (a + 225) 7 = (a + 303) := hl0.r 225 7 rfl rfl
  have hr8 : zq_r X (a + 225) 8 = (a + 314) := hl0.r 225 8 rfl rfl
  have hr9 : zq_r X (a + 225) 9 = (a + 325) := hl0.r 225 9 rfl rfl
  have hr10 : zq_r X (a + 225) 10 = (a + 336) := hl0.r 225 10 rfl rfl
  have hr11 : zq_r X (a + 225) 11 = (a + 347) := hl0.r 225 11 rfl rfl
  have hr12 : zq_r X (a + 225) 12 = (a + 358) := hl0.r 225 12 rfl rfl
  have hr13 : zq_r X (a + 225) 13 = (a + 369) := hl0.r 225 13 rfl rfl
  have hr14 : zq_r X (a + 225) 14 = (a + 380) := hl0.r 225 14 rfl rfl
  have hr15 : zq_r X (a + 225) 15 = (a + 391) := hl0.r 225 15 rfl rfl
  have hr16 : zq_r X (a + 225) 16 = (a + 402) := hl0.r 225 16 rfl rfl
  have hr17 : zq_r X (a + 225) 17 = (a + 413) := hl0.r 225 17 rfl rfl
  have hr18 : zq_r X (a + 225) 18 = (a + 424) := hl0.r 225 18 rfl rfl
  have hr19 : zq_r X (a + 225) 19 = (a + 435) := hl0.r 225 19 rfl rfl
  have hc := hc.close hkb (by decide) rfl (fun j hj => by
    rcases (show j = 0 ∨ j = 1 ∨ j = 2 ∨ j = 3 ∨ j = 4 ∨ j = 5 ∨ j = 6 ∨ j = 7 ∨ j = 8 ∨ j = 9 ∨ j = 10 ∨ j = 11 ∨ j = 12 ∨ j = 13 ∨ j = 14 ∨ j = 15 ∨ j = 16 ∨ j = 17 ∨ j = 18 ∨ j = 19 by omega) with rfl | rfl | rfl | rfl | rfl | rfl | rfl | rfl | rfl | rfl | rfl | rfl | rfl | rfl | rfl | rfl | rfl | rfl | rfl | rfl
    · show Value.ref (a + 226) = Value.ref (zq_r X (a + 225) 0); rw [hr0]
    · show Value.ref (a + 237) = Value.ref (zq_r X (a + 225) 1); rw [hr1]
    · show Value.ref (a + 248) = Value.ref (zq_r X (a + 225) 2); rw [hr2]
    · show Value.ref (a + 259) = Value.ref (zq_r X (a + 225) 3); rw [hr3]
    · show Value.ref (a + 270) = Value.ref (zq_r X (a + 225) 4); rw [hr4]
    · show Value.ref (a + 281) = Value.ref (zq_r X (a + 225) 5); rw [hr5]
    · show Value.ref (a + 292) = Value.ref (zq_r X (a + 225) 6); rw [hr6]
    · show Value.ref (a + 303) = Value.ref (zq_r X (a + 225) 7); rw [hr7]
    · show Value.ref (a + 314) = Value.ref (zq_r X (a + 225) 8); rw [hr8]
    · show Value.ref (a + 325) = Value.ref (zq_r X (a + 225) 9); rw [hr9]
    · show Value.ref (a + 336) = Value.ref (zq_r X (a + 225) 10); rw [hr10]
    · show Value.ref (a + 347) = Value.ref (zq_r X (a + 225) 11); rw [hr11]
    · show Value.ref (a + 358) = Value.ref (zq_r X (a + 225) 12); rw [hr12]
    · show Value.ref (a + 369) = Value.ref (zq_r X (a + 225) 13); rw [hr13]
    · show Value.ref (a + 380) = Value.ref (zq_r X (a + 225) 14); rw [hr14]
    · show Value.ref (a + 391) = Value.ref (zq_r X (a + 225) 15); rw [hr15]
    · show Value.ref (a + 402) = Value.ref (zq_r X (a + 225) 16); rw [hr16]
    · show Value.ref (a + 413) = Value.ref (zq_r X (a + 225) 17); rw [hr17]
    · show Value.ref (a + 424) = Value.ref (zq_r X (a + 225) 18); rw [hr18]
    · show Value.ref (a + 435) = Value.ref (zq_r X (a + 225) 19); rw [hr19])
  clear hr0 hr1 hr2 hr3 hr4 hr5 hr6 hr7 hr8 hr9 hr10 hr11 hr12 hr13 hr14 hr15 hr16 hr17 hr18 hr19
  refine lv_aload_n hx hb dX11_init_160 rfl (lv_at hl 1 rfl) ?_
  refine zc_make (k2 := 3) (N2 := 6) (c2 := 13) (n2 := 82) (d := 3) (maxL := 1) E hK hc hS (c_X2_init l X (a + 1 + 445) (hl0.sub 446 3 (by decide +kernel))) rfl rfl iz_X2 tyX2 tyX2_ok zdv_X2 zcl_X11_49 zci_X2 zcn_X2 zcm_X11_51 zcx_X2 zcc_X2 ⟨rfl, rfl⟩ (by decide +kernel) ⟨⟨by omega, by omega⟩, by omega, by omega⟩ hl.1 (Nat.le_of_ble_eq_true rfl) dX11_init_161 dX11_init_164 dX11_init_165 (fun H locs hc hS => ?_)
  refine W.widen (k := 459) (n := 9639) (by omega) (by omega) ?_
  have hc : zcs X 9 a 459 _ [] H := hc
  refine zc_putF (j := 10) E hc hS (zc_G.of (C := RX11) (T := TX11) (N := 12) E hK rfl iz_X11 rfl tyX11 tyX11_ok nmX11 (by decide) rfl rfl rfl zLX11_52) hin (by decide) rfl rfl dX11_init_168 (fun H locs hc hS => ?_)
  refine lv_aload_n hx hb dX11_init_171 rfl (lv_at hl 1 rfl) ?_
  refine zc_make (k2 := 2) (N2 := 3) (c2 := 20) (n2 := 516) (d := 3) (maxL := 1) E hK hc hS (hled (a + 1 + 459) (hl0.sub 460 2 (by decide +kernel))) rfl rfl iz_X1 tyX1 tyX1_ok zdv_X1 zcl_X11_56 zci_X1 zcn_X1 zcm_X11_58 zcx_X1 zcc_X1 ⟨rfl, rfl⟩ (by decide +kernel) ⟨⟨by omega, by omega⟩, by omega, by omega⟩ hl.1 (Nat.le_of_ble_eq_true rfl) dX11_init_172 dX11_init_175 dX11_init_176 (fun H locs hc hS => ?_)
  refine W.widen (k := 480) (n := 10158) (by omega) (by omega) ?_
  have hc : zcs X 9 a 480 _ [] H := hc
  refine zc_putF (j := 11) E hc hS (zc_G.of (C := RX11) (T := TX11) (N := 12) E hK rfl iz_X11 rfl tyX11 tyX11_ok nmX11 (by decide) rfl rfl rfl zLX11_59) hin (by decide) rfl rfl dX11_init_179 (fun H locs hc hS => ?_)
  subst hQ
  have hr0 : zq_r X a 0 = (a + 1) := hl0.r 0 0 rfl rfl
  have hr1 : zq_r X a 1 = (a + 8) := hl0.r 0 1 rfl rfl
  have hr3 : zq_r X a 3 = (a + 87) := hl0.r 0 3 rfl rfl
  have hr4 : zq_r X a 4 = (a + 112) := hl0.r 0 4 rfl rfl
  have hr5 : zq_r X a 5 = (a + 123) := hl0.r 0 5 rfl rfl
  have hr6 : zq_r X a 6 = (a + 124) := hl0.r 0 6 rfl rfl
  have hr7 : zq_r X a 7 = (a + 225) := hl0.r 0 7 rfl rfl
  have hr10 : zq_r X a 10 = (a + 446) := hl0.r 0 10 rfl rfl
  have hr11 : zq_r X a 11 = (a + 460) := hl0.r 0 11 rfl rfl
  refine zc_ret E hr hc hS hk0 (by decide) (fun j hj => ?_) hlocks dX11_init_182
  have hj : j < 12 := hj
  rcases (show j = 0 ∨ j = 1 ∨ j = 2 ∨ j = 3 ∨ j = 4 ∨ j = 5 ∨ j = 6 ∨ j = 7 ∨ j = 8 ∨ j = 9 ∨ j = 10 ∨ j = 11 by omega) with rfl | rfl | rfl | rfl | rfl | rfl | rfl | rfl | rfl | rfl | rfl | rfl
  · show Value.ref (a + 1) = Value.ref (zq_r X a 0); rw [hr0]
  · show Value.ref (a + 8) = Value.ref (zq_r X a 1); rw [hr1]
  · show Value.int (0) = Value.int (zv0 (zq_k X a) 2); rw [hk0]; rfl
  · show Value.ref (a + 87) = Value.ref (zq_r X a 3); rw [hr3]
  · show Value.ref (a + 112) = Value.ref (zq_r X a 4); rw [hr4]
  · show Value.ref (a + 123) = Value.ref (zq_r X a 5); rw [hr5]
  · show Value.ref (a + 124) = Value.ref (zq_r X a 6); rw [hr6]
  · show Value.ref (a + 225) = Value.ref (zq_r X a 7); rw [hr7]
  · show Value.int (0) = Value.int (zv0 (zq_k X a) 8); rw [hk0]; rfl
  · show Value.int (0) = Value.int (zv0 (zq_k X a) 9); rw [hk0]; rfl
  · show Value.ref (a + 446) = Value.ref (zq_r X a 10); rw [hr10]
  · show Value.ref (a + 460) = Value.ref (zq_r X a 11); rw [hr11]
