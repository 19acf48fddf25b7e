def zw_X12_isSailHere : List (Nat × Nat) := [(10, 8), (10, 9), (10, 10), (10, 12), (10, 13), (10, 16), (51, 999), (52, 999), (53, 999), (54, 999), (56, 999)]
set_option maxHeartbeats 8000000 in
set_option maxRecDepth 100000 in
theorem c_X12_isSailHere (l : Launch) (X : zq_X) (zk zn : Nat) (I : zq_M) (L : zq_L X)  (h0 : Nat) (k_h0 : zq_k X h0 = 10) (q_0 : zk ≤ 4400 ∧ zn ≤ 4400) (q_1 : (I h0 8).toInt ≤ (I h0 1).toInt) (q_2 : (I h0 11).toInt ≤ 5) (q_3 : ((zLn X I h0 : Nat) : Int) ≤ (I h0 8).toInt) (q_4 : zWL X I h0) (q_5 : (I (zq_r X h0 6) (zTx I h0)).toInt ≤ 11) : Met l yX12_isSailHere (zt_w yX12_isSailHere cX12_isSailHere 2 (some .boolean)) (zq_rm (9)) (va_Pc [.ref h0] (zq_W X (zk, zn) I)) (va_Qi (fun (r : Int32) I2 => zq_fr (zf X zw_X12_isSailHere (fun _ => False)) I I2 ∧ (zGo X h0 false 0 I I2) ∧ (zWL X I2 h0) ∧ ((I2 (zq_r X h0 6) (zTx I h0)).toInt ≤ (I (zq_r X h0 6) (zTx I h0)).toInt + 1) ∧ (0 ≤ r.toInt ∧ r.toInt ≤ 1)) (zq_E X (zk, zn)) (zq_A X)) 0 0 (zq_A X) := by
  refine Met.ofW (cc := cX12_isSailHere) (maxL := 2) (ret := (some .boolean)) (by decide) rfl ?_
  intro p e s m args below meth c s₁ B hml hv
  obtain ⟨hargs, hM, hZ⟩ := hv
  have hown : s.vm.findClass RX12 = some m.cls := findClass_of_methodNamed B.named
  have hts := atoms_spec (ws := zt_w yX12_isSailHere cX12_isSailHere 2 (some .boolean)) B.pre
  have E : CallFix p m c cX12_isSailHere 2 s args (Cond.code yX12_isSailHere cX12_isSailHere 2 (some .boolean) :: zt) RX12 := ⟨B.exec, B.bytes, hml, hown, hts⟩
  have hx := B.exec
  have hb := B.bytes
  have hr := B.returns
  have hlocks := B.notSynchronized
  clear B
  have hS : va_S (zq_A X) s.heap s.heap [] := va_S.rf
  have hR : zq_fr (zf X zw_X12_isSailHere (fun _ => False)) I I := zq_fr.rf
  have hl := lv_entry ([.ref h0]) (n := 2) (by exact Nat.le_of_ble_eq_true rfl)
  have hg : entryFrame m args 2 = F0 m 0 ((lg_sl ([.ref h0]) ++ List.replicate (2 - (lg_sl ([.ref h0])).length) Slot.unset).toArray) [] := by rw [hargs]; exact lg_entry_eq m ([.ref h0]) 2
  rw [hg]
  clear hg hargs
  generalize (lg_sl ([.ref h0]) ++ List.replicate (2 - (lg_sl ([.ref h0])).length) Slot.unset).toArray = ls at hl ⊢
  have hl : lv_has ls 2 [(0, .ref h0)] := by exact hl
  obtain ⟨R, hRm⟩ : ∃ R : Room, R = (headSpec (zt_w yX12_isSailHere cX12_isSailHere 2 (some .boolean)) (zq_rm (9))).room := ⟨_, rfl⟩
  rw [← hRm]
  have hro : ∀ d q : Nat, d + 1 ≤ 9 → q ≤ 45 → zq_rok d q R := fun d q h1 h2 => by rw [hRm]; exact zq_rokI h1 h2
  generalize hQ : MQ below _ args s 0 0 (zq_A X) = Q
  obtain ⟨H, hH⟩ : ∃ H, H = s.heap := ⟨_, rfl⟩
  obtain ⟨locs, hlo⟩ : ∃ x : List Loc, x = [] := ⟨_, rfl⟩
  rw [show W p l e R s m args below meth c s.heap [] 0 0 Q = W p l e R s m args below meth c H locs 0 0 Q by rw [hH, hlo]]
  have hM : zq_hm X (zk, zn) I H := by rw [hH]; exact hM
  have hS : va_S (zq_A X) s.heap H locs := by rw [hH, hlo]; exact hS
  clear hH hlo
  have hG0 : zGo X h0 false 0 I I := zGo.rf q_1
  refine lv_aload_n hx hb dX12_isSailHere_0 rfl (lv_at hl 0 rfl) ?_
  refine zq_callv (zq_rV (As := []) (rest := []) E hZ hM k_h0 (c_X12_passWord l X zk (zn) I L h0 k_h0 (by omega) (hG0.2.2.2.1)) zmX12_99 zM_X12_passWord (hro (1) 1 (by first | decide | omega) (by decide)) ⟨by decide, by decide⟩ rfl hl.1 rfl rfl (Nat.le_of_ble_eq_true rfl) dX12_isSailHere_1) hS (fun I103 H locs h101 hM hS => ?_)
  obtain ⟨fr104, p105, p106, p107⟩ := h101
  have hR := zq_fr.call hR fr104 (zf_sub (by decide +kernel) (fun _ _ q => q.elim))
  have hG108 : zGo X h0 false 0 I I103 := (zGo.wk (zGo.tr hG0 (p105 false)) (by decide))
  have hWL109 : zWL X I103 h0 := zWL.go q_4 (p105 false) (zfr_s L k_h0 fr104 rfl (by decide) rfl) (zfr_s L k_h0 fr104 rfl (by decide) rfl)
  refine lv_bipush (v := 48) hx hb dX12_isSailHere_4 (by decide +kernel) ?_
  refine lv_aload_n hx hb dX12_isSailHere_6 rfl (lv_at hl 0 rfl) ?_
  refine zq_gn E hM k_h0 (zFX12_142 E hZ) (Or.inl ⟨by decide, by decide, by decide, rfl⟩) dX12_isSailHere_7 (fun x110 ex110 gx110 => ?_)
  replace gx110 : 0 ≤ x110.toInt ∧ x110.toInt ≤ 6 := gx110
  have := congrArg Int32.toInt ex110
  have : x110.toInt ≤ 5 := by have q := hG108.1; rw [ex110] at q; rw [q]; exact q_2
  refine lv_imul hx hb dX12_isSailHere_10 ?_
  refine lv_topi (fun x111 ex111 => ?_)
  have tx111 := zi_mul ex111 (zl_48 : (48 : Int32).toInt = 48) (rfl : x110.toInt = x110.toInt) ⟨by omega, by omega⟩
  refine lv_iconst (v := 4) hx hb dX12_isSailHere_11 (by decide +kernel) ?_
  refine lv_aload_n hx hb dX12_isSailHere_12 rfl (lv_at hl 0 rfl) ?_
  refine zq_getr E hM k_h0 (zFX12_23 E hZ) ⟨by decide, by decide, by decide, rfl⟩ dX12_isSailHere_13 ?_
  have k112 : zq_k X (zq_r X h0 6) = 54 := zq_lk L.1 k_h0 rfl (by decide)
  refine W.eq (g2 := F0 m 16 ls [.ref (zq_r X h0 6), .int (4 : Int32), .int x111]) rfl ?_
  refine lv_aload_n hx hb dX12_isSailHere_16 rfl (lv_at hl 0 rfl) ?_
  refine zq_gk (v := x110) E hM k_h0 (zFX12_142 E hZ) (Or.inl ⟨by decide, by decide, by decide, rfl⟩) ex110 dX12_isSailHere_17 ?_
  refine zq_ian (n := 6) (j := (x110.toNatClampNeg)) E hZ hM k112 ⟨by decide, rfl⟩ ⟨by omega, by omega⟩ rfl dX12_isSailHere_20 (fun x113 ex113 gx113 => ?_)
  replace gx113 : 0 ≤ x113.toInt ∧ x113.toInt ≤ 12 := gx113
  have hcn : x113.toInt ≤ 11 := by have q := q_5; unfold zTx at q; rw [← hG108.1, ex110] at q; rw [← zfr_s (s := 6) L k_h0 fr104 rfl (by decide) rfl, ex113] at q; exact q
  refine lv_imul hx hb dX12_isSailHere_21 ?_
  refine lv_topi (fun x114 ex114 => ?_)
  have tx114 := zi_mul ex114 (zl_4 : (4 : Int32).toInt = 4) (rfl : x113.toInt = x113.toInt) ⟨by omega, by omega⟩
  refine lv_iadd hx hb dX12_isSailHere_22 ?_
  refine lv_topi (fun x115 ex115 => ?_)
  have tx115 := zi_add ex115 (rfl : x111.toInt = x111.toInt) (rfl : x114.toInt = x114.toInt) ⟨by omega, by omega⟩
  have htx0 : zTx I h0 = x110.toNatClampNeg := by unfold zTx; rw [← hG108.1, ex110]
  have hcn0 : I (zq_r X h0 6) x110.toNatClampNeg = x113 := (zfr_s (s := 6) L k_h0 fr104 rfl (by decide) rfl _).symm.trans ex113
  refine lv_istore_n (lv' := [(1, .int x115), (0, .ref h0)]) hx hb dX12_isSailHere_23 rfl hl (by decide) rfl (fun ls hl => ?_)
  refine lv_aload_n hx hb dX12_isSailHere_24 rfl (lv_at hl 1 rfl) ?_
  refine zq_getr E hM k_h0 (zFX12_20 E hZ) ⟨by decide, by decide, by decide, rfl⟩ dX12_isSailHere_25 ?_
  have k116 : zq_k X (zq_r X h0 5) = 53 := zq_lk L.1 k_h0 rfl (by decide)
  refine lv_iload_n hx hb dX12_isSailHere_28 rfl (lv_at hl 0 rfl) ?_
  refine lv_aload_n hx hb dX12_isSailHere_29 rfl (lv_at hl 1 rfl) ?_
  refine W.eq (g2 := F0 m 30 ls [.ref h0, .int x115, .ref (zq_r X h0 5)]) rfl ?_
  refine zq_getr E hM k_h0 (zFX12_17 E hZ) ⟨by decide, by decide, by decide, rfl⟩ dX12_isSailHere_30 ?_
  have k117 : zq_k X (zq_r X h0 4) = 52 := zq_lk L.1 k_h0 rfl (by decide)
  refine lv_aload_n hx hb dX12_isSailHere_33 rfl (lv_at hl 1 rfl) ?_
  refine zq_gk (v := x110) E hM k_h0 (zFX12_142 E hZ) (Or.inl ⟨by decide, by decide, by decide, rfl⟩) ex110 dX12_isSailHere_34 ?_
  refine zq_ian (n := 7) (j := (x110.toNatClampNeg)) E hZ hM k117 ⟨by decide, rfl⟩ ⟨by omega, by omega⟩ rfl dX12_isSailHere_37 (fun x118 ex118 gx118 => ?_)
  replace gx118 : 0 ≤ x118.toInt ∧ x118.toInt ≤ 400 := gx118
  have hMp := hM
  refine zq_isn (n := 288) (j := (x115.toNatClampNeg)) E hZ hM hS k116 ⟨by decide, rfl⟩ ⟨by omega, by omega⟩ rfl (zq_any _) dX12_isSailHere_38 (fun I119 H locs eI119 hM hS => ?_)
  have hR := zq_fr.putE hR eI119 (zf_ia k116 (by decide) rfl)
  have hG120 : zGo X h0 false 0 I I119 := (zGo.wk (zGo.pt hG108 L k_h0 eI119 k116 rfl) (by decide))
  have hWL121 : zWL X I119 h0 := zWL.put hWL109 L k_h0 eI119 (show zTx _ h0 = x110.toNatClampNeg by unfold zTx; rw [ex110]) (n := x113.toNatClampNeg) (by rw [ex113]; exact zq_cl (by omega)) (by have := zq_cl (i := x115) (by omega); have := zq_cl (i := x110) (by omega); have := zq_cl (i := x113) (by omega); omega) (by have := zq_cl (i := x115) (by omega); have := zq_cl (i := x110) (by omega); have := zq_cl (i := x113) (by omega); omega) (fun r => ((zq_rng hMp (zq_lk L.1 k_h0 rfl (by decide) : zq_k X (zq_r X h0 6) = 54) r).2))
  have hK122 := (zq_kp eI119 (Or.inl (zq_kne k_h0 k116 (by decide))) ex110)
  have hK123 := (zq_kp eI119 (Or.inl (zq_kne (zq_lk L.1 k_h0 rfl (by decide) : zq_k X (zq_r X h0 6) = 54) k116 (by decide))) ex113)
  have hC39 : I119 (zq_r X h0 5) (48 * x110.toNatClampNeg + 4 * x113.toNatClampNeg) = x118 := by rw [show 48 * x110.toNatClampNeg + 4 * x113.toNatClampNeg = x115.toNatClampNeg by have := zq_cl (i := x115) (by omega); have := zq_cl (i := x110) (by omega); have := zq_cl (i := x113) (by omega); omega]; exact zq_kv eI119
  have hzb : zLn X I119 h0 = x118.toNatClampNeg := by unfold zLn; rw [show zTx I119 h0 = x110.toNatClampNeg by unfold zTx; rw [hK122], (zq_kp eI119 (Or.inl (zq_kne (zq_lk L.1 k_h0 rfl (by decide) : zq_k X (zq_r X h0 4) = 52) k116 (by decide))) ex118)]
  have hMb := hM
  refine lv_aload_n hx hb dX12_isSailHere_39 rfl (lv_at hl 1 rfl) ?_
  refine zq_calli (zq_rV (As := []) (rest := []) E hZ hM k_h0 (c_X12_sum l X zk (zn) I119 L h0 k_h0 (by omega) (hG120.2.2.2.1) (by rw [hG120.1]; exact q_2) (zGo.len hG120 (by decide) q_3)) zmX12_179 zM_X12_sum (hro (5) 2 (by first | decide | omega) (by decide)) ⟨by decide, by decide⟩ rfl hl.1 rfl rfl (Nat.le_of_ble_eq_true rfl) dX12_isSailHere_40) hS (fun x125 I126 H locs h124 hM hS => ?_)
  obtain ⟨fr127, p128, p129, p130⟩ := h124
  have hR := zq_fr.call hR fr127 (zf_sub (by decide +kernel) (fun _ _ q => q.elim))
  have hG131 : zGo X h0 false 0 I I126 := (zGo.wk (zGo.tr hG120 (p128 false)) (by decide))
  have hWL132 : zWL X I126 h0 := zWL.go hWL121 (p128 false) (zfr_s L k_h0 fr127 rfl (by decide) rfl) (zfr_s L k_h0 fr127 rfl (by decide) rfl)
  have hK133 := (zq_fr.kp fr127 (zf_n k_h0 rfl) hK122)
  have hK134 := (zq_fr.kp fr127 (zf_n (zq_lk L.1 k_h0 rfl (by decide) : zq_k X (zq_r X h0 6) = 54) rfl) hK123)
  have hCl135 : I126 (zq_r X h0 5) (48 * x110.toNatClampNeg + 4 * x113.toNatClampNeg) = x118 := zq_fr.kp fr127 (zf_n (zq_lk L.1 k_h0 rfl (by decide) : zq_k X (zq_r X h0 5) = 53) rfl) hC39
  refine lv_if_ne (tgt := 48) hx hb dX12_isSailHere_43 (by decide) (fun b136 => ?_) (fun b136 => ?_)
  · have b136 := zi_ne b136 (rfl : x125.toInt = x125.toInt) (zl_0 : (0 : Int32).toInt = 0)
    have hRg137 : zRg X h0 x110.toNatClampNeg x118.toNatClampNeg (zLn X I126 h0) I126 := by have q9 := zRg.mk (p129.resolve_left (by omega)) (p128 false) ((zq_rng hMb k_h0 12).1); rw [show zTx I126 h0 = x110.toNatClampNeg by unfold zTx; rw [hK133], hzb] at q9; exact q9
    refine lv_aload_n hx hb dX12_isSailHere_48 rfl (lv_at hl 1 rfl) ?_
    refine zq_getr E hM k_h0 (zFX12_20 E hZ) ⟨by decide, by decide, by decide, rfl⟩ dX12_isSailHere_49 ?_
    have k138 : zq_k X (zq_r X h0 5) = 53 := zq_lk L.1 k_h0 rfl (by decide)
    refine lv_iload_n hx hb dX12_isSailHere_52 rfl (lv_at hl 0 rfl) ?_
    refine lv_iconst (v := 1) hx hb dX12_isSailHere_53 (by decide +kernel) ?_
    refine lv_iadd hx hb dX12_isSailHere_54 ?_
    refine lv_topi (fun x139 ex139 => ?_)
    have tx139 := zi_add ex139 (rfl : x115.toInt = x115.toInt) (zl_1 : (1 : Int32).toInt = 1) ⟨by omega, by omega⟩
    refine lv_aload_n hx hb dX12_isSailHere_55 rfl (lv_at hl 1 rfl) ?_
    refine zq_getr E hM k_h0 (zFX12_17 E hZ) ⟨by decide, by decide, by decide, rfl⟩ dX12_isSailHere_56 ?_
    have k140 : zq_k X (zq_r X h0 4) = 52 := zq_lk L.1 k_h0 rfl (by decide)
    refine lv_aload_n hx hb dX12_isSailHere_59 rfl (lv_at hl 1 rfl) ?_
    refine zq_gk (v := x110) E hM k_h0 (zFX12_142 E hZ) (Or.inl ⟨by decide, by decide, by decide, rfl⟩) (zq_fr.kp fr127 (zf_n k_h0 rfl) (zq_kp eI119 (Or.inl (zq_kne k_h0 k116 (by decide))) ex110)) dX12_isSailHere_60 ?_
    refine W.eq (g2 := F0 m 63 ls [.int x110, .ref (zq_r X h0 4), .int x139, .ref (zq_r X h0 5)]) rfl ?_
    refine zq_ian (n := 7) (j := (x110.toNatClampNeg)) E hZ hM k140 ⟨by decide, rfl⟩ ⟨by omega, by omega⟩ rfl dX12_isSailHere_63 (fun x141 ex141 gx141 => ?_)
    replace gx141 : 0 ≤ x141.toInt ∧ x141.toInt ≤ 400 := gx141
    have hMp := hM
    refine zq_isn (n := 288) (j := (x139.toNatClampNeg)) E hZ hM hS k138 ⟨by decide, rfl⟩ ⟨by omega, by omega⟩ rfl (zq_any _) dX12_isSailHere_64 (fun I142 H locs eI142 hM hS => ?_)
    have hR := zq_fr.putE hR eI142 (zf_ia k138 (by decide) rfl)
    have hG143 : zGo X h0 false 0 I I142 := (zGo.wk (zGo.pt hG131 L k_h0 eI142 k138 rfl) (by decide))
    have hWL144 : zWL X I142 h0 := zWL.put hWL132 L k_h0 eI142 (show zTx _ h0 = x110.toNatClampNeg by unfold zTx; rw [hK133]) (n := x113.toNatClampNeg) (by rw [hK134]; exact zq_cl (by omega)) (by have := zq_cl (i := x139) (by omega); have := zq_cl (i := x110) (by omega); have := zq_cl (i := x113) (by omega); omega) (by have := zq_cl (i := x139) (by omega); have := zq_cl (i := x110) (by omega); have := zq_cl (i := x113) (by omega); omega) (fun r => ((zq_rng hMp (zq_lk L.1 k_h0 rfl (by decide) : zq_k X (zq_r X h0 6) = 54) r).2))
    have hK145 := (zq_kp eI142 (Or.inl (zq_kne k_h0 k138 (by decide))) hK133)
    have hK146 := (zq_kp eI142 (Or.inl (zq_kne (zq_lk L.1 k_h0 rfl (by decide) : zq_k X (zq_r X h0 6) = 54) k138 (by decide))) hK134)
    have hCl147 : I142 (zq_r X h0 5) (48 * x110.toNatClampNeg + 4 * x113.toNatClampNeg) = x118 := zq_kp eI142 (Or.inr (by have := zq_cl (i := x139) (by omega); have := zq_cl (i := x110) (by omega); have := zq_cl (i := x113) (by omega); omega)) hCl135
    have hRg148 : zRg X h0 x110.toNatClampNeg x118.toNatClampNeg (zLn X I126 h0) I142 := zRg.pt hRg137 L k_h0 eI142 k138 (by decide)
    have hC65 : I142 (zq_r X h0 5) (48 * x110.toNatClampNeg + 4 * x113.toNatClampNeg + 1) = x141 := by rw [show 48 * x110.toNatClampNeg + 4 * x113.toNatClampNeg + 1 = x139.toNatClampNeg by have := zq_cl (i := x139) (by omega); have := zq_cl (i := x110) (by omega); have := zq_cl (i := x113) (by omega); omega]; exact zq_kv eI142
    have hze : (zLn X I126 h0) = x141.toNatClampNeg := by unfold zLn; rw [(show zTx I126 h0 = x110.toNatClampNeg by unfold zTx; rw [hK133]), ex141]
    have hRg65 : zRg X h0 x110.toNatClampNeg x118.toNatClampNeg x141.toNatClampNeg I142 := by have q9 := hRg148; rw [hze] at q9; exact q9
    refine lv_aload_n hx hb dX12_isSailHere_65 rfl (lv_at hl 1 rfl) ?_
    refine zq_getr E hM k_h0 (zFX12_20 E hZ) ⟨by decide, by decide, by decide, rfl⟩ dX12_isSailHere_66 ?_
    have k149 : zq_k X (zq_r X h0 5) = 53 := zq_lk L.1 k_h0 rfl (by decide)
    refine lv_iload_n hx hb dX12_isSailHere_69 rfl (lv_at hl 0 rfl) ?_
    refine lv_iconst (v := 2) hx hb dX12_isSailHere_70 (by decide +kernel) ?_
    refine lv_iadd hx hb dX12_isSailHere_71 ?_
    refine lv_topi (fun x150 ex150 => ?_)
    have tx150 := zi_add ex150 (rfl : x115.toInt = x115.toInt) (zl_2 : (2 : Int32).toInt = 2) ⟨by omega, by omega⟩
    refine lv_iconst (v := (-1)) hx hb dX12_isSailHere_72 (by decide +kernel) ?_
    have hMp := hM
    refine zq_isn (n := 288) (j := (x150.toNatClampNeg)) E hZ hM hS k149 ⟨by decide, rfl⟩ ⟨by omega, by omega⟩ rfl (zq_any _) dX12_isSailHere_73 (fun I151 H locs eI151 hM hS => ?_)
    have hR := zq_fr.putE hR eI151 (zf_ia k149 (by decide) rfl)
    have hG152 : zGo X h0 false 0 I I151 := (zGo.wk (zGo.pt hG143 L k_h0 eI151 k149 rfl) (by decide))
    have hWL153 : zWL X I151 h0 := zWL.put hWL144 L k_h0 eI151 (show zTx _ h0 = x110.toNatClampNeg by unfold zTx; rw [hK145]) (n := x113.toNatClampNeg) (by rw [hK146]; exact zq_cl (by omega)) (by have := zq_cl (i := x150) (by omega); have := zq_cl (i := x110) (by omega); have := zq_cl (i := x113) (by omega); omega) (by have := zq_cl (i := x150) (by omega); have := zq_cl (i := x110) (by omega); have := zq_cl (i := x113) (by omega); omega) (fun r => ((zq_rng hMp (zq_lk L.1 k_h0 rfl (by decide) : zq_k X (zq_r X h0 6) = 54) r).2))
    have hK154 := (zq_kp eI151 (Or.inl (zq_kne k_h0 k149 (by decide))) hK145)
    have hK155 := (zq_kp eI151 (Or.inl (zq_kne (zq_lk L.1 k_h0 rfl (by decide) : zq_k X (zq_r X h0 6) = 54) k149 (by decide))) hK146)
    have hCl156 : I151 (zq_r X h0 5) (48 * x110.toNatClampNeg + 4 * x113.toNatClampNeg) = x118 := zq_kp eI151 (Or.inr (by have := zq_cl (i := x150) (by omega); have := zq_cl (i := x110) (by omega); have := zq_cl (i := x113) (by omega); omega)) hCl147
    have hRg157 : zRg X h0 x110.toNatClampNeg x118.toNatClampNeg x141.toNatClampNeg I151 := zRg.pt hRg65 L k_h0 eI151 k149 (by decide)
    have hCl158 : I151 (zq_r X h0 5) (48 * x110.toNatClampNeg + 4 * x113.toNatClampNeg + 1) = x141 := zq_kp eI151 (Or.inr (by have := zq_cl (i := x150) (by omega); have := zq_cl (i := x110) (by omega); have := zq_cl (i := x113) (by omega); omega)) hC65
    have hC74 : I151 (zq_r X h0 5) (48 * x110.toNatClampNeg + 4 * x113.toNatClampNeg + 2) = (-1 : Int32) := by rw [show 48 * x110.toNatClampNeg + 4 * x113.toNatClampNeg + 2 = x150.toNatClampNeg by have := zq_cl (i := x150) (by omega); have := zq_cl (i := x110) (by omega); have := zq_cl (i := x113) (by omega); omega]; exact zq_kv eI151
    refine lv_aload_n hx hb dX12_isSailHere_74 rfl (lv_at hl 1 rfl) ?_
    refine W.eq (g2 := F0 m 75 ls [.ref h0]) rfl ?_
    refine W.ldc2 (v := 26982) hx hb hown (hts _ (List.mem_cons_of_mem _ zCX12_206)) rfl dX12_isSailHere_75 ?_
    refine W.eq (g2 := F0 m 78 ls [.long (26982 : Int64), .ref h0]) rfl ?_
    refine zq_calli (zq_rV (As := [.long (26982 : Int64)]) (rest := []) E hZ hM k_h0 (c_X12_takesWord l X zk (zn) I151 L h0 k_h0 (26982 : Int64) (by have : (26982 : Int64).toInt = 26982 := (by decide +kernel); omega) (hG152.2.2.2.1)) zmX12_208 zM_X12_takesWord (hro (2) 3 (by first | decide | omega) (by decide)) ⟨by decide, by decide⟩ rfl hl.1 rfl rfl (Nat.le_of_ble_eq_true rfl) dX12_isSailHere_78) hS (fun x160 I161 H locs h159 hM hS => ?_)
    obtain ⟨fr162, p163, p164⟩ := h159
    have : (26982 : Int64).toInt = 26982 := by decide +kernel
    have hR := zq_fr.call hR fr162 (zf_sub (by decide +kernel) (fun _ _ q => q.elim))
    have hG165 : zGo X h0 false 0 I I161 := (zGo.wk (zGo.tr hG152 (p163 false)) (by decide))
    have hWL166 : zWL X I161 h0 := zWL.go hWL153 (p163 false) (zfr_s L k_h0 fr162 rfl (by decide) rfl) (zfr_s L k_h0 fr162 rfl (by decide) rfl)
    have hK167 := (zq_fr.kp fr162 (zf_n k_h0 rfl) hK154)
    have hK168 := (zq_fr.kp fr162 (zf_n (zq_lk L.1 k_h0 rfl (by decide) : zq_k X (zq_r X h0 6) = 54) rfl) hK155)
    have hCl169 : I161 (zq_r X h0 5) (48 * x110.toNatClampNeg + 4 * x113.toNatClampNeg) = x118 := zq_fr.kp fr162 (zf_n (zq_lk L.1 k_h0 rfl (by decide) : zq_k X (zq_r X h0 5) = 53) rfl) hCl156
    have hRg170 : zRg X h0 x110.toNatClampNeg x118.toNatClampNeg x141.toNatClampNeg I161 := zRg.go hRg157 (p163 false)
    have hCl171 : I161 (zq_r X h0 5) (48 * x110.toNatClampNeg + 4 * x113.toNatClampNeg + 1) = x141 := zq_fr.kp fr162 (zf_n (zq_lk L.1 k_h0 rfl (by decide) : zq_k X (zq_r X h0 5) = 53) rfl) hCl158
    have hCl172 : I161 (zq_r X h0 5) (48 * x110.toNatClampNeg + 4 * x113.toNatClampNeg + 2) = (-1 : Int32) := zq_fr.kp fr162 (zf_n (zq_lk L.1 k_h0 rfl (by decide) : zq_k X (zq_r X h0 5) = 53) rfl) hC74
    have J110 : ∀ (I202 : zq_M) (H : Heap) (locs : List Loc) (ls : Array Slot), (zq_hm X (zk, zn) I202 H) → (va_S (zq_A X) s.heap H locs) → (zq_fr (zf X zw_X12_isSailHere (fun _ => False)) I I202) → (zGo X h0 false 0 I I202) → (zWL X I202 h0) → (I202 h0 11 = x110) → (I202 (zq_r X h0 6) x110.toNatClampNeg = x113) → (I202 (zq_r X h0 5) (48 * x110.toNatClampNeg + 4 * x113.toNatClampNeg) = x118) → (zRg X h0 x110.toNatClampNeg x118.toNatClampNeg x141.toNatClampNeg I202) → (I202 (zq_r X h0 5) (48 * x110.toNatClampNeg + 4 * x113.toNatClampNeg + 1) = x141) → (∃ tt : Int32, I202 (zq_r X h0 5) (48 * x110.toNatClampNeg + 4 * x113.toNatClampNeg + 2) = tt ∧ tt.toInt ≤ 400 ∧ (tt.toInt < 0 ∨ (0 ≤ tt.toInt ∧ zRg X h0 x110.toNatClampNeg tt.toNatClampNeg (zLn X I202 h0) I202))) → (lv_has ls 2 [(1, .int x115), (0, .ref h0)]) → W p l e R s m args below meth c H locs 0 0 Q (F0 m 110 ls []) := by
      intro I202 H locs ls hM hS hR F203 F204 F205 F206 F207 F208 F209 h110 hl
      refine lv_aload_n hx hb dX12_isSailHere_110 rfl (lv_at hl 1 rfl) ?_
      refine zq_getr E hM k_h0 (zFX12_20 E hZ) ⟨by decide, by decide, by decide, rfl⟩ dX12_isSailHere_111 ?_
      have k233 : zq_k X (zq_r X h0 5) = 53 := zq_lk L.1 k_h0 rfl (by decide)
      refine lv_iload_n hx hb dX12_isSailHere_114 rfl (lv_at hl 0 rfl) ?_
      refine lv_iconst (v := 3) hx hb dX12_isSailHere_115 (by decide +kernel) ?_
      refine lv_iadd hx hb dX12_isSailHere_116 ?_
      refine lv_topi (fun x234 ex234 => ?_)
      have tx234 := zi_add ex234 (rfl : x115.toInt = x115.toInt) (zl_3 : (3 : Int32).toInt = 3) ⟨by omega, by omega⟩
      refine lv_aload_n hx hb dX12_isSailHere_117 rfl (lv_at hl 1 rfl) ?_
      refine zq_getr E hM k_h0 (zFX12_17 E hZ) ⟨by decide, by decide, by decide, rfl⟩ dX12_isSailHere_118 ?_
      have k235 : zq_k X (zq_r X h0 4) = 52 := zq_lk L.1 k_h0 rfl (by decide)
      refine lv_aload_n hx hb dX12_isSailHere_121 rfl (lv_at hl 1 rfl) ?_
      refine zq_gk (v := x110) E hM k_h0 (zFX12_142 E hZ) (Or.inl ⟨by decide, by decide, by decide, rfl⟩) F205 dX12_isSailHere_122 ?_
      refine W.eq (g2 := F0 m 125 ls [.int x110, .ref (zq_r X h0 4), .int x234, .ref (zq_r X h0 5)]) rfl ?_
      refine zq_ian (n := 7) (j := (x110.toNatClampNeg)) E hZ hM k235 ⟨by decide, rfl⟩ ⟨by omega, by omega⟩ rfl dX12_isSailHere_125 (fun x236 ex236 gx236 => ?_)
      replace gx236 : 0 ≤ x236.toInt ∧ x236.toInt ≤ 400 := gx236
      have hMp := hM
      refine zq_isn (n := 288) (j := (x234.toNatClampNeg)) E hZ hM hS k233 ⟨by decide, rfl⟩ ⟨by omega, by omega⟩ rfl (zq_any _) dX12_isSailHere_126 (fun I237 H locs eI237 hM hS => ?_)
      have hR := zq_fr.putE hR eI237 (zf_ia k233 (by decide) rfl)
      have hG238 : zGo X h0 false 0 I I237 := (zGo.wk (zGo.pt F203 L k_h0 eI237 k233 rfl) (by decide))
      have hWL239 : zWL X I237 h0 := zWL.put F204 L k_h0 eI237 (show zTx _ h0 = x110.toNatClampNeg by unfold zTx; rw [F205]) (n := x113.toNatClampNeg) (by rw [F206]; exact zq_cl (by omega)) (by have := zq_cl (i := x234) (by omega); have := zq_cl (i := x110) (by omega); have := zq_cl (i := x113) (by omega); omega) (by have := zq_cl (i := x234) (by omega); have := zq_cl (i := x110) (by omega); have := zq_cl (i := x113) (by omega); omega) (fun r => ((zq_rng hMp (zq_lk L.1 k_h0 rfl (by decide) : zq_k X (zq_r X h0 6) = 54) r).2))
      have hK240 := (zq_kp eI237 (Or.inl (zq_kne k_h0 k233 (by decide))) F205)
      have hK241 := (zq_kp eI237 (Or.inl (zq_kne (zq_lk L.1 k_h0 rfl (by decide) : zq_k X (zq_r X h0 6) = 54) k233 (by decide))) F206)
      have hCl242 : I237 (zq_r X h0 5) (48 * x110.toNatClampNeg + 4 * x113.toNatClampNeg) = x118 := zq_kp eI237 (Or.inr (by have := zq_cl (i := x234) (by omega); have := zq_cl (i := x110) (by omega); have := zq_cl (i := x113) (by omega); omega)) F207
      have hRg243 : zRg X h0 x110.toNatClampNeg x118.toNatClampNeg x141.toNatClampNeg I237 := zRg.pt F208 L k_h0 eI237 k233 (by decide)
      have hCl244 : I237 (zq_r X h0 5) (48 * x110.toNatClampNeg + 4 * x113.toNatClampNeg + 1) = x141 := zq_kp eI237 (Or.inr (by have := zq_cl (i := x234) (by omega); have := zq_cl (i := x110) (by omega); have := zq_cl (i := x113) (by omega); omega)) F209
      have hC127 : I237 (zq_r X h0 5) (48 * x110.toNatClampNeg + 4 * x113.toNatClampNeg + 3) = x236 := by rw [show 48 * x110.toNatClampNeg + 4 * x113.toNatClampNeg + 3 = x234.toNatClampNeg by have := zq_cl (i := x234) (by omega); have := zq_cl (i := x110) (by omega); have := zq_cl (i := x113) (by omega); omega]; exact zq_kv eI237
      have hzf : zLn X I202 h0 = x236.toNatClampNeg := by unfold zLn; rw [(show zTx I202 h0 = x110.toNatClampNeg by unfold zTx; rw [F205]), ex236]
      have hzf2 : zLn X I237 h0 = x236.toNatClampNeg := by unfold zLn; rw [show zTx I237 h0 = x110.toNatClampNeg by unfold zTx; rw [hK240], (zq_kp eI237 (Or.inl (zq_kne (zq_lk L.1 k_h0 rfl (by decide) : zq_k X (zq_r X h0 4) = 52) k233 (by decide))) ex236)]
      obtain ⟨tt, ht1, ht2, ht3⟩ := h110
      have ht1 : I237 (zq_r X h0 5) (48 * x110.toNatClampNeg + 4 * x113.toNatClampNeg + 2) = tt := zq_kp eI237 (Or.inr (by have := zq_cl (i := x234) (by omega); have := zq_cl (i := x110) (by omega); have := zq_cl (i := x113) (by omega); omega)) ht1
      have ht3 : tt.toInt < 0 ∨ (0 ≤ tt.toInt ∧ zRg X h0 x110.toNatClampNeg tt.toNatClampNeg x236.toNatClampNeg I237) := ht3.imp id (fun q9 => ⟨q9.1, by rw [hzf] at q9; exact zRg.pt q9.2 L k_h0 eI237 (zq_lk L.1 k_h0 rfl (by decide) : zq_k X (zq_r X h0 5) = 53) (by decide)⟩)
      have hcl : zCl X I237 h0 x110.toNatClampNeg x113.toNatClampNeg := zCl.mk hCl242 hCl244 ht1 hC127 ⟨by omega, by omega⟩ ⟨by omega, by omega⟩ ⟨by omega, by omega⟩ ht2 hRg243 ht3
      refine lv_aload_n hx hb dX12_isSailHere_127 rfl (lv_at hl 1 rfl) ?_
      refine zq_getr E hM k_h0 (zFX12_23 E hZ) ⟨by decide, by decide, by decide, rfl⟩ dX12_isSailHere_128 ?_
      have k245 : zq_k X (zq_r X h0 6) = 54 := zq_lk L.1 k_h0 rfl (by decide)
      refine lv_aload_n hx hb dX12_isSailHere_131 rfl (lv_at hl 1 rfl) ?_
      refine zq_gk (v := x110) E hM k_h0 (zFX12_142 E hZ) (Or.inl ⟨by decide, by decide, by decide, rfl⟩) (zq_kp eI237 (Or.inl (zq_kne k_h0 k233 (by decide))) F205) dX12_isSailHere_132 ?_
      refine lv_dup2_11 hx hb dX12_isSailHere_135 rfl rfl ?_
      refine zq_iald (n := 6) (j := (x110.toNatClampNeg)) (v := x113) E hZ hM k245 ⟨by decide, rfl⟩ ⟨by omega, by omega⟩ rfl (zq_kp eI237 (Or.inl (zq_kne k245 k233 (by decide))) F206) dX12_isSailHere_136 ?_
      refine lv_iconst (v := 1) hx hb dX12_isSailHere_137 (by decide +kernel) ?_
      refine lv_iadd hx hb dX12_isSailHere_138 ?_
      refine lv_topi (fun x247 ex247 => ?_)
      have tx247 := zi_add ex247 (rfl : x113.toInt = x113.toInt) (zl_1 : (1 : Int32).toInt = 1) ⟨by omega, by omega⟩
      refine W.eq (g2 := F0 m 139 ls [.int x247, .int x110, .ref (zq_r X h0 6)]) rfl ?_
      refine zq_isn (n := 6) (j := (x110.toNatClampNeg)) E hZ hM hS k245 ⟨by decide, rfl⟩ ⟨by omega, by omega⟩ rfl (show 0 ≤ x247.toInt ∧ x247.toInt ≤ 12 from ⟨by omega, by omega⟩) dX12_isSailHere_139 (fun I248 H locs eI248 hM hS => ?_)
      have hR := zq_fr.putE hR eI248 (zf_ia k245 (by decide) rfl)
      have hG249 : zGo X h0 false 0 I I248 := (zGo.wk (zGo.pt hG238 L k_h0 eI248 k245 rfl) (by decide))
      have hK251 := (zq_kp eI248 (Or.inl (zq_kne k_h0 k245 (by decide))) hK240)
      have hCl252 : I248 (zq_r X h0 5) (48 * x110.toNatClampNeg + 4 * x113.toNatClampNeg) = x118 := zq_kp eI248 (Or.inl (zq_kne (zq_lk L.1 k_h0 rfl (by decide) : zq_k X (zq_r X h0 5) = 53) k245 (by decide))) hCl242
      have hRg253 : zRg X h0 x110.toNatClampNeg x118.toNatClampNeg x141.toNatClampNeg I248 := zRg.pt hRg243 L k_h0 eI248 k245 (by decide)
      have hCl254 : I248 (zq_r X h0 5) (48 * x110.toNatClampNeg + 4 * x113.toNatClampNeg + 1) = x141 := zq_kp eI248 (Or.inl (zq_kne (zq_lk L.1 k_h0 rfl (by decide) : zq_k X (zq_r X h0 5) = 53) k245 (by decide))) hCl244
      have hCl255 : I248 (zq_r X h0 5) (48 * x110.toNatClampNeg + 4 * x113.toNatClampNeg + 3) = x236 := zq_kp eI248 (Or.inl (zq_kne (zq_lk L.1 k_h0 rfl (by decide) : zq_k X (zq_r X h0 5) = 53) k245 (by decide))) hC127
      refine lv_iconst (v := 1) hx hb dX12_isSailHere_140 (by decide +kernel) ?_
      subst hQ
      exact zq_zret E hr hZ hM hS (show 0 ≤ (1 : Int32).toInt ∧ (1 : Int32).toInt ≤ 1 by decide +kernel) ⟨hR, (hG249), (zWL.new hWL239 L k_h0 eI248 (show zTx _ h0 = _ by unfold zTx; rw [hK240]) hK241 (by omega) (by omega) hcl (by rw [hCl244]; exact hRg243.2.2) (by rw [hC127, hzf2]; exact Nat.le_refl _)), (by rw [show zTx I h0 = x110.toNatClampNeg from htx0, zq_kv eI248, show I (zq_r X h0 6) x110.toNatClampNeg = x113 from hcn0]; omega), (by have := zl_1; omega)⟩ hlocks dX12_isSailHere_141
    refine lv_if_eq (tgt := 110) hx hb dX12_isSailHere_81 (by decide) (fun b256 => ?_) (fun b256 => ?_)
    · have b256 := zi_eq b256 (rfl : x160.toInt = x160.toInt) (zl_0 : (0 : Int32).toInt = 0)
      exact J110 I161 H locs ls hM hS hR hG165 hWL166 hK167 hK168 hCl169 hRg170 hCl171 (⟨-1, hCl172, by decide +kernel, Or.inl (by decide +kernel)⟩) (lv_sub hl [0, 1] rfl)
    · have b256 := zi_ne b256 (rfl : x160.toInt = x160.toInt) (zl_0 : (0 : Int32).toInt = 0)
      refine lv_aload_n hx hb dX12_isSailHere_84 rfl (lv_at hl 1 rfl) ?_
      refine zq_getr E hM k_h0 (zFX12_20 E hZ) ⟨by decide, by decide, by decide, rfl⟩ dX12_isSailHere_85 ?_
      have k257 : zq_k X (zq_r X h0 5) = 53 := zq_lk L.1 k_h0 rfl (by decide)
      refine lv_iload_n hx hb dX12_isSailHere_88 rfl (lv_at hl 0 rfl) ?_
      refine lv_iconst (v := 2) hx hb dX12_isSailHere_89 (by decide +kernel) ?_
      refine lv_iadd hx hb dX12_isSailHere_90 ?_
      refine lv_topi (fun x258 ex258 => ?_)
      have tx258 := zi_add ex258 (rfl : x115.toInt = x115.toInt) (zl_2 : (2 : Int32).toInt = 2) ⟨by omega, by omega⟩
      refine lv_aload_n hx hb dX12_isSailHere_91 rfl (lv_at hl 1 rfl) ?_
      refine zq_getr E hM k_h0 (zFX12_17 E hZ) ⟨by decide, by decide, by decide, rfl⟩ dX12_isSailHere_92 ?_
      have k259 : zq_k X (zq_r X h0 4) = 52 := zq_lk L.1 k_h0 rfl (by decide)
      refine lv_aload_n hx hb dX12_isSailHere_95 rfl (lv_at hl 1 rfl) ?_
      refine zq_gk (v := x110) E hM k_h0 (zFX12_142 E hZ) (Or.inl ⟨by decide, by decide, by decide, rfl⟩) (zq_fr.kp fr162 (zf_n k_h0 rfl) (zq_kp eI151 (Or.inl (zq_kne k_h0 k149 (by decide))) (zq_kp eI142 (Or.inl (zq_kne k_h0 k138 (by decide))) (zq_fr.kp fr127 (zf_n k_h0 rfl) (zq_kp eI119 (Or.inl (zq_kne k_h0 k116 (by decide))) ex110))))) dX12_isSailHere_96 ?_
      refine W.eq (g2 := F0 m 99 ls [.int x110, .ref (zq_r X h0 4), .int x258, .ref (zq_r X h0 5)]) rfl ?_
      refine zq_iald (n := 7) (j := (x110.toNatClampNeg)) (v := x141) E hZ hM k259 ⟨by decide, rfl⟩ ⟨by omega, by omega⟩ rfl (zq_fr.kp fr162 (zf_n k259 rfl) (zq_kp eI151 (Or.inl (zq_kne k259 k149 (by decide))) (zq_kp eI142 (Or.inl (zq_kne (zq_lk L.1 k_h0 rfl (by decide) : zq_k X (zq_r X h0 4) = 52) k138 (by decide))) ex141))) dX12_isSailHere_99 ?_
      have hMp := hM
      refine zq_isn (n := 288) (j := (x258.toNatClampNeg)) E hZ hM hS k257 ⟨by decide, rfl⟩ ⟨by omega, by omega⟩ rfl (zq_any _) dX12_isSailHere_100 (fun I261 H locs eI261 hM hS => ?_)
      have hR := zq_fr.putE hR eI261 (zf_ia k257 (by decide) rfl)
      have hG262 : zGo X h0 false 0 I I261 := (zGo.wk (zGo.pt hG165 L k_h0 eI261 k257 rfl) (by decide))
      have hWL263 : zWL X I261 h0 := zWL.put hWL166 L k_h0 eI261 (show zTx _ h0 = x110.toNatClampNeg by unfold zTx; rw [hK167]) (n := x113.toNatClampNeg) (by rw [hK168]; exact zq_cl (by omega)) (by have := zq_cl (i := x258) (by omega); have := zq_cl (i := x110) (by omega); have := zq_cl (i := x113) (by omega); omega) (by have := zq_cl (i := x258) (by omega); have := zq_cl (i := x110) (by omega); have := zq_cl (i := x113) (by omega); omega) (fun r => ((zq_rng hMp (zq_lk L.1 k_h0 rfl (by decide) : zq_k X (zq_r X h0 6) = 54) r).2))
      have hK264 := (zq_kp eI261 (Or.inl (zq_kne k_h0 k257 (by decide))) hK167)
      have hK265 := (zq_kp eI261 (Or.inl (zq_kne (zq_lk L.1 k_h0 rfl (by decide) : zq_k X (zq_r X h0 6) = 54) k257 (by decide))) hK168)
      have hCl266 : I261 (zq_r X h0 5) (48 * x110.toNatClampNeg + 4 * x113.toNatClampNeg) = x118 := zq_kp eI261 (Or.inr (by have := zq_cl (i := x258) (by omega); have := zq_cl (i := x110) (by omega); have := zq_cl (i := x113) (by omega); omega)) hCl169
      have hRg267 : zRg X h0 x110.toNatClampNeg x118.toNatClampNeg x141.toNatClampNeg I261 := zRg.pt hRg170 L k_h0 eI261 k257 (by decide)
      have hCl268 : I261 (zq_r X h0 5) (48 * x110.toNatClampNeg + 4 * x113.toNatClampNeg + 1) = x141 := zq_kp eI261 (Or.inr (by have := zq_cl (i := x258) (by omega); have := zq_cl (i := x110) (by omega); have := zq_cl (i := x113) (by omega); omega)) hCl171
      have hMb := hM
      have hC101 : I261 (zq_r X h0 5) (48 * x110.toNatClampNeg + 4 * x113.toNatClampNeg + 2) = x141 := by rw [show 48 * x110.toNatClampNeg + 4 * x113.toNatClampNeg + 2 = x258.toNatClampNeg by have := zq_cl (i := x258) (by omega); have := zq_cl (i := x110) (by omega); have := zq_cl (i := x113) (by omega); omega]; exact zq_kv eI261
      have hzt : zLn X I261 h0 = x141.toNatClampNeg := by unfold zLn; rw [show zTx I261 h0 = x110.toNatClampNeg by unfold zTx; rw [hK264], (zq_kp eI261 (Or.inl (zq_kne (zq_lk L.1 k_h0 rfl (by decide) : zq_k X (zq_r X h0 4) = 52) k257 (by decide))) (zq_fr.kp fr162 (zf_n k259 rfl) (zq_kp eI151 (Or.inl (zq_kne k259 k149 (by decide))) (zq_kp eI142 (Or.inl (zq_kne (zq_lk L.1 k_h0 rfl (by decide) : zq_k X (zq_r X h0 4) = 52) k138 (by decide))) ex141))))]
      refine lv_aload_n hx hb dX12_isSailHere_101 rfl (lv_at hl 1 rfl) ?_
      refine zq_calli (zq_rV (As := []) (rest := []) E hZ hM k_h0 (c_X12_tested l X zk (zn) I261 L h0 k_h0 (by omega) (hG262.2.2.2.1) (by rw [hG262.1]; exact q_2) (zGo.len hG262 (by decide) q_3)) zmX12_211 zM_X12_tested (hro (8) 3 (by first | decide | omega) (by decide)) ⟨by decide, by decide⟩ rfl hl.1 rfl rfl (Nat.le_of_ble_eq_true rfl) dX12_isSailHere_102) hS (fun x271 I272 H locs h270 hM hS => ?_)
      obtain ⟨fr273, p274, p275, p276⟩ := h270
      have hR := zq_fr.call hR fr273 (zf_sub (by decide +kernel) (fun _ _ q => q.elim))
      have hG277 : zGo X h0 false 0 I I272 := (zGo.wk (zGo.tr hG262 p274) (by decide))
      have hWL278 : zWL X I272 h0 := zWL.go hWL263 p274 (zfr_s L k_h0 fr273 rfl (by decide) rfl) (zfr_s L k_h0 fr273 rfl (by decide) rfl)
      have hK279 := (zq_fr.kp fr273 (zf_n k_h0 rfl) hK264)
      have hK280 := (zq_fr.kp fr273 (zf_n (zq_lk L.1 k_h0 rfl (by decide) : zq_k X (zq_r X h0 6) = 54) rfl) hK265)
      have hCl281 : I272 (zq_r X h0 5) (48 * x110.toNatClampNeg + 4 * x113.toNatClampNeg) = x118 := zq_fr.kp fr273 (zf_n (zq_lk L.1 k_h0 rfl (by decide) : zq_k X (zq_r X h0 5) = 53) rfl) hCl266
      have hRg282 : zRg X h0 x110.toNatClampNeg x118.toNatClampNeg x141.toNatClampNeg I272 := zRg.go hRg267 p274
      have hCl283 : I272 (zq_r X h0 5) (48 * x110.toNatClampNeg + 4 * x113.toNatClampNeg + 1) = x141 := zq_fr.kp fr273 (zf_n (zq_lk L.1 k_h0 rfl (by decide) : zq_k X (zq_r X h0 5) = 53) rfl) hCl268
      have hCl284 : I272 (zq_r X h0 5) (48 * x110.toNatClampNeg + 4 * x113.toNatClampNeg + 2) = x141 := zq_fr.kp fr273 (zf_n (zq_lk L.1 k_h0 rfl (by decide) : zq_k X (zq_r X h0 5) = 53) rfl) hC101
      refine lv_if_ne (tgt := 110) hx hb dX12_isSailHere_105 (by decide) (fun b285 => ?_) (fun b285 => ?_)
      · have b285 := zi_ne b285 (rfl : x271.toInt = x271.toInt) (zl_0 : (0 : Int32).toInt = 0)
        have hRg286 : zRg X h0 x110.toNatClampNeg x141.toNatClampNeg (zLn X I272 h0) I272 := by have q9 := zRg.mk (p275.resolve_left (by omega)) p274 ((zq_rng hMb k_h0 12).1); rw [show zTx I272 h0 = x110.toNatClampNeg by unfold zTx; rw [hK279], hzt] at q9; exact q9
        exact J110 I272 H locs ls hM hS hR hG277 hWL278 hK279 hK280 hCl281 hRg282 hCl283 (⟨x141, hCl284, by omega, Or.inr ⟨by omega, hRg286⟩⟩) (lv_sub hl [0, 1] rfl)
      · have b285 := zi_eq b285 (rfl : x271.toInt = x271.toInt) (zl_0 : (0 : Int32).toInt = 0)
        refine lv_iconst (v := 0) hx hb dX12_isSailHere_108 (by decide +kernel) ?_
        subst hQ
        exact zq_zret E hr hZ hM hS (show 0 ≤ (0 : Int32).toInt ∧ (0 : Int32).toInt ≤ 1 by decide +kernel) ⟨hR, (hG277), (hWL278), (by rw [show zTx I h0 = x110.toNatClampNeg from htx0, show I272 (zq_r X h0 6) x110.toNatClampNeg = x113 from hK280, show I (zq_r X h0 6) x110.toNatClampNeg = x113 from hcn0]; omega), (by have := zl_0; omega)⟩ hlocks dX12_isSailHere_109
  · have b136 := zi_eq b136 (rfl : x125.toInt = x125.toInt) (zl_0 : (0 : Int32).toInt = 0)
    refine lv_iconst (v := 0) hx hb dX12_isSailHere_46 (by decide +kernel) ?_
    subst hQ
    exact zq_zret E hr hZ hM hS (show 0 ≤ (0 : Int32).toInt ∧ (0 : Int32).toInt ≤ 1 by decide +kernel) ⟨hR, (hG131), (hWL132), (by rw [show zTx I h0 = x110.toNatClampNeg from htx0, show I126 (zq_r X h0 6) x110.toNatClampNeg = x113 from hK134, show I (zq_r X h0 6) x110.toNatClampNeg = x113 from hcn0]; omega), (by have := zl_0; omega)⟩ hlocks dX12_isSailHere_47
