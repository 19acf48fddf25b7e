def zw_X12_cellHere : List (Nat × Nat) := [(10, 8), (10, 9), (10, 10), (55, 999)]
set_option maxHeartbeats 8000000 in
set_option maxRecDepth 100000 in
theorem c_X12_cellHere (l : Launch) (X : zq_X) (zk zn : Nat) (I : zq_M) (L : zq_L X)  (h0 : Nat) (k_h0 : zq_k X h0 = 10) (p1 : Int32) (p2 : Int32) (p3 : Int32) (g_p1 : 0 ≤ p1.toInt ∧ p1.toInt ≤ 84) (q_0 : zk ≤ 4400 ∧ zn ≤ 4400) (q_1 : (I h0 8).toInt ≤ (I h0 1).toInt) (q_2 : ∀ v : Int, p2.toInt ≤ v → v ≤ p3.toInt → (zq_sd 0 p1.toNatClampNeg).1 ≤ v ∧ v ≤ (zq_sd 0 p1.toNatClampNeg).2) : Met l yX12_cellHere (zt_w yX12_cellHere cX12_cellHere 4 (some .boolean)) (zq_rm (2)) (va_Pc [.ref h0, .int p1, .int p2, .int p3] (zq_W X (zk, zn) I)) (va_Qi (fun (r : Int32) I2 => zq_fr (zf X zw_X12_cellHere (fun _ => False)) I I2 ∧ (∀ b, zGo X h0 b 0 I I2) ∧ (∀ j, j ≠ p1.toNatClampNeg → I2 (zq_r X h0 7) j = I (zq_r X h0 7) j) ∧ (0 ≤ r.toInt ∧ r.toInt ≤ 1)) (zq_E X (zk, zn)) (zq_A X)) 0 0 (zq_A X) := by
  refine Met.ofW (cc := cX12_cellHere) (maxL := 4) (ret := (some .boolean)) (by decide) rfl ?_
  intro p e s m args below meth c s₁ B hml hv
  obtain ⟨hargs, hM, hZ⟩ := hv
  have hown : s.vm.findClass RX12 = some m.cls := findClass_of_methodNamed B.named
  have hts := atoms_spec (ws := zt_w yX12_cellHere cX12_cellHere 4 (some .boolean)) B.pre
  have E : CallFix p m c cX12_cellHere 4 s args (Cond.code yX12_cellHere cX12_cellHere 4 (some .boolean) :: zt) RX12 := ⟨B.exec, B.bytes, hml, hown, hts⟩
  have hx := B.exec
  have hb := B.bytes
  have hr := B.returns
  have hlocks := B.notSynchronized
  clear B
  have hS : va_S (zq_A X) s.heap s.heap [] := va_S.rf
  have hR : zq_fr (zf X zw_X12_cellHere (fun _ => False)) I I := zq_fr.rf
  have hl := lv_entry ([.ref h0, .int p1, .int p2, .int p3]) (n := 4) (by exact Nat.le_of_ble_eq_true rfl)
  have hg : entryFrame m args 4 = F0 m 0 ((lg_sl ([.ref h0, .int p1, .int p2, .int p3]) ++ List.replicate (4 - (lg_sl ([.ref h0, .int p1, .int p2, .int p3])).length) Slot.unset).toArray) [] := by rw [hargs]; exact lg_entry_eq m ([.ref h0, .int p1, .int p2, .int p3]) 4
  rw [hg]
  clear hg hargs
  generalize (lg_sl ([.ref h0, .int p1, .int p2, .int p3]) ++ List.replicate (4 - (lg_sl ([.ref h0, .int p1, .int p2, .int p3])).length) Slot.unset).toArray = ls at hl ⊢
  have hl : lv_has ls 4 [(0, .ref h0), (1, .int p1), (2, .int p2), (3, .int p3)] := by exact hl
  obtain ⟨R, hRm⟩ : ∃ R : Room, R = (headSpec (zt_w yX12_cellHere cX12_cellHere 4 (some .boolean)) (zq_rm (2))).room := ⟨_, rfl⟩
  rw [← hRm]
  have hro : ∀ d q : Nat, d + 1 ≤ 2 → q ≤ 45 → zq_rok d q R := fun d q h1 h2 => by rw [hRm]; exact zq_rokI h1 h2
  generalize hQ : MQ below _ args s 0 0 (zq_A X) = Q
  obtain ⟨H, hH⟩ : ∃ H, H = s.heap := ⟨_, rfl⟩
  obtain ⟨locs, hlo⟩ : ∃ x : List Loc, x = [] := ⟨_, rfl⟩
  rw [show W p l e R s m args below meth c s.heap [] 0 0 Q = W p l e R s m args below meth c H locs 0 0 Q by rw [hH, hlo]]
  have hM : zq_hm X (zk, zn) I H := by rw [hH]; exact hM
  have hS : va_S (zq_A X) s.heap H locs := by rw [hH, hlo]; exact hS
  clear hH hlo
  have hG0 : ∀ b, zGo X h0 b 0 I I := fun b => zGo.rf q_1
  refine lv_aload_n hx hb dX12_cellHere_0 rfl (lv_at hl 0 rfl) ?_
  refine lv_iload_n hx hb dX12_cellHere_1 rfl (lv_at hl 2 rfl) ?_
  refine lv_iload_n hx hb dX12_cellHere_2 rfl (lv_at hl 3 rfl) ?_
  refine zq_calli (zq_rV (As := [.int p2, .int p3]) (rest := []) E hZ hM k_h0 (c_X12_numberHere l X zk (zn) I L h0 k_h0 p2 p3 (by have := zi_rng p2; have := zi_rng p3; omega) ((hG0 true).2.2.2.1)) zmX12_163 zM_X12_numberHere (hro (1) 5 (by first | decide | omega) (by decide)) ⟨by decide, by decide⟩ rfl hl.1 rfl rfl (Nat.le_of_ble_eq_true rfl) dX12_cellHere_3) hS (fun x102 I103 H locs h101 hM hS => ?_)
  obtain ⟨fr104, p105, p106, p107⟩ := h101
  have hR := zq_fr.call hR fr104 (zf_sub (by decide +kernel) (fun _ _ q => q.elim))
  have hG108 : ∀ b, zGo X h0 b 0 I I103 := (fun b => zGo.wk (zGo.tr (hG0 b) (p105 b)) (by decide))
  refine lv_if_ne (tgt := 11) hx hb dX12_cellHere_6 (by decide) (fun b109 => ?_) (fun b109 => ?_)
  · have b109 := zi_ne b109 (rfl : x102.toInt = x102.toInt) (zl_0 : (0 : Int32).toInt = 0)
    have hG110 : ∀ b, zGo X h0 b 1 I I103 := (fun b => zGo.wk (zGo.tr (hG0 b) ((p106.resolve_left (by omega)).1 b)) (by decide))
    have hnb := (p106.resolve_left (by omega)).2
    refine lv_aload_n hx hb dX12_cellHere_11 rfl (lv_at hl 0 rfl) ?_
    refine zq_getr E hM k_h0 (zFX12_26 E hZ) ⟨by decide, by decide, by decide, rfl⟩ dX12_cellHere_12 ?_
    have k111 : zq_k X (zq_r X h0 7) = 55 := zq_lk L.1 k_h0 rfl (by decide)
    refine lv_iload_n hx hb dX12_cellHere_15 rfl (lv_at hl 1 rfl) ?_
    refine lv_aload_n hx hb dX12_cellHere_16 rfl (lv_at hl 0 rfl) ?_
    refine zq_gn E hM k_h0 (zFX12_109 E hZ) (Or.inl ⟨by decide, by decide, by decide, rfl⟩) dX12_cellHere_17 (fun x112 ex112 gx112 => ?_)
    clear gx112
    have := congrArg Int32.toInt ex112
    refine zq_isn (n := 85) (j := (p1.toNatClampNeg)) E hZ hM hS k111 ⟨by decide, rfl⟩ ⟨by omega, by omega⟩ rfl (q_2 _ (by omega) (by omega)) dX12_cellHere_20 (fun I113 H locs eI113 hM hS => ?_)
    have hR := zq_fr.putE hR eI113 (zf_ia k111 (by decide) rfl)
    have hG114 : ∀ b, zGo X h0 b 1 I I113 := (fun b => zGo.wk (zGo.pt (hG110 b) L k_h0 eI113 k111 rfl) (by decide))
    refine lv_iconst (v := 1) hx hb dX12_cellHere_21 (by decide +kernel) ?_
    subst hQ
    exact zq_zret E hr hZ hM hS (show 0 ≤ (1 : Int32).toInt ∧ (1 : Int32).toInt ≤ 1 by decide +kernel) ⟨hR, ((fun b => zGo.wk (hG114 b) (by decide))), (fun j hj => zq_kp eI113 (Or.inr hj) (zfr_s (s := 7) L k_h0 fr104 rfl (by decide) rfl j)), (by have := zl_1; omega)⟩ hlocks dX12_cellHere_22
  · have b109 := zi_eq b109 (rfl : x102.toInt = x102.toInt) (zl_0 : (0 : Int32).toInt = 0)
    refine lv_iconst (v := 0) hx hb dX12_cellHere_9 (by decide +kernel) ?_
    subst hQ
    exact zq_zret E hr hZ hM hS (show 0 ≤ (0 : Int32).toInt ∧ (0 : Int32).toInt ≤ 1 by decide +kernel) ⟨hR, (hG108), (fun j _ => zfr_s (s := 7) L k_h0 fr104 rfl (by decide) rfl j), (by have := zl_0; omega)⟩ hlocks dX12_cellHere_10
def zw_X12_isTradeHere : List (Nat × Nat) := [(10, 8), (10, 9), (10, 10), (55, 999)]
set_option maxHeartbeats 8000000 in
set_option maxRecDepth 100000 in
theorem c_X12_isTradeHere (l : Launch) (X : zq_X) (zk zn : Nat) (I : zq_M) (L : zq_L X)  (h0 : Nat) (k_h0 : zq_k X h0 = 10) (p1 : Int32) (q_0 : zk ≤ 4400 ∧ zn ≤ 4400) (q_1 : (I h0 8).toInt ≤ (I h0 1).toInt) : Met l yX12_isTradeHere (zt_w yX12_isTradeHere cX12_isTradeHere 2 (some .boolean)) (zq_rm (3)) (va_Pc [.ref h0, .int p1] (zq_W X (zk, zn) I)) (va_Qi (fun (r : Int32) I2 => zq_fr (zf X zw_X12_isTradeHere (fun _ => False)) I I2 ∧ (∀ b, zGo X h0 b 0 I I2) ∧ (0 ≤ r.toInt ∧ r.toInt ≤ 1)) (zq_E X (zk, zn)) (zq_A X)) 0 0 (zq_A X) := by
  refine Met.ofW (cc := cX12_isTradeHere) (maxL := 2) (ret := (some .boolean)) (by decide) rfl ?_
  intro p e s m args below meth c s₁ B hml hv
  obtain ⟨hargs, hM, hZ⟩ := hv
  have hown : s.vm.findClass RX12 = some m.cls := findClass_of_methodNamed B.named
  have hts := atoms_spec (ws := zt_w yX12_isTradeHere cX12_isTradeHere 2 (some .boolean)) B.pre
  have E : CallFix p m c cX12_isTradeHere 2 s args (Cond.code yX12_isTradeHere cX12_isTradeHere 2 (some .boolean) :: zt) RX12 := ⟨B.exec, B.bytes, hml, hown, hts⟩
  have hx := B.exec
  have hb := B.bytes
  have hr := B.returns
  have hlocks := B.notSynchronized
  clear B
  have hS : va_S (zq_A X) s.heap s.heap [] := va_S.rf
  have hR : zq_fr (zf X zw_X12_isTradeHere (fun _ => False)) I I := zq_fr.rf
  have hl := lv_entry ([.ref h0, .int p1]) (n := 2) (by exact Nat.le_of_ble_eq_true rfl)
  have hg : entryFrame m args 2 = F0 m 0 ((lg_sl ([.ref h0, .int p1]) ++ List.replicate (2 - (lg_sl ([.ref h0, .int p1])).length) Slot.unset).toArray) [] := by rw [hargs]; exact lg_entry_eq m ([.ref h0, .int p1]) 2
  rw [hg]
  clear hg hargs
  generalize (lg_sl ([.ref h0, .int p1]) ++ List.replicate (2 - (lg_sl ([.ref h0, .int p1])).length) Slot.unset).toArray = ls at hl ⊢
  have hl : lv_has ls 2 [(0, .ref h0), (1, .int p1)] := by exact hl
  obtain ⟨R, hRm⟩ : ∃ R : Room, R = (headSpec (zt_w yX12_isTradeHere cX12_isTradeHere 2 (some .boolean)) (zq_rm (3))).room := ⟨_, rfl⟩
  rw [← hRm]
  have hro : ∀ d q : Nat, d + 1 ≤ 3 → q ≤ 45 → zq_rok d q R := fun d q h1 h2 => by rw [hRm]; exact zq_rokI h1 h2
  generalize hQ : MQ below _ args s 0 0 (zq_A X) = Q
  obtain ⟨H, hH⟩ : ∃ H, H = s.heap := ⟨_, rfl⟩
  obtain ⟨locs, hlo⟩ : ∃ x : List Loc, x = [] := ⟨_, rfl⟩
  rw [show W p l e R s m args below meth c s.heap [] 0 0 Q = W p l e R s m args below meth c H locs 0 0 Q by rw [hH, hlo]]
  have hM : zq_hm X (zk, zn) I H := by rw [hH]; exact hM
  have hS : va_S (zq_A X) s.heap H locs := by rw [hH, hlo]; exact hS
  clear hH hlo
  have hG0 : ∀ b, zGo X h0 b 0 I I := fun b => zGo.rf q_1
  refine lv_aload_n hx hb dX12_isTradeHere_0 rfl (lv_at hl 0 rfl) ?_
  refine zq_getr E hM k_h0 (zFX12_26 E hZ) ⟨by decide, by decide, by decide, rfl⟩ dX12_isTradeHere_1 ?_
  have k101 : zq_k X (zq_r X h0 7) = 55 := zq_lk L.1 k_h0 rfl (by decide)
  refine lv_iconst (v := 0) hx hb dX12_isTradeHere_4 (by decide +kernel) ?_
  refine zq_ian (n := 85) (j := 0) E hZ hM k101 ⟨by decide, rfl⟩ (by rw [zl_0]; decide) (by decide +kernel) dX12_isTradeHere_5 (fun x102 ex102 gx102 => ?_)
  replace gx102 : 0 ≤ x102.toInt ∧ x102.toInt ≤ 1 := gx102
  refine lv_if_le (tgt := 16) hx hb dX12_isTradeHere_6 (by decide) (fun b103 => ?_) (fun b103 => ?_)
  · have b103 := zi_le b103 (rfl : x102.toInt = x102.toInt) (zl_0 : (0 : Int32).toInt = 0)
    refine lv_aload_n hx hb dX12_isTradeHere_16 rfl (lv_at hl 0 rfl) ?_
    refine zq_callv (zq_rV (As := []) (rest := []) E hZ hM k_h0 (c_X12_passWord l X zk (zn) I L h0 k_h0 (by omega) ((hG0 true).2.2.2.1)) zmX12_99 zM_X12_passWord (hro (1) 1 (by first | decide | omega) (by decide)) ⟨by decide, by decide⟩ rfl hl.1 rfl rfl (Nat.le_of_ble_eq_true rfl) dX12_isTradeHere_17) hS (fun I106 H locs h104 hM hS => ?_)
    obtain ⟨fr107, p108, p109, p110⟩ := h104
    have hR := zq_fr.call hR fr107 (zf_sub (by decide +kernel) (fun _ _ q => q.elim))
    have hG111 : ∀ b, zGo X h0 b 0 I I106 := (fun b => zGo.wk (zGo.tr (hG0 b) (p108 b)) (by decide))
    refine lv_aload_n hx hb dX12_isTradeHere_20 rfl (lv_at hl 0 rfl) ?_
    refine lv_bipush (v := 71) hx hb dX12_isTradeHere_21 (by decide +kernel) ?_
    refine lv_iconst (v := 0) hx hb dX12_isTradeHere_23 (by decide +kernel) ?_
    refine lv_sipush (v := 9999) hx hb dX12_isTradeHere_24 (by decide +kernel) ?_
    refine zq_calli (zq_rV (As := [.int (71 : Int32), .int (0 : Int32), .int (9999 : Int32)]) (rest := []) E hZ hM k_h0 (c_X12_cellHere l X zk (zn) I106 L h0 k_h0 (71 : Int32) (0 : Int32) (9999 : Int32) (by rw [zl_71]; decide) (by have := zl_0; have := zl_71; have := zl_9999; omega) ((hG111 true).2.2.2.1) (fun v h1 h2 => by have := zl_0; have := zl_9999; rw [show (71 : Int32).toNatClampNeg = 71 from by decide +kernel]; rw [show zq_sd 0 71 = ((-2147483648), 2147483647) from rfl]; exact ⟨by show ((-2147483648) : Int) ≤ v; omega, by show v ≤ (2147483647 : Int); omega⟩)) zmX12_214 zM_X12_cellHere (hro (2) 4 (by first | decide | omega) (by decide)) ⟨by decide, by decide⟩ rfl hl.1 rfl rfl (Nat.le_of_ble_eq_true rfl) dX12_isTradeHere_27) hS (fun x113 I114 H locs h112 hM hS => ?_)
    obtain ⟨fr115, p116, p117, p118⟩ := h112
    have := zl_0
    have := zl_71
    have := zl_9999
    have hR := zq_fr.call hR fr115 (zf_sub (by decide +kernel) (fun _ _ q => q.elim))
    have hG119 : ∀ b, zGo X h0 b 0 I I114 := (fun b => zGo.wk (zGo.tr (hG111 b) (p116 b)) (by decide))
    refine lv_if_eq (tgt := 57) hx hb dX12_isTradeHere_30 (by decide) (fun b120 => ?_) (fun b120 => ?_)
    · have b120 := zi_eq b120 (rfl : x113.toInt = x113.toInt) (zl_0 : (0 : Int32).toInt = 0)
      refine lv_iconst (v := 0) hx hb dX12_isTradeHere_57 (by decide +kernel) ?_
      subst hQ
      exact zq_zret E hr hZ hM hS (show 0 ≤ (0 : Int32).toInt ∧ (0 : Int32).toInt ≤ 1 by decide +kernel) ⟨hR, (hG119), (by have := zl_0; omega)⟩ hlocks dX12_isTradeHere_58
    · have b120 := zi_ne b120 (rfl : x113.toInt = x113.toInt) (zl_0 : (0 : Int32).toInt = 0)
      refine lv_aload_n hx hb dX12_isTradeHere_33 rfl (lv_at hl 0 rfl) ?_
      refine lv_iconst (v := 1) hx hb dX12_isTradeHere_34 (by decide +kernel) ?_
      refine lv_iconst (v := 0) hx hb dX12_isTradeHere_35 (by decide +kernel) ?_
      refine lv_bipush (v := 20) hx hb dX12_isTradeHere_36 (by decide +kernel) ?_
      refine zq_calli (zq_rV (As := [.int (1 : Int32), .int (0 : Int32), .int (20 : Int32)]) (rest := []) E hZ hM k_h0 (c_X12_cellHere l X zk (zn) I114 L h0 k_h0 (1 : Int32) (0 : Int32) (20 : Int32) (by rw [zl_1]; decide) (by have := zl_0; have := zl_1; have := zl_20; omega) ((hG119 true).2.2.2.1) (fun v h1 h2 => by have := zl_0; have := zl_20; rw [show (1 : Int32).toNatClampNeg = 1 from by decide +kernel]; rw [show zq_sd 0 1 = (0, 20) from rfl]; exact ⟨by show (0 : Int) ≤ v; omega, by show v ≤ (20 : Int); omega⟩)) zmX12_214 zM_X12_cellHere (hro (2) 4 (by first | decide | omega) (by decide)) ⟨by decide, by decide⟩ rfl hl.1 rfl rfl (Nat.le_of_ble_eq_true rfl) dX12_isTradeHere_38) hS (fun x122 I123 H locs h121 hM hS => ?_)
      obtain ⟨fr124, p125, p126, p127⟩ := h121
      have := zl_0
      have := zl_1
      have := zl_20
      have hR := zq_fr.call hR fr124 (zf_sub (by decide +kernel) (fun _ _ q => q.elim))
      have hG128 : ∀ b, zGo X h0 b 0 I I123 := (fun b => zGo.wk (zGo.tr (hG119 b) (p125 b)) (by decide))
      refine lv_if_eq (tgt := 57) hx hb dX12_isTradeHere_41 (by decide) (fun b129 => ?_) (fun b129 => ?_)
      · have b129 := zi_eq b129 (rfl : x122.toInt = x122.toInt) (zl_0 : (0 : Int32).toInt = 0)
        refine lv_iconst (v := 0) hx hb dX12_isTradeHere_57 (by decide +kernel) ?_
        subst hQ
        exact zq_zret E hr hZ hM hS (show 0 ≤ (0 : Int32).toInt ∧ (0 : Int32).toInt ≤ 1 by decide +kernel) ⟨hR, (hG128), (by have := zl_0; omega)⟩ hlocks dX12_isTradeHere_58
      · have b129 := zi_ne b129 (rfl : x122.toInt = x122.toInt) (zl_0 : (0 : Int32).toInt = 0)
        refine lv_aload_n hx hb dX12_isTradeHere_44 rfl (lv_at hl 0 rfl) ?_
        refine lv_bipush (v := 72) hx hb dX12_isTradeHere_45 (by decide +kernel) ?_
        refine lv_iconst (v := 0) hx hb dX12_isTradeHere_47 (by decide +kernel) ?_
        refine lv_sipush (v := 999) hx hb dX12_isTradeHere_48 (by decide +kernel) ?_
        refine zq_calli (zq_rV (As := [.int (72 : Int32), .int (0 : Int32), .int (999 : Int32)]) (rest := []) E hZ hM k_h0 (c_X12_cellHere l X zk (zn) I123 L h0 k_h0 (72 : Int32) (0 : Int32) (999 : Int32) (by rw [zl_72]; decide) (by have := zl_0; have := zl_72; have := zl_999; omega) ((hG128 true).2.2.2.1) (fun v h1 h2 => by have := zl_0; have := zl_999; rw [show (72 : Int32).toNatClampNeg = 72 from by decide +kernel]; rw [show zq_sd 0 72 = ((-2147483648), 2147483647) from rfl]; exact ⟨by show ((-2147483648) : Int) ≤ v; omega, by show v ≤ (2147483647 : Int); omega⟩)) zmX12_214 zM_X12_cellHere (hro (2) 4 (by first | decide | omega) (by decide)) ⟨by decide, by decide⟩ rfl hl.1 rfl rfl (Nat.le_of_ble_eq_true rfl) dX12_isTradeHere_51) hS (fun x131 I132 H locs h130 hM hS => ?_)
        obtain ⟨fr133, p134, p135, p136⟩ := h130
        have := zl_0
        have := zl_72
        have := zl_999
        have hR := zq_fr.call hR fr133 (zf_sub (by decide +kernel) (fun _ _ q => q.elim))
        have hG137 : ∀ b, zGo X h0 b 0 I I132 := (fun b => zGo.wk (zGo.tr (hG128 b) (p134 b)) (by decide))
        refine lv_if_ne (tgt := 59) hx hb dX12_isTradeHere_54 (by decide) (fun b138 => ?_) (fun b138 => ?_)
        · have b138 := zi_ne b138 (rfl : x131.toInt = x131.toInt) (zl_0 : (0 : Int32).toInt = 0)
          refine lv_aload_n hx hb dX12_isTradeHere_59 rfl (lv_at hl 0 rfl) ?_
          refine zq_getr E hM k_h0 (zFX12_26 E hZ) ⟨by decide, by decide, by decide, rfl⟩ dX12_isTradeHere_60 ?_
          have k139 : zq_k X (zq_r X h0 7) = 55 := zq_lk L.1 k_h0 rfl (by decide)
          refine lv_iconst (v := 0) hx hb dX12_isTradeHere_63 (by decide +kernel) ?_
          refine lv_iconst (v := 1) hx hb dX12_isTradeHere_64 (by decide +kernel) ?_
          refine zq_isn (n := 85) (j := 0) E hZ hM hS k139 ⟨by decide, rfl⟩ (by rw [zl_0]; decide) (by decide +kernel) (by exact (show 0 ≤ (1 : Int32).toInt ∧ (1 : Int32).toInt ≤ 1 by decide +kernel)) dX12_isTradeHere_65 (fun I140 H locs eI140 hM hS => ?_)
          have hR := zq_fr.putE hR eI140 (zf_ia k139 (by decide) rfl)
          have hG141 : ∀ b, zGo X h0 b 0 I I140 := (fun b => zGo.wk (zGo.pt (hG137 b) L k_h0 eI140 k139 rfl) (by decide))
          refine lv_iconst (v := 1) hx hb dX12_isTradeHere_66 (by decide +kernel) ?_
          subst hQ
          exact zq_zret E hr hZ hM hS (show 0 ≤ (1 : Int32).toInt ∧ (1 : Int32).toInt ≤ 1 by decide +kernel) ⟨hR, (hG141), (by have := zl_1; omega)⟩ hlocks dX12_isTradeHere_67
        · have b138 := zi_eq b138 (rfl : x131.toInt = x131.toInt) (zl_0 : (0 : Int32).toInt = 0)
          refine lv_iconst (v := 0) hx hb dX12_isTradeHere_57 (by decide +kernel) ?_
          subst hQ
          exact zq_zret E hr hZ hM hS (show 0 ≤ (0 : Int32).toInt ∧ (0 : Int32).toInt ≤ 1 by decide +kernel) ⟨hR, (hG137), (by have := zl_0; omega)⟩ hlocks dX12_isTradeHere_58
  · have b103 := zi_nle b103 (rfl : x102.toInt = x102.toInt) (zl_0 : (0 : Int32).toInt = 0)
    refine lv_aload_n hx hb dX12_isTradeHere_9 rfl (lv_at hl 0 rfl) ?_
    refine lv_iconst (v := 4) hx hb dX12_isTradeHere_10 (by decide +kernel) ?_
    refine lv_iload_n hx hb dX12_isTradeHere_11 rfl (lv_at hl 1 rfl) ?_
    refine zq_calli (zq_rV (As := [.int (4 : Int32), .int p1]) (rest := []) E hZ hM k_h0 (c_X12_fails l X zk (zn) I L h0 k_h0 (4 : Int32) p1 (by have := zl_4; have := zi_rng p1; omega)) zmX12_105 zM_X12_fails (hro (0) 3 (by first | decide | omega) (by decide)) ⟨by decide, by decide⟩ rfl hl.1 rfl rfl (Nat.le_of_ble_eq_true rfl) dX12_isTradeHere_12) hS (fun x143 I144 H locs h142 hM hS => ?_)
    obtain ⟨fr145, p146, p147⟩ := h142
    have := zl_4
    have hR := zq_fr.call hR fr145 (zf_sub (by decide +kernel) (fun _ _ q => q.elim))
    have hG148 : ∀ b, zGo X h0 b 0 I I144 := (fun b => zGo.wk (zGo.fr (hG0 b) L k_h0 fr145 rfl rfl rfl) (by decide))
    subst hQ
    exact zq_zret E hr hZ hM hS (show 0 ≤ x143.toInt ∧ x143.toInt ≤ 1 from ⟨by omega, by omega⟩) ⟨hR, (hG148), (by omega)⟩ hlocks dX12_isTradeHere_15
def zw_X12_isFrostHere : List (Nat × Nat) := [(10, 8), (10, 9), (10, 10), (55, 999)]
set_option maxHeartbeats 8000000 in
set_option maxRecDepth 100000 in
theorem c_X12_isFrostHere (l : Launch) (X : zq_X) (zk zn : Nat) (I : zq_M) (L : zq_L X)  (h0 : Nat) (k_h0 : zq_k X h0 = 10) (q_0 : zk ≤ 4400 ∧ zn ≤ 4400) (q_1 : (I h0 8).toInt ≤ (I h0 1).toInt) : Met l yX12_isFrostHere (zt_w yX12_isFrostHere cX12_isFrostHere 1 (some .boolean)) (zq_rm (3)) (va_Pc [.ref h0] (zq_W X (zk, zn) I)) (va_Qi (fun (r : Int32) I2 => zq_fr (zf X zw_X12_isFrostHere (fun _ => False)) I I2 ∧ (∀ b, zGo X h0 b 0 I I2) ∧ (0 ≤ r.toInt ∧ r.toInt ≤ 1)) (zq_E X (zk, zn)) (zq_A X)) 0 0 (zq_A X) := by
  refine Met.ofW (cc := cX12_isFrostHere) (maxL := 1) (ret := (some .boolean)) (by decide) rfl ?_
  intro p e s m args below meth c s₁ B hml hv
  obtain ⟨hargs, hM, hZ⟩ := hv
  have hown : s.vm.findClass RX12 = some m.cls := findClass_of_methodNamed B.named
  have hts := atoms_spec (ws := zt_w yX12_isFrostHere cX12_isFrostHere 1 (some .boolean)) B.pre
  have E : CallFix p m c cX12_isFrostHere 1 s args (Cond.code yX12_isFrostHere cX12_isFrostHere 1 (some .boolean) :: zt) RX12 := ⟨B.exec, B.bytes, hml, hown, hts⟩
  have hx := B.exec
  have hb := B.bytes
  have hr := B.returns
  have hlocks := B.notSynchronized
  clear B
  have hS : va_S (zq_A X) s.heap s.heap [] := va_S.rf
  have hR : zq_fr (zf X zw_X12_isFrostHere (fun _ => False)) I I := zq_fr.rf
  have hl := lv_entry ([.ref h0]) (n := 1) (by exact Nat.le_of_ble_eq_true rfl)
  have hg : entryFrame m args 1 = F0 m 0 ((lg_sl ([.ref h0]) ++ List.replicate (1 - (lg_sl ([.ref h0])).length) Slot.unset).toArray) [] := by rw [hargs]; exact lg_entry_eq m ([.ref h0]) 1
  rw [hg]
  clear hg hargs
  generalize (lg_sl ([.ref h0]) ++ List.replicate (1 - (lg_sl ([.ref h0])).length) Slot.unset).toArray = ls at hl ⊢
  have hl : lv_has ls 1 [(0, .ref h0)] := by exact hl
  obtain ⟨R, hRm⟩ : ∃ R : Room, R = (headSpec (zt_w yX12_isFrostHere cX12_isFrostHere 1 (some .boolean)) (zq_rm (3))).room := ⟨_, rfl⟩
  rw [← hRm]
  have hro : ∀ d q : Nat, d + 1 ≤ 3 → q ≤ 45 → zq_rok d q R := fun d q h1 h2 => by rw [hRm]; exact zq_rokI h1 h2
  generalize hQ : MQ below _ args s 0 0 (zq_A X) = Q
  obtain ⟨H, hH⟩ : ∃ H, H = s.heap := ⟨_, rfl⟩
  obtain ⟨locs, hlo⟩ : ∃ x : List Loc, x = [] := ⟨_, rfl⟩
  rw [show W p l e R s m args below meth c s.heap [] 0 0 Q = W p l e R s m args below meth c H locs 0 0 Q by rw [hH, hlo]]
  have hM : zq_hm X (zk, zn) I H := by rw [hH]; exact hM
  have hS : va_S (zq_A X) s.heap H locs := by rw [hH, hlo]; exact hS
  clear hH hlo
  have hG0 : ∀ b, zGo X h0 b 0 I I := fun b => zGo.rf q_1
  refine lv_aload_n hx hb dX12_isFrostHere_0 rfl (lv_at hl 0 rfl) ?_
  refine zq_callv (zq_rV (As := []) (rest := []) E hZ hM k_h0 (c_X12_passWord l X zk (zn) I L h0 k_h0 (by omega) ((hG0 true).2.2.2.1)) zmX12_99 zM_X12_passWord (hro (1) 1 (by first | decide | omega) (by decide)) ⟨by decide, by decide⟩ rfl hl.1 rfl rfl (Nat.le_of_ble_eq_true rfl) dX12_isFrostHere_1) hS (fun I103 H locs h101 hM hS => ?_)
  obtain ⟨fr104, p105, p106, p107⟩ := h101
  have hR := zq_fr.call hR fr104 (zf_sub (by decide +kernel) (fun _ _ q => q.elim))
  have hG108 : ∀ b, zGo X h0 b 0 I I103 := (fun b => zGo.wk (zGo.tr (hG0 b) (p105 b)) (by decide))
  refine lv_aload_n hx hb dX12_isFrostHere_4 rfl (lv_at hl 0 rfl) ?_
  refine lv_iconst (v := 0) hx hb dX12_isFrostHere_5 (by decide +kernel) ?_
  refine lv_bipush (v := 11) hx hb dX12_isFrostHere_6 (by decide +kernel) ?_
  refine zq_calli (zq_rV (As := [.int (0 : Int32), .int (11 : Int32)]) (rest := []) E hZ hM k_h0 (c_X12_numberHere l X zk (zn) I103 L h0 k_h0 (0 : Int32) (11 : Int32) (by have := zl_0; have := zl_11; omega) ((hG108 true).2.2.2.1)) zmX12_163 zM_X12_numberHere (hro (1) 5 (by first | decide | omega) (by decide)) ⟨by decide, by decide⟩ rfl hl.1 rfl rfl (Nat.le_of_ble_eq_true rfl) dX12_isFrostHere_8) hS (fun x110 I111 H locs h109 hM hS => ?_)
  obtain ⟨fr112, p113, p114, p115⟩ := h109
  have := zl_0
  have := zl_11
  have hR := zq_fr.call hR fr112 (zf_sub (by decide +kernel) (fun _ _ q => q.elim))
  have hG116 : ∀ b, zGo X h0 b 0 I I111 := (fun b => zGo.wk (zGo.tr (hG108 b) (p113 b)) (by decide))
  refine lv_if_ne (tgt := 16) hx hb dX12_isFrostHere_11 (by decide) (fun b117 => ?_) (fun b117 => ?_)
  · have b117 := zi_ne b117 (rfl : x110.toInt = x110.toInt) (zl_0 : (0 : Int32).toInt = 0)
    have hG118 : ∀ b, zGo X h0 b 1 I I111 := (fun b => zGo.wk (zGo.tr (hG108 b) ((p114.resolve_left (by omega)).1 b)) (by decide))
    have hNb119 : 0 ≤ (I111 h0 10).toInt ∧ (I111 h0 10).toInt ≤ 11 := ⟨by have q := (p114.resolve_left (by omega)).2.1; have := zl_0; omega, by have q := (p114.resolve_left (by omega)).2.2; have := zl_11; omega⟩
    refine lv_aload_n hx hb dX12_isFrostHere_16 rfl (lv_at hl 0 rfl) ?_
    refine lv_bipush (v := 45) hx hb dX12_isFrostHere_17 (by decide +kernel) ?_
    refine lv_aload_n hx hb dX12_isFrostHere_19 rfl (lv_at hl 0 rfl) ?_
    refine zq_gn E hM k_h0 (zFX12_109 E hZ) (Or.inl ⟨by decide, by decide, by decide, rfl⟩) dX12_isFrostHere_20 (fun x120 ex120 gx120 => ?_)
    clear gx120
    have fx120 : 0 ≤ x120.toInt ∧ x120.toInt ≤ 11 := by rw [← ex120]; exact hNb119
    refine lv_iadd hx hb dX12_isFrostHere_23 ?_
    refine lv_topi (fun x121 ex121 => ?_)
    have tx121 := zi_add ex121 (zl_45 : (45 : Int32).toInt = 45) (rfl : x120.toInt = x120.toInt) ⟨by omega, by omega⟩
    refine lv_iconst (v := 1) hx hb dX12_isFrostHere_24 (by decide +kernel) ?_
    refine lv_bipush (v := 99) hx hb dX12_isFrostHere_25 (by decide +kernel) ?_
    refine zq_calli (zq_rV (As := [.int x121, .int (1 : Int32), .int (99 : Int32)]) (rest := []) E hZ hM k_h0 (c_X12_cellHere l X zk (zn) I111 L h0 k_h0 x121 (1 : Int32) (99 : Int32) ⟨by omega, by omega⟩ (by have := zl_1; have := zl_99; omega) ((hG118 true).2.2.2.1) (fun v h1 h2 => by
      have := zl_1; have := zl_99; have hc := zq_cl (i := x121) (by omega)
      rcases (show x121.toNatClampNeg = 45 ∨ x121.toNatClampNeg = 46 ∨ x121.toNatClampNeg = 47 ∨ x121.toNatClampNeg = 48 ∨ x121.toNatClampNeg = 49 ∨ x121.toNatClampNeg = 50 ∨ x121.toNatClampNeg = 51 ∨ x121.toNatClampNeg = 52 ∨ x121.toNatClampNeg = 53 ∨ x121.toNatClampNeg = 54 ∨ x121.toNatClampNeg = 55 ∨ x121.toNatClampNeg = 56 by omega) with q | q | q | q | q | q | q | q | q | q | q | q
      · rw [q]; rw [show zq_sd 0 45 = ((-2147483648), 2147483647) from rfl]; exact ⟨by show ((-2147483648) : Int) ≤ v; omega, by show v ≤ (2147483647 : Int); omega⟩
      · rw [q]; rw [show zq_sd 0 46 = ((-2147483648), 2147483647) from rfl]; exact ⟨by show ((-2147483648) : Int) ≤ v; omega, by show v ≤ (2147483647 : Int); omega⟩
      · rw [q]; rw [show zq_sd 0 47 = ((-2147483648), 2147483647) from rfl]; exact ⟨by show ((-2147483648) : Int) ≤ v; omega, by show v ≤ (2147483647 : Int); omega⟩
      · rw [q]; rw [show zq_sd 0 48 = ((-2147483648), 2147483647) from rfl]; exact ⟨by show ((-2147483648) : Int) ≤ v; omega, by show v ≤ (2147483647 : Int); omega⟩
      · rw [q]; rw [show zq_sd 0 49 = ((-2147483648), 2147483647) from rfl]; exact ⟨by show ((-2147483648) : Int) ≤ v; omega, by show v ≤ (2147483647 : Int); omega⟩
      · rw [q]; rw [show zq_sd 0 50 = ((-2147483648), 2147483647) from rfl]; exact ⟨by show ((-2147483648) : Int) ≤ v; omega, by show v ≤ (2147483647 : Int); omega⟩
      · rw [q]; rw [show zq_sd 0 51 = ((-2147483648), 2147483647) from rfl]; exact ⟨by show ((-2147483648) : Int) ≤ v; omega, by show v ≤ (2147483647 : Int); omega⟩
      · rw [q]; rw [show zq_sd 0 52 = ((-2147483648), 2147483647) from rfl]; exact ⟨by show ((-2147483648) : Int) ≤ v; omega, by show v ≤ (2147483647 : Int); omega⟩
      · rw [q]; rw [show zq_sd 0 53 = ((-2147483648), 2147483647) from rfl]; exact ⟨by show ((-2147483648) : Int) ≤ v; omega, by show v ≤ (2147483647 : Int); omega⟩
      · rw [q]; rw [show zq_sd 0 54 = ((-2147483648), 2147483647) from rfl]; exact ⟨by show ((-2147483648) : Int) ≤ v; omega, by show v ≤ (2147483647 : Int); omega⟩
      · rw [q]; rw [show zq_sd 0 55 = ((-2147483648), 2147483647) from rfl]; exact ⟨by show ((-2147483648) : Int) ≤ v; omega, by show v ≤ (2147483647 : Int); omega⟩
      · rw [q]; rw [show zq_sd 0 56 = ((-2147483648), 2147483647) from rfl]; exact ⟨by show ((-2147483648) : Int) ≤ v; omega, by show v ≤ (2147483647 : Int); omega⟩)) zmX12_214 zM_X12_cellHere (hro (2) 4 (by first | decide | omega) (by decide)) ⟨by decide, by decide⟩ rfl hl.1 rfl rfl (Nat.le_of_ble_eq_true rfl) dX12_isFrostHere_27) hS (fun x123 I124 H locs h122 hM hS => ?_)
    obtain ⟨fr125, p126, p127, p128⟩ := h122
    have := zl_1
    have := zl_99
    have hR := zq_fr.call hR fr125 (zf_sub (by decide +kernel) (fun _ _ q => q.elim))
    have hG129 : ∀ b, zGo X h0 b 1 I I124 := (fun b => zGo.wk (zGo.tr (hG118 b) (p126 b)) (by decide))
    subst hQ
    exact zq_zret E hr hZ hM hS (show 0 ≤ x123.toInt ∧ x123.toInt ≤ 1 from ⟨by omega, by omega⟩) ⟨hR, ((fun b => zGo.wk (hG129 b) (by decide))), (by omega)⟩ hlocks dX12_isFrostHere_30
  · have b117 := zi_eq b117 (rfl : x110.toInt = x110.toInt) (zl_0 : (0 : Int32).toInt = 0)
    refine lv_iconst (v := 0) hx hb dX12_isFrostHere_14 (by decide +kernel) ?_
    subst hQ
    exact zq_zret E hr hZ hM hS (show 0 ≤ (0 : Int32).toInt ∧ (0 : Int32).toInt ≤ 1 by decide +kernel) ⟨hR, (hG116), (by have := zl_0; omega)⟩ hlocks dX12_isFrostHere_15
def zw_X12_isShipHere : List (Nat × Nat) := [(10, 8), (10, 9), (10, 10), (55, 999)]
set_option maxHeartbeats 8000000 in
set_option maxRecDepth 100000 in
theorem c_X12_isShipHere (l : Launch) (X : zq_X) (zk zn : Nat) (I : zq_M) (L : zq_L X)  (h0 : Nat) (k_h0 : zq_k X h0 = 10) (p1 : Int32) (q_0 : zk ≤ 4400 ∧ zn ≤ 4400) (q_1 : (I h0 8).toInt ≤ (I h0 1).toInt) : Met l yX12_isShipHere (zt_w yX12_isShipHere cX12_isShipHere 3 (some .boolean)) (zq_rm (3)) (va_Pc [.ref h0, .int p1] (zq_W X (zk, zn) I)) (va_Qi (fun (r : Int32) I2 => zq_fr (zf X zw_X12_isShipHere (fun _ => False)) I I2 ∧ (∀ b, zGo X h0 b 0 I I2) ∧ (0 ≤ r.toInt ∧ r.toInt ≤ 1)) (zq_E X (zk, zn)) (zq_A X)) 0 0 (zq_A X) := by
  refine Met.ofW (cc := cX12_isShipHere) (maxL := 3) (ret := (some .boolean)) (by decide) rfl ?_
  intro p e s m args below meth c s₁ B hml hv
  obtain ⟨hargs, hM, hZ⟩ := hv
  have hown : s.vm.findClass RX12 = some m.cls := findClass_of_methodNamed B.named
  have hts := atoms_spec (ws := zt_w yX12_isShipHere cX12_isShipHere 3 (some .boolean)) B.pre
  have E : CallFix p m c cX12_isShipHere 3 s args (Cond.code yX12_isShipHere cX12_isShipHere 3 (some .boolean) :: zt) RX12 := ⟨B.exec, B.bytes, hml, hown, hts⟩
  have hx := B.exec
  have hb := B.bytes
  have hr := B.returns
  have hlocks := B.notSynchronized
  clear B
  have hS : va_S (zq_A X) s.heap s.heap [] := va_S.rf
  have hR : zq_fr (zf X zw_X12_isShipHere (fun _ => False)) I I := zq_fr.rf
  have hl := lv_entry ([.ref h0, .int p1]) (n := 3) (by exact Nat.le_of_ble_eq_true rfl)
  have hg : entryFrame m args 3 = F0 m 0 ((lg_sl ([.ref h0, .int p1]) ++ List.replicate (3 - (lg_sl ([.ref h0, .int p1])).length) Slot.unset).toArray) [] := by rw [hargs]; exact lg_entry_eq m ([.ref h0, .int p1]) 3
  rw [hg]
  clear hg hargs
  generalize (lg_sl ([.ref h0, .int p1]) ++ List.replicate (3 - (lg_sl ([.ref h0, .int p1])).length) Slot.unset).toArray = ls at hl ⊢
  have hl : lv_has ls 3 [(0, .ref h0), (1, .int p1)] := by exact hl
  obtain ⟨R, hRm⟩ : ∃ R : Room, R = (headSpec (zt_w yX12_isShipHere cX12_isShipHere 3 (some .boolean)) (zq_rm (3))).room := ⟨_, rfl⟩
  rw [← hRm]
  have hro : ∀ d q : Nat, d + 1 ≤ 3 → q ≤ 45 → zq_rok d q R := fun d q h1 h2 => by rw [hRm]; exact zq_rokI h1 h2
  generalize hQ : MQ below _ args s 0 0 (zq_A X) = Q
  obtain ⟨H, hH⟩ : ∃ H, H = s.heap := ⟨_, rfl⟩
  obtain ⟨locs, hlo⟩ : ∃ x : List Loc, x = [] := ⟨_, rfl⟩
  rw [show W p l e R s m args below meth c s.heap [] 0 0 Q = W p l e R s m args below meth c H locs 0 0 Q by rw [hH, hlo]]
  have hM : zq_hm X (zk, zn) I H := by rw [hH]; exact hM
  have hS : va_S (zq_A X) s.heap H locs := by rw [hH, hlo]; exact hS
  clear hH hlo
  have hG0 : ∀ b, zGo X h0 b 0 I I := fun b => zGo.rf q_1
  refine lv_aload_n hx hb dX12_isShipHere_0 rfl (lv_at hl 0 rfl) ?_
  refine zq_getr E hM k_h0 (zFX12_26 E hZ) ⟨by decide, by decide, by decide, rfl⟩ dX12_isShipHere_1 ?_
  have k101 : zq_k X (zq_r X h0 7) = 55 := zq_lk L.1 k_h0 rfl (by decide)
  refine lv_iconst (v := 2) hx hb dX12_isShipHere_4 (by decide +kernel) ?_
  refine zq_ian (n := 85) (j := 2) E hZ hM k101 ⟨by decide, rfl⟩ (by rw [zl_2]; decide) (by decide +kernel) dX12_isShipHere_5 (fun x102 ex102 gx102 => ?_)
  replace gx102 : 0 ≤ x102.toInt ∧ x102.toInt ≤ 3 := gx102
  refine lv_iconst (v := 3) hx hb dX12_isShipHere_6 (by decide +kernel) ?_
  refine lv_icmp_ne (tgt := 17) hx hb dX12_isShipHere_7 (by decide) (fun b103 => ?_) (fun b103 => ?_)
  · have b103 := zi_ne b103 (rfl : x102.toInt = x102.toInt) (zl_3 : (3 : Int32).toInt = 3)
    refine lv_aload_n hx hb dX12_isShipHere_17 rfl (lv_at hl 0 rfl) ?_
    refine zq_callv (zq_rV (As := []) (rest := []) E hZ hM k_h0 (c_X12_passWord l X zk (zn) I L h0 k_h0 (by omega) ((hG0 true).2.2.2.1)) zmX12_99 zM_X12_passWord (hro (1) 1 (by first | decide | omega) (by decide)) ⟨by decide, by decide⟩ rfl hl.1 rfl rfl (Nat.le_of_ble_eq_true rfl) dX12_isShipHere_18) hS (fun I106 H locs h104 hM hS => ?_)
    obtain ⟨fr107, p108, p109, p110⟩ := h104
    have hR := zq_fr.call hR fr107 (zf_sub (by decide +kernel) (fun _ _ q => q.elim))
    have hG111 : ∀ b, zGo X h0 b 0 I I106 := (fun b => zGo.wk (zGo.tr (hG0 b) (p108 b)) (by decide))
    refine lv_bipush (v := 57) hx hb dX12_isShipHere_21 (by decide +kernel) ?_
    refine lv_iconst (v := 2) hx hb dX12_isShipHere_23 (by decide +kernel) ?_
    refine lv_aload_n hx hb dX12_isShipHere_24 rfl (lv_at hl 0 rfl) ?_
    refine zq_getr E hM k_h0 (zFX12_26 E hZ) ⟨by decide, by decide, by decide, rfl⟩ dX12_isShipHere_25 ?_
    have k112 : zq_k X (zq_r X h0 7) = 55 := zq_lk L.1 k_h0 rfl (by decide)
    refine lv_iconst (v := 2) hx hb dX12_isShipHere_28 (by decide +kernel) ?_
    refine zq_iald (n := 85) (j := 2) (v := x102) E hZ hM k112 ⟨by decide, rfl⟩ (by rw [zl_2]; decide) (by decide +kernel) (zq_fr.kp fr107 (zf_n k112 rfl) ex102) dX12_isShipHere_29 ?_
    refine lv_imul hx hb dX12_isShipHere_30 ?_
    refine lv_topi (fun x114 ex114 => ?_)
    have tx114 := zi_mul ex114 (zl_2 : (2 : Int32).toInt = 2) (rfl : x102.toInt = x102.toInt) ⟨by omega, by omega⟩
    refine W.eq (g2 := F0 m 31 ls [.int x114, .int (57 : Int32)]) rfl ?_
    refine lv_iadd hx hb dX12_isShipHere_31 ?_
    refine lv_topi (fun x115 ex115 => ?_)
    have tx115 := zi_add ex115 (zl_57 : (57 : Int32).toInt = 57) (rfl : x114.toInt = x114.toInt) ⟨by omega, by omega⟩
    refine lv_istore_n (lv' := [(2, .int x115), (0, .ref h0), (1, .int p1)]) hx hb dX12_isShipHere_32 rfl hl (by decide) rfl (fun ls hl => ?_)
    refine lv_aload_n hx hb dX12_isShipHere_33 rfl (lv_at hl 1 rfl) ?_
    refine lv_iload_n hx hb dX12_isShipHere_34 rfl (lv_at hl 0 rfl) ?_
    refine lv_iconst (v := 1) hx hb dX12_isShipHere_35 (by decide +kernel) ?_
    refine lv_bipush (v := 99) hx hb dX12_isShipHere_36 (by decide +kernel) ?_
    refine zq_calli (zq_rV (As := [.int x115, .int (1 : Int32), .int (99 : Int32)]) (rest := []) E hZ hM k_h0 (c_X12_cellHere l X zk (zn) I106 L h0 k_h0 x115 (1 : Int32) (99 : Int32) ⟨by omega, by omega⟩ (by have := zl_1; have := zl_99; omega) ((hG111 true).2.2.2.1) (fun v h1 h2 => by
      have := zl_1; have := zl_99; have hc := zq_cl (i := x115) (by omega)
      rcases (show x115.toNatClampNeg = 57 ∨ x115.toNatClampNeg = 59 ∨ x115.toNatClampNeg = 61 by omega) with q | q | q
      · rw [q]; rw [show zq_sd 0 57 = (0, 99) from rfl]; exact ⟨by show (0 : Int) ≤ v; omega, by show v ≤ (99 : Int); omega⟩
      · rw [q]; rw [show zq_sd 0 59 = (0, 99) from rfl]; exact ⟨by show (0 : Int) ≤ v; omega, by show v ≤ (99 : Int); omega⟩
      · rw [q]; rw [show zq_sd 0 61 = (0, 99) from rfl]; exact ⟨by show (0 : Int) ≤ v; omega, by show v ≤ (99 : Int); omega⟩)) zmX12_214 zM_X12_cellHere (hro (2) 4 (by first | decide | omega) (by decide)) ⟨by decide, by decide⟩ rfl hl.1 rfl rfl (Nat.le_of_ble_eq_true rfl) dX12_isShipHere_38) hS (fun x117 I118 H locs h116 hM hS => ?_)
    obtain ⟨fr119, p120, p121, p122⟩ := h116
    have := zl_1
    have := zl_99
    have hR := zq_fr.call hR fr119 (zf_sub (by decide +kernel) (fun _ _ q => q.elim))
    have hG123 : ∀ b, zGo X h0 b 0 I I118 := (fun b => zGo.wk (zGo.tr (hG111 b) (p120 b)) (by decide))
    have hRd124 : I118 (zq_r X h0 7) 2 = x102 := (p121 2 (by have := zq_cl (i := x115) (by omega); omega)).trans (zq_fr.kp fr107 (zf_n k112 rfl) ex102)
    refine lv_if_eq (tgt := 57) hx hb dX12_isShipHere_41 (by decide) (fun b125 => ?_) (fun b125 => ?_)
    · have b125 := zi_eq b125 (rfl : x117.toInt = x117.toInt) (zl_0 : (0 : Int32).toInt = 0)
      refine lv_iconst (v := 0) hx hb dX12_isShipHere_57 (by decide +kernel) ?_
      subst hQ
      exact zq_zret E hr hZ hM hS (show 0 ≤ (0 : Int32).toInt ∧ (0 : Int32).toInt ≤ 1 by decide +kernel) ⟨hR, (hG123), (by have := zl_0; omega)⟩ hlocks dX12_isShipHere_58
    · have b125 := zi_ne b125 (rfl : x117.toInt = x117.toInt) (zl_0 : (0 : Int32).toInt = 0)
      refine lv_aload_n hx hb dX12_isShipHere_44 rfl (lv_at hl 1 rfl) ?_
      refine lv_iload_n hx hb dX12_isShipHere_45 rfl (lv_at hl 0 rfl) ?_
      refine lv_iconst (v := 1) hx hb dX12_isShipHere_46 (by decide +kernel) ?_
      refine lv_iadd hx hb dX12_isShipHere_47 ?_
      refine lv_topi (fun x126 ex126 => ?_)
      have tx126 := zi_add ex126 (rfl : x115.toInt = x115.toInt) (zl_1 : (1 : Int32).toInt = 1) ⟨by omega, by omega⟩
      refine lv_iconst (v := 0) hx hb dX12_isShipHere_48 (by decide +kernel) ?_
      refine lv_bipush (v := 99) hx hb dX12_isShipHere_49 (by decide +kernel) ?_
      refine zq_calli (zq_rV (As := [.int x126, .int (0 : Int32), .int (99 : Int32)]) (rest := []) E hZ hM k_h0 (c_X12_cellHere l X zk (zn) I118 L h0 k_h0 x126 (0 : Int32) (99 : Int32) ⟨by omega, by omega⟩ (by have := zl_0; have := zl_99; omega) ((hG123 true).2.2.2.1) (fun v h1 h2 => by
      have := zl_0; have := zl_99; have hc := zq_cl (i := x126) (by omega)
      rcases (show x126.toNatClampNeg = 58 ∨ x126.toNatClampNeg = 60 ∨ x126.toNatClampNeg = 62 by omega) with q | q | q
      · rw [q]; rw [show zq_sd 0 58 = ((-2147483648), 2147483647) from rfl]; exact ⟨by show ((-2147483648) : Int) ≤ v; omega, by show v ≤ (2147483647 : Int); omega⟩
      · rw [q]; rw [show zq_sd 0 60 = ((-2147483648), 2147483647) from rfl]; exact ⟨by show ((-2147483648) : Int) ≤ v; omega, by show v ≤ (2147483647 : Int); omega⟩
      · rw [q]; rw [show zq_sd 0 62 = ((-2147483648), 2147483647) from rfl]; exact ⟨by show ((-2147483648) : Int) ≤ v; omega, by show v ≤ (2147483647 : Int); omega⟩)) zmX12_214 zM_X12_cellHere (hro (2) 4 (by first | decide | omega) (by decide)) ⟨by decide, by decide⟩ rfl hl.1 rfl rfl (Nat.le_of_ble_eq_true rfl) dX12_isShipHere_51) hS (fun x128 I129 H locs h127 hM hS => ?_)
      obtain ⟨fr130, p131, p132, p133⟩ := h127
      have := zl_0
      have := zl_99
      have hR := zq_fr.call hR fr130 (zf_sub (by decide +kernel) (fun _ _ q => q.elim))
      have hG134 : ∀ b, zGo X h0 b 0 I I129 := (fun b => zGo.wk (zGo.tr (hG123 b) (p131 b)) (by decide))
      have hRd135 : I129 (zq_r X h0 7) 2 = x102 := (p132 2 (by have := zq_cl (i := x126) (by omega); omega)).trans hRd124
      refine lv_if_ne (tgt := 59) hx hb dX12_isShipHere_54 (by decide) (fun b136 => ?_) (fun b136 => ?_)
      · have b136 := zi_ne b136 (rfl : x128.toInt = x128.toInt) (zl_0 : (0 : Int32).toInt = 0)
        refine lv_aload_n hx hb dX12_isShipHere_59 rfl (lv_at hl 1 rfl) ?_
        refine zq_getr E hM k_h0 (zFX12_26 E hZ) ⟨by decide, by decide, by decide, rfl⟩ dX12_isShipHere_60 ?_
        have k137 : zq_k X (zq_r X h0 7) = 55 := zq_lk L.1 k_h0 rfl (by decide)
        refine lv_iconst (v := 2) hx hb dX12_isShipHere_63 (by decide +kernel) ?_
        refine lv_dup2_11 hx hb dX12_isShipHere_64 rfl rfl ?_
        refine zq_iald (n := 85) (j := 2) (v := x102) E hZ hM k137 ⟨by decide, rfl⟩ (by rw [zl_2]; decide) (by decide +kernel) hRd135 dX12_isShipHere_65 ?_
        refine lv_iconst (v := 1) hx hb dX12_isShipHere_66 (by decide +kernel) ?_
        refine lv_iadd hx hb dX12_isShipHere_67 ?_
        refine lv_topi (fun x139 ex139 => ?_)
        have tx139 := zi_add ex139 (rfl : x102.toInt = x102.toInt) (zl_1 : (1 : Int32).toInt = 1) ⟨by omega, by omega⟩
        refine zq_isn (n := 85) (j := 2) E hZ hM hS k137 ⟨by decide, rfl⟩ (by rw [zl_2]; decide) (by decide +kernel) (by exact (show 0 ≤ x139.toInt ∧ x139.toInt ≤ 3 from ⟨by omega, by omega⟩)) dX12_isShipHere_68 (fun I140 H locs eI140 hM hS => ?_)
        have hR := zq_fr.putE hR eI140 (zf_ia k137 (by decide) rfl)
        have hG141 : ∀ b, zGo X h0 b 0 I I140 := (fun b => zGo.wk (zGo.pt (hG134 b) L k_h0 eI140 k137 rfl) (by decide))
        refine lv_iconst (v := 1) hx hb dX12_isShipHere_69 (by decide +kernel) ?_
        refine W.eq (g2 := F0 m 70 ls [.int (1 : Int32)]) rfl ?_
        subst hQ
        exact zq_zret E hr hZ hM hS (show 0 ≤ (1 : Int32).toInt ∧ (1 : Int32).toInt ≤ 1 by decide +kernel) ⟨hR, (hG141), (by have := zl_1; omega)⟩ hlocks dX12_isShipHere_70
      · have b136 := zi_eq b136 (rfl : x128.toInt = x128.toInt) (zl_0 : (0 : Int32).toInt = 0)
        refine lv_iconst (v := 0) hx hb dX12_isShipHere_57 (by decide +kernel) ?_
        subst hQ
        exact zq_zret E hr hZ hM hS (show 0 ≤ (0 : Int32).toInt ∧ (0 : Int32).toInt ≤ 1 by decide +kernel) ⟨hR, (hG134), (by have := zl_0; omega)⟩ hlocks dX12_isShipHere_58
  · have b103 := zi_eq b103 (rfl : x102.toInt = x102.toInt) (zl_3 : (3 : Int32).toInt = 3)
    refine lv_aload_n hx hb dX12_isShipHere_10 rfl (lv_at hl 0 rfl) ?_
    refine lv_iconst (v := 4) hx hb dX12_isShipHere_11 (by decide +kernel) ?_
    refine lv_iload_n hx hb dX12_isShipHere_12 rfl (lv_at hl 1 rfl) ?_
    refine zq_calli (zq_rV (As := [.int (4 : Int32), .int p1]) (rest := []) E hZ hM k_h0 (c_X12_fails l X zk (zn) I L h0 k_h0 (4 : Int32) p1 (by have := zl_4; have := zi_rng p1; omega)) zmX12_105 zM_X12_fails (hro (0) 3 (by first | decide | omega) (by decide)) ⟨by decide, by decide⟩ rfl hl.1 rfl rfl (Nat.le_of_ble_eq_true rfl) dX12_isShipHere_13) hS (fun x144 I145 H locs h143 hM hS => ?_)
    obtain ⟨fr146, p147, p148⟩ := h143
    have := zl_4
    have hR := zq_fr.call hR fr146 (zf_sub (by decide +kernel) (fun _ _ q => q.elim))
    have hG149 : ∀ b, zGo X h0 b 0 I I145 := (fun b => zGo.wk (zGo.fr (hG0 b) L k_h0 fr146 rfl rfl rfl) (by decide))
    subst hQ
    exact zq_zret E hr hZ hM hS (show 0 ≤ x144.toInt ∧ x144.toInt ≤ 1 from ⟨by omega, by omega⟩) ⟨hR, (hG149), (by omega)⟩ hlocks dX12_isShipHere_16
def zw_X12_isTownHere : List (Nat × Nat) := [(10, 8), (10, 9), (10, 10), (55, 999)]
set_option maxHeartbeats 8000000 in
set_option maxRecDepth 100000 in
theorem c_X12_isTownHere (l : Launch) (X : zq_X) (zk zn : Nat) (I : zq_M) (L : zq_L X)  (h0 : Nat) (k_h0 : zq_k X h0 = 10) (p1 : Int32) (q_0 : zk ≤ 4400 ∧ zn ≤ 4400) (q_1 : (I h0 8).toInt ≤ (I h0 1).toInt) : Met l yX12_isTownHere (zt_w yX12_isTownHere cX12_isTownHere 4 (some .boolean)) (zq_rm (3)) (va_Pc [.ref h0, .int p1] (zq_W X (zk, zn) I)) (va_Qi (fun (r : Int32) I2 => zq_fr (zf X zw_X12_isTownHere (fun _ => False)) I I2 ∧ (∀ b, zGo X h0 b 0 I I2) ∧ (0 ≤ r.toInt ∧ r.toInt ≤ 1)) (zq_E X (zk, zn)) (zq_A X)) 0 0 (zq_A X) := by
  refine Met.ofW (cc := cX12_isTownHere) (maxL := 4) (ret := (some .boolean)) (by decide) rfl ?_
  intro p e s m args below meth c s₁ B hml hv
  obtain ⟨hargs, hM, hZ⟩ := hv
  have hown : s.vm.findClass RX12 = some m.cls := findClass_of_methodNamed B.named
  have hts := atoms_spec (ws := zt_w yX12_isTownHere cX12_isTownHere 4 (some .boolean)) B.pre
  have E : CallFix p m c cX12_isTownHere 4 s args (Cond.code yX12_isTownHere cX12_isTownHere 4 (some .boolean) :: zt) RX12 := ⟨B.exec, B.bytes, hml, hown, hts⟩
  have hx := B.exec
  have hb := B.bytes
  have hr := B.returns
  have hlocks := B.notSynchronized
  clear B
  have hS : va_S (zq_A X) s.heap s.heap [] := va_S.rf
  have hR : zq_fr (zf X zw_X12_isTownHere (fun _ => False)) I I := zq_fr.rf
  have hl := lv_entry ([.ref h0, .int p1]) (n := 4) (by exact Nat.le_of_ble_eq_true rfl)
  have hg : entryFrame m args 4 = F0 m 0 ((lg_sl ([.ref h0, .int p1]) ++ List.replicate (4 - (lg_sl ([.ref h0, .int p1])).length) Slot.unset).toArray) [] := by rw [hargs]; exact lg_entry_eq m ([.ref h0, .int p1]) 4
  rw [hg]
  clear hg hargs
  generalize (lg_sl ([.ref h0, .int p1]) ++ List.replicate (4 - (lg_sl ([.ref h0, .int p1])).length) Slot.unset).toArray = ls at hl ⊢
  have hl : lv_has ls 4 [(0, .ref h0), (1, .int p1)] := by exact hl
  obtain ⟨R, hRm⟩ : ∃ R : Room, R = (headSpec (zt_w yX12_isTownHere cX12_isTownHere 4 (some .boolean)) (zq_rm (3))).room := ⟨_, rfl⟩
  rw [← hRm]
  have hro : ∀ d q : Nat, d + 1 ≤ 3 → q ≤ 45 → zq_rok d q R := fun d q h1 h2 => by rw [hRm]; exact zq_rokI h1 h2
  generalize hQ : MQ below _ args s 0 0 (zq_A X) = Q
  obtain ⟨H, hH⟩ : ∃ H, H = s.heap := ⟨_, rfl⟩
  obtain ⟨locs, hlo⟩ : ∃ x : List Loc, x = [] := ⟨_, rfl⟩
  rw [show W p l e R s m args below meth c s.heap [] 0 0 Q = W p l e R s m args below meth c H locs 0 0 Q by rw [hH, hlo]]
  have hM : zq_hm X (zk, zn) I H := by rw [hH]; exact hM
  have hS : va_S (zq_A X) s.heap H locs := by rw [hH, hlo]; exact hS
  clear hH hlo
  have hG0 : ∀ b, zGo X h0 b 0 I I := fun b => zGo.rf q_1
  refine lv_aload_n hx hb dX12_isTownHere_0 rfl (lv_at hl 0 rfl) ?_
  refine zq_getr E hM k_h0 (zFX12_26 E hZ) ⟨by decide, by decide, by decide, rfl⟩ dX12_isTownHere_1 ?_
  have k101 : zq_k X (zq_r X h0 7) = 55 := zq_lk L.1 k_h0 rfl (by decide)
  refine lv_iconst (v := 3) hx hb dX12_isTownHere_4 (by decide +kernel) ?_
  refine zq_ian (n := 85) (j := 3) E hZ hM k101 ⟨by decide, rfl⟩ (by rw [zl_3]; decide) (by decide +kernel) dX12_isTownHere_5 (fun x102 ex102 gx102 => ?_)
  replace gx102 : 0 ≤ x102.toInt ∧ x102.toInt ≤ 4 := gx102
  refine lv_iconst (v := 4) hx hb dX12_isTownHere_6 (by decide +kernel) ?_
  refine lv_icmp_ne (tgt := 17) hx hb dX12_isTownHere_7 (by decide) (fun b103 => ?_) (fun b103 => ?_)
  · have b103 := zi_ne b103 (rfl : x102.toInt = x102.toInt) (zl_4 : (4 : Int32).toInt = 4)
    refine lv_aload_n hx hb dX12_isTownHere_17 rfl (lv_at hl 0 rfl) ?_
    refine zq_callv (zq_rV (As := []) (rest := []) E hZ hM k_h0 (c_X12_passWord l X zk (zn) I L h0 k_h0 (by omega) ((hG0 true).2.2.2.1)) zmX12_99 zM_X12_passWord (hro (1) 1 (by first | decide | omega) (by decide)) ⟨by decide, by decide⟩ rfl hl.1 rfl rfl (Nat.le_of_ble_eq_true rfl) dX12_isTownHere_18) hS (fun I106 H locs h104 hM hS => ?_)
    obtain ⟨fr107, p108, p109, p110⟩ := h104
    have hR := zq_fr.call hR fr107 (zf_sub (by decide +kernel) (fun _ _ q => q.elim))
    have hG111 : ∀ b, zGo X h0 b 0 I I106 := (fun b => zGo.wk (zGo.tr (hG0 b) (p108 b)) (by decide))
    refine lv_bipush (v := 63) hx hb dX12_isTownHere_21 (by decide +kernel) ?_
    refine lv_iconst (v := 2) hx hb dX12_isTownHere_23 (by decide +kernel) ?_
    refine lv_aload_n hx hb dX12_isTownHere_24 rfl (lv_at hl 0 rfl) ?_
    refine zq_getr E hM k_h0 (zFX12_26 E hZ) ⟨by decide, by decide, by decide, rfl⟩ dX12_isTownHere_25 ?_
    have k112 : zq_k X (zq_r X h0 7) = 55 := zq_lk L.1 k_h0 rfl (by decide)
    refine lv_iconst (v := 3) hx hb dX12_isTownHere_28 (by decide +kernel) ?_
    refine zq_iald (n := 85) (j := 3) (v := x102) E hZ hM k112 ⟨by decide, rfl⟩ (by rw [zl_3]; decide) (by decide +kernel) (zq_fr.kp fr107 (zf_n k112 rfl) ex102) dX12_isTownHere_29 ?_
    refine lv_imul hx hb dX12_isTownHere_30 ?_
    refine lv_topi (fun x114 ex114 => ?_)
    have tx114 := zi_mul ex114 (zl_2 : (2 : Int32).toInt = 2) (rfl : x102.toInt = x102.toInt) ⟨by omega, by omega⟩
    refine W.eq (g2 := F0 m 31 ls [.int x114, .int (63 : Int32)]) rfl ?_
    refine lv_iadd hx hb dX12_isTownHere_31 ?_
    refine lv_topi (fun x115 ex115 => ?_)
    have tx115 := zi_add ex115 (zl_63 : (63 : Int32).toInt = 63) (rfl : x114.toInt = x114.toInt) ⟨by omega, by omega⟩
    refine lv_istore_n (lv' := [(2, .int x115), (0, .ref h0), (1, .int p1)]) hx hb dX12_isTownHere_32 rfl hl (by decide) rfl (fun ls hl => ?_)
    refine lv_bipush (v := 73) hx hb dX12_isTownHere_33 (by decide +kernel) ?_
    refine lv_iconst (v := 3) hx hb dX12_isTownHere_35 (by decide +kernel) ?_
    refine lv_aload_n hx hb dX12_isTownHere_36 rfl (lv_at hl 1 rfl) ?_
    refine zq_getr E hM k_h0 (zFX12_26 E hZ) ⟨by decide, by decide, by decide, rfl⟩ dX12_isTownHere_37 ?_
    have k116 : zq_k X (zq_r X h0 7) = 55 := zq_lk L.1 k_h0 rfl (by decide)
    refine lv_iconst (v := 3) hx hb dX12_isTownHere_40 (by decide +kernel) ?_
    refine zq_iald (n := 85) (j := 3) (v := x102) E hZ hM k116 ⟨by decide, rfl⟩ (by rw [zl_3]; decide) (by decide +kernel) (zq_fr.kp fr107 (zf_n k112 rfl) ex102) dX12_isTownHere_41 ?_
    refine lv_imul hx hb dX12_isTownHere_42 ?_
    refine lv_topi (fun x118 ex118 => ?_)
    have tx118 := zi_mul ex118 (zl_3 : (3 : Int32).toInt = 3) (rfl : x102.toInt = x102.toInt) ⟨by omega, by omega⟩
    refine lv_iadd hx hb dX12_isTownHere_43 ?_
    refine lv_topi (fun x119 ex119 => ?_)
    have tx119 := zi_add ex119 (zl_73 : (73 : Int32).toInt = 73) (rfl : x118.toInt = x118.toInt) ⟨by omega, by omega⟩
    refine W.eq (g2 := F0 m 44 ls [.int x119]) rfl ?_
    refine lv_istore_n (lv' := [(3, .int x119), (2, .int x115), (0, .ref h0), (1, .int p1)]) hx hb dX12_isTownHere_44 rfl hl (by decide) rfl (fun ls hl => ?_)
    refine lv_aload_n hx hb dX12_isTownHere_45 rfl (lv_at hl 2 rfl) ?_
    refine lv_iload_n hx hb dX12_isTownHere_46 rfl (lv_at hl 1 rfl) ?_
    refine lv_iconst (v := 1) hx hb dX12_isTownHere_47 (by decide +kernel) ?_
    refine lv_bipush (v := 6) hx hb dX12_isTownHere_48 (by decide +kernel) ?_
    refine zq_calli (zq_rV (As := [.int x115, .int (1 : Int32), .int (6 : Int32)]) (rest := []) E hZ hM k_h0 (c_X12_cellHere l X zk (zn) I106 L h0 k_h0 x115 (1 : Int32) (6 : Int32) ⟨by omega, by omega⟩ (by have := zl_1; have := zl_6; omega) ((hG111 true).2.2.2.1) (fun v h1 h2 => by
      have := zl_1; have := zl_6; have hc := zq_cl (i := x115) (by omega)
      rcases (show x115.toNatClampNeg = 63 ∨ x115.toNatClampNeg = 65 ∨ x115.toNatClampNeg = 67 ∨ x115.toNatClampNeg = 69 by omega) with q | q | q | q
      · rw [q]; rw [show zq_sd 0 63 = (0, 6) from rfl]; exact ⟨by show (0 : Int) ≤ v; omega, by show v ≤ (6 : Int); omega⟩
      · rw [q]; rw [show zq_sd 0 65 = (0, 6) from rfl]; exact ⟨by show (0 : Int) ≤ v; omega, by show v ≤ (6 : Int); omega⟩
      · rw [q]; rw [show zq_sd 0 67 = (0, 6) from rfl]; exact ⟨by show (0 : Int) ≤ v; omega, by show v ≤ (6 : Int); omega⟩
      · rw [q]; rw [show zq_sd 0 69 = (0, 6) from rfl]; exact ⟨by show (0 : Int) ≤ v; omega, by show v ≤ (6 : Int); omega⟩)) zmX12_214 zM_X12_cellHere (hro (2) 4 (by first | decide | omega) (by decide)) ⟨by decide, by decide⟩ rfl hl.1 rfl rfl (Nat.le_of_ble_eq_true rfl) dX12_isTownHere_50) hS (fun x121 I122 H locs h120 hM hS => ?_)
    obtain ⟨fr123, p124, p125, p126⟩ := h120
    have := zl_1
    have := zl_6
    have hR := zq_fr.call hR fr123 (zf_sub (by decide +kernel) (fun _ _ q => q.elim))
    have hG127 : ∀ b, zGo X h0 b 0 I I122 := (fun b => zGo.wk (zGo.tr (hG111 b) (p124 b)) (by decide))
    have hRd128 : I122 (zq_r X h0 7) 3 = x102 := (p125 3 (by have := zq_cl (i := x115) (by omega); omega)).trans (zq_fr.kp fr107 (zf_n k112 rfl) ex102)
    refine lv_if_eq (tgt := 93) hx hb dX12_isTownHere_53 (by decide) (fun b129 => ?_) (fun b129 => ?_)
    · have b129 := zi_eq b129 (rfl : x121.toInt = x121.toInt) (zl_0 : (0 : Int32).toInt = 0)
      refine lv_iconst (v := 0) hx hb dX12_isTownHere_93 (by decide +kernel) ?_
      subst hQ
      exact zq_zret E hr hZ hM hS (show 0 ≤ (0 : Int32).toInt ∧ (0 : Int32).toInt ≤ 1 by decide +kernel) ⟨hR, (hG127), (by have := zl_0; omega)⟩ hlocks dX12_isTownHere_94
    · have b129 := zi_ne b129 (rfl : x121.toInt = x121.toInt) (zl_0 : (0 : Int32).toInt = 0)
      refine lv_aload_n hx hb dX12_isTownHere_56 rfl (lv_at hl 2 rfl) ?_
      refine lv_iload_n hx hb dX12_isTownHere_57 rfl (lv_at hl 1 rfl) ?_
      refine lv_iconst (v := 1) hx hb dX12_isTownHere_58 (by decide +kernel) ?_
      refine lv_iadd hx hb dX12_isTownHere_59 ?_
      refine lv_topi (fun x130 ex130 => ?_)
      have tx130 := zi_add ex130 (rfl : x115.toInt = x115.toInt) (zl_1 : (1 : Int32).toInt = 1) ⟨by omega, by omega⟩
      refine lv_iconst (v := 0) hx hb dX12_isTownHere_60 (by decide +kernel) ?_
      refine lv_bipush (v := 60) hx hb dX12_isTownHere_61 (by decide +kernel) ?_
      refine zq_calli (zq_rV (As := [.int x130, .int (0 : Int32), .int (60 : Int32)]) (rest := []) E hZ hM k_h0 (c_X12_cellHere l X zk (zn) I122 L h0 k_h0 x130 (0 : Int32) (60 : Int32) ⟨by omega, by omega⟩ (by have := zl_0; have := zl_60; omega) ((hG127 true).2.2.2.1) (fun v h1 h2 => by
      have := zl_0; have := zl_60; have hc := zq_cl (i := x130) (by omega)
      rcases (show x130.toNatClampNeg = 64 ∨ x130.toNatClampNeg = 66 ∨ x130.toNatClampNeg = 68 ∨ x130.toNatClampNeg = 70 by omega) with q | q | q | q
      · rw [q]; rw [show zq_sd 0 64 = (0, 60) from rfl]; exact ⟨by show (0 : Int) ≤ v; omega, by show v ≤ (60 : Int); omega⟩
      · rw [q]; rw [show zq_sd 0 66 = (0, 60) from rfl]; exact ⟨by show (0 : Int) ≤ v; omega, by show v ≤ (60 : Int); omega⟩
      · rw [q]; rw [show zq_sd 0 68 = (0, 60) from rfl]; exact ⟨by show (0 : Int) ≤ v; omega, by show v ≤ (60 : Int); omega⟩
      · rw [q]; rw [show zq_sd 0 70 = (0, 60) from rfl]; exact ⟨by show (0 : Int) ≤ v; omega, by show v ≤ (60 : Int); omega⟩)) zmX12_214 zM_X12_cellHere (hro (2) 4 (by first | decide | omega) (by decide)) ⟨by decide, by decide⟩ rfl hl.1 rfl rfl (Nat.le_of_ble_eq_true rfl) dX12_isTownHere_63) hS (fun x132 I133 H locs h131 hM hS => ?_)
      obtain ⟨fr134, p135, p136, p137⟩ := h131
      have := zl_0
      have := zl_60
      have hR := zq_fr.call hR fr134 (zf_sub (by decide +kernel) (fun _ _ q => q.elim))
      have hG138 : ∀ b, zGo X h0 b 0 I I133 := (fun b => zGo.wk (zGo.tr (hG127 b) (p135 b)) (by decide))
      have hRd139 : I133 (zq_r X h0 7) 3 = x102 := (p136 3 (by have := zq_cl (i := x130) (by omega); omega)).trans hRd128
      refine lv_if_eq (tgt := 93) hx hb dX12_isTownHere_66 (by decide) (fun b140 => ?_) (fun b140 => ?_)
      · have b140 := zi_eq b140 (rfl : x132.toInt = x132.toInt) (zl_0 : (0 : Int32).toInt = 0)
        refine lv_iconst (v := 0) hx hb dX12_isTownHere_93 (by decide +kernel) ?_
        subst hQ
        exact zq_zret E hr hZ hM hS (show 0 ≤ (0 : Int32).toInt ∧ (0 : Int32).toInt ≤ 1 by decide +kernel) ⟨hR, (hG138), (by have := zl_0; omega)⟩ hlocks dX12_isTownHere_94
      · have b140 := zi_ne b140 (rfl : x132.toInt = x132.toInt) (zl_0 : (0 : Int32).toInt = 0)
        refine lv_aload_n hx hb dX12_isTownHere_69 rfl (lv_at hl 2 rfl) ?_
        refine lv_iload_n hx hb dX12_isTownHere_70 rfl (lv_at hl 0 rfl) ?_
        refine lv_iconst (v := 0) hx hb dX12_isTownHere_71 (by decide +kernel) ?_
        refine lv_bipush (v := 99) hx hb dX12_isTownHere_72 (by decide +kernel) ?_
        refine zq_calli (zq_rV (As := [.int x119, .int (0 : Int32), .int (99 : Int32)]) (rest := []) E hZ hM k_h0 (c_X12_cellHere l X zk (zn) I133 L h0 k_h0 x119 (0 : Int32) (99 : Int32) ⟨by omega, by omega⟩ (by have := zl_0; have := zl_99; omega) ((hG138 true).2.2.2.1) (fun v h1 h2 => by
      have := zl_0; have := zl_99; have hc := zq_cl (i := x119) (by omega)
      rcases (show x119.toNatClampNeg = 73 ∨ x119.toNatClampNeg = 76 ∨ x119.toNatClampNeg = 79 ∨ x119.toNatClampNeg = 82 by omega) with q | q | q | q
      · rw [q]; rw [show zq_sd 0 73 = (0, 99) from rfl]; exact ⟨by show (0 : Int) ≤ v; omega, by show v ≤ (99 : Int); omega⟩
      · rw [q]; rw [show zq_sd 0 76 = (0, 99) from rfl]; exact ⟨by show (0 : Int) ≤ v; omega, by show v ≤ (99 : Int); omega⟩
      · rw [q]; rw [show zq_sd 0 79 = (0, 99) from rfl]; exact ⟨by show (0 : Int) ≤ v; omega, by show v ≤ (99 : Int); omega⟩
      · rw [q]; rw [show zq_sd 0 82 = (0, 99) from rfl]; exact ⟨by show (0 : Int) ≤ v; omega, by show v ≤ (99 : Int); omega⟩)) zmX12_214 zM_X12_cellHere (hro (2) 4 (by first | decide | omega) (by decide)) ⟨by decide, by decide⟩ rfl hl.1 rfl rfl (Nat.le_of_ble_eq_true rfl) dX12_isTownHere_74) hS (fun x142 I143 H locs h141 hM hS => ?_)
        obtain ⟨fr144, p145, p146, p147⟩ := h141
        have := zl_0
        have := zl_99
        have hR := zq_fr.call hR fr144 (zf_sub (by decide +kernel) (fun _ _ q => q.elim))
        have hG148 : ∀ b, zGo X h0 b 0 I I143 := (fun b => zGo.wk (zGo.tr (hG138 b) (p145 b)) (by decide))
        have hRd149 : I143 (zq_r X h0 7) 3 = x102 := (p146 3 (by have := zq_cl (i := x119) (by omega); omega)).trans hRd139
        refine lv_if_eq (tgt := 93) hx hb dX12_isTownHere_77 (by decide) (fun b150 => ?_) (fun b150 => ?_)
        · have b150 := zi_eq b150 (rfl : x142.toInt = x142.toInt) (zl_0 : (0 : Int32).toInt = 0)
          refine lv_iconst (v := 0) hx hb dX12_isTownHere_93 (by decide +kernel) ?_
          subst hQ
          exact zq_zret E hr hZ hM hS (show 0 ≤ (0 : Int32).toInt ∧ (0 : Int32).toInt ≤ 1 by decide +kernel) ⟨hR, (hG148), (by have := zl_0; omega)⟩ hlocks dX12_isTownHere_94
        · have b150 := zi_ne b150 (rfl : x142.toInt = x142.toInt) (zl_0 : (0 : Int32).toInt = 0)
          refine lv_aload_n hx hb dX12_isTownHere_80 rfl (lv_at hl 2 rfl) ?_
          refine lv_iload_n hx hb dX12_isTownHere_81 rfl (lv_at hl 0 rfl) ?_
          refine lv_iconst (v := 1) hx hb dX12_isTownHere_82 (by decide +kernel) ?_
          refine lv_iadd hx hb dX12_isTownHere_83 ?_
          refine lv_topi (fun x151 ex151 => ?_)
          have tx151 := zi_add ex151 (rfl : x119.toInt = x119.toInt) (zl_1 : (1 : Int32).toInt = 1) ⟨by omega, by omega⟩
          refine lv_iconst (v := 1) hx hb dX12_isTownHere_84 (by decide +kernel) ?_
          refine lv_bipush (v := 99) hx hb dX12_isTownHere_85 (by decide +kernel) ?_
          refine zq_calli (zq_rV (As := [.int x151, .int (1 : Int32), .int (99 : Int32)]) (rest := []) E hZ hM k_h0 (c_X12_cellHere l X zk (zn) I143 L h0 k_h0 x151 (1 : Int32) (99 : Int32) ⟨by omega, by omega⟩ (by have := zl_1; have := zl_99; omega) ((hG148 true).2.2.2.1) (fun v h1 h2 => by
      have := zl_1; have := zl_99; have hc := zq_cl (i := x151) (by omega)
      rcases (show x151.toNatClampNeg = 74 ∨ x151.toNatClampNeg = 77 ∨ x151.toNatClampNeg = 80 ∨ x151.toNatClampNeg = 83 by omega) with q | q | q | q
      · rw [q]; rw [show zq_sd 0 74 = (0, 99) from rfl]; exact ⟨by show (0 : Int) ≤ v; omega, by show v ≤ (99 : Int); omega⟩
      · rw [q]; rw [show zq_sd 0 77 = (0, 99) from rfl]; exact ⟨by show (0 : Int) ≤ v; omega, by show v ≤ (99 : Int); omega⟩
      · rw [q]; rw [show zq_sd 0 80 = (0, 99) from rfl]; exact ⟨by show (0 : Int) ≤ v; omega, by show v ≤ (99 : Int); omega⟩
      · rw [q]; rw [show zq_sd 0 83 = (0, 99) from rfl]; exact ⟨by show (0 : Int) ≤ v; omega, by show v ≤ (99 : Int); omega⟩)) zmX12_214 zM_X12_cellHere (hro (2) 4 (by first | decide | omega) (by decide)) ⟨by decide, by decide⟩ rfl hl.1 rfl rfl (Nat.le_of_ble_eq_true rfl) dX12_isTownHere_87) hS (fun x153 I154 H locs h152 hM hS => ?_)
          obtain ⟨fr155, p156, p157, p158⟩ := h152
          have := zl_1
          have := zl_99
          have hR := zq_fr.call hR fr155 (zf_sub (by decide +kernel) (fun _ _ q => q.elim))
          have hG159 : ∀ b, zGo X h0 b 0 I I154 := (fun b => zGo.wk (zGo.tr (hG148 b) (p156 b)) (by decide))
          have hRd160 : I154 (zq_r X h0 7) 3 = x102 := (p157 3 (by have := zq_cl (i := x151) (by omega); omega)).trans hRd149
          refine lv_if_ne (tgt := 95) hx hb dX12_isTownHere_90 (by decide) (fun b161 => ?_) (fun b161 => ?_)
          · have b161 := zi_ne b161 (rfl : x153.toInt = x153.toInt) (zl_0 : (0 : Int32).toInt = 0)
            refine lv_aload_n hx hb dX12_isTownHere_95 rfl (lv_at hl 2 rfl) ?_
            refine zq_getr E hM k_h0 (zFX12_26 E hZ) ⟨by decide, by decide, by decide, rfl⟩ dX12_isTownHere_96 ?_
            have k162 : zq_k X (zq_r X h0 7) = 55 := zq_lk L.1 k_h0 rfl (by decide)
            refine lv_iload_n hx hb dX12_isTownHere_99 rfl (lv_at hl 0 rfl) ?_
            refine lv_iconst (v := 2) hx hb dX12_isTownHere_100 (by decide +kernel) ?_
            refine lv_iadd hx hb dX12_isTownHere_101 ?_
            refine lv_topi (fun x163 ex163 => ?_)
            have tx163 := zi_add ex163 (rfl : x119.toInt = x119.toInt) (zl_2 : (2 : Int32).toInt = 2) ⟨by omega, by omega⟩
            refine lv_iconst (v := 0) hx hb dX12_isTownHere_102 (by decide +kernel) ?_
            have hclx163 := zq_cl (i := x163) (by omega)
            have hc165 : x163.toNatClampNeg = 75 ∨ x163.toNatClampNeg = 78 ∨ x163.toNatClampNeg = 81 ∨ x163.toNatClampNeg = 84 := by omega
            have hp166 : (zq_rg (zk, zn) 55 x163.toNatClampNeg).1 ≤ (0 : Int32).toInt ∧ (0 : Int32).toInt ≤ (zq_rg (zk, zn) 55 x163.toNatClampNeg).2 := by
              rcases hc165 with q9 | q9 | q9 | q9
              · rw [q9]; exact zq_any _
              · rw [q9]; exact zq_any _
              · rw [q9]; exact zq_any _
              · rw [q9]; exact zq_any _
            refine zq_isn (n := 85) (j := (x163.toNatClampNeg)) E hZ hM hS k162 ⟨by decide, rfl⟩ ⟨by omega, by omega⟩ rfl hp166 dX12_isTownHere_103 (fun I164 H locs eI164 hM hS => ?_)
            have hR := zq_fr.putE hR eI164 (zf_ia k162 (by decide) rfl)
            have hG167 : ∀ b, zGo X h0 b 0 I I164 := (fun b => zGo.wk (zGo.pt (hG159 b) L k_h0 eI164 k162 rfl) (by decide))
            have hRd168 : I164 (zq_r X h0 7) 3 = x102 := zq_kp eI164 (Or.inr (by have := zq_cl (i := x163) (by omega); omega)) hRd160
            refine lv_aload_n hx hb dX12_isTownHere_104 rfl (lv_at hl 2 rfl) ?_
            refine zq_getr E hM k_h0 (zFX12_26 E hZ) ⟨by decide, by decide, by decide, rfl⟩ dX12_isTownHere_105 ?_
            have k169 : zq_k X (zq_r X h0 7) = 55 := zq_lk L.1 k_h0 rfl (by decide)
            refine W.eq (g2 := F0 m 108 ls [.ref (zq_r X h0 7)]) rfl ?_
            refine lv_iconst (v := 3) hx hb dX12_isTownHere_108 (by decide +kernel) ?_
            refine lv_dup2_11 hx hb dX12_isTownHere_109 rfl rfl ?_
            refine zq_iald (n := 85) (j := 3) (v := x102) E hZ hM k169 ⟨by decide, rfl⟩ (by rw [zl_3]; decide) (by decide +kernel) hRd168 dX12_isTownHere_110 ?_
            refine lv_iconst (v := 1) hx hb dX12_isTownHere_111 (by decide +kernel) ?_
            refine lv_iadd hx hb dX12_isTownHere_112 ?_
            refine lv_topi (fun x171 ex171 => ?_)
            have tx171 := zi_add ex171 (rfl : x102.toInt = x102.toInt) (zl_1 : (1 : Int32).toInt = 1) ⟨by omega, by omega⟩
            refine zq_isn (n := 85) (j := 3) E hZ hM hS k169 ⟨by decide, rfl⟩ (by rw [zl_3]; decide) (by decide +kernel) (by exact (show 0 ≤ x171.toInt ∧ x171.toInt ≤ 4 from ⟨by omega, by omega⟩)) dX12_isTownHere_113 (fun I172 H locs eI172 hM hS => ?_)
            have hR := zq_fr.putE hR eI172 (zf_ia k169 (by decide) rfl)
            have hG173 : ∀ b, zGo X h0 b 0 I I172 := (fun b => zGo.wk (zGo.pt (hG167 b) L k_h0 eI172 k169 rfl) (by decide))
            refine lv_iconst (v := 1) hx hb dX12_isTownHere_114 (by decide +kernel) ?_
            subst hQ
            exact zq_zret E hr hZ hM hS (show 0 ≤ (1 : Int32).toInt ∧ (1 : Int32).toInt ≤ 1 by decide +kernel) ⟨hR, (hG173), (by have := zl_1; omega)⟩ hlocks dX12_isTownHere_115
          · have b161 := zi_eq b161 (rfl : x153.toInt = x153.toInt) (zl_0 : (0 : Int32).toInt = 0)
            refine lv_iconst (v := 0) hx hb dX12_isTownHere_93 (by decide +kernel) ?_
            subst hQ
            exact zq_zret E hr hZ hM hS (show 0 ≤ (0 : Int32).toInt ∧ (0 : Int32).toInt ≤ 1 by decide +kernel) ⟨hR, (hG159), (by have := zl_0; omega)⟩ hlocks dX12_isTownHere_94
  · have b103 := zi_eq b103 (rfl : x102.toInt = x102.toInt) (zl_4 : (4 : Int32).toInt = 4)
    refine lv_aload_n hx hb dX12_isTownHere_10 rfl (lv_at hl 0 rfl) ?_
    refine lv_iconst (v := 4) hx hb dX12_isTownHere_11 (by decide +kernel) ?_
    refine lv_iload_n hx hb dX12_isTownHere_12 rfl (lv_at hl 1 rfl) ?_
    refine zq_calli (zq_rV (As := [.int (4 : Int32), .int p1]) (rest := []) E hZ hM k_h0 (c_X12_fails l X zk (zn) I L h0 k_h0 (4 : Int32) p1 (by have := zl_4; have := zi_rng p1; omega)) zmX12_105 zM_X12_fails (hro (0) 3 (by first | decide | omega) (by decide)) ⟨by decide, by decide⟩ rfl hl.1 rfl rfl (Nat.le_of_ble_eq_true rfl) dX12_isTownHere_13) hS (fun x176 I177 H locs h175 hM hS => ?_)
    obtain ⟨fr178, p179, p180⟩ := h175
    have := zl_4
    have hR := zq_fr.call hR fr178 (zf_sub (by decide +kernel) (fun _ _ q => q.elim))
    have hG181 : ∀ b, zGo X h0 b 0 I I177 := (fun b => zGo.wk (zGo.fr (hG0 b) L k_h0 fr178 rfl rfl rfl) (by decide))
    subst hQ
    exact zq_zret E hr hZ hM hS (show 0 ≤ x176.toInt ∧ x176.toInt ≤ 1 from ⟨by omega, by omega⟩) ⟨hR, (hG181), (by omega)⟩ hlocks dX12_isTownHere_16
def zw_X12_isHouseHere : List (Nat × Nat) := [(10, 8), (10, 9), (10, 10), (55, 999)]
set_option maxHeartbeats 8000000 in
set_option maxRecDepth 100000 in
theorem c_X12_isHouseHere (l : Launch) (X : zq_X) (zk zn : Nat) (I : zq_M) (L : zq_L X)  (h0 : Nat) (k_h0 : zq_k X h0 = 10) (q_0 : zk ≤ 4400 ∧ zn ≤ 4400) (q_1 : (I h0 8).toInt ≤ (I h0 1).toInt) : Met l yX12_isHouseHere (zt_w yX12_isHouseHere cX12_isHouseHere 1 (some .boolean)) (zq_rm (2)) (va_Pc [.ref h0] (zq_W X (zk, zn) I)) (va_Qi (fun (r : Int32) I2 => zq_fr (zf X zw_X12_isHouseHere (fun _ => False)) I I2 ∧ (∀ b, zGo X h0 b 0 I I2) ∧ (0 ≤ r.toInt ∧ r.toInt ≤ 1)) (zq_E X (zk, zn)) (zq_A X)) 0 0 (zq_A X) := by
  refine Met.ofW (cc := cX12_isHouseHere) (maxL := 1) (ret := (some .boolean)) (by decide) rfl ?_
  intro p e s m args below meth c s₁ B hml hv
  obtain ⟨hargs, hM, hZ⟩ := hv
  have hown : s.vm.findClass RX12 = some m.cls := findClass_of_methodNamed B.named
  have hts := atoms_spec (ws := zt_w yX12_isHouseHere cX12_isHouseHere 1 (some .boolean)) B.pre
  have E : CallFix p m c cX12_isHouseHere 1 s args (Cond.code yX12_isHouseHere cX12_isHouseHere 1 (some .boolean) :: zt) RX12 := ⟨B.exec, B.bytes, hml, hown, hts⟩
  have hx := B.exec
  have hb := B.bytes
  have hr := B.returns
  have hlocks := B.notSynchronized
  clear B
  have hS : va_S (zq_A X) s.heap s.heap [] := va_S.rf
  have hR : zq_fr (zf X zw_X12_isHouseHere (fun _ => False)) I I := zq_fr.rf
  have hl := lv_entry ([.ref h0]) (n := 1) (by exact Nat.le_of_ble_eq_true rfl)
  have hg : entryFrame m args 1 = F0 m 0 ((lg_sl ([.ref h0]) ++ List.replicate (1 - (lg_sl ([.ref h0])).length) Slot.unset).toArray) [] := by rw [hargs]; exact lg_entry_eq m ([.ref h0]) 1
  rw [hg]
  clear hg hargs
  generalize (lg_sl ([.ref h0]) ++ List.replicate (1 - (lg_sl ([.ref h0])).length) Slot.unset).toArray = ls at hl ⊢
  have hl : lv_has ls 1 [(0, .ref h0)] := by exact hl
  obtain ⟨R, hRm⟩ : ∃ R : Room, R = (headSpec (zt_w yX12_isHouseHere cX12_isHouseHere 1 (some .boolean)) (zq_rm (2))).room := ⟨_, rfl⟩
  rw [← hRm]
  have hro : ∀ d q : Nat, d + 1 ≤ 2 → q ≤ 45 → zq_rok d q R := fun d q h1 h2 => by rw [hRm]; exact zq_rokI h1 h2
  generalize hQ : MQ below _ args s 0 0 (zq_A X) = Q
  obtain ⟨H, hH⟩ : ∃ H, H = s.heap := ⟨_, rfl⟩
  obtain ⟨locs, hlo⟩ : ∃ x : List Loc, x = [] := ⟨_, rfl⟩
  rw [show W p l e R s m args below meth c s.heap [] 0 0 Q = W p l e R s m args below meth c H locs 0 0 Q by rw [hH, hlo]]
  have hM : zq_hm X (zk, zn) I H := by rw [hH]; exact hM
  have hS : va_S (zq_A X) s.heap H locs := by rw [hH, hlo]; exact hS
  clear hH hlo
  have hG0 : ∀ b, zGo X h0 b 0 I I := fun b => zGo.rf q_1
  refine lv_aload_n hx hb dX12_isHouseHere_0 rfl (lv_at hl 0 rfl) ?_
  refine zq_callv (zq_rV (As := []) (rest := []) E hZ hM k_h0 (c_X12_passWord l X zk (zn) I L h0 k_h0 (by omega) ((hG0 true).2.2.2.1)) zmX12_99 zM_X12_passWord (hro (1) 1 (by first | decide | omega) (by decide)) ⟨by decide, by decide⟩ rfl hl.1 rfl rfl (Nat.le_of_ble_eq_true rfl) dX12_isHouseHere_1) hS (fun I103 H locs h101 hM hS => ?_)
  obtain ⟨fr104, p105, p106, p107⟩ := h101
  have hR := zq_fr.call hR fr104 (zf_sub (by decide +kernel) (fun _ _ q => q.elim))
  have hG108 : ∀ b, zGo X h0 b 0 I I103 := (fun b => zGo.wk (zGo.tr (hG0 b) (p105 b)) (by decide))
  refine lv_aload_n hx hb dX12_isHouseHere_4 rfl (lv_at hl 0 rfl) ?_
  refine lv_iconst (v := 0) hx hb dX12_isHouseHere_5 (by decide +kernel) ?_
  refine lv_aload_n hx hb dX12_isHouseHere_6 rfl (lv_at hl 0 rfl) ?_
  refine zq_getr E hM k_h0 (zFX12_26 E hZ) ⟨by decide, by decide, by decide, rfl⟩ dX12_isHouseHere_7 ?_
  have k109 : zq_k X (zq_r X h0 7) = 55 := zq_lk L.1 k_h0 rfl (by decide)
  refine lv_iconst (v := 3) hx hb dX12_isHouseHere_10 (by decide +kernel) ?_
  refine zq_ian (n := 85) (j := 3) E hZ hM k109 ⟨by decide, rfl⟩ (by rw [zl_3]; decide) (by decide +kernel) dX12_isHouseHere_11 (fun x110 ex110 gx110 => ?_)
  replace gx110 : 0 ≤ x110.toInt ∧ x110.toInt ≤ 4 := gx110
  refine lv_iconst (v := 1) hx hb dX12_isHouseHere_12 (by decide +kernel) ?_
  refine W.eq (g2 := F0 m 13 ls [.int (1 : Int32), .int x110, .int (0 : Int32), .ref h0]) rfl ?_
  refine lv_isub hx hb dX12_isHouseHere_13 ?_
  refine lv_topi (fun x111 ex111 => ?_)
  have tx111 := zi_sub ex111 (rfl : x110.toInt = x110.toInt) (zl_1 : (1 : Int32).toInt = 1) ⟨by omega, by omega⟩
  refine zq_calli (zq_rV (As := [.int (0 : Int32), .int x111]) (rest := []) E hZ hM k_h0 (c_X12_numberHere l X zk (zn) I103 L h0 k_h0 (0 : Int32) x111 (by have := zl_0; omega) ((hG108 true).2.2.2.1)) zmX12_163 zM_X12_numberHere (hro (1) 5 (by first | decide | omega) (by decide)) ⟨by decide, by decide⟩ rfl hl.1 rfl rfl (Nat.le_of_ble_eq_true rfl) dX12_isHouseHere_14) hS (fun x113 I114 H locs h112 hM hS => ?_)
  obtain ⟨fr115, p116, p117, p118⟩ := h112
  have := zl_0
  have hR := zq_fr.call hR fr115 (zf_sub (by decide +kernel) (fun _ _ q => q.elim))
  have hG119 : ∀ b, zGo X h0 b 0 I I114 := (fun b => zGo.wk (zGo.tr (hG108 b) (p116 b)) (by decide))
  refine lv_if_ne (tgt := 22) hx hb dX12_isHouseHere_17 (by decide) (fun b120 => ?_) (fun b120 => ?_)
  · have b120 := zi_ne b120 (rfl : x113.toInt = x113.toInt) (zl_0 : (0 : Int32).toInt = 0)
    have hG121 : ∀ b, zGo X h0 b 1 I I114 := (fun b => zGo.wk (zGo.tr (hG108 b) ((p117.resolve_left (by omega)).1 b)) (by decide))
    have hNb122 : 0 ≤ (I114 h0 10).toInt ∧ (I114 h0 10).toInt ≤ 3 := ⟨by have q := (p117.resolve_left (by omega)).2.1; have := zl_0; omega, by have q := (p117.resolve_left (by omega)).2.2; omega⟩
    refine lv_aload_n hx hb dX12_isHouseHere_22 rfl (lv_at hl 0 rfl) ?_
    refine zq_getr E hM k_h0 (zFX12_26 E hZ) ⟨by decide, by decide, by decide, rfl⟩ dX12_isHouseHere_23 ?_
    have k123 : zq_k X (zq_r X h0 7) = 55 := zq_lk L.1 k_h0 rfl (by decide)
    refine lv_bipush (v := 73) hx hb dX12_isHouseHere_26 (by decide +kernel) ?_
    refine lv_iconst (v := 3) hx hb dX12_isHouseHere_28 (by decide +kernel) ?_
    refine lv_aload_n hx hb dX12_isHouseHere_29 rfl (lv_at hl 0 rfl) ?_
    refine zq_gn E hM k_h0 (zFX12_109 E hZ) (Or.inl ⟨by decide, by decide, by decide, rfl⟩) dX12_isHouseHere_30 (fun x124 ex124 gx124 => ?_)
    clear gx124
    have fx124 : 0 ≤ x124.toInt ∧ x124.toInt ≤ 3 := by rw [← ex124]; exact hNb122
    refine lv_imul hx hb dX12_isHouseHere_33 ?_
    refine lv_topi (fun x125 ex125 => ?_)
    have tx125 := zi_mul ex125 (zl_3 : (3 : Int32).toInt = 3) (rfl : x124.toInt = x124.toInt) ⟨by omega, by omega⟩
    refine lv_iadd hx hb dX12_isHouseHere_34 ?_
    refine lv_topi (fun x126 ex126 => ?_)
    have tx126 := zi_add ex126 (zl_73 : (73 : Int32).toInt = 73) (rfl : x125.toInt = x125.toInt) ⟨by omega, by omega⟩
    refine lv_iconst (v := 2) hx hb dX12_isHouseHere_35 (by decide +kernel) ?_
    refine W.eq (g2 := F0 m 36 ls [.int (2 : Int32), .int x126, .ref (zq_r X h0 7)]) rfl ?_
    refine lv_iadd hx hb dX12_isHouseHere_36 ?_
    refine lv_topi (fun x127 ex127 => ?_)
    have tx127 := zi_add ex127 (rfl : x126.toInt = x126.toInt) (zl_2 : (2 : Int32).toInt = 2) ⟨by omega, by omega⟩
    refine lv_iconst (v := 1) hx hb dX12_isHouseHere_37 (by decide +kernel) ?_
    have hclx127 := zq_cl (i := x127) (by omega)
    have hc129 : x127.toNatClampNeg = 75 ∨ x127.toNatClampNeg = 78 ∨ x127.toNatClampNeg = 81 ∨ x127.toNatClampNeg = 84 := by omega
    have hp130 : (zq_rg (zk, zn) 55 x127.toNatClampNeg).1 ≤ (1 : Int32).toInt ∧ (1 : Int32).toInt ≤ (zq_rg (zk, zn) 55 x127.toNatClampNeg).2 := by
      rcases hc129 with q9 | q9 | q9 | q9
      · rw [q9]; exact zq_any _
      · rw [q9]; exact zq_any _
      · rw [q9]; exact zq_any _
      · rw [q9]; exact zq_any _
    refine zq_isn (n := 85) (j := (x127.toNatClampNeg)) E hZ hM hS k123 ⟨by decide, rfl⟩ ⟨by omega, by omega⟩ rfl hp130 dX12_isHouseHere_38 (fun I128 H locs eI128 hM hS => ?_)
    have hR := zq_fr.putE hR eI128 (zf_ia k123 (by decide) rfl)
    have hG131 : ∀ b, zGo X h0 b 1 I I128 := (fun b => zGo.wk (zGo.pt (hG121 b) L k_h0 eI128 k123 rfl) (by decide))
    have hK132 : 0 ≤ (I128 h0 10).toInt ∧ (I128 h0 10).toInt ≤ 3 := by rw [show I128 h0 10 = _ from (zq_kp eI128 (Or.inl (zq_kne k_h0 k123 (by decide))) rfl)]; exact hNb122
    refine lv_iconst (v := 1) hx hb dX12_isHouseHere_39 (by decide +kernel) ?_
    subst hQ
    exact zq_zret E hr hZ hM hS (show 0 ≤ (1 : Int32).toInt ∧ (1 : Int32).toInt ≤ 1 by decide +kernel) ⟨hR, ((fun b => zGo.wk (hG131 b) (by decide))), (by have := zl_1; omega)⟩ hlocks dX12_isHouseHere_40
  · have b120 := zi_eq b120 (rfl : x113.toInt = x113.toInt) (zl_0 : (0 : Int32).toInt = 0)
    refine lv_iconst (v := 0) hx hb dX12_isHouseHere_20 (by decide +kernel) ?_
    subst hQ
    exact zq_zret E hr hZ hM hS (show 0 ≤ (0 : Int32).toInt ∧ (0 : Int32).toInt ≤ 1 by decide +kernel) ⟨hR, (hG119), (by have := zl_0; omega)⟩ hlocks dX12_isHouseHere_21
def zw_X12_tradeLineHere : List (Nat × Nat) := [(10, 8), (10, 9), (10, 10), (55, 999)]
set_option maxHeartbeats 8000000 in
set_option maxRecDepth 100000 in
theorem c_X12_tradeLineHere (l : Launch) (X : zq_X) (zk zn : Nat) (I : zq_M) (L : zq_L X)  (h0 : Nat) (k_h0 : zq_k X h0 = 10) (p1 : Int32) (q_0 : zk ≤ 4400 ∧ zn ≤ 4400) (q_1 : (I h0 8).toInt ≤ (I h0 1).toInt) : Met l yX12_tradeLineHere (zt_w yX12_tradeLineHere cX12_tradeLineHere 2 (some .boolean)) (zq_rm (4)) (va_Pc [.ref h0, .int p1] (zq_W X (zk, zn) I)) (va_Qi (fun (r : Int32) I2 => zq_fr (zf X zw_X12_tradeLineHere (fun _ => False)) I I2 ∧ (∀ b, zGo X h0 b 0 I I2) ∧ (0 ≤ r.toInt ∧ r.toInt ≤ 1)) (zq_E X (zk, zn)) (zq_A X)) 0 0 (zq_A X) := by
  refine Met.ofW (cc := cX12_tradeLineHere) (maxL := 2) (ret := (some .boolean)) (by decide) rfl ?_
  intro p e s m args below meth c s₁ B hml hv
  obtain ⟨hargs, hM, hZ⟩ := hv
  have hown : s.vm.findClass RX12 = some m.cls := findClass_of_methodNamed B.named
  have hts := atoms_spec (ws := zt_w yX12_tradeLineHere cX12_tradeLineHere 2 (some .boolean)) B.pre
  have E : CallFix p m c cX12_tradeLineHere 2 s args (Cond.code yX12_tradeLineHere cX12_tradeLineHere 2 (some .boolean) :: zt) RX12 := ⟨B.exec, B.bytes, hml, hown, hts⟩
  have hx := B.exec
  have hb := B.bytes
  have hr := B.returns
  have hlocks := B.notSynchronized
  clear B
  have hS : va_S (zq_A X) s.heap s.heap [] := va_S.rf
  have hR : zq_fr (zf X zw_X12_tradeLineHere (fun _ => False)) I I := zq_fr.rf
  have hl := lv_entry ([.ref h0, .int p1]) (n := 2) (by exact Nat.le_of_ble_eq_true rfl)
  have hg : entryFrame m args 2 = F0 m 0 ((lg_sl ([.ref h0, .int p1]) ++ List.replicate (2 - (lg_sl ([.ref h0, .int p1])).length) Slot.unset).toArray) [] := by rw [hargs]; exact lg_entry_eq m ([.ref h0, .int p1]) 2
  rw [hg]
  clear hg hargs
  generalize (lg_sl ([.ref h0, .int p1]) ++ List.replicate (2 - (lg_sl ([.ref h0, .int p1])).length) Slot.unset).toArray = ls at hl ⊢
  have hl : lv_has ls 2 [(0, .ref h0), (1, .int p1)] := by exact hl
  obtain ⟨R, hRm⟩ : ∃ R : Room, R = (headSpec (zt_w yX12_tradeLineHere cX12_tradeLineHere 2 (some .boolean)) (zq_rm (4))).room := ⟨_, rfl⟩
  rw [← hRm]
  have hro : ∀ d q : Nat, d + 1 ≤ 4 → q ≤ 45 → zq_rok d q R := fun d q h1 h2 => by rw [hRm]; exact zq_rokI h1 h2
  generalize hQ : MQ below _ args s 0 0 (zq_A X) = Q
  obtain ⟨H, hH⟩ : ∃ H, H = s.heap := ⟨_, rfl⟩
  obtain ⟨locs, hlo⟩ : ∃ x : List Loc, x = [] := ⟨_, rfl⟩
  rw [show W p l e R s m args below meth c s.heap [] 0 0 Q = W p l e R s m args below meth c H locs 0 0 Q by rw [hH, hlo]]
  have hM : zq_hm X (zk, zn) I H := by rw [hH]; exact hM
  have hS : va_S (zq_A X) s.heap H locs := by rw [hH, hlo]; exact hS
  clear hH hlo
  have hG0 : ∀ b, zGo X h0 b 0 I I := fun b => zGo.rf q_1
  refine lv_aload_n hx hb dX12_tradeLineHere_0 rfl (lv_at hl 0 rfl) ?_
  refine W.ldc2 (v := 500135191653) hx hb hown (hts _ (List.mem_cons_of_mem _ zCX12_218)) rfl dX12_tradeLineHere_1 ?_
  refine W.eq (g2 := F0 m 4 ls [.long (500135191653 : Int64), .ref h0]) rfl ?_
  refine zq_calli (zq_rV (As := [.long (500135191653 : Int64)]) (rest := []) E hZ hM k_h0 (c_X12_isWord l X zk (zn) I L h0 k_h0 (500135191653 : Int64) (by have : (500135191653 : Int64).toInt = 500135191653 := (by decide +kernel); omega) ((hG0 true).2.2.2.1)) zmX12_95 zM_X12_isWord (hro (1) 6 (by first | decide | omega) (by decide)) ⟨by decide, by decide⟩ rfl hl.1 rfl rfl (Nat.le_of_ble_eq_true rfl) dX12_tradeLineHere_4) hS (fun x102 I103 H locs h101 hM hS => ?_)
  obtain ⟨fr104, p105, p106, p107, p108⟩ := h101
  have : (500135191653 : Int64).toInt = 500135191653 := by decide +kernel
  have hR := zq_fr.call hR fr104 (zf_sub (by decide +kernel) (fun _ _ q => q.elim))
  have hG109 : ∀ b, zGo X h0 b 0 I I103 := (fun b => zGo.wk (zGo.tr (hG0 b) (p105 b)) (by decide))
  refine lv_if_eq (tgt := 16) hx hb dX12_tradeLineHere_7 (by decide) (fun b110 => ?_) (fun b110 => ?_)
  · have b110 := zi_eq b110 (rfl : x102.toInt = x102.toInt) (zl_0 : (0 : Int32).toInt = 0)
    refine lv_aload_n hx hb dX12_tradeLineHere_16 rfl (lv_at hl 0 rfl) ?_
    refine zq_getr E hM k_h0 (zFX12_26 E hZ) ⟨by decide, by decide, by decide, rfl⟩ dX12_tradeLineHere_17 ?_
    have k111 : zq_k X (zq_r X h0 7) = 55 := zq_lk L.1 k_h0 rfl (by decide)
    refine lv_iconst (v := 0) hx hb dX12_tradeLineHere_20 (by decide +kernel) ?_
    refine zq_ian (n := 85) (j := 0) E hZ hM k111 ⟨by decide, rfl⟩ (by rw [zl_0]; decide) (by decide +kernel) dX12_tradeLineHere_21 (fun x112 ex112 gx112 => ?_)
    replace gx112 : 0 ≤ x112.toInt ∧ x112.toInt ≤ 1 := gx112
    refine lv_if_ne (tgt := 32) hx hb dX12_tradeLineHere_22 (by decide) (fun b113 => ?_) (fun b113 => ?_)
    · have b113 := zi_ne b113 (rfl : x112.toInt = x112.toInt) (zl_0 : (0 : Int32).toInt = 0)
      refine lv_aload_n hx hb dX12_tradeLineHere_32 rfl (lv_at hl 0 rfl) ?_
      refine W.ldc2 (v := 440006570868) hx hb hown (hts _ (List.mem_cons_of_mem _ zCX12_223)) rfl dX12_tradeLineHere_33 ?_
      refine W.eq (g2 := F0 m 36 ls [.long (440006570868 : Int64), .ref h0]) rfl ?_
      refine zq_calli (zq_rV (As := [.long (440006570868 : Int64)]) (rest := []) E hZ hM k_h0 (c_X12_isWord l X zk (zn) I103 L h0 k_h0 (440006570868 : Int64) (by have : (440006570868 : Int64).toInt = 440006570868 := (by decide +kernel); omega) ((hG109 true).2.2.2.1)) zmX12_95 zM_X12_isWord (hro (1) 6 (by first | decide | omega) (by decide)) ⟨by decide, by decide⟩ rfl hl.1 rfl rfl (Nat.le_of_ble_eq_true rfl) dX12_tradeLineHere_36) hS (fun x115 I116 H locs h114 hM hS => ?_)
      obtain ⟨fr117, p118, p119, p120, p121⟩ := h114
      have : (440006570868 : Int64).toInt = 440006570868 := by decide +kernel
      have hR := zq_fr.call hR fr117 (zf_sub (by decide +kernel) (fun _ _ q => q.elim))
      have hG122 : ∀ b, zGo X h0 b 0 I I116 := (fun b => zGo.wk (zGo.tr (hG109 b) (p118 b)) (by decide))
      have hW123 : x102.toInt = 0 ∨ zLt X I116 h0 := p107.imp id (fun q9 => zLt.sm q9 p119)
      refine lv_if_eq (tgt := 47) hx hb dX12_tradeLineHere_39 (by decide) (fun b125 => ?_) (fun b125 => ?_)
      · have b125 := zi_eq b125 (rfl : x115.toInt = x115.toInt) (zl_0 : (0 : Int32).toInt = 0)
        refine lv_aload_n hx hb dX12_tradeLineHere_47 rfl (lv_at hl 0 rfl) ?_
        refine W.ldc2 (v := 1936222576) hx hb hown (hts _ (List.mem_cons_of_mem _ zCX12_116)) rfl dX12_tradeLineHere_48 ?_
        refine W.eq (g2 := F0 m 51 ls [.long (1936222576 : Int64), .ref h0]) rfl ?_
        refine zq_calli (zq_rV (As := [.long (1936222576 : Int64)]) (rest := []) E hZ hM k_h0 (c_X12_isWord l X zk (zn) I116 L h0 k_h0 (1936222576 : Int64) (by have : (1936222576 : Int64).toInt = 1936222576 := (by decide +kernel); omega) ((hG122 true).2.2.2.1)) zmX12_95 zM_X12_isWord (hro (1) 6 (by first | decide | omega) (by decide)) ⟨by decide, by decide⟩ rfl hl.1 rfl rfl (Nat.le_of_ble_eq_true rfl) dX12_tradeLineHere_51) hS (fun x127 I128 H locs h126 hM hS => ?_)
        obtain ⟨fr129, p130, p131, p132, p133⟩ := h126
        have : (1936222576 : Int64).toInt = 1936222576 := by decide +kernel
        have hR := zq_fr.call hR fr129 (zf_sub (by decide +kernel) (fun _ _ q => q.elim))
        have hG134 : ∀ b, zGo X h0 b 0 I I128 := (fun b => zGo.wk (zGo.tr (hG122 b) (p130 b)) (by decide))
        have hW135 : x115.toInt = 0 ∨ zLt X I128 h0 := p120.imp id (fun q9 => zLt.sm q9 p131)
        refine lv_if_eq (tgt := 63) hx hb dX12_tradeLineHere_54 (by decide) (fun b137 => ?_) (fun b137 => ?_)
        · have b137 := zi_eq b137 (rfl : x127.toInt = x127.toInt) (zl_0 : (0 : Int32).toInt = 0)
          refine lv_aload_n hx hb dX12_tradeLineHere_63 rfl (lv_at hl 0 rfl) ?_
          refine W.ldc2 (v := 1953462126) hx hb hown (hts _ (List.mem_cons_of_mem _ zCX12_118)) rfl dX12_tradeLineHere_64 ?_
          refine W.eq (g2 := F0 m 67 ls [.long (1953462126 : Int64), .ref h0]) rfl ?_
          refine zq_calli (zq_rV (As := [.long (1953462126 : Int64)]) (rest := []) E hZ hM k_h0 (c_X12_isWord l X zk (zn) I128 L h0 k_h0 (1953462126 : Int64) (by have : (1953462126 : Int64).toInt = 1953462126 := (by decide +kernel); omega) ((hG134 true).2.2.2.1)) zmX12_95 zM_X12_isWord (hro (1) 6 (by first | decide | omega) (by decide)) ⟨by decide, by decide⟩ rfl hl.1 rfl rfl (Nat.le_of_ble_eq_true rfl) dX12_tradeLineHere_67) hS (fun x139 I140 H locs h138 hM hS => ?_)
          obtain ⟨fr141, p142, p143, p144, p145⟩ := h138
          have : (1953462126 : Int64).toInt = 1953462126 := by decide +kernel
          have hR := zq_fr.call hR fr141 (zf_sub (by decide +kernel) (fun _ _ q => q.elim))
          have hG146 : ∀ b, zGo X h0 b 0 I I140 := (fun b => zGo.wk (zGo.tr (hG134 b) (p142 b)) (by decide))
          have hW147 : x127.toInt = 0 ∨ zLt X I140 h0 := p132.imp id (fun q9 => zLt.sm q9 p143)
          refine lv_if_eq (tgt := 81) hx hb dX12_tradeLineHere_70 (by decide) (fun b149 => ?_) (fun b149 => ?_)
          · have b149 := zi_eq b149 (rfl : x139.toInt = x139.toInt) (zl_0 : (0 : Int32).toInt = 0)
            refine lv_aload_n hx hb dX12_tradeLineHere_81 rfl (lv_at hl 0 rfl) ?_
            refine zq_calli (zq_rV (As := []) (rest := []) E hZ hM k_h0 (c_X12_isHouseHere l X zk (zn) I140 L h0 k_h0 (by omega) ((hG146 true).2.2.2.1)) zmX12_234 zM_X12_isHouseHere (hro (2) 1 (by first | decide | omega) (by decide)) ⟨by decide, by decide⟩ rfl hl.1 rfl rfl (Nat.le_of_ble_eq_true rfl) dX12_tradeLineHere_82) hS (fun x151 I152 H locs h150 hM hS => ?_)
            obtain ⟨fr153, p154, p155⟩ := h150
            have hR := zq_fr.call hR fr153 (zf_sub (by decide +kernel) (fun _ _ q => q.elim))
            have hG156 : ∀ b, zGo X h0 b 0 I I152 := (fun b => zGo.wk (zGo.tr (hG146 b) (p154 b)) (by decide))
            subst hQ
            exact zq_zret E hr hZ hM hS (show 0 ≤ x151.toInt ∧ x151.toInt ≤ 1 from ⟨by omega, by omega⟩) ⟨hR, (hG156), (by omega)⟩ hlocks dX12_tradeLineHere_85
          · have b149 := zi_ne b149 (rfl : x139.toInt = x139.toInt) (zl_0 : (0 : Int32).toInt = 0)
            refine lv_aload_n hx hb dX12_tradeLineHere_73 rfl (lv_at hl 0 rfl) ?_
            refine lv_iload_n hx hb dX12_tradeLineHere_74 rfl (lv_at hl 1 rfl) ?_
            refine zq_calli (zq_rV (As := [.int p1]) (rest := []) E hZ hM k_h0 (c_X12_isTownHere l X zk (zn) I140 L h0 k_h0 p1 (by have := zi_rng p1; omega) ((hG146 true).2.2.2.1)) zmX12_231 zM_X12_isTownHere (hro (3) 4 (by first | decide | omega) (by decide)) ⟨by decide, by decide⟩ rfl hl.1 rfl rfl (Nat.le_of_ble_eq_true rfl) dX12_tradeLineHere_75) hS (fun x160 I161 H locs h159 hM hS => ?_)
            obtain ⟨fr162, p163, p164⟩ := h159
            have hR := zq_fr.call hR fr162 (zf_sub (by decide +kernel) (fun _ _ q => q.elim))
            have hG165 : ∀ b, zGo X h0 b 0 I I161 := (fun b => zGo.wk (zGo.tr (hG146 b) (p163 b)) (by decide))
            refine lv_goto (tgt := 85) hx hb dX12_tradeLineHere_78 (by decide) ?_
            subst hQ
            exact zq_zret E hr hZ hM hS (show 0 ≤ x160.toInt ∧ x160.toInt ≤ 1 from ⟨by omega, by omega⟩) ⟨hR, (hG165), (by omega)⟩ hlocks dX12_tradeLineHere_85
        · have b137 := zi_ne b137 (rfl : x127.toInt = x127.toInt) (zl_0 : (0 : Int32).toInt = 0)
          refine lv_aload_n hx hb dX12_tradeLineHere_57 rfl (lv_at hl 0 rfl) ?_
          refine lv_iload_n hx hb dX12_tradeLineHere_58 rfl (lv_at hl 1 rfl) ?_
          refine zq_calli (zq_rV (As := [.int p1]) (rest := []) E hZ hM k_h0 (c_X12_isShipHere l X zk (zn) I128 L h0 k_h0 p1 (by have := zi_rng p1; omega) ((hG134 true).2.2.2.1)) zmX12_228 zM_X12_isShipHere (hro (3) 3 (by first | decide | omega) (by decide)) ⟨by decide, by decide⟩ rfl hl.1 rfl rfl (Nat.le_of_ble_eq_true rfl) dX12_tradeLineHere_59) hS (fun x169 I170 H locs h168 hM hS => ?_)
          obtain ⟨fr171, p172, p173⟩ := h168
          have hR := zq_fr.call hR fr171 (zf_sub (by decide +kernel) (fun _ _ q => q.elim))
          have hG174 : ∀ b, zGo X h0 b 0 I I170 := (fun b => zGo.wk (zGo.tr (hG134 b) (p172 b)) (by decide))
          subst hQ
          exact zq_zret E hr hZ hM hS (show 0 ≤ x169.toInt ∧ x169.toInt ≤ 1 from ⟨by omega, by omega⟩) ⟨hR, (hG174), (by omega)⟩ hlocks dX12_tradeLineHere_62
      · have b125 := zi_ne b125 (rfl : x115.toInt = x115.toInt) (zl_0 : (0 : Int32).toInt = 0)
        refine lv_aload_n hx hb dX12_tradeLineHere_42 rfl (lv_at hl 0 rfl) ?_
        refine zq_calli (zq_rV (As := []) (rest := []) E hZ hM k_h0 (c_X12_isFrostHere l X zk (zn) I116 L h0 k_h0 (by omega) ((hG122 true).2.2.2.1)) zmX12_225 zM_X12_isFrostHere (hro (3) 1 (by first | decide | omega) (by decide)) ⟨by decide, by decide⟩ rfl hl.1 rfl rfl (Nat.le_of_ble_eq_true rfl) dX12_tradeLineHere_43) hS (fun x178 I179 H locs h177 hM hS => ?_)
        obtain ⟨fr180, p181, p182⟩ := h177
        have hR := zq_fr.call hR fr180 (zf_sub (by decide +kernel) (fun _ _ q => q.elim))
        have hG183 : ∀ b, zGo X h0 b 0 I I179 := (fun b => zGo.wk (zGo.tr (hG122 b) (p181 b)) (by decide))
        subst hQ
        exact zq_zret E hr hZ hM hS (show 0 ≤ x178.toInt ∧ x178.toInt ≤ 1 from ⟨by omega, by omega⟩) ⟨hR, (hG183), (by omega)⟩ hlocks dX12_tradeLineHere_46
    · have b113 := zi_eq b113 (rfl : x112.toInt = x112.toInt) (zl_0 : (0 : Int32).toInt = 0)
      refine lv_aload_n hx hb dX12_tradeLineHere_25 rfl (lv_at hl 0 rfl) ?_
      refine lv_iconst (v := 4) hx hb dX12_tradeLineHere_26 (by decide +kernel) ?_
      refine lv_iload_n hx hb dX12_tradeLineHere_27 rfl (lv_at hl 1 rfl) ?_
      refine zq_calli (zq_rV (As := [.int (4 : Int32), .int p1]) (rest := []) E hZ hM k_h0 (c_X12_fails l X zk (zn) I103 L h0 k_h0 (4 : Int32) p1 (by have := zl_4; have := zi_rng p1; omega)) zmX12_105 zM_X12_fails (hro (0) 3 (by first | decide | omega) (by decide)) ⟨by decide, by decide⟩ rfl hl.1 rfl rfl (Nat.le_of_ble_eq_true rfl) dX12_tradeLineHere_28) hS (fun x187 I188 H locs h186 hM hS => ?_)
      obtain ⟨fr189, p190, p191⟩ := h186
      have := zl_4
      have hR := zq_fr.call hR fr189 (zf_sub (by decide +kernel) (fun _ _ q => q.elim))
      have hG192 : ∀ b, zGo X h0 b 0 I I188 := (fun b => zGo.wk (zGo.fr (hG109 b) L k_h0 fr189 rfl rfl rfl) (by decide))
      have hW193 : x102.toInt = 0 ∨ zLt X I188 h0 := p107.imp id (fun q9 => zLt.sm q9 (fun _ => ⟨zfr_o k_h0 fr189 rfl, zfr_o k_h0 fr189 rfl, zfr_s L k_h0 fr189 rfl (by decide) rfl⟩))
      subst hQ
      exact zq_zret E hr hZ hM hS (show 0 ≤ x187.toInt ∧ x187.toInt ≤ 1 from ⟨by omega, by omega⟩) ⟨hR, (hG192), (by omega)⟩ hlocks dX12_tradeLineHere_31
  · have b110 := zi_ne b110 (rfl : x102.toInt = x102.toInt) (zl_0 : (0 : Int32).toInt = 0)
    refine lv_aload_n hx hb dX12_tradeLineHere_10 rfl (lv_at hl 0 rfl) ?_
    refine lv_iload_n hx hb dX12_tradeLineHere_11 rfl (lv_at hl 1 rfl) ?_
    refine zq_calli (zq_rV (As := [.int p1]) (rest := []) E hZ hM k_h0 (c_X12_isTradeHere l X zk (zn) I103 L h0 k_h0 p1 (by have := zi_rng p1; omega) ((hG109 true).2.2.2.1)) zmX12_220 zM_X12_isTradeHere (hro (3) 2 (by first | decide | omega) (by decide)) ⟨by decide, by decide⟩ rfl hl.1 rfl rfl (Nat.le_of_ble_eq_true rfl) dX12_tradeLineHere_12) hS (fun x196 I197 H locs h195 hM hS => ?_)
    obtain ⟨fr198, p199, p200⟩ := h195
    have hR := zq_fr.call hR fr198 (zf_sub (by decide +kernel) (fun _ _ q => q.elim))
    have hG201 : ∀ b, zGo X h0 b 0 I I197 := (fun b => zGo.wk (zGo.tr (hG109 b) (p199 b)) (by decide))
    subst hQ
    exact zq_zret E hr hZ hM hS (show 0 ≤ x196.toInt ∧ x196.toInt ≤ 1 from ⟨by omega, by omega⟩) ⟨hR, (hG201), (by omega)⟩ hlocks dX12_tradeLineHere_15
def zw_X12_isTradeWord : List (Nat × Nat) := [(10, 8)]
set_option maxHeartbeats 8000000 in
set_option maxRecDepth 100000 in
theorem c_X12_isTradeWord (l : Launch) (X : zq_X) (zk zn : Nat) (I : zq_M) (L : zq_L X)  (h0 : Nat) (k_h0 : zq_k X h0 = 10) (q_0 : zk ≤ 4400 ∧ zn ≤ 4400) (q_1 : (I h0 8).toInt ≤ (I h0 1).toInt) : Met l yX12_isTradeWord (zt_w yX12_isTradeWord cX12_isTradeWord 1 (some .boolean)) (zq_rm (2)) (va_Pc [.ref h0] (zq_W X (zk, zn) I)) (va_Qi (fun (r : Int32) I2 => zq_fr (zf X zw_X12_isTradeWord (fun _ => False)) I I2 ∧ (∀ b, zGo X h0 b 0 I I2) ∧ (0 ≤ r.toInt ∧ r.toInt ≤ 1)) (zq_E X (zk, zn)) (zq_A X)) 0 0 (zq_A X) := by
  refine Met.ofW (cc := cX12_isTradeWord) (maxL := 1) (ret := (some .boolean)) (by decide) rfl ?_
  intro p e s m args below meth c s₁ B hml hv
  obtain ⟨hargs, hM, hZ⟩ := hv
  have hown : s.vm.findClass RX12 = some m.cls := findClass_of_methodNamed B.named
  have hts := atoms_spec (ws := zt_w yX12_isTradeWord cX12_isTradeWord 1 (some .boolean)) B.pre
  have E : CallFix p m c cX12_isTradeWord 1 s args (Cond.code yX12_isTradeWord cX12_isTradeWord 1 (some .boolean) :: zt) RX12 := ⟨B.exec, B.bytes, hml, hown, hts⟩
  have hx := B.exec
  have hb := B.bytes
  have hr := B.returns
  have hlocks := B.notSynchronized
  clear B
  have hS : va_S (zq_A X) s.heap s.heap [] := va_S.rf
  have hR : zq_fr (zf X zw_X12_isTradeWord (fun _ => False)) I I := zq_fr.rf
  have hl := lv_entry ([.ref h0]) (n := 1) (by exact Nat.le_of_ble_eq_true rfl)
  have hg : entryFrame m args 1 = F0 m 0 ((lg_sl ([.ref h0]) ++ List.replicate (1 - (lg_sl ([.ref h0])).length) Slot.unset).toArray) [] := by rw [hargs]; exact lg_entry_eq m ([.ref h0]) 1
  rw [hg]
  clear hg hargs
  generalize (lg_sl ([.ref h0]) ++ List.replicate (1 - (lg_sl ([.ref h0])).length) Slot.unset).toArray = ls at hl ⊢
  have hl : lv_has ls 1 [(0, .ref h0)] := by exact hl
  obtain ⟨R, hRm⟩ : ∃ R : Room, R = (headSpec (zt_w yX12_isTradeWord cX12_isTradeWord 1 (some .boolean)) (zq_rm (2))).room := ⟨_, rfl⟩
  rw [← hRm]
  have hro : ∀ d q : Nat, d + 1 ≤ 2 → q ≤ 45 → zq_rok d q R := fun d q h1 h2 => by rw [hRm]; exact zq_rokI h1 h2
  generalize hQ : MQ below _ args s 0 0 (zq_A X) = Q
  obtain ⟨H, hH⟩ : ∃ H, H = s.heap := ⟨_, rfl⟩
  obtain ⟨locs, hlo⟩ : ∃ x : List Loc, x = [] := ⟨_, rfl⟩
  rw [show W p l e R s m args below meth c s.heap [] 0 0 Q = W p l e R s m args below meth c H locs 0 0 Q by rw [hH, hlo]]
  have hM : zq_hm X (zk, zn) I H := by rw [hH]; exact hM
  have hS : va_S (zq_A X) s.heap H locs := by rw [hH, hlo]; exact hS
  clear hH hlo
  have hG0 : ∀ b, zGo X h0 b 0 I I := fun b => zGo.rf q_1
  refine lv_aload_n hx hb dX12_isTradeWord_0 rfl (lv_at hl 0 rfl) ?_
  refine W.ldc2 (v := 500135191653) hx hb hown (hts _ (List.mem_cons_of_mem _ zCX12_218)) rfl dX12_isTradeWord_1 ?_
  refine W.eq (g2 := F0 m 4 ls [.long (500135191653 : Int64), .ref h0]) rfl ?_
  refine zq_calli (zq_rV (As := [.long (500135191653 : Int64)]) (rest := []) E hZ hM k_h0 (c_X12_isWord l X zk (zn) I L h0 k_h0 (500135191653 : Int64) (by have : (500135191653 : Int64).toInt = 500135191653 := (by decide +kernel); omega) ((hG0 true).2.2.2.1)) zmX12_95 zM_X12_isWord (hro (1) 6 (by first | decide | omega) (by decide)) ⟨by decide, by decide⟩ rfl hl.1 rfl rfl (Nat.le_of_ble_eq_true rfl) dX12_isTradeWord_4) hS (fun x102 I103 H locs h101 hM hS => ?_)
  obtain ⟨fr104, p105, p106, p107, p108⟩ := h101
  have : (500135191653 : Int64).toInt = 500135191653 := by decide +kernel
  have hR := zq_fr.call hR fr104 (zf_sub (by decide +kernel) (fun _ _ q => q.elim))
  have hG109 : ∀ b, zGo X h0 b 0 I I103 := (fun b => zGo.wk (zGo.tr (hG0 b) (p105 b)) (by decide))
  refine lv_if_ne (tgt := 50) hx hb dX12_isTradeWord_7 (by decide) (fun b110 => ?_) (fun b110 => ?_)
  · have b110 := zi_ne b110 (rfl : x102.toInt = x102.toInt) (zl_0 : (0 : Int32).toInt = 0)
    refine lv_iconst (v := 1) hx hb dX12_isTradeWord_50 (by decide +kernel) ?_
    refine lv_goto (tgt := 55) hx hb dX12_isTradeWord_51 (by decide) ?_
    subst hQ
    exact zq_zret E hr hZ hM hS (show 0 ≤ (1 : Int32).toInt ∧ (1 : Int32).toInt ≤ 1 by decide +kernel) ⟨hR, (hG109), (by have := zl_1; omega)⟩ hlocks dX12_isTradeWord_55
  · have b110 := zi_eq b110 (rfl : x102.toInt = x102.toInt) (zl_0 : (0 : Int32).toInt = 0)
    refine lv_aload_n hx hb dX12_isTradeWord_10 rfl (lv_at hl 0 rfl) ?_
    refine W.ldc2 (v := 440006570868) hx hb hown (hts _ (List.mem_cons_of_mem _ zCX12_223)) rfl dX12_isTradeWord_11 ?_
    refine W.eq (g2 := F0 m 14 ls [.long (440006570868 : Int64), .ref h0]) rfl ?_
    refine zq_calli (zq_rV (As := [.long (440006570868 : Int64)]) (rest := []) E hZ hM k_h0 (c_X12_isWord l X zk (zn) I103 L h0 k_h0 (440006570868 : Int64) (by have : (440006570868 : Int64).toInt = 440006570868 := (by decide +kernel); omega) ((hG109 true).2.2.2.1)) zmX12_95 zM_X12_isWord (hro (1) 6 (by first | decide | omega) (by decide)) ⟨by decide, by decide⟩ rfl hl.1 rfl rfl (Nat.le_of_ble_eq_true rfl) dX12_isTradeWord_14) hS (fun x112 I113 H locs h111 hM hS => ?_)
    obtain ⟨fr114, p115, p116, p117, p118⟩ := h111
    have : (440006570868 : Int64).toInt = 440006570868 := by decide +kernel
    have hR := zq_fr.call hR fr114 (zf_sub (by decide +kernel) (fun _ _ q => q.elim))
    have hG119 : ∀ b, zGo X h0 b 0 I I113 := (fun b => zGo.wk (zGo.tr (hG109 b) (p115 b)) (by decide))
    have hW120 : x102.toInt = 0 ∨ zLt X I113 h0 := p107.imp id (fun q9 => zLt.sm q9 p116)
    refine lv_if_ne (tgt := 50) hx hb dX12_isTradeWord_17 (by decide) (fun b122 => ?_) (fun b122 => ?_)
    · have b122 := zi_ne b122 (rfl : x112.toInt = x112.toInt) (zl_0 : (0 : Int32).toInt = 0)
      refine lv_iconst (v := 1) hx hb dX12_isTradeWord_50 (by decide +kernel) ?_
      refine lv_goto (tgt := 55) hx hb dX12_isTradeWord_51 (by decide) ?_
      subst hQ
      exact zq_zret E hr hZ hM hS (show 0 ≤ (1 : Int32).toInt ∧ (1 : Int32).toInt ≤ 1 by decide +kernel) ⟨hR, (hG119), (by have := zl_1; omega)⟩ hlocks dX12_isTradeWord_55
    · have b122 := zi_eq b122 (rfl : x112.toInt = x112.toInt) (zl_0 : (0 : Int32).toInt = 0)
      refine lv_aload_n hx hb dX12_isTradeWord_20 rfl (lv_at hl 0 rfl) ?_
      refine W.ldc2 (v := 1936222576) hx hb hown (hts _ (List.mem_cons_of_mem _ zCX12_116)) rfl dX12_isTradeWord_21 ?_
      refine W.eq (g2 := F0 m 24 ls [.long (1936222576 : Int64), .ref h0]) rfl ?_
      refine zq_calli (zq_rV (As := [.long (1936222576 : Int64)]) (rest := []) E hZ hM k_h0 (c_X12_isWord l X zk (zn) I113 L h0 k_h0 (1936222576 : Int64) (by have : (1936222576 : Int64).toInt = 1936222576 := (by decide +kernel); omega) ((hG119 true).2.2.2.1)) zmX12_95 zM_X12_isWord (hro (1) 6 (by first | decide | omega) (by decide)) ⟨by decide, by decide⟩ rfl hl.1 rfl rfl (Nat.le_of_ble_eq_true rfl) dX12_isTradeWord_24) hS (fun x124 I125 H locs h123 hM hS => ?_)
      obtain ⟨fr126, p127, p128, p129, p130⟩ := h123
      have : (1936222576 : Int64).toInt = 1936222576 := by decide +kernel
      have hR := zq_fr.call hR fr126 (zf_sub (by decide +kernel) (fun _ _ q => q.elim))
      have hG131 : ∀ b, zGo X h0 b 0 I I125 := (fun b => zGo.wk (zGo.tr (hG119 b) (p127 b)) (by decide))
      have hW132 : x112.toInt = 0 ∨ zLt X I125 h0 := p117.imp id (fun q9 => zLt.sm q9 p128)
      refine lv_if_ne (tgt := 50) hx hb dX12_isTradeWord_27 (by decide) (fun b134 => ?_) (fun b134 => ?_)
      · have b134 := zi_ne b134 (rfl : x124.toInt = x124.toInt) (zl_0 : (0 : Int32).toInt = 0)
        refine lv_iconst (v := 1) hx hb dX12_isTradeWord_50 (by decide +kernel) ?_
        refine lv_goto (tgt := 55) hx hb dX12_isTradeWord_51 (by decide) ?_
        subst hQ
        exact zq_zret E hr hZ hM hS (show 0 ≤ (1 : Int32).toInt ∧ (1 : Int32).toInt ≤ 1 by decide +kernel) ⟨hR, (hG131), (by have := zl_1; omega)⟩ hlocks dX12_isTradeWord_55
      · have b134 := zi_eq b134 (rfl : x124.toInt = x124.toInt) (zl_0 : (0 : Int32).toInt = 0)
        refine lv_aload_n hx hb dX12_isTradeWord_30 rfl (lv_at hl 0 rfl) ?_
        refine W.ldc2 (v := 1953462126) hx hb hown (hts _ (List.mem_cons_of_mem _ zCX12_118)) rfl dX12_isTradeWord_31 ?_
        refine W.eq (g2 := F0 m 34 ls [.long (1953462126 : Int64), .ref h0]) rfl ?_
        refine zq_calli (zq_rV (As := [.long (1953462126 : Int64)]) (rest := []) E hZ hM k_h0 (c_X12_isWord l X zk (zn) I125 L h0 k_h0 (1953462126 : Int64) (by have : (1953462126 : Int64).toInt = 1953462126 := (by decide +kernel); omega) ((hG131 true).2.2.2.1)) zmX12_95 zM_X12_isWord (hro (1) 6 (by first | decide | omega) (by decide)) ⟨by decide, by decide⟩ rfl hl.1 rfl rfl (Nat.le_of_ble_eq_true rfl) dX12_isTradeWord_34) hS (fun x136 I137 H locs h135 hM hS => ?_)
        obtain ⟨fr138, p139, p140, p141, p142⟩ := h135
        have : (1953462126 : Int64).toInt = 1953462126 := by decide +kernel
        have hR := zq_fr.call hR fr138 (zf_sub (by decide +kernel) (fun _ _ q => q.elim))
        have hG143 : ∀ b, zGo X h0 b 0 I I137 := (fun b => zGo.wk (zGo.tr (hG131 b) (p139 b)) (by decide))
        have hW144 : x124.toInt = 0 ∨ zLt X I137 h0 := p129.imp id (fun q9 => zLt.sm q9 p140)
        refine lv_if_ne (tgt := 50) hx hb dX12_isTradeWord_37 (by decide) (fun b146 => ?_) (fun b146 => ?_)
        · have b146 := zi_ne b146 (rfl : x136.toInt = x136.toInt) (zl_0 : (0 : Int32).toInt = 0)
          refine lv_iconst (v := 1) hx hb dX12_isTradeWord_50 (by decide +kernel) ?_
          refine lv_goto (tgt := 55) hx hb dX12_isTradeWord_51 (by decide) ?_
          subst hQ
          exact zq_zret E hr hZ hM hS (show 0 ≤ (1 : Int32).toInt ∧ (1 : Int32).toInt ≤ 1 by decide +kernel) ⟨hR, (hG143), (by have := zl_1; omega)⟩ hlocks dX12_isTradeWord_55
        · have b146 := zi_eq b146 (rfl : x136.toInt = x136.toInt) (zl_0 : (0 : Int32).toInt = 0)
          refine lv_aload_n hx hb dX12_isTradeWord_40 rfl (lv_at hl 0 rfl) ?_
          refine W.ldc2 (v := 448546567013) hx hb hown (hts _ (List.mem_cons_of_mem _ zCX12_140)) rfl dX12_isTradeWord_41 ?_
          refine W.eq (g2 := F0 m 44 ls [.long (448546567013 : Int64), .ref h0]) rfl ?_
          refine zq_calli (zq_rV (As := [.long (448546567013 : Int64)]) (rest := []) E hZ hM k_h0 (c_X12_isWord l X zk (zn) I137 L h0 k_h0 (448546567013 : Int64) (by have : (448546567013 : Int64).toInt = 448546567013 := (by decide +kernel); omega) ((hG143 true).2.2.2.1)) zmX12_95 zM_X12_isWord (hro (1) 6 (by first | decide | omega) (by decide)) ⟨by decide, by decide⟩ rfl hl.1 rfl rfl (Nat.le_of_ble_eq_true rfl) dX12_isTradeWord_44) hS (fun x148 I149 H locs h147 hM hS => ?_)
          obtain ⟨fr150, p151, p152, p153, p154⟩ := h147
          have : (448546567013 : Int64).toInt = 448546567013 := by decide +kernel
          have hR := zq_fr.call hR fr150 (zf_sub (by decide +kernel) (fun _ _ q => q.elim))
          have hG155 : ∀ b, zGo X h0 b 0 I I149 := (fun b => zGo.wk (zGo.tr (hG143 b) (p151 b)) (by decide))
          have hW156 : x136.toInt = 0 ∨ zLt X I149 h0 := p141.imp id (fun q9 => zLt.sm q9 p152)
          refine lv_if_eq (tgt := 54) hx hb dX12_isTradeWord_47 (by decide) (fun b158 => ?_) (fun b158 => ?_)
          · have b158 := zi_eq b158 (rfl : x148.toInt = x148.toInt) (zl_0 : (0 : Int32).toInt = 0)
            refine lv_iconst (v := 0) hx hb dX12_isTradeWord_54 (by decide +kernel) ?_
            subst hQ
            exact zq_zret E hr hZ hM hS (show 0 ≤ (0 : Int32).toInt ∧ (0 : Int32).toInt ≤ 1 by decide +kernel) ⟨hR, (hG155), (by have := zl_0; omega)⟩ hlocks dX12_isTradeWord_55
          · have b158 := zi_ne b158 (rfl : x148.toInt = x148.toInt) (zl_0 : (0 : Int32).toInt = 0)
            refine lv_iconst (v := 1) hx hb dX12_isTradeWord_50 (by decide +kernel) ?_
            refine lv_goto (tgt := 55) hx hb dX12_isTradeWord_51 (by decide) ?_
            subst hQ
            exact zq_zret E hr hZ hM hS (show 0 ≤ (1 : Int32).toInt ∧ (1 : Int32).toInt ≤ 1 by decide +kernel) ⟨hR, (hG155), (by have := zl_1; omega)⟩ hlocks dX12_isTradeWord_55
def zw_X12_clauseHere : List (Nat × Nat) := [(10, 8), (10, 9), (10, 10), (10, 12), (10, 13), (10, 14), (10, 16), (51, 999), (52, 999), (53, 999), (54, 999), (55, 999), (56, 999)]
set_option maxHeartbeats 8000000 in
set_option maxRecDepth 100000 in
theorem c_X12_clauseHere (l : Launch) (X : zq_X) (zk zn : Nat) (I : zq_M) (L : zq_L X)  (h0 : Nat) (k_h0 : zq_k X h0 = 10) (q_0 : zk ≤ 4400 ∧ zn ≤ 4400) (q_1 : (I h0 8).toInt ≤ (I h0 1).toInt) (q_2 : ((zLn X I h0 : Nat) : Int) ≤ (I h0 8).toInt) (q_3 : zWL X I h0) (q_4 : zLi X I h0) : Met l yX12_clauseHere (zt_w yX12_clauseHere cX12_clauseHere 3 (some .boolean)) (zq_rm (10)) (va_Pc [.ref h0] (zq_W X (zk, zn) I)) (va_Qi (fun (r : Int32) I2 => zq_fr (zf X zw_X12_clauseHere (fun _ => False)) I I2 ∧ (zGo X h0 false 0 I I2) ∧ (zWL X I2 h0) ∧ (zLi X I2 h0) ∧ (0 ≤ r.toInt ∧ r.toInt ≤ 1)) (zq_E X (zk, zn)) (zq_A X)) 0 0 (zq_A X) := by
  refine Met.ofW (cc := cX12_clauseHere) (maxL := 3) (ret := (some .boolean)) (by decide) rfl ?_
  intro p e s m args below meth c s₁ B hml hv
  obtain ⟨hargs, hM, hZ⟩ := hv
  have hown : s.vm.findClass RX12 = some m.cls := findClass_of_methodNamed B.named
  have hts := atoms_spec (ws := zt_w yX12_clauseHere cX12_clauseHere 3 (some .boolean)) B.pre
  have E : CallFix p m c cX12_clauseHere 3 s args (Cond.code yX12_clauseHere cX12_clauseHere 3 (some .boolean) :: zt) RX12 := ⟨B.exec, B.bytes, hml, hown, hts⟩
  have hx := B.exec
  have hb := B.bytes
  have hr := B.returns
  have hlocks := B.notSynchronized
  clear B
  have hS : va_S (zq_A X) s.heap s.heap [] := va_S.rf
  have hR : zq_fr (zf X zw_X12_clauseHere (fun _ => False)) I I := zq_fr.rf
  have hl := lv_entry ([.ref h0]) (n := 3) (by exact Nat.le_of_ble_eq_true rfl)
  have hg : entryFrame m args 3 = F0 m 0 ((lg_sl ([.ref h0]) ++ List.replicate (3 - (lg_sl ([.ref h0])).length) Slot.unset).toArray) [] := by rw [hargs]; exact lg_entry_eq m ([.ref h0]) 3
  rw [hg]
  clear hg hargs
  generalize (lg_sl ([.ref h0]) ++ List.replicate (3 - (lg_sl ([.ref h0])).length) Slot.unset).toArray = ls at hl ⊢
  have hl : lv_has ls 3 [(0, .ref h0)] := by exact hl
  obtain ⟨R, hRm⟩ : ∃ R : Room, R = (headSpec (zt_w yX12_clauseHere cX12_clauseHere 3 (some .boolean)) (zq_rm (10))).room := ⟨_, rfl⟩
  rw [← hRm]
  have hro : ∀ d q : Nat, d + 1 ≤ 10 → q ≤ 45 → zq_rok d q R := fun d q h1 h2 => by rw [hRm]; exact zq_rokI h1 h2
  generalize hQ : MQ below _ args s 0 0 (zq_A X) = Q
  obtain ⟨H, hH⟩ : ∃ H, H = s.heap := ⟨_, rfl⟩
  obtain ⟨locs, hlo⟩ : ∃ x : List Loc, x = [] := ⟨_, rfl⟩
  rw [show W p l e R s m args below meth c s.heap [] 0 0 Q = W p l e R s m args below meth c H locs 0 0 Q by rw [hH, hlo]]
  have hM : zq_hm X (zk, zn) I H := by rw [hH]; exact hM
  have hS : va_S (zq_A X) s.heap H locs := by rw [hH, hlo]; exact hS
  clear hH hlo
  have hG0 : zGo X h0 false 0 I I := zGo.rf q_1
  refine lv_aload_n hx hb dX12_clauseHere_0 rfl (lv_at hl 0 rfl) ?_
  refine zq_calli (zq_rV (As := []) (rest := []) E hZ hM k_h0 (c_X12_see l X zk (zn) I L h0 k_h0 (by omega) (hG0.2.2.2.1)) zmX12_87 zM_X12_see (hro (0) 1 (by first | decide | omega) (by decide)) ⟨by decide, by decide⟩ rfl hl.1 rfl rfl (Nat.le_of_ble_eq_true rfl) dX12_clauseHere_1) hS (fun x102 I103 H locs h101 hM hS => ?_)
  obtain ⟨fr104, p105, p106, p107, p108⟩ := h101
  have hR := zq_fr.call hR fr104 (zf_sub (by decide +kernel) (fun _ _ q => q.elim))
  have hG109 : zGo X h0 false 0 I I103 := (zGo.wk (zGo.tr hG0 (p105 false)) (by decide))
  have hWL110 : zWL X I103 h0 := zWL.go q_3 (p105 false) (zfr_s L k_h0 fr104 rfl (by decide) rfl) (zfr_s L k_h0 fr104 rfl (by decide) rfl)
  have hLi111 : zLi X I103 h0 := zLi.eq q_4 (zfr_o k_h0 fr104 rfl) (zfr_o k_h0 fr104 rfl) (zfr_s L k_h0 fr104 rfl (by decide) rfl)
  refine lv_pop hx hb dX12_clauseHere_4 rfl ?_
  refine lv_aload_n hx hb dX12_clauseHere_5 rfl (lv_at hl 0 rfl) ?_
  refine zq_gn E hM k_h0 (zFX12_84 E hZ) (Or.inl ⟨by decide, by decide, by decide, rfl⟩) dX12_clauseHere_6 (fun x112 ex112 gx112 => ?_)
  replace gx112 : 0 ≤ x112.toInt ∧ x112.toInt ≤ 400 := gx112
  have := congrArg Int32.toInt ex112
  refine lv_istore_n (lv' := [(1, .int x112), (0, .ref h0)]) hx hb dX12_clauseHere_9 rfl hl (by decide) rfl (fun ls hl => ?_)
  refine lv_aload_n hx hb dX12_clauseHere_10 rfl (lv_at hl 1 rfl) ?_
  refine zq_gn E hM k_h0 (zFX12_142 E hZ) (Or.inl ⟨by decide, by decide, by decide, rfl⟩) dX12_clauseHere_11 (fun x113 ex113 gx113 => ?_)
  replace gx113 : 0 ≤ x113.toInt ∧ x113.toInt ≤ 6 := gx113
  have := congrArg Int32.toInt ex113
  refine lv_bipush (v := 6) hx hb dX12_clauseHere_14 (by decide +kernel) ?_
  refine W.eq (g2 := F0 m 16 ls [.int (6 : Int32), .int x113]) rfl ?_
  have J24 : ∀ (ls : Array Slot) (j114 : Int32), (0 ≤ j114.toInt ∧ j114.toInt ≤ 1) → ((j114.toInt = 1 ∧ (I h0 11).toInt = 6) ∨ (j114.toInt = 0 ∧ (I h0 11).toInt ≤ 5)) → (lv_has ls 3 [(1, .int x112), (0, .ref h0)]) → W p l e R s m args below meth c H locs 0 0 Q (F0 m 24 ls [.int j114]) := by
    intro ls j114 gj114 h24 hl
    refine lv_istore_n (lv' := [(2, .int j114), (1, .int x112), (0, .ref h0)]) hx hb dX12_clauseHere_24 rfl hl (by decide) rfl (fun ls hl => ?_)
    refine lv_iload_n hx hb dX12_clauseHere_25 rfl (lv_at hl 0 rfl) ?_
    have J56 : ∀ (I227 : zq_M) (H : Heap) (locs : List Loc) (ls : Array Slot), (zq_hm X (zk, zn) I227 H) → (va_S (zq_A X) s.heap H locs) → (zq_fr (zf X zw_X12_clauseHere (fun _ => False)) I I227) → (zGo X h0 false 0 I I227) → (zWL X I227 h0) → (zLi X I227 h0) → (lv_has ls 3 [(2, .int j114), (1, .int x112), (0, .ref h0)]) → W p l e R s m args below meth c H locs 0 0 Q (F0 m 56 ls []) := by
      intro I227 H locs ls hM hS hR F228 F229 F230 hl
      refine lv_aload_n hx hb dX12_clauseHere_56 rfl (lv_at hl 2 rfl) ?_
      refine zq_gn E hM k_h0 (zFX12_242 E hZ) (Or.inl ⟨by decide, by decide, by decide, rfl⟩) dX12_clauseHere_57 (fun x265 ex265 gx265 => ?_)
      clear gx265
      have := congrArg Int32.toInt ex265
      refine lv_iload_n hx hb dX12_clauseHere_60 rfl (lv_at hl 0 rfl) ?_
      have J71 : ∀ (ls : Array Slot) (j266 : Int32), (12 ≤ j266.toInt ∧ j266.toInt ≤ 40) → (j266.toInt = 12 ∨ j114.toInt = 1) → (lv_has ls 3 [(2, .int j114), (1, .int x112), (0, .ref h0)]) → W p l e R s m args below meth c H locs 0 0 Q (F0 m 71 ls [.int j266, .int x265]) := by
        intro ls j266 gj266 h71 hl
        refine lv_icmp_ne (tgt := 81) hx hb dX12_clauseHere_71 (by decide) (fun b299 => ?_) (fun b299 => ?_)
        · have b299 := zi_ne b299 (rfl : x265.toInt = x265.toInt) (rfl : j266.toInt = j266.toInt)
          refine lv_aload_n hx hb dX12_clauseHere_81 rfl (lv_at hl 2 rfl) ?_
          refine lv_dup hx hb dX12_clauseHere_82 rfl ?_
          refine zq_gk (v := x265) E hM k_h0 (zFX12_242 E hZ) (Or.inl ⟨by decide, by decide, by decide, rfl⟩) ex265 dX12_clauseHere_83 ?_
          refine lv_iconst (v := 1) hx hb dX12_clauseHere_86 (by decide +kernel) ?_
          refine lv_iadd hx hb dX12_clauseHere_87 ?_
          refine lv_topi (fun x300 ex300 => ?_)
          refine zq_pn E hM hS k_h0 (zGX12_242 E hZ) ⟨by decide, by decide, by decide, rfl⟩ (zq_any _) dX12_clauseHere_88 (fun I301 H locs eI301 hM hS => ?_)
          have hR := zq_fr.putE hR eI301 (zf_i k_h0 rfl rfl)
          have hG302 : zGo X h0 false 0 I I301 := (zGo.wk (zGo.pt F228 L k_h0 eI301 k_h0 rfl) (by decide))
          have hWL303 : zWL X I301 h0 := zWL.sg F229 (zpu_o k_h0 eI301 k_h0 (Or.inr (by decide))) (Nat.le_of_eq (zLn.eq (zpu_o k_h0 eI301 k_h0 (Or.inr (by decide))) (zpu_l L k_h0 eI301 k_h0 (by decide))).symm) (fun j _ => zpu_s L k_h0 eI301 k_h0 (by decide) j) (fun j => zq_kp eI301 (Or.inl (zq_kne (zq_lk L.1 k_h0 rfl (by decide) : zq_k X (zq_r X h0 5) = 53) k_h0 (by decide))) rfl) (fun j => zq_kp eI301 (Or.inl (zq_kne (zq_lk L.1 k_h0 rfl (by decide) : zq_k X (zq_r X h0 6) = 54) k_h0 (by decide))) rfl)
          have hl91 : j114.toInt = 0 → (I301 (zq_r X h0 6) (zTx I301 h0)).toInt ≤ x265.toInt ∧ x265.toInt ≤ 11 := by
            intro h2
            have q := F230 (by rw [F228.1]; omega)
            rw [ex265] at q
            rw [zTx.eq (zpu_o k_h0 eI301 k_h0 (Or.inr (by decide))), show ∀ j, I301 (zq_r X h0 6) j = I227 (zq_r X h0 6) j from fun j => zq_kp eI301 (Or.inl (zq_kne (zq_lk L.1 k_h0 rfl (by decide) : zq_k X (zq_r X h0 6) = 54) k_h0 (by decide))) rfl]
            exact ⟨q.1, by omega⟩
          refine lv_iload_n hx hb dX12_clauseHere_91 rfl (lv_at hl 0 rfl) ?_
          refine lv_if_eq (tgt := 103) hx hb dX12_clauseHere_92 (by decide) (fun b305 => ?_) (fun b305 => ?_)
          · have b305 := zi_eq b305 (rfl : j114.toInt = j114.toInt) (zl_0 : (0 : Int32).toInt = 0)
            refine lv_aload_n hx hb dX12_clauseHere_103 rfl (lv_at hl 2 rfl) ?_
            refine zq_calli (zq_rV (As := []) (rest := []) E hZ hM k_h0 (c_X12_isSailHere l X zk (zn) I301 L h0 k_h0 (by omega) (hG302.2.2.2.1) (by rw [hG302.1]; omega) (zGo.len hG302 (by decide) q_2) (hWL303) (by have q := hl91 (by omega); omega)) zmX12_248 zM_X12_isSailHere (hro (9) 2 (by first | decide | omega) (by decide)) ⟨by decide, by decide⟩ rfl hl.1 rfl rfl (Nat.le_of_ble_eq_true rfl) dX12_clauseHere_104) hS (fun x307 I308 H locs h306 hM hS => ?_)
            obtain ⟨fr309, p310, p311, p312, p313⟩ := h306
            have hR := zq_fr.call hR fr309 (zf_sub (by decide +kernel) (fun _ _ q => q.elim))
            have hG314 : zGo X h0 false 0 I I308 := (zGo.wk (zGo.tr hG302 p310) (by decide))
            have hWL315 : zWL X I308 h0 := p311
            subst hQ
            exact zq_zret E hr hZ hM hS (show 0 ≤ x307.toInt ∧ x307.toInt ≤ 1 from ⟨by omega, by omega⟩) ⟨hR, (hG314), (hWL315), (fun _ => by
      have q1 := hl91 (by omega)
      have q2 := p312
      have q3 := zTx.eq p310.1
      have q4 := zi_rng x265
      have q5 := zi_add ex300 (rfl : x265.toInt = x265.toInt) zl_1 ⟨by omega, by omega⟩
      rw [(zq_fr.kp fr309 (zf_n k_h0 rfl) (zq_kv eI301)), q3]
      exact ⟨by omega, by omega⟩), (by omega)⟩ hlocks dX12_clauseHere_107
          · have b305 := zi_ne b305 (rfl : j114.toInt = j114.toInt) (zl_0 : (0 : Int32).toInt = 0)
            refine lv_aload_n hx hb dX12_clauseHere_95 rfl (lv_at hl 2 rfl) ?_
            refine lv_iload_n hx hb dX12_clauseHere_96 rfl (lv_at hl 1 rfl) ?_
            refine zq_calli (zq_rV (As := [.int x112]) (rest := []) E hZ hM k_h0 (c_X12_tradeLineHere l X zk (zn) I301 L h0 k_h0 x112 (by omega) (hG302.2.2.2.1)) zmX12_245 zM_X12_tradeLineHere (hro (4) 2 (by first | decide | omega) (by decide)) ⟨by decide, by decide⟩ rfl hl.1 rfl rfl (Nat.le_of_ble_eq_true rfl) dX12_clauseHere_97) hS (fun x317 I318 H locs h316 hM hS => ?_)
            obtain ⟨fr319, p320, p321⟩ := h316
            have hR := zq_fr.call hR fr319 (zf_sub (by decide +kernel) (fun _ _ q => q.elim))
            have hG322 : zGo X h0 false 0 I I318 := (zGo.wk (zGo.tr hG302 (p320 false)) (by decide))
            have hWL323 : zWL X I318 h0 := zWL.go hWL303 (p320 false) (zfr_s L k_h0 fr319 rfl (by decide) rfl) (zfr_s L k_h0 fr319 rfl (by decide) rfl)
            refine lv_goto (tgt := 107) hx hb dX12_clauseHere_100 (by decide) ?_
            subst hQ
            exact zq_zret E hr hZ hM hS (show 0 ≤ x317.toInt ∧ x317.toInt ≤ 1 from ⟨by omega, by omega⟩) ⟨hR, (hG322), (hWL323), (fun q => absurd q (by rw [hG322.1]; omega)), (by omega)⟩ hlocks dX12_clauseHere_107
        · have b299 := zi_eq b299 (rfl : x265.toInt = x265.toInt) (rfl : j266.toInt = j266.toInt)
          refine lv_aload_n hx hb dX12_clauseHere_74 rfl (lv_at hl 2 rfl) ?_
          refine lv_iconst (v := 4) hx hb dX12_clauseHere_75 (by decide +kernel) ?_
          refine lv_iload_n hx hb dX12_clauseHere_76 rfl (lv_at hl 1 rfl) ?_
          refine zq_calli (zq_rV (As := [.int (4 : Int32), .int x112]) (rest := []) E hZ hM k_h0 (c_X12_fails l X zk (zn) I227 L h0 k_h0 (4 : Int32) x112 (by have := zl_4; omega)) zmX12_105 zM_X12_fails (hro (0) 3 (by first | decide | omega) (by decide)) ⟨by decide, by decide⟩ rfl hl.1 rfl rfl (Nat.le_of_ble_eq_true rfl) dX12_clauseHere_77) hS (fun x325 I326 H locs h324 hM hS => ?_)
          obtain ⟨fr327, p328, p329⟩ := h324
          have := zl_4
          have hR := zq_fr.call hR fr327 (zf_sub (by decide +kernel) (fun _ _ q => q.elim))
          have hG330 : zGo X h0 false 0 I I326 := (zGo.wk (zGo.fr F228 L k_h0 fr327 rfl rfl rfl) (by decide))
          have hWL331 : zWL X I326 h0 := zWL.sg F229 (zfr_o k_h0 fr327 rfl) (Nat.le_of_eq (zLn.eq (zfr_o k_h0 fr327 rfl) (zfr_s L k_h0 fr327 rfl (by decide) rfl)).symm) (fun j _ => zfr_s L k_h0 fr327 rfl (by decide) rfl j) (zfr_s L k_h0 fr327 rfl (by decide) rfl) (zfr_s L k_h0 fr327 rfl (by decide) rfl)
          have hLi332 : zLi X I326 h0 := zLi.eq F230 (zfr_o k_h0 fr327 rfl) (zfr_o k_h0 fr327 rfl) (zfr_s L k_h0 fr327 rfl (by decide) rfl)
          subst hQ
          exact zq_zret E hr hZ hM hS (show 0 ≤ x325.toInt ∧ x325.toInt ≤ 1 from ⟨by omega, by omega⟩) ⟨hR, (hG330), (hWL331), (hLi332), (by omega)⟩ hlocks dX12_clauseHere_80
      refine lv_if_eq (tgt := 69) hx hb dX12_clauseHere_61 (by decide) (fun b333 => ?_) (fun b333 => ?_)
      · have b333 := zi_eq b333 (rfl : j114.toInt = j114.toInt) (zl_0 : (0 : Int32).toInt = 0)
        refine lv_bipush (v := 12) hx hb dX12_clauseHere_69 (by decide +kernel) ?_
        exact J71 ls (12 : Int32) (by rw [zl_12]; decide) (Or.inl zl_12) (lv_sub hl [0, 1, 2] rfl)
      · have b333 := zi_ne b333 (rfl : j114.toInt = j114.toInt) (zl_0 : (0 : Int32).toInt = 0)
        refine lv_bipush (v := 40) hx hb dX12_clauseHere_64 (by decide +kernel) ?_
        refine lv_goto (tgt := 71) hx hb dX12_clauseHere_66 (by decide) ?_
        exact J71 ls (40 : Int32) (by rw [zl_40]; decide) (Or.inr (by omega)) (lv_sub hl [0, 1, 2] rfl)
    have J49 : ∀ (I214 : zq_M) (H : Heap) (locs : List Loc) (ls : Array Slot), (zq_hm X (zk, zn) I214 H) → (va_S (zq_A X) s.heap H locs) → (zq_fr (zf X zw_X12_clauseHere (fun _ => False)) I I214) → (zGo X h0 false 0 I I214) → (zWL X I214 h0) → (zLi X I214 h0) → (lv_has ls 3 [(2, .int j114), (1, .int x112), (0, .ref h0)]) → W p l e R s m args below meth c H locs 0 0 Q (F0 m 49 ls []) := by
      intro I214 H locs ls hM hS hR F215 F216 F217 hl
      refine lv_aload_n hx hb dX12_clauseHere_49 rfl (lv_at hl 2 rfl) ?_
      refine lv_iconst (v := 0) hx hb dX12_clauseHere_50 (by decide +kernel) ?_
      refine lv_iload_n hx hb dX12_clauseHere_51 rfl (lv_at hl 1 rfl) ?_
      refine zq_calli (zq_rV (As := [.int (0 : Int32), .int x112]) (rest := []) E hZ hM k_h0 (c_X12_fails l X zk (zn) I214 L h0 k_h0 (0 : Int32) x112 (by have := zl_0; omega)) zmX12_105 zM_X12_fails (hro (0) 3 (by first | decide | omega) (by decide)) ⟨by decide, by decide⟩ rfl hl.1 rfl rfl (Nat.le_of_ble_eq_true rfl) dX12_clauseHere_52) hS (fun x335 I336 H locs h334 hM hS => ?_)
      obtain ⟨fr337, p338, p339⟩ := h334
      have := zl_0
      have hR := zq_fr.call hR fr337 (zf_sub (by decide +kernel) (fun _ _ q => q.elim))
      have hG340 : zGo X h0 false 0 I I336 := (zGo.wk (zGo.fr F215 L k_h0 fr337 rfl rfl rfl) (by decide))
      have hWL341 : zWL X I336 h0 := zWL.sg F216 (zfr_o k_h0 fr337 rfl) (Nat.le_of_eq (zLn.eq (zfr_o k_h0 fr337 rfl) (zfr_s L k_h0 fr337 rfl (by decide) rfl)).symm) (fun j _ => zfr_s L k_h0 fr337 rfl (by decide) rfl j) (zfr_s L k_h0 fr337 rfl (by decide) rfl) (zfr_s L k_h0 fr337 rfl (by decide) rfl)
      have hLi342 : zLi X I336 h0 := zLi.eq F217 (zfr_o k_h0 fr337 rfl) (zfr_o k_h0 fr337 rfl) (zfr_s L k_h0 fr337 rfl (by decide) rfl)
      subst hQ
      exact zq_zret E hr hZ hM hS (show 0 ≤ x335.toInt ∧ x335.toInt ≤ 1 from ⟨by omega, by omega⟩) ⟨hR, (hG340), (hWL341), (hLi342), (by omega)⟩ hlocks dX12_clauseHere_55
    refine lv_if_eq (tgt := 39) hx hb dX12_clauseHere_26 (by decide) (fun b343 => ?_) (fun b343 => ?_)
    · have b343 := zi_eq b343 (rfl : j114.toInt = j114.toInt) (zl_0 : (0 : Int32).toInt = 0)
      refine lv_aload_n hx hb dX12_clauseHere_39 rfl (lv_at hl 2 rfl) ?_
      refine W.ldc2 (v := 1935763820) hx hb hown (hts _ (List.mem_cons_of_mem _ zCX12_240)) rfl dX12_clauseHere_40 ?_
      refine W.eq (g2 := F0 m 43 ls [.long (1935763820 : Int64), .ref h0]) rfl ?_
      refine zq_calli (zq_rV (As := [.long (1935763820 : Int64)]) (rest := []) E hZ hM k_h0 (c_X12_isWord l X zk (zn) I103 L h0 k_h0 (1935763820 : Int64) (by have : (1935763820 : Int64).toInt = 1935763820 := (by decide +kernel); omega) (hG109.2.2.2.1)) zmX12_95 zM_X12_isWord (hro (1) 6 (by first | decide | omega) (by decide)) ⟨by decide, by decide⟩ rfl hl.1 rfl rfl (Nat.le_of_ble_eq_true rfl) dX12_clauseHere_43) hS (fun x345 I346 H locs h344 hM hS => ?_)
      obtain ⟨fr347, p348, p349, p350, p351⟩ := h344
      have : (1935763820 : Int64).toInt = 1935763820 := by decide +kernel
      have hR := zq_fr.call hR fr347 (zf_sub (by decide +kernel) (fun _ _ q => q.elim))
      have hG352 : zGo X h0 false 0 I I346 := (zGo.wk (zGo.tr hG109 (p348 false)) (by decide))
      have hWL353 : zWL X I346 h0 := zWL.go hWL110 (p348 false) (zfr_s L k_h0 fr347 rfl (by decide) rfl) (zfr_s L k_h0 fr347 rfl (by decide) rfl)
      have hLi354 : zLi X I346 h0 := zLi.eq hLi111 (zfr_o k_h0 fr347 rfl) (zfr_o k_h0 fr347 rfl) (zfr_s L k_h0 fr347 rfl (by decide) rfl)
      have hE355 : x102.toInt = -1 ∨ zAt X I346 h0 := p107.imp id (fun q9 => zAt.sm q9 p349)
      refine lv_if_ne (tgt := 56) hx hb dX12_clauseHere_46 (by decide) (fun b357 => ?_) (fun b357 => ?_)
      · have b357 := zi_ne b357 (rfl : x345.toInt = x345.toInt) (zl_0 : (0 : Int32).toInt = 0)
        exact J56 I346 H locs ls hM hS hR hG352 hWL353 hLi354 (lv_sub hl [0, 1, 2] rfl)
      · have b357 := zi_eq b357 (rfl : x345.toInt = x345.toInt) (zl_0 : (0 : Int32).toInt = 0)
        exact J49 I346 H locs ls hM hS hR hG352 hWL353 hLi354 (lv_sub hl [0, 1, 2] rfl)
    · have b343 := zi_ne b343 (rfl : j114.toInt = j114.toInt) (zl_0 : (0 : Int32).toInt = 0)
      refine lv_aload_n hx hb dX12_clauseHere_29 rfl (lv_at hl 2 rfl) ?_
      refine zq_calli (zq_rV (As := []) (rest := []) E hZ hM k_h0 (c_X12_isTradeWord l X zk (zn) I103 L h0 k_h0 (by omega) (hG109.2.2.2.1)) zmX12_237 zM_X12_isTradeWord (hro (2) 1 (by first | decide | omega) (by decide)) ⟨by decide, by decide⟩ rfl hl.1 rfl rfl (Nat.le_of_ble_eq_true rfl) dX12_clauseHere_30) hS (fun x359 I360 H locs h358 hM hS => ?_)
      obtain ⟨fr361, p362, p363⟩ := h358
      have hR := zq_fr.call hR fr361 (zf_sub (by decide +kernel) (fun _ _ q => q.elim))
      have hG364 : zGo X h0 false 0 I I360 := (zGo.wk (zGo.tr hG109 (p362 false)) (by decide))
      have hWL365 : zWL X I360 h0 := zWL.go hWL110 (p362 false) (zfr_s L k_h0 fr361 rfl (by decide) rfl) (zfr_s L k_h0 fr361 rfl (by decide) rfl)
      have hLi366 : zLi X I360 h0 := zLi.eq hLi111 (zfr_o k_h0 fr361 rfl) (zfr_o k_h0 fr361 rfl) (zfr_s L k_h0 fr361 rfl (by decide) rfl)
      refine lv_if_ne (tgt := 56) hx hb dX12_clauseHere_33 (by decide) (fun b369 => ?_) (fun b369 => ?_)
      · have b369 := zi_ne b369 (rfl : x359.toInt = x359.toInt) (zl_0 : (0 : Int32).toInt = 0)
        exact J56 I360 H locs ls hM hS hR hG364 hWL365 hLi366 (lv_sub hl [0, 1, 2] rfl)
      · have b369 := zi_eq b369 (rfl : x359.toInt = x359.toInt) (zl_0 : (0 : Int32).toInt = 0)
        refine lv_goto (tgt := 49) hx hb dX12_clauseHere_36 (by decide) ?_
        exact J49 I360 H locs ls hM hS hR hG364 hWL365 hLi366 (lv_sub hl [0, 1, 2] rfl)
  refine lv_icmp_ne (tgt := 23) hx hb dX12_clauseHere_16 (by decide) (fun b370 => ?_) (fun b370 => ?_)
  · have b370 := zi_ne b370 (rfl : x113.toInt = x113.toInt) (zl_6 : (6 : Int32).toInt = 6)
    refine lv_iconst (v := 0) hx hb dX12_clauseHere_23 (by decide +kernel) ?_
    exact J24 ls (0 : Int32) (by rw [zl_0]; decide) (Or.inr ⟨by decide +kernel, by rw [← hG109.1, ex113]; omega⟩) (lv_sub hl [0, 1] rfl)
  · have b370 := zi_eq b370 (rfl : x113.toInt = x113.toInt) (zl_6 : (6 : Int32).toInt = 6)
    refine lv_iconst (v := 1) hx hb dX12_clauseHere_19 (by decide +kernel) ?_
    refine lv_goto (tgt := 24) hx hb dX12_clauseHere_20 (by decide) ?_
    exact J24 ls (1 : Int32) (by rw [zl_1]; decide) (Or.inl ⟨by decide +kernel, by rw [← hG109.1, ex113]; omega⟩) (lv_sub hl [0, 1] rfl)
def zw_X12_readsAll : List (Nat × Nat) := [(10, 1), (10, 8), (10, 9), (10, 10), (10, 12), (10, 13), (10, 14), (10, 16), (51, 999), (52, 999), (53, 999), (54, 999), (55, 999), (56, 999)]
set_option maxHeartbeats 8000000 in
set_option maxRecDepth 100000 in
theorem c_X12_readsAll (l : Launch) (X : zq_X) (zk zn : Nat) (I : zq_M) (L : zq_L X)  (h0 : Nat) (k_h0 : zq_k X h0 = 10) (q_0 : zk ≤ 4400 ∧ zn ≤ 4400) (q_1 : zWF X I h0) (q_2 : (I h0 11).toInt ≤ 5 → (I (zq_r X h0 6) (zTx I h0)).toInt ≤ 0) : Met l yX12_readsAll (zt_w yX12_readsAll cX12_readsAll 2 (some .boolean)) (zq_rm (11)) (va_Pc [.ref h0] (zq_W X (zk, zn) I)) (va_Qi (fun (r : Int32) I2 => zq_fr (zf X zw_X12_readsAll (fun _ => False)) I I2 ∧ (zWF X I2 h0) ∧ (0 ≤ r.toInt ∧ r.toInt ≤ 1)) (zq_E X (zk, zn)) (zq_A X)) 0 0 (zq_A X) := by
  refine Met.ofW (cc := cX12_readsAll) (maxL := 2) (ret := (some .boolean)) (by decide) rfl ?_
  intro p e s m args below meth c s₁ B hml hv
  obtain ⟨hargs, hM, hZ⟩ := hv
  have hown : s.vm.findClass RX12 = some m.cls := findClass_of_methodNamed B.named
  have hts := atoms_spec (ws := zt_w yX12_readsAll cX12_readsAll 2 (some .boolean)) B.pre
  have E : CallFix p m c cX12_readsAll 2 s args (Cond.code yX12_readsAll cX12_readsAll 2 (some .boolean) :: zt) RX12 := ⟨B.exec, B.bytes, hml, hown, hts⟩
  have hx := B.exec
  have hb := B.bytes
  have hr := B.returns
  have hlocks := B.notSynchronized
  clear B
  have hS : va_S (zq_A X) s.heap s.heap [] := va_S.rf
  have hR : zq_fr (zf X zw_X12_readsAll (fun _ => False)) I I := zq_fr.rf
  have hl := lv_entry ([.ref h0]) (n := 2) (by exact Nat.le_of_ble_eq_true rfl)
  have hg : entryFrame m args 2 = F0 m 0 ((lg_sl ([.ref h0]) ++ List.replicate (2 - (lg_sl ([.ref h0])).length) Slot.unset).toArray) [] := by rw [hargs]; exact lg_entry_eq m ([.ref h0]) 2
  rw [hg]
  clear hg hargs
  generalize (lg_sl ([.ref h0]) ++ List.replicate (2 - (lg_sl ([.ref h0])).length) Slot.unset).toArray = ls at hl ⊢
  have hl : lv_has ls 2 [(0, .ref h0)] := by exact hl
  obtain ⟨R, hRm⟩ : ∃ R : Room, R = (headSpec (zt_w yX12_readsAll cX12_readsAll 2 (some .boolean)) (zq_rm (11))).room := ⟨_, rfl⟩
  rw [← hRm]
  have hro : ∀ d q : Nat, d + 1 ≤ 11 → q ≤ 45 → zq_rok d q R := fun d q h1 h2 => by rw [hRm]; exact zq_rokI h1 h2
  generalize hQ : MQ below _ args s 0 0 (zq_A X) = Q
  obtain ⟨H, hH⟩ : ∃ H, H = s.heap := ⟨_, rfl⟩
  obtain ⟨locs, hlo⟩ : ∃ x : List Loc, x = [] := ⟨_, rfl⟩
  rw [show W p l e R s m args below meth c s.heap [] 0 0 Q = W p l e R s m args below meth c H locs 0 0 Q by rw [hH, hlo]]
  have hM : zq_hm X (zk, zn) I H := by rw [hH]; exact hM
  have hS : va_S (zq_A X) s.heap H locs := by rw [hH, hlo]; exact hS
  clear hH hlo
  refine lv_aload_n hx hb dX12_readsAll_0 rfl (lv_at hl 0 rfl) ?_
  refine zq_getr E hM k_h0 (zFX12_17 E hZ) ⟨by decide, by decide, by decide, rfl⟩ dX12_readsAll_1 ?_
  have k101 : zq_k X (zq_r X h0 4) = 52 := zq_lk L.1 k_h0 rfl (by decide)
  refine lv_aload_n hx hb dX12_readsAll_4 rfl (lv_at hl 0 rfl) ?_
  refine zq_gn E hM k_h0 (zFX12_142 E hZ) (Or.inl ⟨by decide, by decide, by decide, rfl⟩) dX12_readsAll_5 (fun x102 ex102 gx102 => ?_)
  replace gx102 : 0 ≤ x102.toInt ∧ x102.toInt ≤ 6 := gx102
  have := congrArg Int32.toInt ex102
  refine lv_iconst (v := 0) hx hb dX12_readsAll_8 (by decide +kernel) ?_
  refine zq_isn (n := 7) (j := (x102.toNatClampNeg)) E hZ hM hS k101 ⟨by decide, rfl⟩ ⟨by omega, by omega⟩ rfl (show 0 ≤ (0 : Int32).toInt ∧ (0 : Int32).toInt ≤ 400 by decide +kernel) dX12_readsAll_9 (fun I103 H locs eI103 hM hS => ?_)
  have hR := zq_fr.putE hR eI103 (zf_ia k101 (by decide) rfl)
  have hWF104 := zWF.put q_1 L k_h0 eI103 k101 (by decide)
  refine lv_aload_n hx hb dX12_readsAll_10 rfl (lv_at hl 0 rfl) ?_
  refine lv_iconst (v := 0) hx hb dX12_readsAll_11 (by decide +kernel) ?_
  refine zq_pn E hM hS k_h0 (zGX12_242 E hZ) ⟨by decide, by decide, by decide, rfl⟩ (zq_any _) dX12_readsAll_12 (fun I105 H locs eI105 hM hS => ?_)
  have hR := zq_fr.putE hR eI105 (zf_i k_h0 rfl rfl)
  have hWF106 := zWF.put hWF104 L k_h0 eI105 k_h0 (by decide)
  refine W.eq (g2 := F0 m 15 ls []) rfl ?_
  refine lv_aload_n hx hb dX12_readsAll_15 rfl (lv_at hl 0 rfl) ?_
  refine lv_iconst (v := 0) hx hb dX12_readsAll_16 (by decide +kernel) ?_
  refine zq_pn E hM hS k_h0 (zGX12_84 E hZ) ⟨by decide, by decide, by decide, rfl⟩ (show 0 ≤ (0 : Int32).toInt ∧ (0 : Int32).toInt ≤ 400 by decide +kernel) dX12_readsAll_17 (fun I107 H locs eI107 hM hS => ?_)
  have hR := zq_fr.putE hR eI107 (zf_i k_h0 rfl rfl)
  have hWF108 := zWF.put hWF106 L k_h0 eI107 k_h0 (by decide)
  refine lv_aload_n hx hb dX12_readsAll_20 rfl (lv_at hl 0 rfl) ?_
  refine lv_iconst (v := 0) hx hb dX12_readsAll_21 (by decide +kernel) ?_
  refine zq_pn E hM hS k_h0 (zGX12_81 E hZ) ⟨by decide, by decide, by decide, rfl⟩ (zq_any _) dX12_readsAll_22 (fun I109 H locs eI109 hM hS => ?_)
  have hR := zq_fr.putE hR eI109 (zf_i k_h0 rfl rfl)
  have hWF110 := zWF.put hWF108 L k_h0 eI109 k_h0 (by decide)
  refine lv_aload_n hx hb dX12_readsAll_25 rfl (lv_at hl 0 rfl) ?_
  refine lv_iconst (v := 0) hx hb dX12_readsAll_26 (by decide +kernel) ?_
  refine zq_pn E hM hS k_h0 (zGX12_145 E hZ) ⟨by decide, by decide, by decide, rfl⟩ (show 0 ≤ (0 : Int32).toInt ∧ (0 : Int32).toInt ≤ 60 by decide +kernel) dX12_readsAll_27 (fun I111 H locs eI111 hM hS => ?_)
  have hR := zq_fr.putE hR eI111 (zf_i k_h0 rfl rfl)
  have hWF112 := zWF.put hWF110 L k_h0 eI111 k_h0 (by decide)
  have e11 : I111 h0 11 = I h0 11 := ((zpu_o k_h0 eI111 k_h0 (Or.inr (by decide))).trans ((zpu_o k_h0 eI109 k_h0 (Or.inr (by decide))).trans ((zpu_o k_h0 eI107 k_h0 (Or.inr (by decide))).trans ((zpu_o k_h0 eI105 k_h0 (Or.inr (by decide))).trans (zpu_o k_h0 eI103 (zq_lk L.1 k_h0 rfl (by decide) : zq_k X (zq_r X h0 4) = 52) (Or.inl (by decide)))))))
  have eT : zTx I111 h0 = zTx I h0 := zTx.eq e11
  have eN : ∀ j, I111 (zq_r X h0 6) j = I (zq_r X h0 6) j := fun j => (zq_kp eI111 (Or.inl (zq_kne (zq_lk L.1 k_h0 rfl (by decide) : zq_k X (zq_r X h0 6) = 54) k_h0 (by decide))) (zq_kp eI109 (Or.inl (zq_kne (zq_lk L.1 k_h0 rfl (by decide) : zq_k X (zq_r X h0 6) = 54) k_h0 (by decide))) (zq_kp eI107 (Or.inl (zq_kne (zq_lk L.1 k_h0 rfl (by decide) : zq_k X (zq_r X h0 6) = 54) k_h0 (by decide))) (zq_kp eI105 (Or.inl (zq_kne (zq_lk L.1 k_h0 rfl (by decide) : zq_k X (zq_r X h0 6) = 54) k_h0 (by decide))) (zq_kp eI103 (Or.inl (zq_kne (zq_lk L.1 k_h0 rfl (by decide) : zq_k X (zq_r X h0 6) = 54) (zq_lk L.1 k_h0 rfl (by decide) : zq_k X (zq_r X h0 4) = 52) (by decide))) rfl)))))
  have e8 : I111 h0 8 = 0 := (zq_kp eI111 (Or.inr (by decide)) (zq_kp eI109 (Or.inr (by decide)) (zq_kv eI107)))
  have e14 : I111 h0 14 = 0 := (zq_kp eI111 (Or.inr (by decide)) (zq_kp eI109 (Or.inr (by decide)) (zq_kp eI107 (Or.inr (by decide)) (zq_kv eI105))))
  have e1 : (0 : Int) ≤ (I111 h0 1).toInt := (zq_rng hM k_h0 1).1
  have hL5 : ((zLn X I111 h0 : Nat) : Int) ≤ (I111 h0 8).toInt := by unfold zLn; rw [eT, show zTx I h0 = x102.toNatClampNeg by unfold zTx; rw [ex102], (zq_kp eI111 (Or.inl (zq_kne (zq_lk L.1 k_h0 rfl (by decide) : zq_k X (zq_r X h0 4) = 52) k_h0 (by decide))) (zq_kp eI109 (Or.inl (zq_kne (zq_lk L.1 k_h0 rfl (by decide) : zq_k X (zq_r X h0 4) = 52) k_h0 (by decide))) (zq_kp eI107 (Or.inl (zq_kne (zq_lk L.1 k_h0 rfl (by decide) : zq_k X (zq_r X h0 4) = 52) k_h0 (by decide))) (zq_kp eI105 (Or.inl (zq_kne (zq_lk L.1 k_h0 rfl (by decide) : zq_k X (zq_r X h0 4) = 52) k_h0 (by decide))) (zq_kv eI103))))), e8]; decide +kernel
  have hG1 : zGo X h0 false 0 I111 I111 := zGo.rf (by rw [e8]; have := zl_0; omega)
  have hWL1 : zWL X I111 h0 := zWL.of hWF112 (fun q => by rw [eT, eN]; exact q_2 (by rw [eT] at q; have h9 : (0 : Int) ≤ (I h0 11).toInt := (by rw [ex102]; omega); have := zq_cl h9; unfold zTx at q; omega))
  have hLi1 : zLi X I111 h0 := fun q => by rw [e11] at q; rw [eT, eN, e14]; have := q_2 q; have := zl_0; exact ⟨by omega, by omega⟩
  refine lv_aload_n hx hb dX12_readsAll_30 rfl (lv_at hl 0 rfl) ?_
  refine W.eq (g2 := F0 m 31 ls [.ref h0]) rfl ?_
  refine zq_calli (zq_rV (As := []) (rest := []) E hZ hM k_h0 (c_X12_clauseHere l X zk (zn) I111 L h0 k_h0 (by omega) (hG1.2.2.2.1) (zGo.len hG1 (by decide) hL5) (hWL1) (hLi1)) zmX12_251 zM_X12_clauseHere (hro (10) 3 (by first | decide | omega) (by decide)) ⟨by decide, by decide⟩ rfl hl.1 rfl rfl (Nat.le_of_ble_eq_true rfl) dX12_readsAll_31) hS (fun x114 I115 H locs h113 hM hS => ?_)
  obtain ⟨fr116, p117, p118, p119, p120⟩ := h113
  have hR := zq_fr.call hR fr116 (zf_sub (by decide +kernel) (fun _ _ q => q.elim))
  have hG121 : zGo X h0 false 0 I111 I115 := (zGo.wk (zGo.tr hG1 p117) (by decide))
  have hWL122 : zWL X I115 h0 := p118
  have hLi123 : zLi X I115 h0 := p119
  refine lv_istore_n (lv' := [(1, .int x114), (0, .ref h0)]) hx hb dX12_readsAll_34 rfl hl (by decide) rfl (fun ls hl => ?_)
  have J35 : ∀ (n201 : Nat) (I197 : zq_M) (H : Heap) (locs : List Loc) (ls : Array Slot) (j196 : Int32), 401 - (I197 h0 8).toInt ≤ ((n201 : Nat) : Int) → (zq_hm X (zk, zn) I197 H) → (va_S (zq_A X) s.heap H locs) → (zq_fr (zf X zw_X12_readsAll (fun _ => False)) I I197) → (0 ≤ j196.toInt ∧ j196.toInt ≤ 1) → (zGo X h0 false 0 I111 I197) → (zWL X I197 h0) → (zLi X I197 h0) → (lv_has ls 2 [(1, .int j196), (0, .ref h0)]) → W p l e R s m args below meth c H locs 0 0 Q (F0 m 35 ls []) := by
    intro n201
    induction n201 with
    | zero => intro I197 H locs ls j196 mu202 hM hS hR gj196 F198 F199 F200 hl; exfalso; have q9 : _ ≤ (400 : Int) := (zq_rng hM k_h0 8).2; omega
    | succ n201 ih35 =>
      intro I197 H locs ls j196 mu202 hM hS hR gj196 F198 F199 F200 hl
      have hNx0 : (I197 h0 8).toInt + 0 ≤ (I197 h0 8).toInt := by omega
      refine lv_iload_n hx hb dX12_readsAll_35 rfl (lv_at hl 0 rfl) ?_
      have J66 : ∀ (I237 : zq_M) (H : Heap) (locs : List Loc) (ls : Array Slot), (zq_hm X (zk, zn) I237 H) → (va_S (zq_A X) s.heap H locs) → (zq_fr (zf X zw_X12_readsAll (fun _ => False)) I I237) → (zGo X h0 false 0 I111 I237) → (zWL X I237 h0) → (zLi X I237 h0) → ((I197 h0 8).toInt + 0 ≤ (I237 h0 8).toInt) → (lv_has ls 2 [(1, .int j196), (0, .ref h0)]) → W p l e R s m args below meth c H locs 0 0 Q (F0 m 66 ls []) := by
        intro I237 H locs ls hM hS hR F238 F239 F240 F241 hl
        refine lv_iload_n hx hb dX12_readsAll_66 rfl (lv_at hl 0 rfl) ?_
        have J88 : ∀ (I303 : zq_M) (H : Heap) (locs : List Loc) (ls : Array Slot), (zq_hm X (zk, zn) I303 H) → (va_S (zq_A X) s.heap H locs) → (zq_fr (zf X zw_X12_readsAll (fun _ => False)) I I303) → (zGo X h0 false 0 I111 I303) → (zWL X I303 h0) → (zLi X I303 h0) → ((I197 h0 8).toInt + 0 ≤ (I303 h0 8).toInt) → (lv_has ls 2 [(1, .int j196), (0, .ref h0)]) → W p l e R s m args below meth c H locs 0 0 Q (F0 m 88 ls []) := by
          intro I303 H locs ls hM hS hR F304 F305 F306 F307 hl
          refine lv_aload_n hx hb dX12_readsAll_88 rfl (lv_at hl 1 rfl) ?_
          refine lv_iconst (v := 0) hx hb dX12_readsAll_89 (by decide +kernel) ?_
          refine zq_pn E hM hS k_h0 (zGX12_74 E hZ) ⟨by decide, by decide, by decide, rfl⟩ (show 0 ≤ (0 : Int32).toInt ∧ (0 : Int32).toInt ≤ 400 by decide +kernel) dX12_readsAll_90 (fun I314 H locs eI314 hM hS => ?_)
          have hR := zq_fr.putE hR eI314 (zf_i k_h0 rfl rfl)
          have hWL316 : zWL X I314 h0 := zWL.sg F305 (zpu_o k_h0 eI314 k_h0 (Or.inr (by decide))) (Nat.le_of_eq (zLn.eq (zpu_o k_h0 eI314 k_h0 (Or.inr (by decide))) (zpu_l L k_h0 eI314 k_h0 (by decide))).symm) (fun j _ => zpu_s L k_h0 eI314 k_h0 (by decide) j) (fun j => zq_kp eI314 (Or.inl (zq_kne (zq_lk L.1 k_h0 rfl (by decide) : zq_k X (zq_r X h0 5) = 53) k_h0 (by decide))) rfl) (fun j => zq_kp eI314 (Or.inl (zq_kne (zq_lk L.1 k_h0 rfl (by decide) : zq_k X (zq_r X h0 6) = 54) k_h0 (by decide))) rfl)
          have hLi317 : zLi X I314 h0 := zLi.eq F306 (zpu_o k_h0 eI314 k_h0 (Or.inr (by decide))) (zpu_o k_h0 eI314 k_h0 (Or.inr (by decide))) (fun j => zq_kp eI314 (Or.inl (zq_kne (zq_lk L.1 k_h0 rfl (by decide) : zq_k X (zq_r X h0 6) = 54) k_h0 (by decide))) rfl)
          have hNx318 : (I197 h0 8).toInt + 0 ≤ (I314 h0 8).toInt := by rw [zpu_o (i := 8) k_h0 eI314 k_h0 (Or.inr (by decide))]; exact F307
          refine lv_aload_n hx hb dX12_readsAll_93 rfl (lv_at hl 1 rfl) ?_
          refine zq_gn E hM k_h0 (zFX12_81 E hZ) (Or.inl ⟨by decide, by decide, by decide, rfl⟩) dX12_readsAll_94 (fun x319 ex319 gx319 => ?_)
          clear gx319
          refine lv_if_ne (tgt := 104) hx hb dX12_readsAll_97 (by decide) (fun b320 => ?_) (fun b320 => ?_)
          · have b320 := zi_ne b320 (rfl : x319.toInt = x319.toInt) (zl_0 : (0 : Int32).toInt = 0)
            refine lv_iconst (v := 0) hx hb dX12_readsAll_104 (by decide +kernel) ?_
            subst hQ
            exact zq_zret E hr hZ hM hS (show 0 ≤ (0 : Int32).toInt ∧ (0 : Int32).toInt ≤ 1 by decide +kernel) ⟨hR, (zWL.wf hWL316), (by have := zl_0; omega)⟩ hlocks dX12_readsAll_105
          · have b320 := zi_eq b320 (rfl : x319.toInt = x319.toInt) (zl_0 : (0 : Int32).toInt = 0)
            refine lv_iconst (v := 1) hx hb dX12_readsAll_100 (by decide +kernel) ?_
            refine lv_goto (tgt := 105) hx hb dX12_readsAll_101 (by decide) ?_
            subst hQ
            exact zq_zret E hr hZ hM hS (show 0 ≤ (1 : Int32).toInt ∧ (1 : Int32).toInt ≤ 1 by decide +kernel) ⟨hR, (zWL.wf hWL316), (by have := zl_1; omega)⟩ hlocks dX12_readsAll_105
        refine lv_if_eq (tgt := 88) hx hb dX12_readsAll_67 (by decide) (fun b321 => ?_) (fun b321 => ?_)
        · have b321 := zi_eq b321 (rfl : j196.toInt = j196.toInt) (zl_0 : (0 : Int32).toInt = 0)
          exact J88 I237 H locs ls hM hS hR F238 F239 F240 F241 (lv_sub hl [0, 1] rfl)
        · have b321 := zi_ne b321 (rfl : j196.toInt = j196.toInt) (zl_0 : (0 : Int32).toInt = 0)
          refine lv_aload_n hx hb dX12_readsAll_70 rfl (lv_at hl 1 rfl) ?_
          refine zq_calli (zq_rV (As := []) (rest := []) E hZ hM k_h0 (c_X12_see l X zk (zn) I237 L h0 k_h0 (by omega) (F238.2.2.2.1)) zmX12_87 zM_X12_see (hro (0) 1 (by first | decide | omega) (by decide)) ⟨by decide, by decide⟩ rfl hl.1 rfl rfl (Nat.le_of_ble_eq_true rfl) dX12_readsAll_71) hS (fun x323 I324 H locs h322 hM hS => ?_)
          obtain ⟨fr325, p326, p327, p328, p329⟩ := h322
          have hR := zq_fr.call hR fr325 (zf_sub (by decide +kernel) (fun _ _ q => q.elim))
          have hG330 : zGo X h0 false 0 I111 I324 := (zGo.wk (zGo.tr F238 (p326 false)) (by decide))
          have hWL331 : zWL X I324 h0 := zWL.go F239 (p326 false) (zfr_s L k_h0 fr325 rfl (by decide) rfl) (zfr_s L k_h0 fr325 rfl (by decide) rfl)
          have hLi332 : zLi X I324 h0 := zLi.eq F240 (zfr_o k_h0 fr325 rfl) (zfr_o k_h0 fr325 rfl) (zfr_s L k_h0 fr325 rfl (by decide) rfl)
          have hNx333 : (I197 h0 8).toInt + 0 ≤ (I324 h0 8).toInt := Int.le_trans F241 (p326 true).2.2.1
          refine lv_iconst (v := (-1)) hx hb dX12_readsAll_74 (by decide +kernel) ?_
          refine lv_icmp_eq (tgt := 88) hx hb dX12_readsAll_75 (by decide) (fun b334 => ?_) (fun b334 => ?_)
          · have b334 := zi_eq b334 (rfl : x323.toInt = x323.toInt) (zl_m1 : (-1 : Int32).toInt = (-1))
            exact J88 I324 H locs ls hM hS hR hG330 hWL331 hLi332 hNx333 (lv_sub hl [0, 1] rfl)
          · have b334 := zi_ne b334 (rfl : x323.toInt = x323.toInt) (zl_m1 : (-1 : Int32).toInt = (-1))
            refine lv_aload_n hx hb dX12_readsAll_78 rfl (lv_at hl 1 rfl) ?_
            refine lv_iconst (v := 0) hx hb dX12_readsAll_79 (by decide +kernel) ?_
            refine lv_aload_n hx hb dX12_readsAll_80 rfl (lv_at hl 1 rfl) ?_
            refine zq_gn E hM k_h0 (zFX12_84 E hZ) (Or.inl ⟨by decide, by decide, by decide, rfl⟩) dX12_readsAll_81 (fun x335 ex335 gx335 => ?_)
            replace gx335 : 0 ≤ x335.toInt ∧ x335.toInt ≤ 400 := gx335
            have := congrArg Int32.toInt ex335
            refine zq_calli (zq_rV (As := [.int (0 : Int32), .int x335]) (rest := []) E hZ hM k_h0 (c_X12_fails l X zk (zn) I324 L h0 k_h0 (0 : Int32) x335 (by have := zl_0; omega)) zmX12_105 zM_X12_fails (hro (0) 3 (by first | decide | omega) (by decide)) ⟨by decide, by decide⟩ rfl hl.1 rfl rfl (Nat.le_of_ble_eq_true rfl) dX12_readsAll_84) hS (fun x337 I338 H locs h336 hM hS => ?_)
            obtain ⟨fr339, p340, p341⟩ := h336
            have := zl_0
            have hR := zq_fr.call hR fr339 (zf_sub (by decide +kernel) (fun _ _ q => q.elim))
            have hG342 : zGo X h0 false 0 I111 I338 := (zGo.wk (zGo.fr hG330 L k_h0 fr339 rfl rfl rfl) (by decide))
            have hWL343 : zWL X I338 h0 := zWL.sg hWL331 (zfr_o k_h0 fr339 rfl) (Nat.le_of_eq (zLn.eq (zfr_o k_h0 fr339 rfl) (zfr_s L k_h0 fr339 rfl (by decide) rfl)).symm) (fun j _ => zfr_s L k_h0 fr339 rfl (by decide) rfl j) (zfr_s L k_h0 fr339 rfl (by decide) rfl) (zfr_s L k_h0 fr339 rfl (by decide) rfl)
            have hLi344 : zLi X I338 h0 := zLi.eq hLi332 (zfr_o k_h0 fr339 rfl) (zfr_o k_h0 fr339 rfl) (zfr_s L k_h0 fr339 rfl (by decide) rfl)
            have hNx345 : (I197 h0 8).toInt + 0 ≤ (I338 h0 8).toInt := by rw [zfr_o (i := 8) k_h0 fr339 rfl]; exact hNx333
            have hE346 : x323.toInt = -1 ∨ zAt X I338 h0 := p328.imp id (fun q9 => zAt.sm q9 (fun _ => ⟨zfr_o k_h0 fr339 rfl, zfr_o k_h0 fr339 rfl, zfr_s L k_h0 fr339 rfl (by decide) rfl⟩))
            refine lv_pop hx hb dX12_readsAll_87 rfl ?_
            exact J88 I338 H locs ls hM hS hR hG342 hWL343 hLi344 hNx345 (lv_sub hl [0, 1] rfl)
      refine lv_if_eq (tgt := 66) hx hb dX12_readsAll_36 (by decide) (fun b348 => ?_) (fun b348 => ?_)
      · have b348 := zi_eq b348 (rfl : j196.toInt = j196.toInt) (zl_0 : (0 : Int32).toInt = 0)
        exact J66 I197 H locs ls hM hS hR F198 F199 F200 hNx0 (lv_sub hl [0, 1] rfl)
      · have b348 := zi_ne b348 (rfl : j196.toInt = j196.toInt) (zl_0 : (0 : Int32).toInt = 0)
        refine lv_aload_n hx hb dX12_readsAll_39 rfl (lv_at hl 1 rfl) ?_
        refine zq_calli (zq_rV (As := []) (rest := []) E hZ hM k_h0 (c_X12_see l X zk (zn) I197 L h0 k_h0 (by omega) (F198.2.2.2.1)) zmX12_87 zM_X12_see (hro (0) 1 (by first | decide | omega) (by decide)) ⟨by decide, by decide⟩ rfl hl.1 rfl rfl (Nat.le_of_ble_eq_true rfl) dX12_readsAll_40) hS (fun x350 I351 H locs h349 hM hS => ?_)
        obtain ⟨fr352, p353, p354, p355, p356⟩ := h349
        have hR := zq_fr.call hR fr352 (zf_sub (by decide +kernel) (fun _ _ q => q.elim))
        have hG357 : zGo X h0 false 0 I111 I351 := (zGo.wk (zGo.tr F198 (p353 false)) (by decide))
        have hWL358 : zWL X I351 h0 := zWL.go F199 (p353 false) (zfr_s L k_h0 fr352 rfl (by decide) rfl) (zfr_s L k_h0 fr352 rfl (by decide) rfl)
        have hLi359 : zLi X I351 h0 := zLi.eq F200 (zfr_o k_h0 fr352 rfl) (zfr_o k_h0 fr352 rfl) (zfr_s L k_h0 fr352 rfl (by decide) rfl)
        have hNx360 : (I197 h0 8).toInt + 0 ≤ (I351 h0 8).toInt := Int.le_trans hNx0 (p353 true).2.2.1
        refine lv_bipush (v := 59) hx hb dX12_readsAll_43 (by decide +kernel) ?_
        refine lv_icmp_ne (tgt := 66) hx hb dX12_readsAll_45 (by decide) (fun b361 => ?_) (fun b361 => ?_)
        · have b361 := zi_ne b361 (rfl : x350.toInt = x350.toInt) (zl_59 : (59 : Int32).toInt = 59)
          exact J66 I351 H locs ls hM hS hR hG357 hWL358 hLi359 hNx360 (lv_sub hl [0, 1] rfl)
        · have b361 := zi_eq b361 (rfl : x350.toInt = x350.toInt) (zl_59 : (59 : Int32).toInt = 59)
          have h48 : (I351 h0 8).toInt < (I351 h0 1).toInt := (p355.resolve_left (by omega)).1
          have hN8362 : 0 ≤ (I351 h0 8).toInt ∧ (I351 h0 8).toInt ≤ 399 := ⟨(zq_rng hM k_h0 8).1, by have q : (I351 h0 1).toInt ≤ 400 := (zq_rng hM k_h0 1).2; omega⟩
          refine lv_aload_n hx hb dX12_readsAll_48 rfl (lv_at hl 1 rfl) ?_
          refine lv_dup hx hb dX12_readsAll_49 rfl ?_
          refine zq_gn E hM k_h0 (zFX12_84 E hZ) (Or.inl ⟨by decide, by decide, by decide, rfl⟩) dX12_readsAll_50 (fun x363 ex363 gx363 => ?_)
          replace gx363 : 0 ≤ x363.toInt ∧ x363.toInt ≤ 400 := gx363
          have fx363 : 0 ≤ x363.toInt ∧ x363.toInt ≤ 399 := by rw [← ex363]; exact hN8362
          have := congrArg Int32.toInt ex363
          refine lv_iconst (v := 1) hx hb dX12_readsAll_53 (by decide +kernel) ?_
          refine lv_iadd hx hb dX12_readsAll_54 ?_
          refine lv_topi (fun x364 ex364 => ?_)
          have tx364 := zi_add ex364 (rfl : x363.toInt = x363.toInt) (zl_1 : (1 : Int32).toInt = 1) ⟨by omega, by omega⟩
          refine zq_pn E hM hS k_h0 (zGX12_84 E hZ) ⟨by decide, by decide, by decide, rfl⟩ (show 0 ≤ x364.toInt ∧ x364.toInt ≤ 400 from ⟨by omega, by omega⟩) dX12_readsAll_55 (fun I365 H locs eI365 hM hS => ?_)
          have hR := zq_fr.putE hR eI365 (zf_i k_h0 rfl rfl)
          have hG366 : zGo X h0 false 1 I111 I365 := (zGo.wk (zGo.p8 hG357 L k_h0 eI365 1 (by rw [ex363]; omega) (by decide) (by omega)) (by decide))
          have hWL367 : zWL X I365 h0 := zWL.sg hWL358 (zpu_o k_h0 eI365 k_h0 (Or.inr (by decide))) (Nat.le_of_eq (zLn.eq (zpu_o k_h0 eI365 k_h0 (Or.inr (by decide))) (zpu_l L k_h0 eI365 k_h0 (by decide))).symm) (fun j _ => zpu_s L k_h0 eI365 k_h0 (by decide) j) (fun j => zq_kp eI365 (Or.inl (zq_kne (zq_lk L.1 k_h0 rfl (by decide) : zq_k X (zq_r X h0 5) = 53) k_h0 (by decide))) rfl) (fun j => zq_kp eI365 (Or.inl (zq_kne (zq_lk L.1 k_h0 rfl (by decide) : zq_k X (zq_r X h0 6) = 54) k_h0 (by decide))) rfl)
          have hLi368 : zLi X I365 h0 := zLi.eq hLi359 (zpu_o k_h0 eI365 k_h0 (Or.inr (by decide))) (zpu_o k_h0 eI365 k_h0 (Or.inr (by decide))) (fun j => zq_kp eI365 (Or.inl (zq_kne (zq_lk L.1 k_h0 rfl (by decide) : zq_k X (zq_r X h0 6) = 54) k_h0 (by decide))) rfl)
          have hNx369 : (I197 h0 8).toInt + 1 ≤ (I365 h0 8).toInt := by have q9 := hNx360; rw [zq_kv eI365]; omega
          refine lv_aload_n hx hb dX12_readsAll_58 rfl (lv_at hl 1 rfl) ?_
          refine zq_calli (zq_rV (As := []) (rest := []) E hZ hM k_h0 (c_X12_clauseHere l X zk (zn) I365 L h0 k_h0 (by omega) (hG366.2.2.2.1) (zGo.len hG366 (by decide) hL5) (hWL367) (hLi368)) zmX12_251 zM_X12_clauseHere (hro (10) 3 (by first | decide | omega) (by decide)) ⟨by decide, by decide⟩ rfl hl.1 rfl rfl (Nat.le_of_ble_eq_true rfl) dX12_readsAll_59) hS (fun x373 I374 H locs h372 hM hS => ?_)
          obtain ⟨fr375, p376, p377, p378, p379⟩ := h372
          have hR := zq_fr.call hR fr375 (zf_sub (by decide +kernel) (fun _ _ q => q.elim))
          have hG380 : zGo X h0 false 1 I111 I374 := (zGo.wk (zGo.tr hG366 p376) (by decide))
          have hWL381 : zWL X I374 h0 := p377
          have hLi382 : zLi X I374 h0 := p378
          have hNx383 : (I197 h0 8).toInt + 1 ≤ (I374 h0 8).toInt := Int.le_trans hNx369 (p376).2.2.1
          refine lv_istore_n (lv' := [(1, .int x373), (0, .ref h0)]) hx hb dX12_readsAll_62 rfl hl (by decide) rfl (fun ls hl => ?_)
          refine W.eq (g2 := F0 m 63 ls []) rfl ?_
          refine lv_goto (tgt := 35) hx hb dX12_readsAll_63 (by decide) ?_
          exact ih35 I374 H locs ls x373 (by have q9 := hNx383; omega) hM hS hR (⟨by omega, by omega⟩) (zGo.wk hG380 (by decide)) hWL381 hLi382 (lv_sub hl [0, 1] rfl)
  exact J35 (401 - (I115 h0 8).toInt).toNat I115 H locs ls x114 (by omega) hM hS hR (⟨by omega, by omega⟩) hG121 hWL122 hLi123 (lv_sub hl [0, 1] rfl)
def zw_X12_rule : List (Nat × Nat) := [(10, 1), (10, 2), (10, 8), (10, 9), (10, 10), (10, 11), (10, 12), (10, 13), (10, 14), (10, 16), (51, 999), (52, 999), (53, 999), (54, 999), (55, 999), (56, 999)]
set_option maxHeartbeats 8000000 in
set_option maxRecDepth 100000 in
theorem c_X12_rule (l : Launch) (X : zq_X) (zk zn : Nat) (I : zq_M) (L : zq_L X)  (h0 : Nat) (k_h0 : zq_k X h0 = 10) (q_0 : zk ≤ 4400 ∧ zn ≤ 4400) (q_1 : zWF X I h0) : Met l yX12_rule (zt_w yX12_rule cX12_rule 1 (some .int)) (zq_rm (12)) (va_Pc [.ref h0] (zq_W X (zk, zn) I)) (va_Qi (fun (r : Int32) I2 => zq_fr (zf X zw_X12_rule (fun _ => False)) I I2 ∧ (zWF X I2 h0)) (zq_E X (zk, zn)) (zq_A X)) 0 0 (zq_A X) := by
  refine Met.ofW (cc := cX12_rule) (maxL := 1) (ret := (some .int)) (by decide) rfl ?_
  intro p e s m args below meth c s₁ B hml hv
  obtain ⟨hargs, hM, hZ⟩ := hv
  have hown : s.vm.findClass RX12 = some m.cls := findClass_of_methodNamed B.named
  have hts := atoms_spec (ws := zt_w yX12_rule cX12_rule 1 (some .int)) B.pre
  have E : CallFix p m c cX12_rule 1 s args (Cond.code yX12_rule cX12_rule 1 (some .int) :: zt) RX12 := ⟨B.exec, B.bytes, hml, hown, hts⟩
  have hx := B.exec
  have hb := B.bytes
  have hr := B.returns
  have hlocks := B.notSynchronized
  clear B
  have hS : va_S (zq_A X) s.heap s.heap [] := va_S.rf
  have hR : zq_fr (zf X zw_X12_rule (fun _ => False)) I I := zq_fr.rf
  have hl := lv_entry ([.ref h0]) (n := 1) (by exact Nat.le_of_ble_eq_true rfl)
  have hg : entryFrame m args 1 = F0 m 0 ((lg_sl ([.ref h0]) ++ List.replicate (1 - (lg_sl ([.ref h0])).length) Slot.unset).toArray) [] := by rw [hargs]; exact lg_entry_eq m ([.ref h0]) 1
  rw [hg]
  clear hg hargs
  generalize (lg_sl ([.ref h0]) ++ List.replicate (1 - (lg_sl ([.ref h0])).length) Slot.unset).toArray = ls at hl ⊢
  have hl : lv_has ls 1 [(0, .ref h0)] := by exact hl
  obtain ⟨R, hRm⟩ : ∃ R : Room, R = (headSpec (zt_w yX12_rule cX12_rule 1 (some .int)) (zq_rm (12))).room := ⟨_, rfl⟩
  rw [← hRm]
  have hro : ∀ d q : Nat, d + 1 ≤ 12 → q ≤ 45 → zq_rok d q R := fun d q h1 h2 => by rw [hRm]; exact zq_rokI h1 h2
  generalize hQ : MQ below _ args s 0 0 (zq_A X) = Q
  obtain ⟨H, hH⟩ : ∃ H, H = s.heap := ⟨_, rfl⟩
  obtain ⟨locs, hlo⟩ : ∃ x : List Loc, x = [] := ⟨_, rfl⟩
  rw [show W p l e R s m args below meth c s.heap [] 0 0 Q = W p l e R s m args below meth c H locs 0 0 Q by rw [hH, hlo]]
  have hM : zq_hm X (zk, zn) I H := by rw [hH]; exact hM
  have hS : va_S (zq_A X) s.heap H locs := by rw [hH, hlo]; exact hS
  clear hH hlo
  refine lv_aload_n hx hb dX12_rule_0 rfl (lv_at hl 0 rfl) ?_
  refine zq_gn E hM k_h0 (zFX12_254 E hZ) (Or.inl ⟨by decide, by decide, by decide, rfl⟩) dX12_rule_1 (fun x101 ex101 gx101 => ?_)
  replace gx101 : 0 ≤ x101.toInt ∧ x101.toInt ≤ 6 := gx101
  have := congrArg Int32.toInt ex101
  refine lv_bipush (v := 6) hx hb dX12_rule_4 (by decide +kernel) ?_
  refine lv_icmp_ne (tgt := 11) hx hb dX12_rule_6 (by decide) (fun b102 => ?_) (fun b102 => ?_)
  · have b102 := zi_ne b102 (rfl : x101.toInt = x101.toInt) (zl_6 : (6 : Int32).toInt = 6)
    refine lv_aload_n hx hb dX12_rule_11 rfl (lv_at hl 0 rfl) ?_
    refine lv_aload_n hx hb dX12_rule_12 rfl (lv_at hl 0 rfl) ?_
    refine zq_gk (v := x101) E hM k_h0 (zFX12_254 E hZ) (Or.inl ⟨by decide, by decide, by decide, rfl⟩) ex101 dX12_rule_13 ?_
    refine zq_pn E hM hS k_h0 (zGX12_142 E hZ) ⟨by decide, by decide, by decide, rfl⟩ (show 0 ≤ x101.toInt ∧ x101.toInt ≤ 6 from ⟨by omega, by omega⟩) dX12_rule_16 (fun I103 H locs eI103 hM hS => ?_)
    have hR := zq_fr.putE hR eI103 (zf_i k_h0 rfl rfl)
    have hWF104 := zWF.put q_1 L k_h0 eI103 k_h0 (by decide)
    refine lv_aload_n hx hb dX12_rule_19 rfl (lv_at hl 0 rfl) ?_
    refine zq_getr E hM k_h0 (zFX12_23 E hZ) ⟨by decide, by decide, by decide, rfl⟩ dX12_rule_20 ?_
    have k105 : zq_k X (zq_r X h0 6) = 54 := zq_lk L.1 k_h0 rfl (by decide)
    refine lv_aload_n hx hb dX12_rule_23 rfl (lv_at hl 0 rfl) ?_
    refine zq_gk (v := x101) E hM k_h0 (zFX12_142 E hZ) (Or.inl ⟨by decide, by decide, by decide, rfl⟩) (zq_kv eI103) dX12_rule_24 ?_
    refine lv_iconst (v := 0) hx hb dX12_rule_27 (by decide +kernel) ?_
    refine W.eq (g2 := F0 m 28 ls [.int (0 : Int32), .int x101, .ref (zq_r X h0 6)]) rfl ?_
    refine zq_isn (n := 6) (j := (x101.toNatClampNeg)) E hZ hM hS k105 ⟨by decide, rfl⟩ ⟨by omega, by omega⟩ rfl (show 0 ≤ (0 : Int32).toInt ∧ (0 : Int32).toInt ≤ 12 by decide +kernel) dX12_rule_28 (fun I106 H locs eI106 hM hS => ?_)
    have hR := zq_fr.putE hR eI106 (zf_ia k105 (by decide) rfl)
    have hWF29 : zWF X I106 h0 := zWF.zero hWF104 L k_h0 eI106 (by decide +kernel)
    refine lv_aload_n hx hb dX12_rule_29 rfl (lv_at hl 0 rfl) ?_
    refine zq_calli (zq_rV (As := []) (rest := []) E hZ hM k_h0 (c_X12_readsAll l X zk (zn) I106 L h0 k_h0 (by omega) (hWF29) (fun _ => by rw [show zTx I106 h0 = x101.toNatClampNeg by unfold zTx; rw [(zq_kp eI106 (Or.inl (zq_kne k_h0 k105 (by decide))) (zq_kv eI103))], zq_kv eI106]; decide +kernel)) zmX12_257 zM_X12_readsAll (hro (11) 2 (by first | decide | omega) (by decide)) ⟨by decide, by decide⟩ rfl hl.1 rfl rfl (Nat.le_of_ble_eq_true rfl) dX12_rule_30) hS (fun x109 I110 H locs h108 hM hS => ?_)
    obtain ⟨fr111, p112, p113⟩ := h108
    have hR := zq_fr.call hR fr111 (zf_sub (by decide +kernel) (fun _ _ q => q.elim))
    refine lv_if_ne (tgt := 44) hx hb dX12_rule_33 (by decide) (fun b115 => ?_) (fun b115 => ?_)
    · have b115 := zi_ne b115 (rfl : x109.toInt = x109.toInt) (zl_0 : (0 : Int32).toInt = 0)
      refine lv_aload_n hx hb dX12_rule_44 rfl (lv_at hl 0 rfl) ?_
      refine lv_dup hx hb dX12_rule_45 rfl ?_
      refine zq_gk (v := x101) E hM k_h0 (zFX12_254 E hZ) (Or.inl ⟨by decide, by decide, by decide, rfl⟩) (zq_fr.kp fr111 (zf_n k_h0 rfl) (zq_kp eI106 (Or.inl (zq_kne k_h0 k105 (by decide))) (zq_kp eI103 (Or.inr (by decide)) ex101))) dX12_rule_46 ?_
      refine lv_iconst (v := 1) hx hb dX12_rule_49 (by decide +kernel) ?_
      refine lv_iadd hx hb dX12_rule_50 ?_
      refine lv_topi (fun x116 ex116 => ?_)
      have tx116 := zi_add ex116 (rfl : x101.toInt = x101.toInt) (zl_1 : (1 : Int32).toInt = 1) ⟨by omega, by omega⟩
      refine zq_pn E hM hS k_h0 (zGX12_254 E hZ) ⟨by decide, by decide, by decide, rfl⟩ (show 0 ≤ x116.toInt ∧ x116.toInt ≤ 6 from ⟨by omega, by omega⟩) dX12_rule_51 (fun I117 H locs eI117 hM hS => ?_)
      have hR := zq_fr.putE hR eI117 (zf_i k_h0 rfl rfl)
      have hWF118 := zWF.put p112 L k_h0 eI117 k_h0 (by decide)
      refine lv_aload_n hx hb dX12_rule_54 rfl (lv_at hl 0 rfl) ?_
      refine zq_gk (v := x116) E hM k_h0 (zFX12_254 E hZ) (Or.inl ⟨by decide, by decide, by decide, rfl⟩) (zq_kv eI117) dX12_rule_55 ?_
      refine lv_iconst (v := 1) hx hb dX12_rule_58 (by decide +kernel) ?_
      refine W.eq (g2 := F0 m 59 ls [.int (1 : Int32), .int x116]) rfl ?_
      refine lv_isub hx hb dX12_rule_59 ?_
      refine lv_topi (fun x119 ex119 => ?_)
      have tx119 := zi_sub ex119 (rfl : x116.toInt = x116.toInt) (zl_1 : (1 : Int32).toInt = 1) ⟨by omega, by omega⟩
      subst hQ
      exact zq_iret E hr hZ hM hS ⟨hR, (hWF118)⟩ hlocks dX12_rule_60
    · have b115 := zi_eq b115 (rfl : x109.toInt = x109.toInt) (zl_0 : (0 : Int32).toInt = 0)
      refine lv_bipush (v := (-2)) hx hb dX12_rule_36 (by decide +kernel) ?_
      refine lv_aload_n hx hb dX12_rule_38 rfl (lv_at hl 0 rfl) ?_
      refine zq_gn E hM k_h0 (zFX12_81 E hZ) (Or.inl ⟨by decide, by decide, by decide, rfl⟩) dX12_rule_39 (fun x120 ex120 gx120 => ?_)
      clear gx120
      refine lv_isub hx hb dX12_rule_42 ?_
      refine lv_topi (fun x121 ex121 => ?_)
      subst hQ
      exact zq_iret E hr hZ hM hS ⟨hR, (p112)⟩ hlocks dX12_rule_43
  · have b102 := zi_eq b102 (rfl : x101.toInt = x101.toInt) (zl_6 : (6 : Int32).toInt = 6)
    refine lv_iconst (v := (-1)) hx hb dX12_rule_9 (by decide +kernel) ?_
    subst hQ
    exact zq_iret E hr hZ hM hS ⟨hR, (q_1)⟩ hlocks dX12_rule_10
def zw_X12_trade : List (Nat × Nat) := [(10, 1), (10, 8), (10, 9), (10, 10), (10, 11), (10, 12), (10, 13), (10, 14), (10, 16), (10, 25), (51, 999), (52, 999), (53, 999), (54, 999), (55, 999), (56, 999), (59, 999)]
set_option maxHeartbeats 8000000 in
set_option maxRecDepth 100000 in
theorem c_X12_trade (l : Launch) (X : zq_X) (zk zn : Nat) (I : zq_M) (L : zq_L X)  (h0 : Nat) (k_h0 : zq_k X h0 = 10) (q_0 : zk ≤ 4400 ∧ zn ≤ 4400) (q_1 : zWF X I h0) : Met l yX12_trade (zt_w yX12_trade cX12_trade 2 (some .int)) (zq_rm (12)) (va_Pc [.ref h0] (zq_W X (zk, zk) I)) (va_Qi (fun (r : Int32) I2 => zq_fr (zf X zw_X12_trade (fun _ => False)) I I2 ∧ (zWF X I2 h0)) (zq_E X (zk, zk)) (zq_A X)) 0 0 (zq_A X) := by
  refine Met.ofW (cc := cX12_trade) (maxL := 2) (ret := (some .int)) (by decide) rfl ?_
  intro p e s m args below meth c s₁ B hml hv
  obtain ⟨hargs, hM, hZ⟩ := hv
  have hown : s.vm.findClass RX12 = some m.cls := findClass_of_methodNamed B.named
  have hts := atoms_spec (ws := zt_w yX12_trade cX12_trade 2 (some .int)) B.pre
  have E : CallFix p m c cX12_trade 2 s args (Cond.code yX12_trade cX12_trade 2 (some .int) :: zt) RX12 := ⟨B.exec, B.bytes, hml, hown, hts⟩
  have hx := B.exec
  have hb := B.bytes
  have hr := B.returns
  have hlocks := B.notSynchronized
  clear B
  have hS : va_S (zq_A X) s.heap s.heap [] := va_S.rf
  have hR : zq_fr (zf X zw_X12_trade (fun _ => False)) I I := zq_fr.rf
  have hl := lv_entry ([.ref h0]) (n := 2) (by exact Nat.le_of_ble_eq_true rfl)
  have hg : entryFrame m args 2 = F0 m 0 ((lg_sl ([.ref h0]) ++ List.replicate (2 - (lg_sl ([.ref h0])).length) Slot.unset).toArray) [] := by rw [hargs]; exact lg_entry_eq m ([.ref h0]) 2
  rw [hg]
  clear hg hargs
  generalize (lg_sl ([.ref h0]) ++ List.replicate (2 - (lg_sl ([.ref h0])).length) Slot.unset).toArray = ls at hl ⊢
  have hl : lv_has ls 2 [(0, .ref h0)] := by exact hl
  obtain ⟨R, hRm⟩ : ∃ R : Room, R = (headSpec (zt_w yX12_trade cX12_trade 2 (some .int)) (zq_rm (12))).room := ⟨_, rfl⟩
  rw [← hRm]
  have hro : ∀ d q : Nat, d + 1 ≤ 12 → q ≤ 45 → zq_rok d q R := fun d q h1 h2 => by rw [hRm]; exact zq_rokI h1 h2
  generalize hQ : MQ below _ args s 0 0 (zq_A X) = Q
  obtain ⟨H, hH⟩ : ∃ H, H = s.heap := ⟨_, rfl⟩
  obtain ⟨locs, hlo⟩ : ∃ x : List Loc, x = [] := ⟨_, rfl⟩
  rw [show W p l e R s m args below meth c s.heap [] 0 0 Q = W p l e R s m args below meth c H locs 0 0 Q by rw [hH, hlo]]
  have hM : zq_hm X (zk, zk) I H := by rw [hH]; exact hM
  have hS : va_S (zq_A X) s.heap H locs := by rw [hH, hlo]; exact hS
  clear hH hlo
  refine lv_aload_n hx hb dX12_trade_0 rfl (lv_at hl 0 rfl) ?_
  refine lv_bipush (v := 6) hx hb dX12_trade_1 (by decide +kernel) ?_
  refine zq_pn E hM hS k_h0 (zGX12_142 E hZ) ⟨by decide, by decide, by decide, rfl⟩ (show 0 ≤ (6 : Int32).toInt ∧ (6 : Int32).toInt ≤ 6 by decide +kernel) dX12_trade_3 (fun I101 H locs eI101 hM hS => ?_)
  have hR := zq_fr.putE hR eI101 (zf_i k_h0 rfl rfl)
  have hWF102 := zWF.put q_1 L k_h0 eI101 k_h0 (by decide)
  refine lv_iconst (v := 0) hx hb dX12_trade_6 (by decide +kernel) ?_
  refine lv_istore_n (lv' := [(1, .int (0 : Int32)), (0, .ref h0)]) hx hb dX12_trade_7 rfl hl (by decide) rfl (fun ls hl => ?_)
  have J8 : ∀ (n345 : Nat) (I342 : zq_M) (H : Heap) (locs : List Loc) (ls : Array Slot) (j341 : Int32), 85 + 1 - j341.toInt ≤ ((n345 : Nat) : Int) → (zq_hm X (zk, zk) I342 H) → (va_S (zq_A X) s.heap H locs) → (zq_fr (zf X zw_X12_trade (fun _ => False)) I I342) → (0 ≤ j341.toInt ∧ j341.toInt ≤ 85) → (zWF X I342 h0) → (I342 h0 11 = (6 : Int32)) → (lv_has ls 2 [(1, .int j341), (0, .ref h0)]) → W p l e R s m args below meth c H locs 0 0 Q (F0 m 8 ls []) := by
    intro n345
    induction n345 with
    | zero => intro I342 H locs ls j341 mu346 hM hS hR gj341 F343 F344 hl; exfalso; have := zi_rng j341; omega
    | succ n345 ih8 =>
      intro I342 H locs ls j341 mu346 hM hS hR gj341 F343 F344 hl
      refine lv_iload_n hx hb dX12_trade_8 rfl (lv_at hl 0 rfl) ?_
      refine lv_bipush (v := 85) hx hb dX12_trade_9 (by decide +kernel) ?_
      refine lv_icmp_ge (tgt := 27) hx hb dX12_trade_11 (by decide) (fun b347 => ?_) (fun b347 => ?_)
      · have b347 := zi_le b347 (zl_85 : (85 : Int32).toInt = 85) (rfl : j341.toInt = j341.toInt)
        refine lv_aload_n hx hb dX12_trade_27 rfl (lv_at hl 1 rfl) ?_
        refine zq_calli (zq_rV (As := []) (rest := []) E hZ hM k_h0 (c_X12_readsAll l X zk (zk) I342 L h0 k_h0 (by omega) (F343) (fun q => absurd q (by rw [F344]; decide +kernel))) zmX12_257 zM_X12_readsAll (hro (11) 2 (by first | decide | omega) (by decide)) ⟨by decide, by decide⟩ rfl hl.1 rfl rfl (Nat.le_of_ble_eq_true rfl) dX12_trade_28) hS (fun x349 I350 H locs h348 hM hS => ?_)
        obtain ⟨fr351, p352, p353⟩ := h348
        have hR := zq_fr.call hR fr351 (zf_sub (by decide +kernel) (fun _ _ q => q.elim))
        have hK355 := (zq_fr.kp fr351 (zf_n k_h0 rfl) F344)
        refine lv_if_ne (tgt := 42) hx hb dX12_trade_31 (by decide) (fun b356 => ?_) (fun b356 => ?_)
        · have b356 := zi_ne b356 (rfl : x349.toInt = x349.toInt) (zl_0 : (0 : Int32).toInt = 0)
          refine lv_iconst (v := 0) hx hb dX12_trade_42 (by decide +kernel) ?_
          refine lv_istore_n (lv' := [(1, .int (0 : Int32)), (0, .ref h0)]) hx hb dX12_trade_43 rfl hl (by decide) rfl (fun ls hl => ?_)
          have J44 : ∀ (n429 : Nat) (I426 : zq_M) (H : Heap) (locs : List Loc) (ls : Array Slot) (j425 : Int32), 106 + 1 - j425.toInt ≤ ((n429 : Nat) : Int) → (zq_hm X (zk, zk) I426 H) → (va_S (zq_A X) s.heap H locs) → (zq_fr (zf X zw_X12_trade (fun _ => False)) I I426) → (0 ≤ j425.toInt ∧ j425.toInt ≤ 106) → (I426 h0 11 = (6 : Int32)) → (zWF X I426 h0) → (lv_has ls 2 [(1, .int j425), (0, .ref h0)]) → W p l e R s m args below meth c H locs 0 0 Q (F0 m 44 ls []) := by
            intro n429
            induction n429 with
            | zero => intro I426 H locs ls j425 mu430 hM hS hR gj425 F427 F428 hl; exfalso; have := zi_rng j425; omega
            | succ n429 ih44 =>
              intro I426 H locs ls j425 mu430 hM hS hR gj425 F427 F428 hl
              refine lv_iload_n hx hb dX12_trade_44 rfl (lv_at hl 0 rfl) ?_
              refine lv_bipush (v := 106) hx hb dX12_trade_45 (by decide +kernel) ?_
              refine lv_icmp_ge (tgt := 78) hx hb dX12_trade_47 (by decide) (fun b431 => ?_) (fun b431 => ?_)
              · have b431 := zi_le b431 (zl_106 : (106 : Int32).toInt = 106) (rfl : j425.toInt = j425.toInt)
                refine lv_aload_n hx hb dX12_trade_78 rfl (lv_at hl 1 rfl) ?_
                refine zq_callv (zq_rV (As := []) (rest := []) E hZ hM k_h0 (c_X12_begins l X zk (zk) I426 L h0 k_h0 (by omega)) zmX12_260 zM_X12_begins (hro (0) 3 (by first | decide | omega) (by decide)) ⟨by decide, by decide⟩ rfl hl.1 rfl rfl (Nat.le_of_ble_eq_true rfl) dX12_trade_79) hS (fun I434 H locs h432 hM hS => ?_)
                have fr435 := h432
                have hR := zq_fr.call hR fr435 (zf_sub (by decide +kernel) (fun _ _ q => q.elim))
                have hK436 := (zq_fr.kp fr435 (zf_n k_h0 rfl) F427)
                have hWF437 := zWF.fr F428 L k_h0 fr435 (by decide)
                refine lv_aload_n hx hb dX12_trade_82 rfl (lv_at hl 1 rfl) ?_
                refine lv_iconst (v := 0) hx hb dX12_trade_83 (by decide +kernel) ?_
                refine zq_pn E hM hS k_h0 (zGX12_263 E hZ) ⟨by decide, by decide, by decide, rfl⟩ (show 0 ≤ (0 : Int32).toInt ∧ (0 : Int32).toInt ≤ 20 by decide +kernel) dX12_trade_84 (fun I438 H locs eI438 hM hS => ?_)
                have hR := zq_fr.putE hR eI438 (zf_i k_h0 rfl rfl)
                have hK439 := (zq_kp eI438 (Or.inr (by decide)) hK436)
                have hWF440 := zWF.put hWF437 L k_h0 eI438 k_h0 (by decide)
                refine lv_aload_n hx hb dX12_trade_87 rfl (lv_at hl 1 rfl) ?_
                refine zq_getr E hM k_h0 (zFX12_39 E hZ) ⟨by decide, by decide, by decide, rfl⟩ dX12_trade_88 ?_
                have k441 : zq_k X (zq_r X h0 20) = 59 := zq_lk L.1 k_h0 rfl (by decide)
                refine lv_iconst (v := 3) hx hb dX12_trade_91 (by decide +kernel) ?_
                refine zq_ian (n := 106) (j := 3) E hZ hM k441 ⟨by decide, rfl⟩ (by rw [zl_3]; decide) (by decide +kernel) dX12_trade_92 (fun x442 ex442 gx442 => ?_)
                replace gx442 : 0 ≤ x442.toInt ∧ x442.toInt ≤ 4 := gx442
                refine W.eq (g2 := F0 m 93 ls [.int x442]) rfl ?_
                subst hQ
                exact zq_iret E hr hZ hM hS ⟨hR, (hWF440)⟩ hlocks dX12_trade_93
              · have b431 := zi_nle b431 (zl_106 : (106 : Int32).toInt = 106) (rfl : j425.toInt = j425.toInt)
                refine lv_aload_n hx hb dX12_trade_50 rfl (lv_at hl 1 rfl) ?_
                refine zq_getr E hM k_h0 (zFX12_39 E hZ) ⟨by decide, by decide, by decide, rfl⟩ dX12_trade_51 ?_
                have k443 : zq_k X (zq_r X h0 20) = 59 := zq_lk L.1 k_h0 rfl (by decide)
                refine lv_iload_n hx hb dX12_trade_54 rfl (lv_at hl 0 rfl) ?_
                refine lv_iload_n hx hb dX12_trade_55 rfl (lv_at hl 0 rfl) ?_
                refine lv_bipush (v := 85) hx hb dX12_trade_56 (by decide +kernel) ?_
                have J71 : ∀ (ls : Array Slot) (j446 : Int32), ((zq_rg (zk, zk) 59 j425.toNatClampNeg).1 ≤ j446.toInt ∧ j446.toInt ≤ (zq_rg (zk, zk) 59 j425.toNatClampNeg).2) → (lv_has ls 2 [(1, .int j425), (0, .ref h0)]) → W p l e R s m args below meth c H locs 0 0 Q (F0 m 71 ls [.int j446, .int j425, .ref (zq_r X h0 20)]) := by
                  intro ls j446 h71 hl
                  refine zq_isn (n := 106) (j := (j425.toNatClampNeg)) E hZ hM hS k443 ⟨by decide, rfl⟩ ⟨by omega, by omega⟩ rfl h71 dX12_trade_71 (fun I451 H locs eI451 hM hS => ?_)
                  have hR := zq_fr.putE hR eI451 (zf_ia k443 (by decide) rfl)
                  have hK452 := (zq_kp eI451 (Or.inl (zq_kne k_h0 k443 (by decide))) F427)
                  have hWF453 := zWF.put F428 L k_h0 eI451 k443 (by decide)
                  obtain ⟨x454, ex454⟩ : ∃ y : Int32, y = j425 + 1 := ⟨_, rfl⟩
                  have tx454 := zi_add ex454 (rfl : j425.toInt = j425.toInt) zl_1 ⟨by omega, by omega⟩
                  refine lv_iinc (v := x454) (lv' := [(1, .int x454), (0, .ref h0)]) hx hb dX12_trade_72 hl (k := 0) rfl (by rw [ex454]; rfl) (by decide) rfl (fun ls hl => ?_)
                  refine lv_goto (tgt := 44) hx hb dX12_trade_75 (by decide) ?_
                  exact ih44 I451 H locs ls x454 (by omega) hM hS hR (⟨by omega, by omega⟩) hK452 hWF453 (lv_sub hl [0, 1] rfl)
                refine lv_icmp_ge (tgt := 70) hx hb dX12_trade_58 (by decide) (fun b455 => ?_) (fun b455 => ?_)
                · have b455 := zi_le b455 (zl_85 : (85 : Int32).toInt = 85) (rfl : j425.toInt = j425.toInt)
                  refine lv_iconst (v := 0) hx hb dX12_trade_70 (by decide +kernel) ?_
                  exact J71 ls (0 : Int32) (by rw [zl_0]; exact zk_0 _ _) (lv_sub hl [0, 1] rfl)
                · have b455 := zi_nle b455 (zl_85 : (85 : Int32).toInt = 85) (rfl : j425.toInt = j425.toInt)
                  refine lv_aload_n hx hb dX12_trade_61 rfl (lv_at hl 1 rfl) ?_
                  refine zq_getr E hM k_h0 (zFX12_26 E hZ) ⟨by decide, by decide, by decide, rfl⟩ dX12_trade_62 ?_
                  have k456 : zq_k X (zq_r X h0 7) = 55 := zq_lk L.1 k_h0 rfl (by decide)
                  refine lv_iload_n hx hb dX12_trade_65 rfl (lv_at hl 0 rfl) ?_
                  refine zq_ian (n := 85) (j := (j425.toNatClampNeg)) E hZ hM k456 ⟨by decide, rfl⟩ ⟨by omega, by omega⟩ rfl dX12_trade_66 (fun x457 ex457 gx457 => ?_)
                  refine lv_goto (tgt := 71) hx hb dX12_trade_67 (by decide) ?_
                  exact J71 ls x457 (zk_h gx457 rfl) (lv_sub hl [0, 1] rfl)
          exact J44 (106 + 1 - (0 : Int32).toInt).toNat I350 H locs ls (0 : Int32) (by omega) hM hS hR (by rw [zl_0]; decide) hK355 p352 (lv_sub hl [0, 1] rfl)
        · have b356 := zi_eq b356 (rfl : x349.toInt = x349.toInt) (zl_0 : (0 : Int32).toInt = 0)
          refine lv_bipush (v := (-2)) hx hb dX12_trade_34 (by decide +kernel) ?_
          refine lv_aload_n hx hb dX12_trade_36 rfl (lv_at hl 1 rfl) ?_
          refine zq_gn E hM k_h0 (zFX12_81 E hZ) (Or.inl ⟨by decide, by decide, by decide, rfl⟩) dX12_trade_37 (fun x458 ex458 gx458 => ?_)
          clear gx458
          refine lv_isub hx hb dX12_trade_40 ?_
          refine lv_topi (fun x459 ex459 => ?_)
          subst hQ
          exact zq_iret E hr hZ hM hS ⟨hR, (p352)⟩ hlocks dX12_trade_41
      · have b347 := zi_nle b347 (zl_85 : (85 : Int32).toInt = 85) (rfl : j341.toInt = j341.toInt)
        refine lv_aload_n hx hb dX12_trade_14 rfl (lv_at hl 1 rfl) ?_
        refine zq_getr E hM k_h0 (zFX12_26 E hZ) ⟨by decide, by decide, by decide, rfl⟩ dX12_trade_15 ?_
        have k460 : zq_k X (zq_r X h0 7) = 55 := zq_lk L.1 k_h0 rfl (by decide)
        refine lv_iload_n hx hb dX12_trade_18 rfl (lv_at hl 0 rfl) ?_
        refine lv_iconst (v := 0) hx hb dX12_trade_19 (by decide +kernel) ?_
        refine zq_isn (n := 85) (j := (j341.toNatClampNeg)) E hZ hM hS k460 ⟨by decide, rfl⟩ ⟨by omega, by omega⟩ rfl (by rw [zl_0]; exact zk_0 _ _) dX12_trade_20 (fun I461 H locs eI461 hM hS => ?_)
        have hR := zq_fr.putE hR eI461 (zf_ia k460 (by decide) rfl)
        have hWF462 := zWF.put F343 L k_h0 eI461 k460 (by decide)
        have hK463 := (zq_kp eI461 (Or.inl (zq_kne k_h0 k460 (by decide))) F344)
        obtain ⟨x464, ex464⟩ : ∃ y : Int32, y = j341 + 1 := ⟨_, rfl⟩
        have tx464 := zi_add ex464 (rfl : j341.toInt = j341.toInt) zl_1 ⟨by omega, by omega⟩
        refine lv_iinc (v := x464) (lv' := [(1, .int x464), (0, .ref h0)]) hx hb dX12_trade_21 hl (k := 0) rfl (by rw [ex464]; rfl) (by decide) rfl (fun ls hl => ?_)
        refine lv_goto (tgt := 8) hx hb dX12_trade_24 (by decide) ?_
        exact ih8 I461 H locs ls x464 (by omega) hM hS hR (⟨by omega, by omega⟩) hWF462 hK463 (lv_sub hl [0, 1] rfl)
  exact J8 (85 + 1 - (0 : Int32).toInt).toNat I101 H locs ls (0 : Int32) (by omega) hM hS hR (by rw [zl_0]; decide) hWF102 (zq_kv eI101) (lv_sub hl [0, 1] rfl)
