def zw_X7_giveAway : List (Nat × Nat) := [(7, 2), (7, 4)]
set_option maxHeartbeats 8000000 in
set_option maxRecDepth 100000 in
theorem c_X7_giveAway (l : Launch) (X : zq_X) (zk zn : Nat) (I : zq_M) (L : zq_L X) (b : Int) (h0 : Nat) (k_h0 : zq_k X h0 = 7) (p1 : Int32) (g_p1 : 0 ≤ p1.toInt ∧ p1.toInt ≤ 1000000) (q_0 : zT I b h0) (q_1 : p1.toInt ≤ (I h0 4).toInt) (q_2 : b ≤ 1000000) : Met l yX7_giveAway (zt_w yX7_giveAway cX7_giveAway 2 none) (zq_rm (1)) (va_Pc [.ref h0, .int p1] (zq_W X (zk, zn) I)) (va_Qv (fun I2 => zq_fr (zf X zw_X7_giveAway (fun b => b = h0)) I I2 ∧ (zT I2 b h0)) (zq_E X (zk, zn)) (zq_A X)) 0 0 (zq_A X) := by
  refine Met.ofW (cc := cX7_giveAway) (maxL := 2) (ret := none) (by decide) rfl ?_
  intro p e s m args below meth c s₁ B hml hv
  obtain ⟨hargs, hM, hZ⟩ := hv
  have hown : s.vm.findClass RX7 = some m.cls := findClass_of_methodNamed B.named
  have hts := atoms_spec (ws := zt_w yX7_giveAway cX7_giveAway 2 none) B.pre
  have E : CallFix p m c cX7_giveAway 2 s args (Cond.code yX7_giveAway cX7_giveAway 2 none :: zt) RX7 := ⟨B.exec, B.bytes, hml, hown, hts⟩
  have hx := B.exec
  have hb := B.bytes
  have hr := B.returns
  have hlocks := B.notSynchronized
  clear B
  have hS : va_S (zq_A X) s.heap s.heap [] := va_S.rf
  have hR : zq_fr (zf X zw_X7_giveAway (fun b => b = h0)) I I := zq_fr.rf
  have hl := lv_entry ([.ref h0, .int p1]) (n := 2) (by exact Nat.le_of_ble_eq_true rfl)
  have hg : entryFrame m args 2 = F0 m 0 ((lg_sl ([.ref h0, .int p1]) ++ List.replicate (2 - (lg_sl ([.ref h0, .int p1])).length) Slot.unset).toArray) [] := by rw [hargs]; exact lg_entry_eq m ([.ref h0, .int p1]) 2
  rw [hg]
  clear hg hargs
  generalize (lg_sl ([.ref h0, .int p1]) ++ List.replicate (2 - (lg_sl ([.ref h0, .int p1])).length) Slot.unset).toArray = ls at hl ⊢
  have hl : lv_has ls 2 [(0, .ref h0), (1, .int p1)] := by exact hl
  obtain ⟨R, hRm⟩ : ∃ R : Room, R = (headSpec (zt_w yX7_giveAway cX7_giveAway 2 none) (zq_rm (1))).room := ⟨_, rfl⟩
  rw [← hRm]
  have hro : ∀ d q : Nat, d + 1 ≤ 1 → q ≤ 45 → zq_rok d q R := fun d q h1 h2 => by rw [hRm]; exact zq_rokI h1 h2
  generalize hQ : MQ below _ args s 0 0 (zq_A X) = Q
  obtain ⟨H, hH⟩ : ∃ H, H = s.heap := ⟨_, rfl⟩
  obtain ⟨locs, hlo⟩ : ∃ x : List Loc, x = [] := ⟨_, rfl⟩
  rw [show W p l e R s m args below meth c s.heap [] 0 0 Q = W p l e R s m args below meth c H locs 0 0 Q by rw [hH, hlo]]
  have hM : zq_hm X (zk, zn) I H := by rw [hH]; exact hM
  have hS : va_S (zq_A X) s.heap H locs := by rw [hH, hlo]; exact hS
  clear hH hlo
  refine lv_aload_n hx hb dX7_giveAway_0 rfl (lv_at hl 0 rfl) ?_
  refine lv_dup hx hb dX7_giveAway_1 rfl ?_
  refine zq_gn E hM k_h0 (zFX7_24 E hZ) (Or.inl ⟨by decide, by decide, by decide, rfl⟩) dX7_giveAway_2 (fun x101 ex101 gx101 => ?_)
  clear gx101
  have fx101 := zT.r4 q_0 ex101
  rw [ex101] at q_1
  refine lv_iload_n hx hb dX7_giveAway_5 rfl (lv_at hl 1 rfl) ?_
  refine lv_isub hx hb dX7_giveAway_6 ?_
  refine lv_topi (fun x102 ex102 => ?_)
  have tx102 := zi_sub ex102 (rfl : x101.toInt = x101.toInt) (rfl : p1.toInt = p1.toInt) ⟨by omega, by omega⟩
  refine zq_pn E hM hS k_h0 (zGX7_24 E hZ) ⟨by decide, by decide, by decide, rfl⟩ (zq_any _) dX7_giveAway_7 (fun I103 H locs eI103 hM hS => ?_)
  have hR := zq_fr.putE hR eI103 (zf_iw k_h0 rfl (rfl))
  have hT104 := zT.put4 (b2 := b) q_0 eI103 ⟨by omega, by omega⟩
  refine lv_aload_n hx hb dX7_giveAway_10 rfl (lv_at hl 0 rfl) ?_
  refine lv_bipush (v := 99) hx hb dX7_giveAway_11 (by decide +kernel) ?_
  refine lv_aload_n hx hb dX7_giveAway_13 rfl (lv_at hl 0 rfl) ?_
  refine W.eq (g2 := F0 m 14 ls [.ref h0, .int (99 : Int32), .ref h0]) rfl ?_
  refine zq_gn E hM k_h0 (zFX7_18 E hZ) (Or.inl ⟨by decide, by decide, by decide, rfl⟩) dX7_giveAway_14 (fun x105 ex105 gx105 => ?_)
  replace gx105 : (-1) ≤ x105.toInt ∧ x105.toInt ≤ 99 := gx105
  have fx105 := zT.r2 hT104 ex105
  refine lv_iload_n hx hb dX7_giveAway_17 rfl (lv_at hl 1 rfl) ?_
  refine lv_iadd hx hb dX7_giveAway_18 ?_
  refine lv_topi (fun x106 ex106 => ?_)
  have tx106 := zi_add ex106 (rfl : x105.toInt = x105.toInt) (rfl : p1.toInt = p1.toInt) ⟨by omega, by omega⟩
  refine zq_pcalli (zq_rS (As := [.int (99 : Int32), .int x106]) (rest := [.ref h0]) E hZ hM (c_J9_min_7cf53 l X zk (zn) I103 L (99 : Int32) x106) zmX7_46 zM_J9_min_7cf53 (hro (0) 2 (by first | decide | omega) (by decide)) hl.1 rfl rfl (Nat.le_of_ble_eq_true rfl) dX7_giveAway_19) hS (fun x108 H locs h107 hM hS => ?_)
  have p109 := h107
  have := zl_99
  refine zq_pn E hM hS k_h0 (zGX7_18 E hZ) ⟨by decide, by decide, by decide, rfl⟩ (show (-1) ≤ x108.toInt ∧ x108.toInt ≤ 99 from ⟨by omega, by omega⟩) dX7_giveAway_22 (fun I110 H locs eI110 hM hS => ?_)
  have hR := zq_fr.putE hR eI110 (zf_iw k_h0 rfl (rfl))
  have hT111 := zT.put2 hT104 eI110 ⟨by omega, by omega⟩
  subst hQ
  exact zq_vret E hr hZ hM hS ⟨hR, (hT111)⟩ hlocks dX7_giveAway_25
def zw_X7_setPrice : List (Nat × Nat) := [(7, 2), (7, 3)]
set_option maxHeartbeats 8000000 in
set_option maxRecDepth 100000 in
theorem c_X7_setPrice (l : Launch) (X : zq_X) (zk zn : Nat) (I : zq_M) (L : zq_L X) (b : Int) (h0 : Nat) (k_h0 : zq_k X h0 = 7) (p1 : Int32) (g_p1 : 1 ≤ p1.toInt ∧ p1.toInt ≤ 99) (q_0 : zT I b h0) (q_1 : b ≤ 1000000) : Met l yX7_setPrice (zt_w yX7_setPrice cX7_setPrice 2 none) (zq_rm (1)) (va_Pc [.ref h0, .int p1] (zq_W X (zk, zn) I)) (va_Qv (fun I2 => zq_fr (zf X zw_X7_setPrice (fun b => b = h0)) I I2 ∧ (zT I2 b h0)) (zq_E X (zk, zn)) (zq_A X)) 0 0 (zq_A X) := by
  refine Met.ofW (cc := cX7_setPrice) (maxL := 2) (ret := none) (by decide) rfl ?_
  intro p e s m args below meth c s₁ B hml hv
  obtain ⟨hargs, hM, hZ⟩ := hv
  have hown : s.vm.findClass RX7 = some m.cls := findClass_of_methodNamed B.named
  have hts := atoms_spec (ws := zt_w yX7_setPrice cX7_setPrice 2 none) B.pre
  have E : CallFix p m c cX7_setPrice 2 s args (Cond.code yX7_setPrice cX7_setPrice 2 none :: zt) RX7 := ⟨B.exec, B.bytes, hml, hown, hts⟩
  have hx := B.exec
  have hb := B.bytes
  have hr := B.returns
  have hlocks := B.notSynchronized
  clear B
  have hS : va_S (zq_A X) s.heap s.heap [] := va_S.rf
  have hR : zq_fr (zf X zw_X7_setPrice (fun b => b = h0)) I I := zq_fr.rf
  have hl := lv_entry ([.ref h0, .int p1]) (n := 2) (by exact Nat.le_of_ble_eq_true rfl)
  have hg : entryFrame m args 2 = F0 m 0 ((lg_sl ([.ref h0, .int p1]) ++ List.replicate (2 - (lg_sl ([.ref h0, .int p1])).length) Slot.unset).toArray) [] := by rw [hargs]; exact lg_entry_eq m ([.ref h0, .int p1]) 2
  rw [hg]
  clear hg hargs
  generalize (lg_sl ([.ref h0, .int p1]) ++ List.replicate (2 - (lg_sl ([.ref h0, .int p1])).length) Slot.unset).toArray = ls at hl ⊢
  have hl : lv_has ls 2 [(0, .ref h0), (1, .int p1)] := by exact hl
  obtain ⟨R, hRm⟩ : ∃ R : Room, R = (headSpec (zt_w yX7_setPrice cX7_setPrice 2 none) (zq_rm (1))).room := ⟨_, rfl⟩
  rw [← hRm]
  have hro : ∀ d q : Nat, d + 1 ≤ 1 → q ≤ 45 → zq_rok d q R := fun d q h1 h2 => by rw [hRm]; exact zq_rokI h1 h2
  generalize hQ : MQ below _ args s 0 0 (zq_A X) = Q
  obtain ⟨H, hH⟩ : ∃ H, H = s.heap := ⟨_, rfl⟩
  obtain ⟨locs, hlo⟩ : ∃ x : List Loc, x = [] := ⟨_, rfl⟩
  rw [show W p l e R s m args below meth c s.heap [] 0 0 Q = W p l e R s m args below meth c H locs 0 0 Q by rw [hH, hlo]]
  have hM : zq_hm X (zk, zn) I H := by rw [hH]; exact hM
  have hS : va_S (zq_A X) s.heap H locs := by rw [hH, hlo]; exact hS
  clear hH hlo
  refine lv_iload_n hx hb dX7_setPrice_0 rfl (lv_at hl 1 rfl) ?_
  refine lv_if_le (tgt := 29) hx hb dX7_setPrice_1 (by decide) (fun b101 => ?_) (fun b101 => ?_)
  · have b101 := zi_le b101 (rfl : p1.toInt = p1.toInt) (zl_0 : (0 : Int32).toInt = 0)
    exfalso; omega
  · have b101 := zi_nle b101 (rfl : p1.toInt = p1.toInt) (zl_0 : (0 : Int32).toInt = 0)
    refine lv_aload_n hx hb dX7_setPrice_4 rfl (lv_at hl 0 rfl) ?_
    refine lv_bipush (v := 99) hx hb dX7_setPrice_5 (by decide +kernel) ?_
    refine lv_aload_n hx hb dX7_setPrice_7 rfl (lv_at hl 0 rfl) ?_
    refine zq_gn E hM k_h0 (zFX7_18 E hZ) (Or.inl ⟨by decide, by decide, by decide, rfl⟩) dX7_setPrice_8 (fun x102 ex102 gx102 => ?_)
    replace gx102 : (-1) ≤ x102.toInt ∧ x102.toInt ≤ 99 := gx102
    have fx102 := zT.r2 q_0 ex102
    refine lv_aload_n hx hb dX7_setPrice_11 rfl (lv_at hl 0 rfl) ?_
    refine zq_gn E hM k_h0 (zFX7_21 E hZ) (Or.inl ⟨by decide, by decide, by decide, rfl⟩) dX7_setPrice_12 (fun x103 ex103 gx103 => ?_)
    replace gx103 : (-1) ≤ x103.toInt ∧ x103.toInt ≤ 99 := gx103
    have fx103 := zT.r3 q_0 ex103
    refine lv_imul hx hb dX7_setPrice_15 ?_
    refine lv_topi (fun x104 ex104 => ?_)
    have tx104 := zi_mulb ex104 0 99 0 99 ⟨by omega, by omega⟩ ⟨by omega, by omega⟩ (by decide)
    have tx104 : 0 ≤ x104.toInt ∧ x104.toInt ≤ 9801 := ⟨tx104.2.1, tx104.2.2⟩
    refine lv_iload_n hx hb dX7_setPrice_16 rfl (lv_at hl 1 rfl) ?_
    refine lv_idiv hx hb dX7_setPrice_17 (fun q => by have := zi_eq q rfl zl_0; omega) ?_
    refine lv_topi (fun x105 ex105 => ?_)
    have tx105 := zi_divn ex105 (rfl : x104.toInt = x104.toInt) (rfl : p1.toInt = p1.toInt) (by omega) (by omega)
    have tx105 := zi_divb tx105 (by omega) (by omega)
    refine W.eq (g2 := F0 m 18 ls [.int x105, .int (99 : Int32), .ref h0]) rfl ?_
    refine zq_pcalli (zq_rS (As := [.int (99 : Int32), .int x105]) (rest := [.ref h0]) E hZ hM (c_J9_min_7cf53 l X zk (zn) I L (99 : Int32) x105) zmX7_46 zM_J9_min_7cf53 (hro (0) 2 (by first | decide | omega) (by decide)) hl.1 rfl rfl (Nat.le_of_ble_eq_true rfl) dX7_setPrice_18) hS (fun x107 H locs h106 hM hS => ?_)
    have p108 := h106
    have := zl_99
    refine zq_pn E hM hS k_h0 (zGX7_18 E hZ) ⟨by decide, by decide, by decide, rfl⟩ (show (-1) ≤ x107.toInt ∧ x107.toInt ≤ 99 from ⟨by omega, by omega⟩) dX7_setPrice_21 (fun I109 H locs eI109 hM hS => ?_)
    have hR := zq_fr.putE hR eI109 (zf_iw k_h0 rfl (rfl))
    have hT110 := zT.put2 q_0 eI109 ⟨by omega, by omega⟩
    refine lv_aload_n hx hb dX7_setPrice_24 rfl (lv_at hl 0 rfl) ?_
    refine lv_iload_n hx hb dX7_setPrice_25 rfl (lv_at hl 1 rfl) ?_
    refine zq_pn E hM hS k_h0 (zGX7_21 E hZ) ⟨by decide, by decide, by decide, rfl⟩ (show (-1) ≤ p1.toInt ∧ p1.toInt ≤ 99 from ⟨by omega, by omega⟩) dX7_setPrice_26 (fun I111 H locs eI111 hM hS => ?_)
    have hR := zq_fr.putE hR eI111 (zf_iw k_h0 rfl (rfl))
    have hT112 := zT.put3 hT110 eI111 ⟨by omega, by omega⟩
    subst hQ
    exact zq_vret E hr hZ hM hS ⟨hR, (hT112)⟩ hlocks dX7_setPrice_29
def zw_X7_sellMonth : List (Nat × Nat) := [(7, 2), (7, 4), (7, 6)]
set_option maxHeartbeats 8000000 in
set_option maxRecDepth 100000 in
theorem c_X7_sellMonth (l : Launch) (X : zq_X) (zk zn : Nat) (I : zq_M) (L : zq_L X) (b : Int) (h0 : Nat) (k_h0 : zq_k X h0 = 7) (q_0 : zT I b h0) (q_1 : b ≤ 1000000) : Met l yX7_sellMonth (zt_w yX7_sellMonth cX7_sellMonth 3 (some .int)) (zq_rm (1)) (va_Pc [.ref h0] (zq_W X (zk, zn) I)) (va_Qi (fun (r : Int32) I2 => zq_fr (zf X zw_X7_sellMonth (fun b => b = h0)) I I2 ∧ (zT I2 b h0) ∧ (0 ≤ r.toInt ∧ r.toInt ≤ 99)) (zq_E X (zk, zn)) (zq_A X)) 0 0 (zq_A X) := by
  refine Met.ofW (cc := cX7_sellMonth) (maxL := 3) (ret := (some .int)) (by decide) rfl ?_
  intro p e s m args below meth c s₁ B hml hv
  obtain ⟨hargs, hM, hZ⟩ := hv
  have hown : s.vm.findClass RX7 = some m.cls := findClass_of_methodNamed B.named
  have hts := atoms_spec (ws := zt_w yX7_sellMonth cX7_sellMonth 3 (some .int)) B.pre
  have E : CallFix p m c cX7_sellMonth 3 s args (Cond.code yX7_sellMonth cX7_sellMonth 3 (some .int) :: zt) RX7 := ⟨B.exec, B.bytes, hml, hown, hts⟩
  have hx := B.exec
  have hb := B.bytes
  have hr := B.returns
  have hlocks := B.notSynchronized
  clear B
  have hS : va_S (zq_A X) s.heap s.heap [] := va_S.rf
  have hR : zq_fr (zf X zw_X7_sellMonth (fun b => b = h0)) I I := zq_fr.rf
  have hl := lv_entry ([.ref h0]) (n := 3) (by exact Nat.le_of_ble_eq_true rfl)
  have hg : entryFrame m args 3 = F0 m 0 ((lg_sl ([.ref h0]) ++ List.replicate (3 - (lg_sl ([.ref h0])).length) Slot.unset).toArray) [] := by rw [hargs]; exact lg_entry_eq m ([.ref h0]) 3
  rw [hg]
  clear hg hargs
  generalize (lg_sl ([.ref h0]) ++ List.replicate (3 - (lg_sl ([.ref h0])).length) Slot.unset).toArray = ls at hl ⊢
  have hl : lv_has ls 3 [(0, .ref h0)] := by exact hl
  obtain ⟨R, hRm⟩ : ∃ R : Room, R = (headSpec (zt_w yX7_sellMonth cX7_sellMonth 3 (some .int)) (zq_rm (1))).room := ⟨_, rfl⟩
  rw [← hRm]
  have hro : ∀ d q : Nat, d + 1 ≤ 1 → q ≤ 45 → zq_rok d q R := fun d q h1 h2 => by rw [hRm]; exact zq_rokI h1 h2
  generalize hQ : MQ below _ args s 0 0 (zq_A X) = Q
  obtain ⟨H, hH⟩ : ∃ H, H = s.heap := ⟨_, rfl⟩
  obtain ⟨locs, hlo⟩ : ∃ x : List Loc, x = [] := ⟨_, rfl⟩
  rw [show W p l e R s m args below meth c s.heap [] 0 0 Q = W p l e R s m args below meth c H locs 0 0 Q by rw [hH, hlo]]
  have hM : zq_hm X (zk, zn) I H := by rw [hH]; exact hM
  have hS : va_S (zq_A X) s.heap H locs := by rw [hH, hlo]; exact hS
  clear hH hlo
  have hT1 := q_0.1
  refine lv_aload_n hx hb dX7_sellMonth_0 rfl (lv_at hl 0 rfl) ?_
  refine zq_gn E hM k_h0 (zFX7_24 E hZ) (Or.inl ⟨by decide, by decide, by decide, rfl⟩) dX7_sellMonth_1 (fun x101 ex101 gx101 => ?_)
  clear gx101
  have fx101 := zT.r4 q_0 ex101
  refine lv_istore_n (lv' := [(1, .int x101), (0, .ref h0)]) hx hb dX7_sellMonth_4 rfl hl (by decide) rfl (fun ls hl => ?_)
  refine lv_iload_n hx hb dX7_sellMonth_5 rfl (lv_at hl 0 rfl) ?_
  refine lv_aload_n hx hb dX7_sellMonth_6 rfl (lv_at hl 1 rfl) ?_
  refine zq_gn E hM k_h0 (zFX7_18 E hZ) (Or.inl ⟨by decide, by decide, by decide, rfl⟩) dX7_sellMonth_7 (fun x102 ex102 gx102 => ?_)
  replace gx102 : (-1) ≤ x102.toInt ∧ x102.toInt ≤ 99 := gx102
  have fx102 := zT.r2 q_0 ex102
  refine zq_pcalli (zq_rS (As := [.int x101, .int x102]) (rest := []) E hZ hM (c_J9_min_7cf53 l X zk (zn) I L x101 x102) zmX7_46 zM_J9_min_7cf53 (hro (0) 2 (by first | decide | omega) (by decide)) hl.1 rfl rfl (Nat.le_of_ble_eq_true rfl) dX7_sellMonth_10) hS (fun x104 H locs h103 hM hS => ?_)
  have p105 := h103
  refine lv_istore_n (lv' := [(2, .int x104), (1, .int x101), (0, .ref h0)]) hx hb dX7_sellMonth_13 rfl hl (by decide) rfl (fun ls hl => ?_)
  refine lv_aload_n hx hb dX7_sellMonth_14 rfl (lv_at hl 2 rfl) ?_
  refine W.eq (g2 := F0 m 15 ls [.ref h0]) rfl ?_
  refine lv_iload_n hx hb dX7_sellMonth_15 rfl (lv_at hl 1 rfl) ?_
  refine lv_iload_n hx hb dX7_sellMonth_16 rfl (lv_at hl 0 rfl) ?_
  refine lv_isub hx hb dX7_sellMonth_17 ?_
  refine lv_topi (fun x106 ex106 => ?_)
  have tx106 := zi_sub ex106 (rfl : x101.toInt = x101.toInt) (rfl : x104.toInt = x104.toInt) ⟨by omega, by omega⟩
  refine lv_aload_n hx hb dX7_sellMonth_18 rfl (lv_at hl 2 rfl) ?_
  refine lv_aload_n hx hb dX7_sellMonth_19 rfl (lv_at hl 2 rfl) ?_
  refine zq_gn E hM k_h0 (zFX7_27 E hZ) (Or.inr ⟨by decide, by decide, by decide, rfl⟩) dX7_sellMonth_20 (fun x107 ex107 gx107 => ?_)
  replace gx107 : 0 ≤ x107.toInt ∧ x107.toInt ≤ 1 := gx107
  refine zq_pcalli (zq_rV (As := [.int x107]) (rest := [.int x106, .ref h0]) E hZ hM k_h0 (c_X7_heatFor l X zk (zn) I L h0 k_h0 x107 ⟨by omega, by omega⟩) zmX7_34 zM_X7_heatFor (hro (0) 2 (by first | decide | omega) (by decide)) ⟨by decide, by decide⟩ rfl hl.1 rfl rfl (Nat.le_of_ble_eq_true rfl) dX7_sellMonth_23) hS (fun x109 H locs h108 hM hS => ?_)
  obtain ⟨p110, p111⟩ := h108
  refine zq_pcalli (zq_rS (As := [.int x106, .int x109]) (rest := [.ref h0]) E hZ hM (c_X7_melted l X zk (zn) I L x106 x109) zmX7_38 zM_X7_melted (hro (0) 2 (by first | decide | omega) (by decide)) hl.1 rfl rfl (Nat.le_of_ble_eq_true rfl) dX7_sellMonth_26) hS (fun x113 H locs h112 hM hS => ?_)
  have p114 := h112
  refine zq_pn E hM hS k_h0 (zGX7_24 E hZ) ⟨by decide, by decide, by decide, rfl⟩ (zq_any _) dX7_sellMonth_29 (fun I115 H locs eI115 hM hS => ?_)
  have hR := zq_fr.putE hR eI115 (zf_iw k_h0 rfl (rfl))
  have hT116 := zT.put4 (b2 := b) q_0 eI115 ⟨by have := zi_rng x113; omega, by have := zi_rng x113; omega⟩
  refine lv_aload_n hx hb dX7_sellMonth_32 rfl (lv_at hl 2 rfl) ?_
  refine W.eq (g2 := F0 m 33 ls [.ref h0]) rfl ?_
  refine lv_dup hx hb dX7_sellMonth_33 rfl ?_
  refine zq_gn E hM k_h0 (zFX7_31 E hZ) (Or.inl ⟨by decide, by decide, by decide, rfl⟩) dX7_sellMonth_34 (fun x117 ex117 gx117 => ?_)
  clear gx117
  refine lv_iload_n hx hb dX7_sellMonth_37 rfl (lv_at hl 0 rfl) ?_
  refine lv_iadd hx hb dX7_sellMonth_38 ?_
  refine lv_topi (fun x118 ex118 => ?_)
  refine zq_pn E hM hS k_h0 (zGX7_31 E hZ) ⟨by decide, by decide, by decide, rfl⟩ (zq_any _) dX7_sellMonth_39 (fun I119 H locs eI119 hM hS => ?_)
  have hR := zq_fr.putE hR eI119 (zf_iw k_h0 rfl (rfl))
  have hT120 := zT.put hT116 eI119 (Or.inr (by decide))
  refine lv_aload_n hx hb dX7_sellMonth_42 rfl (lv_at hl 2 rfl) ?_
  refine zq_gk (v := x102) E hM k_h0 (zFX7_18 E hZ) (Or.inl ⟨by decide, by decide, by decide, rfl⟩) (zq_kp eI119 (Or.inr (by decide)) (zq_kp eI115 (Or.inr (by decide)) ex102)) dX7_sellMonth_43 ?_
  refine lv_iconst (v := 1) hx hb dX7_sellMonth_46 (by decide +kernel) ?_
  have J76 : ∀ (ls : Array Slot), (lv_has ls 3 [(2, .int x104), (1, .int x101), (0, .ref h0)]) → W p l e R s m args below meth c H locs 0 0 Q (F0 m 76 ls []) := by
    intro ls hl
    refine lv_iload_n hx hb dX7_sellMonth_76 rfl (lv_at hl 1 rfl) ?_
    refine lv_if_ne (tgt := 94) hx hb dX7_sellMonth_77 (by decide) (fun b133 => ?_) (fun b133 => ?_)
    · have b133 := zi_ne b133 (rfl : x101.toInt = x101.toInt) (zl_0 : (0 : Int32).toInt = 0)
      refine lv_iload_n hx hb dX7_sellMonth_94 rfl (lv_at hl 0 rfl) ?_
      subst hQ
      exact zq_iret E hr hZ hM hS ⟨hR, (hT120), (by omega)⟩ hlocks dX7_sellMonth_95
    · have b133 := zi_eq b133 (rfl : x101.toInt = x101.toInt) (zl_0 : (0 : Int32).toInt = 0)
      refine lv_aload_n hx hb dX7_sellMonth_80 rfl (lv_at hl 2 rfl) ?_
      refine lv_iconst (v := 0) hx hb dX7_sellMonth_81 (by decide +kernel) ?_
      refine lv_aload_n hx hb dX7_sellMonth_82 rfl (lv_at hl 2 rfl) ?_
      refine zq_gk (v := x102) E hM k_h0 (zFX7_18 E hZ) (Or.inl ⟨by decide, by decide, by decide, rfl⟩) (zq_kp eI119 (Or.inr (by decide)) (zq_kp eI115 (Or.inr (by decide)) ex102)) dX7_sellMonth_83 ?_
      refine lv_iconst (v := 1) hx hb dX7_sellMonth_86 (by decide +kernel) ?_
      refine lv_isub hx hb dX7_sellMonth_87 ?_
      refine lv_topi (fun x134 ex134 => ?_)
      have tx134 := zi_sub ex134 (rfl : x102.toInt = x102.toInt) (zl_1 : (1 : Int32).toInt = 1) ⟨by omega, by omega⟩
      refine zq_pcalli (zq_rS (As := [.int (0 : Int32), .int x134]) (rest := [.ref h0]) E hZ hM (c_J9_max_7cf53 l X zk (zn) I119 L (0 : Int32) x134) zmX7_51 zM_J9_max_7cf53 (hro (0) 2 (by first | decide | omega) (by decide)) hl.1 rfl rfl (Nat.le_of_ble_eq_true rfl) dX7_sellMonth_88) hS (fun x136 H locs h135 hM hS => ?_)
      have p137 := h135
      have := zl_0
      refine zq_pn E hM hS k_h0 (zGX7_18 E hZ) ⟨by decide, by decide, by decide, rfl⟩ (show (-1) ≤ x136.toInt ∧ x136.toInt ≤ 99 from ⟨by omega, by omega⟩) dX7_sellMonth_91 (fun I138 H locs eI138 hM hS => ?_)
      have hR := zq_fr.putE hR eI138 (zf_iw k_h0 rfl (rfl))
      have hT139 := zT.put2 hT120 eI138 ⟨by omega, by omega⟩
      refine lv_iload_n hx hb dX7_sellMonth_94 rfl (lv_at hl 0 rfl) ?_
      refine W.eq (g2 := F0 m 95 ls [.int x104]) rfl ?_
      subst hQ
      exact zq_iret E hr hZ hM hS ⟨hR, (hT139), (by omega)⟩ hlocks dX7_sellMonth_95
  refine lv_icmp_lt (tgt := 76) hx hb dX7_sellMonth_47 (by decide) (fun b140 => ?_) (fun b140 => ?_)
  · have b140 := zi_lt b140 (rfl : x102.toInt = x102.toInt) (zl_1 : (1 : Int32).toInt = 1)
    exact J76 ls (lv_sub hl [0, 1, 2] rfl)
  · have b140 := zi_nlt b140 (rfl : x102.toInt = x102.toInt) (zl_1 : (1 : Int32).toInt = 1)
    refine lv_iload_n hx hb dX7_sellMonth_50 rfl (lv_at hl 1 rfl) ?_
    refine lv_aload_n hx hb dX7_sellMonth_51 rfl (lv_at hl 2 rfl) ?_
    refine zq_gk (v := x102) E hM k_h0 (zFX7_18 E hZ) (Or.inl ⟨by decide, by decide, by decide, rfl⟩) (zq_kp eI119 (Or.inr (by decide)) (zq_kp eI115 (Or.inr (by decide)) ex102)) dX7_sellMonth_52 ?_
    refine lv_icmp_lt (tgt := 76) hx hb dX7_sellMonth_55 (by decide) (fun b141 => ?_) (fun b141 => ?_)
    · have b141 := zi_lt b141 (rfl : x101.toInt = x101.toInt) (rfl : x102.toInt = x102.toInt)
      exact J76 ls (lv_sub hl [0, 1, 2] rfl)
    · have b141 := zi_nlt b141 (rfl : x101.toInt = x101.toInt) (rfl : x102.toInt = x102.toInt)
      refine lv_aload_n hx hb dX7_sellMonth_58 rfl (lv_at hl 2 rfl) ?_
      refine lv_bipush (v := 99) hx hb dX7_sellMonth_59 (by decide +kernel) ?_
      refine lv_aload_n hx hb dX7_sellMonth_61 rfl (lv_at hl 2 rfl) ?_
      refine zq_gk (v := x102) E hM k_h0 (zFX7_18 E hZ) (Or.inl ⟨by decide, by decide, by decide, rfl⟩) (zq_kp eI119 (Or.inr (by decide)) (zq_kp eI115 (Or.inr (by decide)) ex102)) dX7_sellMonth_62 ?_
      refine lv_iconst (v := 1) hx hb dX7_sellMonth_65 (by decide +kernel) ?_
      refine lv_iadd hx hb dX7_sellMonth_66 ?_
      refine lv_topi (fun x142 ex142 => ?_)
      have tx142 := zi_add ex142 (rfl : x102.toInt = x102.toInt) (zl_1 : (1 : Int32).toInt = 1) ⟨by omega, by omega⟩
      refine zq_pcalli (zq_rS (As := [.int (99 : Int32), .int x142]) (rest := [.ref h0]) E hZ hM (c_J9_min_7cf53 l X zk (zn) I119 L (99 : Int32) x142) zmX7_46 zM_J9_min_7cf53 (hro (0) 2 (by first | decide | omega) (by decide)) hl.1 rfl rfl (Nat.le_of_ble_eq_true rfl) dX7_sellMonth_67) hS (fun x144 H locs h143 hM hS => ?_)
      have p145 := h143
      have := zl_99
      refine zq_pn E hM hS k_h0 (zGX7_18 E hZ) ⟨by decide, by decide, by decide, rfl⟩ (show (-1) ≤ x144.toInt ∧ x144.toInt ≤ 99 from ⟨by omega, by omega⟩) dX7_sellMonth_70 (fun I146 H locs eI146 hM hS => ?_)
      have hR := zq_fr.putE hR eI146 (zf_iw k_h0 rfl (rfl))
      have hT147 := zT.put2 hT120 eI146 ⟨by omega, by omega⟩
      refine lv_goto (tgt := 94) hx hb dX7_sellMonth_73 (by decide) ?_
      refine W.eq (g2 := F0 m 94 ls []) rfl ?_
      refine lv_iload_n hx hb dX7_sellMonth_94 rfl (lv_at hl 0 rfl) ?_
      subst hQ
      exact zq_iret E hr hZ hM hS ⟨hR, (hT147), (by omega)⟩ hlocks dX7_sellMonth_95
set_option maxHeartbeats 8000000 in
set_option maxRecDepth 100000 in
theorem c_J9_floorMod_7cf53 (l : Launch) (X : zq_X) (zk zn : Nat) (I : zq_M) (L : zq_L X)  (p1 : Int32) (p2 : Int32) (g_p2 : 1 ≤ p2.toInt ∧ p2.toInt ≤ 1000) : Met l yJ9_floorMod_7cf53 (zt_w yJ9_floorMod_7cf53 cJ9_floorMod_7cf53 3 (some .int)) (zq_rm (0)) (va_Pc [.int p1, .int p2] (zq_W X (zk, zn) I)) (va_Qi (fun (r : Int32) I2 => I2 = I ∧ (0 ≤ r.toInt ∧ r.toInt < p2.toInt) ∧ ((-999) ≤ r.toInt ∧ r.toInt ≤ 1999)) (zq_E X (zk, zn)) (zq_A X)) 0 0 (zq_A X) := by
  refine zq_ofW (cc := cJ9_floorMod_7cf53) (maxL := 3) (ret := (some .int)) (by decide +kernel) rfl ?_
  intro p e s m args below meth c s₁ B hml hv
  obtain ⟨hargs, hM, hZ⟩ := hv
  have hown : s.vm.findClass RJ9 = some m.cls := findClass_of_methodNamed B.named
  have hts := atoms_spec (ws := zt_w yJ9_floorMod_7cf53 cJ9_floorMod_7cf53 3 (some .int)) B.pre
  have E : CallFix p m c cJ9_floorMod_7cf53 3 s args (Cond.code yJ9_floorMod_7cf53 cJ9_floorMod_7cf53 3 (some .int) :: zt) RJ9 := ⟨B.exec, B.bytes, hml, hown, hts⟩
  have hx := B.exec
  have hb := B.bytes
  have hr := B.returns
  have hlocks := B.notSynchronized
  clear B
  have hS : va_S (zq_A X) s.heap s.heap [] := va_S.rf
  have hl := lv_entry ([.int p1, .int p2]) (n := 3) (by exact Nat.le_of_ble_eq_true rfl)
  have hg : entryFrame m args 3 = F0 m 0 ((lg_sl ([.int p1, .int p2]) ++ List.replicate (3 - (lg_sl ([.int p1, .int p2])).length) Slot.unset).toArray) [] := by rw [hargs]; exact lg_entry_eq m ([.int p1, .int p2]) 3
  rw [hg]
  clear hg hargs
  generalize (lg_sl ([.int p1, .int p2]) ++ List.replicate (3 - (lg_sl ([.int p1, .int p2])).length) Slot.unset).toArray = ls at hl ⊢
  have hl : lv_has ls 3 [(0, .int p1), (1, .int p2)] := by exact hl
  obtain ⟨R, hRm⟩ : ∃ R : Room, R = (headSpec (zt_w yJ9_floorMod_7cf53 cJ9_floorMod_7cf53 3 (some .int)) (zq_rm (0))).room := ⟨_, rfl⟩
  rw [← hRm]
  generalize hQ : MQ below _ args s 0 0 (zq_A X) = Q
  obtain ⟨H, hH⟩ : ∃ H, H = s.heap := ⟨_, rfl⟩
  obtain ⟨locs, hlo⟩ : ∃ x : List Loc, x = [] := ⟨_, rfl⟩
  rw [show W p l e R s m args below meth c s.heap [] 0 0 Q = W p l e R s m args below meth c H locs 0 0 Q by rw [hH, hlo]]
  have hM : zq_hm X (zk, zn) I H := by rw [hH]; exact hM
  have hS : va_S (zq_A X) s.heap H locs := by rw [hH, hlo]; exact hS
  clear hH hlo
  refine lv_iload_n hx hb dJ9_floorMod_7cf53_0 rfl (lv_at hl 0 rfl) ?_
  refine lv_iload_n hx hb dJ9_floorMod_7cf53_1 rfl (lv_at hl 1 rfl) ?_
  refine lv_irem hx hb dJ9_floorMod_7cf53_2 (fun q => by have := zi_eq q rfl zl_0; omega) ?_
  refine lv_topi (fun x101 ex101 => ?_)
  have tx101 := zi_remt ex101 (rfl : p1.toInt = p1.toInt) (rfl : p2.toInt = p2.toInt) (by omega)
  refine lv_istore_n (lv' := [(2, .int x101), (0, .int p1), (1, .int p2)]) hx hb dJ9_floorMod_7cf53_3 rfl hl (by decide) rfl (fun ls hl => ?_)
  refine lv_iload_n hx hb dJ9_floorMod_7cf53_4 rfl (lv_at hl 1 rfl) ?_
  refine lv_iload_n hx hb dJ9_floorMod_7cf53_5 rfl (lv_at hl 2 rfl) ?_
  refine lv_ixor hx hb dJ9_floorMod_7cf53_6 ?_
  refine lv_topi (fun x102 ex102 => ?_)
  have h9 := zi_xors ex102 (by omega)
  refine lv_if_ge (tgt := 18) hx hb dJ9_floorMod_7cf53_7 (by decide) (fun b103 => ?_) (fun b103 => ?_)
  · have b103 := zi_le b103 (zl_0 : (0 : Int32).toInt = 0) (rfl : x102.toInt = x102.toInt)
    refine lv_iload_n hx hb dJ9_floorMod_7cf53_18 rfl (lv_at hl 0 rfl) ?_
    subst hQ
    exact zq_iret E hr hZ hM hS ⟨rfl, (by omega), (by omega)⟩ hlocks dJ9_floorMod_7cf53_19
  · have b103 := zi_nle b103 (zl_0 : (0 : Int32).toInt = 0) (rfl : x102.toInt = x102.toInt)
    refine lv_iload_n hx hb dJ9_floorMod_7cf53_10 rfl (lv_at hl 0 rfl) ?_
    refine lv_if_eq (tgt := 18) hx hb dJ9_floorMod_7cf53_11 (by decide) (fun b104 => ?_) (fun b104 => ?_)
    · have b104 := zi_eq b104 (rfl : x101.toInt = x101.toInt) (zl_0 : (0 : Int32).toInt = 0)
      refine lv_iload_n hx hb dJ9_floorMod_7cf53_18 rfl (lv_at hl 0 rfl) ?_
      subst hQ
      exact zq_iret E hr hZ hM hS ⟨rfl, (by omega), (by omega)⟩ hlocks dJ9_floorMod_7cf53_19
    · have b104 := zi_ne b104 (rfl : x101.toInt = x101.toInt) (zl_0 : (0 : Int32).toInt = 0)
      refine lv_iload_n hx hb dJ9_floorMod_7cf53_14 rfl (lv_at hl 0 rfl) ?_
      refine lv_iload_n hx hb dJ9_floorMod_7cf53_15 rfl (lv_at hl 2 rfl) ?_
      refine lv_iadd hx hb dJ9_floorMod_7cf53_16 ?_
      refine lv_topi (fun x105 ex105 => ?_)
      have tx105 := zi_add ex105 (rfl : x101.toInt = x101.toInt) (rfl : p2.toInt = p2.toInt) ⟨by omega, by omega⟩
      subst hQ
      exact zq_iret E hr hZ hM hS ⟨rfl, (by omega), (by omega)⟩ hlocks dJ9_floorMod_7cf53_17
set_option maxHeartbeats 8000000 in
set_option maxRecDepth 100000 in
theorem c_J9_min_f86c9 (l : Launch) (X : zq_X) (zk zn : Nat) (I : zq_M) (L : zq_L X)  (p1 : Int64) (p2 : Int64)  : Met l yJ9_min_f86c9 (zt_w yJ9_min_f86c9 cJ9_min_f86c9 4 (some .long)) (zq_rm (0)) (va_Pc [.long p1, .long p2] (zq_W X (zk, zn) I)) (va_Ql (fun (r : Int64) I2 => I2 = I ∧ ((r.toInt = p1.toInt ∧ p1.toInt ≤ p2.toInt) ∨ (r.toInt = p2.toInt ∧ p2.toInt ≤ p1.toInt))) (zq_E X (zk, zn)) (zq_A X)) 0 0 (zq_A X) := by
  refine zq_ofW (cc := cJ9_min_f86c9) (maxL := 4) (ret := (some .long)) (by decide +kernel) rfl ?_
  intro p e s m args below meth c s₁ B hml hv
  obtain ⟨hargs, hM, hZ⟩ := hv
  have hown : s.vm.findClass RJ9 = some m.cls := findClass_of_methodNamed B.named
  have hts := atoms_spec (ws := zt_w yJ9_min_f86c9 cJ9_min_f86c9 4 (some .long)) B.pre
  have E : CallFix p m c cJ9_min_f86c9 4 s args (Cond.code yJ9_min_f86c9 cJ9_min_f86c9 4 (some .long) :: zt) RJ9 := ⟨B.exec, B.bytes, hml, hown, hts⟩
  have hx := B.exec
  have hb := B.bytes
  have hr := B.returns
  have hlocks := B.notSynchronized
  clear B
  have hS : va_S (zq_A X) s.heap s.heap [] := va_S.rf
  have hl := lv_entry ([.long p1, .long p2]) (n := 4) (by exact Nat.le_of_ble_eq_true rfl)
  have hg : entryFrame m args 4 = F0 m 0 ((lg_sl ([.long p1, .long p2]) ++ List.replicate (4 - (lg_sl ([.long p1, .long p2])).length) Slot.unset).toArray) [] := by rw [hargs]; exact lg_entry_eq m ([.long p1, .long p2]) 4
  rw [hg]
  clear hg hargs
  generalize (lg_sl ([.long p1, .long p2]) ++ List.replicate (4 - (lg_sl ([.long p1, .long p2])).length) Slot.unset).toArray = ls at hl ⊢
  have hl : lv_has ls 4 [(0, .long p1), (2, .long p2)] := by exact hl
  obtain ⟨R, hRm⟩ : ∃ R : Room, R = (headSpec (zt_w yJ9_min_f86c9 cJ9_min_f86c9 4 (some .long)) (zq_rm (0))).room := ⟨_, rfl⟩
  rw [← hRm]
  generalize hQ : MQ below _ args s 0 0 (zq_A X) = Q
  obtain ⟨H, hH⟩ : ∃ H, H = s.heap := ⟨_, rfl⟩
  obtain ⟨locs, hlo⟩ : ∃ x : List Loc, x = [] := ⟨_, rfl⟩
  rw [show W p l e R s m args below meth c s.heap [] 0 0 Q = W p l e R s m args below meth c H locs 0 0 Q by rw [hH, hlo]]
  have hM : zq_hm X (zk, zn) I H := by rw [hH]; exact hM
  have hS : va_S (zq_A X) s.heap H locs := by rw [hH, hlo]; exact hS
  clear hH hlo
  refine lv_lload_n hx hb dJ9_min_f86c9_0 rfl (lv_at hl 0 rfl) ?_
  refine lv_lload_n hx hb dJ9_min_f86c9_1 rfl (lv_at hl 1 rfl) ?_
  refine zq_lcmp hx hb dJ9_min_f86c9_2 (fun x101 hx101 => ?_)
  refine lv_if_gt (tgt := 10) hx hb dJ9_min_f86c9_3 (by decide) (fun b102 => ?_) (fun b102 => ?_)
  · have b102 := zi_lt b102 (zl_0 : (0 : Int32).toInt = 0) (rfl : x101.toInt = x101.toInt)
    refine lv_lload_n hx hb dJ9_min_f86c9_10 rfl (lv_at hl 1 rfl) ?_
    subst hQ
    exact zq_lret E hr hZ hM hS ⟨rfl, (by omega)⟩ hlocks dJ9_min_f86c9_11
  · have b102 := zi_nlt b102 (zl_0 : (0 : Int32).toInt = 0) (rfl : x101.toInt = x101.toInt)
    refine lv_lload_n hx hb dJ9_min_f86c9_6 rfl (lv_at hl 0 rfl) ?_
    refine lv_goto (tgt := 11) hx hb dJ9_min_f86c9_7 (by decide) ?_
    subst hQ
    exact zq_lret E hr hZ hM hS ⟨rfl, (by omega)⟩ hlocks dJ9_min_f86c9_11
def zw_X10_growPond : List (Nat × Nat) := [(8, 3)]
set_option maxHeartbeats 8000000 in
set_option maxRecDepth 100000 in
theorem c_X10_growPond (l : Launch) (X : zq_X) (zk zn : Nat) (I : zq_M) (L : zq_L X)  (h0 : Nat) (k_h0 : zq_k X h0 = 8) (p1 : Int32)  : Met l yX10_growPond (zt_w yX10_growPond cX10_growPond 3 none) (zq_rm (1)) (va_Pc [.ref h0, .int p1] (zq_W X (zk, zn) I)) (va_Qv (fun I2 => zq_fr (zf X zw_X10_growPond (fun b => zq_o X b = zq_o X h0)) I I2) (zq_E X (zk, zn)) (zq_A X)) 0 0 (zq_A X) := by
  refine Met.ofW (cc := cX10_growPond) (maxL := 3) (ret := none) (by decide) rfl ?_
  intro p e s m args below meth c s₁ B hml hv
  obtain ⟨hargs, hM, hZ⟩ := hv
  have hown : s.vm.findClass RX10 = some m.cls := findClass_of_methodNamed B.named
  have hts := atoms_spec (ws := zt_w yX10_growPond cX10_growPond 3 none) B.pre
  have E : CallFix p m c cX10_growPond 3 s args (Cond.code yX10_growPond cX10_growPond 3 none :: zt) RX10 := ⟨B.exec, B.bytes, hml, hown, hts⟩
  have hx := B.exec
  have hb := B.bytes
  have hr := B.returns
  have hlocks := B.notSynchronized
  clear B
  have hS : va_S (zq_A X) s.heap s.heap [] := va_S.rf
  have hR : zq_fr (zf X zw_X10_growPond (fun b => zq_o X b = zq_o X h0)) I I := zq_fr.rf
  have hl := lv_entry ([.ref h0, .int p1]) (n := 3) (by exact Nat.le_of_ble_eq_true rfl)
  have hg : entryFrame m args 3 = F0 m 0 ((lg_sl ([.ref h0, .int p1]) ++ List.replicate (3 - (lg_sl ([.ref h0, .int p1])).length) Slot.unset).toArray) [] := by rw [hargs]; exact lg_entry_eq m ([.ref h0, .int p1]) 3
  rw [hg]
  clear hg hargs
  generalize (lg_sl ([.ref h0, .int p1]) ++ List.replicate (3 - (lg_sl ([.ref h0, .int p1])).length) Slot.unset).toArray = ls at hl ⊢
  have hl : lv_has ls 3 [(0, .ref h0), (1, .int p1)] := by exact hl
  obtain ⟨R, hRm⟩ : ∃ R : Room, R = (headSpec (zt_w yX10_growPond cX10_growPond 3 none) (zq_rm (1))).room := ⟨_, rfl⟩
  rw [← hRm]
  have hro : ∀ d q : Nat, d + 1 ≤ 1 → q ≤ 45 → zq_rok d q R := fun d q h1 h2 => by rw [hRm]; exact zq_rokI h1 h2
  generalize hQ : MQ below _ args s 0 0 (zq_A X) = Q
  obtain ⟨H, hH⟩ : ∃ H, H = s.heap := ⟨_, rfl⟩
  obtain ⟨locs, hlo⟩ : ∃ x : List Loc, x = [] := ⟨_, rfl⟩
  rw [show W p l e R s m args below meth c s.heap [] 0 0 Q = W p l e R s m args below meth c H locs 0 0 Q by rw [hH, hlo]]
  have hM : zq_hm X (zk, zn) I H := by rw [hH]; exact hM
  have hS : va_S (zq_A X) s.heap H locs := by rw [hH, hlo]; exact hS
  clear hH hlo
  refine lv_aload_n hx hb dX10_growPond_0 rfl (lv_at hl 0 rfl) ?_
  refine zq_getr E hM k_h0 (zFX10_11 E hZ) ⟨by decide, by decide, by decide, rfl⟩ dX10_growPond_1 ?_
  have k101 : zq_k X (zq_r X h0 7) = 30 := zq_lk L.1 k_h0 rfl (by decide)
  refine lv_aload_n hx hb dX10_growPond_4 rfl (lv_at hl 0 rfl) ?_
  refine zq_gn E hM k_h0 (zFX10_43 E hZ) (Or.inl ⟨by decide, by decide, by decide, rfl⟩) dX10_growPond_5 (fun x102 ex102 gx102 => ?_)
  clear gx102
  refine lv_bipush (v := 12) hx hb dX10_growPond_8 (by decide +kernel) ?_
  refine zq_pcalli (zq_rS (As := [.int x102, .int (12 : Int32)]) (rest := [.ref (zq_r X h0 7)]) E hZ hM (c_J9_floorMod_7cf53 l X zk (zn) I L x102 (12 : Int32) (by rw [zl_12]; decide)) zmX10_155 zM_J9_floorMod_7cf53 (hro (0) 3 (by first | decide | omega) (by decide)) hl.1 rfl rfl (Nat.le_of_ble_eq_true rfl) dX10_growPond_10) hS (fun x104 H locs h103 hM hS => ?_)
  obtain ⟨p105, p106⟩ := h103
  have := zl_12
  refine zq_ian (n := 12) (j := (x104.toNatClampNeg)) E hZ hM k101 ⟨by decide, rfl⟩ ⟨by omega, by omega⟩ rfl dX10_growPond_13 (fun x107 ex107 gx107 => ?_)
  clear gx107
  refine lv_iload_n hx hb dX10_growPond_14 rfl (lv_at hl 1 rfl) ?_
  refine lv_imul hx hb dX10_growPond_15 ?_
  refine lv_topi (fun x108 ex108 => ?_)
  refine W.eq (g2 := F0 m 16 ls [.int x108]) rfl ?_
  refine lv_bipush (v := 100) hx hb dX10_growPond_16 (by decide +kernel) ?_
  refine lv_idiv hx hb dX10_growPond_18 (by decide +kernel) ?_
  refine lv_topi (fun x109 ex109 => ?_)
  have tx109 := (zi_divt ex109 (rfl : x108.toInt = x108.toInt) (zl_100 : (100 : Int32).toInt = 100) (by omega)).2
  have := zi_rng x108
  refine lv_istore_n (lv' := [(2, .int x109), (0, .ref h0), (1, .int p1)]) hx hb dX10_growPond_19 rfl hl (by decide) rfl (fun ls hl => ?_)
  refine lv_aload_n hx hb dX10_growPond_20 rfl (lv_at hl 1 rfl) ?_
  refine lv_iload_n hx hb dX10_growPond_21 rfl (lv_at hl 0 rfl) ?_
  have J49 : ∀ (H : Heap) (locs : List Loc) (ls : Array Slot) (j119 : Int32), (zq_hm X (zk, zn) I H) → (va_S (zq_A X) s.heap H locs) → (lv_has ls 3 [(2, .int x109), (0, .ref h0), (1, .int p1)]) → W p l e R s m args below meth c H locs 0 0 Q (F0 m 49 ls [.int j119, .ref h0]) := by
    intro H locs ls j119 hM hS hl
    refine zq_pn E hM hS k_h0 (zGX10_40 E hZ) ⟨by decide, by decide, by decide, rfl⟩ (zq_any _) dX10_growPond_49 (fun I121 H locs eI121 hM hS => ?_)
    have hR := zq_fr.putE hR eI121 (zf_iw k_h0 rfl ((rfl : zq_o X h0 = zq_o X h0)))
    subst hQ
    exact zq_vret E hr hZ hM hS hR hlocks dX10_growPond_52
  refine lv_if_le (tgt := 40) hx hb dX10_growPond_22 (by decide) (fun b122 => ?_) (fun b122 => ?_)
  · have b122 := zi_le b122 (rfl : x109.toInt = x109.toInt) (zl_0 : (0 : Int32).toInt = 0)
    refine lv_aload_n hx hb dX10_growPond_40 rfl (lv_at hl 1 rfl) ?_
    refine zq_gn E hM k_h0 (zFX10_40 E hZ) (Or.inl ⟨by decide, by decide, by decide, rfl⟩) dX10_growPond_41 (fun x123 ex123 gx123 => ?_)
    clear gx123
    refine lv_bipush (v := 10) hx hb dX10_growPond_44 (by decide +kernel) ?_
    refine zq_pcalli (zq_rS (As := [.int x123, .int (10 : Int32)]) (rest := [.ref h0]) E hZ hM (c_X7_melted l X zk (zn) I L x123 (10 : Int32)) zmX10_158 zM_X7_melted (hro (0) 2 (by first | decide | omega) (by decide)) hl.1 rfl rfl (Nat.le_of_ble_eq_true rfl) dX10_growPond_46) hS (fun x125 H locs h124 hM hS => ?_)
    have p126 := h124
    have := zl_10
    exact J49 H locs ls x125 hM hS (lv_sub hl [0, 1, 2] rfl)
  · have b122 := zi_nle b122 (rfl : x109.toInt = x109.toInt) (zl_0 : (0 : Int32).toInt = 0)
    refine lv_sipush (v := 999) hx hb dX10_growPond_25 (by decide +kernel) ?_
    refine lv_aload_n hx hb dX10_growPond_28 rfl (lv_at hl 1 rfl) ?_
    refine zq_gn E hM k_h0 (zFX10_40 E hZ) (Or.inl ⟨by decide, by decide, by decide, rfl⟩) dX10_growPond_29 (fun x127 ex127 gx127 => ?_)
    clear gx127
    refine lv_iload_n hx hb dX10_growPond_32 rfl (lv_at hl 0 rfl) ?_
    refine lv_iadd hx hb dX10_growPond_33 ?_
    refine lv_topi (fun x128 ex128 => ?_)
    refine zq_pcalli (zq_rS (As := [.int (999 : Int32), .int x128]) (rest := [.ref h0]) E hZ hM (c_J9_min_7cf53 l X zk (zn) I L (999 : Int32) x128) zmX10_93 zM_J9_min_7cf53 (hro (0) 2 (by first | decide | omega) (by decide)) hl.1 rfl rfl (Nat.le_of_ble_eq_true rfl) dX10_growPond_34) hS (fun x130 H locs h129 hM hS => ?_)
    have p131 := h129
    have := zl_999
    refine lv_goto (tgt := 49) hx hb dX10_growPond_37 (by decide) ?_
    exact J49 H locs ls x130 hM hS (lv_sub hl [0, 1, 2] rfl)
def zw_X10_sailByRule : List (Nat × Nat) := [(5, 2), (5, 3), (5, 4), (5, 5), (8, 1), (8, 3)]
set_option maxHeartbeats 8000000 in
set_option maxRecDepth 100000 in
theorem c_X10_sailByRule (l : Launch) (X : zq_X) (zk zn : Nat) (I : zq_M) (L : zq_L X)  (h0 : Nat) (k_h0 : zq_k X h0 = 8) (p1 : Nat) (k_p1 : zq_k X p1 = 4) (p2 : Int32)  : Met l yX10_sailByRule (zt_w yX10_sailByRule cX10_sailByRule 9 none) (zq_rm (3)) (va_Pc [.ref h0, .ref p1, .int p2] (zq_W X (zk, zn) I)) (va_Qv (fun I2 => zq_fr (zf X zw_X10_sailByRule (fun b => zq_o X b = zq_o X h0)) I I2) (zq_E X (zk, zn)) (zq_A X)) 0 0 (zq_A X) := by
  refine Met.ofW (cc := cX10_sailByRule) (maxL := 9) (ret := none) (by decide) rfl ?_
  intro p e s m args below meth c s₁ B hml hv
  obtain ⟨hargs, hM, hZ⟩ := hv
  have hown : s.vm.findClass RX10 = some m.cls := findClass_of_methodNamed B.named
  have hts := atoms_spec (ws := zt_w yX10_sailByRule cX10_sailByRule 9 none) B.pre
  have E : CallFix p m c cX10_sailByRule 9 s args (Cond.code yX10_sailByRule cX10_sailByRule 9 none :: zt) RX10 := ⟨B.exec, B.bytes, hml, hown, hts⟩
  have hx := B.exec
  have hb := B.bytes
  have hr := B.returns
  have hlocks := B.notSynchronized
  clear B
  have hS : va_S (zq_A X) s.heap s.heap [] := va_S.rf
  have hR : zq_fr (zf X zw_X10_sailByRule (fun b => zq_o X b = zq_o X h0)) I I := zq_fr.rf
  have hl := lv_entry ([.ref h0, .ref p1, .int p2]) (n := 9) (by exact Nat.le_of_ble_eq_true rfl)
  have hg : entryFrame m args 9 = F0 m 0 ((lg_sl ([.ref h0, .ref p1, .int p2]) ++ List.replicate (9 - (lg_sl ([.ref h0, .ref p1, .int p2])).length) Slot.unset).toArray) [] := by rw [hargs]; exact lg_entry_eq m ([.ref h0, .ref p1, .int p2]) 9
  rw [hg]
  clear hg hargs
  generalize (lg_sl ([.ref h0, .ref p1, .int p2]) ++ List.replicate (9 - (lg_sl ([.ref h0, .ref p1, .int p2])).length) Slot.unset).toArray = ls at hl ⊢
  have hl : lv_has ls 9 [(0, .ref h0), (1, .ref p1), (2, .int p2)] := by exact hl
  obtain ⟨R, hRm⟩ : ∃ R : Room, R = (headSpec (zt_w yX10_sailByRule cX10_sailByRule 9 none) (zq_rm (3))).room := ⟨_, rfl⟩
  rw [← hRm]
  have hro : ∀ d q : Nat, d + 1 ≤ 3 → q ≤ 45 → zq_rok d q R := fun d q h1 h2 => by rw [hRm]; exact zq_rokI h1 h2
  generalize hQ : MQ below _ args s 0 0 (zq_A X) = Q
  obtain ⟨H, hH⟩ : ∃ H, H = s.heap := ⟨_, rfl⟩
  obtain ⟨locs, hlo⟩ : ∃ x : List Loc, x = [] := ⟨_, rfl⟩
  rw [show W p l e R s m args below meth c s.heap [] 0 0 Q = W p l e R s m args below meth c H locs 0 0 Q by rw [hH, hlo]]
  have hM : zq_hm X (zk, zn) I H := by rw [hH]; exact hM
  have hS : va_S (zq_A X) s.heap H locs := by rw [hH, hlo]; exact hS
  clear hH hlo
  refine lv_lconst (v := 0) hx hb dX10_sailByRule_0 (by decide +kernel) ?_
  refine lv_lstore_n (lv' := [(3, .long (0 : Int64)), (0, .ref h0), (1, .ref p1), (2, .int p2)]) hx hb dX10_sailByRule_1 rfl hl (by decide) rfl (fun ls hl => ?_)
  refine lv_iconst (v := (-1)) hx hb dX10_sailByRule_2 (by decide +kernel) ?_
  refine lv_istore (lv' := [(5, .int (-1 : Int32)), (3, .long (0 : Int64)), (0, .ref h0), (1, .ref p1), (2, .int p2)]) hx hb dX10_sailByRule_3 hl (by decide) rfl (fun ls hl => ?_)
  refine lv_iconst (v := 0) hx hb dX10_sailByRule_5 (by decide +kernel) ?_
  refine lv_istore (lv' := [(6, .int (0 : Int32)), (5, .int (-1 : Int32)), (3, .long (0 : Int64)), (0, .ref h0), (1, .ref p1), (2, .int p2)]) hx hb dX10_sailByRule_6 hl (by decide) rfl (fun ls hl => ?_)
  have J8 : ∀ (n192 : Nat) (H : Heap) (locs : List Loc) (ls : Array Slot) (j189 : Int32) (j190 : Int32) (jl191 : Int64), 4 + 1 - j189.toInt ≤ ((n192 : Nat) : Int) → (zq_hm X (zk, zn) I H) → (va_S (zq_A X) s.heap H locs) → (0 ≤ j189.toInt ∧ j189.toInt ≤ 4) → ((-1) ≤ j190.toInt ∧ j190.toInt ≤ 3) → (0 ≤ jl191.toInt) → (lv_has ls 9 [(6, .int j189), (5, .int j190), (3, .long jl191), (0, .ref h0), (1, .ref p1), (2, .int p2)]) → W p l e R s m args below meth c H locs 0 0 Q (F0 m 8 ls []) := by
    intro n192
    induction n192 with
    | zero => intro H locs ls j189 j190 jl191 mu193 hM hS gj189 gj190 gjl191 hl; exfalso; have := zi_rng j189; omega
    | succ n192 ih8 =>
      intro H locs ls j189 j190 jl191 mu193 hM hS gj189 gj190 gjl191 hl
      refine lv_iload hx hb dX10_sailByRule_8 (lv_at hl 0 rfl) ?_
      refine lv_aload_n hx hb dX10_sailByRule_10 rfl (lv_at hl 3 rfl) ?_
      refine zq_gn E hM k_h0 (zFX10_49 E hZ) (Or.inl ⟨by decide, by decide, by decide, rfl⟩) dX10_sailByRule_11 (fun x194 ex194 gx194 => ?_)
      replace gx194 : 0 ≤ x194.toInt ∧ x194.toInt ≤ 4 := gx194
      refine lv_icmp_ge (tgt := 47) hx hb dX10_sailByRule_14 (by decide) (fun b195 => ?_) (fun b195 => ?_)
      · have b195 := zi_le b195 (rfl : x194.toInt = x194.toInt) (rfl : j189.toInt = j189.toInt)
        refine lv_lload_n hx hb dX10_sailByRule_47 rfl (lv_at hl 2 rfl) ?_
        refine lv_aload_n hx hb dX10_sailByRule_48 rfl (lv_at hl 3 rfl) ?_
        refine lv_iload_n hx hb dX10_sailByRule_49 rfl (lv_at hl 5 rfl) ?_
        refine zq_pcalli (zq_rV (As := [.int p2]) (rest := [.long jl191]) E hZ hM k_h0 (c_X10_mostBlocks l X zk (zn) I L h0 k_h0 p2) zmX10_116 zM_X10_mostBlocks (hro (2) 3 (by first | decide | omega) (by decide)) ⟨by decide, by decide⟩ rfl hl.1 rfl rfl (Nat.le_of_ble_eq_true rfl) dX10_sailByRule_50) hS (fun x197 H locs h196 hM hS => ?_)
        have p198 := h196
        have := zi_rng x197
        refine lv_i2l hx hb dX10_sailByRule_53 rfl ?_
        refine lv_topl (fun y199 ey199 => ?_)
        have ty199 := zi_i2l ey199
        have := zi_rng x197
        refine zq_pcalll (zq_rS (As := [.long jl191, .long y199]) (rest := []) E hZ hM (c_J9_min_f86c9 l X zk (zn) I L jl191 y199) zmX10_148 zM_J9_min_f86c9 (hro (0) 4 (by first | decide | omega) (by decide)) hl.1 rfl rfl (Nat.le_of_ble_eq_true rfl) dX10_sailByRule_54) hS (fun y201 H locs h200 hM hS => ?_)
        have p202 := h200
        refine lv_l2i hx hb dX10_sailByRule_57 rfl ?_
        refine lv_topi (fun x203 ex203 => ?_)
        have tx203 := zi_l2i ex203 ⟨by omega, by omega⟩
        refine lv_istore (lv' := [(6, .int x203), (5, .int j190), (3, .long jl191), (0, .ref h0), (1, .ref p1), (2, .int p2)]) hx hb dX10_sailByRule_58 hl (by decide) rfl (fun ls hl => ?_)
        refine lv_iload hx hb dX10_sailByRule_60 (lv_at hl 0 rfl) ?_
        refine W.eq (g2 := F0 m 62 ls [.int x203]) rfl ?_
        refine lv_iconst (v := 1) hx hb dX10_sailByRule_62 (by decide +kernel) ?_
        refine lv_icmp_lt (tgt := 76) hx hb dX10_sailByRule_63 (by decide) (fun b204 => ?_) (fun b204 => ?_)
        · have b204 := zi_lt b204 (rfl : x203.toInt = x203.toInt) (zl_1 : (1 : Int32).toInt = 1)
          subst hQ
          exact zq_vret E hr hZ hM hS hR hlocks dX10_sailByRule_76
        · have b204 := zi_nlt b204 (rfl : x203.toInt = x203.toInt) (zl_1 : (1 : Int32).toInt = 1)
          refine lv_aload_n hx hb dX10_sailByRule_66 rfl (lv_at hl 3 rfl) ?_
          refine lv_iload_n hx hb dX10_sailByRule_67 rfl (lv_at hl 5 rfl) ?_
          refine lv_iload hx hb dX10_sailByRule_68 (lv_at hl 1 rfl) ?_
          refine lv_iload hx hb dX10_sailByRule_70 (lv_at hl 0 rfl) ?_
          refine lv_iconst (v := 0) hx hb dX10_sailByRule_72 (by decide +kernel) ?_
          refine zq_callv (zq_rV (As := [.int p2, .int j190, .int x203, .int (0 : Int32)]) (rest := []) E hZ hM k_h0 (c_X10_setSail l X zk (zn) I L h0 k_h0 p2 j190 x203 (0 : Int32) ⟨by omega, by omega⟩ (by rw [zl_0]; decide)) zmX10_151 zM_X10_setSail (hro (2) 5 (by first | decide | omega) (by decide)) ⟨by decide, by decide⟩ rfl hl.1 rfl rfl (Nat.le_of_ble_eq_true rfl) dX10_sailByRule_73) hS (fun I207 H locs h205 hM hS => ?_)
          have fr208 := h205
          have := zl_0
          have hR := zq_fr.call hR fr208 (zf_sub (by decide +kernel) (fun b _ q => q))
          subst hQ
          exact zq_vret E hr hZ hM hS hR hlocks dX10_sailByRule_76
      · have b195 := zi_nle b195 (rfl : x194.toInt = x194.toInt) (rfl : j189.toInt = j189.toInt)
        refine lv_aload_n hx hb dX10_sailByRule_17 rfl (lv_at hl 4 rfl) ?_
        refine lv_aload_n hx hb dX10_sailByRule_18 rfl (lv_at hl 3 rfl) ?_
        refine lv_iload_n hx hb dX10_sailByRule_19 rfl (lv_at hl 5 rfl) ?_
        refine lv_iload hx hb dX10_sailByRule_20 (lv_at hl 0 rfl) ?_
        refine zq_pcalll (zq_rV (As := [.ref h0, .int p2, .int j189]) (rest := []) E hZ hM k_p1 (c_X3_blocksWished l X zk (zn) I L p1 k_p1 h0 k_h0 p2 j189) zmX10_142 zM_X3_blocksWished (hro (2) 5 (by first | decide | omega) (by decide)) ⟨by decide, by decide⟩ rfl hl.1 rfl rfl (Nat.le_of_ble_eq_true rfl) dX10_sailByRule_22) hS (fun y210 H locs h209 hM hS => ?_)
        clear h209
        refine lv_lstore (lv' := [(7, .long y210), (6, .int j189), (5, .int j190), (3, .long jl191), (0, .ref h0), (1, .ref p1), (2, .int p2)]) hx hb dX10_sailByRule_25 hl (by decide) rfl (fun ls hl => ?_)
        refine lv_lload hx hb dX10_sailByRule_27 (lv_at hl 0 rfl) ?_
        refine lv_lload_n hx hb dX10_sailByRule_29 rfl (lv_at hl 3 rfl) ?_
        refine zq_lcmp hx hb dX10_sailByRule_30 (fun x211 hx211 => ?_)
        refine W.eq (g2 := F0 m 31 ls [.int x211]) rfl ?_
        have J41 : ∀ (ls : Array Slot) (j212 : Int32) (jl213 : Int64), ((-1) ≤ j212.toInt ∧ j212.toInt ≤ 3) → (0 ≤ jl213.toInt) → (lv_has ls 9 [(7, .long y210), (6, .int j189), (5, .int j212), (3, .long jl213), (0, .ref h0), (1, .ref p1), (2, .int p2)]) → W p l e R s m args below meth c H locs 0 0 Q (F0 m 41 ls []) := by
          intro ls j212 jl213 gj212 gjl213 hl
          obtain ⟨x215, ex215⟩ : ∃ y : Int32, y = j189 + 1 := ⟨_, rfl⟩
          have tx215 := zi_add ex215 (rfl : j189.toInt = j189.toInt) zl_1 ⟨by omega, by omega⟩
          refine lv_iinc (v := x215) (lv' := [(6, .int x215), (7, .long y210), (5, .int j212), (3, .long jl213), (0, .ref h0), (1, .ref p1), (2, .int p2)]) hx hb dX10_sailByRule_41 hl (k := 1) rfl (by rw [ex215]; rfl) (by decide) rfl (fun ls hl => ?_)
          refine lv_goto (tgt := 8) hx hb dX10_sailByRule_44 (by decide) ?_
          exact ih8 H locs ls x215 j212 jl213 (by omega) hM hS (⟨by omega, by omega⟩) (⟨by omega, by omega⟩) (by omega) (lv_sub hl [0, 2, 3, 4, 5, 6] rfl)
        refine lv_if_le (tgt := 41) hx hb dX10_sailByRule_31 (by decide) (fun b216 => ?_) (fun b216 => ?_)
        · have b216 := zi_le b216 (rfl : x211.toInt = x211.toInt) (zl_0 : (0 : Int32).toInt = 0)
          exact J41 ls j190 jl191 (⟨by omega, by omega⟩) (by omega) (lv_sub hl [0, 1, 2, 3, 4, 5, 6] rfl)
        · have b216 := zi_nle b216 (rfl : x211.toInt = x211.toInt) (zl_0 : (0 : Int32).toInt = 0)
          refine lv_lload hx hb dX10_sailByRule_34 (lv_at hl 0 rfl) ?_
          refine lv_lstore_n (lv' := [(3, .long y210), (7, .long y210), (6, .int j189), (5, .int j190), (0, .ref h0), (1, .ref p1), (2, .int p2)]) hx hb dX10_sailByRule_36 rfl hl (by decide) rfl (fun ls hl => ?_)
          refine lv_iload hx hb dX10_sailByRule_37 (lv_at hl 2 rfl) ?_
          refine lv_istore (lv' := [(5, .int j189), (3, .long y210), (7, .long y210), (6, .int j189), (0, .ref h0), (1, .ref p1), (2, .int p2)]) hx hb dX10_sailByRule_39 hl (by decide) rfl (fun ls hl => ?_)
          exact J41 ls j189 y210 (⟨by omega, by omega⟩) (by omega) (lv_sub hl [2, 3, 0, 1, 4, 5, 6] rfl)
  exact J8 (4 + 1 - (0 : Int32).toInt).toNat H locs ls (0 : Int32) (-1 : Int32) (0 : Int64) (by omega) hM hS (by rw [zl_0]; decide) (by rw [zl_m1]; decide) (by have : (0 : Int64).toInt = 0 := (by decide +kernel); omega) (lv_sub hl [0, 1, 2, 3, 4, 5] rfl)
