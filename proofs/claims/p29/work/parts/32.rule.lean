def zw_X3_clear : List (Nat × Nat) := [(4, 3), (4, 8), (4, 10), (4, 15)]
set_option maxHeartbeats 8000000 in
set_option maxRecDepth 100000 in
theorem c_X3_clear (l : Launch) (X : zq_X) (zk zn : Nat) (I : zq_M) (L : zq_L X)  (h0 : Nat) (k_h0 : zq_k X h0 = 4)  : Met l yX3_clear (zt_w yX3_clear cX3_clear 1 none) (zq_rm (0)) (va_Pc [.ref h0] (zq_W X (zk, zn) I)) (va_Qv (fun I2 => zq_fr (zf X zw_X3_clear (fun _ => False)) I I2) (zq_E X (zk, zn)) (zq_A X)) 0 0 (zq_A X) := by
  refine Met.ofW (cc := cX3_clear) (maxL := 1) (ret := none) (by decide) rfl ?_
  intro p e s m args below meth c s₁ B hml hv
  obtain ⟨hargs, hM, hZ⟩ := hv
  have hown : s.vm.findClass RX3 = some m.cls := findClass_of_methodNamed B.named
  have hts := atoms_spec (ws := zt_w yX3_clear cX3_clear 1 none) B.pre
  have E : CallFix p m c cX3_clear 1 s args (Cond.code yX3_clear cX3_clear 1 none :: zt) RX3 := ⟨B.exec, B.bytes, hml, hown, hts⟩
  have hx := B.exec
  have hb := B.bytes
  have hr := B.returns
  have hlocks := B.notSynchronized
  clear B
  have hS : va_S (zq_A X) s.heap s.heap [] := va_S.rf
  have hR : zq_fr (zf X zw_X3_clear (fun _ => False)) I I := zq_fr.rf
  have hl := lv_entry ([.ref h0]) (n := 1) (by exact Nat.le_of_ble_eq_true rfl)
  have hg : entryFrame m args 1 = F0 m 0 ((lg_sl ([.ref h0]) ++ List.replicate (1 - (lg_sl ([.ref h0])).length) Slot.unset).toArray) [] := by rw [hargs]; exact lg_entry_eq m ([.ref h0]) 1
  rw [hg]
  clear hg hargs
  generalize (lg_sl ([.ref h0]) ++ List.replicate (1 - (lg_sl ([.ref h0])).length) Slot.unset).toArray = ls at hl ⊢
  have hl : lv_has ls 1 [(0, .ref h0)] := by exact hl
  obtain ⟨R, hRm⟩ : ∃ R : Room, R = (headSpec (zt_w yX3_clear cX3_clear 1 none) (zq_rm (0))).room := ⟨_, rfl⟩
  rw [← hRm]
  generalize hQ : MQ below _ args s 0 0 (zq_A X) = Q
  obtain ⟨H, hH⟩ : ∃ H, H = s.heap := ⟨_, rfl⟩
  obtain ⟨locs, hlo⟩ : ∃ x : List Loc, x = [] := ⟨_, rfl⟩
  rw [show W p l e R s m args below meth c s.heap [] 0 0 Q = W p l e R s m args below meth c H locs 0 0 Q by rw [hH, hlo]]
  have hM : zq_hm X (zk, zn) I H := by rw [hH]; exact hM
  have hS : va_S (zq_A X) s.heap H locs := by rw [hH, hlo]; exact hS
  clear hH hlo
  refine lv_aload_n hx hb dX3_clear_0 rfl (lv_at hl 0 rfl) ?_
  refine lv_iconst (v := 0) hx hb dX3_clear_1 (by decide +kernel) ?_
  refine zq_pn E hM hS k_h0 (zGX3_51 E hZ) ⟨by decide, by decide, by decide, rfl⟩ (show 0 ≤ (0 : Int32).toInt ∧ (0 : Int32).toInt ≤ 60 by decide +kernel) dX3_clear_2 (fun I101 H locs eI101 hM hS => ?_)
  have hR := zq_fr.putE hR eI101 (zf_i k_h0 rfl rfl)
  refine lv_aload_n hx hb dX3_clear_5 rfl (lv_at hl 0 rfl) ?_
  refine lv_iconst (v := 0) hx hb dX3_clear_6 (by decide +kernel) ?_
  refine zq_pn E hM hS k_h0 (zGX3_55 E hZ) ⟨by decide, by decide, by decide, rfl⟩ (show 0 ≤ (0 : Int32).toInt ∧ (0 : Int32).toInt ≤ 60 by decide +kernel) dX3_clear_7 (fun I102 H locs eI102 hM hS => ?_)
  have hR := zq_fr.putE hR eI102 (zf_i k_h0 rfl rfl)
  refine lv_aload_n hx hb dX3_clear_10 rfl (lv_at hl 0 rfl) ?_
  refine lv_iconst (v := 0) hx hb dX3_clear_11 (by decide +kernel) ?_
  refine zq_pn E hM hS k_h0 (zGX3_58 E hZ) ⟨by decide, by decide, by decide, rfl⟩ (show 0 ≤ (0 : Int32).toInt ∧ (0 : Int32).toInt ≤ 400 by decide +kernel) dX3_clear_12 (fun I103 H locs eI103 hM hS => ?_)
  have hR := zq_fr.putE hR eI103 (zf_i k_h0 rfl rfl)
  refine W.eq (g2 := F0 m 15 ls []) rfl ?_
  refine lv_aload_n hx hb dX3_clear_15 rfl (lv_at hl 0 rfl) ?_
  refine lv_iconst (v := 0) hx hb dX3_clear_16 (by decide +kernel) ?_
  refine zq_pn E hM hS k_h0 (zGX3_61 E hZ) ⟨by decide, by decide, by decide, rfl⟩ (show 0 ≤ (0 : Int32).toInt ∧ (0 : Int32).toInt ≤ 12 by decide +kernel) dX3_clear_17 (fun I104 H locs eI104 hM hS => ?_)
  have hR := zq_fr.putE hR eI104 (zf_i k_h0 rfl rfl)
  subst hQ
  exact zq_vret E hr hZ hM hS hR hlocks dX3_clear_20
set_option maxHeartbeats 8000000 in
set_option maxRecDepth 100000 in
theorem c_X3_hasRoomForClause (l : Launch) (X : zq_X) (zk zn : Nat) (I : zq_M) (L : zq_L X)  (h0 : Nat) (k_h0 : zq_k X h0 = 4)  : Met l yX3_hasRoomForClause (zt_w yX3_hasRoomForClause cX3_hasRoomForClause 1 (some .boolean)) (zq_rm (0)) (va_Pc [.ref h0] (zq_W X (zk, zn) I)) (va_Qi (fun (r : Int32) I2 => I2 = I ∧ (0 ≤ r.toInt ∧ r.toInt ≤ 1)) (zq_E X (zk, zn)) (zq_A X)) 0 0 (zq_A X) := by
  refine Met.ofW (cc := cX3_hasRoomForClause) (maxL := 1) (ret := (some .boolean)) (by decide) rfl ?_
  intro p e s m args below meth c s₁ B hml hv
  obtain ⟨hargs, hM, hZ⟩ := hv
  have hown : s.vm.findClass RX3 = some m.cls := findClass_of_methodNamed B.named
  have hts := atoms_spec (ws := zt_w yX3_hasRoomForClause cX3_hasRoomForClause 1 (some .boolean)) B.pre
  have E : CallFix p m c cX3_hasRoomForClause 1 s args (Cond.code yX3_hasRoomForClause cX3_hasRoomForClause 1 (some .boolean) :: zt) RX3 := ⟨B.exec, B.bytes, hml, hown, hts⟩
  have hx := B.exec
  have hb := B.bytes
  have hr := B.returns
  have hlocks := B.notSynchronized
  clear B
  have hS : va_S (zq_A X) s.heap s.heap [] := va_S.rf
  have hl := lv_entry ([.ref h0]) (n := 1) (by exact Nat.le_of_ble_eq_true rfl)
  have hg : entryFrame m args 1 = F0 m 0 ((lg_sl ([.ref h0]) ++ List.replicate (1 - (lg_sl ([.ref h0])).length) Slot.unset).toArray) [] := by rw [hargs]; exact lg_entry_eq m ([.ref h0]) 1
  rw [hg]
  clear hg hargs
  generalize (lg_sl ([.ref h0]) ++ List.replicate (1 - (lg_sl ([.ref h0])).length) Slot.unset).toArray = ls at hl ⊢
  have hl : lv_has ls 1 [(0, .ref h0)] := by exact hl
  obtain ⟨R, hRm⟩ : ∃ R : Room, R = (headSpec (zt_w yX3_hasRoomForClause cX3_hasRoomForClause 1 (some .boolean)) (zq_rm (0))).room := ⟨_, rfl⟩
  rw [← hRm]
  generalize hQ : MQ below _ args s 0 0 (zq_A X) = Q
  obtain ⟨H, hH⟩ : ∃ H, H = s.heap := ⟨_, rfl⟩
  obtain ⟨locs, hlo⟩ : ∃ x : List Loc, x = [] := ⟨_, rfl⟩
  rw [show W p l e R s m args below meth c s.heap [] 0 0 Q = W p l e R s m args below meth c H locs 0 0 Q by rw [hH, hlo]]
  have hM : zq_hm X (zk, zn) I H := by rw [hH]; exact hM
  have hS : va_S (zq_A X) s.heap H locs := by rw [hH, hlo]; exact hS
  clear hH hlo
  refine lv_aload_n hx hb dX3_hasRoomForClause_0 rfl (lv_at hl 0 rfl) ?_
  refine zq_gn E hM k_h0 (zFX3_61 E hZ) (Or.inl ⟨by decide, by decide, by decide, rfl⟩) dX3_hasRoomForClause_1 (fun x101 ex101 gx101 => ?_)
  replace gx101 : 0 ≤ x101.toInt ∧ x101.toInt ≤ 12 := gx101
  refine lv_bipush (v := 12) hx hb dX3_hasRoomForClause_4 (by decide +kernel) ?_
  refine lv_icmp_ge (tgt := 13) hx hb dX3_hasRoomForClause_6 (by decide) (fun b102 => ?_) (fun b102 => ?_)
  · have b102 := zi_le b102 (zl_12 : (12 : Int32).toInt = 12) (rfl : x101.toInt = x101.toInt)
    refine lv_iconst (v := 0) hx hb dX3_hasRoomForClause_13 (by decide +kernel) ?_
    subst hQ
    exact zq_zret E hr hZ hM hS (show 0 ≤ (0 : Int32).toInt ∧ (0 : Int32).toInt ≤ 1 by decide +kernel) ⟨rfl, (by have := zl_0; omega)⟩ hlocks dX3_hasRoomForClause_14
  · have b102 := zi_nle b102 (zl_12 : (12 : Int32).toInt = 12) (rfl : x101.toInt = x101.toInt)
    refine lv_iconst (v := 1) hx hb dX3_hasRoomForClause_9 (by decide +kernel) ?_
    refine lv_goto (tgt := 14) hx hb dX3_hasRoomForClause_10 (by decide) ?_
    subst hQ
    exact zq_zret E hr hZ hM hS (show 0 ≤ (1 : Int32).toInt ∧ (1 : Int32).toInt ≤ 1 by decide +kernel) ⟨rfl, (by have := zl_1; omega)⟩ hlocks dX3_hasRoomForClause_14
set_option maxHeartbeats 8000000 in
set_option maxRecDepth 100000 in
theorem c_X3_hasRoomForPart (l : Launch) (X : zq_X) (zk zn : Nat) (I : zq_M) (L : zq_L X)  (h0 : Nat) (k_h0 : zq_k X h0 = 4)  : Met l yX3_hasRoomForPart (zt_w yX3_hasRoomForPart cX3_hasRoomForPart 1 (some .boolean)) (zq_rm (0)) (va_Pc [.ref h0] (zq_W X (zk, zn) I)) (va_Qi (fun (r : Int32) I2 => I2 = I ∧ (0 ≤ r.toInt ∧ r.toInt ≤ 1)) (zq_E X (zk, zn)) (zq_A X)) 0 0 (zq_A X) := by
  refine Met.ofW (cc := cX3_hasRoomForPart) (maxL := 1) (ret := (some .boolean)) (by decide) rfl ?_
  intro p e s m args below meth c s₁ B hml hv
  obtain ⟨hargs, hM, hZ⟩ := hv
  have hown : s.vm.findClass RX3 = some m.cls := findClass_of_methodNamed B.named
  have hts := atoms_spec (ws := zt_w yX3_hasRoomForPart cX3_hasRoomForPart 1 (some .boolean)) B.pre
  have E : CallFix p m c cX3_hasRoomForPart 1 s args (Cond.code yX3_hasRoomForPart cX3_hasRoomForPart 1 (some .boolean) :: zt) RX3 := ⟨B.exec, B.bytes, hml, hown, hts⟩
  have hx := B.exec
  have hb := B.bytes
  have hr := B.returns
  have hlocks := B.notSynchronized
  clear B
  have hS : va_S (zq_A X) s.heap s.heap [] := va_S.rf
  have hl := lv_entry ([.ref h0]) (n := 1) (by exact Nat.le_of_ble_eq_true rfl)
  have hg : entryFrame m args 1 = F0 m 0 ((lg_sl ([.ref h0]) ++ List.replicate (1 - (lg_sl ([.ref h0])).length) Slot.unset).toArray) [] := by rw [hargs]; exact lg_entry_eq m ([.ref h0]) 1
  rw [hg]
  clear hg hargs
  generalize (lg_sl ([.ref h0]) ++ List.replicate (1 - (lg_sl ([.ref h0])).length) Slot.unset).toArray = ls at hl ⊢
  have hl : lv_has ls 1 [(0, .ref h0)] := by exact hl
  obtain ⟨R, hRm⟩ : ∃ R : Room, R = (headSpec (zt_w yX3_hasRoomForPart cX3_hasRoomForPart 1 (some .boolean)) (zq_rm (0))).room := ⟨_, rfl⟩
  rw [← hRm]
  generalize hQ : MQ below _ args s 0 0 (zq_A X) = Q
  obtain ⟨H, hH⟩ : ∃ H, H = s.heap := ⟨_, rfl⟩
  obtain ⟨locs, hlo⟩ : ∃ x : List Loc, x = [] := ⟨_, rfl⟩
  rw [show W p l e R s m args below meth c s.heap [] 0 0 Q = W p l e R s m args below meth c H locs 0 0 Q by rw [hH, hlo]]
  have hM : zq_hm X (zk, zn) I H := by rw [hH]; exact hM
  have hS : va_S (zq_A X) s.heap H locs := by rw [hH, hlo]; exact hS
  clear hH hlo
  refine lv_aload_n hx hb dX3_hasRoomForPart_0 rfl (lv_at hl 0 rfl) ?_
  refine zq_gn E hM k_h0 (zFX3_51 E hZ) (Or.inl ⟨by decide, by decide, by decide, rfl⟩) dX3_hasRoomForPart_1 (fun x101 ex101 gx101 => ?_)
  replace gx101 : 0 ≤ x101.toInt ∧ x101.toInt ≤ 60 := gx101
  refine lv_aload_n hx hb dX3_hasRoomForPart_4 rfl (lv_at hl 0 rfl) ?_
  refine zq_gn E hM k_h0 (zFX3_55 E hZ) (Or.inl ⟨by decide, by decide, by decide, rfl⟩) dX3_hasRoomForPart_5 (fun x102 ex102 gx102 => ?_)
  replace gx102 : 0 ≤ x102.toInt ∧ x102.toInt ≤ 60 := gx102
  refine lv_iadd hx hb dX3_hasRoomForPart_8 ?_
  refine lv_topi (fun x103 ex103 => ?_)
  have tx103 := zi_add ex103 (rfl : x101.toInt = x101.toInt) (rfl : x102.toInt = x102.toInt) ⟨by omega, by omega⟩
  refine lv_bipush (v := 60) hx hb dX3_hasRoomForPart_9 (by decide +kernel) ?_
  refine lv_icmp_ge (tgt := 18) hx hb dX3_hasRoomForPart_11 (by decide) (fun b104 => ?_) (fun b104 => ?_)
  · have b104 := zi_le b104 (zl_60 : (60 : Int32).toInt = 60) (rfl : x103.toInt = x103.toInt)
    refine lv_iconst (v := 0) hx hb dX3_hasRoomForPart_18 (by decide +kernel) ?_
    subst hQ
    exact zq_zret E hr hZ hM hS (show 0 ≤ (0 : Int32).toInt ∧ (0 : Int32).toInt ≤ 1 by decide +kernel) ⟨rfl, (by have := zl_0; omega)⟩ hlocks dX3_hasRoomForPart_19
  · have b104 := zi_nle b104 (zl_60 : (60 : Int32).toInt = 60) (rfl : x103.toInt = x103.toInt)
    refine lv_iconst (v := 1) hx hb dX3_hasRoomForPart_14 (by decide +kernel) ?_
    refine lv_goto (tgt := 19) hx hb dX3_hasRoomForPart_15 (by decide) ?_
    subst hQ
    exact zq_zret E hr hZ hM hS (show 0 ≤ (1 : Int32).toInt ∧ (1 : Int32).toInt ≤ 1 by decide +kernel) ⟨rfl, (by have := zl_1; omega)⟩ hlocks dX3_hasRoomForPart_19
set_option maxHeartbeats 8000000 in
set_option maxRecDepth 100000 in
theorem c_X3_asOperand (l : Launch) (X : zq_X) (zk zn : Nat) (I : zq_M) (L : zq_L X)  (p1 : Int32)  : Met l yX3_asOperand (zt_w yX3_asOperand cX3_asOperand 1 (some .int)) (zq_rm (0)) (va_Pc [.int p1] (zq_W X (zk, zn) I)) (va_Qi (fun (r : Int32) I2 => I2 = I ∧ True) (zq_E X (zk, zn)) (zq_A X)) 0 0 (zq_A X) := by
  refine Met.ofW (cc := cX3_asOperand) (maxL := 1) (ret := (some .int)) (by decide) rfl ?_
  intro p e s m args below meth c s₁ B hml hv
  obtain ⟨hargs, hM, hZ⟩ := hv
  have hown : s.vm.findClass RX3 = some m.cls := findClass_of_methodNamed B.named
  have hts := atoms_spec (ws := zt_w yX3_asOperand cX3_asOperand 1 (some .int)) B.pre
  have E : CallFix p m c cX3_asOperand 1 s args (Cond.code yX3_asOperand cX3_asOperand 1 (some .int) :: zt) RX3 := ⟨B.exec, B.bytes, hml, hown, hts⟩
  have hx := B.exec
  have hb := B.bytes
  have hr := B.returns
  have hlocks := B.notSynchronized
  clear B
  have hS : va_S (zq_A X) s.heap s.heap [] := va_S.rf
  have hl := lv_entry ([.int p1]) (n := 1) (by exact Nat.le_of_ble_eq_true rfl)
  have hg : entryFrame m args 1 = F0 m 0 ((lg_sl ([.int p1]) ++ List.replicate (1 - (lg_sl ([.int p1])).length) Slot.unset).toArray) [] := by rw [hargs]; exact lg_entry_eq m ([.int p1]) 1
  rw [hg]
  clear hg hargs
  generalize (lg_sl ([.int p1]) ++ List.replicate (1 - (lg_sl ([.int p1])).length) Slot.unset).toArray = ls at hl ⊢
  have hl : lv_has ls 1 [(0, .int p1)] := by exact hl
  obtain ⟨R, hRm⟩ : ∃ R : Room, R = (headSpec (zt_w yX3_asOperand cX3_asOperand 1 (some .int)) (zq_rm (0))).room := ⟨_, rfl⟩
  rw [← hRm]
  generalize hQ : MQ below _ args s 0 0 (zq_A X) = Q
  obtain ⟨H, hH⟩ : ∃ H, H = s.heap := ⟨_, rfl⟩
  obtain ⟨locs, hlo⟩ : ∃ x : List Loc, x = [] := ⟨_, rfl⟩
  rw [show W p l e R s m args below meth c s.heap [] 0 0 Q = W p l e R s m args below meth c H locs 0 0 Q by rw [hH, hlo]]
  have hM : zq_hm X (zk, zn) I H := by rw [hH]; exact hM
  have hS : va_S (zq_A X) s.heap H locs := by rw [hH, hlo]; exact hS
  clear hH hlo
  refine lv_iconst (v := (-1)) hx hb dX3_asOperand_0 (by decide +kernel) ?_
  refine lv_iload_n hx hb dX3_asOperand_1 rfl (lv_at hl 0 rfl) ?_
  refine lv_isub hx hb dX3_asOperand_2 ?_
  refine lv_topi (fun x101 ex101 => ?_)
  have tx101 := zi_sub ex101 (zl_m1 : (-1 : Int32).toInt = (-1)) (rfl : p1.toInt = p1.toInt) ⟨by have := zi_rng p1; omega, by have := zi_rng p1; omega⟩
  subst hQ
  exact zq_iret E hr hZ hM hS ⟨rfl, trivial⟩ hlocks dX3_asOperand_3
def zw_X3_addValue : List (Nat × Nat) := [(4, 3), (25, 999)]
set_option maxHeartbeats 8000000 in
set_option maxRecDepth 100000 in
theorem c_X3_addValue (l : Launch) (X : zq_X) (zk zn : Nat) (I : zq_M) (L : zq_L X)  (h0 : Nat) (k_h0 : zq_k X h0 = 4) (p1 : Int32) (p2 : Int32)  : Met l yX3_addValue (zt_w yX3_addValue cX3_addValue 3 none) (zq_rm (0)) (va_Pc [.ref h0, .int p1, .int p2] (zq_W X (zk, zn) I)) (va_Qv (fun I2 => zq_fr (zf X zw_X3_addValue (fun _ => False)) I I2) (zq_E X (zk, zn)) (zq_A X)) 0 0 (zq_A X) := by
  refine Met.ofW (cc := cX3_addValue) (maxL := 3) (ret := none) (by decide) rfl ?_
  intro p e s m args below meth c s₁ B hml hv
  obtain ⟨hargs, hM, hZ⟩ := hv
  have hown : s.vm.findClass RX3 = some m.cls := findClass_of_methodNamed B.named
  have hts := atoms_spec (ws := zt_w yX3_addValue cX3_addValue 3 none) B.pre
  have E : CallFix p m c cX3_addValue 3 s args (Cond.code yX3_addValue cX3_addValue 3 none :: zt) RX3 := ⟨B.exec, B.bytes, hml, hown, hts⟩
  have hx := B.exec
  have hb := B.bytes
  have hr := B.returns
  have hlocks := B.notSynchronized
  clear B
  have hS : va_S (zq_A X) s.heap s.heap [] := va_S.rf
  have hR : zq_fr (zf X zw_X3_addValue (fun _ => False)) I I := zq_fr.rf
  have hl := lv_entry ([.ref h0, .int p1, .int p2]) (n := 3) (by exact Nat.le_of_ble_eq_true rfl)
  have hg : entryFrame m args 3 = F0 m 0 ((lg_sl ([.ref h0, .int p1, .int p2]) ++ List.replicate (3 - (lg_sl ([.ref h0, .int p1, .int p2])).length) Slot.unset).toArray) [] := by rw [hargs]; exact lg_entry_eq m ([.ref h0, .int p1, .int p2]) 3
  rw [hg]
  clear hg hargs
  generalize (lg_sl ([.ref h0, .int p1, .int p2]) ++ List.replicate (3 - (lg_sl ([.ref h0, .int p1, .int p2])).length) Slot.unset).toArray = ls at hl ⊢
  have hl : lv_has ls 3 [(0, .ref h0), (1, .int p1), (2, .int p2)] := by exact hl
  obtain ⟨R, hRm⟩ : ∃ R : Room, R = (headSpec (zt_w yX3_addValue cX3_addValue 3 none) (zq_rm (0))).room := ⟨_, rfl⟩
  rw [← hRm]
  generalize hQ : MQ below _ args s 0 0 (zq_A X) = Q
  obtain ⟨H, hH⟩ : ∃ H, H = s.heap := ⟨_, rfl⟩
  obtain ⟨locs, hlo⟩ : ∃ x : List Loc, x = [] := ⟨_, rfl⟩
  rw [show W p l e R s m args below meth c s.heap [] 0 0 Q = W p l e R s m args below meth c H locs 0 0 Q by rw [hH, hlo]]
  have hM : zq_hm X (zk, zn) I H := by rw [hH]; exact hM
  have hS : va_S (zq_A X) s.heap H locs := by rw [hH, hlo]; exact hS
  clear hH hlo
  refine lv_aload_n hx hb dX3_addValue_0 rfl (lv_at hl 0 rfl) ?_
  refine zq_gn E hM k_h0 (zFX3_51 E hZ) (Or.inl ⟨by decide, by decide, by decide, rfl⟩) dX3_addValue_1 (fun x101 ex101 gx101 => ?_)
  replace gx101 : 0 ≤ x101.toInt ∧ x101.toInt ≤ 60 := gx101
  refine lv_bipush (v := 60) hx hb dX3_addValue_4 (by decide +kernel) ?_
  refine lv_icmp_ge (tgt := 39) hx hb dX3_addValue_6 (by decide) (fun b102 => ?_) (fun b102 => ?_)
  · have b102 := zi_le b102 (zl_60 : (60 : Int32).toInt = 60) (rfl : x101.toInt = x101.toInt)
    subst hQ
    exact zq_vret E hr hZ hM hS hR hlocks dX3_addValue_39
  · have b102 := zi_nle b102 (zl_60 : (60 : Int32).toInt = 60) (rfl : x101.toInt = x101.toInt)
    refine lv_aload_n hx hb dX3_addValue_9 rfl (lv_at hl 0 rfl) ?_
    refine zq_getr E hM k_h0 (zFX3_15 E hZ) ⟨by decide, by decide, by decide, rfl⟩ dX3_addValue_10 ?_
    have k103 : zq_k X (zq_r X h0 1) = 25 := zq_lk L.1 k_h0 rfl (by decide)
    refine lv_aload_n hx hb dX3_addValue_13 rfl (lv_at hl 0 rfl) ?_
    refine zq_gk (v := x101) E hM k_h0 (zFX3_51 E hZ) (Or.inl ⟨by decide, by decide, by decide, rfl⟩) ex101 dX3_addValue_14 ?_
    refine lv_iload_n hx hb dX3_addValue_17 rfl (lv_at hl 1 rfl) ?_
    refine zq_isn (n := 60) (j := (x101.toNatClampNeg)) E hZ hM hS k103 ⟨by decide, rfl⟩ ⟨by omega, by omega⟩ rfl (zq_any _) dX3_addValue_18 (fun I104 H locs eI104 hM hS => ?_)
    have hR := zq_fr.putE hR eI104 (zf_ia k103 (by decide) rfl)
    refine lv_aload_n hx hb dX3_addValue_19 rfl (lv_at hl 0 rfl) ?_
    refine zq_getr E hM k_h0 (zFX3_19 E hZ) ⟨by decide, by decide, by decide, rfl⟩ dX3_addValue_20 ?_
    have k105 : zq_k X (zq_r X h0 2) = 25 := zq_lk L.1 k_h0 rfl (by decide)
    refine lv_aload_n hx hb dX3_addValue_23 rfl (lv_at hl 0 rfl) ?_
    refine W.eq (g2 := F0 m 24 ls [.ref h0, .ref (zq_r X h0 2)]) rfl ?_
    refine zq_gk (v := x101) E hM k_h0 (zFX3_51 E hZ) (Or.inl ⟨by decide, by decide, by decide, rfl⟩) (zq_kp eI104 (Or.inl (zq_kne k_h0 k103 (by decide))) ex101) dX3_addValue_24 ?_
    refine lv_iload_n hx hb dX3_addValue_27 rfl (lv_at hl 2 rfl) ?_
    refine zq_isn (n := 60) (j := (x101.toNatClampNeg)) E hZ hM hS k105 ⟨by decide, rfl⟩ ⟨by omega, by omega⟩ rfl (zq_any _) dX3_addValue_28 (fun I106 H locs eI106 hM hS => ?_)
    have hR := zq_fr.putE hR eI106 (zf_ia k105 (by decide) rfl)
    refine lv_aload_n hx hb dX3_addValue_29 rfl (lv_at hl 0 rfl) ?_
    refine lv_dup hx hb dX3_addValue_30 rfl ?_
    refine zq_gk (v := x101) E hM k_h0 (zFX3_51 E hZ) (Or.inl ⟨by decide, by decide, by decide, rfl⟩) (zq_kp eI106 (Or.inl (zq_kne k_h0 k105 (by decide))) (zq_kp eI104 (Or.inl (zq_kne k_h0 k103 (by decide))) ex101)) dX3_addValue_31 ?_
    refine lv_iconst (v := 1) hx hb dX3_addValue_34 (by decide +kernel) ?_
    refine lv_iadd hx hb dX3_addValue_35 ?_
    refine lv_topi (fun x107 ex107 => ?_)
    have tx107 := zi_add ex107 (rfl : x101.toInt = x101.toInt) (zl_1 : (1 : Int32).toInt = 1) ⟨by omega, by omega⟩
    refine zq_pn E hM hS k_h0 (zGX3_51 E hZ) ⟨by decide, by decide, by decide, rfl⟩ (show 0 ≤ x107.toInt ∧ x107.toInt ≤ 60 from ⟨by omega, by omega⟩) dX3_addValue_36 (fun I108 H locs eI108 hM hS => ?_)
    have hR := zq_fr.putE hR eI108 (zf_i k_h0 rfl rfl)
    subst hQ
    exact zq_vret E hr hZ hM hS hR hlocks dX3_addValue_39
def zw_X3_addFact : List (Nat × Nat) := [(4, 8), (25, 999), (26, 999)]
set_option maxHeartbeats 8000000 in
set_option maxRecDepth 100000 in
theorem c_X3_addFact (l : Launch) (X : zq_X) (zk zn : Nat) (I : zq_M) (L : zq_L X)  (h0 : Nat) (k_h0 : zq_k X h0 = 4) (p1 : Int32) (p2 : Int32) (g_p1 : 0 ≤ p1.toInt ∧ p1.toInt ≤ 2147483647) : Met l yX3_addFact (zt_w yX3_addFact cX3_addFact 3 (some .int)) (zq_rm (0)) (va_Pc [.ref h0, .int p1, .int p2] (zq_W X (zk, zn) I)) (va_Qi (fun (r : Int32) I2 => zq_fr (zf X zw_X3_addFact (fun _ => False)) I I2 ∧ ((-1) ≤ r.toInt ∧ r.toInt ≤ 59)) (zq_E X (zk, zn)) (zq_A X)) 0 0 (zq_A X) := by
  refine Met.ofW (cc := cX3_addFact) (maxL := 3) (ret := (some .int)) (by decide) rfl ?_
  intro p e s m args below meth c s₁ B hml hv
  obtain ⟨hargs, hM, hZ⟩ := hv
  have hown : s.vm.findClass RX3 = some m.cls := findClass_of_methodNamed B.named
  have hts := atoms_spec (ws := zt_w yX3_addFact cX3_addFact 3 (some .int)) B.pre
  have E : CallFix p m c cX3_addFact 3 s args (Cond.code yX3_addFact cX3_addFact 3 (some .int) :: zt) RX3 := ⟨B.exec, B.bytes, hml, hown, hts⟩
  have hx := B.exec
  have hb := B.bytes
  have hr := B.returns
  have hlocks := B.notSynchronized
  clear B
  have hS : va_S (zq_A X) s.heap s.heap [] := va_S.rf
  have hR : zq_fr (zf X zw_X3_addFact (fun _ => False)) I I := zq_fr.rf
  have hl := lv_entry ([.ref h0, .int p1, .int p2]) (n := 3) (by exact Nat.le_of_ble_eq_true rfl)
  have hg : entryFrame m args 3 = F0 m 0 ((lg_sl ([.ref h0, .int p1, .int p2]) ++ List.replicate (3 - (lg_sl ([.ref h0, .int p1, .int p2])).length) Slot.unset).toArray) [] := by rw [hargs]; exact lg_entry_eq m ([.ref h0, .int p1, .int p2]) 3
  rw [hg]
  clear hg hargs
  generalize (lg_sl ([.ref h0, .int p1, .int p2]) ++ List.replicate (3 - (lg_sl ([.ref h0, .int p1, .int p2])).length) Slot.unset).toArray = ls at hl ⊢
  have hl : lv_has ls 3 [(0, .ref h0), (1, .int p1), (2, .int p2)] := by exact hl
  obtain ⟨R, hRm⟩ : ∃ R : Room, R = (headSpec (zt_w yX3_addFact cX3_addFact 3 (some .int)) (zq_rm (0))).room := ⟨_, rfl⟩
  rw [← hRm]
  generalize hQ : MQ below _ args s 0 0 (zq_A X) = Q
  obtain ⟨H, hH⟩ : ∃ H, H = s.heap := ⟨_, rfl⟩
  obtain ⟨locs, hlo⟩ : ∃ x : List Loc, x = [] := ⟨_, rfl⟩
  rw [show W p l e R s m args below meth c s.heap [] 0 0 Q = W p l e R s m args below meth c H locs 0 0 Q by rw [hH, hlo]]
  have hM : zq_hm X (zk, zn) I H := by rw [hH]; exact hM
  have hS : va_S (zq_A X) s.heap H locs := by rw [hH, hlo]; exact hS
  clear hH hlo
  refine lv_aload_n hx hb dX3_addFact_0 rfl (lv_at hl 0 rfl) ?_
  refine zq_gn E hM k_h0 (zFX3_55 E hZ) (Or.inl ⟨by decide, by decide, by decide, rfl⟩) dX3_addFact_1 (fun x101 ex101 gx101 => ?_)
  replace gx101 : 0 ≤ x101.toInt ∧ x101.toInt ≤ 60 := gx101
  refine lv_bipush (v := 60) hx hb dX3_addFact_4 (by decide +kernel) ?_
  refine lv_icmp_lt (tgt := 11) hx hb dX3_addFact_6 (by decide) (fun b102 => ?_) (fun b102 => ?_)
  · have b102 := zi_lt b102 (rfl : x101.toInt = x101.toInt) (zl_60 : (60 : Int32).toInt = 60)
    refine lv_aload_n hx hb dX3_addFact_11 rfl (lv_at hl 0 rfl) ?_
    refine zq_getr E hM k_h0 (zFX3_22 E hZ) ⟨by decide, by decide, by decide, rfl⟩ dX3_addFact_12 ?_
    have k103 : zq_k X (zq_r X h0 4) = 26 := zq_lk L.1 k_h0 rfl (by decide)
    refine lv_aload_n hx hb dX3_addFact_15 rfl (lv_at hl 0 rfl) ?_
    refine zq_gk (v := x101) E hM k_h0 (zFX3_55 E hZ) (Or.inl ⟨by decide, by decide, by decide, rfl⟩) ex101 dX3_addFact_16 ?_
    refine lv_iload_n hx hb dX3_addFact_19 rfl (lv_at hl 1 rfl) ?_
    refine zq_isn (n := 60) (j := (x101.toNatClampNeg)) E hZ hM hS k103 ⟨by decide, rfl⟩ ⟨by omega, by omega⟩ rfl (show 0 ≤ p1.toInt ∧ p1.toInt ≤ 2147483647 from ⟨by have := zi_rng p1; omega, by have := zi_rng p1; omega⟩) dX3_addFact_20 (fun I104 H locs eI104 hM hS => ?_)
    have hR := zq_fr.putE hR eI104 (zf_ia k103 (by decide) rfl)
    refine lv_aload_n hx hb dX3_addFact_21 rfl (lv_at hl 0 rfl) ?_
    refine zq_getr E hM k_h0 (zFX3_25 E hZ) ⟨by decide, by decide, by decide, rfl⟩ dX3_addFact_22 ?_
    have k105 : zq_k X (zq_r X h0 5) = 26 := zq_lk L.1 k_h0 rfl (by decide)
    refine lv_aload_n hx hb dX3_addFact_25 rfl (lv_at hl 0 rfl) ?_
    refine W.eq (g2 := F0 m 26 ls [.ref h0, .ref (zq_r X h0 5)]) rfl ?_
    refine zq_gk (v := x101) E hM k_h0 (zFX3_55 E hZ) (Or.inl ⟨by decide, by decide, by decide, rfl⟩) (zq_kp eI104 (Or.inl (zq_kne k_h0 k103 (by decide))) ex101) dX3_addFact_26 ?_
    refine lv_aload_n hx hb dX3_addFact_29 rfl (lv_at hl 0 rfl) ?_
    refine zq_gn E hM k_h0 (zFX3_51 E hZ) (Or.inl ⟨by decide, by decide, by decide, rfl⟩) dX3_addFact_30 (fun x106 ex106 gx106 => ?_)
    replace gx106 : 0 ≤ x106.toInt ∧ x106.toInt ≤ 60 := gx106
    refine zq_isn (n := 60) (j := (x101.toNatClampNeg)) E hZ hM hS k105 ⟨by decide, rfl⟩ ⟨by omega, by omega⟩ rfl (show 0 ≤ x106.toInt ∧ x106.toInt ≤ 2147483647 from ⟨by omega, by omega⟩) dX3_addFact_33 (fun I107 H locs eI107 hM hS => ?_)
    have hR := zq_fr.putE hR eI107 (zf_ia k105 (by decide) rfl)
    refine lv_aload_n hx hb dX3_addFact_34 rfl (lv_at hl 0 rfl) ?_
    refine zq_getr E hM k_h0 (zFX3_28 E hZ) ⟨by decide, by decide, by decide, rfl⟩ dX3_addFact_35 ?_
    have k108 : zq_k X (zq_r X h0 6) = 25 := zq_lk L.1 k_h0 rfl (by decide)
    refine lv_aload_n hx hb dX3_addFact_38 rfl (lv_at hl 0 rfl) ?_
    refine zq_gk (v := x101) E hM k_h0 (zFX3_55 E hZ) (Or.inl ⟨by decide, by decide, by decide, rfl⟩) (zq_kp eI107 (Or.inl (zq_kne k_h0 k105 (by decide))) (zq_kp eI104 (Or.inl (zq_kne k_h0 k103 (by decide))) ex101)) dX3_addFact_39 ?_
    refine lv_aload_n hx hb dX3_addFact_42 rfl (lv_at hl 0 rfl) ?_
    refine zq_gk (v := x106) E hM k_h0 (zFX3_51 E hZ) (Or.inl ⟨by decide, by decide, by decide, rfl⟩) (zq_kp eI107 (Or.inl (zq_kne k_h0 k105 (by decide))) ex106) dX3_addFact_43 ?_
    refine W.eq (g2 := F0 m 46 ls [.int x106, .int x101, .ref (zq_r X h0 6)]) rfl ?_
    refine zq_isn (n := 60) (j := (x101.toNatClampNeg)) E hZ hM hS k108 ⟨by decide, rfl⟩ ⟨by omega, by omega⟩ rfl (zq_any _) dX3_addFact_46 (fun I109 H locs eI109 hM hS => ?_)
    have hR := zq_fr.putE hR eI109 (zf_ia k108 (by decide) rfl)
    refine lv_aload_n hx hb dX3_addFact_47 rfl (lv_at hl 0 rfl) ?_
    refine zq_getr E hM k_h0 (zFX3_31 E hZ) ⟨by decide, by decide, by decide, rfl⟩ dX3_addFact_48 ?_
    have k110 : zq_k X (zq_r X h0 7) = 25 := zq_lk L.1 k_h0 rfl (by decide)
    refine lv_aload_n hx hb dX3_addFact_51 rfl (lv_at hl 0 rfl) ?_
    refine zq_gk (v := x101) E hM k_h0 (zFX3_55 E hZ) (Or.inl ⟨by decide, by decide, by decide, rfl⟩) (zq_kp eI109 (Or.inl (zq_kne k_h0 k108 (by decide))) (zq_kp eI107 (Or.inl (zq_kne k_h0 k105 (by decide))) (zq_kp eI104 (Or.inl (zq_kne k_h0 k103 (by decide))) ex101))) dX3_addFact_52 ?_
    refine lv_iload_n hx hb dX3_addFact_55 rfl (lv_at hl 2 rfl) ?_
    refine zq_isn (n := 60) (j := (x101.toNatClampNeg)) E hZ hM hS k110 ⟨by decide, rfl⟩ ⟨by omega, by omega⟩ rfl (zq_any _) dX3_addFact_56 (fun I111 H locs eI111 hM hS => ?_)
    have hR := zq_fr.putE hR eI111 (zf_ia k110 (by decide) rfl)
    refine lv_aload_n hx hb dX3_addFact_57 rfl (lv_at hl 0 rfl) ?_
    refine lv_dup hx hb dX3_addFact_58 rfl ?_
    refine zq_gk (v := x101) E hM k_h0 (zFX3_55 E hZ) (Or.inl ⟨by decide, by decide, by decide, rfl⟩) (zq_kp eI111 (Or.inl (zq_kne k_h0 k110 (by decide))) (zq_kp eI109 (Or.inl (zq_kne k_h0 k108 (by decide))) (zq_kp eI107 (Or.inl (zq_kne k_h0 k105 (by decide))) (zq_kp eI104 (Or.inl (zq_kne k_h0 k103 (by decide))) ex101)))) dX3_addFact_59 ?_
    refine W.eq (g2 := F0 m 62 ls [.int x101, .ref h0]) rfl ?_
    refine lv_iconst (v := 1) hx hb dX3_addFact_62 (by decide +kernel) ?_
    refine lv_iadd hx hb dX3_addFact_63 ?_
    refine lv_topi (fun x112 ex112 => ?_)
    have tx112 := zi_add ex112 (rfl : x101.toInt = x101.toInt) (zl_1 : (1 : Int32).toInt = 1) ⟨by omega, by omega⟩
    refine zq_pn E hM hS k_h0 (zGX3_55 E hZ) ⟨by decide, by decide, by decide, rfl⟩ (show 0 ≤ x112.toInt ∧ x112.toInt ≤ 60 from ⟨by omega, by omega⟩) dX3_addFact_64 (fun I113 H locs eI113 hM hS => ?_)
    have hR := zq_fr.putE hR eI113 (zf_i k_h0 rfl rfl)
    refine lv_aload_n hx hb dX3_addFact_67 rfl (lv_at hl 0 rfl) ?_
    refine zq_gk (v := x112) E hM k_h0 (zFX3_55 E hZ) (Or.inl ⟨by decide, by decide, by decide, rfl⟩) (zq_kv eI113) dX3_addFact_68 ?_
    refine lv_iconst (v := 1) hx hb dX3_addFact_71 (by decide +kernel) ?_
    refine lv_isub hx hb dX3_addFact_72 ?_
    refine lv_topi (fun x114 ex114 => ?_)
    have tx114 := zi_sub ex114 (rfl : x112.toInt = x112.toInt) (zl_1 : (1 : Int32).toInt = 1) ⟨by omega, by omega⟩
    subst hQ
    exact zq_iret E hr hZ hM hS ⟨hR, (by omega)⟩ hlocks dX3_addFact_73
  · have b102 := zi_nlt b102 (rfl : x101.toInt = x101.toInt) (zl_60 : (60 : Int32).toInt = 60)
    refine lv_iconst (v := (-1)) hx hb dX3_addFact_9 (by decide +kernel) ?_
    subst hQ
    exact zq_iret E hr hZ hM hS ⟨hR, (by have := zl_m1; omega)⟩ hlocks dX3_addFact_10
def zw_X3_closeFact : List (Nat × Nat) := [(25, 999)]
set_option maxHeartbeats 8000000 in
set_option maxRecDepth 100000 in
theorem c_X3_closeFact (l : Launch) (X : zq_X) (zk zn : Nat) (I : zq_M) (L : zq_L X)  (h0 : Nat) (k_h0 : zq_k X h0 = 4) (p1 : Int32)  : Met l yX3_closeFact (zt_w yX3_closeFact cX3_closeFact 2 none) (zq_rm (0)) (va_Pc [.ref h0, .int p1] (zq_W X (zk, zn) I)) (va_Qv (fun I2 => zq_fr (zf X zw_X3_closeFact (fun _ => False)) I I2) (zq_E X (zk, zn)) (zq_A X)) 0 0 (zq_A X) := by
  refine Met.ofW (cc := cX3_closeFact) (maxL := 2) (ret := none) (by decide) rfl ?_
  intro p e s m args below meth c s₁ B hml hv
  obtain ⟨hargs, hM, hZ⟩ := hv
  have hown : s.vm.findClass RX3 = some m.cls := findClass_of_methodNamed B.named
  have hts := atoms_spec (ws := zt_w yX3_closeFact cX3_closeFact 2 none) B.pre
  have E : CallFix p m c cX3_closeFact 2 s args (Cond.code yX3_closeFact cX3_closeFact 2 none :: zt) RX3 := ⟨B.exec, B.bytes, hml, hown, hts⟩
  have hx := B.exec
  have hb := B.bytes
  have hr := B.returns
  have hlocks := B.notSynchronized
  clear B
  have hS : va_S (zq_A X) s.heap s.heap [] := va_S.rf
  have hR : zq_fr (zf X zw_X3_closeFact (fun _ => False)) I I := zq_fr.rf
  have hl := lv_entry ([.ref h0, .int p1]) (n := 2) (by exact Nat.le_of_ble_eq_true rfl)
  have hg : entryFrame m args 2 = F0 m 0 ((lg_sl ([.ref h0, .int p1]) ++ List.replicate (2 - (lg_sl ([.ref h0, .int p1])).length) Slot.unset).toArray) [] := by rw [hargs]; exact lg_entry_eq m ([.ref h0, .int p1]) 2
  rw [hg]
  clear hg hargs
  generalize (lg_sl ([.ref h0, .int p1]) ++ List.replicate (2 - (lg_sl ([.ref h0, .int p1])).length) Slot.unset).toArray = ls at hl ⊢
  have hl : lv_has ls 2 [(0, .ref h0), (1, .int p1)] := by exact hl
  obtain ⟨R, hRm⟩ : ∃ R : Room, R = (headSpec (zt_w yX3_closeFact cX3_closeFact 2 none) (zq_rm (0))).room := ⟨_, rfl⟩
  rw [← hRm]
  generalize hQ : MQ below _ args s 0 0 (zq_A X) = Q
  obtain ⟨H, hH⟩ : ∃ H, H = s.heap := ⟨_, rfl⟩
  obtain ⟨locs, hlo⟩ : ∃ x : List Loc, x = [] := ⟨_, rfl⟩
  rw [show W p l e R s m args below meth c s.heap [] 0 0 Q = W p l e R s m args below meth c H locs 0 0 Q by rw [hH, hlo]]
  have hM : zq_hm X (zk, zn) I H := by rw [hH]; exact hM
  have hS : va_S (zq_A X) s.heap H locs := by rw [hH, hlo]; exact hS
  clear hH hlo
  refine lv_iload_n hx hb dX3_closeFact_0 rfl (lv_at hl 1 rfl) ?_
  refine lv_if_lt (tgt := 22) hx hb dX3_closeFact_1 (by decide) (fun b101 => ?_) (fun b101 => ?_)
  · have b101 := zi_lt b101 (rfl : p1.toInt = p1.toInt) (zl_0 : (0 : Int32).toInt = 0)
    subst hQ
    exact zq_vret E hr hZ hM hS hR hlocks dX3_closeFact_22
  · have b101 := zi_nlt b101 (rfl : p1.toInt = p1.toInt) (zl_0 : (0 : Int32).toInt = 0)
    refine lv_iload_n hx hb dX3_closeFact_4 rfl (lv_at hl 1 rfl) ?_
    refine lv_aload_n hx hb dX3_closeFact_5 rfl (lv_at hl 0 rfl) ?_
    refine zq_gn E hM k_h0 (zFX3_55 E hZ) (Or.inl ⟨by decide, by decide, by decide, rfl⟩) dX3_closeFact_6 (fun x102 ex102 gx102 => ?_)
    replace gx102 : 0 ≤ x102.toInt ∧ x102.toInt ≤ 60 := gx102
    refine lv_icmp_ge (tgt := 22) hx hb dX3_closeFact_9 (by decide) (fun b103 => ?_) (fun b103 => ?_)
    · have b103 := zi_le b103 (rfl : x102.toInt = x102.toInt) (rfl : p1.toInt = p1.toInt)
      subst hQ
      exact zq_vret E hr hZ hM hS hR hlocks dX3_closeFact_22
    · have b103 := zi_nle b103 (rfl : x102.toInt = x102.toInt) (rfl : p1.toInt = p1.toInt)
      refine lv_aload_n hx hb dX3_closeFact_12 rfl (lv_at hl 0 rfl) ?_
      refine zq_getr E hM k_h0 (zFX3_28 E hZ) ⟨by decide, by decide, by decide, rfl⟩ dX3_closeFact_13 ?_
      have k104 : zq_k X (zq_r X h0 6) = 25 := zq_lk L.1 k_h0 rfl (by decide)
      refine lv_iload_n hx hb dX3_closeFact_16 rfl (lv_at hl 1 rfl) ?_
      refine lv_aload_n hx hb dX3_closeFact_17 rfl (lv_at hl 0 rfl) ?_
      refine zq_gn E hM k_h0 (zFX3_51 E hZ) (Or.inl ⟨by decide, by decide, by decide, rfl⟩) dX3_closeFact_18 (fun x105 ex105 gx105 => ?_)
      replace gx105 : 0 ≤ x105.toInt ∧ x105.toInt ≤ 60 := gx105
      refine zq_isn (n := 60) (j := (p1.toNatClampNeg)) E hZ hM hS k104 ⟨by decide, rfl⟩ ⟨by omega, by omega⟩ rfl (zq_any _) dX3_closeFact_21 (fun I106 H locs eI106 hM hS => ?_)
      have hR := zq_fr.putE hR eI106 (zf_ia k104 (by decide) rfl)
      subst hQ
      exact zq_vret E hr hZ hM hS hR hlocks dX3_closeFact_22
def zw_X3_addStep : List (Nat × Nat) := [(4, 10), (27, 999)]
set_option maxHeartbeats 8000000 in
set_option maxRecDepth 100000 in
theorem c_X3_addStep (l : Launch) (X : zq_X) (zk zn : Nat) (I : zq_M) (L : zq_L X)  (h0 : Nat) (k_h0 : zq_k X h0 = 4) (p1 : Int32)  : Met l yX3_addStep (zt_w yX3_addStep cX3_addStep 2 none) (zq_rm (0)) (va_Pc [.ref h0, .int p1] (zq_W X (zk, zn) I)) (va_Qv (fun I2 => zq_fr (zf X zw_X3_addStep (fun _ => False)) I I2) (zq_E X (zk, zn)) (zq_A X)) 0 0 (zq_A X) := by
  refine Met.ofW (cc := cX3_addStep) (maxL := 2) (ret := none) (by decide) rfl ?_
  intro p e s m args below meth c s₁ B hml hv
  obtain ⟨hargs, hM, hZ⟩ := hv
  have hown : s.vm.findClass RX3 = some m.cls := findClass_of_methodNamed B.named
  have hts := atoms_spec (ws := zt_w yX3_addStep cX3_addStep 2 none) B.pre
  have E : CallFix p m c cX3_addStep 2 s args (Cond.code yX3_addStep cX3_addStep 2 none :: zt) RX3 := ⟨B.exec, B.bytes, hml, hown, hts⟩
  have hx := B.exec
  have hb := B.bytes
  have hr := B.returns
  have hlocks := B.notSynchronized
  clear B
  have hS : va_S (zq_A X) s.heap s.heap [] := va_S.rf
  have hR : zq_fr (zf X zw_X3_addStep (fun _ => False)) I I := zq_fr.rf
  have hl := lv_entry ([.ref h0, .int p1]) (n := 2) (by exact Nat.le_of_ble_eq_true rfl)
  have hg : entryFrame m args 2 = F0 m 0 ((lg_sl ([.ref h0, .int p1]) ++ List.replicate (2 - (lg_sl ([.ref h0, .int p1])).length) Slot.unset).toArray) [] := by rw [hargs]; exact lg_entry_eq m ([.ref h0, .int p1]) 2
  rw [hg]
  clear hg hargs
  generalize (lg_sl ([.ref h0, .int p1]) ++ List.replicate (2 - (lg_sl ([.ref h0, .int p1])).length) Slot.unset).toArray = ls at hl ⊢
  have hl : lv_has ls 2 [(0, .ref h0), (1, .int p1)] := by exact hl
  obtain ⟨R, hRm⟩ : ∃ R : Room, R = (headSpec (zt_w yX3_addStep cX3_addStep 2 none) (zq_rm (0))).room := ⟨_, rfl⟩
  rw [← hRm]
  generalize hQ : MQ below _ args s 0 0 (zq_A X) = Q
  obtain ⟨H, hH⟩ : ∃ H, H = s.heap := ⟨_, rfl⟩
  obtain ⟨locs, hlo⟩ : ∃ x : List Loc, x = [] := ⟨_, rfl⟩
  rw [show W p l e R s m args below meth c s.heap [] 0 0 Q = W p l e R s m args below meth c H locs 0 0 Q by rw [hH, hlo]]
  have hM : zq_hm X (zk, zn) I H := by rw [hH]; exact hM
  have hS : va_S (zq_A X) s.heap H locs := by rw [hH, hlo]; exact hS
  clear hH hlo
  refine lv_aload_n hx hb dX3_addStep_0 rfl (lv_at hl 0 rfl) ?_
  refine zq_gn E hM k_h0 (zFX3_58 E hZ) (Or.inl ⟨by decide, by decide, by decide, rfl⟩) dX3_addStep_1 (fun x101 ex101 gx101 => ?_)
  replace gx101 : 0 ≤ x101.toInt ∧ x101.toInt ≤ 400 := gx101
  refine lv_aload_n hx hb dX3_addStep_4 rfl (lv_at hl 0 rfl) ?_
  refine zq_getr E hM k_h0 (zFX3_36 E hZ) ⟨by decide, by decide, by decide, rfl⟩ dX3_addStep_5 ?_
  have k102 : zq_k X (zq_r X h0 9) = 27 := zq_lk L.1 k_h0 rfl (by decide)
  refine zq_alen (n := 400) (t := 0) (v := 400) E hZ hM k102 ⟨by decide, rfl⟩ (by decide) (by decide +kernel) dX3_addStep_8 ?_
  refine lv_icmp_ge (tgt := 32) hx hb dX3_addStep_9 (by decide) (fun b103 => ?_) (fun b103 => ?_)
  · have b103 := zi_le b103 (zl_400 : (400 : Int32).toInt = 400) (rfl : x101.toInt = x101.toInt)
    subst hQ
    exact zq_vret E hr hZ hM hS hR hlocks dX3_addStep_32
  · have b103 := zi_nle b103 (zl_400 : (400 : Int32).toInt = 400) (rfl : x101.toInt = x101.toInt)
    refine lv_aload_n hx hb dX3_addStep_12 rfl (lv_at hl 0 rfl) ?_
    refine zq_getr E hM k_h0 (zFX3_36 E hZ) ⟨by decide, by decide, by decide, rfl⟩ dX3_addStep_13 ?_
    have k104 : zq_k X (zq_r X h0 9) = 27 := zq_lk L.1 k_h0 rfl (by decide)
    refine lv_aload_n hx hb dX3_addStep_16 rfl (lv_at hl 0 rfl) ?_
    refine zq_gk (v := x101) E hM k_h0 (zFX3_58 E hZ) (Or.inl ⟨by decide, by decide, by decide, rfl⟩) ex101 dX3_addStep_17 ?_
    refine lv_iload_n hx hb dX3_addStep_20 rfl (lv_at hl 1 rfl) ?_
    refine zq_isn (n := 400) (j := (x101.toNatClampNeg)) E hZ hM hS k104 ⟨by decide, rfl⟩ ⟨by omega, by omega⟩ rfl (zq_any _) dX3_addStep_21 (fun I105 H locs eI105 hM hS => ?_)
    have hR := zq_fr.putE hR eI105 (zf_ia k104 (by decide) rfl)
    refine lv_aload_n hx hb dX3_addStep_22 rfl (lv_at hl 0 rfl) ?_
    refine lv_dup hx hb dX3_addStep_23 rfl ?_
    refine zq_gk (v := x101) E hM k_h0 (zFX3_58 E hZ) (Or.inl ⟨by decide, by decide, by decide, rfl⟩) (zq_kp eI105 (Or.inl (zq_kne k_h0 k104 (by decide))) ex101) dX3_addStep_24 ?_
    refine W.eq (g2 := F0 m 27 ls [.int x101, .ref h0]) rfl ?_
    refine lv_iconst (v := 1) hx hb dX3_addStep_27 (by decide +kernel) ?_
    refine lv_iadd hx hb dX3_addStep_28 ?_
    refine lv_topi (fun x106 ex106 => ?_)
    have tx106 := zi_add ex106 (rfl : x101.toInt = x101.toInt) (zl_1 : (1 : Int32).toInt = 1) ⟨by omega, by omega⟩
    refine zq_pn E hM hS k_h0 (zGX3_58 E hZ) ⟨by decide, by decide, by decide, rfl⟩ (show 0 ≤ x106.toInt ∧ x106.toInt ≤ 400 from ⟨by omega, by omega⟩) dX3_addStep_29 (fun I107 H locs eI107 hM hS => ?_)
    have hR := zq_fr.putE hR eI107 (zf_i k_h0 rfl rfl)
    subst hQ
    exact zq_vret E hr hZ hM hS hR hlocks dX3_addStep_32
def zw_X3_addClause : List (Nat × Nat) := [(4, 15), (28, 999), (29, 999)]
set_option maxHeartbeats 8000000 in
set_option maxRecDepth 100000 in
theorem c_X3_addClause (l : Launch) (X : zq_X) (zk zn : Nat) (I : zq_M) (L : zq_L X)  (h0 : Nat) (k_h0 : zq_k X h0 = 4) (p1 : Int32) (p2 : Int32) (p3 : Int32) (g_p1 : 0 ≤ p1.toInt ∧ p1.toInt ≤ 2147483647) (g_p3 : 0 ≤ p3.toInt ∧ p3.toInt ≤ 2147483647) : Met l yX3_addClause (zt_w yX3_addClause cX3_addClause 4 none) (zq_rm (0)) (va_Pc [.ref h0, .int p1, .int p2, .int p3] (zq_W X (zk, zn) I)) (va_Qv (fun I2 => zq_fr (zf X zw_X3_addClause (fun _ => False)) I I2) (zq_E X (zk, zn)) (zq_A X)) 0 0 (zq_A X) := by
  refine Met.ofW (cc := cX3_addClause) (maxL := 4) (ret := none) (by decide) rfl ?_
  intro p e s m args below meth c s₁ B hml hv
  obtain ⟨hargs, hM, hZ⟩ := hv
  have hown : s.vm.findClass RX3 = some m.cls := findClass_of_methodNamed B.named
  have hts := atoms_spec (ws := zt_w yX3_addClause cX3_addClause 4 none) B.pre
  have E : CallFix p m c cX3_addClause 4 s args (Cond.code yX3_addClause cX3_addClause 4 none :: zt) RX3 := ⟨B.exec, B.bytes, hml, hown, hts⟩
  have hx := B.exec
  have hb := B.bytes
  have hr := B.returns
  have hlocks := B.notSynchronized
  clear B
  have hS : va_S (zq_A X) s.heap s.heap [] := va_S.rf
  have hR : zq_fr (zf X zw_X3_addClause (fun _ => False)) I I := zq_fr.rf
  have hl := lv_entry ([.ref h0, .int p1, .int p2, .int p3]) (n := 4) (by exact Nat.le_of_ble_eq_true rfl)
  have hg : entryFrame m args 4 = F0 m 0 ((lg_sl ([.ref h0, .int p1, .int p2, .int p3]) ++ List.replicate (4 - (lg_sl ([.ref h0, .int p1, .int p2, .int p3])).length) Slot.unset).toArray) [] := by rw [hargs]; exact lg_entry_eq m ([.ref h0, .int p1, .int p2, .int p3]) 4
  rw [hg]
  clear hg hargs
  generalize (lg_sl ([.ref h0, .int p1, .int p2, .int p3]) ++ List.replicate (4 - (lg_sl ([.ref h0, .int p1, .int p2, .int p3])).length) Slot.unset).toArray = ls at hl ⊢
  have hl : lv_has ls 4 [(0, .ref h0), (1, .int p1), (2, .int p2), (3, .int p3)] := by exact hl
  obtain ⟨R, hRm⟩ : ∃ R : Room, R = (headSpec (zt_w yX3_addClause cX3_addClause 4 none) (zq_rm (0))).room := ⟨_, rfl⟩
  rw [← hRm]
  generalize hQ : MQ below _ args s 0 0 (zq_A X) = Q
  obtain ⟨H, hH⟩ : ∃ H, H = s.heap := ⟨_, rfl⟩
  obtain ⟨locs, hlo⟩ : ∃ x : List Loc, x = [] := ⟨_, rfl⟩
  rw [show W p l e R s m args below meth c s.heap [] 0 0 Q = W p l e R s m args below meth c H locs 0 0 Q by rw [hH, hlo]]
  have hM : zq_hm X (zk, zn) I H := by rw [hH]; exact hM
  have hS : va_S (zq_A X) s.heap H locs := by rw [hH, hlo]; exact hS
  clear hH hlo
  refine lv_aload_n hx hb dX3_addClause_0 rfl (lv_at hl 0 rfl) ?_
  refine zq_gn E hM k_h0 (zFX3_61 E hZ) (Or.inl ⟨by decide, by decide, by decide, rfl⟩) dX3_addClause_1 (fun x101 ex101 gx101 => ?_)
  replace gx101 : 0 ≤ x101.toInt ∧ x101.toInt ≤ 12 := gx101
  refine lv_bipush (v := 12) hx hb dX3_addClause_4 (by decide +kernel) ?_
  refine lv_icmp_ge (tgt := 62) hx hb dX3_addClause_6 (by decide) (fun b102 => ?_) (fun b102 => ?_)
  · have b102 := zi_le b102 (zl_12 : (12 : Int32).toInt = 12) (rfl : x101.toInt = x101.toInt)
    subst hQ
    exact zq_vret E hr hZ hM hS hR hlocks dX3_addClause_62
  · have b102 := zi_nle b102 (zl_12 : (12 : Int32).toInt = 12) (rfl : x101.toInt = x101.toInt)
    refine lv_aload_n hx hb dX3_addClause_9 rfl (lv_at hl 0 rfl) ?_
    refine zq_getr E hM k_h0 (zFX3_39 E hZ) ⟨by decide, by decide, by decide, rfl⟩ dX3_addClause_10 ?_
    have k103 : zq_k X (zq_r X h0 11) = 28 := zq_lk L.1 k_h0 rfl (by decide)
    refine lv_aload_n hx hb dX3_addClause_13 rfl (lv_at hl 0 rfl) ?_
    refine zq_gk (v := x101) E hM k_h0 (zFX3_61 E hZ) (Or.inl ⟨by decide, by decide, by decide, rfl⟩) ex101 dX3_addClause_14 ?_
    refine lv_iload_n hx hb dX3_addClause_17 rfl (lv_at hl 1 rfl) ?_
    refine zq_isn (n := 12) (j := (x101.toNatClampNeg)) E hZ hM hS k103 ⟨by decide, rfl⟩ ⟨by omega, by omega⟩ rfl (show 0 ≤ p1.toInt ∧ p1.toInt ≤ 2147483647 from ⟨by have := zi_rng p1; omega, by have := zi_rng p1; omega⟩) dX3_addClause_18 (fun I104 H locs eI104 hM hS => ?_)
    have hR := zq_fr.putE hR eI104 (zf_ia k103 (by decide) rfl)
    refine lv_aload_n hx hb dX3_addClause_19 rfl (lv_at hl 0 rfl) ?_
    refine zq_getr E hM k_h0 (zFX3_42 E hZ) ⟨by decide, by decide, by decide, rfl⟩ dX3_addClause_20 ?_
    have k105 : zq_k X (zq_r X h0 12) = 29 := zq_lk L.1 k_h0 rfl (by decide)
    refine lv_aload_n hx hb dX3_addClause_23 rfl (lv_at hl 0 rfl) ?_
    refine W.eq (g2 := F0 m 24 ls [.ref h0, .ref (zq_r X h0 12)]) rfl ?_
    refine zq_gk (v := x101) E hM k_h0 (zFX3_61 E hZ) (Or.inl ⟨by decide, by decide, by decide, rfl⟩) (zq_kp eI104 (Or.inl (zq_kne k_h0 k103 (by decide))) ex101) dX3_addClause_24 ?_
    refine lv_iload_n hx hb dX3_addClause_27 rfl (lv_at hl 2 rfl) ?_
    refine zq_isn (n := 12) (j := (x101.toNatClampNeg)) E hZ hM hS k105 ⟨by decide, rfl⟩ ⟨by omega, by omega⟩ rfl (zq_any _) dX3_addClause_28 (fun I106 H locs eI106 hM hS => ?_)
    have hR := zq_fr.putE hR eI106 (zf_ia k105 (by decide) rfl)
    refine lv_aload_n hx hb dX3_addClause_29 rfl (lv_at hl 0 rfl) ?_
    refine zq_getr E hM k_h0 (zFX3_45 E hZ) ⟨by decide, by decide, by decide, rfl⟩ dX3_addClause_30 ?_
    have k107 : zq_k X (zq_r X h0 13) = 28 := zq_lk L.1 k_h0 rfl (by decide)
    refine lv_aload_n hx hb dX3_addClause_33 rfl (lv_at hl 0 rfl) ?_
    refine zq_gk (v := x101) E hM k_h0 (zFX3_61 E hZ) (Or.inl ⟨by decide, by decide, by decide, rfl⟩) (zq_kp eI106 (Or.inl (zq_kne k_h0 k105 (by decide))) (zq_kp eI104 (Or.inl (zq_kne k_h0 k103 (by decide))) ex101)) dX3_addClause_34 ?_
    refine lv_iload_n hx hb dX3_addClause_37 rfl (lv_at hl 3 rfl) ?_
    refine zq_isn (n := 12) (j := (x101.toNatClampNeg)) E hZ hM hS k107 ⟨by decide, rfl⟩ ⟨by omega, by omega⟩ rfl (show 0 ≤ p3.toInt ∧ p3.toInt ≤ 2147483647 from ⟨by have := zi_rng p3; omega, by have := zi_rng p3; omega⟩) dX3_addClause_38 (fun I108 H locs eI108 hM hS => ?_)
    have hR := zq_fr.putE hR eI108 (zf_ia k107 (by decide) rfl)
    refine lv_aload_n hx hb dX3_addClause_39 rfl (lv_at hl 0 rfl) ?_
    refine W.eq (g2 := F0 m 40 ls [.ref h0]) rfl ?_
    refine zq_getr E hM k_h0 (zFX3_48 E hZ) ⟨by decide, by decide, by decide, rfl⟩ dX3_addClause_40 ?_
    have k109 : zq_k X (zq_r X h0 14) = 29 := zq_lk L.1 k_h0 rfl (by decide)
    refine lv_aload_n hx hb dX3_addClause_43 rfl (lv_at hl 0 rfl) ?_
    refine zq_gk (v := x101) E hM k_h0 (zFX3_61 E hZ) (Or.inl ⟨by decide, by decide, by decide, rfl⟩) (zq_kp eI108 (Or.inl (zq_kne k_h0 k107 (by decide))) (zq_kp eI106 (Or.inl (zq_kne k_h0 k105 (by decide))) (zq_kp eI104 (Or.inl (zq_kne k_h0 k103 (by decide))) ex101))) dX3_addClause_44 ?_
    refine lv_aload_n hx hb dX3_addClause_47 rfl (lv_at hl 0 rfl) ?_
    refine zq_gn E hM k_h0 (zFX3_58 E hZ) (Or.inl ⟨by decide, by decide, by decide, rfl⟩) dX3_addClause_48 (fun x110 ex110 gx110 => ?_)
    replace gx110 : 0 ≤ x110.toInt ∧ x110.toInt ≤ 400 := gx110
    refine zq_isn (n := 12) (j := (x101.toNatClampNeg)) E hZ hM hS k109 ⟨by decide, rfl⟩ ⟨by omega, by omega⟩ rfl (zq_any _) dX3_addClause_51 (fun I111 H locs eI111 hM hS => ?_)
    have hR := zq_fr.putE hR eI111 (zf_ia k109 (by decide) rfl)
    refine lv_aload_n hx hb dX3_addClause_52 rfl (lv_at hl 0 rfl) ?_
    refine lv_dup hx hb dX3_addClause_53 rfl ?_
    refine zq_gk (v := x101) E hM k_h0 (zFX3_61 E hZ) (Or.inl ⟨by decide, by decide, by decide, rfl⟩) (zq_kp eI111 (Or.inl (zq_kne k_h0 k109 (by decide))) (zq_kp eI108 (Or.inl (zq_kne k_h0 k107 (by decide))) (zq_kp eI106 (Or.inl (zq_kne k_h0 k105 (by decide))) (zq_kp eI104 (Or.inl (zq_kne k_h0 k103 (by decide))) ex101)))) dX3_addClause_54 ?_
    refine lv_iconst (v := 1) hx hb dX3_addClause_57 (by decide +kernel) ?_
    refine W.eq (g2 := F0 m 58 ls [.int (1 : Int32), .int x101, .ref h0]) rfl ?_
    refine lv_iadd hx hb dX3_addClause_58 ?_
    refine lv_topi (fun x112 ex112 => ?_)
    have tx112 := zi_add ex112 (rfl : x101.toInt = x101.toInt) (zl_1 : (1 : Int32).toInt = 1) ⟨by omega, by omega⟩
    refine zq_pn E hM hS k_h0 (zGX3_61 E hZ) ⟨by decide, by decide, by decide, rfl⟩ (show 0 ≤ x112.toInt ∧ x112.toInt ≤ 12 from ⟨by omega, by omega⟩) dX3_addClause_59 (fun I113 H locs eI113 hM hS => ?_)
    have hR := zq_fr.putE hR eI113 (zf_i k_h0 rfl rfl)
    subst hQ
    exact zq_vret E hr hZ hM hS hR hlocks dX3_addClause_62
set_option maxHeartbeats 8000000 in
set_option maxRecDepth 100000 in
theorem c_X3_isSo (l : Launch) (X : zq_X) (zk zn : Nat) (I : zq_M) (L : zq_L X)  (p1 : Int64) (p2 : Int32) (p3 : Int64)  : Met l yX3_isSo (zt_w yX3_isSo cX3_isSo 5 (some .boolean)) (zq_rm (0)) (va_Pc [.long p1, .int p2, .long p3] (zq_W X (zk, zn) I)) (va_Qi (fun (r : Int32) I2 => I2 = I ∧ (0 ≤ r.toInt ∧ r.toInt ≤ 1)) (zq_E X (zk, zn)) (zq_A X)) 0 0 (zq_A X) := by
  refine Met.ofW (cc := cX3_isSo) (maxL := 5) (ret := (some .boolean)) (by decide) rfl ?_
  intro p e s m args below meth c s₁ B hml hv
  obtain ⟨hargs, hM, hZ⟩ := hv
  have hown : s.vm.findClass RX3 = some m.cls := findClass_of_methodNamed B.named
  have hts := atoms_spec (ws := zt_w yX3_isSo cX3_isSo 5 (some .boolean)) B.pre
  have E : CallFix p m c cX3_isSo 5 s args (Cond.code yX3_isSo cX3_isSo 5 (some .boolean) :: zt) RX3 := ⟨B.exec, B.bytes, hml, hown, hts⟩
  have hx := B.exec
  have hb := B.bytes
  have hr := B.returns
  have hlocks := B.notSynchronized
  clear B
  have hS : va_S (zq_A X) s.heap s.heap [] := va_S.rf
  have hl := lv_entry ([.long p1, .int p2, .long p3]) (n := 5) (by exact Nat.le_of_ble_eq_true rfl)
  have hg : entryFrame m args 5 = F0 m 0 ((lg_sl ([.long p1, .int p2, .long p3]) ++ List.replicate (5 - (lg_sl ([.long p1, .int p2, .long p3])).length) Slot.unset).toArray) [] := by rw [hargs]; exact lg_entry_eq m ([.long p1, .int p2, .long p3]) 5
  rw [hg]
  clear hg hargs
  generalize (lg_sl ([.long p1, .int p2, .long p3]) ++ List.replicate (5 - (lg_sl ([.long p1, .int p2, .long p3])).length) Slot.unset).toArray = ls at hl ⊢
  have hl : lv_has ls 5 [(0, .long p1), (2, .int p2), (3, .long p3)] := by exact hl
  obtain ⟨R, hRm⟩ : ∃ R : Room, R = (headSpec (zt_w yX3_isSo cX3_isSo 5 (some .boolean)) (zq_rm (0))).room := ⟨_, rfl⟩
  rw [← hRm]
  generalize hQ : MQ below _ args s 0 0 (zq_A X) = Q
  obtain ⟨H, hH⟩ : ∃ H, H = s.heap := ⟨_, rfl⟩
  obtain ⟨locs, hlo⟩ : ∃ x : List Loc, x = [] := ⟨_, rfl⟩
  rw [show W p l e R s m args below meth c s.heap [] 0 0 Q = W p l e R s m args below meth c H locs 0 0 Q by rw [hH, hlo]]
  have hM : zq_hm X (zk, zn) I H := by rw [hH]; exact hM
  have hS : va_S (zq_A X) s.heap H locs := by rw [hH, hlo]; exact hS
  clear hH hlo
  refine lv_iload_n hx hb dX3_isSo_0 rfl (lv_at hl 1 rfl) ?_
  by_cases c1010 : p2.toInt = 60
  · refine lv_lookup (off := 43) (tgt := 44) hx hb dX3_isSo_1 (by decide +kernel) (by rw [c1010]; decide +kernel) (by decide) ?_
    refine lv_lload_n hx hb dX3_isSo_44 rfl (lv_at hl 0 rfl) ?_
    refine lv_lload_n hx hb dX3_isSo_45 rfl (lv_at hl 2 rfl) ?_
    refine zq_lcmp hx hb dX3_isSo_46 (fun x102 hx102 => ?_)
    refine lv_if_ge (tgt := 54) hx hb dX3_isSo_47 (by decide) (fun b103 => ?_) (fun b103 => ?_)
    · have b103 := zi_le b103 (zl_0 : (0 : Int32).toInt = 0) (rfl : x102.toInt = x102.toInt)
      refine lv_iconst (v := 0) hx hb dX3_isSo_54 (by decide +kernel) ?_
      subst hQ
      exact zq_zret E hr hZ hM hS (show 0 ≤ (0 : Int32).toInt ∧ (0 : Int32).toInt ≤ 1 by decide +kernel) ⟨rfl, (by have := zl_0; omega)⟩ hlocks dX3_isSo_55
    · have b103 := zi_nle b103 (zl_0 : (0 : Int32).toInt = 0) (rfl : x102.toInt = x102.toInt)
      refine lv_iconst (v := 1) hx hb dX3_isSo_50 (by decide +kernel) ?_
      refine lv_goto (tgt := 55) hx hb dX3_isSo_51 (by decide) ?_
      subst hQ
      exact zq_zret E hr hZ hM hS (show 0 ≤ (1 : Int32).toInt ∧ (1 : Int32).toInt ≤ 1 by decide +kernel) ⟨rfl, (by have := zl_1; omega)⟩ hlocks dX3_isSo_55
  by_cases c1011 : p2.toInt = 61
  · refine lv_lookup (off := 67) (tgt := 68) hx hb dX3_isSo_1 (by decide +kernel) (by rw [c1011]; decide +kernel) (by decide) ?_
    refine lv_lload_n hx hb dX3_isSo_68 rfl (lv_at hl 0 rfl) ?_
    refine lv_lload_n hx hb dX3_isSo_69 rfl (lv_at hl 2 rfl) ?_
    refine zq_lcmp hx hb dX3_isSo_70 (fun x104 hx104 => ?_)
    refine lv_if_ne (tgt := 78) hx hb dX3_isSo_71 (by decide) (fun b105 => ?_) (fun b105 => ?_)
    · have b105 := zi_ne b105 (rfl : x104.toInt = x104.toInt) (zl_0 : (0 : Int32).toInt = 0)
      refine lv_iconst (v := 0) hx hb dX3_isSo_78 (by decide +kernel) ?_
      subst hQ
      exact zq_zret E hr hZ hM hS (show 0 ≤ (0 : Int32).toInt ∧ (0 : Int32).toInt ≤ 1 by decide +kernel) ⟨rfl, (by have := zl_0; omega)⟩ hlocks dX3_isSo_79
    · have b105 := zi_eq b105 (rfl : x104.toInt = x104.toInt) (zl_0 : (0 : Int32).toInt = 0)
      refine lv_iconst (v := 1) hx hb dX3_isSo_74 (by decide +kernel) ?_
      refine lv_goto (tgt := 79) hx hb dX3_isSo_75 (by decide) ?_
      subst hQ
      exact zq_zret E hr hZ hM hS (show 0 ≤ (1 : Int32).toInt ∧ (1 : Int32).toInt ≤ 1 by decide +kernel) ⟨rfl, (by have := zl_1; omega)⟩ hlocks dX3_isSo_79
  by_cases c1012 : p2.toInt = 256
  · refine lv_lookup (off := 55) (tgt := 56) hx hb dX3_isSo_1 (by decide +kernel) (by rw [c1012]; decide +kernel) (by decide) ?_
    refine lv_lload_n hx hb dX3_isSo_56 rfl (lv_at hl 0 rfl) ?_
    refine lv_lload_n hx hb dX3_isSo_57 rfl (lv_at hl 2 rfl) ?_
    refine zq_lcmp hx hb dX3_isSo_58 (fun x106 hx106 => ?_)
    refine lv_if_gt (tgt := 66) hx hb dX3_isSo_59 (by decide) (fun b107 => ?_) (fun b107 => ?_)
    · have b107 := zi_lt b107 (zl_0 : (0 : Int32).toInt = 0) (rfl : x106.toInt = x106.toInt)
      refine lv_iconst (v := 0) hx hb dX3_isSo_66 (by decide +kernel) ?_
      subst hQ
      exact zq_zret E hr hZ hM hS (show 0 ≤ (0 : Int32).toInt ∧ (0 : Int32).toInt ≤ 1 by decide +kernel) ⟨rfl, (by have := zl_0; omega)⟩ hlocks dX3_isSo_67
    · have b107 := zi_nlt b107 (zl_0 : (0 : Int32).toInt = 0) (rfl : x106.toInt = x106.toInt)
      refine lv_iconst (v := 1) hx hb dX3_isSo_62 (by decide +kernel) ?_
      refine lv_goto (tgt := 67) hx hb dX3_isSo_63 (by decide) ?_
      subst hQ
      exact zq_zret E hr hZ hM hS (show 0 ≤ (1 : Int32).toInt ∧ (1 : Int32).toInt ≤ 1 by decide +kernel) ⟨rfl, (by have := zl_1; omega)⟩ hlocks dX3_isSo_67
  by_cases c1013 : p2.toInt = 257
  · refine lv_lookup (off := 79) (tgt := 80) hx hb dX3_isSo_1 (by decide +kernel) (by rw [c1013]; decide +kernel) (by decide) ?_
    refine lv_lload_n hx hb dX3_isSo_80 rfl (lv_at hl 0 rfl) ?_
    refine lv_lload_n hx hb dX3_isSo_81 rfl (lv_at hl 2 rfl) ?_
    refine zq_lcmp hx hb dX3_isSo_82 (fun x108 hx108 => ?_)
    refine lv_if_lt (tgt := 90) hx hb dX3_isSo_83 (by decide) (fun b109 => ?_) (fun b109 => ?_)
    · have b109 := zi_lt b109 (rfl : x108.toInt = x108.toInt) (zl_0 : (0 : Int32).toInt = 0)
      refine lv_iconst (v := 0) hx hb dX3_isSo_90 (by decide +kernel) ?_
      subst hQ
      exact zq_zret E hr hZ hM hS (show 0 ≤ (0 : Int32).toInt ∧ (0 : Int32).toInt ≤ 1 by decide +kernel) ⟨rfl, (by have := zl_0; omega)⟩ hlocks dX3_isSo_91
    · have b109 := zi_nlt b109 (rfl : x108.toInt = x108.toInt) (zl_0 : (0 : Int32).toInt = 0)
      refine lv_iconst (v := 1) hx hb dX3_isSo_86 (by decide +kernel) ?_
      refine lv_goto (tgt := 91) hx hb dX3_isSo_87 (by decide) ?_
      subst hQ
      exact zq_zret E hr hZ hM hS (show 0 ≤ (1 : Int32).toInt ∧ (1 : Int32).toInt ≤ 1 by decide +kernel) ⟨rfl, (by have := zl_1; omega)⟩ hlocks dX3_isSo_91
  refine lv_lookup (off := 91) (tgt := 92) hx hb dX3_isSo_1 (by decide +kernel) (by simp [Op.lookupswitch.offset, Ne.symm c1010, Ne.symm c1011, Ne.symm c1012, Ne.symm c1013]) (by decide) ?_
  refine lv_lload_n hx hb dX3_isSo_92 rfl (lv_at hl 0 rfl) ?_
  refine lv_lload_n hx hb dX3_isSo_93 rfl (lv_at hl 2 rfl) ?_
  refine zq_lcmp hx hb dX3_isSo_94 (fun x110 hx110 => ?_)
  refine lv_if_le (tgt := 102) hx hb dX3_isSo_95 (by decide) (fun b111 => ?_) (fun b111 => ?_)
  · have b111 := zi_le b111 (rfl : x110.toInt = x110.toInt) (zl_0 : (0 : Int32).toInt = 0)
    refine lv_iconst (v := 0) hx hb dX3_isSo_102 (by decide +kernel) ?_
    subst hQ
    exact zq_zret E hr hZ hM hS (show 0 ≤ (0 : Int32).toInt ∧ (0 : Int32).toInt ≤ 1 by decide +kernel) ⟨rfl, (by have := zl_0; omega)⟩ hlocks dX3_isSo_103
  · have b111 := zi_nle b111 (rfl : x110.toInt = x110.toInt) (zl_0 : (0 : Int32).toInt = 0)
    refine lv_iconst (v := 1) hx hb dX3_isSo_98 (by decide +kernel) ?_
    refine lv_goto (tgt := 103) hx hb dX3_isSo_99 (by decide) ?_
    subst hQ
    exact zq_zret E hr hZ hM hS (show 0 ≤ (1 : Int32).toInt ∧ (1 : Int32).toInt ≤ 1 by decide +kernel) ⟨rfl, (by have := zl_1; omega)⟩ hlocks dX3_isSo_103
set_option maxHeartbeats 8000000 in
set_option maxRecDepth 100000 in
theorem c_X3_sumOf (l : Launch) (X : zq_X) (zk zn : Nat) (I : zq_M) (L : zq_L X)  (h0 : Nat) (k_h0 : zq_k X h0 = 4) (p1 : Int32) (p2 : Int32) (g_p1 : 0 ≤ p1.toInt ∧ p1.toInt ≤ 2147483647) : Met l yX3_sumOf (zt_w yX3_sumOf cX3_sumOf 12 (some .long)) (zq_rm (0)) (va_Pc [.ref h0, .int p1, .int p2] (zq_W X (zk, zn) I)) (va_Ql (fun (r : Int64) I2 => I2 = I ∧ True) (zq_E X (zk, zn)) (zq_A X)) 0 0 (zq_A X) := by
  refine Met.ofW (cc := cX3_sumOf) (maxL := 12) (ret := (some .long)) (by decide) rfl ?_
  intro p e s m args below meth c s₁ B hml hv
  obtain ⟨hargs, hM, hZ⟩ := hv
  have hown : s.vm.findClass RX3 = some m.cls := findClass_of_methodNamed B.named
  have hts := atoms_spec (ws := zt_w yX3_sumOf cX3_sumOf 12 (some .long)) B.pre
  have E : CallFix p m c cX3_sumOf 12 s args (Cond.code yX3_sumOf cX3_sumOf 12 (some .long) :: zt) RX3 := ⟨B.exec, B.bytes, hml, hown, hts⟩
  have hx := B.exec
  have hb := B.bytes
  have hr := B.returns
  have hlocks := B.notSynchronized
  clear B
  have hS : va_S (zq_A X) s.heap s.heap [] := va_S.rf
  have hl := lv_entry ([.ref h0, .int p1, .int p2]) (n := 12) (by exact Nat.le_of_ble_eq_true rfl)
  have hg : entryFrame m args 12 = F0 m 0 ((lg_sl ([.ref h0, .int p1, .int p2]) ++ List.replicate (12 - (lg_sl ([.ref h0, .int p1, .int p2])).length) Slot.unset).toArray) [] := by rw [hargs]; exact lg_entry_eq m ([.ref h0, .int p1, .int p2]) 12
  rw [hg]
  clear hg hargs
  generalize (lg_sl ([.ref h0, .int p1, .int p2]) ++ List.replicate (12 - (lg_sl ([.ref h0, .int p1, .int p2])).length) Slot.unset).toArray = ls at hl ⊢
  have hl : lv_has ls 12 [(0, .ref h0), (1, .int p1), (2, .int p2)] := by exact hl
  obtain ⟨R, hRm⟩ : ∃ R : Room, R = (headSpec (zt_w yX3_sumOf cX3_sumOf 12 (some .long)) (zq_rm (0))).room := ⟨_, rfl⟩
  rw [← hRm]
  generalize hQ : MQ below _ args s 0 0 (zq_A X) = Q
  obtain ⟨H, hH⟩ : ∃ H, H = s.heap := ⟨_, rfl⟩
  obtain ⟨locs, hlo⟩ : ∃ x : List Loc, x = [] := ⟨_, rfl⟩
  rw [show W p l e R s m args below meth c s.heap [] 0 0 Q = W p l e R s m args below meth c H locs 0 0 Q by rw [hH, hlo]]
  have hM : zq_hm X (zk, zn) I H := by rw [hH]; exact hM
  have hS : va_S (zq_A X) s.heap H locs := by rw [hH, hlo]; exact hS
  clear hH hlo
  refine lv_lconst (v := 0) hx hb dX3_sumOf_0 (by decide +kernel) ?_
  refine lv_lstore_n (lv' := [(3, .long (0 : Int64)), (0, .ref h0), (1, .int p1), (2, .int p2)]) hx hb dX3_sumOf_1 rfl hl (by decide) rfl (fun ls hl => ?_)
  refine lv_lconst (v := 0) hx hb dX3_sumOf_2 (by decide +kernel) ?_
  refine lv_lstore (lv' := [(5, .long (0 : Int64)), (3, .long (0 : Int64)), (0, .ref h0), (1, .int p1), (2, .int p2)]) hx hb dX3_sumOf_3 hl (by decide) rfl (fun ls hl => ?_)
  refine lv_iconst (v := 0) hx hb dX3_sumOf_5 (by decide +kernel) ?_
  refine lv_istore (lv' := [(7, .int (0 : Int32)), (5, .long (0 : Int64)), (3, .long (0 : Int64)), (0, .ref h0), (1, .int p1), (2, .int p2)]) hx hb dX3_sumOf_6 hl (by decide) rfl (fun ls hl => ?_)
  refine lv_iload_n hx hb dX3_sumOf_8 rfl (lv_at hl 4 rfl) ?_
  refine lv_istore (lv' := [(8, .int p1), (7, .int (0 : Int32)), (5, .long (0 : Int64)), (3, .long (0 : Int64)), (0, .ref h0), (1, .int p1), (2, .int p2)]) hx hb dX3_sumOf_9 hl (by decide) rfl (fun ls hl => ?_)
  have J11 : ∀ (n166 : Nat) (ls : Array Slot) (j162 : Int32) (j163 : Int32) (jl164 : Int64) (jl165 : Int64), 2147483647 + 1 - j162.toInt ≤ ((n166 : Nat) : Int) → (0 ≤ j162.toInt) → (0 ≤ j163.toInt ∧ j163.toInt ≤ 1) → (lv_has ls 12 [(8, .int j162), (7, .int j163), (5, .long jl164), (3, .long jl165), (0, .ref h0), (1, .int p1), (2, .int p2)]) → W p l e R s m args below meth c H locs 0 0 Q (F0 m 11 ls []) := by
    intro n166
    induction n166 with
    | zero => intro ls j162 j163 jl164 jl165 mu167 gj162 gj163 hl; exfalso; have := zi_rng j162; omega
    | succ n166 ih11 =>
      intro ls j162 j163 jl164 jl165 mu167 gj162 gj163 hl
      have := zi_rng j162
      refine lv_iload hx hb dX3_sumOf_11 (lv_at hl 0 rfl) ?_
      refine lv_iload_n hx hb dX3_sumOf_13 rfl (lv_at hl 6 rfl) ?_
      have J206 : ∀ (ls : Array Slot), (lv_has ls 12 [(8, .int j162), (7, .int j163), (5, .long jl164), (3, .long jl165), (0, .ref h0), (1, .int p1), (2, .int p2)]) → W p l e R s m args below meth c H locs 0 0 Q (F0 m 206 ls []) := by
        intro ls hl
        refine lv_iload hx hb dX3_sumOf_206 (lv_at hl 1 rfl) ?_
        refine lv_if_eq (tgt := 218) hx hb dX3_sumOf_208 (by decide) (fun b196 => ?_) (fun b196 => ?_)
        · have b196 := zi_eq b196 (rfl : j163.toInt = j163.toInt) (zl_0 : (0 : Int32).toInt = 0)
          refine lv_lload_n hx hb dX3_sumOf_218 rfl (lv_at hl 3 rfl) ?_
          refine lv_lload hx hb dX3_sumOf_219 (lv_at hl 2 rfl) ?_
          refine lv_ladd hx hb dX3_sumOf_221 ?_
          refine lv_topl (fun y197 ey197 => ?_)
          subst hQ
          exact zq_lret E hr hZ hM hS ⟨rfl, trivial⟩ hlocks dX3_sumOf_222
        · have b196 := zi_ne b196 (rfl : j163.toInt = j163.toInt) (zl_0 : (0 : Int32).toInt = 0)
          refine lv_lload_n hx hb dX3_sumOf_211 rfl (lv_at hl 3 rfl) ?_
          refine lv_lload hx hb dX3_sumOf_212 (lv_at hl 2 rfl) ?_
          refine lv_lsub hx hb dX3_sumOf_214 ?_
          refine lv_topl (fun y198 ey198 => ?_)
          refine lv_goto (tgt := 222) hx hb dX3_sumOf_215 (by decide) ?_
          subst hQ
          exact zq_lret E hr hZ hM hS ⟨rfl, trivial⟩ hlocks dX3_sumOf_222
      refine lv_icmp_ge (tgt := 206) hx hb dX3_sumOf_14 (by decide) (fun b199 => ?_) (fun b199 => ?_)
      · have b199 := zi_le b199 (rfl : p2.toInt = p2.toInt) (rfl : j162.toInt = j162.toInt)
        exact J206 ls (lv_sub hl [0, 1, 2, 3, 4, 5, 6] rfl)
      · have b199 := zi_nle b199 (rfl : p2.toInt = p2.toInt) (rfl : j162.toInt = j162.toInt)
        refine lv_iload hx hb dX3_sumOf_17 (lv_at hl 0 rfl) ?_
        refine lv_bipush (v := 60) hx hb dX3_sumOf_19 (by decide +kernel) ?_
        refine lv_icmp_ge (tgt := 206) hx hb dX3_sumOf_21 (by decide) (fun b200 => ?_) (fun b200 => ?_)
        · have b200 := zi_le b200 (zl_60 : (60 : Int32).toInt = 60) (rfl : j162.toInt = j162.toInt)
          exact J206 ls (lv_sub hl [0, 1, 2, 3, 4, 5, 6] rfl)
        · have b200 := zi_nle b200 (zl_60 : (60 : Int32).toInt = 60) (rfl : j162.toInt = j162.toInt)
          refine lv_aload_n hx hb dX3_sumOf_24 rfl (lv_at hl 4 rfl) ?_
          refine zq_getr E hM k_h0 (zFX3_19 E hZ) ⟨by decide, by decide, by decide, rfl⟩ dX3_sumOf_25 ?_
          have k201 : zq_k X (zq_r X h0 2) = 25 := zq_lk L.1 k_h0 rfl (by decide)
          refine lv_iload hx hb dX3_sumOf_28 (lv_at hl 0 rfl) ?_
          refine zq_ian (n := 60) (j := (j162.toNatClampNeg)) E hZ hM k201 ⟨by decide, rfl⟩ ⟨by omega, by omega⟩ rfl dX3_sumOf_30 (fun x202 ex202 gx202 => ?_)
          clear gx202
          refine lv_istore (lv' := [(9, .int x202), (8, .int j162), (7, .int j163), (5, .long jl164), (3, .long jl165), (0, .ref h0), (1, .int p1), (2, .int p2)]) hx hb dX3_sumOf_31 hl (by decide) rfl (fun ls hl => ?_)
          refine lv_iload hx hb dX3_sumOf_33 (lv_at hl 0 rfl) ?_
          have J64 : ∀ (ls : Array Slot) (jl207 : Int64), (lv_has ls 12 [(9, .int x202), (8, .int j162), (7, .int j163), (5, .long jl164), (3, .long jl165), (0, .ref h0), (1, .int p1), (2, .int p2)]) → W p l e R s m args below meth c H locs 0 0 Q (F0 m 64 ls [.long jl207]) := by
            intro ls jl207 hl
            refine lv_lstore (lv' := [(10, .long jl207), (9, .int x202), (8, .int j162), (7, .int j163), (5, .long jl164), (3, .long jl165), (0, .ref h0), (1, .int p1), (2, .int p2)]) hx hb dX3_sumOf_64 hl (by decide) rfl (fun ls hl => ?_)
            refine lv_aload_n hx hb dX3_sumOf_66 rfl (lv_at hl 6 rfl) ?_
            refine zq_getr E hM k_h0 (zFX3_15 E hZ) ⟨by decide, by decide, by decide, rfl⟩ dX3_sumOf_67 ?_
            have k227 : zq_k X (zq_r X h0 1) = 25 := zq_lk L.1 k_h0 rfl (by decide)
            refine lv_iload hx hb dX3_sumOf_70 (lv_at hl 2 rfl) ?_
            refine zq_ian (n := 60) (j := (j162.toNatClampNeg)) E hZ hM k227 ⟨by decide, rfl⟩ ⟨by omega, by omega⟩ rfl dX3_sumOf_72 (fun x228 ex228 gx228 => ?_)
            clear gx228
            have J200 : ∀ (ls : Array Slot) (jl242 : Int64) (j243 : Int32) (jl244 : Int64), (0 ≤ j243.toInt ∧ j243.toInt ≤ 1) → (lv_has ls 12 [(5, .long jl242), (10, .long jl207), (9, .int x202), (8, .int j162), (7, .int j243), (3, .long jl244), (0, .ref h0), (1, .int p1), (2, .int p2)]) → W p l e R s m args below meth c H locs 0 0 Q (F0 m 200 ls []) := by
              intro ls jl242 j243 jl244 gj243 hl
              obtain ⟨x246, ex246⟩ : ∃ y : Int32, y = j162 + 1 := ⟨_, rfl⟩
              have tx246 := zi_add ex246 (rfl : j162.toInt = j162.toInt) zl_1 ⟨by omega, by omega⟩
              refine lv_iinc (v := x246) (lv' := [(8, .int x246), (5, .long jl242), (10, .long jl207), (9, .int x202), (7, .int j243), (3, .long jl244), (0, .ref h0), (1, .int p1), (2, .int p2)]) hx hb dX3_sumOf_200 hl (k := 3) rfl (by rw [ex246]; rfl) (by decide) rfl (fun ls hl => ?_)
              refine lv_goto (tgt := 11) hx hb dX3_sumOf_203 (by decide) ?_
              exact ih11 ls x246 j243 jl242 jl244 (by omega) (by omega) (⟨by omega, by omega⟩) (lv_sub hl [0, 4, 1, 5, 6, 7, 8] rfl)
            by_cases c2470 : x228.toInt = 37
            · refine lv_lookup (off := 66) (tgt := 139) hx hb dX3_sumOf_73 (by decide +kernel) (by rw [c2470]; decide +kernel) (by decide) ?_
              refine lv_lload hx hb dX3_sumOf_139 (lv_at hl 0 rfl) ?_
              refine lv_lconst (v := 0) hx hb dX3_sumOf_141 (by decide +kernel) ?_
              refine zq_lcmp hx hb dX3_sumOf_142 (fun x248 hx248 => ?_)
              rw [show (0 : Int64).toInt = 0 from by decide +kernel] at hx248
              have J155 : ∀ (ls : Array Slot) (jl250 : Int64), (lv_has ls 12 [(10, .long jl207), (9, .int x202), (8, .int j162), (7, .int j163), (5, .long jl164), (3, .long jl165), (0, .ref h0), (1, .int p1), (2, .int p2)]) → W p l e R s m args below meth c H locs 0 0 Q (F0 m 155 ls [.long jl250]) := by
                intro ls jl250 hl
                refine lv_lstore (lv' := [(5, .long jl250), (10, .long jl207), (9, .int x202), (8, .int j162), (7, .int j163), (3, .long jl165), (0, .ref h0), (1, .int p1), (2, .int p2)]) hx hb dX3_sumOf_155 hl (by decide) rfl (fun ls hl => ?_)
                refine lv_goto (tgt := 200) hx hb dX3_sumOf_157 (by decide) ?_
                exact J200 ls jl250 j163 jl165 (⟨by omega, by omega⟩) (lv_sub hl [0, 1, 2, 3, 4, 5, 6, 7, 8] rfl)
              refine lv_if_ne (tgt := 150) hx hb dX3_sumOf_143 (by decide) (fun b251 => ?_) (fun b251 => ?_)
              · have b251 := zi_ne b251 (rfl : x248.toInt = x248.toInt) (zl_0 : (0 : Int32).toInt = 0)
                refine lv_lload hx hb dX3_sumOf_150 (lv_at hl 4 rfl) ?_
                refine lv_lload hx hb dX3_sumOf_152 (lv_at hl 0 rfl) ?_
                refine lv_lrem hx hb dX3_sumOf_154 (fun q => by have hz := congrArg Int64.toInt q; rw [show (0 : Int64).toInt = 0 from by decide +kernel] at hz; omega) ?_
                refine lv_topl (fun y252 ey252 => ?_)
                exact J155 ls y252 (lv_sub hl [0, 1, 2, 3, 4, 5, 6, 7, 8] rfl)
              · have b251 := zi_eq b251 (rfl : x248.toInt = x248.toInt) (zl_0 : (0 : Int32).toInt = 0)
                refine lv_lconst (v := 0) hx hb dX3_sumOf_146 (by decide +kernel) ?_
                refine lv_goto (tgt := 155) hx hb dX3_sumOf_147 (by decide) ?_
                exact J155 ls (0 : Int64) (lv_sub hl [0, 1, 2, 3, 4, 5, 6, 7, 8] rfl)
            by_cases c2471 : x228.toInt = 42
            · refine lv_lookup (off := 35) (tgt := 108) hx hb dX3_sumOf_73 (by decide +kernel) (by rw [c2471]; decide +kernel) (by decide) ?_
              refine lv_lload hx hb dX3_sumOf_108 (lv_at hl 4 rfl) ?_
              refine lv_lload hx hb dX3_sumOf_110 (lv_at hl 0 rfl) ?_
              refine lv_lmul hx hb dX3_sumOf_112 ?_
              refine lv_topl (fun y253 ey253 => ?_)
              refine lv_lstore (lv' := [(5, .long y253), (10, .long jl207), (9, .int x202), (8, .int j162), (7, .int j163), (3, .long jl165), (0, .ref h0), (1, .int p1), (2, .int p2)]) hx hb dX3_sumOf_113 hl (by decide) rfl (fun ls hl => ?_)
              refine lv_goto (tgt := 200) hx hb dX3_sumOf_115 (by decide) ?_
              exact J200 ls y253 j163 jl165 (⟨by omega, by omega⟩) (lv_sub hl [0, 1, 2, 3, 4, 5, 6, 7, 8] rfl)
            by_cases c2472 : x228.toInt = 47
            · refine lv_lookup (off := 45) (tgt := 118) hx hb dX3_sumOf_73 (by decide +kernel) (by rw [c2472]; decide +kernel) (by decide) ?_
              refine lv_lload hx hb dX3_sumOf_118 (lv_at hl 0 rfl) ?_
              refine lv_lconst (v := 0) hx hb dX3_sumOf_120 (by decide +kernel) ?_
              refine zq_lcmp hx hb dX3_sumOf_121 (fun x254 hx254 => ?_)
              rw [show (0 : Int64).toInt = 0 from by decide +kernel] at hx254
              have J134 : ∀ (ls : Array Slot) (jl256 : Int64), (lv_has ls 12 [(10, .long jl207), (9, .int x202), (8, .int j162), (7, .int j163), (5, .long jl164), (3, .long jl165), (0, .ref h0), (1, .int p1), (2, .int p2)]) → W p l e R s m args below meth c H locs 0 0 Q (F0 m 134 ls [.long jl256]) := by
                intro ls jl256 hl
                refine lv_lstore (lv' := [(5, .long jl256), (10, .long jl207), (9, .int x202), (8, .int j162), (7, .int j163), (3, .long jl165), (0, .ref h0), (1, .int p1), (2, .int p2)]) hx hb dX3_sumOf_134 hl (by decide) rfl (fun ls hl => ?_)
                refine lv_goto (tgt := 200) hx hb dX3_sumOf_136 (by decide) ?_
                exact J200 ls jl256 j163 jl165 (⟨by omega, by omega⟩) (lv_sub hl [0, 1, 2, 3, 4, 5, 6, 7, 8] rfl)
              refine lv_if_ne (tgt := 129) hx hb dX3_sumOf_122 (by decide) (fun b257 => ?_) (fun b257 => ?_)
              · have b257 := zi_ne b257 (rfl : x254.toInt = x254.toInt) (zl_0 : (0 : Int32).toInt = 0)
                refine lv_lload hx hb dX3_sumOf_129 (lv_at hl 4 rfl) ?_
                refine lv_lload hx hb dX3_sumOf_131 (lv_at hl 0 rfl) ?_
                refine lv_ldiv hx hb dX3_sumOf_133 (fun q => by have hz := congrArg Int64.toInt q; rw [show (0 : Int64).toInt = 0 from by decide +kernel] at hz; omega) ?_
                refine lv_topl (fun y258 ey258 => ?_)
                exact J134 ls y258 (lv_sub hl [0, 1, 2, 3, 4, 5, 6, 7, 8] rfl)
              · have b257 := zi_eq b257 (rfl : x254.toInt = x254.toInt) (zl_0 : (0 : Int32).toInt = 0)
                refine lv_lconst (v := 0) hx hb dX3_sumOf_125 (by decide +kernel) ?_
                refine lv_goto (tgt := 134) hx hb dX3_sumOf_126 (by decide) ?_
                exact J134 ls (0 : Int64) (lv_sub hl [0, 1, 2, 3, 4, 5, 6, 7, 8] rfl)
            refine lv_lookup (off := 87) (tgt := 160) hx hb dX3_sumOf_73 (by decide +kernel) (by simp [Op.lookupswitch.offset, Ne.symm c2470, Ne.symm c2471, Ne.symm c2472]) (by decide) ?_
            refine lv_iload hx hb dX3_sumOf_160 (lv_at hl 3 rfl) ?_
            have J176 : ∀ (ls : Array Slot) (jl261 : Int64), (lv_has ls 12 [(10, .long jl207), (9, .int x202), (8, .int j162), (7, .int j163), (5, .long jl164), (3, .long jl165), (0, .ref h0), (1, .int p1), (2, .int p2)]) → W p l e R s m args below meth c H locs 0 0 Q (F0 m 176 ls [.long jl261]) := by
              intro ls jl261 hl
              refine lv_lstore_n (lv' := [(3, .long jl261), (10, .long jl207), (9, .int x202), (8, .int j162), (7, .int j163), (5, .long jl164), (0, .ref h0), (1, .int p1), (2, .int p2)]) hx hb dX3_sumOf_176 rfl hl (by decide) rfl (fun ls hl => ?_)
              refine lv_lload hx hb dX3_sumOf_177 (lv_at hl 1 rfl) ?_
              refine lv_lstore (lv' := [(5, .long jl207), (3, .long jl261), (10, .long jl207), (9, .int x202), (8, .int j162), (7, .int j163), (0, .ref h0), (1, .int p1), (2, .int p2)]) hx hb dX3_sumOf_179 hl (by decide) rfl (fun ls hl => ?_)
              refine lv_aload_n hx hb dX3_sumOf_181 rfl (lv_at hl 6 rfl) ?_
              refine zq_getr E hM k_h0 (zFX3_15 E hZ) ⟨by decide, by decide, by decide, rfl⟩ dX3_sumOf_182 ?_
              have k265 : zq_k X (zq_r X h0 1) = 25 := zq_lk L.1 k_h0 rfl (by decide)
              refine lv_iload hx hb dX3_sumOf_185 (lv_at hl 4 rfl) ?_
              refine zq_iald (n := 60) (j := (j162.toNatClampNeg)) (v := x228) E hZ hM k265 ⟨by decide, rfl⟩ ⟨by omega, by omega⟩ rfl ex228 dX3_sumOf_187 ?_
              refine lv_bipush (v := 45) hx hb dX3_sumOf_188 (by decide +kernel) ?_
              have J198 : ∀ (ls : Array Slot) (j267 : Int32), (0 ≤ j267.toInt ∧ j267.toInt ≤ 1) → (lv_has ls 12 [(5, .long jl207), (3, .long jl261), (10, .long jl207), (9, .int x202), (8, .int j162), (7, .int j163), (0, .ref h0), (1, .int p1), (2, .int p2)]) → W p l e R s m args below meth c H locs 0 0 Q (F0 m 198 ls [.int j267]) := by
                intro ls j267 gj267 hl
                refine lv_istore (lv' := [(7, .int j267), (5, .long jl207), (3, .long jl261), (10, .long jl207), (9, .int x202), (8, .int j162), (0, .ref h0), (1, .int p1), (2, .int p2)]) hx hb dX3_sumOf_198 hl (by decide) rfl (fun ls hl => ?_)
                exact J200 ls jl207 j267 jl261 (⟨by omega, by omega⟩) (lv_sub hl [1, 3, 4, 5, 0, 2, 6, 7, 8] rfl)
              refine lv_icmp_ne (tgt := 197) hx hb dX3_sumOf_190 (by decide) (fun b268 => ?_) (fun b268 => ?_)
              · have b268 := zi_ne b268 (rfl : x228.toInt = x228.toInt) (zl_45 : (45 : Int32).toInt = 45)
                refine lv_iconst (v := 0) hx hb dX3_sumOf_197 (by decide +kernel) ?_
                exact J198 ls (0 : Int32) (by rw [zl_0]; decide) (lv_sub hl [0, 1, 2, 3, 4, 5, 6, 7, 8] rfl)
              · have b268 := zi_eq b268 (rfl : x228.toInt = x228.toInt) (zl_45 : (45 : Int32).toInt = 45)
                refine lv_iconst (v := 1) hx hb dX3_sumOf_193 (by decide +kernel) ?_
                refine lv_goto (tgt := 198) hx hb dX3_sumOf_194 (by decide) ?_
                exact J198 ls (1 : Int32) (by rw [zl_1]; decide) (lv_sub hl [0, 1, 2, 3, 4, 5, 6, 7, 8] rfl)
            refine lv_if_eq (tgt := 172) hx hb dX3_sumOf_162 (by decide) (fun b269 => ?_) (fun b269 => ?_)
            · have b269 := zi_eq b269 (rfl : j163.toInt = j163.toInt) (zl_0 : (0 : Int32).toInt = 0)
              refine lv_lload_n hx hb dX3_sumOf_172 rfl (lv_at hl 5 rfl) ?_
              refine lv_lload hx hb dX3_sumOf_173 (lv_at hl 4 rfl) ?_
              refine lv_ladd hx hb dX3_sumOf_175 ?_
              refine lv_topl (fun y270 ey270 => ?_)
              exact J176 ls y270 (lv_sub hl [0, 1, 2, 3, 4, 5, 6, 7, 8] rfl)
            · have b269 := zi_ne b269 (rfl : j163.toInt = j163.toInt) (zl_0 : (0 : Int32).toInt = 0)
              refine lv_lload_n hx hb dX3_sumOf_165 rfl (lv_at hl 5 rfl) ?_
              refine lv_lload hx hb dX3_sumOf_166 (lv_at hl 4 rfl) ?_
              refine lv_lsub hx hb dX3_sumOf_168 ?_
              refine lv_topl (fun y271 ey271 => ?_)
              refine lv_goto (tgt := 176) hx hb dX3_sumOf_169 (by decide) ?_
              exact J176 ls y271 (lv_sub hl [0, 1, 2, 3, 4, 5, 6, 7, 8] rfl)
          refine lv_if_ge (tgt := 46) hx hb dX3_sumOf_35 (by decide) (fun b272 => ?_) (fun b272 => ?_)
          · have b272 := zi_le b272 (zl_0 : (0 : Int32).toInt = 0) (rfl : x202.toInt = x202.toInt)
            refine lv_iload hx hb dX3_sumOf_46 (lv_at hl 0 rfl) ?_
            refine lv_bipush (v := 13) hx hb dX3_sumOf_48 (by decide +kernel) ?_
            refine lv_icmp_ge (tgt := 63) hx hb dX3_sumOf_50 (by decide) (fun b273 => ?_) (fun b273 => ?_)
            · have b273 := zi_le b273 (zl_13 : (13 : Int32).toInt = 13) (rfl : x202.toInt = x202.toInt)
              refine lv_lconst (v := 0) hx hb dX3_sumOf_63 (by decide +kernel) ?_
              exact J64 ls (0 : Int64) (lv_sub hl [0, 1, 2, 3, 4, 5, 6, 7] rfl)
            · have b273 := zi_nle b273 (zl_13 : (13 : Int32).toInt = 13) (rfl : x202.toInt = x202.toInt)
              refine lv_aload_n hx hb dX3_sumOf_53 rfl (lv_at hl 5 rfl) ?_
              refine zq_getr E hM k_h0 (zFX3_11 E hZ) ⟨by decide, by decide, by decide, rfl⟩ dX3_sumOf_54 ?_
              have k274 : zq_k X (zq_r X h0 0) = 24 := zq_lk L.1 k_h0 rfl (by decide)
              refine lv_iload hx hb dX3_sumOf_57 (lv_at hl 0 rfl) ?_
              refine zq_lald (n := 13) E hZ hM k274 ⟨by decide, rfl⟩ ⟨by omega, by omega⟩ dX3_sumOf_59 (fun y275 => ?_)
              refine lv_goto (tgt := 64) hx hb dX3_sumOf_60 (by decide) ?_
              exact J64 ls y275 (lv_sub hl [0, 1, 2, 3, 4, 5, 6, 7] rfl)
          · have b272 := zi_nle b272 (zl_0 : (0 : Int32).toInt = 0) (rfl : x202.toInt = x202.toInt)
            refine lv_iconst (v := (-1)) hx hb dX3_sumOf_38 (by decide +kernel) ?_
            refine lv_iload hx hb dX3_sumOf_39 (lv_at hl 0 rfl) ?_
            refine lv_isub hx hb dX3_sumOf_41 ?_
            refine lv_topi (fun x276 ex276 => ?_)
            have tx276 := zi_sub ex276 (zl_m1 : (-1 : Int32).toInt = (-1)) (rfl : x202.toInt = x202.toInt) ⟨by have := zi_rng x202; omega, by have := zi_rng x202; omega⟩
            refine lv_i2l hx hb dX3_sumOf_42 rfl ?_
            refine lv_topl (fun y277 ey277 => ?_)
            have ty277 := zi_i2l ey277
            have := zi_rng x276
            refine lv_goto (tgt := 64) hx hb dX3_sumOf_43 (by decide) ?_
            exact J64 ls y277 (lv_sub hl [0, 1, 2, 3, 4, 5, 6, 7] rfl)
  exact J11 (2147483647 + 1 - p1.toInt).toNat ls p1 (0 : Int32) (0 : Int64) (0 : Int64) (by omega) (by have := zi_rng p1; omega) (by rw [zl_0]; decide) (lv_sub hl [0, 1, 2, 3, 4, 5, 6] rfl)
set_option maxHeartbeats 8000000 in
set_option maxRecDepth 100000 in
theorem c_X3_holds (l : Launch) (X : zq_X) (zk zn : Nat) (I : zq_M) (L : zq_L X)  (h0 : Nat) (k_h0 : zq_k X h0 = 4) (p1 : Int32) (p2 : Int32) (g_p1 : 0 ≤ p1.toInt ∧ p1.toInt ≤ 2147483647) : Met l yX3_holds (zt_w yX3_holds cX3_holds 11 (some .boolean)) (zq_rm (1)) (va_Pc [.ref h0, .int p1, .int p2] (zq_W X (zk, zn) I)) (va_Qi (fun (r : Int32) I2 => I2 = I ∧ (0 ≤ r.toInt ∧ r.toInt ≤ 1)) (zq_E X (zk, zn)) (zq_A X)) 0 0 (zq_A X) := by
  refine Met.ofW (cc := cX3_holds) (maxL := 11) (ret := (some .boolean)) (by decide) rfl ?_
  intro p e s m args below meth c s₁ B hml hv
  obtain ⟨hargs, hM, hZ⟩ := hv
  have hown : s.vm.findClass RX3 = some m.cls := findClass_of_methodNamed B.named
  have hts := atoms_spec (ws := zt_w yX3_holds cX3_holds 11 (some .boolean)) B.pre
  have E : CallFix p m c cX3_holds 11 s args (Cond.code yX3_holds cX3_holds 11 (some .boolean) :: zt) RX3 := ⟨B.exec, B.bytes, hml, hown, hts⟩
  have hx := B.exec
  have hb := B.bytes
  have hr := B.returns
  have hlocks := B.notSynchronized
  clear B
  have hS : va_S (zq_A X) s.heap s.heap [] := va_S.rf
  have hl := lv_entry ([.ref h0, .int p1, .int p2]) (n := 11) (by exact Nat.le_of_ble_eq_true rfl)
  have hg : entryFrame m args 11 = F0 m 0 ((lg_sl ([.ref h0, .int p1, .int p2]) ++ List.replicate (11 - (lg_sl ([.ref h0, .int p1, .int p2])).length) Slot.unset).toArray) [] := by rw [hargs]; exact lg_entry_eq m ([.ref h0, .int p1, .int p2]) 11
  rw [hg]
  clear hg hargs
  generalize (lg_sl ([.ref h0, .int p1, .int p2]) ++ List.replicate (11 - (lg_sl ([.ref h0, .int p1, .int p2])).length) Slot.unset).toArray = ls at hl ⊢
  have hl : lv_has ls 11 [(0, .ref h0), (1, .int p1), (2, .int p2)] := by exact hl
  obtain ⟨R, hRm⟩ : ∃ R : Room, R = (headSpec (zt_w yX3_holds cX3_holds 11 (some .boolean)) (zq_rm (1))).room := ⟨_, rfl⟩
  rw [← hRm]
  have hro : ∀ d q : Nat, d + 1 ≤ 1 → q ≤ 45 → zq_rok d q R := fun d q h1 h2 => by rw [hRm]; exact zq_rokI h1 h2
  generalize hQ : MQ below _ args s 0 0 (zq_A X) = Q
  obtain ⟨H, hH⟩ : ∃ H, H = s.heap := ⟨_, rfl⟩
  obtain ⟨locs, hlo⟩ : ∃ x : List Loc, x = [] := ⟨_, rfl⟩
  rw [show W p l e R s m args below meth c s.heap [] 0 0 Q = W p l e R s m args below meth c H locs 0 0 Q by rw [hH, hlo]]
  have hM : zq_hm X (zk, zn) I H := by rw [hH]; exact hM
  have hS : va_S (zq_A X) s.heap H locs := by rw [hH, hlo]; exact hS
  clear hH hlo
  refine lv_lconst (v := 0) hx hb dX3_holds_0 (by decide +kernel) ?_
  refine lv_lstore_n (lv' := [(3, .long (0 : Int64)), (0, .ref h0), (1, .int p1), (2, .int p2)]) hx hb dX3_holds_1 rfl hl (by decide) rfl (fun ls hl => ?_)
  refine lv_iload_n hx hb dX3_holds_2 rfl (lv_at hl 2 rfl) ?_
  refine lv_istore (lv' := [(5, .int p1), (3, .long (0 : Int64)), (0, .ref h0), (1, .int p1), (2, .int p2)]) hx hb dX3_holds_3 hl (by decide) rfl (fun ls hl => ?_)
  have J5 : ∀ (n141 : Nat) (H : Heap) (locs : List Loc) (ls : Array Slot) (j139 : Int32) (jl140 : Int64), 2147483647 + 1 - j139.toInt ≤ ((n141 : Nat) : Int) → (zq_hm X (zk, zn) I H) → (va_S (zq_A X) s.heap H locs) → (0 ≤ j139.toInt) → (lv_has ls 11 [(5, .int j139), (3, .long jl140), (0, .ref h0), (1, .int p1), (2, .int p2)]) → W p l e R s m args below meth c H locs 0 0 Q (F0 m 5 ls []) := by
    intro n141
    induction n141 with
    | zero => intro H locs ls j139 jl140 mu142 hM hS gj139 hl; exfalso; have := zi_rng j139; omega
    | succ n141 ih5 =>
      intro H locs ls j139 jl140 mu142 hM hS gj139 hl
      have := zi_rng j139
      refine lv_iload hx hb dX3_holds_5 (lv_at hl 0 rfl) ?_
      refine lv_iload_n hx hb dX3_holds_7 rfl (lv_at hl 4 rfl) ?_
      have J169 : ∀ (ls : Array Slot), (lv_has ls 11 [(5, .int j139), (3, .long jl140), (0, .ref h0), (1, .int p1), (2, .int p2)]) → W p l e R s m args below meth c H locs 0 0 Q (F0 m 169 ls []) := by
        intro ls hl
        refine lv_lload_n hx hb dX3_holds_169 rfl (lv_at hl 1 rfl) ?_
        refine lv_lconst (v := 1) hx hb dX3_holds_170 (by decide +kernel) ?_
        refine lv_land hx hb dX3_holds_171 ?_
        refine lv_topl (fun y179 ey179 => ?_)
        refine lv_lconst (v := 1) hx hb dX3_holds_172 (by decide +kernel) ?_
        refine zq_lcmp hx hb dX3_holds_173 (fun x180 hx180 => ?_)
        rw [show (1 : Int64).toInt = 1 from by decide +kernel] at hx180
        refine lv_if_ne (tgt := 181) hx hb dX3_holds_174 (by decide) (fun b181 => ?_) (fun b181 => ?_)
        · have b181 := zi_ne b181 (rfl : x180.toInt = x180.toInt) (zl_0 : (0 : Int32).toInt = 0)
          refine lv_iconst (v := 0) hx hb dX3_holds_181 (by decide +kernel) ?_
          subst hQ
          exact zq_zret E hr hZ hM hS (show 0 ≤ (0 : Int32).toInt ∧ (0 : Int32).toInt ≤ 1 by decide +kernel) ⟨rfl, (by have := zl_0; omega)⟩ hlocks dX3_holds_182
        · have b181 := zi_eq b181 (rfl : x180.toInt = x180.toInt) (zl_0 : (0 : Int32).toInt = 0)
          refine lv_iconst (v := 1) hx hb dX3_holds_177 (by decide +kernel) ?_
          refine lv_goto (tgt := 182) hx hb dX3_holds_178 (by decide) ?_
          subst hQ
          exact zq_zret E hr hZ hM hS (show 0 ≤ (1 : Int32).toInt ∧ (1 : Int32).toInt ≤ 1 by decide +kernel) ⟨rfl, (by have := zl_1; omega)⟩ hlocks dX3_holds_182
      refine lv_icmp_ge (tgt := 169) hx hb dX3_holds_8 (by decide) (fun b182 => ?_) (fun b182 => ?_)
      · have b182 := zi_le b182 (rfl : p2.toInt = p2.toInt) (rfl : j139.toInt = j139.toInt)
        exact J169 ls (lv_sub hl [0, 1, 2, 3, 4] rfl)
      · have b182 := zi_nle b182 (rfl : p2.toInt = p2.toInt) (rfl : j139.toInt = j139.toInt)
        refine lv_iload hx hb dX3_holds_11 (lv_at hl 0 rfl) ?_
        refine lv_aload_n hx hb dX3_holds_13 rfl (lv_at hl 2 rfl) ?_
        refine zq_getr E hM k_h0 (zFX3_36 E hZ) ⟨by decide, by decide, by decide, rfl⟩ dX3_holds_14 ?_
        have k183 : zq_k X (zq_r X h0 9) = 27 := zq_lk L.1 k_h0 rfl (by decide)
        refine zq_alen (n := 400) (t := 0) (v := 400) E hZ hM k183 ⟨by decide, rfl⟩ (by decide) (by decide +kernel) dX3_holds_17 ?_
        refine lv_icmp_ge (tgt := 169) hx hb dX3_holds_18 (by decide) (fun b184 => ?_) (fun b184 => ?_)
        · have b184 := zi_le b184 (zl_400 : (400 : Int32).toInt = 400) (rfl : j139.toInt = j139.toInt)
          exact J169 ls (lv_sub hl [0, 1, 2, 3, 4] rfl)
        · have b184 := zi_nle b184 (zl_400 : (400 : Int32).toInt = 400) (rfl : j139.toInt = j139.toInt)
          refine lv_aload_n hx hb dX3_holds_21 rfl (lv_at hl 2 rfl) ?_
          refine zq_getr E hM k_h0 (zFX3_36 E hZ) ⟨by decide, by decide, by decide, rfl⟩ dX3_holds_22 ?_
          have k185 : zq_k X (zq_r X h0 9) = 27 := zq_lk L.1 k_h0 rfl (by decide)
          refine lv_iload hx hb dX3_holds_25 (lv_at hl 0 rfl) ?_
          refine zq_ian (n := 400) (j := (j139.toNatClampNeg)) E hZ hM k185 ⟨by decide, rfl⟩ ⟨by omega, by omega⟩ rfl dX3_holds_27 (fun x186 ex186 gx186 => ?_)
          clear gx186
          refine lv_istore (lv' := [(6, .int x186), (5, .int j139), (3, .long jl140), (0, .ref h0), (1, .int p1), (2, .int p2)]) hx hb dX3_holds_28 hl (by decide) rfl (fun ls hl => ?_)
          refine lv_iload hx hb dX3_holds_30 (lv_at hl 0 rfl) ?_
          refine lv_iconst (v := (-1)) hx hb dX3_holds_32 (by decide +kernel) ?_
          have J163 : ∀ (H : Heap) (locs : List Loc) (ls : Array Slot) (jl216 : Int64), (zq_hm X (zk, zn) I H) → (va_S (zq_A X) s.heap H locs) → (lv_has ls 11 [(6, .int x186), (5, .int j139), (3, .long jl216), (0, .ref h0), (1, .int p1), (2, .int p2)]) → W p l e R s m args below meth c H locs 0 0 Q (F0 m 163 ls []) := by
            intro H locs ls jl216 hM hS hl
            obtain ⟨x218, ex218⟩ : ∃ y : Int32, y = j139 + 1 := ⟨_, rfl⟩
            have tx218 := zi_add ex218 (rfl : j139.toInt = j139.toInt) zl_1 ⟨by omega, by omega⟩
            refine lv_iinc (v := x218) (lv' := [(5, .int x218), (6, .int x186), (3, .long jl216), (0, .ref h0), (1, .int p1), (2, .int p2)]) hx hb dX3_holds_163 hl (k := 1) rfl (by rw [ex218]; rfl) (by decide) rfl (fun ls hl => ?_)
            refine lv_goto (tgt := 5) hx hb dX3_holds_166 (by decide) ?_
            exact ih5 H locs ls x218 jl216 (by omega) hM hS (by omega) (lv_sub hl [0, 2, 3, 4, 5] rfl)
          refine lv_icmp_ne (tgt := 43) hx hb dX3_holds_33 (by decide) (fun b219 => ?_) (fun b219 => ?_)
          · have b219 := zi_ne b219 (rfl : x186.toInt = x186.toInt) (zl_m1 : (-1 : Int32).toInt = (-1))
            refine lv_iload hx hb dX3_holds_43 (lv_at hl 0 rfl) ?_
            refine lv_bipush (v := (-2)) hx hb dX3_holds_45 (by decide +kernel) ?_
            refine lv_icmp_ne (tgt := 63) hx hb dX3_holds_47 (by decide) (fun b220 => ?_) (fun b220 => ?_)
            · have b220 := zi_ne b220 (rfl : x186.toInt = x186.toInt) (zl_m2 : (-2 : Int32).toInt = (-2))
              refine lv_iload hx hb dX3_holds_63 (lv_at hl 0 rfl) ?_
              refine lv_bipush (v := (-3)) hx hb dX3_holds_65 (by decide +kernel) ?_
              refine lv_icmp_ne (tgt := 81) hx hb dX3_holds_67 (by decide) (fun b221 => ?_) (fun b221 => ?_)
              · have b221 := zi_ne b221 (rfl : x186.toInt = x186.toInt) (zl_m3 : (-3 : Int32).toInt = (-3))
                refine lv_iload hx hb dX3_holds_81 (lv_at hl 0 rfl) ?_
                refine lv_if_lt (tgt := 163) hx hb dX3_holds_83 (by decide) (fun b222 => ?_) (fun b222 => ?_)
                · have b222 := zi_lt b222 (rfl : x186.toInt = x186.toInt) (zl_0 : (0 : Int32).toInt = 0)
                  exact J163 H locs ls jl140 hM hS (lv_sub hl [0, 1, 2, 3, 4, 5] rfl)
                · have b222 := zi_nlt b222 (rfl : x186.toInt = x186.toInt) (zl_0 : (0 : Int32).toInt = 0)
                  refine lv_iload hx hb dX3_holds_86 (lv_at hl 0 rfl) ?_
                  refine lv_aload_n hx hb dX3_holds_88 rfl (lv_at hl 3 rfl) ?_
                  refine zq_gn E hM k_h0 (zFX3_55 E hZ) (Or.inl ⟨by decide, by decide, by decide, rfl⟩) dX3_holds_89 (fun x223 ex223 gx223 => ?_)
                  replace gx223 : 0 ≤ x223.toInt ∧ x223.toInt ≤ 60 := gx223
                  refine lv_icmp_ge (tgt := 163) hx hb dX3_holds_92 (by decide) (fun b224 => ?_) (fun b224 => ?_)
                  · have b224 := zi_le b224 (rfl : x223.toInt = x223.toInt) (rfl : x186.toInt = x186.toInt)
                    exact J163 H locs ls jl140 hM hS (lv_sub hl [0, 1, 2, 3, 4, 5] rfl)
                  · have b224 := zi_nle b224 (rfl : x223.toInt = x223.toInt) (rfl : x186.toInt = x186.toInt)
                    refine lv_aload_n hx hb dX3_holds_95 rfl (lv_at hl 3 rfl) ?_
                    refine lv_aload_n hx hb dX3_holds_96 rfl (lv_at hl 3 rfl) ?_
                    refine zq_getr E hM k_h0 (zFX3_22 E hZ) ⟨by decide, by decide, by decide, rfl⟩ dX3_holds_97 ?_
                    have k225 : zq_k X (zq_r X h0 4) = 26 := zq_lk L.1 k_h0 rfl (by decide)
                    refine lv_iload hx hb dX3_holds_100 (lv_at hl 0 rfl) ?_
                    refine zq_ian (n := 60) (j := (x186.toNatClampNeg)) E hZ hM k225 ⟨by decide, rfl⟩ ⟨by omega, by omega⟩ rfl dX3_holds_102 (fun x226 ex226 gx226 => ?_)
                    replace gx226 : 0 ≤ x226.toInt ∧ x226.toInt ≤ 2147483647 := gx226
                    refine lv_aload_n hx hb dX3_holds_103 rfl (lv_at hl 3 rfl) ?_
                    refine zq_getr E hM k_h0 (zFX3_25 E hZ) ⟨by decide, by decide, by decide, rfl⟩ dX3_holds_104 ?_
                    have k227 : zq_k X (zq_r X h0 5) = 26 := zq_lk L.1 k_h0 rfl (by decide)
                    refine lv_iload hx hb dX3_holds_107 (lv_at hl 0 rfl) ?_
                    refine zq_ian (n := 60) (j := (x186.toNatClampNeg)) E hZ hM k227 ⟨by decide, rfl⟩ ⟨by omega, by omega⟩ rfl dX3_holds_109 (fun x228 ex228 gx228 => ?_)
                    replace gx228 : 0 ≤ x228.toInt ∧ x228.toInt ≤ 2147483647 := gx228
                    refine W.eq (g2 := F0 m 110 ls [.int x228, .int x226, .ref h0]) rfl ?_
                    refine zq_pcalll (zq_rV (As := [.int x226, .int x228]) (rest := []) E hZ hM k_h0 (c_X3_sumOf l X zk (zn) I L h0 k_h0 x226 x228 ⟨by have := zi_rng x226; omega, by have := zi_rng x226; omega⟩) zmX3_72 zM_X3_sumOf (hro (0) 12 (by first | decide | omega) (by decide)) ⟨by decide, by decide⟩ rfl hl.1 rfl rfl (Nat.le_of_ble_eq_true rfl) dX3_holds_110) hS (fun y230 H locs h229 hM hS => ?_)
                    clear h229
                    refine lv_lstore (lv' := [(7, .long y230), (6, .int x186), (5, .int j139), (3, .long jl140), (0, .ref h0), (1, .int p1), (2, .int p2)]) hx hb dX3_holds_113 hl (by decide) rfl (fun ls hl => ?_)
                    refine lv_aload_n hx hb dX3_holds_115 rfl (lv_at hl 4 rfl) ?_
                    refine lv_aload_n hx hb dX3_holds_116 rfl (lv_at hl 4 rfl) ?_
                    refine zq_getr E hM k_h0 (zFX3_25 E hZ) ⟨by decide, by decide, by decide, rfl⟩ dX3_holds_117 ?_
                    have k231 : zq_k X (zq_r X h0 5) = 26 := zq_lk L.1 k_h0 rfl (by decide)
                    refine lv_iload hx hb dX3_holds_120 (lv_at hl 1 rfl) ?_
                    refine zq_iald (n := 60) (j := (x186.toNatClampNeg)) (v := x228) E hZ hM k231 ⟨by decide, rfl⟩ ⟨by omega, by omega⟩ rfl ex228 dX3_holds_122 ?_
                    refine lv_aload_n hx hb dX3_holds_123 rfl (lv_at hl 4 rfl) ?_
                    refine zq_getr E hM k_h0 (zFX3_28 E hZ) ⟨by decide, by decide, by decide, rfl⟩ dX3_holds_124 ?_
                    have k233 : zq_k X (zq_r X h0 6) = 25 := zq_lk L.1 k_h0 rfl (by decide)
                    refine lv_iload hx hb dX3_holds_127 (lv_at hl 1 rfl) ?_
                    refine W.eq (g2 := F0 m 129 ls [.int x186, .ref (zq_r X h0 6), .int x228, .ref h0]) rfl ?_
                    refine zq_ian (n := 60) (j := (x186.toNatClampNeg)) E hZ hM k233 ⟨by decide, rfl⟩ ⟨by omega, by omega⟩ rfl dX3_holds_129 (fun x234 ex234 gx234 => ?_)
                    clear gx234
                    refine zq_pcalll (zq_rV (As := [.int x228, .int x234]) (rest := []) E hZ hM k_h0 (c_X3_sumOf l X zk (zn) I L h0 k_h0 x228 x234 ⟨by have := zi_rng x228; omega, by have := zi_rng x228; omega⟩) zmX3_72 zM_X3_sumOf (hro (0) 12 (by first | decide | omega) (by decide)) ⟨by decide, by decide⟩ rfl hl.1 rfl rfl (Nat.le_of_ble_eq_true rfl) dX3_holds_130) hS (fun y236 H locs h235 hM hS => ?_)
                    clear h235
                    refine lv_lstore (lv' := [(9, .long y236), (7, .long y230), (6, .int x186), (5, .int j139), (3, .long jl140), (0, .ref h0), (1, .int p1), (2, .int p2)]) hx hb dX3_holds_133 hl (by decide) rfl (fun ls hl => ?_)
                    refine lv_lload_n hx hb dX3_holds_135 rfl (lv_at hl 4 rfl) ?_
                    refine lv_iconst (v := 1) hx hb dX3_holds_136 (by decide +kernel) ?_
                    refine lv_lshl hx hb dX3_holds_137 rfl ?_
                    refine lv_topl (fun y237 ey237 => ?_)
                    refine lv_lload hx hb dX3_holds_138 (lv_at hl 1 rfl) ?_
                    refine lv_aload_n hx hb dX3_holds_140 rfl (lv_at hl 5 rfl) ?_
                    refine zq_getr E hM k_h0 (zFX3_31 E hZ) ⟨by decide, by decide, by decide, rfl⟩ dX3_holds_141 ?_
                    have k238 : zq_k X (zq_r X h0 7) = 25 := zq_lk L.1 k_h0 rfl (by decide)
                    refine lv_iload hx hb dX3_holds_144 (lv_at hl 2 rfl) ?_
                    refine W.eq (g2 := F0 m 146 ls [.int x186, .ref (zq_r X h0 7), .long y230, .long y237]) rfl ?_
                    refine zq_ian (n := 60) (j := (x186.toNatClampNeg)) E hZ hM k238 ⟨by decide, rfl⟩ ⟨by omega, by omega⟩ rfl dX3_holds_146 (fun x239 ex239 gx239 => ?_)
                    clear gx239
                    refine lv_lload hx hb dX3_holds_147 (lv_at hl 0 rfl) ?_
                    refine zq_pcalli (zq_rS (As := [.long y230, .int x239, .long y236]) (rest := [.long y237]) E hZ hM (c_X3_isSo l X zk (zn) I L y230 x239 y236) zmX3_134 zM_X3_isSo (hro (0) 5 (by first | decide | omega) (by decide)) hl.1 rfl rfl (Nat.le_of_ble_eq_true rfl) dX3_holds_149) hS (fun x241 H locs h240 hM hS => ?_)
                    have p242 := h240
                    have J160 : ∀ (ls : Array Slot) (j243 : Int32), (0 ≤ j243.toInt ∧ j243.toInt ≤ 1) → (lv_has ls 11 [(9, .long y236), (7, .long y230), (6, .int x186), (5, .int j139), (3, .long jl140), (0, .ref h0), (1, .int p1), (2, .int p2)]) → W p l e R s m args below meth c H locs 0 0 Q (F0 m 160 ls [.int j243, .long y237]) := by
                      intro ls j243 gj243 hl
                      refine lv_i2l hx hb dX3_holds_160 rfl ?_
                      refine lv_topl (fun y246 ey246 => ?_)
                      have ty246 := zi_i2l ey246
                      refine lv_lor hx hb dX3_holds_161 ?_
                      refine lv_topl (fun y247 ey247 => ?_)
                      refine lv_lstore_n (lv' := [(3, .long y247), (9, .long y236), (7, .long y230), (6, .int x186), (5, .int j139), (0, .ref h0), (1, .int p1), (2, .int p2)]) hx hb dX3_holds_162 rfl hl (by decide) rfl (fun ls hl => ?_)
                      exact J163 H locs ls y247 hM hS (lv_sub hl [3, 4, 0, 5, 6, 7] rfl)
                    refine lv_if_eq (tgt := 159) hx hb dX3_holds_152 (by decide) (fun b248 => ?_) (fun b248 => ?_)
                    · have b248 := zi_eq b248 (rfl : x241.toInt = x241.toInt) (zl_0 : (0 : Int32).toInt = 0)
                      refine lv_iconst (v := 0) hx hb dX3_holds_159 (by decide +kernel) ?_
                      exact J160 ls (0 : Int32) (by rw [zl_0]; decide) (lv_sub hl [0, 1, 2, 3, 4, 5, 6, 7] rfl)
                    · have b248 := zi_ne b248 (rfl : x241.toInt = x241.toInt) (zl_0 : (0 : Int32).toInt = 0)
                      refine lv_iconst (v := 1) hx hb dX3_holds_155 (by decide +kernel) ?_
                      refine lv_goto (tgt := 160) hx hb dX3_holds_156 (by decide) ?_
                      exact J160 ls (1 : Int32) (by rw [zl_1]; decide) (lv_sub hl [0, 1, 2, 3, 4, 5, 6, 7] rfl)
              · have b221 := zi_eq b221 (rfl : x186.toInt = x186.toInt) (zl_m3 : (-3 : Int32).toInt = (-3))
                refine lv_lload_n hx hb dX3_holds_70 rfl (lv_at hl 2 rfl) ?_
                refine lv_iconst (v := 1) hx hb dX3_holds_71 (by decide +kernel) ?_
                refine lv_lshr hx hb dX3_holds_72 rfl ?_
                refine lv_topl (fun y249 ey249 => ?_)
                refine lv_lload_n hx hb dX3_holds_73 rfl (lv_at hl 2 rfl) ?_
                refine lv_lconst (v := 1) hx hb dX3_holds_74 (by decide +kernel) ?_
                refine lv_land hx hb dX3_holds_75 ?_
                refine lv_topl (fun y250 ey250 => ?_)
                refine lv_lor hx hb dX3_holds_76 ?_
                refine lv_topl (fun y251 ey251 => ?_)
                refine lv_lstore_n (lv' := [(3, .long y251), (6, .int x186), (5, .int j139), (0, .ref h0), (1, .int p1), (2, .int p2)]) hx hb dX3_holds_77 rfl hl (by decide) rfl (fun ls hl => ?_)
                refine lv_goto (tgt := 163) hx hb dX3_holds_78 (by decide) ?_
                exact J163 H locs ls y251 hM hS (lv_sub hl [1, 2, 0, 3, 4, 5] rfl)
            · have b220 := zi_eq b220 (rfl : x186.toInt = x186.toInt) (zl_m2 : (-2 : Int32).toInt = (-2))
              refine lv_lload_n hx hb dX3_holds_50 rfl (lv_at hl 2 rfl) ?_
              refine lv_iconst (v := 1) hx hb dX3_holds_51 (by decide +kernel) ?_
              refine lv_lshr hx hb dX3_holds_52 rfl ?_
              refine lv_topl (fun y252 ey252 => ?_)
              refine lv_lload_n hx hb dX3_holds_53 rfl (lv_at hl 2 rfl) ?_
              refine W.ldc2 (v := (-2)) hx hb hown (hts _ (List.mem_cons_of_mem _ zCX3_132)) rfl dX3_holds_54 ?_
              refine W.eq (g2 := F0 m 57 ls [.long (-2 : Int64), .long jl140, .long y252]) rfl ?_
              refine lv_lor hx hb dX3_holds_57 ?_
              refine lv_topl (fun y253 ey253 => ?_)
              refine lv_land hx hb dX3_holds_58 ?_
              refine lv_topl (fun y254 ey254 => ?_)
              refine lv_lstore_n (lv' := [(3, .long y254), (6, .int x186), (5, .int j139), (0, .ref h0), (1, .int p1), (2, .int p2)]) hx hb dX3_holds_59 rfl hl (by decide) rfl (fun ls hl => ?_)
              refine lv_goto (tgt := 163) hx hb dX3_holds_60 (by decide) ?_
              exact J163 H locs ls y254 hM hS (lv_sub hl [1, 2, 0, 3, 4, 5] rfl)
          · have b219 := zi_eq b219 (rfl : x186.toInt = x186.toInt) (zl_m1 : (-1 : Int32).toInt = (-1))
            refine lv_lload_n hx hb dX3_holds_36 rfl (lv_at hl 2 rfl) ?_
            refine lv_lconst (v := 1) hx hb dX3_holds_37 (by decide +kernel) ?_
            refine lv_lxor hx hb dX3_holds_38 ?_
            refine lv_topl (fun y255 ey255 => ?_)
            refine lv_lstore_n (lv' := [(3, .long y255), (6, .int x186), (5, .int j139), (0, .ref h0), (1, .int p1), (2, .int p2)]) hx hb dX3_holds_39 rfl hl (by decide) rfl (fun ls hl => ?_)
            refine lv_goto (tgt := 163) hx hb dX3_holds_40 (by decide) ?_
            exact J163 H locs ls y255 hM hS (lv_sub hl [1, 2, 0, 3, 4, 5] rfl)
  exact J5 (2147483647 + 1 - p1.toInt).toNat H locs ls p1 (0 : Int64) (by omega) hM hS (by have := zi_rng p1; omega) (lv_sub hl [0, 1, 2, 3, 4] rfl)
set_option maxHeartbeats 8000000 in
set_option maxRecDepth 100000 in
theorem c_X3_fillWords (l : Launch) (X : zq_X) (zk zn : Nat) (I : zq_M) (L : zq_L X)  (h0 : Nat) (k_h0 : zq_k X h0 = 4) (p1 : Nat) (k_p1 : zq_k X p1 = 8) (p2 : Int32) (p3 : Int32)  : Met l yX3_fillWords (zt_w yX3_fillWords cX3_fillWords 5 none) (zq_rm (1)) (va_Pc [.ref h0, .ref p1, .int p2, .int p3] (zq_W X (zk, zn) I)) (va_Qv (fun I2 => I2 = I ∧ True) (zq_E X (zk, zn)) (zq_A X)) 0 0 (zq_A X) := by
  refine Met.ofW (cc := cX3_fillWords) (maxL := 5) (ret := none) (by decide) rfl ?_
  intro p e s m args below meth c s₁ B hml hv
  obtain ⟨hargs, hM, hZ⟩ := hv
  have hown : s.vm.findClass RX3 = some m.cls := findClass_of_methodNamed B.named
  have hts := atoms_spec (ws := zt_w yX3_fillWords cX3_fillWords 5 none) B.pre
  have E : CallFix p m c cX3_fillWords 5 s args (Cond.code yX3_fillWords cX3_fillWords 5 none :: zt) RX3 := ⟨B.exec, B.bytes, hml, hown, hts⟩
  have hx := B.exec
  have hb := B.bytes
  have hr := B.returns
  have hlocks := B.notSynchronized
  clear B
  have hS : va_S (zq_A X) s.heap s.heap [] := va_S.rf
  have hl := lv_entry ([.ref h0, .ref p1, .int p2, .int p3]) (n := 5) (by exact Nat.le_of_ble_eq_true rfl)
  have hg : entryFrame m args 5 = F0 m 0 ((lg_sl ([.ref h0, .ref p1, .int p2, .int p3]) ++ List.replicate (5 - (lg_sl ([.ref h0, .ref p1, .int p2, .int p3])).length) Slot.unset).toArray) [] := by rw [hargs]; exact lg_entry_eq m ([.ref h0, .ref p1, .int p2, .int p3]) 5
  rw [hg]
  clear hg hargs
  generalize (lg_sl ([.ref h0, .ref p1, .int p2, .int p3]) ++ List.replicate (5 - (lg_sl ([.ref h0, .ref p1, .int p2, .int p3])).length) Slot.unset).toArray = ls at hl ⊢
  have hl : lv_has ls 5 [(0, .ref h0), (1, .ref p1), (2, .int p2), (3, .int p3)] := by exact hl
  obtain ⟨R, hRm⟩ : ∃ R : Room, R = (headSpec (zt_w yX3_fillWords cX3_fillWords 5 none) (zq_rm (1))).room := ⟨_, rfl⟩
  rw [← hRm]
  have hro : ∀ d q : Nat, d + 1 ≤ 1 → q ≤ 45 → zq_rok d q R := fun d q h1 h2 => by rw [hRm]; exact zq_rokI h1 h2
  generalize hQ : MQ below _ args s 0 0 (zq_A X) = Q
  obtain ⟨H, hH⟩ : ∃ H, H = s.heap := ⟨_, rfl⟩
  obtain ⟨locs, hlo⟩ : ∃ x : List Loc, x = [] := ⟨_, rfl⟩
  rw [show W p l e R s m args below meth c s.heap [] 0 0 Q = W p l e R s m args below meth c H locs 0 0 Q by rw [hH, hlo]]
  have hM : zq_hm X (zk, zn) I H := by rw [hH]; exact hM
  have hS : va_S (zq_A X) s.heap H locs := by rw [hH, hlo]; exact hS
  clear hH hlo
  refine lv_aload_n hx hb dX3_fillWords_0 rfl (lv_at hl 1 rfl) ?_
  refine lv_iload_n hx hb dX3_fillWords_1 rfl (lv_at hl 2 rfl) ?_
  refine zq_pcalli (zq_rV (As := [.int p2]) (rest := []) E hZ hM k_p1 (c_X10_hasShip l X zk (zn) I L p1 k_p1 p2) zmX3_76 zM_X10_hasShip (hro (0) 2 (by first | decide | omega) (by decide)) ⟨by decide, by decide⟩ rfl hl.1 rfl rfl (Nat.le_of_ble_eq_true rfl) dX3_fillWords_2) hS (fun x102 H locs h101 hM hS => ?_)
  obtain ⟨p103, p104⟩ := h101
  refine lv_if_eq (tgt := 16) hx hb dX3_fillWords_5 (by decide) (fun b105 => ?_) (fun b105 => ?_)
  · have b105 := zi_eq b105 (rfl : x102.toInt = x102.toInt) (zl_0 : (0 : Int32).toInt = 0)
    subst hQ
    exact zq_vret E hr hZ hM hS ⟨rfl, trivial⟩ hlocks dX3_fillWords_16
  · have b105 := zi_ne b105 (rfl : x102.toInt = x102.toInt) (zl_0 : (0 : Int32).toInt = 0)
    refine lv_aload_n hx hb dX3_fillWords_8 rfl (lv_at hl 1 rfl) ?_
    refine lv_iload_n hx hb dX3_fillWords_9 rfl (lv_at hl 3 rfl) ?_
    refine zq_pcalli (zq_rV (As := [.int p3]) (rest := []) E hZ hM k_p1 (c_X10_hasTown l X zk (zn) I L p1 k_p1 p3) zmX3_82 zM_X10_hasTown (hro (0) 2 (by first | decide | omega) (by decide)) ⟨by decide, by decide⟩ rfl hl.1 rfl rfl (Nat.le_of_ble_eq_true rfl) dX3_fillWords_10) hS (fun x107 H locs h106 hM hS => ?_)
    obtain ⟨p108, p109, p110⟩ := h106
    refine lv_if_ne (tgt := 17) hx hb dX3_fillWords_13 (by decide) (fun b111 => ?_) (fun b111 => ?_)
    · have b111 := zi_ne b111 (rfl : x107.toInt = x107.toInt) (zl_0 : (0 : Int32).toInt = 0)
      refine lv_aload_n hx hb dX3_fillWords_17 rfl (lv_at hl 1 rfl) ?_
      refine zq_getr E hM k_p1 (zFX3_85 E hZ) ⟨by decide, by decide, by decide, rfl⟩ dX3_fillWords_18 ?_
      have k112 : zq_k X (zq_r X p1 9) = 32 := zq_lk L.1 k_p1 rfl (by decide)
      refine lv_iload_n hx hb dX3_fillWords_21 rfl (lv_at hl 3 rfl) ?_
      refine zq_rald (n := 4) (t := 8) (j := (p3.toNatClampNeg)) E hZ hM k112 ⟨by decide, rfl⟩ ⟨rfl, by decide, by decide⟩ ⟨by omega, by omega⟩ rfl dX3_fillWords_22 ?_
      have k113 : zq_k X (zq_r X (zq_r X p1 9) (p3.toNatClampNeg)) = 7 := zq_lay_a L.1 k112 (n := 4) (zq_inn (i := p3) (n := 4) ⟨by omega, by omega⟩) (by decide) (by decide)
      refine lv_astore (lv' := [(4, .ref (zq_r X (zq_r X p1 9) (p3.toNatClampNeg))), (0, .ref h0), (1, .ref p1), (2, .int p2), (3, .int p3)]) hx hb dX3_fillWords_23 hl (by decide) rfl (fun ls hl => ?_)
      refine lv_aload_n hx hb dX3_fillWords_25 rfl (lv_at hl 1 rfl) ?_
      refine zq_getr E hM k_h0 (zFX3_11 E hZ) ⟨by decide, by decide, by decide, rfl⟩ dX3_fillWords_26 ?_
      have k114 : zq_k X (zq_r X h0 0) = 24 := zq_lk L.1 k_h0 rfl (by decide)
      refine lv_iconst (v := 0) hx hb dX3_fillWords_29 (by decide +kernel) ?_
      refine lv_iload_n hx hb dX3_fillWords_30 rfl (lv_at hl 3 rfl) ?_
      refine W.eq (g2 := F0 m 31 ls [.int p2, .int (0 : Int32), .ref (zq_r X h0 0)]) rfl ?_
      refine lv_i2l hx hb dX3_fillWords_31 rfl ?_
      refine lv_topl (fun y115 ey115 => ?_)
      have ty115 := zi_i2l ey115
      refine zq_last (n := 13) E hZ hM hS k114 ⟨by decide, rfl⟩ (by rw [zl_0]; decide) dX3_fillWords_32 (fun H locs hM hS => ?_)
      refine lv_aload_n hx hb dX3_fillWords_33 rfl (lv_at hl 1 rfl) ?_
      refine zq_getr E hM k_h0 (zFX3_11 E hZ) ⟨by decide, by decide, by decide, rfl⟩ dX3_fillWords_34 ?_
      have k116 : zq_k X (zq_r X h0 0) = 24 := zq_lk L.1 k_h0 rfl (by decide)
      refine lv_iconst (v := 1) hx hb dX3_fillWords_37 (by decide +kernel) ?_
      refine lv_iload_n hx hb dX3_fillWords_38 rfl (lv_at hl 4 rfl) ?_
      refine lv_i2l hx hb dX3_fillWords_39 rfl ?_
      refine lv_topl (fun y117 ey117 => ?_)
      have ty117 := zi_i2l ey117
      refine zq_last (n := 13) E hZ hM hS k116 ⟨by decide, rfl⟩ (by rw [zl_1]; decide) dX3_fillWords_40 (fun H locs hM hS => ?_)
      refine lv_aload_n hx hb dX3_fillWords_41 rfl (lv_at hl 1 rfl) ?_
      refine zq_getr E hM k_h0 (zFX3_11 E hZ) ⟨by decide, by decide, by decide, rfl⟩ dX3_fillWords_42 ?_
      have k118 : zq_k X (zq_r X h0 0) = 24 := zq_lk L.1 k_h0 rfl (by decide)
      refine W.eq (g2 := F0 m 45 ls [.ref (zq_r X h0 0)]) rfl ?_
      refine lv_iconst (v := 2) hx hb dX3_fillWords_45 (by decide +kernel) ?_
      refine lv_aload hx hb dX3_fillWords_46 (lv_at hl 0 rfl) ?_
      refine zq_gn E hM k113 (zFX3_89 E hZ) (Or.inl ⟨by decide, by decide, by decide, rfl⟩) dX3_fillWords_48 (fun x119 ex119 gx119 => ?_)
      replace gx119 : (-1) ≤ x119.toInt ∧ x119.toInt ≤ 6 := gx119
      refine lv_i2l hx hb dX3_fillWords_51 rfl ?_
      refine lv_topl (fun y120 ey120 => ?_)
      have ty120 := zi_i2l ey120
      refine zq_last (n := 13) E hZ hM hS k118 ⟨by decide, rfl⟩ (by rw [zl_2]; decide) dX3_fillWords_52 (fun H locs hM hS => ?_)
      refine lv_aload_n hx hb dX3_fillWords_53 rfl (lv_at hl 1 rfl) ?_
      refine zq_getr E hM k_h0 (zFX3_11 E hZ) ⟨by decide, by decide, by decide, rfl⟩ dX3_fillWords_54 ?_
      have k121 : zq_k X (zq_r X h0 0) = 24 := zq_lk L.1 k_h0 rfl (by decide)
      refine lv_iconst (v := 3) hx hb dX3_fillWords_57 (by decide +kernel) ?_
      refine lv_aload hx hb dX3_fillWords_58 (lv_at hl 0 rfl) ?_
      refine zq_gn E hM k113 (zFX3_94 E hZ) (Or.inl ⟨by decide, by decide, by decide, rfl⟩) dX3_fillWords_60 (fun x122 ex122 gx122 => ?_)
      replace gx122 : (-1) ≤ x122.toInt ∧ x122.toInt ≤ 60 := gx122
      refine W.eq (g2 := F0 m 63 ls [.int x122, .int (3 : Int32), .ref (zq_r X h0 0)]) rfl ?_
      refine lv_i2l hx hb dX3_fillWords_63 rfl ?_
      refine lv_topl (fun y123 ey123 => ?_)
      have ty123 := zi_i2l ey123
      refine zq_last (n := 13) E hZ hM hS k121 ⟨by decide, rfl⟩ (by rw [zl_3]; decide) dX3_fillWords_64 (fun H locs hM hS => ?_)
      refine lv_aload_n hx hb dX3_fillWords_65 rfl (lv_at hl 1 rfl) ?_
      refine zq_getr E hM k_h0 (zFX3_11 E hZ) ⟨by decide, by decide, by decide, rfl⟩ dX3_fillWords_66 ?_
      have k124 : zq_k X (zq_r X h0 0) = 24 := zq_lk L.1 k_h0 rfl (by decide)
      refine lv_iconst (v := 4) hx hb dX3_fillWords_69 (by decide +kernel) ?_
      refine lv_aload hx hb dX3_fillWords_70 (lv_at hl 0 rfl) ?_
      refine zq_gn E hM k113 (zFX3_97 E hZ) (Or.inl ⟨by decide, by decide, by decide, rfl⟩) dX3_fillWords_72 (fun x125 ex125 gx125 => ?_)
      replace gx125 : (-1) ≤ x125.toInt ∧ x125.toInt ≤ 99 := gx125
      refine lv_i2l hx hb dX3_fillWords_75 rfl ?_
      refine lv_topl (fun y126 ey126 => ?_)
      have ty126 := zi_i2l ey126
      refine zq_last (n := 13) E hZ hM hS k124 ⟨by decide, rfl⟩ (by rw [zl_4]; decide) dX3_fillWords_76 (fun H locs hM hS => ?_)
      refine lv_aload_n hx hb dX3_fillWords_77 rfl (lv_at hl 1 rfl) ?_
      refine W.eq (g2 := F0 m 78 ls [.ref h0]) rfl ?_
      refine zq_getr E hM k_h0 (zFX3_11 E hZ) ⟨by decide, by decide, by decide, rfl⟩ dX3_fillWords_78 ?_
      have k127 : zq_k X (zq_r X h0 0) = 24 := zq_lk L.1 k_h0 rfl (by decide)
      refine lv_iconst (v := 5) hx hb dX3_fillWords_81 (by decide +kernel) ?_
      refine lv_aload hx hb dX3_fillWords_82 (lv_at hl 0 rfl) ?_
      refine zq_gn E hM k113 (zFX3_100 E hZ) (Or.inl ⟨by decide, by decide, by decide, rfl⟩) dX3_fillWords_84 (fun x128 ex128 gx128 => ?_)
      replace gx128 : (-1) ≤ x128.toInt ∧ x128.toInt ≤ 99 := gx128
      refine lv_i2l hx hb dX3_fillWords_87 rfl ?_
      refine lv_topl (fun y129 ey129 => ?_)
      have ty129 := zi_i2l ey129
      refine zq_last (n := 13) E hZ hM hS k127 ⟨by decide, rfl⟩ (by rw [zl_5]; decide) dX3_fillWords_88 (fun H locs hM hS => ?_)
      refine lv_aload_n hx hb dX3_fillWords_89 rfl (lv_at hl 1 rfl) ?_
      refine zq_getr E hM k_h0 (zFX3_11 E hZ) ⟨by decide, by decide, by decide, rfl⟩ dX3_fillWords_90 ?_
      have k130 : zq_k X (zq_r X h0 0) = 24 := zq_lk L.1 k_h0 rfl (by decide)
      refine lv_bipush (v := 6) hx hb dX3_fillWords_93 (by decide +kernel) ?_
      refine lv_aload hx hb dX3_fillWords_95 (lv_at hl 0 rfl) ?_
      refine W.eq (g2 := F0 m 97 ls [.ref (zq_r X (zq_r X p1 9) (p3.toNatClampNeg)), .int (6 : Int32), .ref (zq_r X h0 0)]) rfl ?_
      refine zq_gn E hM k113 (zFX3_103 E hZ) (Or.inl ⟨by decide, by decide, by decide, rfl⟩) dX3_fillWords_97 (fun x131 ex131 gx131 => ?_)
      clear gx131
      refine lv_i2l hx hb dX3_fillWords_100 rfl ?_
      refine lv_topl (fun y132 ey132 => ?_)
      have ty132 := zi_i2l ey132
      have := zi_rng x131
      refine zq_last (n := 13) E hZ hM hS k130 ⟨by decide, rfl⟩ (by rw [zl_6]; decide) dX3_fillWords_101 (fun H locs hM hS => ?_)
      refine lv_aload_n hx hb dX3_fillWords_102 rfl (lv_at hl 1 rfl) ?_
      refine zq_getr E hM k_h0 (zFX3_11 E hZ) ⟨by decide, by decide, by decide, rfl⟩ dX3_fillWords_103 ?_
      have k133 : zq_k X (zq_r X h0 0) = 24 := zq_lk L.1 k_h0 rfl (by decide)
      refine lv_bipush (v := 7) hx hb dX3_fillWords_106 (by decide +kernel) ?_
      refine lv_aload_n hx hb dX3_fillWords_108 rfl (lv_at hl 2 rfl) ?_
      refine lv_iload_n hx hb dX3_fillWords_109 rfl (lv_at hl 4 rfl) ?_
      refine zq_pcalli (zq_rV (As := [.int p3]) (rest := [.int (7 : Int32), .ref (zq_r X h0 0)]) E hZ hM k_p1 (c_X10_blocksFor l X zk (zn) I L p1 k_p1 p3) zmX3_106 zM_X10_blocksFor (hro (0) 4 (by first | decide | omega) (by decide)) ⟨by decide, by decide⟩ rfl hl.1 rfl rfl (Nat.le_of_ble_eq_true rfl) dX3_fillWords_110) hS (fun x135 H locs h134 hM hS => ?_)
      clear h134
      refine lv_i2l hx hb dX3_fillWords_113 rfl ?_
      refine lv_topl (fun y136 ey136 => ?_)
      have ty136 := zi_i2l ey136
      have := zi_rng x135
      refine W.eq (g2 := F0 m 114 ls [.long y136, .int (7 : Int32), .ref (zq_r X h0 0)]) rfl ?_
      refine zq_last (n := 13) E hZ hM hS k133 ⟨by decide, rfl⟩ (by rw [zl_7]; decide) dX3_fillWords_114 (fun H locs hM hS => ?_)
      refine lv_aload_n hx hb dX3_fillWords_115 rfl (lv_at hl 1 rfl) ?_
      refine zq_getr E hM k_h0 (zFX3_11 E hZ) ⟨by decide, by decide, by decide, rfl⟩ dX3_fillWords_116 ?_
      have k137 : zq_k X (zq_r X h0 0) = 24 := zq_lk L.1 k_h0 rfl (by decide)
      refine lv_bipush (v := 8) hx hb dX3_fillWords_119 (by decide +kernel) ?_
      refine lv_aload_n hx hb dX3_fillWords_121 rfl (lv_at hl 2 rfl) ?_
      refine zq_gn E hM k_p1 (zFX3_110 E hZ) (Or.inl ⟨by decide, by decide, by decide, rfl⟩) dX3_fillWords_122 (fun x138 ex138 gx138 => ?_)
      clear gx138
      refine lv_i2l hx hb dX3_fillWords_125 rfl ?_
      refine lv_topl (fun y139 ey139 => ?_)
      have ty139 := zi_i2l ey139
      have := zi_rng x138
      refine zq_last (n := 13) E hZ hM hS k137 ⟨by decide, rfl⟩ (by rw [zl_8]; decide) dX3_fillWords_126 (fun H locs hM hS => ?_)
      refine lv_aload_n hx hb dX3_fillWords_127 rfl (lv_at hl 1 rfl) ?_
      refine zq_getr E hM k_h0 (zFX3_11 E hZ) ⟨by decide, by decide, by decide, rfl⟩ dX3_fillWords_128 ?_
      have k140 : zq_k X (zq_r X h0 0) = 24 := zq_lk L.1 k_h0 rfl (by decide)
      refine W.eq (g2 := F0 m 131 ls [.ref (zq_r X h0 0)]) rfl ?_
      refine lv_bipush (v := 9) hx hb dX3_fillWords_131 (by decide +kernel) ?_
      refine lv_aload_n hx hb dX3_fillWords_133 rfl (lv_at hl 2 rfl) ?_
      refine zq_getr E hM k_p1 (zFX3_113 E hZ) ⟨by decide, by decide, by decide, rfl⟩ dX3_fillWords_134 ?_
      have k141 : zq_k X (zq_r X p1 8) = 31 := zq_lk L.1 k_p1 rfl (by decide)
      refine lv_iload_n hx hb dX3_fillWords_137 rfl (lv_at hl 3 rfl) ?_
      refine zq_rald (n := 3) (t := 7) (j := (p2.toNatClampNeg)) E hZ hM k141 ⟨by decide, rfl⟩ ⟨rfl, by decide, by decide⟩ ⟨by omega, by omega⟩ rfl dX3_fillWords_138 ?_
      have k142 : zq_k X (zq_r X (zq_r X p1 8) (p2.toNatClampNeg)) = 5 := zq_lay_a L.1 k141 (n := 3) (zq_inn (i := p2) (n := 3) ⟨by omega, by omega⟩) (by decide) (by decide)
      refine zq_gn E hM k142 (zFX3_117 E hZ) (Or.inl ⟨by decide, by decide, by decide, rfl⟩) dX3_fillWords_139 (fun x143 ex143 gx143 => ?_)
      replace gx143 : (-1) ≤ x143.toInt ∧ x143.toInt ≤ 99 := gx143
      refine lv_i2l hx hb dX3_fillWords_142 rfl ?_
      refine lv_topl (fun y144 ey144 => ?_)
      have ty144 := zi_i2l ey144
      refine zq_last (n := 13) E hZ hM hS k140 ⟨by decide, rfl⟩ (by rw [zl_9]; decide) dX3_fillWords_143 (fun H locs hM hS => ?_)
      refine lv_aload_n hx hb dX3_fillWords_144 rfl (lv_at hl 1 rfl) ?_
      refine zq_getr E hM k_h0 (zFX3_11 E hZ) ⟨by decide, by decide, by decide, rfl⟩ dX3_fillWords_145 ?_
      have k145 : zq_k X (zq_r X h0 0) = 24 := zq_lk L.1 k_h0 rfl (by decide)
      refine W.eq (g2 := F0 m 148 ls [.ref (zq_r X h0 0)]) rfl ?_
      refine lv_bipush (v := 10) hx hb dX3_fillWords_148 (by decide +kernel) ?_
      refine lv_aload_n hx hb dX3_fillWords_150 rfl (lv_at hl 2 rfl) ?_
      refine zq_gn E hM k_p1 (zFX3_122 E hZ) (Or.inl ⟨by decide, by decide, by decide, rfl⟩) dX3_fillWords_151 (fun x146 ex146 gx146 => ?_)
      clear gx146
      refine lv_i2l hx hb dX3_fillWords_154 rfl ?_
      refine lv_topl (fun y147 ey147 => ?_)
      have ty147 := zi_i2l ey147
      have := zi_rng x146
      refine zq_last (n := 13) E hZ hM hS k145 ⟨by decide, rfl⟩ (by rw [zl_10]; decide) dX3_fillWords_155 (fun H locs hM hS => ?_)
      refine lv_aload_n hx hb dX3_fillWords_156 rfl (lv_at hl 1 rfl) ?_
      refine zq_getr E hM k_h0 (zFX3_11 E hZ) ⟨by decide, by decide, by decide, rfl⟩ dX3_fillWords_157 ?_
      have k148 : zq_k X (zq_r X h0 0) = 24 := zq_lk L.1 k_h0 rfl (by decide)
      refine lv_bipush (v := 11) hx hb dX3_fillWords_160 (by decide +kernel) ?_
      refine lv_aload_n hx hb dX3_fillWords_162 rfl (lv_at hl 2 rfl) ?_
      refine zq_gn E hM k_p1 (zFX3_125 E hZ) (Or.inl ⟨by decide, by decide, by decide, rfl⟩) dX3_fillWords_163 (fun x149 ex149 gx149 => ?_)
      clear gx149
      refine W.eq (g2 := F0 m 166 ls [.int x149, .int (11 : Int32), .ref (zq_r X h0 0)]) rfl ?_
      refine lv_i2l hx hb dX3_fillWords_166 rfl ?_
      refine lv_topl (fun y150 ey150 => ?_)
      have ty150 := zi_i2l ey150
      have := zi_rng x149
      refine zq_last (n := 13) E hZ hM hS k148 ⟨by decide, rfl⟩ (by rw [zl_11]; decide) dX3_fillWords_167 (fun H locs hM hS => ?_)
      refine lv_aload_n hx hb dX3_fillWords_168 rfl (lv_at hl 1 rfl) ?_
      refine zq_getr E hM k_h0 (zFX3_11 E hZ) ⟨by decide, by decide, by decide, rfl⟩ dX3_fillWords_169 ?_
      have k151 : zq_k X (zq_r X h0 0) = 24 := zq_lk L.1 k_h0 rfl (by decide)
      refine lv_bipush (v := 12) hx hb dX3_fillWords_172 (by decide +kernel) ?_
      refine lv_aload hx hb dX3_fillWords_174 (lv_at hl 0 rfl) ?_
      refine zq_gn E hM k113 (zFX3_128 E hZ) (Or.inr ⟨by decide, by decide, by decide, rfl⟩) dX3_fillWords_176 (fun x152 ex152 gx152 => ?_)
      replace gx152 : 0 ≤ x152.toInt ∧ x152.toInt ≤ 1 := gx152
      have J187 : ∀ (ls : Array Slot) (jl153 : Int64), (lv_has ls 5 [(4, .ref (zq_r X (zq_r X p1 9) (p3.toNatClampNeg))), (0, .ref h0), (1, .ref p1), (2, .int p2), (3, .int p3)]) → W p l e R s m args below meth c H locs 0 0 Q (F0 m 187 ls [.long jl153, .int (12 : Int32), .ref (zq_r X h0 0)]) := by
        intro ls jl153 hl
        refine zq_last (n := 13) E hZ hM hS k151 ⟨by decide, rfl⟩ (by rw [zl_12]; decide) dX3_fillWords_187 (fun H locs hM hS => ?_)
        subst hQ
        exact zq_vret E hr hZ hM hS ⟨rfl, trivial⟩ hlocks dX3_fillWords_188
      refine lv_if_eq (tgt := 186) hx hb dX3_fillWords_179 (by decide) (fun b154 => ?_) (fun b154 => ?_)
      · have b154 := zi_eq b154 (rfl : x152.toInt = x152.toInt) (zl_0 : (0 : Int32).toInt = 0)
        refine lv_lconst (v := 0) hx hb dX3_fillWords_186 (by decide +kernel) ?_
        exact J187 ls (0 : Int64) (lv_sub hl [0, 1, 2, 3, 4] rfl)
      · have b154 := zi_ne b154 (rfl : x152.toInt = x152.toInt) (zl_0 : (0 : Int32).toInt = 0)
        refine lv_lconst (v := 1) hx hb dX3_fillWords_182 (by decide +kernel) ?_
        refine lv_goto (tgt := 187) hx hb dX3_fillWords_183 (by decide) ?_
        exact J187 ls (1 : Int64) (lv_sub hl [0, 1, 2, 3, 4] rfl)
    · have b111 := zi_eq b111 (rfl : x107.toInt = x107.toInt) (zl_0 : (0 : Int32).toInt = 0)
      subst hQ
      exact zq_vret E hr hZ hM hS ⟨rfl, trivial⟩ hlocks dX3_fillWords_16
set_option maxHeartbeats 8000000 in
set_option maxRecDepth 100000 in
theorem c_X3_blocksWished (l : Launch) (X : zq_X) (zk zn : Nat) (I : zq_M) (L : zq_L X)  (h0 : Nat) (k_h0 : zq_k X h0 = 4) (p1 : Nat) (k_p1 : zq_k X p1 = 8) (p2 : Int32) (p3 : Int32)  : Met l yX3_blocksWished (zt_w yX3_blocksWished cX3_blocksWished 5 (some .long)) (zq_rm (2)) (va_Pc [.ref h0, .ref p1, .int p2, .int p3] (zq_W X (zk, zn) I)) (va_Ql (fun (r : Int64) I2 => I2 = I ∧ True) (zq_E X (zk, zn)) (zq_A X)) 0 0 (zq_A X) := by
  refine Met.ofW (cc := cX3_blocksWished) (maxL := 5) (ret := (some .long)) (by decide) rfl ?_
  intro p e s m args below meth c s₁ B hml hv
  obtain ⟨hargs, hM, hZ⟩ := hv
  have hown : s.vm.findClass RX3 = some m.cls := findClass_of_methodNamed B.named
  have hts := atoms_spec (ws := zt_w yX3_blocksWished cX3_blocksWished 5 (some .long)) B.pre
  have E : CallFix p m c cX3_blocksWished 5 s args (Cond.code yX3_blocksWished cX3_blocksWished 5 (some .long) :: zt) RX3 := ⟨B.exec, B.bytes, hml, hown, hts⟩
  have hx := B.exec
  have hb := B.bytes
  have hr := B.returns
  have hlocks := B.notSynchronized
  clear B
  have hS : va_S (zq_A X) s.heap s.heap [] := va_S.rf
  have hl := lv_entry ([.ref h0, .ref p1, .int p2, .int p3]) (n := 5) (by exact Nat.le_of_ble_eq_true rfl)
  have hg : entryFrame m args 5 = F0 m 0 ((lg_sl ([.ref h0, .ref p1, .int p2, .int p3]) ++ List.replicate (5 - (lg_sl ([.ref h0, .ref p1, .int p2, .int p3])).length) Slot.unset).toArray) [] := by rw [hargs]; exact lg_entry_eq m ([.ref h0, .ref p1, .int p2, .int p3]) 5
  rw [hg]
  clear hg hargs
  generalize (lg_sl ([.ref h0, .ref p1, .int p2, .int p3]) ++ List.replicate (5 - (lg_sl ([.ref h0, .ref p1, .int p2, .int p3])).length) Slot.unset).toArray = ls at hl ⊢
  have hl : lv_has ls 5 [(0, .ref h0), (1, .ref p1), (2, .int p2), (3, .int p3)] := by exact hl
  obtain ⟨R, hRm⟩ : ∃ R : Room, R = (headSpec (zt_w yX3_blocksWished cX3_blocksWished 5 (some .long)) (zq_rm (2))).room := ⟨_, rfl⟩
  rw [← hRm]
  have hro : ∀ d q : Nat, d + 1 ≤ 2 → q ≤ 45 → zq_rok d q R := fun d q h1 h2 => by rw [hRm]; exact zq_rokI h1 h2
  generalize hQ : MQ below _ args s 0 0 (zq_A X) = Q
  obtain ⟨H, hH⟩ : ∃ H, H = s.heap := ⟨_, rfl⟩
  obtain ⟨locs, hlo⟩ : ∃ x : List Loc, x = [] := ⟨_, rfl⟩
  rw [show W p l e R s m args below meth c s.heap [] 0 0 Q = W p l e R s m args below meth c H locs 0 0 Q by rw [hH, hlo]]
  have hM : zq_hm X (zk, zn) I H := by rw [hH]; exact hM
  have hS : va_S (zq_A X) s.heap H locs := by rw [hH, hlo]; exact hS
  clear hH hlo
  refine lv_aload_n hx hb dX3_blocksWished_0 rfl (lv_at hl 0 rfl) ?_
  refine lv_aload_n hx hb dX3_blocksWished_1 rfl (lv_at hl 1 rfl) ?_
  refine lv_iload_n hx hb dX3_blocksWished_2 rfl (lv_at hl 2 rfl) ?_
  refine lv_iload_n hx hb dX3_blocksWished_3 rfl (lv_at hl 3 rfl) ?_
  refine zq_callv (zq_rV (As := [.ref p1, .int p2, .int p3]) (rest := []) E hZ hM k_h0 (c_X3_fillWords l X zk (zn) I L h0 k_h0 p1 k_p1 p2 p3) zmX3_64 zM_X3_fillWords (hro (1) 5 (by first | decide | omega) (by decide)) ⟨by decide, by decide⟩ rfl hl.1 rfl rfl (Nat.le_of_ble_eq_true rfl) dX3_blocksWished_4) hS (fun I103 H locs h101 hM hS => ?_)
  obtain ⟨fr104, p105⟩ := h101
  rw [fr104] at hM
  refine lv_iconst (v := 0) hx hb dX3_blocksWished_7 (by decide +kernel) ?_
  refine lv_istore (lv' := [(4, .int (0 : Int32)), (0, .ref h0), (1, .ref p1), (2, .int p2), (3, .int p3)]) hx hb dX3_blocksWished_8 hl (by decide) rfl (fun ls hl => ?_)
  have J10 : ∀ (n187 : Nat) (H : Heap) (locs : List Loc) (ls : Array Slot) (j186 : Int32), 12 + 1 - j186.toInt ≤ ((n187 : Nat) : Int) → (zq_hm X (zk, zn) I H) → (va_S (zq_A X) s.heap H locs) → (0 ≤ j186.toInt ∧ j186.toInt ≤ 12) → (lv_has ls 5 [(4, .int j186), (0, .ref h0), (1, .ref p1), (2, .int p2), (3, .int p3)]) → W p l e R s m args below meth c H locs 0 0 Q (F0 m 10 ls []) := by
    intro n187
    induction n187 with
    | zero => intro H locs ls j186 mu188 hM hS gj186 hl; exfalso; have := zi_rng j186; omega
    | succ n187 ih10 =>
      intro H locs ls j186 mu188 hM hS gj186 hl
      refine lv_iload hx hb dX3_blocksWished_10 (lv_at hl 0 rfl) ?_
      refine lv_aload_n hx hb dX3_blocksWished_12 rfl (lv_at hl 1 rfl) ?_
      refine zq_gn E hM k_h0 (zFX3_61 E hZ) (Or.inl ⟨by decide, by decide, by decide, rfl⟩) dX3_blocksWished_13 (fun x189 ex189 gx189 => ?_)
      replace gx189 : 0 ≤ x189.toInt ∧ x189.toInt ≤ 12 := gx189
      refine lv_icmp_ge (tgt := 82) hx hb dX3_blocksWished_16 (by decide) (fun b190 => ?_) (fun b190 => ?_)
      · have b190 := zi_le b190 (rfl : x189.toInt = x189.toInt) (rfl : j186.toInt = j186.toInt)
        refine lv_lconst (v := 0) hx hb dX3_blocksWished_82 (by decide +kernel) ?_
        subst hQ
        exact zq_lret E hr hZ hM hS ⟨rfl, trivial⟩ hlocks dX3_blocksWished_83
      · have b190 := zi_nle b190 (rfl : x189.toInt = x189.toInt) (rfl : j186.toInt = j186.toInt)
        refine lv_aload_n hx hb dX3_blocksWished_19 rfl (lv_at hl 1 rfl) ?_
        refine zq_getr E hM k_h0 (zFX3_45 E hZ) ⟨by decide, by decide, by decide, rfl⟩ dX3_blocksWished_20 ?_
        have k191 : zq_k X (zq_r X h0 13) = 28 := zq_lk L.1 k_h0 rfl (by decide)
        refine lv_iload hx hb dX3_blocksWished_23 (lv_at hl 0 rfl) ?_
        refine zq_ian (n := 12) (j := (j186.toNatClampNeg)) E hZ hM k191 ⟨by decide, rfl⟩ ⟨by omega, by omega⟩ rfl dX3_blocksWished_25 (fun x192 ex192 gx192 => ?_)
        replace gx192 : 0 ≤ x192.toInt ∧ x192.toInt ≤ 2147483647 := gx192
        refine lv_aload_n hx hb dX3_blocksWished_26 rfl (lv_at hl 1 rfl) ?_
        refine zq_getr E hM k_h0 (zFX3_48 E hZ) ⟨by decide, by decide, by decide, rfl⟩ dX3_blocksWished_27 ?_
        have k193 : zq_k X (zq_r X h0 14) = 29 := zq_lk L.1 k_h0 rfl (by decide)
        refine lv_iload hx hb dX3_blocksWished_30 (lv_at hl 0 rfl) ?_
        refine zq_ian (n := 12) (j := (j186.toNatClampNeg)) E hZ hM k193 ⟨by decide, rfl⟩ ⟨by omega, by omega⟩ rfl dX3_blocksWished_32 (fun x194 ex194 gx194 => ?_)
        clear gx194
        have J57 : ∀ (H : Heap) (locs : List Loc) (ls : Array Slot), (zq_hm X (zk, zn) I H) → (va_S (zq_A X) s.heap H locs) → (lv_has ls 5 [(4, .int j186), (0, .ref h0), (1, .ref p1), (2, .int p2), (3, .int p3)]) → W p l e R s m args below meth c H locs 0 0 Q (F0 m 57 ls []) := by
          intro H locs ls hM hS hl
          refine lv_aload_n hx hb dX3_blocksWished_57 rfl (lv_at hl 1 rfl) ?_
          refine lv_aload_n hx hb dX3_blocksWished_58 rfl (lv_at hl 1 rfl) ?_
          refine zq_getr E hM k_h0 (zFX3_39 E hZ) ⟨by decide, by decide, by decide, rfl⟩ dX3_blocksWished_59 ?_
          have k209 : zq_k X (zq_r X h0 11) = 28 := zq_lk L.1 k_h0 rfl (by decide)
          refine lv_iload hx hb dX3_blocksWished_62 (lv_at hl 0 rfl) ?_
          refine zq_ian (n := 12) (j := (j186.toNatClampNeg)) E hZ hM k209 ⟨by decide, rfl⟩ ⟨by omega, by omega⟩ rfl dX3_blocksWished_64 (fun x210 ex210 gx210 => ?_)
          replace gx210 : 0 ≤ x210.toInt ∧ x210.toInt ≤ 2147483647 := gx210
          refine lv_aload_n hx hb dX3_blocksWished_65 rfl (lv_at hl 1 rfl) ?_
          refine zq_getr E hM k_h0 (zFX3_42 E hZ) ⟨by decide, by decide, by decide, rfl⟩ dX3_blocksWished_66 ?_
          have k211 : zq_k X (zq_r X h0 12) = 29 := zq_lk L.1 k_h0 rfl (by decide)
          refine lv_iload hx hb dX3_blocksWished_69 (lv_at hl 0 rfl) ?_
          refine zq_ian (n := 12) (j := (j186.toNatClampNeg)) E hZ hM k211 ⟨by decide, rfl⟩ ⟨by omega, by omega⟩ rfl dX3_blocksWished_71 (fun x212 ex212 gx212 => ?_)
          clear gx212
          refine W.eq (g2 := F0 m 72 ls [.int x212, .int x210, .ref h0]) rfl ?_
          refine zq_pcalll (zq_rV (As := [.int x210, .int x212]) (rest := []) E hZ hM k_h0 (c_X3_sumOf l X zk (zn) I L h0 k_h0 x210 x212 ⟨by have := zi_rng x210; omega, by have := zi_rng x210; omega⟩) zmX3_72 zM_X3_sumOf (hro (0) 12 (by first | decide | omega) (by decide)) ⟨by decide, by decide⟩ rfl hl.1 rfl rfl (Nat.le_of_ble_eq_true rfl) dX3_blocksWished_72) hS (fun y214 H locs h213 hM hS => ?_)
          clear h213
          subst hQ
          exact zq_lret E hr hZ hM hS ⟨rfl, trivial⟩ hlocks dX3_blocksWished_75
        refine lv_icmp_eq (tgt := 57) hx hb dX3_blocksWished_33 (by decide) (fun b215 => ?_) (fun b215 => ?_)
        · have b215 := zi_eq b215 (rfl : x192.toInt = x192.toInt) (rfl : x194.toInt = x194.toInt)
          exact J57 H locs ls hM hS (lv_sub hl [0, 1, 2, 3, 4] rfl)
        · have b215 := zi_ne b215 (rfl : x192.toInt = x192.toInt) (rfl : x194.toInt = x194.toInt)
          refine lv_aload_n hx hb dX3_blocksWished_36 rfl (lv_at hl 1 rfl) ?_
          refine lv_aload_n hx hb dX3_blocksWished_37 rfl (lv_at hl 1 rfl) ?_
          refine zq_getr E hM k_h0 (zFX3_45 E hZ) ⟨by decide, by decide, by decide, rfl⟩ dX3_blocksWished_38 ?_
          have k216 : zq_k X (zq_r X h0 13) = 28 := zq_lk L.1 k_h0 rfl (by decide)
          refine lv_iload hx hb dX3_blocksWished_41 (lv_at hl 0 rfl) ?_
          refine zq_iald (n := 12) (j := (j186.toNatClampNeg)) (v := x192) E hZ hM k216 ⟨by decide, rfl⟩ ⟨by omega, by omega⟩ rfl ex192 dX3_blocksWished_43 ?_
          refine lv_aload_n hx hb dX3_blocksWished_44 rfl (lv_at hl 1 rfl) ?_
          refine zq_getr E hM k_h0 (zFX3_48 E hZ) ⟨by decide, by decide, by decide, rfl⟩ dX3_blocksWished_45 ?_
          have k218 : zq_k X (zq_r X h0 14) = 29 := zq_lk L.1 k_h0 rfl (by decide)
          refine lv_iload hx hb dX3_blocksWished_48 (lv_at hl 0 rfl) ?_
          refine zq_iald (n := 12) (j := (j186.toNatClampNeg)) (v := x194) E hZ hM k218 ⟨by decide, rfl⟩ ⟨by omega, by omega⟩ rfl ex194 dX3_blocksWished_50 ?_
          refine W.eq (g2 := F0 m 51 ls [.int x194, .int x192, .ref h0]) rfl ?_
          refine zq_pcalli (zq_rV (As := [.int x192, .int x194]) (rest := []) E hZ hM k_h0 (c_X3_holds l X zk (zn) I L h0 k_h0 x192 x194 ⟨by have := zi_rng x192; omega, by have := zi_rng x192; omega⟩) zmX3_68 zM_X3_holds (hro (1) 11 (by first | decide | omega) (by decide)) ⟨by decide, by decide⟩ rfl hl.1 rfl rfl (Nat.le_of_ble_eq_true rfl) dX3_blocksWished_51) hS (fun x221 H locs h220 hM hS => ?_)
          have p222 := h220
          refine lv_if_eq (tgt := 76) hx hb dX3_blocksWished_54 (by decide) (fun b223 => ?_) (fun b223 => ?_)
          · have b223 := zi_eq b223 (rfl : x221.toInt = x221.toInt) (zl_0 : (0 : Int32).toInt = 0)
            obtain ⟨x224, ex224⟩ : ∃ y : Int32, y = j186 + 1 := ⟨_, rfl⟩
            have tx224 := zi_add ex224 (rfl : j186.toInt = j186.toInt) zl_1 ⟨by omega, by omega⟩
            refine lv_iinc (v := x224) (lv' := [(4, .int x224), (0, .ref h0), (1, .ref p1), (2, .int p2), (3, .int p3)]) hx hb dX3_blocksWished_76 hl (k := 0) rfl (by rw [ex224]; rfl) (by decide) rfl (fun ls hl => ?_)
            refine lv_goto (tgt := 10) hx hb dX3_blocksWished_79 (by decide) ?_
            exact ih10 H locs ls x224 (by omega) hM hS (⟨by omega, by omega⟩) (lv_sub hl [0, 1, 2, 3, 4] rfl)
          · have b223 := zi_ne b223 (rfl : x221.toInt = x221.toInt) (zl_0 : (0 : Int32).toInt = 0)
            exact J57 H locs ls hM hS (lv_sub hl [0, 1, 2, 3, 4] rfl)
  exact J10 (12 + 1 - (0 : Int32).toInt).toNat H locs ls (0 : Int32) (by omega) hM hS (by rw [zl_0]; decide) (lv_sub hl [0, 1, 2, 3, 4] rfl)
