set_option maxHeartbeats 8000000 in
set_option maxRecDepth 100000 in
theorem c_X10_hasRoomForShip (l : Launch) (X : zq_X) (zk zn : Nat) (I : zq_M) (L : zq_L X)  (h0 : Nat) (k_h0 : zq_k X h0 = 8)  : Met l yX10_hasRoomForShip (zt_w yX10_hasRoomForShip cX10_hasRoomForShip 1 (some .boolean)) (zq_rm (0)) (va_Pc [.ref h0] (zq_W X (zk, zn) I)) (va_Qi (fun (r : Int32) I2 => I2 = I ∧ (r.toInt = 0 ∨ (I h0 5).toInt ≤ 2) ∧ (0 ≤ r.toInt ∧ r.toInt ≤ 1)) (zq_E X (zk, zn)) (zq_A X)) 0 0 (zq_A X) := by
  refine Met.ofW (cc := cX10_hasRoomForShip) (maxL := 1) (ret := (some .boolean)) (by decide) rfl ?_
  intro p e s m args below meth c s₁ B hml hv
  obtain ⟨hargs, hM, hZ⟩ := hv
  have hown : s.vm.findClass RX10 = some m.cls := findClass_of_methodNamed B.named
  have hts := atoms_spec (ws := zt_w yX10_hasRoomForShip cX10_hasRoomForShip 1 (some .boolean)) B.pre
  have E : CallFix p m c cX10_hasRoomForShip 1 s args (Cond.code yX10_hasRoomForShip cX10_hasRoomForShip 1 (some .boolean) :: zt) RX10 := ⟨B.exec, B.bytes, hml, hown, hts⟩
  have hx := B.exec
  have hb := B.bytes
  have hr := B.returns
  have hlocks := B.notSynchronized
  clear B
  have hS : va_S (zq_A X) s.heap s.heap [] := va_S.rf
  have hl := lv_entry ([.ref h0]) (n := 1) (by exact Nat.le_of_ble_eq_true rfl)
  have hg : entryFrame m args 1 = F0 m 0 ((lg_sl ([.ref h0]) ++ List.replicate (1 - (lg_sl ([.ref h0])).length) Slot.unset).toArray) [] := by rw [hargs]; exact lg_entry_eq m ([.ref h0]) 1
  rw [hg]
  clear hg hargs
  generalize (lg_sl ([.ref h0]) ++ List.replicate (1 - (lg_sl ([.ref h0])).length) Slot.unset).toArray = ls at hl ⊢
  have hl : lv_has ls 1 [(0, .ref h0)] := by exact hl
  obtain ⟨R, hRm⟩ : ∃ R : Room, R = (headSpec (zt_w yX10_hasRoomForShip cX10_hasRoomForShip 1 (some .boolean)) (zq_rm (0))).room := ⟨_, rfl⟩
  rw [← hRm]
  generalize hQ : MQ below _ args s 0 0 (zq_A X) = Q
  obtain ⟨H, hH⟩ : ∃ H, H = s.heap := ⟨_, rfl⟩
  obtain ⟨locs, hlo⟩ : ∃ x : List Loc, x = [] := ⟨_, rfl⟩
  rw [show W p l e R s m args below meth c s.heap [] 0 0 Q = W p l e R s m args below meth c H locs 0 0 Q by rw [hH, hlo]]
  have hM : zq_hm X (zk, zn) I H := by rw [hH]; exact hM
  have hS : va_S (zq_A X) s.heap H locs := by rw [hH, hlo]; exact hS
  clear hH hlo
  refine lv_aload_n hx hb dX10_hasRoomForShip_0 rfl (lv_at hl 0 rfl) ?_
  refine zq_gn E hM k_h0 (zFX10_46 E hZ) (Or.inl ⟨by decide, by decide, by decide, rfl⟩) dX10_hasRoomForShip_1 (fun x101 ex101 gx101 => ?_)
  replace gx101 : 0 ≤ x101.toInt ∧ x101.toInt ≤ 3 := gx101
  refine lv_if_lt (tgt := 19) hx hb dX10_hasRoomForShip_4 (by decide) (fun b102 => ?_) (fun b102 => ?_)
  · have b102 := zi_lt b102 (rfl : x101.toInt = x101.toInt) (zl_0 : (0 : Int32).toInt = 0)
    exfalso; omega
  · have b102 := zi_nlt b102 (rfl : x101.toInt = x101.toInt) (zl_0 : (0 : Int32).toInt = 0)
    refine lv_aload_n hx hb dX10_hasRoomForShip_7 rfl (lv_at hl 0 rfl) ?_
    refine zq_gk (v := x101) E hM k_h0 (zFX10_46 E hZ) (Or.inl ⟨by decide, by decide, by decide, rfl⟩) ex101 dX10_hasRoomForShip_8 ?_
    refine lv_iconst (v := 3) hx hb dX10_hasRoomForShip_11 (by decide +kernel) ?_
    refine lv_icmp_ge (tgt := 19) hx hb dX10_hasRoomForShip_12 (by decide) (fun b103 => ?_) (fun b103 => ?_)
    · have b103 := zi_le b103 (zl_3 : (3 : Int32).toInt = 3) (rfl : x101.toInt = x101.toInt)
      refine lv_iconst (v := 0) hx hb dX10_hasRoomForShip_19 (by decide +kernel) ?_
      subst hQ
      exact zq_zret E hr hZ hM hS (show 0 ≤ (0 : Int32).toInt ∧ (0 : Int32).toInt ≤ 1 by decide +kernel) ⟨rfl, (by have := zl_0; rw [ex101]; omega), (by have := zl_0; omega)⟩ hlocks dX10_hasRoomForShip_20
    · have b103 := zi_nle b103 (zl_3 : (3 : Int32).toInt = 3) (rfl : x101.toInt = x101.toInt)
      refine lv_iconst (v := 1) hx hb dX10_hasRoomForShip_15 (by decide +kernel) ?_
      refine lv_goto (tgt := 20) hx hb dX10_hasRoomForShip_16 (by decide) ?_
      subst hQ
      exact zq_zret E hr hZ hM hS (show 0 ≤ (1 : Int32).toInt ∧ (1 : Int32).toInt ≤ 1 by decide +kernel) ⟨rfl, (by have := zl_1; rw [ex101]; omega), (by have := zl_1; omega)⟩ hlocks dX10_hasRoomForShip_20
set_option maxHeartbeats 8000000 in
set_option maxRecDepth 100000 in
theorem c_X10_hasRoomForTown (l : Launch) (X : zq_X) (zk zn : Nat) (I : zq_M) (L : zq_L X)  (h0 : Nat) (k_h0 : zq_k X h0 = 8)  : Met l yX10_hasRoomForTown (zt_w yX10_hasRoomForTown cX10_hasRoomForTown 1 (some .boolean)) (zq_rm (0)) (va_Pc [.ref h0] (zq_W X (zk, zn) I)) (va_Qi (fun (r : Int32) I2 => I2 = I ∧ (r.toInt = 0 ∨ (I h0 6).toInt ≤ 3) ∧ (0 ≤ r.toInt ∧ r.toInt ≤ 1)) (zq_E X (zk, zn)) (zq_A X)) 0 0 (zq_A X) := by
  refine Met.ofW (cc := cX10_hasRoomForTown) (maxL := 1) (ret := (some .boolean)) (by decide) rfl ?_
  intro p e s m args below meth c s₁ B hml hv
  obtain ⟨hargs, hM, hZ⟩ := hv
  have hown : s.vm.findClass RX10 = some m.cls := findClass_of_methodNamed B.named
  have hts := atoms_spec (ws := zt_w yX10_hasRoomForTown cX10_hasRoomForTown 1 (some .boolean)) B.pre
  have E : CallFix p m c cX10_hasRoomForTown 1 s args (Cond.code yX10_hasRoomForTown cX10_hasRoomForTown 1 (some .boolean) :: zt) RX10 := ⟨B.exec, B.bytes, hml, hown, hts⟩
  have hx := B.exec
  have hb := B.bytes
  have hr := B.returns
  have hlocks := B.notSynchronized
  clear B
  have hS : va_S (zq_A X) s.heap s.heap [] := va_S.rf
  have hl := lv_entry ([.ref h0]) (n := 1) (by exact Nat.le_of_ble_eq_true rfl)
  have hg : entryFrame m args 1 = F0 m 0 ((lg_sl ([.ref h0]) ++ List.replicate (1 - (lg_sl ([.ref h0])).length) Slot.unset).toArray) [] := by rw [hargs]; exact lg_entry_eq m ([.ref h0]) 1
  rw [hg]
  clear hg hargs
  generalize (lg_sl ([.ref h0]) ++ List.replicate (1 - (lg_sl ([.ref h0])).length) Slot.unset).toArray = ls at hl ⊢
  have hl : lv_has ls 1 [(0, .ref h0)] := by exact hl
  obtain ⟨R, hRm⟩ : ∃ R : Room, R = (headSpec (zt_w yX10_hasRoomForTown cX10_hasRoomForTown 1 (some .boolean)) (zq_rm (0))).room := ⟨_, rfl⟩
  rw [← hRm]
  generalize hQ : MQ below _ args s 0 0 (zq_A X) = Q
  obtain ⟨H, hH⟩ : ∃ H, H = s.heap := ⟨_, rfl⟩
  obtain ⟨locs, hlo⟩ : ∃ x : List Loc, x = [] := ⟨_, rfl⟩
  rw [show W p l e R s m args below meth c s.heap [] 0 0 Q = W p l e R s m args below meth c H locs 0 0 Q by rw [hH, hlo]]
  have hM : zq_hm X (zk, zn) I H := by rw [hH]; exact hM
  have hS : va_S (zq_A X) s.heap H locs := by rw [hH, hlo]; exact hS
  clear hH hlo
  refine lv_aload_n hx hb dX10_hasRoomForTown_0 rfl (lv_at hl 0 rfl) ?_
  refine zq_gn E hM k_h0 (zFX10_49 E hZ) (Or.inl ⟨by decide, by decide, by decide, rfl⟩) dX10_hasRoomForTown_1 (fun x101 ex101 gx101 => ?_)
  replace gx101 : 0 ≤ x101.toInt ∧ x101.toInt ≤ 4 := gx101
  refine lv_if_lt (tgt := 19) hx hb dX10_hasRoomForTown_4 (by decide) (fun b102 => ?_) (fun b102 => ?_)
  · have b102 := zi_lt b102 (rfl : x101.toInt = x101.toInt) (zl_0 : (0 : Int32).toInt = 0)
    exfalso; omega
  · have b102 := zi_nlt b102 (rfl : x101.toInt = x101.toInt) (zl_0 : (0 : Int32).toInt = 0)
    refine lv_aload_n hx hb dX10_hasRoomForTown_7 rfl (lv_at hl 0 rfl) ?_
    refine zq_gk (v := x101) E hM k_h0 (zFX10_49 E hZ) (Or.inl ⟨by decide, by decide, by decide, rfl⟩) ex101 dX10_hasRoomForTown_8 ?_
    refine lv_iconst (v := 4) hx hb dX10_hasRoomForTown_11 (by decide +kernel) ?_
    refine lv_icmp_ge (tgt := 19) hx hb dX10_hasRoomForTown_12 (by decide) (fun b103 => ?_) (fun b103 => ?_)
    · have b103 := zi_le b103 (zl_4 : (4 : Int32).toInt = 4) (rfl : x101.toInt = x101.toInt)
      refine lv_iconst (v := 0) hx hb dX10_hasRoomForTown_19 (by decide +kernel) ?_
      subst hQ
      exact zq_zret E hr hZ hM hS (show 0 ≤ (0 : Int32).toInt ∧ (0 : Int32).toInt ≤ 1 by decide +kernel) ⟨rfl, (by have := zl_0; rw [ex101]; omega), (by have := zl_0; omega)⟩ hlocks dX10_hasRoomForTown_20
    · have b103 := zi_nle b103 (zl_4 : (4 : Int32).toInt = 4) (rfl : x101.toInt = x101.toInt)
      refine lv_iconst (v := 1) hx hb dX10_hasRoomForTown_15 (by decide +kernel) ?_
      refine lv_goto (tgt := 20) hx hb dX10_hasRoomForTown_16 (by decide) ?_
      subst hQ
      exact zq_zret E hr hZ hM hS (show 0 ≤ (1 : Int32).toInt ∧ (1 : Int32).toInt ≤ 1 by decide +kernel) ⟨rfl, (by have := zl_1; rw [ex101]; omega), (by have := zl_1; omega)⟩ hlocks dX10_hasRoomForTown_20
set_option maxHeartbeats 8000000 in
set_option maxRecDepth 100000 in
theorem c_X10_hasShip (l : Launch) (X : zq_X) (zk zn : Nat) (I : zq_M) (L : zq_L X)  (h0 : Nat) (k_h0 : zq_k X h0 = 8) (p1 : Int32)  : Met l yX10_hasShip (zt_w yX10_hasShip cX10_hasShip 2 (some .boolean)) (zq_rm (0)) (va_Pc [.ref h0, .int p1] (zq_W X (zk, zn) I)) (va_Qi (fun (r : Int32) I2 => I2 = I ∧ (0 ≤ r.toInt ∧ r.toInt ≤ 1) ∧ (r.toInt = 0 ∨ (0 ≤ p1.toInt ∧ p1.toInt ≤ 2))) (zq_E X (zk, zn)) (zq_A X)) 0 0 (zq_A X) := by
  refine Met.ofW (cc := cX10_hasShip) (maxL := 2) (ret := (some .boolean)) (by decide) rfl ?_
  intro p e s m args below meth c s₁ B hml hv
  obtain ⟨hargs, hM, hZ⟩ := hv
  have hown : s.vm.findClass RX10 = some m.cls := findClass_of_methodNamed B.named
  have hts := atoms_spec (ws := zt_w yX10_hasShip cX10_hasShip 2 (some .boolean)) B.pre
  have E : CallFix p m c cX10_hasShip 2 s args (Cond.code yX10_hasShip cX10_hasShip 2 (some .boolean) :: zt) RX10 := ⟨B.exec, B.bytes, hml, hown, hts⟩
  have hx := B.exec
  have hb := B.bytes
  have hr := B.returns
  have hlocks := B.notSynchronized
  clear B
  have hS : va_S (zq_A X) s.heap s.heap [] := va_S.rf
  have hl := lv_entry ([.ref h0, .int p1]) (n := 2) (by exact Nat.le_of_ble_eq_true rfl)
  have hg : entryFrame m args 2 = F0 m 0 ((lg_sl ([.ref h0, .int p1]) ++ List.replicate (2 - (lg_sl ([.ref h0, .int p1])).length) Slot.unset).toArray) [] := by rw [hargs]; exact lg_entry_eq m ([.ref h0, .int p1]) 2
  rw [hg]
  clear hg hargs
  generalize (lg_sl ([.ref h0, .int p1]) ++ List.replicate (2 - (lg_sl ([.ref h0, .int p1])).length) Slot.unset).toArray = ls at hl ⊢
  have hl : lv_has ls 2 [(0, .ref h0), (1, .int p1)] := by exact hl
  obtain ⟨R, hRm⟩ : ∃ R : Room, R = (headSpec (zt_w yX10_hasShip cX10_hasShip 2 (some .boolean)) (zq_rm (0))).room := ⟨_, rfl⟩
  rw [← hRm]
  generalize hQ : MQ below _ args s 0 0 (zq_A X) = Q
  obtain ⟨H, hH⟩ : ∃ H, H = s.heap := ⟨_, rfl⟩
  obtain ⟨locs, hlo⟩ : ∃ x : List Loc, x = [] := ⟨_, rfl⟩
  rw [show W p l e R s m args below meth c s.heap [] 0 0 Q = W p l e R s m args below meth c H locs 0 0 Q by rw [hH, hlo]]
  have hM : zq_hm X (zk, zn) I H := by rw [hH]; exact hM
  have hS : va_S (zq_A X) s.heap H locs := by rw [hH, hlo]; exact hS
  clear hH hlo
  refine lv_iload_n hx hb dX10_hasShip_0 rfl (lv_at hl 1 rfl) ?_
  refine lv_if_lt (tgt := 16) hx hb dX10_hasShip_1 (by decide) (fun b101 => ?_) (fun b101 => ?_)
  · have b101 := zi_lt b101 (rfl : p1.toInt = p1.toInt) (zl_0 : (0 : Int32).toInt = 0)
    refine lv_iconst (v := 0) hx hb dX10_hasShip_16 (by decide +kernel) ?_
    subst hQ
    exact zq_zret E hr hZ hM hS (show 0 ≤ (0 : Int32).toInt ∧ (0 : Int32).toInt ≤ 1 by decide +kernel) ⟨rfl, (by have := zl_0; omega), (by have := zl_0; omega)⟩ hlocks dX10_hasShip_17
  · have b101 := zi_nlt b101 (rfl : p1.toInt = p1.toInt) (zl_0 : (0 : Int32).toInt = 0)
    refine lv_iload_n hx hb dX10_hasShip_4 rfl (lv_at hl 1 rfl) ?_
    refine lv_aload_n hx hb dX10_hasShip_5 rfl (lv_at hl 0 rfl) ?_
    refine zq_gn E hM k_h0 (zFX10_46 E hZ) (Or.inl ⟨by decide, by decide, by decide, rfl⟩) dX10_hasShip_6 (fun x102 ex102 gx102 => ?_)
    replace gx102 : 0 ≤ x102.toInt ∧ x102.toInt ≤ 3 := gx102
    refine lv_icmp_ge (tgt := 16) hx hb dX10_hasShip_9 (by decide) (fun b103 => ?_) (fun b103 => ?_)
    · have b103 := zi_le b103 (rfl : x102.toInt = x102.toInt) (rfl : p1.toInt = p1.toInt)
      refine lv_iconst (v := 0) hx hb dX10_hasShip_16 (by decide +kernel) ?_
      subst hQ
      exact zq_zret E hr hZ hM hS (show 0 ≤ (0 : Int32).toInt ∧ (0 : Int32).toInt ≤ 1 by decide +kernel) ⟨rfl, (by have := zl_0; omega), (by have := zl_0; omega)⟩ hlocks dX10_hasShip_17
    · have b103 := zi_nle b103 (rfl : x102.toInt = x102.toInt) (rfl : p1.toInt = p1.toInt)
      refine lv_iconst (v := 1) hx hb dX10_hasShip_12 (by decide +kernel) ?_
      refine lv_goto (tgt := 17) hx hb dX10_hasShip_13 (by decide) ?_
      subst hQ
      exact zq_zret E hr hZ hM hS (show 0 ≤ (1 : Int32).toInt ∧ (1 : Int32).toInt ≤ 1 by decide +kernel) ⟨rfl, (by have := zl_1; omega), (by have := zl_1; omega)⟩ hlocks dX10_hasShip_17
set_option maxHeartbeats 8000000 in
set_option maxRecDepth 100000 in
theorem c_X10_hasTown (l : Launch) (X : zq_X) (zk zn : Nat) (I : zq_M) (L : zq_L X)  (h0 : Nat) (k_h0 : zq_k X h0 = 8) (p1 : Int32)  : Met l yX10_hasTown (zt_w yX10_hasTown cX10_hasTown 2 (some .boolean)) (zq_rm (0)) (va_Pc [.ref h0, .int p1] (zq_W X (zk, zn) I)) (va_Qi (fun (r : Int32) I2 => I2 = I ∧ (r.toInt = 0 ∨ p1.toInt < (I h0 6).toInt) ∧ (0 ≤ r.toInt ∧ r.toInt ≤ 1) ∧ (r.toInt = 0 ∨ (0 ≤ p1.toInt ∧ p1.toInt ≤ 3))) (zq_E X (zk, zn)) (zq_A X)) 0 0 (zq_A X) := by
  refine Met.ofW (cc := cX10_hasTown) (maxL := 2) (ret := (some .boolean)) (by decide) rfl ?_
  intro p e s m args below meth c s₁ B hml hv
  obtain ⟨hargs, hM, hZ⟩ := hv
  have hown : s.vm.findClass RX10 = some m.cls := findClass_of_methodNamed B.named
  have hts := atoms_spec (ws := zt_w yX10_hasTown cX10_hasTown 2 (some .boolean)) B.pre
  have E : CallFix p m c cX10_hasTown 2 s args (Cond.code yX10_hasTown cX10_hasTown 2 (some .boolean) :: zt) RX10 := ⟨B.exec, B.bytes, hml, hown, hts⟩
  have hx := B.exec
  have hb := B.bytes
  have hr := B.returns
  have hlocks := B.notSynchronized
  clear B
  have hS : va_S (zq_A X) s.heap s.heap [] := va_S.rf
  have hl := lv_entry ([.ref h0, .int p1]) (n := 2) (by exact Nat.le_of_ble_eq_true rfl)
  have hg : entryFrame m args 2 = F0 m 0 ((lg_sl ([.ref h0, .int p1]) ++ List.replicate (2 - (lg_sl ([.ref h0, .int p1])).length) Slot.unset).toArray) [] := by rw [hargs]; exact lg_entry_eq m ([.ref h0, .int p1]) 2
  rw [hg]
  clear hg hargs
  generalize (lg_sl ([.ref h0, .int p1]) ++ List.replicate (2 - (lg_sl ([.ref h0, .int p1])).length) Slot.unset).toArray = ls at hl ⊢
  have hl : lv_has ls 2 [(0, .ref h0), (1, .int p1)] := by exact hl
  obtain ⟨R, hRm⟩ : ∃ R : Room, R = (headSpec (zt_w yX10_hasTown cX10_hasTown 2 (some .boolean)) (zq_rm (0))).room := ⟨_, rfl⟩
  rw [← hRm]
  generalize hQ : MQ below _ args s 0 0 (zq_A X) = Q
  obtain ⟨H, hH⟩ : ∃ H, H = s.heap := ⟨_, rfl⟩
  obtain ⟨locs, hlo⟩ : ∃ x : List Loc, x = [] := ⟨_, rfl⟩
  rw [show W p l e R s m args below meth c s.heap [] 0 0 Q = W p l e R s m args below meth c H locs 0 0 Q by rw [hH, hlo]]
  have hM : zq_hm X (zk, zn) I H := by rw [hH]; exact hM
  have hS : va_S (zq_A X) s.heap H locs := by rw [hH, hlo]; exact hS
  clear hH hlo
  refine lv_iload_n hx hb dX10_hasTown_0 rfl (lv_at hl 1 rfl) ?_
  refine lv_if_lt (tgt := 16) hx hb dX10_hasTown_1 (by decide) (fun b101 => ?_) (fun b101 => ?_)
  · have b101 := zi_lt b101 (rfl : p1.toInt = p1.toInt) (zl_0 : (0 : Int32).toInt = 0)
    refine lv_iconst (v := 0) hx hb dX10_hasTown_16 (by decide +kernel) ?_
    subst hQ
    exact zq_zret E hr hZ hM hS (show 0 ≤ (0 : Int32).toInt ∧ (0 : Int32).toInt ≤ 1 by decide +kernel) ⟨rfl, (by have := zl_0; omega), (by have := zl_0; omega), (by have := zl_0; omega)⟩ hlocks dX10_hasTown_17
  · have b101 := zi_nlt b101 (rfl : p1.toInt = p1.toInt) (zl_0 : (0 : Int32).toInt = 0)
    refine lv_iload_n hx hb dX10_hasTown_4 rfl (lv_at hl 1 rfl) ?_
    refine lv_aload_n hx hb dX10_hasTown_5 rfl (lv_at hl 0 rfl) ?_
    refine zq_gn E hM k_h0 (zFX10_49 E hZ) (Or.inl ⟨by decide, by decide, by decide, rfl⟩) dX10_hasTown_6 (fun x102 ex102 gx102 => ?_)
    replace gx102 : 0 ≤ x102.toInt ∧ x102.toInt ≤ 4 := gx102
    refine lv_icmp_ge (tgt := 16) hx hb dX10_hasTown_9 (by decide) (fun b103 => ?_) (fun b103 => ?_)
    · have b103 := zi_le b103 (rfl : x102.toInt = x102.toInt) (rfl : p1.toInt = p1.toInt)
      refine lv_iconst (v := 0) hx hb dX10_hasTown_16 (by decide +kernel) ?_
      subst hQ
      exact zq_zret E hr hZ hM hS (show 0 ≤ (0 : Int32).toInt ∧ (0 : Int32).toInt ≤ 1 by decide +kernel) ⟨rfl, (by have := zl_0; rw [ex102]; omega), (by have := zl_0; omega), (by have := zl_0; omega)⟩ hlocks dX10_hasTown_17
    · have b103 := zi_nle b103 (rfl : x102.toInt = x102.toInt) (rfl : p1.toInt = p1.toInt)
      refine lv_iconst (v := 1) hx hb dX10_hasTown_12 (by decide +kernel) ?_
      refine lv_goto (tgt := 17) hx hb dX10_hasTown_13 (by decide) ?_
      subst hQ
      exact zq_zret E hr hZ hM hS (show 0 ≤ (1 : Int32).toInt ∧ (1 : Int32).toInt ≤ 1 by decide +kernel) ⟨rfl, (by have := zl_1; rw [ex102]; omega), (by have := zl_1; omega), (by have := zl_1; omega)⟩ hlocks dX10_hasTown_17
set_option maxHeartbeats 8000000 in
set_option maxRecDepth 100000 in
theorem c_X10_isAtHome (l : Launch) (X : zq_X) (zk zn : Nat) (I : zq_M) (L : zq_L X)  (h0 : Nat) (k_h0 : zq_k X h0 = 8) (p1 : Int32)  : Met l yX10_isAtHome (zt_w yX10_isAtHome cX10_isAtHome 2 (some .boolean)) (zq_rm (1)) (va_Pc [.ref h0, .int p1] (zq_W X (zk, zn) I)) (va_Qi (fun (r : Int32) I2 => I2 = I ∧ (0 ≤ r.toInt ∧ r.toInt ≤ 1) ∧ (r.toInt = 0 ∨ (0 ≤ p1.toInt ∧ p1.toInt ≤ 2))) (zq_E X (zk, zn)) (zq_A X)) 0 0 (zq_A X) := by
  refine Met.ofW (cc := cX10_isAtHome) (maxL := 2) (ret := (some .boolean)) (by decide) rfl ?_
  intro p e s m args below meth c s₁ B hml hv
  obtain ⟨hargs, hM, hZ⟩ := hv
  have hown : s.vm.findClass RX10 = some m.cls := findClass_of_methodNamed B.named
  have hts := atoms_spec (ws := zt_w yX10_isAtHome cX10_isAtHome 2 (some .boolean)) B.pre
  have E : CallFix p m c cX10_isAtHome 2 s args (Cond.code yX10_isAtHome cX10_isAtHome 2 (some .boolean) :: zt) RX10 := ⟨B.exec, B.bytes, hml, hown, hts⟩
  have hx := B.exec
  have hb := B.bytes
  have hr := B.returns
  have hlocks := B.notSynchronized
  clear B
  have hS : va_S (zq_A X) s.heap s.heap [] := va_S.rf
  have hl := lv_entry ([.ref h0, .int p1]) (n := 2) (by exact Nat.le_of_ble_eq_true rfl)
  have hg : entryFrame m args 2 = F0 m 0 ((lg_sl ([.ref h0, .int p1]) ++ List.replicate (2 - (lg_sl ([.ref h0, .int p1])).length) Slot.unset).toArray) [] := by rw [hargs]; exact lg_entry_eq m ([.ref h0, .int p1]) 2
  rw [hg]
  clear hg hargs
  generalize (lg_sl ([.ref h0, .int p1]) ++ List.replicate (2 - (lg_sl ([.ref h0, .int p1])).length) Slot.unset).toArray = ls at hl ⊢
  have hl : lv_has ls 2 [(0, .ref h0), (1, .int p1)] := by exact hl
  obtain ⟨R, hRm⟩ : ∃ R : Room, R = (headSpec (zt_w yX10_isAtHome cX10_isAtHome 2 (some .boolean)) (zq_rm (1))).room := ⟨_, rfl⟩
  rw [← hRm]
  have hro : ∀ d q : Nat, d + 1 ≤ 1 → q ≤ 45 → zq_rok d q R := fun d q h1 h2 => by rw [hRm]; exact zq_rokI h1 h2
  generalize hQ : MQ below _ args s 0 0 (zq_A X) = Q
  obtain ⟨H, hH⟩ : ∃ H, H = s.heap := ⟨_, rfl⟩
  obtain ⟨locs, hlo⟩ : ∃ x : List Loc, x = [] := ⟨_, rfl⟩
  rw [show W p l e R s m args below meth c s.heap [] 0 0 Q = W p l e R s m args below meth c H locs 0 0 Q by rw [hH, hlo]]
  have hM : zq_hm X (zk, zn) I H := by rw [hH]; exact hM
  have hS : va_S (zq_A X) s.heap H locs := by rw [hH, hlo]; exact hS
  clear hH hlo
  refine lv_aload_n hx hb dX10_isAtHome_0 rfl (lv_at hl 0 rfl) ?_
  refine lv_iload_n hx hb dX10_isAtHome_1 rfl (lv_at hl 1 rfl) ?_
  refine zq_pcalli (zq_rV (As := [.int p1]) (rest := []) E hZ hM k_h0 (c_X10_hasShip l X zk (zn) I L h0 k_h0 p1) zmX10_68 zM_X10_hasShip (hro (0) 2 (by first | decide | omega) (by decide)) ⟨by decide, by decide⟩ rfl hl.1 rfl rfl (Nat.le_of_ble_eq_true rfl) dX10_isAtHome_2) hS (fun x102 H locs h101 hM hS => ?_)
  obtain ⟨p103, p104⟩ := h101
  refine lv_if_eq (tgt := 24) hx hb dX10_isAtHome_5 (by decide) (fun b105 => ?_) (fun b105 => ?_)
  · have b105 := zi_eq b105 (rfl : x102.toInt = x102.toInt) (zl_0 : (0 : Int32).toInt = 0)
    refine lv_iconst (v := 0) hx hb dX10_isAtHome_24 (by decide +kernel) ?_
    subst hQ
    exact zq_zret E hr hZ hM hS (show 0 ≤ (0 : Int32).toInt ∧ (0 : Int32).toInt ≤ 1 by decide +kernel) ⟨rfl, (by have := zl_0; omega), (by have := zl_0; omega)⟩ hlocks dX10_isAtHome_25
  · have b105 := zi_ne b105 (rfl : x102.toInt = x102.toInt) (zl_0 : (0 : Int32).toInt = 0)
    refine lv_aload_n hx hb dX10_isAtHome_8 rfl (lv_at hl 0 rfl) ?_
    refine zq_getr E hM k_h0 (zFX10_17 E hZ) ⟨by decide, by decide, by decide, rfl⟩ dX10_isAtHome_9 ?_
    have k106 : zq_k X (zq_r X h0 8) = 31 := zq_lk L.1 k_h0 rfl (by decide)
    refine lv_iload_n hx hb dX10_isAtHome_12 rfl (lv_at hl 1 rfl) ?_
    refine zq_rald (n := 3) (t := 7) (j := (p1.toNatClampNeg)) E hZ hM k106 ⟨by decide, rfl⟩ ⟨rfl, by decide, by decide⟩ ⟨by omega, by omega⟩ rfl dX10_isAtHome_13 ?_
    have k107 : zq_k X (zq_r X (zq_r X h0 8) (p1.toNatClampNeg)) = 5 := zq_lay_a L.1 k106 (n := 3) (zq_inn (i := p1) (n := 3) ⟨by omega, by omega⟩) (by decide) (by decide)
    refine zq_gn E hM k107 (zFX10_72 E hZ) (Or.inl ⟨by decide, by decide, by decide, rfl⟩) dX10_isAtHome_14 (fun x108 ex108 gx108 => ?_)
    clear gx108
    refine lv_if_ne (tgt := 24) hx hb dX10_isAtHome_17 (by decide) (fun b109 => ?_) (fun b109 => ?_)
    · have b109 := zi_ne b109 (rfl : x108.toInt = x108.toInt) (zl_0 : (0 : Int32).toInt = 0)
      refine lv_iconst (v := 0) hx hb dX10_isAtHome_24 (by decide +kernel) ?_
      subst hQ
      exact zq_zret E hr hZ hM hS (show 0 ≤ (0 : Int32).toInt ∧ (0 : Int32).toInt ≤ 1 by decide +kernel) ⟨rfl, (by have := zl_0; omega), (by have := zl_0; omega)⟩ hlocks dX10_isAtHome_25
    · have b109 := zi_eq b109 (rfl : x108.toInt = x108.toInt) (zl_0 : (0 : Int32).toInt = 0)
      refine lv_iconst (v := 1) hx hb dX10_isAtHome_20 (by decide +kernel) ?_
      refine lv_goto (tgt := 25) hx hb dX10_isAtHome_21 (by decide) ?_
      subst hQ
      exact zq_zret E hr hZ hM hS (show 0 ≤ (1 : Int32).toInt ∧ (1 : Int32).toInt ≤ 1 by decide +kernel) ⟨rfl, (by have := zl_1; omega), (by have := zl_1; omega)⟩ hlocks dX10_isAtHome_25
set_option maxHeartbeats 8000000 in
set_option maxRecDepth 100000 in
theorem c_X10_blocksFor (l : Launch) (X : zq_X) (zk zn : Nat) (I : zq_M) (L : zq_L X)  (h0 : Nat) (k_h0 : zq_k X h0 = 8) (p1 : Int32)  : Met l yX10_blocksFor (zt_w yX10_blocksFor cX10_blocksFor 4 (some .int)) (zq_rm (0)) (va_Pc [.ref h0, .int p1] (zq_W X (zk, zn) I)) (va_Qi (fun (r : Int32) I2 => I2 = I ∧ True) (zq_E X (zk, zn)) (zq_A X)) 0 0 (zq_A X) := by
  refine Met.ofW (cc := cX10_blocksFor) (maxL := 4) (ret := (some .int)) (by decide) rfl ?_
  intro p e s m args below meth c s₁ B hml hv
  obtain ⟨hargs, hM, hZ⟩ := hv
  have hown : s.vm.findClass RX10 = some m.cls := findClass_of_methodNamed B.named
  have hts := atoms_spec (ws := zt_w yX10_blocksFor cX10_blocksFor 4 (some .int)) B.pre
  have E : CallFix p m c cX10_blocksFor 4 s args (Cond.code yX10_blocksFor cX10_blocksFor 4 (some .int) :: zt) RX10 := ⟨B.exec, B.bytes, hml, hown, hts⟩
  have hx := B.exec
  have hb := B.bytes
  have hr := B.returns
  have hlocks := B.notSynchronized
  clear B
  have hS : va_S (zq_A X) s.heap s.heap [] := va_S.rf
  have hl := lv_entry ([.ref h0, .int p1]) (n := 4) (by exact Nat.le_of_ble_eq_true rfl)
  have hg : entryFrame m args 4 = F0 m 0 ((lg_sl ([.ref h0, .int p1]) ++ List.replicate (4 - (lg_sl ([.ref h0, .int p1])).length) Slot.unset).toArray) [] := by rw [hargs]; exact lg_entry_eq m ([.ref h0, .int p1]) 4
  rw [hg]
  clear hg hargs
  generalize (lg_sl ([.ref h0, .int p1]) ++ List.replicate (4 - (lg_sl ([.ref h0, .int p1])).length) Slot.unset).toArray = ls at hl ⊢
  have hl : lv_has ls 4 [(0, .ref h0), (1, .int p1)] := by exact hl
  obtain ⟨R, hRm⟩ : ∃ R : Room, R = (headSpec (zt_w yX10_blocksFor cX10_blocksFor 4 (some .int)) (zq_rm (0))).room := ⟨_, rfl⟩
  rw [← hRm]
  generalize hQ : MQ below _ args s 0 0 (zq_A X) = Q
  obtain ⟨H, hH⟩ : ∃ H, H = s.heap := ⟨_, rfl⟩
  obtain ⟨locs, hlo⟩ : ∃ x : List Loc, x = [] := ⟨_, rfl⟩
  rw [show W p l e R s m args below meth c s.heap [] 0 0 Q = W p l e R s m args below meth c H locs 0 0 Q by rw [hH, hlo]]
  have hM : zq_hm X (zk, zn) I H := by rw [hH]; exact hM
  have hS : va_S (zq_A X) s.heap H locs := by rw [hH, hlo]; exact hS
  clear hH hlo
  refine lv_iconst (v := 0) hx hb dX10_blocksFor_0 (by decide +kernel) ?_
  refine lv_istore_n (lv' := [(2, .int (0 : Int32)), (0, .ref h0), (1, .int p1)]) hx hb dX10_blocksFor_1 rfl hl (by decide) rfl (fun ls hl => ?_)
  refine lv_iconst (v := 0) hx hb dX10_blocksFor_2 (by decide +kernel) ?_
  refine lv_istore_n (lv' := [(3, .int (0 : Int32)), (2, .int (0 : Int32)), (0, .ref h0), (1, .int p1)]) hx hb dX10_blocksFor_3 rfl hl (by decide) rfl (fun ls hl => ?_)
  have J4 : ∀ (n187 : Nat) (ls : Array Slot) (j185 : Int32) (j186 : Int32), 3 + 1 - j185.toInt ≤ ((n187 : Nat) : Int) → (0 ≤ j185.toInt ∧ j185.toInt ≤ 3) → (lv_has ls 4 [(3, .int j185), (2, .int j186), (0, .ref h0), (1, .int p1)]) → W p l e R s m args below meth c H locs 0 0 Q (F0 m 4 ls []) := by
    intro n187
    induction n187 with
    | zero => intro ls j185 j186 mu188 gj185 hl; exfalso; have := zi_rng j185; omega
    | succ n187 ih4 =>
      intro ls j185 j186 mu188 gj185 hl
      refine lv_iload_n hx hb dX10_blocksFor_4 rfl (lv_at hl 0 rfl) ?_
      refine lv_aload_n hx hb dX10_blocksFor_5 rfl (lv_at hl 2 rfl) ?_
      refine zq_gn E hM k_h0 (zFX10_46 E hZ) (Or.inl ⟨by decide, by decide, by decide, rfl⟩) dX10_blocksFor_6 (fun x189 ex189 gx189 => ?_)
      replace gx189 : 0 ≤ x189.toInt ∧ x189.toInt ≤ 3 := gx189
      refine lv_icmp_ge (tgt := 43) hx hb dX10_blocksFor_9 (by decide) (fun b190 => ?_) (fun b190 => ?_)
      · have b190 := zi_le b190 (rfl : x189.toInt = x189.toInt) (rfl : j185.toInt = j185.toInt)
        refine lv_iload_n hx hb dX10_blocksFor_43 rfl (lv_at hl 1 rfl) ?_
        subst hQ
        exact zq_iret E hr hZ hM hS ⟨rfl, trivial⟩ hlocks dX10_blocksFor_44
      · have b190 := zi_nle b190 (rfl : x189.toInt = x189.toInt) (rfl : j185.toInt = j185.toInt)
        refine lv_aload_n hx hb dX10_blocksFor_12 rfl (lv_at hl 2 rfl) ?_
        refine zq_getr E hM k_h0 (zFX10_17 E hZ) ⟨by decide, by decide, by decide, rfl⟩ dX10_blocksFor_13 ?_
        have k191 : zq_k X (zq_r X h0 8) = 31 := zq_lk L.1 k_h0 rfl (by decide)
        refine lv_iload_n hx hb dX10_blocksFor_16 rfl (lv_at hl 0 rfl) ?_
        refine zq_rald (n := 3) (t := 7) (j := (j185.toNatClampNeg)) E hZ hM k191 ⟨by decide, rfl⟩ ⟨rfl, by decide, by decide⟩ ⟨by omega, by omega⟩ rfl dX10_blocksFor_17 ?_
        have k192 : zq_k X (zq_r X (zq_r X h0 8) (j185.toNatClampNeg)) = 5 := zq_lay_a L.1 k191 (n := 3) (zq_inn (i := j185) (n := 3) ⟨by omega, by omega⟩) (by decide) (by decide)
        refine zq_gn E hM k192 (zFX10_75 E hZ) (Or.inl ⟨by decide, by decide, by decide, rfl⟩) dX10_blocksFor_18 (fun x193 ex193 gx193 => ?_)
        clear gx193
        refine lv_iload_n hx hb dX10_blocksFor_21 rfl (lv_at hl 3 rfl) ?_
        have J37 : ∀ (ls : Array Slot) (j198 : Int32), (lv_has ls 4 [(3, .int j185), (2, .int j198), (0, .ref h0), (1, .int p1)]) → W p l e R s m args below meth c H locs 0 0 Q (F0 m 37 ls []) := by
          intro ls j198 hl
          obtain ⟨x200, ex200⟩ : ∃ y : Int32, y = j185 + 1 := ⟨_, rfl⟩
          have tx200 := zi_add ex200 (rfl : j185.toInt = j185.toInt) zl_1 ⟨by omega, by omega⟩
          refine lv_iinc (v := x200) (lv' := [(3, .int x200), (2, .int j198), (0, .ref h0), (1, .int p1)]) hx hb dX10_blocksFor_37 hl (k := 0) rfl (by rw [ex200]; rfl) (by decide) rfl (fun ls hl => ?_)
          refine lv_goto (tgt := 4) hx hb dX10_blocksFor_40 (by decide) ?_
          exact ih4 ls x200 j198 (by omega) (⟨by omega, by omega⟩) (lv_sub hl [0, 1, 2, 3] rfl)
        refine lv_icmp_ne (tgt := 37) hx hb dX10_blocksFor_22 (by decide) (fun b201 => ?_) (fun b201 => ?_)
        · have b201 := zi_ne b201 (rfl : x193.toInt = x193.toInt) (rfl : p1.toInt = p1.toInt)
          exact J37 ls j186 (lv_sub hl [0, 1, 2, 3] rfl)
        · have b201 := zi_eq b201 (rfl : x193.toInt = x193.toInt) (rfl : p1.toInt = p1.toInt)
          refine lv_iload_n hx hb dX10_blocksFor_25 rfl (lv_at hl 1 rfl) ?_
          refine lv_aload_n hx hb dX10_blocksFor_26 rfl (lv_at hl 2 rfl) ?_
          refine zq_getr E hM k_h0 (zFX10_17 E hZ) ⟨by decide, by decide, by decide, rfl⟩ dX10_blocksFor_27 ?_
          have k202 : zq_k X (zq_r X h0 8) = 31 := zq_lk L.1 k_h0 rfl (by decide)
          refine lv_iload_n hx hb dX10_blocksFor_30 rfl (lv_at hl 0 rfl) ?_
          refine zq_rald (n := 3) (t := 7) (j := (j185.toNatClampNeg)) E hZ hM k202 ⟨by decide, rfl⟩ ⟨rfl, by decide, by decide⟩ ⟨by omega, by omega⟩ rfl dX10_blocksFor_31 ?_
          have k203 : zq_k X (zq_r X (zq_r X h0 8) (j185.toNatClampNeg)) = 5 := zq_lay_a L.1 k202 (n := 3) (zq_inn (i := j185) (n := 3) ⟨by omega, by omega⟩) (by decide) (by decide)
          refine zq_gn E hM k203 (zFX10_78 E hZ) (Or.inl ⟨by decide, by decide, by decide, rfl⟩) dX10_blocksFor_32 (fun x204 ex204 gx204 => ?_)
          replace gx204 : 0 ≤ x204.toInt ∧ x204.toInt ≤ 99 := gx204
          refine lv_iadd hx hb dX10_blocksFor_35 ?_
          refine lv_topi (fun x205 ex205 => ?_)
          refine lv_istore_n (lv' := [(2, .int x205), (3, .int j185), (0, .ref h0), (1, .int p1)]) hx hb dX10_blocksFor_36 rfl hl (by decide) rfl (fun ls hl => ?_)
          exact J37 ls x205 (lv_sub hl [1, 0, 2, 3] rfl)
  exact J4 (3 + 1 - (0 : Int32).toInt).toNat ls (0 : Int32) (0 : Int32) (by omega) (by rw [zl_0]; decide) (lv_sub hl [0, 1, 2, 3] rfl)
set_option maxHeartbeats 8000000 in
set_option maxRecDepth 100000 in
theorem c_X10_blocksAtSea (l : Launch) (X : zq_X) (zk zn : Nat) (I : zq_M) (L : zq_L X)  (h0 : Nat) (k_h0 : zq_k X h0 = 8)  : Met l yX10_blocksAtSea (zt_w yX10_blocksAtSea cX10_blocksAtSea 3 (some .int)) (zq_rm (0)) (va_Pc [.ref h0] (zq_W X (zk, zn) I)) (va_Qi (fun (r : Int32) I2 => I2 = I ∧ True) (zq_E X (zk, zn)) (zq_A X)) 0 0 (zq_A X) := by
  refine Met.ofW (cc := cX10_blocksAtSea) (maxL := 3) (ret := (some .int)) (by decide) rfl ?_
  intro p e s m args below meth c s₁ B hml hv
  obtain ⟨hargs, hM, hZ⟩ := hv
  have hown : s.vm.findClass RX10 = some m.cls := findClass_of_methodNamed B.named
  have hts := atoms_spec (ws := zt_w yX10_blocksAtSea cX10_blocksAtSea 3 (some .int)) B.pre
  have E : CallFix p m c cX10_blocksAtSea 3 s args (Cond.code yX10_blocksAtSea cX10_blocksAtSea 3 (some .int) :: zt) RX10 := ⟨B.exec, B.bytes, hml, hown, hts⟩
  have hx := B.exec
  have hb := B.bytes
  have hr := B.returns
  have hlocks := B.notSynchronized
  clear B
  have hS : va_S (zq_A X) s.heap s.heap [] := va_S.rf
  have hl := lv_entry ([.ref h0]) (n := 3) (by exact Nat.le_of_ble_eq_true rfl)
  have hg : entryFrame m args 3 = F0 m 0 ((lg_sl ([.ref h0]) ++ List.replicate (3 - (lg_sl ([.ref h0])).length) Slot.unset).toArray) [] := by rw [hargs]; exact lg_entry_eq m ([.ref h0]) 3
  rw [hg]
  clear hg hargs
  generalize (lg_sl ([.ref h0]) ++ List.replicate (3 - (lg_sl ([.ref h0])).length) Slot.unset).toArray = ls at hl ⊢
  have hl : lv_has ls 3 [(0, .ref h0)] := by exact hl
  obtain ⟨R, hRm⟩ : ∃ R : Room, R = (headSpec (zt_w yX10_blocksAtSea cX10_blocksAtSea 3 (some .int)) (zq_rm (0))).room := ⟨_, rfl⟩
  rw [← hRm]
  generalize hQ : MQ below _ args s 0 0 (zq_A X) = Q
  obtain ⟨H, hH⟩ : ∃ H, H = s.heap := ⟨_, rfl⟩
  obtain ⟨locs, hlo⟩ : ∃ x : List Loc, x = [] := ⟨_, rfl⟩
  rw [show W p l e R s m args below meth c s.heap [] 0 0 Q = W p l e R s m args below meth c H locs 0 0 Q by rw [hH, hlo]]
  have hM : zq_hm X (zk, zn) I H := by rw [hH]; exact hM
  have hS : va_S (zq_A X) s.heap H locs := by rw [hH, hlo]; exact hS
  clear hH hlo
  refine lv_iconst (v := 0) hx hb dX10_blocksAtSea_0 (by decide +kernel) ?_
  refine lv_istore_n (lv' := [(1, .int (0 : Int32)), (0, .ref h0)]) hx hb dX10_blocksAtSea_1 rfl hl (by decide) rfl (fun ls hl => ?_)
  refine lv_iconst (v := 0) hx hb dX10_blocksAtSea_2 (by decide +kernel) ?_
  refine lv_istore_n (lv' := [(2, .int (0 : Int32)), (1, .int (0 : Int32)), (0, .ref h0)]) hx hb dX10_blocksAtSea_3 rfl hl (by decide) rfl (fun ls hl => ?_)
  have J4 : ∀ (n159 : Nat) (ls : Array Slot) (j157 : Int32) (j158 : Int32), 3 + 1 - j157.toInt ≤ ((n159 : Nat) : Int) → (0 ≤ j157.toInt ∧ j157.toInt ≤ 3) → (lv_has ls 3 [(2, .int j157), (1, .int j158), (0, .ref h0)]) → W p l e R s m args below meth c H locs 0 0 Q (F0 m 4 ls []) := by
    intro n159
    induction n159 with
    | zero => intro ls j157 j158 mu160 gj157 hl; exfalso; have := zi_rng j157; omega
    | succ n159 ih4 =>
      intro ls j157 j158 mu160 gj157 hl
      refine lv_iload_n hx hb dX10_blocksAtSea_4 rfl (lv_at hl 0 rfl) ?_
      refine lv_aload_n hx hb dX10_blocksAtSea_5 rfl (lv_at hl 2 rfl) ?_
      refine zq_gn E hM k_h0 (zFX10_46 E hZ) (Or.inl ⟨by decide, by decide, by decide, rfl⟩) dX10_blocksAtSea_6 (fun x161 ex161 gx161 => ?_)
      replace gx161 : 0 ≤ x161.toInt ∧ x161.toInt ≤ 3 := gx161
      refine lv_icmp_ge (tgt := 30) hx hb dX10_blocksAtSea_9 (by decide) (fun b162 => ?_) (fun b162 => ?_)
      · have b162 := zi_le b162 (rfl : x161.toInt = x161.toInt) (rfl : j157.toInt = j157.toInt)
        refine lv_iload_n hx hb dX10_blocksAtSea_30 rfl (lv_at hl 1 rfl) ?_
        subst hQ
        exact zq_iret E hr hZ hM hS ⟨rfl, trivial⟩ hlocks dX10_blocksAtSea_31
      · have b162 := zi_nle b162 (rfl : x161.toInt = x161.toInt) (rfl : j157.toInt = j157.toInt)
        refine lv_iload_n hx hb dX10_blocksAtSea_12 rfl (lv_at hl 1 rfl) ?_
        refine lv_aload_n hx hb dX10_blocksAtSea_13 rfl (lv_at hl 2 rfl) ?_
        refine zq_getr E hM k_h0 (zFX10_17 E hZ) ⟨by decide, by decide, by decide, rfl⟩ dX10_blocksAtSea_14 ?_
        have k163 : zq_k X (zq_r X h0 8) = 31 := zq_lk L.1 k_h0 rfl (by decide)
        refine lv_iload_n hx hb dX10_blocksAtSea_17 rfl (lv_at hl 0 rfl) ?_
        refine zq_rald (n := 3) (t := 7) (j := (j157.toNatClampNeg)) E hZ hM k163 ⟨by decide, rfl⟩ ⟨rfl, by decide, by decide⟩ ⟨by omega, by omega⟩ rfl dX10_blocksAtSea_18 ?_
        have k164 : zq_k X (zq_r X (zq_r X h0 8) (j157.toNatClampNeg)) = 5 := zq_lay_a L.1 k163 (n := 3) (zq_inn (i := j157) (n := 3) ⟨by omega, by omega⟩) (by decide) (by decide)
        refine zq_gn E hM k164 (zFX10_78 E hZ) (Or.inl ⟨by decide, by decide, by decide, rfl⟩) dX10_blocksAtSea_19 (fun x165 ex165 gx165 => ?_)
        replace gx165 : 0 ≤ x165.toInt ∧ x165.toInt ≤ 99 := gx165
        refine lv_iadd hx hb dX10_blocksAtSea_22 ?_
        refine lv_topi (fun x166 ex166 => ?_)
        refine lv_istore_n (lv' := [(1, .int x166), (2, .int j157), (0, .ref h0)]) hx hb dX10_blocksAtSea_23 rfl hl (by decide) rfl (fun ls hl => ?_)
        obtain ⟨x167, ex167⟩ : ∃ y : Int32, y = j157 + 1 := ⟨_, rfl⟩
        have tx167 := zi_add ex167 (rfl : j157.toInt = j157.toInt) zl_1 ⟨by omega, by omega⟩
        refine lv_iinc (v := x167) (lv' := [(2, .int x167), (1, .int x166), (0, .ref h0)]) hx hb dX10_blocksAtSea_24 hl (k := 1) rfl (by rw [ex167]; rfl) (by decide) rfl (fun ls hl => ?_)
        refine W.eq (g2 := F0 m 27 ls []) rfl ?_
        refine lv_goto (tgt := 4) hx hb dX10_blocksAtSea_27 (by decide) ?_
        exact ih4 ls x167 x166 (by omega) (⟨by omega, by omega⟩) (lv_sub hl [0, 1, 2] rfl)
  exact J4 (3 + 1 - (0 : Int32).toInt).toNat ls (0 : Int32) (0 : Int32) (by omega) (by rw [zl_0]; decide) (lv_sub hl [0, 1, 2] rfl)
set_option maxHeartbeats 8000000 in
set_option maxRecDepth 100000 in
theorem c_X10_soldSoFar (l : Launch) (X : zq_X) (zk zn : Nat) (I : zq_M) (L : zq_L X)  (h0 : Nat) (k_h0 : zq_k X h0 = 8)  : Met l yX10_soldSoFar (zt_w yX10_soldSoFar cX10_soldSoFar 3 (some .int)) (zq_rm (0)) (va_Pc [.ref h0] (zq_W X (zk, zn) I)) (va_Qi (fun (r : Int32) I2 => I2 = I ∧ True) (zq_E X (zk, zn)) (zq_A X)) 0 0 (zq_A X) := by
  refine Met.ofW (cc := cX10_soldSoFar) (maxL := 3) (ret := (some .int)) (by decide) rfl ?_
  intro p e s m args below meth c s₁ B hml hv
  obtain ⟨hargs, hM, hZ⟩ := hv
  have hown : s.vm.findClass RX10 = some m.cls := findClass_of_methodNamed B.named
  have hts := atoms_spec (ws := zt_w yX10_soldSoFar cX10_soldSoFar 3 (some .int)) B.pre
  have E : CallFix p m c cX10_soldSoFar 3 s args (Cond.code yX10_soldSoFar cX10_soldSoFar 3 (some .int) :: zt) RX10 := ⟨B.exec, B.bytes, hml, hown, hts⟩
  have hx := B.exec
  have hb := B.bytes
  have hr := B.returns
  have hlocks := B.notSynchronized
  clear B
  have hS : va_S (zq_A X) s.heap s.heap [] := va_S.rf
  have hl := lv_entry ([.ref h0]) (n := 3) (by exact Nat.le_of_ble_eq_true rfl)
  have hg : entryFrame m args 3 = F0 m 0 ((lg_sl ([.ref h0]) ++ List.replicate (3 - (lg_sl ([.ref h0])).length) Slot.unset).toArray) [] := by rw [hargs]; exact lg_entry_eq m ([.ref h0]) 3
  rw [hg]
  clear hg hargs
  generalize (lg_sl ([.ref h0]) ++ List.replicate (3 - (lg_sl ([.ref h0])).length) Slot.unset).toArray = ls at hl ⊢
  have hl : lv_has ls 3 [(0, .ref h0)] := by exact hl
  obtain ⟨R, hRm⟩ : ∃ R : Room, R = (headSpec (zt_w yX10_soldSoFar cX10_soldSoFar 3 (some .int)) (zq_rm (0))).room := ⟨_, rfl⟩
  rw [← hRm]
  generalize hQ : MQ below _ args s 0 0 (zq_A X) = Q
  obtain ⟨H, hH⟩ : ∃ H, H = s.heap := ⟨_, rfl⟩
  obtain ⟨locs, hlo⟩ : ∃ x : List Loc, x = [] := ⟨_, rfl⟩
  rw [show W p l e R s m args below meth c s.heap [] 0 0 Q = W p l e R s m args below meth c H locs 0 0 Q by rw [hH, hlo]]
  have hM : zq_hm X (zk, zn) I H := by rw [hH]; exact hM
  have hS : va_S (zq_A X) s.heap H locs := by rw [hH, hlo]; exact hS
  clear hH hlo
  refine lv_iconst (v := 0) hx hb dX10_soldSoFar_0 (by decide +kernel) ?_
  refine lv_istore_n (lv' := [(1, .int (0 : Int32)), (0, .ref h0)]) hx hb dX10_soldSoFar_1 rfl hl (by decide) rfl (fun ls hl => ?_)
  refine lv_iconst (v := 0) hx hb dX10_soldSoFar_2 (by decide +kernel) ?_
  refine lv_istore_n (lv' := [(2, .int (0 : Int32)), (1, .int (0 : Int32)), (0, .ref h0)]) hx hb dX10_soldSoFar_3 rfl hl (by decide) rfl (fun ls hl => ?_)
  have J4 : ∀ (n135 : Nat) (ls : Array Slot) (j133 : Int32) (j134 : Int32), 4 + 1 - j133.toInt ≤ ((n135 : Nat) : Int) → (0 ≤ j133.toInt ∧ j133.toInt ≤ 4) → (lv_has ls 3 [(2, .int j133), (1, .int j134), (0, .ref h0)]) → W p l e R s m args below meth c H locs 0 0 Q (F0 m 4 ls []) := by
    intro n135
    induction n135 with
    | zero => intro ls j133 j134 mu136 gj133 hl; exfalso; have := zi_rng j133; omega
    | succ n135 ih4 =>
      intro ls j133 j134 mu136 gj133 hl
      refine lv_iload_n hx hb dX10_soldSoFar_4 rfl (lv_at hl 0 rfl) ?_
      refine lv_aload_n hx hb dX10_soldSoFar_5 rfl (lv_at hl 2 rfl) ?_
      refine zq_gn E hM k_h0 (zFX10_49 E hZ) (Or.inl ⟨by decide, by decide, by decide, rfl⟩) dX10_soldSoFar_6 (fun x137 ex137 gx137 => ?_)
      replace gx137 : 0 ≤ x137.toInt ∧ x137.toInt ≤ 4 := gx137
      refine lv_icmp_ge (tgt := 30) hx hb dX10_soldSoFar_9 (by decide) (fun b138 => ?_) (fun b138 => ?_)
      · have b138 := zi_le b138 (rfl : x137.toInt = x137.toInt) (rfl : j133.toInt = j133.toInt)
        refine lv_iload_n hx hb dX10_soldSoFar_30 rfl (lv_at hl 1 rfl) ?_
        subst hQ
        exact zq_iret E hr hZ hM hS ⟨rfl, trivial⟩ hlocks dX10_soldSoFar_31
      · have b138 := zi_nle b138 (rfl : x137.toInt = x137.toInt) (rfl : j133.toInt = j133.toInt)
        refine lv_iload_n hx hb dX10_soldSoFar_12 rfl (lv_at hl 1 rfl) ?_
        refine lv_aload_n hx hb dX10_soldSoFar_13 rfl (lv_at hl 2 rfl) ?_
        refine zq_getr E hM k_h0 (zFX10_23 E hZ) ⟨by decide, by decide, by decide, rfl⟩ dX10_soldSoFar_14 ?_
        have k139 : zq_k X (zq_r X h0 9) = 32 := zq_lk L.1 k_h0 rfl (by decide)
        refine lv_iload_n hx hb dX10_soldSoFar_17 rfl (lv_at hl 0 rfl) ?_
        refine zq_rald (n := 4) (t := 8) (j := (j133.toNatClampNeg)) E hZ hM k139 ⟨by decide, rfl⟩ ⟨rfl, by decide, by decide⟩ ⟨by omega, by omega⟩ rfl dX10_soldSoFar_18 ?_
        have k140 : zq_k X (zq_r X (zq_r X h0 9) (j133.toNatClampNeg)) = 7 := zq_lay_a L.1 k139 (n := 4) (zq_inn (i := j133) (n := 4) ⟨by omega, by omega⟩) (by decide) (by decide)
        refine zq_gn E hM k140 (zFX10_81 E hZ) (Or.inl ⟨by decide, by decide, by decide, rfl⟩) dX10_soldSoFar_19 (fun x141 ex141 gx141 => ?_)
        clear gx141
        refine lv_iadd hx hb dX10_soldSoFar_22 ?_
        refine lv_topi (fun x142 ex142 => ?_)
        refine lv_istore_n (lv' := [(1, .int x142), (2, .int j133), (0, .ref h0)]) hx hb dX10_soldSoFar_23 rfl hl (by decide) rfl (fun ls hl => ?_)
        obtain ⟨x143, ex143⟩ : ∃ y : Int32, y = j133 + 1 := ⟨_, rfl⟩
        have tx143 := zi_add ex143 (rfl : j133.toInt = j133.toInt) zl_1 ⟨by omega, by omega⟩
        refine lv_iinc (v := x143) (lv' := [(2, .int x143), (1, .int x142), (0, .ref h0)]) hx hb dX10_soldSoFar_24 hl (k := 1) rfl (by rw [ex143]; rfl) (by decide) rfl (fun ls hl => ?_)
        refine W.eq (g2 := F0 m 27 ls []) rfl ?_
        refine lv_goto (tgt := 4) hx hb dX10_soldSoFar_27 (by decide) ?_
        exact ih4 ls x143 x142 (by omega) (⟨by omega, by omega⟩) (lv_sub hl [0, 1, 2] rfl)
  exact J4 (4 + 1 - (0 : Int32).toInt).toNat ls (0 : Int32) (0 : Int32) (by omega) (by rw [zl_0]; decide) (lv_sub hl [0, 1, 2] rfl)
set_option maxHeartbeats 8000000 in
set_option maxRecDepth 100000 in
theorem c_X10_homeBits (l : Launch) (X : zq_X) (zk zn : Nat) (I : zq_M) (L : zq_L X)  (h0 : Nat) (k_h0 : zq_k X h0 = 8)  : Met l yX10_homeBits (zt_w yX10_homeBits cX10_homeBits 3 (some .int)) (zq_rm (2)) (va_Pc [.ref h0] (zq_W X (zk, zn) I)) (va_Qi (fun (r : Int32) I2 => I2 = I ∧ True) (zq_E X (zk, zn)) (zq_A X)) 0 0 (zq_A X) := by
  refine Met.ofW (cc := cX10_homeBits) (maxL := 3) (ret := (some .int)) (by decide) rfl ?_
  intro p e s m args below meth c s₁ B hml hv
  obtain ⟨hargs, hM, hZ⟩ := hv
  have hown : s.vm.findClass RX10 = some m.cls := findClass_of_methodNamed B.named
  have hts := atoms_spec (ws := zt_w yX10_homeBits cX10_homeBits 3 (some .int)) B.pre
  have E : CallFix p m c cX10_homeBits 3 s args (Cond.code yX10_homeBits cX10_homeBits 3 (some .int) :: zt) RX10 := ⟨B.exec, B.bytes, hml, hown, hts⟩
  have hx := B.exec
  have hb := B.bytes
  have hr := B.returns
  have hlocks := B.notSynchronized
  clear B
  have hS : va_S (zq_A X) s.heap s.heap [] := va_S.rf
  have hl := lv_entry ([.ref h0]) (n := 3) (by exact Nat.le_of_ble_eq_true rfl)
  have hg : entryFrame m args 3 = F0 m 0 ((lg_sl ([.ref h0]) ++ List.replicate (3 - (lg_sl ([.ref h0])).length) Slot.unset).toArray) [] := by rw [hargs]; exact lg_entry_eq m ([.ref h0]) 3
  rw [hg]
  clear hg hargs
  generalize (lg_sl ([.ref h0]) ++ List.replicate (3 - (lg_sl ([.ref h0])).length) Slot.unset).toArray = ls at hl ⊢
  have hl : lv_has ls 3 [(0, .ref h0)] := by exact hl
  obtain ⟨R, hRm⟩ : ∃ R : Room, R = (headSpec (zt_w yX10_homeBits cX10_homeBits 3 (some .int)) (zq_rm (2))).room := ⟨_, rfl⟩
  rw [← hRm]
  have hro : ∀ d q : Nat, d + 1 ≤ 2 → q ≤ 45 → zq_rok d q R := fun d q h1 h2 => by rw [hRm]; exact zq_rokI h1 h2
  generalize hQ : MQ below _ args s 0 0 (zq_A X) = Q
  obtain ⟨H, hH⟩ : ∃ H, H = s.heap := ⟨_, rfl⟩
  obtain ⟨locs, hlo⟩ : ∃ x : List Loc, x = [] := ⟨_, rfl⟩
  rw [show W p l e R s m args below meth c s.heap [] 0 0 Q = W p l e R s m args below meth c H locs 0 0 Q by rw [hH, hlo]]
  have hM : zq_hm X (zk, zn) I H := by rw [hH]; exact hM
  have hS : va_S (zq_A X) s.heap H locs := by rw [hH, hlo]; exact hS
  clear hH hlo
  refine lv_iconst (v := 0) hx hb dX10_homeBits_0 (by decide +kernel) ?_
  refine lv_istore_n (lv' := [(1, .int (0 : Int32)), (0, .ref h0)]) hx hb dX10_homeBits_1 rfl hl (by decide) rfl (fun ls hl => ?_)
  refine lv_iconst (v := 0) hx hb dX10_homeBits_2 (by decide +kernel) ?_
  refine lv_istore_n (lv' := [(2, .int (0 : Int32)), (1, .int (0 : Int32)), (0, .ref h0)]) hx hb dX10_homeBits_3 rfl hl (by decide) rfl (fun ls hl => ?_)
  have J4 : ∀ (n147 : Nat) (H : Heap) (locs : List Loc) (ls : Array Slot) (j145 : Int32) (j146 : Int32), 3 + 1 - j145.toInt ≤ ((n147 : Nat) : Int) → (zq_hm X (zk, zn) I H) → (va_S (zq_A X) s.heap H locs) → (0 ≤ j145.toInt ∧ j145.toInt ≤ 3) → (lv_has ls 3 [(2, .int j145), (1, .int j146), (0, .ref h0)]) → W p l e R s m args below meth c H locs 0 0 Q (F0 m 4 ls []) := by
    intro n147
    induction n147 with
    | zero => intro H locs ls j145 j146 mu148 hM hS gj145 hl; exfalso; have := zi_rng j145; omega
    | succ n147 ih4 =>
      intro H locs ls j145 j146 mu148 hM hS gj145 hl
      refine lv_iload_n hx hb dX10_homeBits_4 rfl (lv_at hl 0 rfl) ?_
      refine lv_aload_n hx hb dX10_homeBits_5 rfl (lv_at hl 2 rfl) ?_
      refine zq_gn E hM k_h0 (zFX10_46 E hZ) (Or.inl ⟨by decide, by decide, by decide, rfl⟩) dX10_homeBits_6 (fun x149 ex149 gx149 => ?_)
      replace gx149 : 0 ≤ x149.toInt ∧ x149.toInt ≤ 3 := gx149
      refine lv_icmp_ge (tgt := 36) hx hb dX10_homeBits_9 (by decide) (fun b150 => ?_) (fun b150 => ?_)
      · have b150 := zi_le b150 (rfl : x149.toInt = x149.toInt) (rfl : j145.toInt = j145.toInt)
        refine lv_iload_n hx hb dX10_homeBits_36 rfl (lv_at hl 1 rfl) ?_
        subst hQ
        exact zq_iret E hr hZ hM hS ⟨rfl, trivial⟩ hlocks dX10_homeBits_37
      · have b150 := zi_nle b150 (rfl : x149.toInt = x149.toInt) (rfl : j145.toInt = j145.toInt)
        refine lv_iload_n hx hb dX10_homeBits_12 rfl (lv_at hl 1 rfl) ?_
        refine lv_aload_n hx hb dX10_homeBits_13 rfl (lv_at hl 2 rfl) ?_
        refine lv_iload_n hx hb dX10_homeBits_14 rfl (lv_at hl 0 rfl) ?_
        refine zq_pcalli (zq_rV (As := [.int j145]) (rest := [.int j146]) E hZ hM k_h0 (c_X10_isAtHome l X zk (zn) I L h0 k_h0 j145) zmX10_84 zM_X10_isAtHome (hro (1) 2 (by first | decide | omega) (by decide)) ⟨by decide, by decide⟩ rfl hl.1 rfl rfl (Nat.le_of_ble_eq_true rfl) dX10_homeBits_15) hS (fun x152 H locs h151 hM hS => ?_)
        obtain ⟨p153, p154⟩ := h151
        have J28 : ∀ (ls : Array Slot) (j156 : Int32), (lv_has ls 3 [(2, .int j145), (1, .int j146), (0, .ref h0)]) → W p l e R s m args below meth c H locs 0 0 Q (F0 m 28 ls [.int j156, .int j146]) := by
          intro ls j156 hl
          refine lv_ior hx hb dX10_homeBits_28 ?_
          refine lv_topi (fun x159 ex159 => ?_)
          refine lv_istore_n (lv' := [(1, .int x159), (2, .int j145), (0, .ref h0)]) hx hb dX10_homeBits_29 rfl hl (by decide) rfl (fun ls hl => ?_)
          obtain ⟨x160, ex160⟩ : ∃ y : Int32, y = j145 + 1 := ⟨_, rfl⟩
          have tx160 := zi_add ex160 (rfl : j145.toInt = j145.toInt) zl_1 ⟨by omega, by omega⟩
          refine lv_iinc (v := x160) (lv' := [(2, .int x160), (1, .int x159), (0, .ref h0)]) hx hb dX10_homeBits_30 hl (k := 1) rfl (by rw [ex160]; rfl) (by decide) rfl (fun ls hl => ?_)
          refine lv_goto (tgt := 4) hx hb dX10_homeBits_33 (by decide) ?_
          exact ih4 H locs ls x160 x159 (by omega) hM hS (⟨by omega, by omega⟩) (lv_sub hl [0, 1, 2] rfl)
        refine lv_if_eq (tgt := 27) hx hb dX10_homeBits_18 (by decide) (fun b161 => ?_) (fun b161 => ?_)
        · have b161 := zi_eq b161 (rfl : x152.toInt = x152.toInt) (zl_0 : (0 : Int32).toInt = 0)
          refine lv_iconst (v := 0) hx hb dX10_homeBits_27 (by decide +kernel) ?_
          exact J28 ls (0 : Int32) (lv_sub hl [0, 1, 2] rfl)
        · have b161 := zi_ne b161 (rfl : x152.toInt = x152.toInt) (zl_0 : (0 : Int32).toInt = 0)
          refine lv_iconst (v := 1) hx hb dX10_homeBits_21 (by decide +kernel) ?_
          refine lv_iload_n hx hb dX10_homeBits_22 rfl (lv_at hl 0 rfl) ?_
          refine lv_ishl hx hb dX10_homeBits_23 ?_
          refine lv_topi (fun x162 ex162 => ?_)
          refine lv_goto (tgt := 28) hx hb dX10_homeBits_24 (by decide) ?_
          exact J28 ls x162 (lv_sub hl [0, 1, 2] rfl)
  exact J4 (3 + 1 - (0 : Int32).toInt).toNat H locs ls (0 : Int32) (0 : Int32) (by omega) hM hS (by rw [zl_0]; decide) (lv_sub hl [0, 1, 2] rfl)
set_option maxHeartbeats 8000000 in
set_option maxRecDepth 100000 in
theorem c_X10_houseBits (l : Launch) (X : zq_X) (zk zn : Nat) (I : zq_M) (L : zq_L X)  (h0 : Nat) (k_h0 : zq_k X h0 = 8)  : Met l yX10_houseBits (zt_w yX10_houseBits cX10_houseBits 3 (some .int)) (zq_rm (0)) (va_Pc [.ref h0] (zq_W X (zk, zn) I)) (va_Qi (fun (r : Int32) I2 => I2 = I ∧ True) (zq_E X (zk, zn)) (zq_A X)) 0 0 (zq_A X) := by
  refine Met.ofW (cc := cX10_houseBits) (maxL := 3) (ret := (some .int)) (by decide) rfl ?_
  intro p e s m args below meth c s₁ B hml hv
  obtain ⟨hargs, hM, hZ⟩ := hv
  have hown : s.vm.findClass RX10 = some m.cls := findClass_of_methodNamed B.named
  have hts := atoms_spec (ws := zt_w yX10_houseBits cX10_houseBits 3 (some .int)) B.pre
  have E : CallFix p m c cX10_houseBits 3 s args (Cond.code yX10_houseBits cX10_houseBits 3 (some .int) :: zt) RX10 := ⟨B.exec, B.bytes, hml, hown, hts⟩
  have hx := B.exec
  have hb := B.bytes
  have hr := B.returns
  have hlocks := B.notSynchronized
  clear B
  have hS : va_S (zq_A X) s.heap s.heap [] := va_S.rf
  have hl := lv_entry ([.ref h0]) (n := 3) (by exact Nat.le_of_ble_eq_true rfl)
  have hg : entryFrame m args 3 = F0 m 0 ((lg_sl ([.ref h0]) ++ List.replicate (3 - (lg_sl ([.ref h0])).length) Slot.unset).toArray) [] := by rw [hargs]; exact lg_entry_eq m ([.ref h0]) 3
  rw [hg]
  clear hg hargs
  generalize (lg_sl ([.ref h0]) ++ List.replicate (3 - (lg_sl ([.ref h0])).length) Slot.unset).toArray = ls at hl ⊢
  have hl : lv_has ls 3 [(0, .ref h0)] := by exact hl
  obtain ⟨R, hRm⟩ : ∃ R : Room, R = (headSpec (zt_w yX10_houseBits cX10_houseBits 3 (some .int)) (zq_rm (0))).room := ⟨_, rfl⟩
  rw [← hRm]
  generalize hQ : MQ below _ args s 0 0 (zq_A X) = Q
  obtain ⟨H, hH⟩ : ∃ H, H = s.heap := ⟨_, rfl⟩
  obtain ⟨locs, hlo⟩ : ∃ x : List Loc, x = [] := ⟨_, rfl⟩
  rw [show W p l e R s m args below meth c s.heap [] 0 0 Q = W p l e R s m args below meth c H locs 0 0 Q by rw [hH, hlo]]
  have hM : zq_hm X (zk, zn) I H := by rw [hH]; exact hM
  have hS : va_S (zq_A X) s.heap H locs := by rw [hH, hlo]; exact hS
  clear hH hlo
  refine lv_iconst (v := 0) hx hb dX10_houseBits_0 (by decide +kernel) ?_
  refine lv_istore_n (lv' := [(1, .int (0 : Int32)), (0, .ref h0)]) hx hb dX10_houseBits_1 rfl hl (by decide) rfl (fun ls hl => ?_)
  refine lv_iconst (v := 0) hx hb dX10_houseBits_2 (by decide +kernel) ?_
  refine lv_istore_n (lv' := [(2, .int (0 : Int32)), (1, .int (0 : Int32)), (0, .ref h0)]) hx hb dX10_houseBits_3 rfl hl (by decide) rfl (fun ls hl => ?_)
  have J4 : ∀ (n143 : Nat) (ls : Array Slot) (j141 : Int32) (j142 : Int32), 4 + 1 - j141.toInt ≤ ((n143 : Nat) : Int) → (0 ≤ j141.toInt ∧ j141.toInt ≤ 4) → (lv_has ls 3 [(2, .int j141), (1, .int j142), (0, .ref h0)]) → W p l e R s m args below meth c H locs 0 0 Q (F0 m 4 ls []) := by
    intro n143
    induction n143 with
    | zero => intro ls j141 j142 mu144 gj141 hl; exfalso; have := zi_rng j141; omega
    | succ n143 ih4 =>
      intro ls j141 j142 mu144 gj141 hl
      refine lv_iload_n hx hb dX10_houseBits_4 rfl (lv_at hl 0 rfl) ?_
      refine lv_aload_n hx hb dX10_houseBits_5 rfl (lv_at hl 2 rfl) ?_
      refine zq_gn E hM k_h0 (zFX10_49 E hZ) (Or.inl ⟨by decide, by decide, by decide, rfl⟩) dX10_houseBits_6 (fun x145 ex145 gx145 => ?_)
      replace gx145 : 0 ≤ x145.toInt ∧ x145.toInt ≤ 4 := gx145
      refine lv_icmp_ge (tgt := 40) hx hb dX10_houseBits_9 (by decide) (fun b146 => ?_) (fun b146 => ?_)
      · have b146 := zi_le b146 (rfl : x145.toInt = x145.toInt) (rfl : j141.toInt = j141.toInt)
        refine lv_iload_n hx hb dX10_houseBits_40 rfl (lv_at hl 1 rfl) ?_
        subst hQ
        exact zq_iret E hr hZ hM hS ⟨rfl, trivial⟩ hlocks dX10_houseBits_41
      · have b146 := zi_nle b146 (rfl : x145.toInt = x145.toInt) (rfl : j141.toInt = j141.toInt)
        refine lv_iload_n hx hb dX10_houseBits_12 rfl (lv_at hl 1 rfl) ?_
        refine lv_aload_n hx hb dX10_houseBits_13 rfl (lv_at hl 2 rfl) ?_
        refine zq_getr E hM k_h0 (zFX10_23 E hZ) ⟨by decide, by decide, by decide, rfl⟩ dX10_houseBits_14 ?_
        have k147 : zq_k X (zq_r X h0 9) = 32 := zq_lk L.1 k_h0 rfl (by decide)
        refine lv_iload_n hx hb dX10_houseBits_17 rfl (lv_at hl 0 rfl) ?_
        refine zq_rald (n := 4) (t := 8) (j := (j141.toNatClampNeg)) E hZ hM k147 ⟨by decide, rfl⟩ ⟨rfl, by decide, by decide⟩ ⟨by omega, by omega⟩ rfl dX10_houseBits_18 ?_
        have k148 : zq_k X (zq_r X (zq_r X h0 9) (j141.toNatClampNeg)) = 7 := zq_lay_a L.1 k147 (n := 4) (zq_inn (i := j141) (n := 4) ⟨by omega, by omega⟩) (by decide) (by decide)
        refine zq_gn E hM k148 (zFX10_65 E hZ) (Or.inr ⟨by decide, by decide, by decide, rfl⟩) dX10_houseBits_19 (fun x149 ex149 gx149 => ?_)
        replace gx149 : 0 ≤ x149.toInt ∧ x149.toInt ≤ 1 := gx149
        have J32 : ∀ (ls : Array Slot) (j151 : Int32), (lv_has ls 3 [(2, .int j141), (1, .int j142), (0, .ref h0)]) → W p l e R s m args below meth c H locs 0 0 Q (F0 m 32 ls [.int j151, .int j142]) := by
          intro ls j151 hl
          refine lv_ior hx hb dX10_houseBits_32 ?_
          refine lv_topi (fun x154 ex154 => ?_)
          refine lv_istore_n (lv' := [(1, .int x154), (2, .int j141), (0, .ref h0)]) hx hb dX10_houseBits_33 rfl hl (by decide) rfl (fun ls hl => ?_)
          obtain ⟨x155, ex155⟩ : ∃ y : Int32, y = j141 + 1 := ⟨_, rfl⟩
          have tx155 := zi_add ex155 (rfl : j141.toInt = j141.toInt) zl_1 ⟨by omega, by omega⟩
          refine lv_iinc (v := x155) (lv' := [(2, .int x155), (1, .int x154), (0, .ref h0)]) hx hb dX10_houseBits_34 hl (k := 1) rfl (by rw [ex155]; rfl) (by decide) rfl (fun ls hl => ?_)
          refine lv_goto (tgt := 4) hx hb dX10_houseBits_37 (by decide) ?_
          exact ih4 ls x155 x154 (by omega) (⟨by omega, by omega⟩) (lv_sub hl [0, 1, 2] rfl)
        refine lv_if_eq (tgt := 31) hx hb dX10_houseBits_22 (by decide) (fun b156 => ?_) (fun b156 => ?_)
        · have b156 := zi_eq b156 (rfl : x149.toInt = x149.toInt) (zl_0 : (0 : Int32).toInt = 0)
          refine lv_iconst (v := 0) hx hb dX10_houseBits_31 (by decide +kernel) ?_
          exact J32 ls (0 : Int32) (lv_sub hl [0, 1, 2] rfl)
        · have b156 := zi_ne b156 (rfl : x149.toInt = x149.toInt) (zl_0 : (0 : Int32).toInt = 0)
          refine lv_iconst (v := 1) hx hb dX10_houseBits_25 (by decide +kernel) ?_
          refine lv_iload_n hx hb dX10_houseBits_26 rfl (lv_at hl 0 rfl) ?_
          refine lv_ishl hx hb dX10_houseBits_27 ?_
          refine lv_topi (fun x157 ex157 => ?_)
          refine lv_goto (tgt := 32) hx hb dX10_houseBits_28 (by decide) ?_
          exact J32 ls x157 (lv_sub hl [0, 1, 2] rfl)
  exact J4 (4 + 1 - (0 : Int32).toInt).toNat ls (0 : Int32) (0 : Int32) (by omega) (by rw [zl_0]; decide) (lv_sub hl [0, 1, 2] rfl)
set_option maxHeartbeats 8000000 in
set_option maxRecDepth 100000 in
theorem c_X10_mostBlocks (l : Launch) (X : zq_X) (zk zn : Nat) (I : zq_M) (L : zq_L X)  (h0 : Nat) (k_h0 : zq_k X h0 = 8) (p1 : Int32)  : Met l yX10_mostBlocks (zt_w yX10_mostBlocks cX10_mostBlocks 3 (some .int)) (zq_rm (2)) (va_Pc [.ref h0, .int p1] (zq_W X (zk, zn) I)) (va_Qi (fun (r : Int32) I2 => I2 = I ∧ (r.toInt ≤ 99)) (zq_E X (zk, zn)) (zq_A X)) 0 0 (zq_A X) := by
  refine Met.ofW (cc := cX10_mostBlocks) (maxL := 3) (ret := (some .int)) (by decide) rfl ?_
  intro p e s m args below meth c s₁ B hml hv
  obtain ⟨hargs, hM, hZ⟩ := hv
  have hown : s.vm.findClass RX10 = some m.cls := findClass_of_methodNamed B.named
  have hts := atoms_spec (ws := zt_w yX10_mostBlocks cX10_mostBlocks 3 (some .int)) B.pre
  have E : CallFix p m c cX10_mostBlocks 3 s args (Cond.code yX10_mostBlocks cX10_mostBlocks 3 (some .int) :: zt) RX10 := ⟨B.exec, B.bytes, hml, hown, hts⟩
  have hx := B.exec
  have hb := B.bytes
  have hr := B.returns
  have hlocks := B.notSynchronized
  clear B
  have hS : va_S (zq_A X) s.heap s.heap [] := va_S.rf
  have hl := lv_entry ([.ref h0, .int p1]) (n := 3) (by exact Nat.le_of_ble_eq_true rfl)
  have hg : entryFrame m args 3 = F0 m 0 ((lg_sl ([.ref h0, .int p1]) ++ List.replicate (3 - (lg_sl ([.ref h0, .int p1])).length) Slot.unset).toArray) [] := by rw [hargs]; exact lg_entry_eq m ([.ref h0, .int p1]) 3
  rw [hg]
  clear hg hargs
  generalize (lg_sl ([.ref h0, .int p1]) ++ List.replicate (3 - (lg_sl ([.ref h0, .int p1])).length) Slot.unset).toArray = ls at hl ⊢
  have hl : lv_has ls 3 [(0, .ref h0), (1, .int p1)] := by exact hl
  obtain ⟨R, hRm⟩ : ∃ R : Room, R = (headSpec (zt_w yX10_mostBlocks cX10_mostBlocks 3 (some .int)) (zq_rm (2))).room := ⟨_, rfl⟩
  rw [← hRm]
  have hro : ∀ d q : Nat, d + 1 ≤ 2 → q ≤ 45 → zq_rok d q R := fun d q h1 h2 => by rw [hRm]; exact zq_rokI h1 h2
  generalize hQ : MQ below _ args s 0 0 (zq_A X) = Q
  obtain ⟨H, hH⟩ : ∃ H, H = s.heap := ⟨_, rfl⟩
  obtain ⟨locs, hlo⟩ : ∃ x : List Loc, x = [] := ⟨_, rfl⟩
  rw [show W p l e R s m args below meth c s.heap [] 0 0 Q = W p l e R s m args below meth c H locs 0 0 Q by rw [hH, hlo]]
  have hM : zq_hm X (zk, zn) I H := by rw [hH]; exact hM
  have hS : va_S (zq_A X) s.heap H locs := by rw [hH, hlo]; exact hS
  clear hH hlo
  refine lv_aload_n hx hb dX10_mostBlocks_0 rfl (lv_at hl 0 rfl) ?_
  refine lv_iload_n hx hb dX10_mostBlocks_1 rfl (lv_at hl 1 rfl) ?_
  refine zq_pcalli (zq_rV (As := [.int p1]) (rest := []) E hZ hM k_h0 (c_X10_isAtHome l X zk (zn) I L h0 k_h0 p1) zmX10_84 zM_X10_isAtHome (hro (1) 2 (by first | decide | omega) (by decide)) ⟨by decide, by decide⟩ rfl hl.1 rfl rfl (Nat.le_of_ble_eq_true rfl) dX10_mostBlocks_2) hS (fun x102 H locs h101 hM hS => ?_)
  obtain ⟨p103, p104⟩ := h101
  refine lv_if_eq (tgt := 24) hx hb dX10_mostBlocks_5 (by decide) (fun b105 => ?_) (fun b105 => ?_)
  · have b105 := zi_eq b105 (rfl : x102.toInt = x102.toInt) (zl_0 : (0 : Int32).toInt = 0)
    refine lv_iconst (v := 0) hx hb dX10_mostBlocks_24 (by decide +kernel) ?_
    subst hQ
    exact zq_iret E hr hZ hM hS ⟨rfl, (by have := zl_0; omega)⟩ hlocks dX10_mostBlocks_25
  · have b105 := zi_ne b105 (rfl : x102.toInt = x102.toInt) (zl_0 : (0 : Int32).toInt = 0)
    refine lv_aload_n hx hb dX10_mostBlocks_8 rfl (lv_at hl 0 rfl) ?_
    refine zq_gn E hM k_h0 (zFX10_33 E hZ) (Or.inl ⟨by decide, by decide, by decide, rfl⟩) dX10_mostBlocks_9 (fun x106 ex106 gx106 => ?_)
    clear gx106
    refine lv_aload_n hx hb dX10_mostBlocks_12 rfl (lv_at hl 0 rfl) ?_
    refine zq_getr E hM k_h0 (zFX10_17 E hZ) ⟨by decide, by decide, by decide, rfl⟩ dX10_mostBlocks_13 ?_
    have k107 : zq_k X (zq_r X h0 8) = 31 := zq_lk L.1 k_h0 rfl (by decide)
    refine lv_iload_n hx hb dX10_mostBlocks_16 rfl (lv_at hl 1 rfl) ?_
    refine zq_rald (n := 3) (t := 7) (j := (p1.toNatClampNeg)) E hZ hM k107 ⟨by decide, rfl⟩ ⟨rfl, by decide, by decide⟩ ⟨by omega, by omega⟩ rfl dX10_mostBlocks_17 ?_
    have k108 : zq_k X (zq_r X (zq_r X h0 8) (p1.toNatClampNeg)) = 5 := zq_lay_a L.1 k107 (n := 3) (zq_inn (i := p1) (n := 3) ⟨by omega, by omega⟩) (by decide) (by decide)
    refine zq_gn E hM k108 (zFX10_87 E hZ) (Or.inl ⟨by decide, by decide, by decide, rfl⟩) dX10_mostBlocks_18 (fun x109 ex109 gx109 => ?_)
    replace gx109 : (-1) ≤ x109.toInt ∧ x109.toInt ≤ 99 := gx109
    refine lv_icmp_ge (tgt := 26) hx hb dX10_mostBlocks_21 (by decide) (fun b110 => ?_) (fun b110 => ?_)
    · have b110 := zi_le b110 (rfl : x109.toInt = x109.toInt) (rfl : x106.toInt = x106.toInt)
      refine lv_aload_n hx hb dX10_mostBlocks_26 rfl (lv_at hl 0 rfl) ?_
      refine zq_getr E hM k_h0 (zFX10_17 E hZ) ⟨by decide, by decide, by decide, rfl⟩ dX10_mostBlocks_27 ?_
      have k111 : zq_k X (zq_r X h0 8) = 31 := zq_lk L.1 k_h0 rfl (by decide)
      refine lv_iload_n hx hb dX10_mostBlocks_30 rfl (lv_at hl 1 rfl) ?_
      refine zq_rald (n := 3) (t := 7) (j := (p1.toNatClampNeg)) E hZ hM k111 ⟨by decide, rfl⟩ ⟨rfl, by decide, by decide⟩ ⟨by omega, by omega⟩ rfl dX10_mostBlocks_31 ?_
      have k112 : zq_k X (zq_r X (zq_r X h0 8) (p1.toNatClampNeg)) = 5 := zq_lay_a L.1 k111 (n := 3) (zq_inn (i := p1) (n := 3) ⟨by omega, by omega⟩) (by decide) (by decide)
      refine zq_gn E hM k112 (zFX10_90 E hZ) (Or.inl ⟨by decide, by decide, by decide, rfl⟩) dX10_mostBlocks_32 (fun x113 ex113 gx113 => ?_)
      replace gx113 : (-1) ≤ x113.toInt ∧ x113.toInt ≤ 99 := gx113
      refine lv_aload_n hx hb dX10_mostBlocks_35 rfl (lv_at hl 0 rfl) ?_
      refine zq_gn E hM k_h0 (zFX10_40 E hZ) (Or.inl ⟨by decide, by decide, by decide, rfl⟩) dX10_mostBlocks_36 (fun x114 ex114 gx114 => ?_)
      clear gx114
      refine zq_pcalli (zq_rS (As := [.int x113, .int x114]) (rest := []) E hZ hM (c_J9_min_7cf53 l X zk (zn) I L x113 x114) zmX10_93 zM_J9_min_7cf53 (hro (0) 2 (by first | decide | omega) (by decide)) hl.1 rfl rfl (Nat.le_of_ble_eq_true rfl) dX10_mostBlocks_39) hS (fun x116 H locs h115 hM hS => ?_)
      have p117 := h115
      refine lv_istore_n (lv' := [(2, .int x116), (0, .ref h0), (1, .int p1)]) hx hb dX10_mostBlocks_42 rfl hl (by decide) rfl (fun ls hl => ?_)
      refine W.eq (g2 := F0 m 43 ls []) rfl ?_
      refine lv_aload_n hx hb dX10_mostBlocks_43 rfl (lv_at hl 1 rfl) ?_
      refine zq_gn E hM k_h0 (zFX10_37 E hZ) (Or.inl ⟨by decide, by decide, by decide, rfl⟩) dX10_mostBlocks_44 (fun x118 ex118 gx118 => ?_)
      clear gx118
      refine lv_if_ne (tgt := 54) hx hb dX10_mostBlocks_47 (by decide) (fun b119 => ?_) (fun b119 => ?_)
      · have b119 := zi_ne b119 (rfl : x118.toInt = x118.toInt) (zl_0 : (0 : Int32).toInt = 0)
        refine lv_iload_n hx hb dX10_mostBlocks_54 rfl (lv_at hl 0 rfl) ?_
        refine lv_aload_n hx hb dX10_mostBlocks_55 rfl (lv_at hl 1 rfl) ?_
        refine zq_gk (v := x106) E hM k_h0 (zFX10_33 E hZ) (Or.inl ⟨by decide, by decide, by decide, rfl⟩) ex106 dX10_mostBlocks_56 ?_
        refine lv_aload_n hx hb dX10_mostBlocks_59 rfl (lv_at hl 1 rfl) ?_
        refine zq_getr E hM k_h0 (zFX10_17 E hZ) ⟨by decide, by decide, by decide, rfl⟩ dX10_mostBlocks_60 ?_
        have k120 : zq_k X (zq_r X h0 8) = 31 := zq_lk L.1 k_h0 rfl (by decide)
        refine lv_iload_n hx hb dX10_mostBlocks_63 rfl (lv_at hl 2 rfl) ?_
        refine zq_rald (n := 3) (t := 7) (j := (p1.toNatClampNeg)) E hZ hM k120 ⟨by decide, rfl⟩ ⟨rfl, by decide, by decide⟩ ⟨by omega, by omega⟩ rfl dX10_mostBlocks_64 ?_
        have k121 : zq_k X (zq_r X (zq_r X h0 8) (p1.toNatClampNeg)) = 5 := zq_lay_a L.1 k120 (n := 3) (zq_inn (i := p1) (n := 3) ⟨by omega, by omega⟩) (by decide) (by decide)
        refine zq_gk (v := x109) E hM k121 (zFX10_87 E hZ) (Or.inl ⟨by decide, by decide, by decide, rfl⟩) ex109 dX10_mostBlocks_65 ?_
        refine lv_isub hx hb dX10_mostBlocks_68 ?_
        refine lv_topi (fun x122 ex122 => ?_)
        refine W.eq (g2 := F0 m 69 ls [.int x122, .int x116]) rfl ?_
        refine lv_aload_n hx hb dX10_mostBlocks_69 rfl (lv_at hl 1 rfl) ?_
        refine zq_gk (v := x118) E hM k_h0 (zFX10_37 E hZ) (Or.inl ⟨by decide, by decide, by decide, rfl⟩) ex118 dX10_mostBlocks_70 ?_
        refine lv_idiv hx hb dX10_mostBlocks_73 (fun q => by have := zi_eq q rfl zl_0; omega) ?_
        refine lv_topi (fun x123 ex123 => ?_)
        refine zq_pcalli (zq_rS (As := [.int x116, .int x123]) (rest := []) E hZ hM (c_J9_min_7cf53 l X zk (zn) I L x116 x123) zmX10_93 zM_J9_min_7cf53 (hro (0) 2 (by first | decide | omega) (by decide)) hl.1 rfl rfl (Nat.le_of_ble_eq_true rfl) dX10_mostBlocks_74) hS (fun x125 H locs h124 hM hS => ?_)
        have p126 := h124
        subst hQ
        exact zq_iret E hr hZ hM hS ⟨rfl, (by have := zi_rng x125; omega)⟩ hlocks dX10_mostBlocks_77
      · have b119 := zi_eq b119 (rfl : x118.toInt = x118.toInt) (zl_0 : (0 : Int32).toInt = 0)
        refine lv_iload_n hx hb dX10_mostBlocks_50 rfl (lv_at hl 0 rfl) ?_
        refine lv_goto (tgt := 77) hx hb dX10_mostBlocks_51 (by decide) ?_
        subst hQ
        exact zq_iret E hr hZ hM hS ⟨rfl, (by have := zi_rng x116; omega)⟩ hlocks dX10_mostBlocks_77
    · have b110 := zi_nle b110 (rfl : x109.toInt = x109.toInt) (rfl : x106.toInt = x106.toInt)
      refine lv_iconst (v := 0) hx hb dX10_mostBlocks_24 (by decide +kernel) ?_
      subst hQ
      exact zq_iret E hr hZ hM hS ⟨rfl, (by have := zl_0; omega)⟩ hlocks dX10_mostBlocks_25
set_option maxHeartbeats 8000000 in
set_option maxRecDepth 100000 in
theorem c_X10_fare (l : Launch) (X : zq_X) (zk zn : Nat) (I : zq_M) (L : zq_L X)  (h0 : Nat) (k_h0 : zq_k X h0 = 8) (p1 : Int32) (p2 : Int32) (p3 : Int32) (g_p3 : 0 ≤ p3.toInt ∧ p3.toInt ≤ 1) : Met l yX10_fare (zt_w yX10_fare cX10_fare 4 (some .int)) (zq_rm (1)) (va_Pc [.ref h0, .int p1, .int p2, .int p3] (zq_W X (zk, zn) I)) (va_Qi (fun (r : Int32) I2 => I2 = I ∧ True) (zq_E X (zk, zn)) (zq_A X)) 0 0 (zq_A X) := by
  refine Met.ofW (cc := cX10_fare) (maxL := 4) (ret := (some .int)) (by decide) rfl ?_
  intro p e s m args below meth c s₁ B hml hv
  obtain ⟨hargs, hM, hZ⟩ := hv
  have hown : s.vm.findClass RX10 = some m.cls := findClass_of_methodNamed B.named
  have hts := atoms_spec (ws := zt_w yX10_fare cX10_fare 4 (some .int)) B.pre
  have E : CallFix p m c cX10_fare 4 s args (Cond.code yX10_fare cX10_fare 4 (some .int) :: zt) RX10 := ⟨B.exec, B.bytes, hml, hown, hts⟩
  have hx := B.exec
  have hb := B.bytes
  have hr := B.returns
  have hlocks := B.notSynchronized
  clear B
  have hS : va_S (zq_A X) s.heap s.heap [] := va_S.rf
  have hl := lv_entry ([.ref h0, .int p1, .int p2, .int p3]) (n := 4) (by exact Nat.le_of_ble_eq_true rfl)
  have hg : entryFrame m args 4 = F0 m 0 ((lg_sl ([.ref h0, .int p1, .int p2, .int p3]) ++ List.replicate (4 - (lg_sl ([.ref h0, .int p1, .int p2, .int p3])).length) Slot.unset).toArray) [] := by rw [hargs]; exact lg_entry_eq m ([.ref h0, .int p1, .int p2, .int p3]) 4
  rw [hg]
  clear hg hargs
  generalize (lg_sl ([.ref h0, .int p1, .int p2, .int p3]) ++ List.replicate (4 - (lg_sl ([.ref h0, .int p1, .int p2, .int p3])).length) Slot.unset).toArray = ls at hl ⊢
  have hl : lv_has ls 4 [(0, .ref h0), (1, .int p1), (2, .int p2), (3, .int p3)] := by exact hl
  obtain ⟨R, hRm⟩ : ∃ R : Room, R = (headSpec (zt_w yX10_fare cX10_fare 4 (some .int)) (zq_rm (1))).room := ⟨_, rfl⟩
  rw [← hRm]
  have hro : ∀ d q : Nat, d + 1 ≤ 1 → q ≤ 45 → zq_rok d q R := fun d q h1 h2 => by rw [hRm]; exact zq_rokI h1 h2
  generalize hQ : MQ below _ args s 0 0 (zq_A X) = Q
  obtain ⟨H, hH⟩ : ∃ H, H = s.heap := ⟨_, rfl⟩
  obtain ⟨locs, hlo⟩ : ∃ x : List Loc, x = [] := ⟨_, rfl⟩
  rw [show W p l e R s m args below meth c s.heap [] 0 0 Q = W p l e R s m args below meth c H locs 0 0 Q by rw [hH, hlo]]
  have hM : zq_hm X (zk, zn) I H := by rw [hH]; exact hM
  have hS : va_S (zq_A X) s.heap H locs := by rw [hH, hlo]; exact hS
  clear hH hlo
  refine lv_aload_n hx hb dX10_fare_0 rfl (lv_at hl 0 rfl) ?_
  refine lv_iload_n hx hb dX10_fare_1 rfl (lv_at hl 1 rfl) ?_
  refine zq_pcalli (zq_rV (As := [.int p1]) (rest := []) E hZ hM k_h0 (c_X10_hasShip l X zk (zn) I L h0 k_h0 p1) zmX10_68 zM_X10_hasShip (hro (0) 2 (by first | decide | omega) (by decide)) ⟨by decide, by decide⟩ rfl hl.1 rfl rfl (Nat.le_of_ble_eq_true rfl) dX10_fare_2) hS (fun x102 H locs h101 hM hS => ?_)
  obtain ⟨p103, p104⟩ := h101
  refine lv_if_eq (tgt := 40) hx hb dX10_fare_5 (by decide) (fun b105 => ?_) (fun b105 => ?_)
  · have b105 := zi_eq b105 (rfl : x102.toInt = x102.toInt) (zl_0 : (0 : Int32).toInt = 0)
    refine lv_iconst (v := 0) hx hb dX10_fare_40 (by decide +kernel) ?_
    subst hQ
    exact zq_iret E hr hZ hM hS ⟨rfl, trivial⟩ hlocks dX10_fare_41
  · have b105 := zi_ne b105 (rfl : x102.toInt = x102.toInt) (zl_0 : (0 : Int32).toInt = 0)
    refine lv_aload_n hx hb dX10_fare_8 rfl (lv_at hl 0 rfl) ?_
    refine zq_getr E hM k_h0 (zFX10_17 E hZ) ⟨by decide, by decide, by decide, rfl⟩ dX10_fare_9 ?_
    have k106 : zq_k X (zq_r X h0 8) = 31 := zq_lk L.1 k_h0 rfl (by decide)
    refine lv_iload_n hx hb dX10_fare_12 rfl (lv_at hl 1 rfl) ?_
    refine zq_rald (n := 3) (t := 7) (j := (p1.toNatClampNeg)) E hZ hM k106 ⟨by decide, rfl⟩ ⟨rfl, by decide, by decide⟩ ⟨by omega, by omega⟩ rfl dX10_fare_13 ?_
    have k107 : zq_k X (zq_r X (zq_r X h0 8) (p1.toNatClampNeg)) = 5 := zq_lay_a L.1 k106 (n := 3) (zq_inn (i := p1) (n := 3) ⟨by omega, by omega⟩) (by decide) (by decide)
    refine zq_gn E hM k107 (zFX10_87 E hZ) (Or.inl ⟨by decide, by decide, by decide, rfl⟩) dX10_fare_14 (fun x108 ex108 gx108 => ?_)
    replace gx108 : (-1) ≤ x108.toInt ∧ x108.toInt ≤ 99 := gx108
    refine lv_iload_n hx hb dX10_fare_17 rfl (lv_at hl 2 rfl) ?_
    refine lv_iload_n hx hb dX10_fare_18 rfl (lv_at hl 3 rfl) ?_
    have J35 : ∀ (ls : Array Slot) (j112 : Int32), (lv_has ls 4 [(0, .ref h0), (1, .int p1), (2, .int p2), (3, .int p3)]) → W p l e R s m args below meth c H locs 0 0 Q (F0 m 35 ls [.int j112, .int p2, .int x108]) := by
      intro ls j112 hl
      refine lv_imul hx hb dX10_fare_35 ?_
      refine lv_topi (fun x115 ex115 => ?_)
      refine lv_iadd hx hb dX10_fare_36 ?_
      refine lv_topi (fun x116 ex116 => ?_)
      refine lv_goto (tgt := 41) hx hb dX10_fare_37 (by decide) ?_
      subst hQ
      exact zq_iret E hr hZ hM hS ⟨rfl, trivial⟩ hlocks dX10_fare_41
    refine lv_if_eq (tgt := 31) hx hb dX10_fare_19 (by decide) (fun b117 => ?_) (fun b117 => ?_)
    · have b117 := zi_eq b117 (rfl : p3.toInt = p3.toInt) (zl_0 : (0 : Int32).toInt = 0)
      refine lv_aload_n hx hb dX10_fare_31 rfl (lv_at hl 0 rfl) ?_
      refine zq_gn E hM k_h0 (zFX10_37 E hZ) (Or.inl ⟨by decide, by decide, by decide, rfl⟩) dX10_fare_32 (fun x118 ex118 gx118 => ?_)
      clear gx118
      exact J35 ls x118 (lv_sub hl [0, 1, 2, 3] rfl)
    · have b117 := zi_ne b117 (rfl : p3.toInt = p3.toInt) (zl_0 : (0 : Int32).toInt = 0)
      refine lv_aload_n hx hb dX10_fare_22 rfl (lv_at hl 0 rfl) ?_
      refine zq_gn E hM k_h0 (zFX10_37 E hZ) (Or.inl ⟨by decide, by decide, by decide, rfl⟩) dX10_fare_23 (fun x119 ex119 gx119 => ?_)
      clear gx119
      refine lv_iconst (v := 1) hx hb dX10_fare_26 (by decide +kernel) ?_
      refine lv_iadd hx hb dX10_fare_27 ?_
      refine lv_topi (fun x120 ex120 => ?_)
      refine lv_goto (tgt := 35) hx hb dX10_fare_28 (by decide) ?_
      exact J35 ls x120 (lv_sub hl [0, 1, 2, 3] rfl)
set_option maxHeartbeats 8000000 in
set_option maxRecDepth 100000 in
theorem c_X10_canSail (l : Launch) (X : zq_X) (zk zn : Nat) (I : zq_M) (L : zq_L X)  (h0 : Nat) (k_h0 : zq_k X h0 = 8) (p1 : Int32) (p2 : Int32) (p3 : Int32) (p4 : Int32) (g_p4 : 0 ≤ p4.toInt ∧ p4.toInt ≤ 1) : Met l yX10_canSail (zt_w yX10_canSail cX10_canSail 5 (some .boolean)) (zq_rm (2)) (va_Pc [.ref h0, .int p1, .int p2, .int p3, .int p4] (zq_W X (zk, zn) I)) (va_Qi (fun (r : Int32) I2 => I2 = I ∧ (0 ≤ r.toInt ∧ r.toInt ≤ 1) ∧ (r.toInt = 0 ∨ (0 ≤ p1.toInt ∧ p1.toInt ≤ 2 ∧ 0 ≤ p2.toInt ∧ p2.toInt ≤ 3 ∧ 1 ≤ p3.toInt ∧ p3.toInt ≤ 99))) (zq_E X (zk, zn)) (zq_A X)) 0 0 (zq_A X) := by
  refine Met.ofW (cc := cX10_canSail) (maxL := 5) (ret := (some .boolean)) (by decide) rfl ?_
  intro p e s m args below meth c s₁ B hml hv
  obtain ⟨hargs, hM, hZ⟩ := hv
  have hown : s.vm.findClass RX10 = some m.cls := findClass_of_methodNamed B.named
  have hts := atoms_spec (ws := zt_w yX10_canSail cX10_canSail 5 (some .boolean)) B.pre
  have E : CallFix p m c cX10_canSail 5 s args (Cond.code yX10_canSail cX10_canSail 5 (some .boolean) :: zt) RX10 := ⟨B.exec, B.bytes, hml, hown, hts⟩
  have hx := B.exec
  have hb := B.bytes
  have hr := B.returns
  have hlocks := B.notSynchronized
  clear B
  have hS : va_S (zq_A X) s.heap s.heap [] := va_S.rf
  have hl := lv_entry ([.ref h0, .int p1, .int p2, .int p3, .int p4]) (n := 5) (by exact Nat.le_of_ble_eq_true rfl)
  have hg : entryFrame m args 5 = F0 m 0 ((lg_sl ([.ref h0, .int p1, .int p2, .int p3, .int p4]) ++ List.replicate (5 - (lg_sl ([.ref h0, .int p1, .int p2, .int p3, .int p4])).length) Slot.unset).toArray) [] := by rw [hargs]; exact lg_entry_eq m ([.ref h0, .int p1, .int p2, .int p3, .int p4]) 5
  rw [hg]
  clear hg hargs
  generalize (lg_sl ([.ref h0, .int p1, .int p2, .int p3, .int p4]) ++ List.replicate (5 - (lg_sl ([.ref h0, .int p1, .int p2, .int p3, .int p4])).length) Slot.unset).toArray = ls at hl ⊢
  have hl : lv_has ls 5 [(0, .ref h0), (1, .int p1), (2, .int p2), (3, .int p3), (4, .int p4)] := by exact hl
  obtain ⟨R, hRm⟩ : ∃ R : Room, R = (headSpec (zt_w yX10_canSail cX10_canSail 5 (some .boolean)) (zq_rm (2))).room := ⟨_, rfl⟩
  rw [← hRm]
  have hro : ∀ d q : Nat, d + 1 ≤ 2 → q ≤ 45 → zq_rok d q R := fun d q h1 h2 => by rw [hRm]; exact zq_rokI h1 h2
  generalize hQ : MQ below _ args s 0 0 (zq_A X) = Q
  obtain ⟨H, hH⟩ : ∃ H, H = s.heap := ⟨_, rfl⟩
  obtain ⟨locs, hlo⟩ : ∃ x : List Loc, x = [] := ⟨_, rfl⟩
  rw [show W p l e R s m args below meth c s.heap [] 0 0 Q = W p l e R s m args below meth c H locs 0 0 Q by rw [hH, hlo]]
  have hM : zq_hm X (zk, zn) I H := by rw [hH]; exact hM
  have hS : va_S (zq_A X) s.heap H locs := by rw [hH, hlo]; exact hS
  clear hH hlo
  refine lv_aload_n hx hb dX10_canSail_0 rfl (lv_at hl 0 rfl) ?_
  refine lv_iload_n hx hb dX10_canSail_1 rfl (lv_at hl 1 rfl) ?_
  refine zq_pcalli (zq_rV (As := [.int p1]) (rest := []) E hZ hM k_h0 (c_X10_isAtHome l X zk (zn) I L h0 k_h0 p1) zmX10_84 zM_X10_isAtHome (hro (1) 2 (by first | decide | omega) (by decide)) ⟨by decide, by decide⟩ rfl hl.1 rfl rfl (Nat.le_of_ble_eq_true rfl) dX10_canSail_2) hS (fun x102 H locs h101 hM hS => ?_)
  obtain ⟨p103, p104⟩ := h101
  refine lv_if_eq (tgt := 59) hx hb dX10_canSail_5 (by decide) (fun b105 => ?_) (fun b105 => ?_)
  · have b105 := zi_eq b105 (rfl : x102.toInt = x102.toInt) (zl_0 : (0 : Int32).toInt = 0)
    refine lv_iconst (v := 0) hx hb dX10_canSail_59 (by decide +kernel) ?_
    subst hQ
    exact zq_zret E hr hZ hM hS (show 0 ≤ (0 : Int32).toInt ∧ (0 : Int32).toInt ≤ 1 by decide +kernel) ⟨rfl, (by have := zl_0; omega), (by have := zl_0; omega)⟩ hlocks dX10_canSail_60
  · have b105 := zi_ne b105 (rfl : x102.toInt = x102.toInt) (zl_0 : (0 : Int32).toInt = 0)
    refine lv_aload_n hx hb dX10_canSail_8 rfl (lv_at hl 0 rfl) ?_
    refine lv_iload_n hx hb dX10_canSail_9 rfl (lv_at hl 2 rfl) ?_
    refine zq_pcalli (zq_rV (As := [.int p2]) (rest := []) E hZ hM k_h0 (c_X10_hasTown l X zk (zn) I L h0 k_h0 p2) zmX10_99 zM_X10_hasTown (hro (0) 2 (by first | decide | omega) (by decide)) ⟨by decide, by decide⟩ rfl hl.1 rfl rfl (Nat.le_of_ble_eq_true rfl) dX10_canSail_10) hS (fun x107 H locs h106 hM hS => ?_)
    obtain ⟨p108, p109, p110⟩ := h106
    refine lv_if_eq (tgt := 59) hx hb dX10_canSail_13 (by decide) (fun b111 => ?_) (fun b111 => ?_)
    · have b111 := zi_eq b111 (rfl : x107.toInt = x107.toInt) (zl_0 : (0 : Int32).toInt = 0)
      refine lv_iconst (v := 0) hx hb dX10_canSail_59 (by decide +kernel) ?_
      subst hQ
      exact zq_zret E hr hZ hM hS (show 0 ≤ (0 : Int32).toInt ∧ (0 : Int32).toInt ≤ 1 by decide +kernel) ⟨rfl, (by have := zl_0; omega), (by have := zl_0; omega)⟩ hlocks dX10_canSail_60
    · have b111 := zi_ne b111 (rfl : x107.toInt = x107.toInt) (zl_0 : (0 : Int32).toInt = 0)
      refine lv_iload_n hx hb dX10_canSail_16 rfl (lv_at hl 3 rfl) ?_
      refine lv_iconst (v := 1) hx hb dX10_canSail_17 (by decide +kernel) ?_
      refine lv_aload_n hx hb dX10_canSail_18 rfl (lv_at hl 0 rfl) ?_
      refine zq_getr E hM k_h0 (zFX10_17 E hZ) ⟨by decide, by decide, by decide, rfl⟩ dX10_canSail_19 ?_
      have k112 : zq_k X (zq_r X h0 8) = 31 := zq_lk L.1 k_h0 rfl (by decide)
      refine lv_iload_n hx hb dX10_canSail_22 rfl (lv_at hl 1 rfl) ?_
      refine zq_rald (n := 3) (t := 7) (j := (p1.toNatClampNeg)) E hZ hM k112 ⟨by decide, rfl⟩ ⟨rfl, by decide, by decide⟩ ⟨by omega, by omega⟩ rfl dX10_canSail_23 ?_
      have k113 : zq_k X (zq_r X (zq_r X h0 8) (p1.toNatClampNeg)) = 5 := zq_lay_a L.1 k112 (n := 3) (zq_inn (i := p1) (n := 3) ⟨by omega, by omega⟩) (by decide) (by decide)
      refine zq_gn E hM k113 (zFX10_90 E hZ) (Or.inl ⟨by decide, by decide, by decide, rfl⟩) dX10_canSail_24 (fun x114 ex114 gx114 => ?_)
      replace gx114 : (-1) ≤ x114.toInt ∧ x114.toInt ≤ 99 := gx114
      refine lv_aload_n hx hb dX10_canSail_27 rfl (lv_at hl 0 rfl) ?_
      refine zq_gn E hM k_h0 (zFX10_40 E hZ) (Or.inl ⟨by decide, by decide, by decide, rfl⟩) dX10_canSail_28 (fun x115 ex115 gx115 => ?_)
      clear gx115
      refine W.eq (g2 := F0 m 31 ls [.int x115, .int x114, .int (1 : Int32), .int p3]) rfl ?_
      refine zq_pcalli (zq_rS (As := [.int x114, .int x115]) (rest := [.int (1 : Int32), .int p3]) E hZ hM (c_J9_min_7cf53 l X zk (zn) I L x114 x115) zmX10_93 zM_J9_min_7cf53 (hro (0) 2 (by first | decide | omega) (by decide)) hl.1 rfl rfl (Nat.le_of_ble_eq_true rfl) dX10_canSail_31) hS (fun x117 H locs h116 hM hS => ?_)
      have p118 := h116
      refine zq_pcalli (zq_rN (As := [.int p3, .int (1 : Int32), .int x117]) (rest := []) E hZ hM (c_X11_isWithin l X zk (zn) I L p3 (1 : Int32) x117) hZ.2.2.2.2.1 zM_X11_isWithin (hro (0) 3 (by first | decide | omega) (by decide)) hl.1 rfl rfl (Nat.le_of_ble_eq_true rfl) dX10_canSail_34) hS (fun x120 H locs h119 hM hS => ?_)
      obtain ⟨p121, p122⟩ := h119
      have := zl_1
      refine lv_if_eq (tgt := 59) hx hb dX10_canSail_37 (by decide) (fun b123 => ?_) (fun b123 => ?_)
      · have b123 := zi_eq b123 (rfl : x120.toInt = x120.toInt) (zl_0 : (0 : Int32).toInt = 0)
        refine lv_iconst (v := 0) hx hb dX10_canSail_59 (by decide +kernel) ?_
        subst hQ
        exact zq_zret E hr hZ hM hS (show 0 ≤ (0 : Int32).toInt ∧ (0 : Int32).toInt ≤ 1 by decide +kernel) ⟨rfl, (by have := zl_0; omega), (by have := zl_0; omega)⟩ hlocks dX10_canSail_60
      · have b123 := zi_ne b123 (rfl : x120.toInt = x120.toInt) (zl_0 : (0 : Int32).toInt = 0)
        refine lv_aload_n hx hb dX10_canSail_40 rfl (lv_at hl 0 rfl) ?_
        refine lv_iload_n hx hb dX10_canSail_41 rfl (lv_at hl 1 rfl) ?_
        refine lv_iload_n hx hb dX10_canSail_42 rfl (lv_at hl 3 rfl) ?_
        refine lv_iload hx hb dX10_canSail_43 (lv_at hl 4 rfl) ?_
        refine zq_pcalli (zq_rV (As := [.int p1, .int p3, .int p4]) (rest := []) E hZ hM k_h0 (c_X10_fare l X zk (zn) I L h0 k_h0 p1 p3 p4 ⟨by omega, by omega⟩) zmX10_106 zM_X10_fare (hro (1) 4 (by first | decide | omega) (by decide)) ⟨by decide, by decide⟩ rfl hl.1 rfl rfl (Nat.le_of_ble_eq_true rfl) dX10_canSail_45) hS (fun x125 H locs h124 hM hS => ?_)
        clear h124
        refine lv_aload_n hx hb dX10_canSail_48 rfl (lv_at hl 0 rfl) ?_
        refine zq_gn E hM k_h0 (zFX10_33 E hZ) (Or.inl ⟨by decide, by decide, by decide, rfl⟩) dX10_canSail_49 (fun x126 ex126 gx126 => ?_)
        clear gx126
        refine lv_icmp_gt (tgt := 59) hx hb dX10_canSail_52 (by decide) (fun b127 => ?_) (fun b127 => ?_)
        · have b127 := zi_lt b127 (rfl : x126.toInt = x126.toInt) (rfl : x125.toInt = x125.toInt)
          refine lv_iconst (v := 0) hx hb dX10_canSail_59 (by decide +kernel) ?_
          subst hQ
          exact zq_zret E hr hZ hM hS (show 0 ≤ (0 : Int32).toInt ∧ (0 : Int32).toInt ≤ 1 by decide +kernel) ⟨rfl, (by have := zl_0; omega), (by have := zl_0; omega)⟩ hlocks dX10_canSail_60
        · have b127 := zi_nlt b127 (rfl : x126.toInt = x126.toInt) (rfl : x125.toInt = x125.toInt)
          refine lv_iconst (v := 1) hx hb dX10_canSail_55 (by decide +kernel) ?_
          refine lv_goto (tgt := 60) hx hb dX10_canSail_56 (by decide) ?_
          subst hQ
          exact zq_zret E hr hZ hM hS (show 0 ≤ (1 : Int32).toInt ∧ (1 : Int32).toInt ≤ 1 by decide +kernel) ⟨rfl, (by have := zl_1; omega), (by have := zl_1; omega)⟩ hlocks dX10_canSail_60
def zw_X10_setSail : List (Nat × Nat) := [(5, 2), (5, 3), (5, 4), (5, 5), (8, 1), (8, 3)]
set_option maxHeartbeats 8000000 in
set_option maxRecDepth 100000 in
theorem c_X10_setSail (l : Launch) (X : zq_X) (zk zn : Nat) (I : zq_M) (L : zq_L X)  (h0 : Nat) (k_h0 : zq_k X h0 = 8) (p1 : Int32) (p2 : Int32) (p3 : Int32) (p4 : Int32) (g_p3 : 0 ≤ p3.toInt ∧ p3.toInt ≤ 99) (g_p4 : 0 ≤ p4.toInt ∧ p4.toInt ≤ 1) : Met l yX10_setSail (zt_w yX10_setSail cX10_setSail 5 none) (zq_rm (2)) (va_Pc [.ref h0, .int p1, .int p2, .int p3, .int p4] (zq_W X (zk, zn) I)) (va_Qv (fun I2 => zq_fr (zf X zw_X10_setSail (fun b => zq_o X b = zq_o X h0)) I I2) (zq_E X (zk, zn)) (zq_A X)) 0 0 (zq_A X) := by
  refine Met.ofW (cc := cX10_setSail) (maxL := 5) (ret := none) (by decide) rfl ?_
  intro p e s m args below meth c s₁ B hml hv
  obtain ⟨hargs, hM, hZ⟩ := hv
  have hown : s.vm.findClass RX10 = some m.cls := findClass_of_methodNamed B.named
  have hts := atoms_spec (ws := zt_w yX10_setSail cX10_setSail 5 none) B.pre
  have E : CallFix p m c cX10_setSail 5 s args (Cond.code yX10_setSail cX10_setSail 5 none :: zt) RX10 := ⟨B.exec, B.bytes, hml, hown, hts⟩
  have hx := B.exec
  have hb := B.bytes
  have hr := B.returns
  have hlocks := B.notSynchronized
  clear B
  have hS : va_S (zq_A X) s.heap s.heap [] := va_S.rf
  have hR : zq_fr (zf X zw_X10_setSail (fun b => zq_o X b = zq_o X h0)) I I := zq_fr.rf
  have hl := lv_entry ([.ref h0, .int p1, .int p2, .int p3, .int p4]) (n := 5) (by exact Nat.le_of_ble_eq_true rfl)
  have hg : entryFrame m args 5 = F0 m 0 ((lg_sl ([.ref h0, .int p1, .int p2, .int p3, .int p4]) ++ List.replicate (5 - (lg_sl ([.ref h0, .int p1, .int p2, .int p3, .int p4])).length) Slot.unset).toArray) [] := by rw [hargs]; exact lg_entry_eq m ([.ref h0, .int p1, .int p2, .int p3, .int p4]) 5
  rw [hg]
  clear hg hargs
  generalize (lg_sl ([.ref h0, .int p1, .int p2, .int p3, .int p4]) ++ List.replicate (5 - (lg_sl ([.ref h0, .int p1, .int p2, .int p3, .int p4])).length) Slot.unset).toArray = ls at hl ⊢
  have hl : lv_has ls 5 [(0, .ref h0), (1, .int p1), (2, .int p2), (3, .int p3), (4, .int p4)] := by exact hl
  obtain ⟨R, hRm⟩ : ∃ R : Room, R = (headSpec (zt_w yX10_setSail cX10_setSail 5 none) (zq_rm (2))).room := ⟨_, rfl⟩
  rw [← hRm]
  have hro : ∀ d q : Nat, d + 1 ≤ 2 → q ≤ 45 → zq_rok d q R := fun d q h1 h2 => by rw [hRm]; exact zq_rokI h1 h2
  generalize hQ : MQ below _ args s 0 0 (zq_A X) = Q
  obtain ⟨H, hH⟩ : ∃ H, H = s.heap := ⟨_, rfl⟩
  obtain ⟨locs, hlo⟩ : ∃ x : List Loc, x = [] := ⟨_, rfl⟩
  rw [show W p l e R s m args below meth c s.heap [] 0 0 Q = W p l e R s m args below meth c H locs 0 0 Q by rw [hH, hlo]]
  have hM : zq_hm X (zk, zn) I H := by rw [hH]; exact hM
  have hS : va_S (zq_A X) s.heap H locs := by rw [hH, hlo]; exact hS
  clear hH hlo
  refine lv_aload_n hx hb dX10_setSail_0 rfl (lv_at hl 0 rfl) ?_
  refine lv_iload_n hx hb dX10_setSail_1 rfl (lv_at hl 1 rfl) ?_
  refine zq_pcalli (zq_rV (As := [.int p1]) (rest := []) E hZ hM k_h0 (c_X10_hasShip l X zk (zn) I L h0 k_h0 p1) zmX10_68 zM_X10_hasShip (hro (0) 2 (by first | decide | omega) (by decide)) ⟨by decide, by decide⟩ rfl hl.1 rfl rfl (Nat.le_of_ble_eq_true rfl) dX10_setSail_2) hS (fun x102 H locs h101 hM hS => ?_)
  obtain ⟨p103, p104⟩ := h101
  refine lv_if_eq (tgt := 16) hx hb dX10_setSail_5 (by decide) (fun b105 => ?_) (fun b105 => ?_)
  · have b105 := zi_eq b105 (rfl : x102.toInt = x102.toInt) (zl_0 : (0 : Int32).toInt = 0)
    subst hQ
    exact zq_vret E hr hZ hM hS hR hlocks dX10_setSail_16
  · have b105 := zi_ne b105 (rfl : x102.toInt = x102.toInt) (zl_0 : (0 : Int32).toInt = 0)
    refine lv_aload_n hx hb dX10_setSail_8 rfl (lv_at hl 0 rfl) ?_
    refine lv_iload_n hx hb dX10_setSail_9 rfl (lv_at hl 2 rfl) ?_
    refine zq_pcalli (zq_rV (As := [.int p2]) (rest := []) E hZ hM k_h0 (c_X10_hasTown l X zk (zn) I L h0 k_h0 p2) zmX10_99 zM_X10_hasTown (hro (0) 2 (by first | decide | omega) (by decide)) ⟨by decide, by decide⟩ rfl hl.1 rfl rfl (Nat.le_of_ble_eq_true rfl) dX10_setSail_10) hS (fun x107 H locs h106 hM hS => ?_)
    obtain ⟨p108, p109, p110⟩ := h106
    refine lv_if_ne (tgt := 17) hx hb dX10_setSail_13 (by decide) (fun b111 => ?_) (fun b111 => ?_)
    · have b111 := zi_ne b111 (rfl : x107.toInt = x107.toInt) (zl_0 : (0 : Int32).toInt = 0)
      refine lv_aload_n hx hb dX10_setSail_17 rfl (lv_at hl 0 rfl) ?_
      refine lv_dup hx hb dX10_setSail_18 rfl ?_
      refine zq_gn E hM k_h0 (zFX10_33 E hZ) (Or.inl ⟨by decide, by decide, by decide, rfl⟩) dX10_setSail_19 (fun x112 ex112 gx112 => ?_)
      clear gx112
      refine lv_aload_n hx hb dX10_setSail_22 rfl (lv_at hl 0 rfl) ?_
      refine lv_iload_n hx hb dX10_setSail_23 rfl (lv_at hl 1 rfl) ?_
      refine lv_iload_n hx hb dX10_setSail_24 rfl (lv_at hl 3 rfl) ?_
      refine lv_iload hx hb dX10_setSail_25 (lv_at hl 4 rfl) ?_
      refine zq_pcalli (zq_rV (As := [.int p1, .int p3, .int p4]) (rest := [.int x112, .ref h0]) E hZ hM k_h0 (c_X10_fare l X zk (zn) I L h0 k_h0 p1 p3 p4 ⟨by omega, by omega⟩) zmX10_106 zM_X10_fare (hro (1) 4 (by first | decide | omega) (by decide)) ⟨by decide, by decide⟩ rfl hl.1 rfl rfl (Nat.le_of_ble_eq_true rfl) dX10_setSail_27) hS (fun x114 H locs h113 hM hS => ?_)
      clear h113
      refine lv_isub hx hb dX10_setSail_30 ?_
      refine lv_topi (fun x115 ex115 => ?_)
      refine W.eq (g2 := F0 m 31 ls [.int x115, .ref h0]) rfl ?_
      refine zq_pn E hM hS k_h0 (zGX10_33 E hZ) ⟨by decide, by decide, by decide, rfl⟩ (zq_any _) dX10_setSail_31 (fun I116 H locs eI116 hM hS => ?_)
      have hR := zq_fr.putE hR eI116 (zf_iw k_h0 rfl ((rfl : zq_o X h0 = zq_o X h0)))
      refine lv_aload_n hx hb dX10_setSail_34 rfl (lv_at hl 0 rfl) ?_
      refine lv_dup hx hb dX10_setSail_35 rfl ?_
      refine zq_gn E hM k_h0 (zFX10_40 E hZ) (Or.inl ⟨by decide, by decide, by decide, rfl⟩) dX10_setSail_36 (fun x117 ex117 gx117 => ?_)
      clear gx117
      refine lv_iload_n hx hb dX10_setSail_39 rfl (lv_at hl 3 rfl) ?_
      refine lv_isub hx hb dX10_setSail_40 ?_
      refine lv_topi (fun x118 ex118 => ?_)
      refine zq_pn E hM hS k_h0 (zGX10_40 E hZ) ⟨by decide, by decide, by decide, rfl⟩ (zq_any _) dX10_setSail_41 (fun I119 H locs eI119 hM hS => ?_)
      have hR := zq_fr.putE hR eI119 (zf_iw k_h0 rfl ((rfl : zq_o X h0 = zq_o X h0)))
      refine lv_aload_n hx hb dX10_setSail_44 rfl (lv_at hl 0 rfl) ?_
      refine zq_getr E hM k_h0 (zFX10_17 E hZ) ⟨by decide, by decide, by decide, rfl⟩ dX10_setSail_45 ?_
      have k120 : zq_k X (zq_r X h0 8) = 31 := zq_lk L.1 k_h0 rfl (by decide)
      refine lv_iload_n hx hb dX10_setSail_48 rfl (lv_at hl 1 rfl) ?_
      refine W.eq (g2 := F0 m 49 ls [.int p1, .ref (zq_r X h0 8)]) rfl ?_
      refine zq_rald (n := 3) (t := 7) (j := (p1.toNatClampNeg)) E hZ hM k120 ⟨by decide, rfl⟩ ⟨rfl, by decide, by decide⟩ ⟨by omega, by omega⟩ rfl dX10_setSail_49 ?_
      have k121 : zq_k X (zq_r X (zq_r X h0 8) (p1.toNatClampNeg)) = 5 := zq_lay_a L.1 k120 (n := 3) (zq_inn (i := p1) (n := 3) ⟨by omega, by omega⟩) (by decide) (by decide)
      refine lv_iload_n hx hb dX10_setSail_50 rfl (lv_at hl 2 rfl) ?_
      refine zq_pn E hM hS k121 (zGX10_75 E hZ) ⟨by decide, by decide, by decide, rfl⟩ (zq_any _) dX10_setSail_51 (fun I122 H locs eI122 hM hS => ?_)
      have hR := zq_fr.putE hR eI122 (zf_iw k121 rfl (((zq_own_a L.2.1 k120 (n := 3) (zq_inn (i := p1) (n := 3) ⟨by omega, by omega⟩) (by decide)).trans (((L.2.1 _ _ _ k_h0 (by decide) rfl).trans ((rfl : zq_o X h0 = zq_o X h0)))))))
      refine lv_aload_n hx hb dX10_setSail_54 rfl (lv_at hl 0 rfl) ?_
      refine zq_getr E hM k_h0 (zFX10_17 E hZ) ⟨by decide, by decide, by decide, rfl⟩ dX10_setSail_55 ?_
      have k123 : zq_k X (zq_r X h0 8) = 31 := zq_lk L.1 k_h0 rfl (by decide)
      refine lv_iload_n hx hb dX10_setSail_58 rfl (lv_at hl 1 rfl) ?_
      refine zq_rald (n := 3) (t := 7) (j := (p1.toNatClampNeg)) E hZ hM k123 ⟨by decide, rfl⟩ ⟨rfl, by decide, by decide⟩ ⟨by omega, by omega⟩ rfl dX10_setSail_59 ?_
      have k124 : zq_k X (zq_r X (zq_r X h0 8) (p1.toNatClampNeg)) = 5 := zq_lay_a L.1 k123 (n := 3) (zq_inn (i := p1) (n := 3) ⟨by omega, by omega⟩) (by decide) (by decide)
      refine lv_aload_n hx hb dX10_setSail_60 rfl (lv_at hl 0 rfl) ?_
      refine zq_getr E hM k_h0 (zFX10_23 E hZ) ⟨by decide, by decide, by decide, rfl⟩ dX10_setSail_61 ?_
      have k125 : zq_k X (zq_r X h0 9) = 32 := zq_lk L.1 k_h0 rfl (by decide)
      refine lv_iload_n hx hb dX10_setSail_64 rfl (lv_at hl 2 rfl) ?_
      refine W.eq (g2 := F0 m 65 ls [.int p2, .ref (zq_r X h0 9), .ref (zq_r X (zq_r X h0 8) (p1.toNatClampNeg))]) rfl ?_
      refine zq_rald (n := 4) (t := 8) (j := (p2.toNatClampNeg)) E hZ hM k125 ⟨by decide, rfl⟩ ⟨rfl, by decide, by decide⟩ ⟨by omega, by omega⟩ rfl dX10_setSail_65 ?_
      have k126 : zq_k X (zq_r X (zq_r X h0 9) (p2.toNatClampNeg)) = 7 := zq_lay_a L.1 k125 (n := 4) (zq_inn (i := p2) (n := 4) ⟨by omega, by omega⟩) (by decide) (by decide)
      refine zq_gn E hM k126 (zFX10_110 E hZ) (Or.inl ⟨by decide, by decide, by decide, rfl⟩) dX10_setSail_66 (fun x127 ex127 gx127 => ?_)
      replace gx127 : (-1) ≤ x127.toInt ∧ x127.toInt ≤ 6 := gx127
      refine zq_pn E hM hS k124 (zGX10_72 E hZ) ⟨by decide, by decide, by decide, rfl⟩ (zq_any _) dX10_setSail_69 (fun I128 H locs eI128 hM hS => ?_)
      have hR := zq_fr.putE hR eI128 (zf_iw k124 rfl (((zq_own_a L.2.1 k123 (n := 3) (zq_inn (i := p1) (n := 3) ⟨by omega, by omega⟩) (by decide)).trans (((L.2.1 _ _ _ k_h0 (by decide) rfl).trans ((rfl : zq_o X h0 = zq_o X h0)))))))
      refine lv_aload_n hx hb dX10_setSail_72 rfl (lv_at hl 0 rfl) ?_
      refine zq_getr E hM k_h0 (zFX10_17 E hZ) ⟨by decide, by decide, by decide, rfl⟩ dX10_setSail_73 ?_
      have k129 : zq_k X (zq_r X h0 8) = 31 := zq_lk L.1 k_h0 rfl (by decide)
      refine lv_iload_n hx hb dX10_setSail_76 rfl (lv_at hl 1 rfl) ?_
      refine zq_rald (n := 3) (t := 7) (j := (p1.toNatClampNeg)) E hZ hM k129 ⟨by decide, rfl⟩ ⟨rfl, by decide, by decide⟩ ⟨by omega, by omega⟩ rfl dX10_setSail_77 ?_
      have k130 : zq_k X (zq_r X (zq_r X h0 8) (p1.toNatClampNeg)) = 5 := zq_lay_a L.1 k129 (n := 3) (zq_inn (i := p1) (n := 3) ⟨by omega, by omega⟩) (by decide) (by decide)
      refine lv_iload_n hx hb dX10_setSail_78 rfl (lv_at hl 3 rfl) ?_
      refine zq_pn E hM hS k130 (zGX10_78 E hZ) ⟨by decide, by decide, by decide, rfl⟩ (show 0 ≤ p3.toInt ∧ p3.toInt ≤ 99 from ⟨by omega, by omega⟩) dX10_setSail_79 (fun I131 H locs eI131 hM hS => ?_)
      have hR := zq_fr.putE hR eI131 (zf_iw k130 rfl (((zq_own_a L.2.1 k129 (n := 3) (zq_inn (i := p1) (n := 3) ⟨by omega, by omega⟩) (by decide)).trans (((L.2.1 _ _ _ k_h0 (by decide) rfl).trans ((rfl : zq_o X h0 = zq_o X h0)))))))
      refine lv_aload_n hx hb dX10_setSail_82 rfl (lv_at hl 0 rfl) ?_
      refine W.eq (g2 := F0 m 83 ls [.ref h0]) rfl ?_
      refine zq_getr E hM k_h0 (zFX10_17 E hZ) ⟨by decide, by decide, by decide, rfl⟩ dX10_setSail_83 ?_
      have k132 : zq_k X (zq_r X h0 8) = 31 := zq_lk L.1 k_h0 rfl (by decide)
      refine lv_iload_n hx hb dX10_setSail_86 rfl (lv_at hl 1 rfl) ?_
      refine zq_rald (n := 3) (t := 7) (j := (p1.toNatClampNeg)) E hZ hM k132 ⟨by decide, rfl⟩ ⟨rfl, by decide, by decide⟩ ⟨by omega, by omega⟩ rfl dX10_setSail_87 ?_
      have k133 : zq_k X (zq_r X (zq_r X h0 8) (p1.toNatClampNeg)) = 5 := zq_lay_a L.1 k132 (n := 3) (zq_inn (i := p1) (n := 3) ⟨by omega, by omega⟩) (by decide) (by decide)
      refine lv_iload hx hb dX10_setSail_88 (lv_at hl 4 rfl) ?_
      refine zq_pz E hM hS k133 (zGX10_113 E hZ) ⟨by decide, by decide, by decide, rfl⟩ (show 0 ≤ p4.toInt ∧ p4.toInt ≤ 1 from ⟨by omega, by omega⟩) rfl dX10_setSail_90 (fun I134 H locs eI134 hM hS => ?_)
      have hR := zq_fr.putE hR eI134 (zf_iw k133 rfl (((zq_own_a L.2.1 k132 (n := 3) (zq_inn (i := p1) (n := 3) ⟨by omega, by omega⟩) (by decide)).trans (((L.2.1 _ _ _ k_h0 (by decide) rfl).trans ((rfl : zq_o X h0 = zq_o X h0)))))))
      subst hQ
      exact zq_vret E hr hZ hM hS hR hlocks dX10_setSail_93
    · have b111 := zi_eq b111 (rfl : x107.toInt = x107.toInt) (zl_0 : (0 : Int32).toInt = 0)
      subst hQ
      exact zq_vret E hr hZ hM hS hR hlocks dX10_setSail_16
set_option maxHeartbeats 8000000 in
set_option maxRecDepth 100000 in
theorem c_X10_canBuild (l : Launch) (X : zq_X) (zk zn : Nat) (I : zq_M) (L : zq_L X)  (h0 : Nat) (k_h0 : zq_k X h0 = 8) (p1 : Int32)  : Met l yX10_canBuild (zt_w yX10_canBuild cX10_canBuild 2 (some .boolean)) (zq_rm (1)) (va_Pc [.ref h0, .int p1] (zq_W X (zk, zn) I)) (va_Qi (fun (r : Int32) I2 => I2 = I ∧ (0 ≤ r.toInt ∧ r.toInt ≤ 1) ∧ (r.toInt = 0 ∨ (0 ≤ p1.toInt ∧ p1.toInt ≤ 3))) (zq_E X (zk, zn)) (zq_A X)) 0 0 (zq_A X) := by
  refine Met.ofW (cc := cX10_canBuild) (maxL := 2) (ret := (some .boolean)) (by decide) rfl ?_
  intro p e s m args below meth c s₁ B hml hv
  obtain ⟨hargs, hM, hZ⟩ := hv
  have hown : s.vm.findClass RX10 = some m.cls := findClass_of_methodNamed B.named
  have hts := atoms_spec (ws := zt_w yX10_canBuild cX10_canBuild 2 (some .boolean)) B.pre
  have E : CallFix p m c cX10_canBuild 2 s args (Cond.code yX10_canBuild cX10_canBuild 2 (some .boolean) :: zt) RX10 := ⟨B.exec, B.bytes, hml, hown, hts⟩
  have hx := B.exec
  have hb := B.bytes
  have hr := B.returns
  have hlocks := B.notSynchronized
  clear B
  have hS : va_S (zq_A X) s.heap s.heap [] := va_S.rf
  have hl := lv_entry ([.ref h0, .int p1]) (n := 2) (by exact Nat.le_of_ble_eq_true rfl)
  have hg : entryFrame m args 2 = F0 m 0 ((lg_sl ([.ref h0, .int p1]) ++ List.replicate (2 - (lg_sl ([.ref h0, .int p1])).length) Slot.unset).toArray) [] := by rw [hargs]; exact lg_entry_eq m ([.ref h0, .int p1]) 2
  rw [hg]
  clear hg hargs
  generalize (lg_sl ([.ref h0, .int p1]) ++ List.replicate (2 - (lg_sl ([.ref h0, .int p1])).length) Slot.unset).toArray = ls at hl ⊢
  have hl : lv_has ls 2 [(0, .ref h0), (1, .int p1)] := by exact hl
  obtain ⟨R, hRm⟩ : ∃ R : Room, R = (headSpec (zt_w yX10_canBuild cX10_canBuild 2 (some .boolean)) (zq_rm (1))).room := ⟨_, rfl⟩
  rw [← hRm]
  have hro : ∀ d q : Nat, d + 1 ≤ 1 → q ≤ 45 → zq_rok d q R := fun d q h1 h2 => by rw [hRm]; exact zq_rokI h1 h2
  generalize hQ : MQ below _ args s 0 0 (zq_A X) = Q
  obtain ⟨H, hH⟩ : ∃ H, H = s.heap := ⟨_, rfl⟩
  obtain ⟨locs, hlo⟩ : ∃ x : List Loc, x = [] := ⟨_, rfl⟩
  rw [show W p l e R s m args below meth c s.heap [] 0 0 Q = W p l e R s m args below meth c H locs 0 0 Q by rw [hH, hlo]]
  have hM : zq_hm X (zk, zn) I H := by rw [hH]; exact hM
  have hS : va_S (zq_A X) s.heap H locs := by rw [hH, hlo]; exact hS
  clear hH hlo
  refine lv_aload_n hx hb dX10_canBuild_0 rfl (lv_at hl 0 rfl) ?_
  refine lv_iload_n hx hb dX10_canBuild_1 rfl (lv_at hl 1 rfl) ?_
  refine zq_pcalli (zq_rV (As := [.int p1]) (rest := []) E hZ hM k_h0 (c_X10_hasTown l X zk (zn) I L h0 k_h0 p1) zmX10_99 zM_X10_hasTown (hro (0) 2 (by first | decide | omega) (by decide)) ⟨by decide, by decide⟩ rfl hl.1 rfl rfl (Nat.le_of_ble_eq_true rfl) dX10_canBuild_2) hS (fun x102 H locs h101 hM hS => ?_)
  obtain ⟨p103, p104, p105⟩ := h101
  refine lv_if_eq (tgt := 33) hx hb dX10_canBuild_5 (by decide) (fun b106 => ?_) (fun b106 => ?_)
  · have b106 := zi_eq b106 (rfl : x102.toInt = x102.toInt) (zl_0 : (0 : Int32).toInt = 0)
    refine lv_iconst (v := 0) hx hb dX10_canBuild_33 (by decide +kernel) ?_
    subst hQ
    exact zq_zret E hr hZ hM hS (show 0 ≤ (0 : Int32).toInt ∧ (0 : Int32).toInt ≤ 1 by decide +kernel) ⟨rfl, (by have := zl_0; omega), (by have := zl_0; omega)⟩ hlocks dX10_canBuild_34
  · have b106 := zi_ne b106 (rfl : x102.toInt = x102.toInt) (zl_0 : (0 : Int32).toInt = 0)
    refine lv_aload_n hx hb dX10_canBuild_8 rfl (lv_at hl 0 rfl) ?_
    refine zq_getr E hM k_h0 (zFX10_23 E hZ) ⟨by decide, by decide, by decide, rfl⟩ dX10_canBuild_9 ?_
    have k107 : zq_k X (zq_r X h0 9) = 32 := zq_lk L.1 k_h0 rfl (by decide)
    refine lv_iload_n hx hb dX10_canBuild_12 rfl (lv_at hl 1 rfl) ?_
    refine zq_rald (n := 4) (t := 8) (j := (p1.toNatClampNeg)) E hZ hM k107 ⟨by decide, rfl⟩ ⟨rfl, by decide, by decide⟩ ⟨by omega, by omega⟩ rfl dX10_canBuild_13 ?_
    have k108 : zq_k X (zq_r X (zq_r X h0 9) (p1.toNatClampNeg)) = 7 := zq_lay_a L.1 k107 (n := 4) (zq_inn (i := p1) (n := 4) ⟨by omega, by omega⟩) (by decide) (by decide)
    refine zq_gn E hM k108 (zFX10_65 E hZ) (Or.inr ⟨by decide, by decide, by decide, rfl⟩) dX10_canBuild_14 (fun x109 ex109 gx109 => ?_)
    replace gx109 : 0 ≤ x109.toInt ∧ x109.toInt ≤ 1 := gx109
    refine lv_if_ne (tgt := 33) hx hb dX10_canBuild_17 (by decide) (fun b110 => ?_) (fun b110 => ?_)
    · have b110 := zi_ne b110 (rfl : x109.toInt = x109.toInt) (zl_0 : (0 : Int32).toInt = 0)
      refine lv_iconst (v := 0) hx hb dX10_canBuild_33 (by decide +kernel) ?_
      subst hQ
      exact zq_zret E hr hZ hM hS (show 0 ≤ (0 : Int32).toInt ∧ (0 : Int32).toInt ≤ 1 by decide +kernel) ⟨rfl, (by have := zl_0; omega), (by have := zl_0; omega)⟩ hlocks dX10_canBuild_34
    · have b110 := zi_eq b110 (rfl : x109.toInt = x109.toInt) (zl_0 : (0 : Int32).toInt = 0)
      refine lv_aload_n hx hb dX10_canBuild_20 rfl (lv_at hl 0 rfl) ?_
      refine zq_gn E hM k_h0 (zFX10_33 E hZ) (Or.inl ⟨by decide, by decide, by decide, rfl⟩) dX10_canBuild_21 (fun x111 ex111 gx111 => ?_)
      clear gx111
      refine lv_bipush (v := 100) hx hb dX10_canBuild_24 (by decide +kernel) ?_
      refine lv_icmp_lt (tgt := 33) hx hb dX10_canBuild_26 (by decide) (fun b112 => ?_) (fun b112 => ?_)
      · have b112 := zi_lt b112 (rfl : x111.toInt = x111.toInt) (zl_100 : (100 : Int32).toInt = 100)
        refine lv_iconst (v := 0) hx hb dX10_canBuild_33 (by decide +kernel) ?_
        subst hQ
        exact zq_zret E hr hZ hM hS (show 0 ≤ (0 : Int32).toInt ∧ (0 : Int32).toInt ≤ 1 by decide +kernel) ⟨rfl, (by have := zl_0; omega), (by have := zl_0; omega)⟩ hlocks dX10_canBuild_34
      · have b112 := zi_nlt b112 (rfl : x111.toInt = x111.toInt) (zl_100 : (100 : Int32).toInt = 100)
        refine lv_iconst (v := 1) hx hb dX10_canBuild_29 (by decide +kernel) ?_
        refine lv_goto (tgt := 34) hx hb dX10_canBuild_30 (by decide) ?_
        subst hQ
        exact zq_zret E hr hZ hM hS (show 0 ≤ (1 : Int32).toInt ∧ (1 : Int32).toInt ≤ 1 by decide +kernel) ⟨rfl, (by have := zl_1; omega), (by have := zl_1; omega)⟩ hlocks dX10_canBuild_34
def zw_X10_putHouse : List (Nat × Nat) := [(7, 5), (8, 1)]
set_option maxHeartbeats 8000000 in
set_option maxRecDepth 100000 in
theorem c_X10_putHouse (l : Launch) (X : zq_X) (zk zn : Nat) (I : zq_M) (L : zq_L X)  (h0 : Nat) (k_h0 : zq_k X h0 = 8) (p1 : Int32)  : Met l yX10_putHouse (zt_w yX10_putHouse cX10_putHouse 2 none) (zq_rm (1)) (va_Pc [.ref h0, .int p1] (zq_W X (zk, zn) I)) (va_Qv (fun I2 => zq_fr (zf X zw_X10_putHouse (fun b => zq_o X b = zq_o X h0)) I I2) (zq_E X (zk, zn)) (zq_A X)) 0 0 (zq_A X) := by
  refine Met.ofW (cc := cX10_putHouse) (maxL := 2) (ret := none) (by decide) rfl ?_
  intro p e s m args below meth c s₁ B hml hv
  obtain ⟨hargs, hM, hZ⟩ := hv
  have hown : s.vm.findClass RX10 = some m.cls := findClass_of_methodNamed B.named
  have hts := atoms_spec (ws := zt_w yX10_putHouse cX10_putHouse 2 none) B.pre
  have E : CallFix p m c cX10_putHouse 2 s args (Cond.code yX10_putHouse cX10_putHouse 2 none :: zt) RX10 := ⟨B.exec, B.bytes, hml, hown, hts⟩
  have hx := B.exec
  have hb := B.bytes
  have hr := B.returns
  have hlocks := B.notSynchronized
  clear B
  have hS : va_S (zq_A X) s.heap s.heap [] := va_S.rf
  have hR : zq_fr (zf X zw_X10_putHouse (fun b => zq_o X b = zq_o X h0)) I I := zq_fr.rf
  have hl := lv_entry ([.ref h0, .int p1]) (n := 2) (by exact Nat.le_of_ble_eq_true rfl)
  have hg : entryFrame m args 2 = F0 m 0 ((lg_sl ([.ref h0, .int p1]) ++ List.replicate (2 - (lg_sl ([.ref h0, .int p1])).length) Slot.unset).toArray) [] := by rw [hargs]; exact lg_entry_eq m ([.ref h0, .int p1]) 2
  rw [hg]
  clear hg hargs
  generalize (lg_sl ([.ref h0, .int p1]) ++ List.replicate (2 - (lg_sl ([.ref h0, .int p1])).length) Slot.unset).toArray = ls at hl ⊢
  have hl : lv_has ls 2 [(0, .ref h0), (1, .int p1)] := by exact hl
  obtain ⟨R, hRm⟩ : ∃ R : Room, R = (headSpec (zt_w yX10_putHouse cX10_putHouse 2 none) (zq_rm (1))).room := ⟨_, rfl⟩
  rw [← hRm]
  have hro : ∀ d q : Nat, d + 1 ≤ 1 → q ≤ 45 → zq_rok d q R := fun d q h1 h2 => by rw [hRm]; exact zq_rokI h1 h2
  generalize hQ : MQ below _ args s 0 0 (zq_A X) = Q
  obtain ⟨H, hH⟩ : ∃ H, H = s.heap := ⟨_, rfl⟩
  obtain ⟨locs, hlo⟩ : ∃ x : List Loc, x = [] := ⟨_, rfl⟩
  rw [show W p l e R s m args below meth c s.heap [] 0 0 Q = W p l e R s m args below meth c H locs 0 0 Q by rw [hH, hlo]]
  have hM : zq_hm X (zk, zn) I H := by rw [hH]; exact hM
  have hS : va_S (zq_A X) s.heap H locs := by rw [hH, hlo]; exact hS
  clear hH hlo
  refine lv_aload_n hx hb dX10_putHouse_0 rfl (lv_at hl 0 rfl) ?_
  refine lv_iload_n hx hb dX10_putHouse_1 rfl (lv_at hl 1 rfl) ?_
  refine zq_pcalli (zq_rV (As := [.int p1]) (rest := []) E hZ hM k_h0 (c_X10_hasTown l X zk (zn) I L h0 k_h0 p1) zmX10_99 zM_X10_hasTown (hro (0) 2 (by first | decide | omega) (by decide)) ⟨by decide, by decide⟩ rfl hl.1 rfl rfl (Nat.le_of_ble_eq_true rfl) dX10_putHouse_2) hS (fun x102 H locs h101 hM hS => ?_)
  obtain ⟨p103, p104, p105⟩ := h101
  refine lv_if_eq (tgt := 29) hx hb dX10_putHouse_5 (by decide) (fun b106 => ?_) (fun b106 => ?_)
  · have b106 := zi_eq b106 (rfl : x102.toInt = x102.toInt) (zl_0 : (0 : Int32).toInt = 0)
    subst hQ
    exact zq_vret E hr hZ hM hS hR hlocks dX10_putHouse_29
  · have b106 := zi_ne b106 (rfl : x102.toInt = x102.toInt) (zl_0 : (0 : Int32).toInt = 0)
    refine lv_aload_n hx hb dX10_putHouse_8 rfl (lv_at hl 0 rfl) ?_
    refine zq_getr E hM k_h0 (zFX10_23 E hZ) ⟨by decide, by decide, by decide, rfl⟩ dX10_putHouse_9 ?_
    have k107 : zq_k X (zq_r X h0 9) = 32 := zq_lk L.1 k_h0 rfl (by decide)
    refine lv_iload_n hx hb dX10_putHouse_12 rfl (lv_at hl 1 rfl) ?_
    refine zq_rald (n := 4) (t := 8) (j := (p1.toNatClampNeg)) E hZ hM k107 ⟨by decide, rfl⟩ ⟨rfl, by decide, by decide⟩ ⟨by omega, by omega⟩ rfl dX10_putHouse_13 ?_
    have k108 : zq_k X (zq_r X (zq_r X h0 9) (p1.toNatClampNeg)) = 7 := zq_lay_a L.1 k107 (n := 4) (zq_inn (i := p1) (n := 4) ⟨by omega, by omega⟩) (by decide) (by decide)
    refine lv_iconst (v := 1) hx hb dX10_putHouse_14 (by decide +kernel) ?_
    refine zq_pz E hM hS k108 (zGX10_65 E hZ) ⟨by decide, by decide, by decide, rfl⟩ (show 0 ≤ (1 : Int32).toInt ∧ (1 : Int32).toInt ≤ 1 by decide +kernel) rfl dX10_putHouse_15 (fun I109 H locs eI109 hM hS => ?_)
    have hR := zq_fr.putE hR eI109 (zf_iw k108 rfl (((zq_own_a L.2.1 k107 (n := 4) (zq_inn (i := p1) (n := 4) ⟨by omega, by omega⟩) (by decide)).trans (((L.2.1 _ _ _ k_h0 (by decide) rfl).trans ((rfl : zq_o X h0 = zq_o X h0)))))))
    refine lv_aload_n hx hb dX10_putHouse_18 rfl (lv_at hl 0 rfl) ?_
    refine lv_dup hx hb dX10_putHouse_19 rfl ?_
    refine zq_gn E hM k_h0 (zFX10_33 E hZ) (Or.inl ⟨by decide, by decide, by decide, rfl⟩) dX10_putHouse_20 (fun x110 ex110 gx110 => ?_)
    clear gx110
    refine W.eq (g2 := F0 m 23 ls [.int x110, .ref h0]) rfl ?_
    refine lv_bipush (v := 100) hx hb dX10_putHouse_23 (by decide +kernel) ?_
    refine lv_isub hx hb dX10_putHouse_25 ?_
    refine lv_topi (fun x111 ex111 => ?_)
    refine zq_pn E hM hS k_h0 (zGX10_33 E hZ) ⟨by decide, by decide, by decide, rfl⟩ (zq_any _) dX10_putHouse_26 (fun I112 H locs eI112 hM hS => ?_)
    have hR := zq_fr.putE hR eI112 (zf_iw k_h0 rfl ((rfl : zq_o X h0 = zq_o X h0)))
    subst hQ
    exact zq_vret E hr hZ hM hS hR hlocks dX10_putHouse_29
set_option maxHeartbeats 8000000 in
set_option maxRecDepth 100000 in
theorem c_X10_isOut (l : Launch) (X : zq_X) (zk zn : Nat) (I : zq_M) (L : zq_L X)  (h0 : Nat) (k_h0 : zq_k X h0 = 8)  : Met l yX10_isOut (zt_w yX10_isOut cX10_isOut 2 (some .boolean)) (zq_rm (3)) (va_Pc [.ref h0] (zq_W X (zk, zn) I)) (va_Qi (fun (r : Int32) I2 => I2 = I ∧ (0 ≤ r.toInt ∧ r.toInt ≤ 1)) (zq_E X (zk, zn)) (zq_A X)) 0 0 (zq_A X) := by
  refine Met.ofW (cc := cX10_isOut) (maxL := 2) (ret := (some .boolean)) (by decide) rfl ?_
  intro p e s m args below meth c s₁ B hml hv
  obtain ⟨hargs, hM, hZ⟩ := hv
  have hown : s.vm.findClass RX10 = some m.cls := findClass_of_methodNamed B.named
  have hts := atoms_spec (ws := zt_w yX10_isOut cX10_isOut 2 (some .boolean)) B.pre
  have E : CallFix p m c cX10_isOut 2 s args (Cond.code yX10_isOut cX10_isOut 2 (some .boolean) :: zt) RX10 := ⟨B.exec, B.bytes, hml, hown, hts⟩
  have hx := B.exec
  have hb := B.bytes
  have hr := B.returns
  have hlocks := B.notSynchronized
  clear B
  have hS : va_S (zq_A X) s.heap s.heap [] := va_S.rf
  have hl := lv_entry ([.ref h0]) (n := 2) (by exact Nat.le_of_ble_eq_true rfl)
  have hg : entryFrame m args 2 = F0 m 0 ((lg_sl ([.ref h0]) ++ List.replicate (2 - (lg_sl ([.ref h0])).length) Slot.unset).toArray) [] := by rw [hargs]; exact lg_entry_eq m ([.ref h0]) 2
  rw [hg]
  clear hg hargs
  generalize (lg_sl ([.ref h0]) ++ List.replicate (2 - (lg_sl ([.ref h0])).length) Slot.unset).toArray = ls at hl ⊢
  have hl : lv_has ls 2 [(0, .ref h0)] := by exact hl
  obtain ⟨R, hRm⟩ : ∃ R : Room, R = (headSpec (zt_w yX10_isOut cX10_isOut 2 (some .boolean)) (zq_rm (3))).room := ⟨_, rfl⟩
  rw [← hRm]
  have hro : ∀ d q : Nat, d + 1 ≤ 3 → q ≤ 45 → zq_rok d q R := fun d q h1 h2 => by rw [hRm]; exact zq_rokI h1 h2
  generalize hQ : MQ below _ args s 0 0 (zq_A X) = Q
  obtain ⟨H, hH⟩ : ∃ H, H = s.heap := ⟨_, rfl⟩
  obtain ⟨locs, hlo⟩ : ∃ x : List Loc, x = [] := ⟨_, rfl⟩
  rw [show W p l e R s m args below meth c s.heap [] 0 0 Q = W p l e R s m args below meth c H locs 0 0 Q by rw [hH, hlo]]
  have hM : zq_hm X (zk, zn) I H := by rw [hH]; exact hM
  have hS : va_S (zq_A X) s.heap H locs := by rw [hH, hlo]; exact hS
  clear hH hlo
  refine lv_iconst (v := 0) hx hb dX10_isOut_0 (by decide +kernel) ?_
  refine lv_istore_n (lv' := [(1, .int (0 : Int32)), (0, .ref h0)]) hx hb dX10_isOut_1 rfl hl (by decide) rfl (fun ls hl => ?_)
  have J2 : ∀ (n266 : Nat) (H : Heap) (locs : List Loc) (ls : Array Slot) (j265 : Int32), 3 + 1 - j265.toInt ≤ ((n266 : Nat) : Int) → (zq_hm X (zk, zn) I H) → (va_S (zq_A X) s.heap H locs) → (0 ≤ j265.toInt ∧ j265.toInt ≤ 3) → (lv_has ls 2 [(1, .int j265), (0, .ref h0)]) → W p l e R s m args below meth c H locs 0 0 Q (F0 m 2 ls []) := by
    intro n266
    induction n266 with
    | zero => intro H locs ls j265 mu267 hM hS gj265 hl; exfalso; have := zi_rng j265; omega
    | succ n266 ih2 =>
      intro H locs ls j265 mu267 hM hS gj265 hl
      refine lv_iload_n hx hb dX10_isOut_2 rfl (lv_at hl 0 rfl) ?_
      refine lv_aload_n hx hb dX10_isOut_3 rfl (lv_at hl 1 rfl) ?_
      refine zq_gn E hM k_h0 (zFX10_46 E hZ) (Or.inl ⟨by decide, by decide, by decide, rfl⟩) dX10_isOut_4 (fun x268 ex268 gx268 => ?_)
      replace gx268 : 0 ≤ x268.toInt ∧ x268.toInt ≤ 3 := gx268
      refine lv_icmp_ge (tgt := 42) hx hb dX10_isOut_7 (by decide) (fun b269 => ?_) (fun b269 => ?_)
      · have b269 := zi_le b269 (rfl : x268.toInt = x268.toInt) (rfl : j265.toInt = j265.toInt)
        refine lv_iconst (v := 0) hx hb dX10_isOut_42 (by decide +kernel) ?_
        refine lv_istore_n (lv' := [(1, .int (0 : Int32)), (0, .ref h0)]) hx hb dX10_isOut_43 rfl hl (by decide) rfl (fun ls hl => ?_)
        have J44 : ∀ (n295 : Nat) (ls : Array Slot) (j294 : Int32), 4 + 1 - j294.toInt ≤ ((n295 : Nat) : Int) → (0 ≤ j294.toInt ∧ j294.toInt ≤ 4) → (lv_has ls 2 [(1, .int j294), (0, .ref h0)]) → W p l e R s m args below meth c H locs 0 0 Q (F0 m 44 ls []) := by
          intro n295
          induction n295 with
          | zero => intro ls j294 mu296 gj294 hl; exfalso; have := zi_rng j294; omega
          | succ n295 ih44 =>
            intro ls j294 mu296 gj294 hl
            refine lv_iload_n hx hb dX10_isOut_44 rfl (lv_at hl 0 rfl) ?_
            refine lv_aload_n hx hb dX10_isOut_45 rfl (lv_at hl 1 rfl) ?_
            refine zq_gn E hM k_h0 (zFX10_49 E hZ) (Or.inl ⟨by decide, by decide, by decide, rfl⟩) dX10_isOut_46 (fun x297 ex297 gx297 => ?_)
            replace gx297 : 0 ≤ x297.toInt ∧ x297.toInt ≤ 4 := gx297
            refine lv_icmp_ge (tgt := 72) hx hb dX10_isOut_49 (by decide) (fun b298 => ?_) (fun b298 => ?_)
            · have b298 := zi_le b298 (rfl : x297.toInt = x297.toInt) (rfl : j294.toInt = j294.toInt)
              refine lv_iconst (v := 1) hx hb dX10_isOut_72 (by decide +kernel) ?_
              subst hQ
              exact zq_zret E hr hZ hM hS (show 0 ≤ (1 : Int32).toInt ∧ (1 : Int32).toInt ≤ 1 by decide +kernel) ⟨rfl, (by have := zl_1; omega)⟩ hlocks dX10_isOut_73
            · have b298 := zi_nle b298 (rfl : x297.toInt = x297.toInt) (rfl : j294.toInt = j294.toInt)
              refine lv_aload_n hx hb dX10_isOut_52 rfl (lv_at hl 1 rfl) ?_
              refine zq_getr E hM k_h0 (zFX10_23 E hZ) ⟨by decide, by decide, by decide, rfl⟩ dX10_isOut_53 ?_
              have k299 : zq_k X (zq_r X h0 9) = 32 := zq_lk L.1 k_h0 rfl (by decide)
              refine lv_iload_n hx hb dX10_isOut_56 rfl (lv_at hl 0 rfl) ?_
              refine zq_rald (n := 4) (t := 8) (j := (j294.toNatClampNeg)) E hZ hM k299 ⟨by decide, rfl⟩ ⟨rfl, by decide, by decide⟩ ⟨by omega, by omega⟩ rfl dX10_isOut_57 ?_
              have k300 : zq_k X (zq_r X (zq_r X h0 9) (j294.toNatClampNeg)) = 7 := zq_lay_a L.1 k299 (n := 4) (zq_inn (i := j294) (n := 4) ⟨by omega, by omega⟩) (by decide) (by decide)
              refine zq_gn E hM k300 (zFX10_120 E hZ) (Or.inl ⟨by decide, by decide, by decide, rfl⟩) dX10_isOut_58 (fun x301 ex301 gx301 => ?_)
              clear gx301
              refine lv_if_le (tgt := 66) hx hb dX10_isOut_61 (by decide) (fun b302 => ?_) (fun b302 => ?_)
              · have b302 := zi_le b302 (rfl : x301.toInt = x301.toInt) (zl_0 : (0 : Int32).toInt = 0)
                obtain ⟨x303, ex303⟩ : ∃ y : Int32, y = j294 + 1 := ⟨_, rfl⟩
                have tx303 := zi_add ex303 (rfl : j294.toInt = j294.toInt) zl_1 ⟨by omega, by omega⟩
                refine lv_iinc (v := x303) (lv' := [(1, .int x303), (0, .ref h0)]) hx hb dX10_isOut_66 hl (k := 0) rfl (by rw [ex303]; rfl) (by decide) rfl (fun ls hl => ?_)
                refine lv_goto (tgt := 44) hx hb dX10_isOut_69 (by decide) ?_
                exact ih44 ls x303 (by omega) (⟨by omega, by omega⟩) (lv_sub hl [0, 1] rfl)
              · have b302 := zi_nle b302 (rfl : x301.toInt = x301.toInt) (zl_0 : (0 : Int32).toInt = 0)
                refine lv_iconst (v := 0) hx hb dX10_isOut_64 (by decide +kernel) ?_
                subst hQ
                exact zq_zret E hr hZ hM hS (show 0 ≤ (0 : Int32).toInt ∧ (0 : Int32).toInt ≤ 1 by decide +kernel) ⟨rfl, (by have := zl_0; omega)⟩ hlocks dX10_isOut_65
        exact J44 (4 + 1 - (0 : Int32).toInt).toNat ls (0 : Int32) (by omega) (by rw [zl_0]; decide) (lv_sub hl [0, 1] rfl)
      · have b269 := zi_nle b269 (rfl : x268.toInt = x268.toInt) (rfl : j265.toInt = j265.toInt)
        refine lv_aload_n hx hb dX10_isOut_10 rfl (lv_at hl 1 rfl) ?_
        refine lv_iload_n hx hb dX10_isOut_11 rfl (lv_at hl 0 rfl) ?_
        refine zq_pcalli (zq_rV (As := [.int j265]) (rest := []) E hZ hM k_h0 (c_X10_isAtHome l X zk (zn) I L h0 k_h0 j265) zmX10_84 zM_X10_isAtHome (hro (1) 2 (by first | decide | omega) (by decide)) ⟨by decide, by decide⟩ rfl hl.1 rfl rfl (Nat.le_of_ble_eq_true rfl) dX10_isOut_12) hS (fun x305 H locs h304 hM hS => ?_)
        obtain ⟨p306, p307⟩ := h304
        refine lv_if_eq (tgt := 34) hx hb dX10_isOut_15 (by decide) (fun b308 => ?_) (fun b308 => ?_)
        · have b308 := zi_eq b308 (rfl : x305.toInt = x305.toInt) (zl_0 : (0 : Int32).toInt = 0)
          refine lv_iconst (v := 0) hx hb dX10_isOut_34 (by decide +kernel) ?_
          subst hQ
          exact zq_zret E hr hZ hM hS (show 0 ≤ (0 : Int32).toInt ∧ (0 : Int32).toInt ≤ 1 by decide +kernel) ⟨rfl, (by have := zl_0; omega)⟩ hlocks dX10_isOut_35
        · have b308 := zi_ne b308 (rfl : x305.toInt = x305.toInt) (zl_0 : (0 : Int32).toInt = 0)
          refine lv_aload_n hx hb dX10_isOut_18 rfl (lv_at hl 1 rfl) ?_
          refine zq_gn E hM k_h0 (zFX10_49 E hZ) (Or.inl ⟨by decide, by decide, by decide, rfl⟩) dX10_isOut_19 (fun x309 ex309 gx309 => ?_)
          replace gx309 : 0 ≤ x309.toInt ∧ x309.toInt ≤ 4 := gx309
          have J36 : ∀ (H : Heap) (locs : List Loc) (ls : Array Slot), (zq_hm X (zk, zn) I H) → (va_S (zq_A X) s.heap H locs) → (lv_has ls 2 [(1, .int j265), (0, .ref h0)]) → W p l e R s m args below meth c H locs 0 0 Q (F0 m 36 ls []) := by
            intro H locs ls hM hS hl
            obtain ⟨x314, ex314⟩ : ∃ y : Int32, y = j265 + 1 := ⟨_, rfl⟩
            have tx314 := zi_add ex314 (rfl : j265.toInt = j265.toInt) zl_1 ⟨by omega, by omega⟩
            refine lv_iinc (v := x314) (lv' := [(1, .int x314), (0, .ref h0)]) hx hb dX10_isOut_36 hl (k := 0) rfl (by rw [ex314]; rfl) (by decide) rfl (fun ls hl => ?_)
            refine lv_goto (tgt := 2) hx hb dX10_isOut_39 (by decide) ?_
            exact ih2 H locs ls x314 (by omega) hM hS (⟨by omega, by omega⟩) (lv_sub hl [0, 1] rfl)
          refine lv_if_le (tgt := 36) hx hb dX10_isOut_22 (by decide) (fun b315 => ?_) (fun b315 => ?_)
          · have b315 := zi_le b315 (rfl : x309.toInt = x309.toInt) (zl_0 : (0 : Int32).toInt = 0)
            exact J36 H locs ls hM hS (lv_sub hl [0, 1] rfl)
          · have b315 := zi_nle b315 (rfl : x309.toInt = x309.toInt) (zl_0 : (0 : Int32).toInt = 0)
            refine lv_aload_n hx hb dX10_isOut_25 rfl (lv_at hl 1 rfl) ?_
            refine lv_iload_n hx hb dX10_isOut_26 rfl (lv_at hl 0 rfl) ?_
            refine zq_pcalli (zq_rV (As := [.int j265]) (rest := []) E hZ hM k_h0 (c_X10_mostBlocks l X zk (zn) I L h0 k_h0 j265) zmX10_116 zM_X10_mostBlocks (hro (2) 3 (by first | decide | omega) (by decide)) ⟨by decide, by decide⟩ rfl hl.1 rfl rfl (Nat.le_of_ble_eq_true rfl) dX10_isOut_27) hS (fun x317 H locs h316 hM hS => ?_)
            have p318 := h316
            have := zi_rng x317
            refine lv_iconst (v := 1) hx hb dX10_isOut_30 (by decide +kernel) ?_
            refine lv_icmp_lt (tgt := 36) hx hb dX10_isOut_31 (by decide) (fun b319 => ?_) (fun b319 => ?_)
            · have b319 := zi_lt b319 (rfl : x317.toInt = x317.toInt) (zl_1 : (1 : Int32).toInt = 1)
              exact J36 H locs ls hM hS (lv_sub hl [0, 1] rfl)
            · have b319 := zi_nlt b319 (rfl : x317.toInt = x317.toInt) (zl_1 : (1 : Int32).toInt = 1)
              refine lv_iconst (v := 0) hx hb dX10_isOut_34 (by decide +kernel) ?_
              subst hQ
              exact zq_zret E hr hZ hM hS (show 0 ≤ (0 : Int32).toInt ∧ (0 : Int32).toInt ≤ 1 by decide +kernel) ⟨rfl, (by have := zl_0; omega)⟩ hlocks dX10_isOut_35
  exact J2 (3 + 1 - (0 : Int32).toInt).toNat H locs ls (0 : Int32) (by omega) hM hS (by rw [zl_0]; decide) (lv_sub hl [0, 1] rfl)
def zw_X10_clear : List (Nat × Nat) := [(7, 5), (8, 0), (8, 5), (8, 6), (30, 999)]
set_option maxHeartbeats 8000000 in
set_option maxRecDepth 100000 in
theorem c_X10_clear (l : Launch) (X : zq_X) (zk zn : Nat) (I : zq_M) (L : zq_L X)  (h0 : Nat) (k_h0 : zq_k X h0 = 8)  : Met l yX10_clear (zt_w yX10_clear cX10_clear 2 none) (zq_rm (0)) (va_Pc [.ref h0] (zq_W X (zk, zn) I)) (va_Qv (fun I2 => zq_fr (zf X zw_X10_clear (fun b => zq_o X b = zq_o X h0)) I I2 ∧ ((I2 h0 6).toInt = 0)) (zq_E X (zk, zn)) (zq_A X)) 0 0 (zq_A X) := by
  refine Met.ofW (cc := cX10_clear) (maxL := 2) (ret := none) (by decide) rfl ?_
  intro p e s m args below meth c s₁ B hml hv
  obtain ⟨hargs, hM, hZ⟩ := hv
  have hown : s.vm.findClass RX10 = some m.cls := findClass_of_methodNamed B.named
  have hts := atoms_spec (ws := zt_w yX10_clear cX10_clear 2 none) B.pre
  have E : CallFix p m c cX10_clear 2 s args (Cond.code yX10_clear cX10_clear 2 none :: zt) RX10 := ⟨B.exec, B.bytes, hml, hown, hts⟩
  have hx := B.exec
  have hb := B.bytes
  have hr := B.returns
  have hlocks := B.notSynchronized
  clear B
  have hS : va_S (zq_A X) s.heap s.heap [] := va_S.rf
  have hR : zq_fr (zf X zw_X10_clear (fun b => zq_o X b = zq_o X h0)) I I := zq_fr.rf
  have hl := lv_entry ([.ref h0]) (n := 2) (by exact Nat.le_of_ble_eq_true rfl)
  have hg : entryFrame m args 2 = F0 m 0 ((lg_sl ([.ref h0]) ++ List.replicate (2 - (lg_sl ([.ref h0])).length) Slot.unset).toArray) [] := by rw [hargs]; exact lg_entry_eq m ([.ref h0]) 2
  rw [hg]
  clear hg hargs
  generalize (lg_sl ([.ref h0]) ++ List.replicate (2 - (lg_sl ([.ref h0])).length) Slot.unset).toArray = ls at hl ⊢
  have hl : lv_has ls 2 [(0, .ref h0)] := by exact hl
  obtain ⟨R, hRm⟩ : ∃ R : Room, R = (headSpec (zt_w yX10_clear cX10_clear 2 none) (zq_rm (0))).room := ⟨_, rfl⟩
  rw [← hRm]
  generalize hQ : MQ below _ args s 0 0 (zq_A X) = Q
  obtain ⟨H, hH⟩ : ∃ H, H = s.heap := ⟨_, rfl⟩
  obtain ⟨locs, hlo⟩ : ∃ x : List Loc, x = [] := ⟨_, rfl⟩
  rw [show W p l e R s m args below meth c s.heap [] 0 0 Q = W p l e R s m args below meth c H locs 0 0 Q by rw [hH, hlo]]
  have hM : zq_hm X (zk, zn) I H := by rw [hH]; exact hM
  have hS : va_S (zq_A X) s.heap H locs := by rw [hH, hlo]; exact hS
  clear hH hlo
  refine lv_aload_n hx hb dX10_clear_0 rfl (lv_at hl 0 rfl) ?_
  refine lv_iconst (v := 1) hx hb dX10_clear_1 (by decide +kernel) ?_
  refine zq_pz E hM hS k_h0 (zGX10_29 E hZ) ⟨by decide, by decide, by decide, rfl⟩ (show 0 ≤ (1 : Int32).toInt ∧ (1 : Int32).toInt ≤ 1 by decide +kernel) rfl dX10_clear_2 (fun I101 H locs eI101 hM hS => ?_)
  have hR := zq_fr.putE hR eI101 (zf_iw k_h0 rfl ((rfl : zq_o X h0 = zq_o X h0)))
  refine lv_aload_n hx hb dX10_clear_5 rfl (lv_at hl 0 rfl) ?_
  refine lv_iconst (v := 0) hx hb dX10_clear_6 (by decide +kernel) ?_
  refine zq_pn E hM hS k_h0 (zGX10_46 E hZ) ⟨by decide, by decide, by decide, rfl⟩ (show 0 ≤ (0 : Int32).toInt ∧ (0 : Int32).toInt ≤ 3 by decide +kernel) dX10_clear_7 (fun I102 H locs eI102 hM hS => ?_)
  have hR := zq_fr.putE hR eI102 (zf_iw k_h0 rfl ((rfl : zq_o X h0 = zq_o X h0)))
  refine lv_aload_n hx hb dX10_clear_10 rfl (lv_at hl 0 rfl) ?_
  refine lv_iconst (v := 0) hx hb dX10_clear_11 (by decide +kernel) ?_
  refine zq_pn E hM hS k_h0 (zGX10_49 E hZ) ⟨by decide, by decide, by decide, rfl⟩ (show 0 ≤ (0 : Int32).toInt ∧ (0 : Int32).toInt ≤ 4 by decide +kernel) dX10_clear_12 (fun I103 H locs eI103 hM hS => ?_)
  have hR := zq_fr.putE hR eI103 (zf_iw k_h0 rfl ((rfl : zq_o X h0 = zq_o X h0)))
  refine W.eq (g2 := F0 m 15 ls []) rfl ?_
  have hK9 : I103 h0 6 = (0 : Int32) := (zq_kv eI103)
  refine lv_iconst (v := 0) hx hb dX10_clear_15 (by decide +kernel) ?_
  refine lv_istore_n (lv' := [(1, .int (0 : Int32)), (0, .ref h0)]) hx hb dX10_clear_16 rfl hl (by decide) rfl (fun ls hl => ?_)
  have J17 : ∀ (n215 : Nat) (I213 : zq_M) (H : Heap) (locs : List Loc) (ls : Array Slot) (j212 : Int32), 12 + 1 - j212.toInt ≤ ((n215 : Nat) : Int) → (zq_hm X (zk, zn) I213 H) → (va_S (zq_A X) s.heap H locs) → (zq_fr (zf X zw_X10_clear (fun b => zq_o X b = zq_o X h0)) I I213) → (0 ≤ j212.toInt ∧ j212.toInt ≤ 12) → (I213 h0 6 = (0 : Int32)) → (lv_has ls 2 [(1, .int j212), (0, .ref h0)]) → W p l e R s m args below meth c H locs 0 0 Q (F0 m 17 ls []) := by
    intro n215
    induction n215 with
    | zero => intro I213 H locs ls j212 mu216 hM hS hR gj212 F214 hl; exfalso; have := zi_rng j212; omega
    | succ n215 ih17 =>
      intro I213 H locs ls j212 mu216 hM hS hR gj212 F214 hl
      refine lv_iload_n hx hb dX10_clear_17 rfl (lv_at hl 0 rfl) ?_
      refine lv_bipush (v := 12) hx hb dX10_clear_18 (by decide +kernel) ?_
      refine lv_icmp_ge (tgt := 36) hx hb dX10_clear_20 (by decide) (fun b217 => ?_) (fun b217 => ?_)
      · have b217 := zi_le b217 (zl_12 : (12 : Int32).toInt = 12) (rfl : j212.toInt = j212.toInt)
        refine lv_iconst (v := 0) hx hb dX10_clear_36 (by decide +kernel) ?_
        refine lv_istore_n (lv' := [(1, .int (0 : Int32)), (0, .ref h0)]) hx hb dX10_clear_37 rfl hl (by decide) rfl (fun ls hl => ?_)
        have J38 : ∀ (n253 : Nat) (I251 : zq_M) (H : Heap) (locs : List Loc) (ls : Array Slot) (j250 : Int32), 4 + 1 - j250.toInt ≤ ((n253 : Nat) : Int) → (zq_hm X (zk, zn) I251 H) → (va_S (zq_A X) s.heap H locs) → (zq_fr (zf X zw_X10_clear (fun b => zq_o X b = zq_o X h0)) I I251) → (0 ≤ j250.toInt ∧ j250.toInt ≤ 4) → (I251 h0 6 = (0 : Int32)) → (lv_has ls 2 [(1, .int j250), (0, .ref h0)]) → W p l e R s m args below meth c H locs 0 0 Q (F0 m 38 ls []) := by
          intro n253
          induction n253 with
          | zero => intro I251 H locs ls j250 mu254 hM hS hR gj250 F252 hl; exfalso; have := zi_rng j250; omega
          | succ n253 ih38 =>
            intro I251 H locs ls j250 mu254 hM hS hR gj250 F252 hl
            refine lv_iload_n hx hb dX10_clear_38 rfl (lv_at hl 0 rfl) ?_
            refine lv_iconst (v := 4) hx hb dX10_clear_39 (by decide +kernel) ?_
            refine lv_icmp_ge (tgt := 59) hx hb dX10_clear_40 (by decide) (fun b255 => ?_) (fun b255 => ?_)
            · have b255 := zi_le b255 (zl_4 : (4 : Int32).toInt = 4) (rfl : j250.toInt = j250.toInt)
              subst hQ
              exact zq_vret E hr hZ hM hS ⟨hR, (by rw [F252]; exact zl_0)⟩ hlocks dX10_clear_59
            · have b255 := zi_nle b255 (zl_4 : (4 : Int32).toInt = 4) (rfl : j250.toInt = j250.toInt)
              refine lv_aload_n hx hb dX10_clear_43 rfl (lv_at hl 1 rfl) ?_
              refine zq_getr E hM k_h0 (zFX10_23 E hZ) ⟨by decide, by decide, by decide, rfl⟩ dX10_clear_44 ?_
              have k256 : zq_k X (zq_r X h0 9) = 32 := zq_lk L.1 k_h0 rfl (by decide)
              refine lv_iload_n hx hb dX10_clear_47 rfl (lv_at hl 0 rfl) ?_
              refine zq_rald (n := 4) (t := 8) (j := (j250.toNatClampNeg)) E hZ hM k256 ⟨by decide, rfl⟩ ⟨rfl, by decide, by decide⟩ ⟨by omega, by omega⟩ rfl dX10_clear_48 ?_
              have k257 : zq_k X (zq_r X (zq_r X h0 9) (j250.toNatClampNeg)) = 7 := zq_lay_a L.1 k256 (n := 4) (zq_inn (i := j250) (n := 4) ⟨by omega, by omega⟩) (by decide) (by decide)
              refine lv_iconst (v := 0) hx hb dX10_clear_49 (by decide +kernel) ?_
              refine zq_pz E hM hS k257 (zGX10_65 E hZ) ⟨by decide, by decide, by decide, rfl⟩ (show 0 ≤ (0 : Int32).toInt ∧ (0 : Int32).toInt ≤ 1 by decide +kernel) rfl dX10_clear_50 (fun I258 H locs eI258 hM hS => ?_)
              have hR := zq_fr.putE hR eI258 (zf_iw k257 rfl (((zq_own_a L.2.1 k256 (n := 4) (zq_inn (i := j250) (n := 4) ⟨by omega, by omega⟩) (by decide)).trans (((L.2.1 _ _ _ k_h0 (by decide) rfl).trans ((rfl : zq_o X h0 = zq_o X h0)))))))
              have hK259 := (zq_kp eI258 (Or.inl (zq_kne k_h0 k257 (by decide))) F252)
              obtain ⟨x260, ex260⟩ : ∃ y : Int32, y = j250 + 1 := ⟨_, rfl⟩
              have tx260 := zi_add ex260 (rfl : j250.toInt = j250.toInt) zl_1 ⟨by omega, by omega⟩
              refine lv_iinc (v := x260) (lv' := [(1, .int x260), (0, .ref h0)]) hx hb dX10_clear_53 hl (k := 0) rfl (by rw [ex260]; rfl) (by decide) rfl (fun ls hl => ?_)
              refine lv_goto (tgt := 38) hx hb dX10_clear_56 (by decide) ?_
              exact ih38 I258 H locs ls x260 (by omega) hM hS hR (⟨by omega, by omega⟩) hK259 (lv_sub hl [0, 1] rfl)
        exact J38 (4 + 1 - (0 : Int32).toInt).toNat I213 H locs ls (0 : Int32) (by omega) hM hS hR (by rw [zl_0]; decide) F214 (lv_sub hl [0, 1] rfl)
      · have b217 := zi_nle b217 (zl_12 : (12 : Int32).toInt = 12) (rfl : j212.toInt = j212.toInt)
        refine lv_aload_n hx hb dX10_clear_23 rfl (lv_at hl 1 rfl) ?_
        refine zq_getr E hM k_h0 (zFX10_11 E hZ) ⟨by decide, by decide, by decide, rfl⟩ dX10_clear_24 ?_
        have k261 : zq_k X (zq_r X h0 7) = 30 := zq_lk L.1 k_h0 rfl (by decide)
        refine lv_iload_n hx hb dX10_clear_27 rfl (lv_at hl 0 rfl) ?_
        refine lv_iconst (v := 0) hx hb dX10_clear_28 (by decide +kernel) ?_
        refine zq_isn (n := 12) (j := (j212.toNatClampNeg)) E hZ hM hS k261 ⟨by decide, rfl⟩ ⟨by omega, by omega⟩ rfl (zq_any _) dX10_clear_29 (fun I262 H locs eI262 hM hS => ?_)
        have hR := zq_fr.putE hR eI262 (zf_iaw k261 (by decide) (((L.2.1 _ _ _ k_h0 (by decide) rfl).trans ((rfl : zq_o X h0 = zq_o X h0)))))
        have hK263 := (zq_kp eI262 (Or.inl (zq_kne k_h0 k261 (by decide))) F214)
        obtain ⟨x264, ex264⟩ : ∃ y : Int32, y = j212 + 1 := ⟨_, rfl⟩
        have tx264 := zi_add ex264 (rfl : j212.toInt = j212.toInt) zl_1 ⟨by omega, by omega⟩
        refine lv_iinc (v := x264) (lv' := [(1, .int x264), (0, .ref h0)]) hx hb dX10_clear_30 hl (k := 0) rfl (by rw [ex264]; rfl) (by decide) rfl (fun ls hl => ?_)
        refine lv_goto (tgt := 17) hx hb dX10_clear_33 (by decide) ?_
        exact ih17 I262 H locs ls x264 (by omega) hM hS hR (⟨by omega, by omega⟩) hK263 (lv_sub hl [0, 1] rfl)
  exact J17 (12 + 1 - (0 : Int32).toInt).toNat I103 H locs ls (0 : Int32) (by omega) hM hS hR (by rw [zl_0]; decide) hK9 (lv_sub hl [0, 1] rfl)
