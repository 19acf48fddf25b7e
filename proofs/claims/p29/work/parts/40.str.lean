theorem zi_shr0 {x y r : Int32} (e : r = x >>> (y &&& 31)) (h : y.toInt = 0) : r = x := by
  have hy : y = 0 := Int32.toInt_inj.mp (by rw [h]; rfl)
  rw [e, hy, show (0 : Int32) &&& 31 = 0 by decide +kernel]
  exact Int32.shiftRight_zero
set_option maxHeartbeats 8000000 in
set_option maxRecDepth 100000 in
theorem c_J3_checkIndex_8e157 (l : Launch) (X : zq_X) (zk zn : Nat) (I : zq_M) (L : zq_L X)  (p1 : Int32) (p2 : Int32) (p3 : Option Nat) (g_p1 : 0 ≤ p1.toInt ∧ p1.toInt ≤ 2147483647) (q_0 : p1.toInt < p2.toInt) : Met l yJ3_checkIndex_8e157 (zt_w yJ3_checkIndex_8e157 cJ3_checkIndex_8e157 3 (some .int)) (zq_rm (0)) (va_Pc [.int p1, .int p2, va_rf p3] (zq_W X (zk, zn) I)) (va_Qi (fun (r : Int32) I2 => I2 = I ∧ (0 ≤ r.toInt)) (zq_E X (zk, zn)) (zq_A X)) 0 0 (zq_A X) := by
  refine zq_ofW (cc := cJ3_checkIndex_8e157) (maxL := 3) (ret := (some .int)) (by decide +kernel) rfl ?_
  intro p e s m args below meth c s₁ B hml hv
  obtain ⟨hargs, hM, hZ⟩ := hv
  have hown : s.vm.findClass RJ3 = some m.cls := findClass_of_methodNamed B.named
  have hts := atoms_spec (ws := zt_w yJ3_checkIndex_8e157 cJ3_checkIndex_8e157 3 (some .int)) B.pre
  have E : CallFix p m c cJ3_checkIndex_8e157 3 s args (Cond.code yJ3_checkIndex_8e157 cJ3_checkIndex_8e157 3 (some .int) :: zt) RJ3 := ⟨B.exec, B.bytes, hml, hown, hts⟩
  have hx := B.exec
  have hb := B.bytes
  have hr := B.returns
  have hlocks := B.notSynchronized
  clear B
  have hS : va_S (zq_A X) s.heap s.heap [] := va_S.rf
  have hl := lv_entry ([.int p1, .int p2, va_rf p3]) (n := 3) (by cases p3 <;> exact Nat.le_of_ble_eq_true rfl)
  have hg : entryFrame m args 3 = F0 m 0 ((lg_sl ([.int p1, .int p2, va_rf p3]) ++ List.replicate (3 - (lg_sl ([.int p1, .int p2, va_rf p3])).length) Slot.unset).toArray) [] := by rw [hargs]; exact lg_entry_eq m ([.int p1, .int p2, va_rf p3]) 3
  rw [hg]
  clear hg hargs
  generalize (lg_sl ([.int p1, .int p2, va_rf p3]) ++ List.replicate (3 - (lg_sl ([.int p1, .int p2, va_rf p3])).length) Slot.unset).toArray = ls at hl ⊢
  have hl : lv_has ls 3 [(0, .int p1), (1, .int p2), (2, va_rf p3)] := by cases p3 <;> exact hl
  obtain ⟨R, hRm⟩ : ∃ R : Room, R = (headSpec (zt_w yJ3_checkIndex_8e157 cJ3_checkIndex_8e157 3 (some .int)) (zq_rm (0))).room := ⟨_, rfl⟩
  rw [← hRm]
  generalize hQ : MQ below _ args s 0 0 (zq_A X) = Q
  obtain ⟨H, hH⟩ : ∃ H, H = s.heap := ⟨_, rfl⟩
  obtain ⟨locs, hlo⟩ : ∃ x : List Loc, x = [] := ⟨_, rfl⟩
  rw [show W p l e R s m args below meth c s.heap [] 0 0 Q = W p l e R s m args below meth c H locs 0 0 Q by rw [hH, hlo]]
  have hM : zq_hm X (zk, zn) I H := by rw [hH]; exact hM
  have hS : va_S (zq_A X) s.heap H locs := by rw [hH, hlo]; exact hS
  clear hH hlo
  refine lv_iload_n hx hb dJ3_checkIndex_8e157_0 rfl (lv_at hl 0 rfl) ?_
  refine lv_if_lt (tgt := 9) hx hb dJ3_checkIndex_8e157_1 (by decide) (fun b101 => ?_) (fun b101 => ?_)
  · have b101 := zi_lt b101 (rfl : p1.toInt = p1.toInt) (zl_0 : (0 : Int32).toInt = 0)
    exfalso; have := zi_rng p1; omega
  · have b101 := zi_nlt b101 (rfl : p1.toInt = p1.toInt) (zl_0 : (0 : Int32).toInt = 0)
    refine lv_iload_n hx hb dJ3_checkIndex_8e157_4 rfl (lv_at hl 0 rfl) ?_
    refine lv_iload_n hx hb dJ3_checkIndex_8e157_5 rfl (lv_at hl 1 rfl) ?_
    refine lv_icmp_lt (tgt := 16) hx hb dJ3_checkIndex_8e157_6 (by decide) (fun b102 => ?_) (fun b102 => ?_)
    · have b102 := zi_lt b102 (rfl : p1.toInt = p1.toInt) (rfl : p2.toInt = p2.toInt)
      refine lv_iload_n hx hb dJ3_checkIndex_8e157_16 rfl (lv_at hl 0 rfl) ?_
      subst hQ
      exact zq_iret E hr hZ hM hS ⟨rfl, (by omega)⟩ hlocks dJ3_checkIndex_8e157_17
    · have b102 := zi_nlt b102 (rfl : p1.toInt = p1.toInt) (rfl : p2.toInt = p2.toInt)
      exfalso; omega
set_option maxHeartbeats 8000000 in
set_option maxRecDepth 100000 in
theorem c_J0_checkIndex_df160 (l : Launch) (X : zq_X) (zk zn : Nat) (I : zq_M) (L : zq_L X)  (p1 : Int32) (p2 : Int32) (g_p1 : 0 ≤ p1.toInt ∧ p1.toInt ≤ 2147483647) (q_0 : p1.toInt < p2.toInt) : Met l yJ0_checkIndex_df160 (zt_w yJ0_checkIndex_df160 cJ0_checkIndex_df160 2 none) (zq_rm (1)) (va_Pc [.int p1, .int p2] (zq_W X (zk, zn) I)) (va_Qv (fun I2 => I2 = I ∧ True) (zq_E X (zk, zn)) (zq_A X)) 0 0 (zq_A X) := by
  refine zq_ofW (cc := cJ0_checkIndex_df160) (maxL := 2) (ret := none) (by decide +kernel) rfl ?_
  intro p e s m args below meth c s₁ B hml hv
  obtain ⟨hargs, hM, hZ⟩ := hv
  have hown : s.vm.findClass RJ0 = some m.cls := findClass_of_methodNamed B.named
  have hts := atoms_spec (ws := zt_w yJ0_checkIndex_df160 cJ0_checkIndex_df160 2 none) B.pre
  have E : CallFix p m c cJ0_checkIndex_df160 2 s args (Cond.code yJ0_checkIndex_df160 cJ0_checkIndex_df160 2 none :: zt) RJ0 := ⟨B.exec, B.bytes, hml, hown, hts⟩
  have hx := B.exec
  have hb := B.bytes
  have hr := B.returns
  have hlocks := B.notSynchronized
  clear B
  have hS : va_S (zq_A X) s.heap s.heap [] := va_S.rf
  have hl := lv_entry ([.int p1, .int p2]) (n := 2) (by exact Nat.le_of_ble_eq_true rfl)
  have hg : entryFrame m args 2 = F0 m 0 ((lg_sl ([.int p1, .int p2]) ++ List.replicate (2 - (lg_sl ([.int p1, .int p2])).length) Slot.unset).toArray) [] := by rw [hargs]; exact lg_entry_eq m ([.int p1, .int p2]) 2
  rw [hg]
  clear hg hargs
  generalize (lg_sl ([.int p1, .int p2]) ++ List.replicate (2 - (lg_sl ([.int p1, .int p2])).length) Slot.unset).toArray = ls at hl ⊢
  have hl : lv_has ls 2 [(0, .int p1), (1, .int p2)] := by exact hl
  obtain ⟨R, hRm⟩ : ∃ R : Room, R = (headSpec (zt_w yJ0_checkIndex_df160 cJ0_checkIndex_df160 2 none) (zq_rm (1))).room := ⟨_, rfl⟩
  rw [← hRm]
  have hro : ∀ d q : Nat, d + 1 ≤ 1 → q ≤ 45 → zq_rok d q R := fun d q h1 h2 => by rw [hRm]; exact zq_rokI h1 h2
  generalize hQ : MQ below _ args s 0 0 (zq_A X) = Q
  obtain ⟨H, hH⟩ : ∃ H, H = s.heap := ⟨_, rfl⟩
  obtain ⟨locs, hlo⟩ : ∃ x : List Loc, x = [] := ⟨_, rfl⟩
  rw [show W p l e R s m args below meth c s.heap [] 0 0 Q = W p l e R s m args below meth c H locs 0 0 Q by rw [hH, hlo]]
  have hM : zq_hm X (zk, zn) I H := by rw [hH]; exact hM
  have hS : va_S (zq_A X) s.heap H locs := by rw [hH, hlo]; exact hS
  clear hH hlo
  refine lv_iload_n hx hb dJ0_checkIndex_df160_0 rfl (lv_at hl 0 rfl) ?_
  refine lv_iload_n hx hb dJ0_checkIndex_df160_1 rfl (lv_at hl 1 rfl) ?_
  obtain ⟨q101, hq101⟩ := hZ.2.2.2.2.2.2.2.2.2.2
  refine zq_gets (v := va_rf q101) E hM hq101 (List.mem_cons_of_mem _ zLJ0_1053) dJ0_checkIndex_df160_2 ?_
  refine zq_pcalli (zq_rS (As := [.int p1, .int p2, va_rf q101]) (rest := []) E hZ hM (c_J3_checkIndex_8e157 l X zk (zn) I L p1 p2 q101 ⟨by have := zi_rng p1; omega, by have := zi_rng p1; omega⟩ (by have := zi_rng p1; have := zi_rng p2; omega)) zmJ0_1059 zM_J3_checkIndex_8e157 (hro (0) 3 (by first | decide | omega) (by decide)) hl.1 rfl rfl (Nat.le_of_ble_eq_true rfl) dJ0_checkIndex_df160_5) hS (fun x103 H locs h102 hM hS => ?_)
  have p104 := h102
  have := zi_rng x103
  refine lv_pop hx hb dJ0_checkIndex_df160_8 rfl ?_
  subst hQ
  exact zq_vret E hr hZ hM hS ⟨rfl, trivial⟩ hlocks dJ0_checkIndex_df160_9
set_option maxHeartbeats 8000000 in
set_option maxRecDepth 100000 in
theorem c_J0_coder_7d493 (l : Launch) (X : zq_X) (zk zn : Nat) (I : zq_M) (L : zq_L X)  (h0 : Nat) (k_h0 : zq_k X h0 = 13)  : Met l yJ0_coder_7d493 (zt_w yJ0_coder_7d493 cJ0_coder_7d493 1 (some .byte)) (zq_rm (0)) (va_Pc [.ref h0] (zq_W X (zk, zn) I)) (va_Qi (fun (r : Int32) I2 => I2 = I ∧ (0 ≤ r.toInt ∧ r.toInt ≤ 0)) (zq_E X (zk, zn)) (zq_A X)) 0 0 (zq_A X) := by
  refine zq_ofW (cc := cJ0_coder_7d493) (maxL := 1) (ret := (some .byte)) (by decide +kernel) rfl ?_
  intro p e s m args below meth c s₁ B hml hv
  obtain ⟨hargs, hM, hZ⟩ := hv
  have hown : s.vm.findClass RJ0 = some m.cls := findClass_of_methodNamed B.named
  have hts := atoms_spec (ws := zt_w yJ0_coder_7d493 cJ0_coder_7d493 1 (some .byte)) B.pre
  have E : CallFix p m c cJ0_coder_7d493 1 s args (Cond.code yJ0_coder_7d493 cJ0_coder_7d493 1 (some .byte) :: zt) RJ0 := ⟨B.exec, B.bytes, hml, hown, hts⟩
  have hx := B.exec
  have hb := B.bytes
  have hr := B.returns
  have hlocks := B.notSynchronized
  clear B
  have hS : va_S (zq_A X) s.heap s.heap [] := va_S.rf
  have hl := lv_entry ([.ref h0]) (n := 1) (by exact Nat.le_of_ble_eq_true rfl)
  have hg : entryFrame m args 1 = F0 m 0 ((lg_sl ([.ref h0]) ++ List.replicate (1 - (lg_sl ([.ref h0])).length) Slot.unset).toArray) [] := by rw [hargs]; exact lg_entry_eq m ([.ref h0]) 1
  rw [hg]
  clear hg hargs
  generalize (lg_sl ([.ref h0]) ++ List.replicate (1 - (lg_sl ([.ref h0])).length) Slot.unset).toArray = ls at hl ⊢
  have hl : lv_has ls 1 [(0, .ref h0)] := by exact hl
  obtain ⟨R, hRm⟩ : ∃ R : Room, R = (headSpec (zt_w yJ0_coder_7d493 cJ0_coder_7d493 1 (some .byte)) (zq_rm (0))).room := ⟨_, rfl⟩
  rw [← hRm]
  generalize hQ : MQ below _ args s 0 0 (zq_A X) = Q
  obtain ⟨H, hH⟩ : ∃ H, H = s.heap := ⟨_, rfl⟩
  obtain ⟨locs, hlo⟩ : ∃ x : List Loc, x = [] := ⟨_, rfl⟩
  rw [show W p l e R s m args below meth c s.heap [] 0 0 Q = W p l e R s m args below meth c H locs 0 0 Q by rw [hH, hlo]]
  have hM : zq_hm X (zk, zn) I H := by rw [hH]; exact hM
  have hS : va_S (zq_A X) s.heap H locs := by rw [hH, hlo]; exact hS
  clear hH hlo
  refine zq_gets (v := .int 1) E hM hZ.2.2.2.2.2.2.2.2.2.1 (List.mem_cons_of_mem _ zLJ0_38) dJ0_coder_7d493_0 ?_
  refine lv_if_eq (tgt := 13) hx hb dJ0_coder_7d493_3 (by decide) (fun b101 => ?_) (fun b101 => ?_)
  · have b101 := zi_eq b101 (zl_1 : (1 : Int32).toInt = 1) (zl_0 : (0 : Int32).toInt = 0)
    exfalso; omega
  · have b101 := zi_ne b101 (zl_1 : (1 : Int32).toInt = 1) (zl_0 : (0 : Int32).toInt = 0)
    refine lv_aload_n hx hb dJ0_coder_7d493_6 rfl (lv_at hl 0 rfl) ?_
    refine zq_scoder E hZ hM k_h0 (List.mem_cons_of_mem _ zLJ0_15) dJ0_coder_7d493_7 ?_
    refine lv_goto (tgt := 14) hx hb dJ0_coder_7d493_10 (by decide) ?_
    subst hQ
    exact zq_nret E hr rfl hM hS ⟨rfl, (by have := zl_0; omega)⟩ hlocks dJ0_coder_7d493_14
set_option maxHeartbeats 8000000 in
set_option maxRecDepth 100000 in
theorem c_J0_isLatin1_aae02 (l : Launch) (X : zq_X) (zk zn : Nat) (I : zq_M) (L : zq_L X)  (h0 : Nat) (k_h0 : zq_k X h0 = 13)  : Met l yJ0_isLatin1_aae02 (zt_w yJ0_isLatin1_aae02 cJ0_isLatin1_aae02 1 (some .boolean)) (zq_rm (0)) (va_Pc [.ref h0] (zq_W X (zk, zn) I)) (va_Qi (fun (r : Int32) I2 => I2 = I ∧ (r.toInt = 1) ∧ (0 ≤ r.toInt ∧ r.toInt ≤ 1)) (zq_E X (zk, zn)) (zq_A X)) 0 0 (zq_A X) := by
  refine zq_ofW (cc := cJ0_isLatin1_aae02) (maxL := 1) (ret := (some .boolean)) (by decide +kernel) rfl ?_
  intro p e s m args below meth c s₁ B hml hv
  obtain ⟨hargs, hM, hZ⟩ := hv
  have hown : s.vm.findClass RJ0 = some m.cls := findClass_of_methodNamed B.named
  have hts := atoms_spec (ws := zt_w yJ0_isLatin1_aae02 cJ0_isLatin1_aae02 1 (some .boolean)) B.pre
  have E : CallFix p m c cJ0_isLatin1_aae02 1 s args (Cond.code yJ0_isLatin1_aae02 cJ0_isLatin1_aae02 1 (some .boolean) :: zt) RJ0 := ⟨B.exec, B.bytes, hml, hown, hts⟩
  have hx := B.exec
  have hb := B.bytes
  have hr := B.returns
  have hlocks := B.notSynchronized
  clear B
  have hS : va_S (zq_A X) s.heap s.heap [] := va_S.rf
  have hl := lv_entry ([.ref h0]) (n := 1) (by exact Nat.le_of_ble_eq_true rfl)
  have hg : entryFrame m args 1 = F0 m 0 ((lg_sl ([.ref h0]) ++ List.replicate (1 - (lg_sl ([.ref h0])).length) Slot.unset).toArray) [] := by rw [hargs]; exact lg_entry_eq m ([.ref h0]) 1
  rw [hg]
  clear hg hargs
  generalize (lg_sl ([.ref h0]) ++ List.replicate (1 - (lg_sl ([.ref h0])).length) Slot.unset).toArray = ls at hl ⊢
  have hl : lv_has ls 1 [(0, .ref h0)] := by exact hl
  obtain ⟨R, hRm⟩ : ∃ R : Room, R = (headSpec (zt_w yJ0_isLatin1_aae02 cJ0_isLatin1_aae02 1 (some .boolean)) (zq_rm (0))).room := ⟨_, rfl⟩
  rw [← hRm]
  generalize hQ : MQ below _ args s 0 0 (zq_A X) = Q
  obtain ⟨H, hH⟩ : ∃ H, H = s.heap := ⟨_, rfl⟩
  obtain ⟨locs, hlo⟩ : ∃ x : List Loc, x = [] := ⟨_, rfl⟩
  rw [show W p l e R s m args below meth c s.heap [] 0 0 Q = W p l e R s m args below meth c H locs 0 0 Q by rw [hH, hlo]]
  have hM : zq_hm X (zk, zn) I H := by rw [hH]; exact hM
  have hS : va_S (zq_A X) s.heap H locs := by rw [hH, hlo]; exact hS
  clear hH hlo
  refine zq_gets (v := .int 1) E hM hZ.2.2.2.2.2.2.2.2.2.1 (List.mem_cons_of_mem _ zLJ0_38) dJ0_isLatin1_aae02_0 ?_
  refine lv_if_eq (tgt := 17) hx hb dJ0_isLatin1_aae02_3 (by decide) (fun b101 => ?_) (fun b101 => ?_)
  · have b101 := zi_eq b101 (zl_1 : (1 : Int32).toInt = 1) (zl_0 : (0 : Int32).toInt = 0)
    exfalso; omega
  · have b101 := zi_ne b101 (zl_1 : (1 : Int32).toInt = 1) (zl_0 : (0 : Int32).toInt = 0)
    refine lv_aload_n hx hb dJ0_isLatin1_aae02_6 rfl (lv_at hl 0 rfl) ?_
    refine zq_scoder E hZ hM k_h0 (List.mem_cons_of_mem _ zLJ0_15) dJ0_isLatin1_aae02_7 ?_
    refine lv_if_ne (tgt := 17) hx hb dJ0_isLatin1_aae02_10 (by decide) (fun b102 => ?_) (fun b102 => ?_)
    · have b102 := zi_ne b102 (zl_0 : (0 : Int32).toInt = 0) (zl_0 : (0 : Int32).toInt = 0)
      exfalso; omega
    · have b102 := zi_eq b102 (zl_0 : (0 : Int32).toInt = 0) (zl_0 : (0 : Int32).toInt = 0)
      refine lv_iconst (v := 1) hx hb dJ0_isLatin1_aae02_13 (by decide +kernel) ?_
      refine lv_goto (tgt := 18) hx hb dJ0_isLatin1_aae02_14 (by decide) ?_
      subst hQ
      exact zq_zret E hr hZ hM hS (show 0 ≤ (1 : Int32).toInt ∧ (1 : Int32).toInt ≤ 1 by decide +kernel) ⟨rfl, (by have := zl_1; omega), (by have := zl_1; omega)⟩ hlocks dJ0_isLatin1_aae02_18
set_option maxHeartbeats 8000000 in
set_option maxRecDepth 100000 in
theorem c_J0_length_8abf5 (l : Launch) (X : zq_X) (zk zn : Nat) (I : zq_M) (L : zq_L X)  (h0 : Nat) (k_h0 : zq_k X h0 = 13)  : Met l yJ0_length_8abf5 (zt_w yJ0_length_8abf5 cJ0_length_8abf5 1 (some .int)) (zq_rm (1)) (va_Pc [.ref h0] (zq_W X (zk, zn) I)) (va_Qi (fun (r : Int32) I2 => I2 = I ∧ (r.toInt = ((zq_r X (zq_r X h0 0) 0 : Nat) : Int)) ∧ (0 ≤ r.toInt)) (zq_E X (zk, zn)) (zq_A X)) 0 0 (zq_A X) := by
  refine zq_ofW (cc := cJ0_length_8abf5) (maxL := 1) (ret := (some .int)) (by decide +kernel) rfl ?_
  intro p e s m args below meth c s₁ B hml hv
  obtain ⟨hargs, hM, hZ⟩ := hv
  have hown : s.vm.findClass RJ0 = some m.cls := findClass_of_methodNamed B.named
  have hts := atoms_spec (ws := zt_w yJ0_length_8abf5 cJ0_length_8abf5 1 (some .int)) B.pre
  have E : CallFix p m c cJ0_length_8abf5 1 s args (Cond.code yJ0_length_8abf5 cJ0_length_8abf5 1 (some .int) :: zt) RJ0 := ⟨B.exec, B.bytes, hml, hown, hts⟩
  have hx := B.exec
  have hb := B.bytes
  have hr := B.returns
  have hlocks := B.notSynchronized
  clear B
  have hS : va_S (zq_A X) s.heap s.heap [] := va_S.rf
  have hl := lv_entry ([.ref h0]) (n := 1) (by exact Nat.le_of_ble_eq_true rfl)
  have hg : entryFrame m args 1 = F0 m 0 ((lg_sl ([.ref h0]) ++ List.replicate (1 - (lg_sl ([.ref h0])).length) Slot.unset).toArray) [] := by rw [hargs]; exact lg_entry_eq m ([.ref h0]) 1
  rw [hg]
  clear hg hargs
  generalize (lg_sl ([.ref h0]) ++ List.replicate (1 - (lg_sl ([.ref h0])).length) Slot.unset).toArray = ls at hl ⊢
  have hl : lv_has ls 1 [(0, .ref h0)] := by exact hl
  obtain ⟨R, hRm⟩ : ∃ R : Room, R = (headSpec (zt_w yJ0_length_8abf5 cJ0_length_8abf5 1 (some .int)) (zq_rm (1))).room := ⟨_, rfl⟩
  rw [← hRm]
  have hro : ∀ d q : Nat, d + 1 ≤ 1 → q ≤ 45 → zq_rok d q R := fun d q h1 h2 => by rw [hRm]; exact zq_rokI h1 h2
  generalize hQ : MQ below _ args s 0 0 (zq_A X) = Q
  obtain ⟨H, hH⟩ : ∃ H, H = s.heap := ⟨_, rfl⟩
  obtain ⟨locs, hlo⟩ : ∃ x : List Loc, x = [] := ⟨_, rfl⟩
  rw [show W p l e R s m args below meth c s.heap [] 0 0 Q = W p l e R s m args below meth c H locs 0 0 Q by rw [hH, hlo]]
  have hM : zq_hm X (zk, zn) I H := by rw [hH]; exact hM
  have hS : va_S (zq_A X) s.heap H locs := by rw [hH, hlo]; exact hS
  clear hH hlo
  refine lv_aload_n hx hb dJ0_length_8abf5_0 rfl (lv_at hl 0 rfl) ?_
  refine zq_svalue E hZ hM k_h0 (List.mem_cons_of_mem _ zLJ0_9) dJ0_length_8abf5_1 (fun k101 => ?_)
  refine zq_slen E hZ hM k101 dJ0_length_8abf5_4 (fun x102 tx102 => ?_)
  refine lv_aload_n hx hb dJ0_length_8abf5_5 rfl (lv_at hl 0 rfl) ?_
  refine zq_pcalli (zq_rVs (As := []) (rest := [.int x102]) E hZ hM k_h0 (c_J0_coder_7d493 l X zk (zn) I L h0 k_h0) zmJ0_335 zM_J0_coder_7d493 (hro (0) 1 (by first | decide | omega) (by decide)) hl.1 rfl rfl (Nat.le_of_ble_eq_true rfl) dJ0_length_8abf5_6) hS (fun x104 H locs h103 hM hS => ?_)
  have p105 := h103
  refine lv_ishr hx hb dJ0_length_8abf5_9 ?_
  refine lv_topi (fun x106 ex106 => ?_)
  subst hQ
  exact zq_iret E hr hZ hM hS ⟨rfl, (by rw [zi_shr0 ex106 (by omega)]; omega), (by rw [zi_shr0 ex106 (by omega)]; omega)⟩ hlocks dJ0_length_8abf5_10
set_option maxHeartbeats 8000000 in
set_option maxRecDepth 100000 in
theorem c_J1_charAt_3b067 (l : Launch) (X : zq_X) (zk zn : Nat) (I : zq_M) (L : zq_L X)  (p1 : Nat) (k_p1 : zq_k X p1 = 14) (p2 : Int32) (g_p2 : 0 ≤ p2.toInt ∧ p2.toInt ≤ 2147483647) (q_0 : p2.toInt < ((zq_r X p1 0 : Nat) : Int)) : Met l yJ1_charAt_3b067 (zt_w yJ1_charAt_3b067 cJ1_charAt_3b067 2 (some .char)) (zq_rm (2)) (va_Pc [.ref p1, .int p2] (zq_W X (zk, zn) I)) (va_Qi (fun (r : Int32) I2 => I2 = I ∧ (narrow .char (.int r) = .int r) ∧ (r.toInt ≤ 2147483647)) (zq_E X (zk, zn)) (zq_A X)) 0 0 (zq_A X) := by
  refine zq_ofW (cc := cJ1_charAt_3b067) (maxL := 2) (ret := (some .char)) (by decide +kernel) rfl ?_
  intro p e s m args below meth c s₁ B hml hv
  obtain ⟨hargs, hM, hZ⟩ := hv
  have hown : s.vm.findClass RJ1 = some m.cls := findClass_of_methodNamed B.named
  have hts := atoms_spec (ws := zt_w yJ1_charAt_3b067 cJ1_charAt_3b067 2 (some .char)) B.pre
  have E : CallFix p m c cJ1_charAt_3b067 2 s args (Cond.code yJ1_charAt_3b067 cJ1_charAt_3b067 2 (some .char) :: zt) RJ1 := ⟨B.exec, B.bytes, hml, hown, hts⟩
  have hx := B.exec
  have hb := B.bytes
  have hr := B.returns
  have hlocks := B.notSynchronized
  clear B
  have hS : va_S (zq_A X) s.heap s.heap [] := va_S.rf
  have hl := lv_entry ([.ref p1, .int p2]) (n := 2) (by exact Nat.le_of_ble_eq_true rfl)
  have hg : entryFrame m args 2 = F0 m 0 ((lg_sl ([.ref p1, .int p2]) ++ List.replicate (2 - (lg_sl ([.ref p1, .int p2])).length) Slot.unset).toArray) [] := by rw [hargs]; exact lg_entry_eq m ([.ref p1, .int p2]) 2
  rw [hg]
  clear hg hargs
  generalize (lg_sl ([.ref p1, .int p2]) ++ List.replicate (2 - (lg_sl ([.ref p1, .int p2])).length) Slot.unset).toArray = ls at hl ⊢
  have hl : lv_has ls 2 [(0, .ref p1), (1, .int p2)] := by exact hl
  obtain ⟨R, hRm⟩ : ∃ R : Room, R = (headSpec (zt_w yJ1_charAt_3b067 cJ1_charAt_3b067 2 (some .char)) (zq_rm (2))).room := ⟨_, rfl⟩
  rw [← hRm]
  have hro : ∀ d q : Nat, d + 1 ≤ 2 → q ≤ 45 → zq_rok d q R := fun d q h1 h2 => by rw [hRm]; exact zq_rokI h1 h2
  generalize hQ : MQ below _ args s 0 0 (zq_A X) = Q
  obtain ⟨H, hH⟩ : ∃ H, H = s.heap := ⟨_, rfl⟩
  obtain ⟨locs, hlo⟩ : ∃ x : List Loc, x = [] := ⟨_, rfl⟩
  rw [show W p l e R s m args below meth c s.heap [] 0 0 Q = W p l e R s m args below meth c H locs 0 0 Q by rw [hH, hlo]]
  have hM : zq_hm X (zk, zn) I H := by rw [hH]; exact hM
  have hS : va_S (zq_A X) s.heap H locs := by rw [hH, hlo]; exact hS
  clear hH hlo
  refine lv_iload_n hx hb dJ1_charAt_3b067_0 rfl (lv_at hl 1 rfl) ?_
  refine lv_aload_n hx hb dJ1_charAt_3b067_1 rfl (lv_at hl 0 rfl) ?_
  refine zq_slen E hZ hM k_p1 dJ1_charAt_3b067_2 (fun x101 tx101 => ?_)
  refine zq_callv (zq_rS (As := [.int p2, .int x101]) (rest := []) E hZ hM (c_J0_checkIndex_df160 l X zk (zn) I L p2 x101 ⟨by have := zi_rng p2; omega, by have := zi_rng p2; omega⟩ (by have := zi_rng p2; have := zi_rng x101; omega)) zmJ1_9 zM_J0_checkIndex_df160 (hro (1) 2 (by first | decide | omega) (by decide)) hl.1 rfl rfl (Nat.le_of_ble_eq_true rfl) dJ1_charAt_3b067_3) hS (fun I104 H locs h102 hM hS => ?_)
  obtain ⟨fr105, p106⟩ := h102
  rw [fr105] at hM
  refine lv_aload_n hx hb dJ1_charAt_3b067_6 rfl (lv_at hl 0 rfl) ?_
  refine lv_iload_n hx hb dJ1_charAt_3b067_7 rfl (lv_at hl 1 rfl) ?_
  refine zq_sald E hZ hM k_p1 ⟨by omega, by omega⟩ dJ1_charAt_3b067_8 (fun x107 => ?_)
  refine lv_sipush (v := 255) hx hb dJ1_charAt_3b067_9 (by decide +kernel) ?_
  refine lv_iand hx hb dJ1_charAt_3b067_12 ?_
  refine lv_topi (fun x108 ex108 => ?_)
  have tx108 := zi_and 8 (by decide +kernel) (by decide) ex108
  refine W.eq (g2 := F0 m 13 ls [.int x108]) rfl ?_
  refine lv_i2c hx hb dJ1_charAt_3b067_13 rfl ?_
  refine lv_topi (fun x109 ex109 => ?_)
  subst hQ
  exact zq_nret E hr (by rw [ex109]; exact pk_nc _) hM hS ⟨rfl, (by rw [ex109]; exact pk_nc _), (by have := zi_rng x109; omega)⟩ hlocks dJ1_charAt_3b067_14
set_option maxHeartbeats 8000000 in
set_option maxRecDepth 100000 in
theorem c_J0_charAt_5068e (l : Launch) (X : zq_X) (zk zn : Nat) (I : zq_M) (L : zq_L X)  (h0 : Nat) (k_h0 : zq_k X h0 = 13) (p1 : Int32) (g_p1 : 0 ≤ p1.toInt ∧ p1.toInt ≤ 2147483647) (q_0 : p1.toInt < ((zq_r X (zq_r X h0 0) 0 : Nat) : Int)) : Met l yJ0_charAt_5068e (zt_w yJ0_charAt_5068e cJ0_charAt_5068e 2 (some .char)) (zq_rm (3)) (va_Pc [.ref h0, .int p1] (zq_W X (zk, zn) I)) (va_Qi (fun (r : Int32) I2 => I2 = I ∧ (r.toInt ≤ 2147483647)) (zq_E X (zk, zn)) (zq_A X)) 0 0 (zq_A X) := by
  refine zq_ofW (cc := cJ0_charAt_5068e) (maxL := 2) (ret := (some .char)) (by decide +kernel) rfl ?_
  intro p e s m args below meth c s₁ B hml hv
  obtain ⟨hargs, hM, hZ⟩ := hv
  have hown : s.vm.findClass RJ0 = some m.cls := findClass_of_methodNamed B.named
  have hts := atoms_spec (ws := zt_w yJ0_charAt_5068e cJ0_charAt_5068e 2 (some .char)) B.pre
  have E : CallFix p m c cJ0_charAt_5068e 2 s args (Cond.code yJ0_charAt_5068e cJ0_charAt_5068e 2 (some .char) :: zt) RJ0 := ⟨B.exec, B.bytes, hml, hown, hts⟩
  have hx := B.exec
  have hb := B.bytes
  have hr := B.returns
  have hlocks := B.notSynchronized
  clear B
  have hS : va_S (zq_A X) s.heap s.heap [] := va_S.rf
  have hl := lv_entry ([.ref h0, .int p1]) (n := 2) (by exact Nat.le_of_ble_eq_true rfl)
  have hg : entryFrame m args 2 = F0 m 0 ((lg_sl ([.ref h0, .int p1]) ++ List.replicate (2 - (lg_sl ([.ref h0, .int p1])).length) Slot.unset).toArray) [] := by rw [hargs]; exact lg_entry_eq m ([.ref h0, .int p1]) 2
  rw [hg]
  clear hg hargs
  generalize (lg_sl ([.ref h0, .int p1]) ++ List.replicate (2 - (lg_sl ([.ref h0, .int p1])).length) Slot.unset).toArray = ls at hl ⊢
  have hl : lv_has ls 2 [(0, .ref h0), (1, .int p1)] := by exact hl
  obtain ⟨R, hRm⟩ : ∃ R : Room, R = (headSpec (zt_w yJ0_charAt_5068e cJ0_charAt_5068e 2 (some .char)) (zq_rm (3))).room := ⟨_, rfl⟩
  rw [← hRm]
  have hro : ∀ d q : Nat, d + 1 ≤ 3 → q ≤ 45 → zq_rok d q R := fun d q h1 h2 => by rw [hRm]; exact zq_rokI h1 h2
  generalize hQ : MQ below _ args s 0 0 (zq_A X) = Q
  obtain ⟨H, hH⟩ : ∃ H, H = s.heap := ⟨_, rfl⟩
  obtain ⟨locs, hlo⟩ : ∃ x : List Loc, x = [] := ⟨_, rfl⟩
  rw [show W p l e R s m args below meth c s.heap [] 0 0 Q = W p l e R s m args below meth c H locs 0 0 Q by rw [hH, hlo]]
  have hM : zq_hm X (zk, zn) I H := by rw [hH]; exact hM
  have hS : va_S (zq_A X) s.heap H locs := by rw [hH, hlo]; exact hS
  clear hH hlo
  refine lv_aload_n hx hb dJ0_charAt_5068e_0 rfl (lv_at hl 0 rfl) ?_
  refine zq_pcalli (zq_rVs (As := []) (rest := []) E hZ hM k_h0 (c_J0_isLatin1_aae02 l X zk (zn) I L h0 k_h0) zmJ0_492 zM_J0_isLatin1_aae02 (hro (0) 1 (by first | decide | omega) (by decide)) hl.1 rfl rfl (Nat.le_of_ble_eq_true rfl) dJ0_charAt_5068e_1) hS (fun x102 H locs h101 hM hS => ?_)
  obtain ⟨p103, p104⟩ := h101
  refine lv_if_eq (tgt := 16) hx hb dJ0_charAt_5068e_4 (by decide) (fun b105 => ?_) (fun b105 => ?_)
  · have b105 := zi_eq b105 (rfl : x102.toInt = x102.toInt) (zl_0 : (0 : Int32).toInt = 0)
    exfalso; omega
  · have b105 := zi_ne b105 (rfl : x102.toInt = x102.toInt) (zl_0 : (0 : Int32).toInt = 0)
    refine lv_aload_n hx hb dJ0_charAt_5068e_7 rfl (lv_at hl 0 rfl) ?_
    refine zq_svalue E hZ hM k_h0 (List.mem_cons_of_mem _ zLJ0_9) dJ0_charAt_5068e_8 (fun k106 => ?_)
    refine lv_iload_n hx hb dJ0_charAt_5068e_11 rfl (lv_at hl 1 rfl) ?_
    refine zq_pcalli (zq_rS (As := [.ref (zq_r X h0 0), .int p1]) (rest := []) E hZ hM (c_J1_charAt_3b067 l X zk (zn) I L (zq_r X h0 0) k106 p1 ⟨by have := zi_rng p1; omega, by have := zi_rng p1; omega⟩ (by have := zi_rng p1; omega)) zmJ0_495 zM_J1_charAt_3b067 (hro (2) 2 (by first | decide | omega) (by decide)) hl.1 rfl rfl (Nat.le_of_ble_eq_true rfl) dJ0_charAt_5068e_12) hS (fun x108 H locs h107 hM hS => ?_)
    obtain ⟨p109, p110⟩ := h107
    subst hQ
    exact zq_nret E hr p109 hM hS ⟨rfl, (by have := zi_rng x108; omega)⟩ hlocks dJ0_charAt_5068e_15
