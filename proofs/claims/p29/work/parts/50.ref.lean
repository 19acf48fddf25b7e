set_option maxHeartbeats 8000000 in
set_option maxRecDepth 100000 in
theorem c_X12_in (l : Launch) (X : zq_X) (zk zn : Nat) (I : zq_M) (L : zq_L X)  (p1 : Int64) (p2 : Int64) (p3 : Int64)  : Met l yX12_in (zt_w yX12_in cX12_in 6 (some .boolean)) (zq_rm (0)) (va_Pc [.long p1, .long p2, .long p3] (zq_W X (zk, zn) I)) (va_Qi (fun (r : Int32) I2 => I2 = I ∧ ((r.toInt = 1 ∧ p2.toInt ≤ p1.toInt ∧ p1.toInt ≤ p3.toInt) ∨ (r.toInt = 0 ∧ (p1.toInt < p2.toInt ∨ p3.toInt < p1.toInt))) ∧ (0 ≤ r.toInt ∧ r.toInt ≤ 1)) (zq_E X (zk, zn)) (zq_A X)) 0 0 (zq_A X) := by
  refine Met.ofW (cc := cX12_in) (maxL := 6) (ret := (some .boolean)) (by decide) rfl ?_
  intro p e s m args below meth c s₁ B hml hv
  obtain ⟨hargs, hM, hZ⟩ := hv
  have hown : s.vm.findClass RX12 = some m.cls := findClass_of_methodNamed B.named
  have hts := atoms_spec (ws := zt_w yX12_in cX12_in 6 (some .boolean)) B.pre
  have E : CallFix p m c cX12_in 6 s args (Cond.code yX12_in cX12_in 6 (some .boolean) :: zt) RX12 := ⟨B.exec, B.bytes, hml, hown, hts⟩
  have hx := B.exec
  have hb := B.bytes
  have hr := B.returns
  have hlocks := B.notSynchronized
  clear B
  have hS : va_S (zq_A X) s.heap s.heap [] := va_S.rf
  have hl := lv_entry ([.long p1, .long p2, .long p3]) (n := 6) (by exact Nat.le_of_ble_eq_true rfl)
  have hg : entryFrame m args 6 = F0 m 0 ((lg_sl ([.long p1, .long p2, .long p3]) ++ List.replicate (6 - (lg_sl ([.long p1, .long p2, .long p3])).length) Slot.unset).toArray) [] := by rw [hargs]; exact lg_entry_eq m ([.long p1, .long p2, .long p3]) 6
  rw [hg]
  clear hg hargs
  generalize (lg_sl ([.long p1, .long p2, .long p3]) ++ List.replicate (6 - (lg_sl ([.long p1, .long p2, .long p3])).length) Slot.unset).toArray = ls at hl ⊢
  have hl : lv_has ls 6 [(0, .long p1), (2, .long p2), (4, .long p3)] := by exact hl
  obtain ⟨R, hRm⟩ : ∃ R : Room, R = (headSpec (zt_w yX12_in cX12_in 6 (some .boolean)) (zq_rm (0))).room := ⟨_, rfl⟩
  rw [← hRm]
  generalize hQ : MQ below _ args s 0 0 (zq_A X) = Q
  obtain ⟨H, hH⟩ : ∃ H, H = s.heap := ⟨_, rfl⟩
  obtain ⟨locs, hlo⟩ : ∃ x : List Loc, x = [] := ⟨_, rfl⟩
  rw [show W p l e R s m args below meth c s.heap [] 0 0 Q = W p l e R s m args below meth c H locs 0 0 Q by rw [hH, hlo]]
  have hM : zq_hm X (zk, zn) I H := by rw [hH]; exact hM
  have hS : va_S (zq_A X) s.heap H locs := by rw [hH, hlo]; exact hS
  clear hH hlo
  refine lv_lload_n hx hb dX12_in_0 rfl (lv_at hl 0 rfl) ?_
  refine lv_lload_n hx hb dX12_in_1 rfl (lv_at hl 1 rfl) ?_
  refine zq_lcmp hx hb dX12_in_2 (fun x101 hx101 => ?_)
  refine lv_if_lt (tgt := 17) hx hb dX12_in_3 (by decide) (fun b102 => ?_) (fun b102 => ?_)
  · have b102 := zi_lt b102 (rfl : x101.toInt = x101.toInt) (zl_0 : (0 : Int32).toInt = 0)
    refine lv_iconst (v := 0) hx hb dX12_in_17 (by decide +kernel) ?_
    subst hQ
    exact zq_zret E hr hZ hM hS (show 0 ≤ (0 : Int32).toInt ∧ (0 : Int32).toInt ≤ 1 by decide +kernel) ⟨rfl, (by have := zl_0; omega), (by have := zl_0; omega)⟩ hlocks dX12_in_18
  · have b102 := zi_nlt b102 (rfl : x101.toInt = x101.toInt) (zl_0 : (0 : Int32).toInt = 0)
    refine lv_lload_n hx hb dX12_in_6 rfl (lv_at hl 0 rfl) ?_
    refine lv_lload hx hb dX12_in_7 (lv_at hl 2 rfl) ?_
    refine zq_lcmp hx hb dX12_in_9 (fun x103 hx103 => ?_)
    refine lv_if_gt (tgt := 17) hx hb dX12_in_10 (by decide) (fun b104 => ?_) (fun b104 => ?_)
    · have b104 := zi_lt b104 (zl_0 : (0 : Int32).toInt = 0) (rfl : x103.toInt = x103.toInt)
      refine lv_iconst (v := 0) hx hb dX12_in_17 (by decide +kernel) ?_
      subst hQ
      exact zq_zret E hr hZ hM hS (show 0 ≤ (0 : Int32).toInt ∧ (0 : Int32).toInt ≤ 1 by decide +kernel) ⟨rfl, (by have := zl_0; omega), (by have := zl_0; omega)⟩ hlocks dX12_in_18
    · have b104 := zi_nlt b104 (zl_0 : (0 : Int32).toInt = 0) (rfl : x103.toInt = x103.toInt)
      refine lv_iconst (v := 1) hx hb dX12_in_13 (by decide +kernel) ?_
      refine lv_goto (tgt := 18) hx hb dX12_in_14 (by decide) ?_
      subst hQ
      exact zq_zret E hr hZ hM hS (show 0 ≤ (1 : Int32).toInt ∧ (1 : Int32).toInt ≤ 1 by decide +kernel) ⟨rfl, (by have := zl_1; omega), (by have := zl_1; omega)⟩ hlocks dX12_in_18
set_option maxHeartbeats 8000000 in
set_option maxRecDepth 100000 in
theorem c_X12_atMost (l : Launch) (X : zq_X) (zk zn : Nat) (I : zq_M) (L : zq_L X)  (p1 : Int32) (p2 : Int32)  : Met l yX12_atMost (zt_w yX12_atMost cX12_atMost 2 (some .int)) (zq_rm (0)) (va_Pc [.int p1, .int p2] (zq_W X (zk, zn) I)) (va_Qi (fun (r : Int32) I2 => I2 = I ∧ ((r.toInt = p1.toInt ∧ p1.toInt ≤ p2.toInt) ∨ (r.toInt = p2.toInt ∧ p2.toInt ≤ p1.toInt))) (zq_E X (zk, zn)) (zq_A X)) 0 0 (zq_A X) := by
  refine Met.ofW (cc := cX12_atMost) (maxL := 2) (ret := (some .int)) (by decide) rfl ?_
  intro p e s m args below meth c s₁ B hml hv
  obtain ⟨hargs, hM, hZ⟩ := hv
  have hown : s.vm.findClass RX12 = some m.cls := findClass_of_methodNamed B.named
  have hts := atoms_spec (ws := zt_w yX12_atMost cX12_atMost 2 (some .int)) B.pre
  have E : CallFix p m c cX12_atMost 2 s args (Cond.code yX12_atMost cX12_atMost 2 (some .int) :: zt) RX12 := ⟨B.exec, B.bytes, hml, hown, hts⟩
  have hx := B.exec
  have hb := B.bytes
  have hr := B.returns
  have hlocks := B.notSynchronized
  clear B
  have hS : va_S (zq_A X) s.heap s.heap [] := va_S.rf
  have hl := lv_entry ([.int p1, .int p2]) (n := 2) (by exact Nat.le_of_ble_eq_true rfl)
  have hg : entryFrame m args 2 = F0 m 0 ((lg_sl ([.int p1, .int p2]) ++ List.replicate (2 - (lg_sl ([.int p1, .int p2])).length) Slot.unset).toArray) [] := by rw [hargs]; exact lg_entry_eq m ([.int p1, .int p2]) 2
  rw [hg]
  clear hg hargs
  generalize (lg_sl ([.int p1, .int p2]) ++ List.replicate (2 - (lg_sl ([.int p1, .int p2])).length) Slot.unset).toArray = ls at hl ⊢
  have hl : lv_has ls 2 [(0, .int p1), (1, .int p2)] := by exact hl
  obtain ⟨R, hRm⟩ : ∃ R : Room, R = (headSpec (zt_w yX12_atMost cX12_atMost 2 (some .int)) (zq_rm (0))).room := ⟨_, rfl⟩
  rw [← hRm]
  generalize hQ : MQ below _ args s 0 0 (zq_A X) = Q
  obtain ⟨H, hH⟩ : ∃ H, H = s.heap := ⟨_, rfl⟩
  obtain ⟨locs, hlo⟩ : ∃ x : List Loc, x = [] := ⟨_, rfl⟩
  rw [show W p l e R s m args below meth c s.heap [] 0 0 Q = W p l e R s m args below meth c H locs 0 0 Q by rw [hH, hlo]]
  have hM : zq_hm X (zk, zn) I H := by rw [hH]; exact hM
  have hS : va_S (zq_A X) s.heap H locs := by rw [hH, hlo]; exact hS
  clear hH hlo
  refine lv_iload_n hx hb dX12_atMost_0 rfl (lv_at hl 0 rfl) ?_
  refine lv_iload_n hx hb dX12_atMost_1 rfl (lv_at hl 1 rfl) ?_
  refine lv_icmp_le (tgt := 9) hx hb dX12_atMost_2 (by decide) (fun b101 => ?_) (fun b101 => ?_)
  · have b101 := zi_le b101 (rfl : p1.toInt = p1.toInt) (rfl : p2.toInt = p2.toInt)
    refine lv_iload_n hx hb dX12_atMost_9 rfl (lv_at hl 0 rfl) ?_
    subst hQ
    exact zq_iret E hr hZ hM hS ⟨rfl, (by have := zi_rng p1; omega)⟩ hlocks dX12_atMost_10
  · have b101 := zi_nle b101 (rfl : p1.toInt = p1.toInt) (rfl : p2.toInt = p2.toInt)
    refine lv_iload_n hx hb dX12_atMost_5 rfl (lv_at hl 1 rfl) ?_
    refine lv_goto (tgt := 10) hx hb dX12_atMost_6 (by decide) ?_
    subst hQ
    exact zq_iret E hr hZ hM hS ⟨rfl, (by have := zi_rng p2; omega)⟩ hlocks dX12_atMost_10
set_option maxHeartbeats 8000000 in
set_option maxRecDepth 100000 in
theorem c_X12_strength (l : Launch) (X : zq_X) (zk zn : Nat) (I : zq_M) (L : zq_L X)  (p1 : Int32)  : Met l yX12_strength (zt_w yX12_strength cX12_strength 1 (some .int)) (zq_rm (0)) (va_Pc [.int p1] (zq_W X (zk, zn) I)) (va_Qi (fun (r : Int32) I2 => I2 = I ∧ (r.toInt = 0 ∨ p1.toInt = 11 ∨ p1.toInt = 12 ∨ p1.toInt = 13) ∧ ((p1.toInt = 11 ∨ p1.toInt = 12 ∨ p1.toInt = 13) → 1 ≤ r.toInt) ∧ (0 ≤ r.toInt ∧ r.toInt ≤ 3)) (zq_E X (zk, zn)) (zq_A X)) 0 0 (zq_A X) := by
  refine Met.ofW (cc := cX12_strength) (maxL := 1) (ret := (some .int)) (by decide) rfl ?_
  intro p e s m args below meth c s₁ B hml hv
  obtain ⟨hargs, hM, hZ⟩ := hv
  have hown : s.vm.findClass RX12 = some m.cls := findClass_of_methodNamed B.named
  have hts := atoms_spec (ws := zt_w yX12_strength cX12_strength 1 (some .int)) B.pre
  have E : CallFix p m c cX12_strength 1 s args (Cond.code yX12_strength cX12_strength 1 (some .int) :: zt) RX12 := ⟨B.exec, B.bytes, hml, hown, hts⟩
  have hx := B.exec
  have hb := B.bytes
  have hr := B.returns
  have hlocks := B.notSynchronized
  clear B
  have hS : va_S (zq_A X) s.heap s.heap [] := va_S.rf
  have hl := lv_entry ([.int p1]) (n := 1) (by exact Nat.le_of_ble_eq_true rfl)
  have hg : entryFrame m args 1 = F0 m 0 ((lg_sl ([.int p1]) ++ List.replicate (1 - (lg_sl ([.int p1])).length) Slot.unset).toArray) [] := by rw [hargs]; exact lg_entry_eq m ([.int p1]) 1
  rw [hg]
  clear hg hargs
  generalize (lg_sl ([.int p1]) ++ List.replicate (1 - (lg_sl ([.int p1])).length) Slot.unset).toArray = ls at hl ⊢
  have hl : lv_has ls 1 [(0, .int p1)] := by exact hl
  obtain ⟨R, hRm⟩ : ∃ R : Room, R = (headSpec (zt_w yX12_strength cX12_strength 1 (some .int)) (zq_rm (0))).room := ⟨_, rfl⟩
  rw [← hRm]
  generalize hQ : MQ below _ args s 0 0 (zq_A X) = Q
  obtain ⟨H, hH⟩ : ∃ H, H = s.heap := ⟨_, rfl⟩
  obtain ⟨locs, hlo⟩ : ∃ x : List Loc, x = [] := ⟨_, rfl⟩
  rw [show W p l e R s m args below meth c s.heap [] 0 0 Q = W p l e R s m args below meth c H locs 0 0 Q by rw [hH, hlo]]
  have hM : zq_hm X (zk, zn) I H := by rw [hH]; exact hM
  have hS : va_S (zq_A X) s.heap H locs := by rw [hH, hlo]; exact hS
  clear hH hlo
  refine lv_iload_n hx hb dX12_strength_0 rfl (lv_at hl 0 rfl) ?_
  refine lv_bipush (v := 13) hx hb dX12_strength_1 (by decide +kernel) ?_
  refine lv_icmp_ne (tgt := 10) hx hb dX12_strength_3 (by decide) (fun b101 => ?_) (fun b101 => ?_)
  · have b101 := zi_ne b101 (rfl : p1.toInt = p1.toInt) (zl_13 : (13 : Int32).toInt = 13)
    refine lv_iload_n hx hb dX12_strength_10 rfl (lv_at hl 0 rfl) ?_
    refine lv_bipush (v := 12) hx hb dX12_strength_11 (by decide +kernel) ?_
    refine lv_icmp_ne (tgt := 20) hx hb dX12_strength_13 (by decide) (fun b102 => ?_) (fun b102 => ?_)
    · have b102 := zi_ne b102 (rfl : p1.toInt = p1.toInt) (zl_12 : (12 : Int32).toInt = 12)
      refine lv_iload_n hx hb dX12_strength_20 rfl (lv_at hl 0 rfl) ?_
      refine lv_bipush (v := 11) hx hb dX12_strength_21 (by decide +kernel) ?_
      refine lv_icmp_ne (tgt := 30) hx hb dX12_strength_23 (by decide) (fun b103 => ?_) (fun b103 => ?_)
      · have b103 := zi_ne b103 (rfl : p1.toInt = p1.toInt) (zl_11 : (11 : Int32).toInt = 11)
        refine lv_iconst (v := 0) hx hb dX12_strength_30 (by decide +kernel) ?_
        subst hQ
        exact zq_iret E hr hZ hM hS ⟨rfl, (by have := zl_0; omega), (fun hh => by omega), (by have := zl_0; omega)⟩ hlocks dX12_strength_31
      · have b103 := zi_eq b103 (rfl : p1.toInt = p1.toInt) (zl_11 : (11 : Int32).toInt = 11)
        refine lv_iconst (v := 3) hx hb dX12_strength_26 (by decide +kernel) ?_
        refine lv_goto (tgt := 31) hx hb dX12_strength_27 (by decide) ?_
        subst hQ
        exact zq_iret E hr hZ hM hS ⟨rfl, (by have := zl_3; omega), (fun _ => by have := zl_3; omega), (by have := zl_3; omega)⟩ hlocks dX12_strength_31
    · have b102 := zi_eq b102 (rfl : p1.toInt = p1.toInt) (zl_12 : (12 : Int32).toInt = 12)
      refine lv_iconst (v := 2) hx hb dX12_strength_16 (by decide +kernel) ?_
      refine lv_goto (tgt := 31) hx hb dX12_strength_17 (by decide) ?_
      subst hQ
      exact zq_iret E hr hZ hM hS ⟨rfl, (by have := zl_2; omega), (fun _ => by have := zl_2; omega), (by have := zl_2; omega)⟩ hlocks dX12_strength_31
  · have b101 := zi_eq b101 (rfl : p1.toInt = p1.toInt) (zl_13 : (13 : Int32).toInt = 13)
    refine lv_iconst (v := 1) hx hb dX12_strength_6 (by decide +kernel) ?_
    refine lv_goto (tgt := 31) hx hb dX12_strength_7 (by decide) ?_
    subst hQ
    exact zq_iret E hr hZ hM hS ⟨rfl, (by have := zl_1; omega), (fun _ => by have := zl_1; omega), (by have := zl_1; omega)⟩ hlocks dX12_strength_31
set_option maxHeartbeats 8000000 in
set_option maxRecDepth 100000 in
theorem c_X12_one (l : Launch) (X : zq_X) (zk zn : Nat) (I : zq_M) (L : zq_L X)  (p1 : Int32) (p2 : Int64) (p3 : Int64)  : Met l yX12_one (zt_w yX12_one cX12_one 5 (some .long)) (zq_rm (0)) (va_Pc [.int p1, .long p2, .long p3] (zq_W X (zk, zn) I)) (va_Ql (fun (r : Int64) I2 => I2 = I ∧ True) (zq_E X (zk, zn)) (zq_A X)) 0 0 (zq_A X) := by
  refine Met.ofW (cc := cX12_one) (maxL := 5) (ret := (some .long)) (by decide) rfl ?_
  intro p e s m args below meth c s₁ B hml hv
  obtain ⟨hargs, hM, hZ⟩ := hv
  have hown : s.vm.findClass RX12 = some m.cls := findClass_of_methodNamed B.named
  have hts := atoms_spec (ws := zt_w yX12_one cX12_one 5 (some .long)) B.pre
  have E : CallFix p m c cX12_one 5 s args (Cond.code yX12_one cX12_one 5 (some .long) :: zt) RX12 := ⟨B.exec, B.bytes, hml, hown, hts⟩
  have hx := B.exec
  have hb := B.bytes
  have hr := B.returns
  have hlocks := B.notSynchronized
  clear B
  have hS : va_S (zq_A X) s.heap s.heap [] := va_S.rf
  have hl := lv_entry ([.int p1, .long p2, .long p3]) (n := 5) (by exact Nat.le_of_ble_eq_true rfl)
  have hg : entryFrame m args 5 = F0 m 0 ((lg_sl ([.int p1, .long p2, .long p3]) ++ List.replicate (5 - (lg_sl ([.int p1, .long p2, .long p3])).length) Slot.unset).toArray) [] := by rw [hargs]; exact lg_entry_eq m ([.int p1, .long p2, .long p3]) 5
  rw [hg]
  clear hg hargs
  generalize (lg_sl ([.int p1, .long p2, .long p3]) ++ List.replicate (5 - (lg_sl ([.int p1, .long p2, .long p3])).length) Slot.unset).toArray = ls at hl ⊢
  have hl : lv_has ls 5 [(0, .int p1), (1, .long p2), (3, .long p3)] := by exact hl
  obtain ⟨R, hRm⟩ : ∃ R : Room, R = (headSpec (zt_w yX12_one cX12_one 5 (some .long)) (zq_rm (0))).room := ⟨_, rfl⟩
  rw [← hRm]
  generalize hQ : MQ below _ args s 0 0 (zq_A X) = Q
  obtain ⟨H, hH⟩ : ∃ H, H = s.heap := ⟨_, rfl⟩
  obtain ⟨locs, hlo⟩ : ∃ x : List Loc, x = [] := ⟨_, rfl⟩
  rw [show W p l e R s m args below meth c s.heap [] 0 0 Q = W p l e R s m args below meth c H locs 0 0 Q by rw [hH, hlo]]
  have hM : zq_hm X (zk, zn) I H := by rw [hH]; exact hM
  have hS : va_S (zq_A X) s.heap H locs := by rw [hH, hlo]; exact hS
  clear hH hlo
  refine lv_iload_n hx hb dX12_one_0 rfl (lv_at hl 0 rfl) ?_
  by_cases c101 : p1.toInt < 2 ∨ 14 < p1.toInt
  · refine lv_tableOut (tgt := 172) hx hb dX12_one_1 c101 (by decide) ?_
    refine lv_lload_n hx hb dX12_one_172 rfl (lv_at hl 1 rfl) ?_
    refine lv_lload_n hx hb dX12_one_173 rfl (lv_at hl 2 rfl) ?_
    refine lv_lor hx hb dX12_one_174 ?_
    refine lv_topl (fun y102 ey102 => ?_)
    subst hQ
    exact zq_lret E hr hZ hM hS ⟨rfl, trivial⟩ hlocks dX12_one_175
  · have c101 : p1.toInt = 2 ∨ p1.toInt = 3 ∨ p1.toInt = 4 ∨ p1.toInt = 5 ∨ p1.toInt = 6 ∨ p1.toInt = 7 ∨ p1.toInt = 8 ∨ p1.toInt = 9 ∨ p1.toInt = 10 ∨ p1.toInt = 11 ∨ p1.toInt = 12 ∨ p1.toInt = 13 ∨ p1.toInt = 14 := by omega
    rcases c101 with c101 | c101 | c101 | c101 | c101 | c101 | c101 | c101 | c101 | c101 | c101 | c101 | c101
    · refine lv_tableIn (tgt := 68) hx hb dX12_one_1 (by omega) (by omega) (by rw [c101]; rfl) (by decide) ?_
      refine lv_lload_n hx hb dX12_one_68 rfl (lv_at hl 1 rfl) ?_
      refine lv_lload_n hx hb dX12_one_69 rfl (lv_at hl 2 rfl) ?_
      refine lv_ladd hx hb dX12_one_70 ?_
      refine lv_topl (fun y103 ey103 => ?_)
      subst hQ
      exact zq_lret E hr hZ hM hS ⟨rfl, trivial⟩ hlocks dX12_one_71
    · refine lv_tableIn (tgt := 72) hx hb dX12_one_1 (by omega) (by omega) (by rw [c101]; rfl) (by decide) ?_
      refine lv_lload_n hx hb dX12_one_72 rfl (lv_at hl 1 rfl) ?_
      refine lv_lload_n hx hb dX12_one_73 rfl (lv_at hl 2 rfl) ?_
      refine lv_lsub hx hb dX12_one_74 ?_
      refine lv_topl (fun y104 ey104 => ?_)
      subst hQ
      exact zq_lret E hr hZ hM hS ⟨rfl, trivial⟩ hlocks dX12_one_75
    · refine lv_tableIn (tgt := 76) hx hb dX12_one_1 (by omega) (by omega) (by rw [c101]; rfl) (by decide) ?_
      refine lv_lload_n hx hb dX12_one_76 rfl (lv_at hl 1 rfl) ?_
      refine lv_lload_n hx hb dX12_one_77 rfl (lv_at hl 2 rfl) ?_
      refine lv_lmul hx hb dX12_one_78 ?_
      refine lv_topl (fun y105 ey105 => ?_)
      subst hQ
      exact zq_lret E hr hZ hM hS ⟨rfl, trivial⟩ hlocks dX12_one_79
    · refine lv_tableIn (tgt := 80) hx hb dX12_one_1 (by omega) (by omega) (by rw [c101]; rfl) (by decide) ?_
      refine lv_lload_n hx hb dX12_one_80 rfl (lv_at hl 2 rfl) ?_
      refine lv_lconst (v := 0) hx hb dX12_one_81 (by decide +kernel) ?_
      refine zq_lcmp hx hb dX12_one_82 (fun x106 hx106 => ?_)
      rw [show (0 : Int64).toInt = 0 from by decide +kernel] at hx106
      refine lv_if_ne (tgt := 90) hx hb dX12_one_83 (by decide) (fun b107 => ?_) (fun b107 => ?_)
      · have b107 := zi_ne b107 (rfl : x106.toInt = x106.toInt) (zl_0 : (0 : Int32).toInt = 0)
        refine lv_lload_n hx hb dX12_one_90 rfl (lv_at hl 1 rfl) ?_
        refine lv_lload_n hx hb dX12_one_91 rfl (lv_at hl 2 rfl) ?_
        refine lv_ldiv hx hb dX12_one_92 (fun q => by have hz := congrArg Int64.toInt q; rw [show (0 : Int64).toInt = 0 from by decide +kernel] at hz; omega) ?_
        refine lv_topl (fun y108 ey108 => ?_)
        subst hQ
        exact zq_lret E hr hZ hM hS ⟨rfl, trivial⟩ hlocks dX12_one_93
      · have b107 := zi_eq b107 (rfl : x106.toInt = x106.toInt) (zl_0 : (0 : Int32).toInt = 0)
        refine lv_lconst (v := 0) hx hb dX12_one_86 (by decide +kernel) ?_
        refine lv_goto (tgt := 93) hx hb dX12_one_87 (by decide) ?_
        subst hQ
        exact zq_lret E hr hZ hM hS ⟨rfl, trivial⟩ hlocks dX12_one_93
    · refine lv_tableIn (tgt := 108) hx hb dX12_one_1 (by omega) (by omega) (by rw [c101]; rfl) (by decide) ?_
      refine lv_lload_n hx hb dX12_one_108 rfl (lv_at hl 1 rfl) ?_
      refine lv_lload_n hx hb dX12_one_109 rfl (lv_at hl 2 rfl) ?_
      refine zq_lcmp hx hb dX12_one_110 (fun x109 hx109 => ?_)
      refine lv_if_ge (tgt := 118) hx hb dX12_one_111 (by decide) (fun b110 => ?_) (fun b110 => ?_)
      · have b110 := zi_le b110 (zl_0 : (0 : Int32).toInt = 0) (rfl : x109.toInt = x109.toInt)
        refine lv_lconst (v := 0) hx hb dX12_one_118 (by decide +kernel) ?_
        subst hQ
        exact zq_lret E hr hZ hM hS ⟨rfl, trivial⟩ hlocks dX12_one_119
      · have b110 := zi_nle b110 (zl_0 : (0 : Int32).toInt = 0) (rfl : x109.toInt = x109.toInt)
        refine lv_lconst (v := 1) hx hb dX12_one_114 (by decide +kernel) ?_
        refine lv_goto (tgt := 119) hx hb dX12_one_115 (by decide) ?_
        subst hQ
        exact zq_lret E hr hZ hM hS ⟨rfl, trivial⟩ hlocks dX12_one_119
    · refine lv_tableIn (tgt := 120) hx hb dX12_one_1 (by omega) (by omega) (by rw [c101]; rfl) (by decide) ?_
      refine lv_lload_n hx hb dX12_one_120 rfl (lv_at hl 1 rfl) ?_
      refine lv_lload_n hx hb dX12_one_121 rfl (lv_at hl 2 rfl) ?_
      refine zq_lcmp hx hb dX12_one_122 (fun x111 hx111 => ?_)
      refine lv_if_gt (tgt := 130) hx hb dX12_one_123 (by decide) (fun b112 => ?_) (fun b112 => ?_)
      · have b112 := zi_lt b112 (zl_0 : (0 : Int32).toInt = 0) (rfl : x111.toInt = x111.toInt)
        refine lv_lconst (v := 0) hx hb dX12_one_130 (by decide +kernel) ?_
        subst hQ
        exact zq_lret E hr hZ hM hS ⟨rfl, trivial⟩ hlocks dX12_one_131
      · have b112 := zi_nlt b112 (zl_0 : (0 : Int32).toInt = 0) (rfl : x111.toInt = x111.toInt)
        refine lv_lconst (v := 1) hx hb dX12_one_126 (by decide +kernel) ?_
        refine lv_goto (tgt := 131) hx hb dX12_one_127 (by decide) ?_
        subst hQ
        exact zq_lret E hr hZ hM hS ⟨rfl, trivial⟩ hlocks dX12_one_131
    · refine lv_tableIn (tgt := 132) hx hb dX12_one_1 (by omega) (by omega) (by rw [c101]; rfl) (by decide) ?_
      refine lv_lload_n hx hb dX12_one_132 rfl (lv_at hl 1 rfl) ?_
      refine lv_lload_n hx hb dX12_one_133 rfl (lv_at hl 2 rfl) ?_
      refine zq_lcmp hx hb dX12_one_134 (fun x113 hx113 => ?_)
      refine lv_if_ne (tgt := 142) hx hb dX12_one_135 (by decide) (fun b114 => ?_) (fun b114 => ?_)
      · have b114 := zi_ne b114 (rfl : x113.toInt = x113.toInt) (zl_0 : (0 : Int32).toInt = 0)
        refine lv_lconst (v := 0) hx hb dX12_one_142 (by decide +kernel) ?_
        subst hQ
        exact zq_lret E hr hZ hM hS ⟨rfl, trivial⟩ hlocks dX12_one_143
      · have b114 := zi_eq b114 (rfl : x113.toInt = x113.toInt) (zl_0 : (0 : Int32).toInt = 0)
        refine lv_lconst (v := 1) hx hb dX12_one_138 (by decide +kernel) ?_
        refine lv_goto (tgt := 143) hx hb dX12_one_139 (by decide) ?_
        subst hQ
        exact zq_lret E hr hZ hM hS ⟨rfl, trivial⟩ hlocks dX12_one_143
    · refine lv_tableIn (tgt := 144) hx hb dX12_one_1 (by omega) (by omega) (by rw [c101]; rfl) (by decide) ?_
      refine lv_lload_n hx hb dX12_one_144 rfl (lv_at hl 1 rfl) ?_
      refine lv_lload_n hx hb dX12_one_145 rfl (lv_at hl 2 rfl) ?_
      refine zq_lcmp hx hb dX12_one_146 (fun x115 hx115 => ?_)
      refine lv_if_lt (tgt := 154) hx hb dX12_one_147 (by decide) (fun b116 => ?_) (fun b116 => ?_)
      · have b116 := zi_lt b116 (rfl : x115.toInt = x115.toInt) (zl_0 : (0 : Int32).toInt = 0)
        refine lv_lconst (v := 0) hx hb dX12_one_154 (by decide +kernel) ?_
        subst hQ
        exact zq_lret E hr hZ hM hS ⟨rfl, trivial⟩ hlocks dX12_one_155
      · have b116 := zi_nlt b116 (rfl : x115.toInt = x115.toInt) (zl_0 : (0 : Int32).toInt = 0)
        refine lv_lconst (v := 1) hx hb dX12_one_150 (by decide +kernel) ?_
        refine lv_goto (tgt := 155) hx hb dX12_one_151 (by decide) ?_
        subst hQ
        exact zq_lret E hr hZ hM hS ⟨rfl, trivial⟩ hlocks dX12_one_155
    · refine lv_tableIn (tgt := 156) hx hb dX12_one_1 (by omega) (by omega) (by rw [c101]; rfl) (by decide) ?_
      refine lv_lload_n hx hb dX12_one_156 rfl (lv_at hl 1 rfl) ?_
      refine lv_lload_n hx hb dX12_one_157 rfl (lv_at hl 2 rfl) ?_
      refine zq_lcmp hx hb dX12_one_158 (fun x117 hx117 => ?_)
      refine lv_if_le (tgt := 166) hx hb dX12_one_159 (by decide) (fun b118 => ?_) (fun b118 => ?_)
      · have b118 := zi_le b118 (rfl : x117.toInt = x117.toInt) (zl_0 : (0 : Int32).toInt = 0)
        refine lv_lconst (v := 0) hx hb dX12_one_166 (by decide +kernel) ?_
        subst hQ
        exact zq_lret E hr hZ hM hS ⟨rfl, trivial⟩ hlocks dX12_one_167
      · have b118 := zi_nle b118 (rfl : x117.toInt = x117.toInt) (zl_0 : (0 : Int32).toInt = 0)
        refine lv_lconst (v := 1) hx hb dX12_one_162 (by decide +kernel) ?_
        refine lv_goto (tgt := 167) hx hb dX12_one_163 (by decide) ?_
        subst hQ
        exact zq_lret E hr hZ hM hS ⟨rfl, trivial⟩ hlocks dX12_one_167
    · refine lv_tableIn (tgt := 172) hx hb dX12_one_1 (by omega) (by omega) (by rw [c101]; rfl) (by decide) ?_
      refine lv_lload_n hx hb dX12_one_172 rfl (lv_at hl 1 rfl) ?_
      refine lv_lload_n hx hb dX12_one_173 rfl (lv_at hl 2 rfl) ?_
      refine lv_lor hx hb dX12_one_174 ?_
      refine lv_topl (fun y119 ey119 => ?_)
      subst hQ
      exact zq_lret E hr hZ hM hS ⟨rfl, trivial⟩ hlocks dX12_one_175
    · refine lv_tableIn (tgt := 168) hx hb dX12_one_1 (by omega) (by omega) (by rw [c101]; rfl) (by decide) ?_
      refine lv_lload_n hx hb dX12_one_168 rfl (lv_at hl 1 rfl) ?_
      refine lv_lload_n hx hb dX12_one_169 rfl (lv_at hl 2 rfl) ?_
      refine lv_land hx hb dX12_one_170 ?_
      refine lv_topl (fun y120 ey120 => ?_)
      subst hQ
      exact zq_lret E hr hZ hM hS ⟨rfl, trivial⟩ hlocks dX12_one_171
    · refine lv_tableIn (tgt := 172) hx hb dX12_one_1 (by omega) (by omega) (by rw [c101]; rfl) (by decide) ?_
      refine lv_lload_n hx hb dX12_one_172 rfl (lv_at hl 1 rfl) ?_
      refine lv_lload_n hx hb dX12_one_173 rfl (lv_at hl 2 rfl) ?_
      refine lv_lor hx hb dX12_one_174 ?_
      refine lv_topl (fun y121 ey121 => ?_)
      subst hQ
      exact zq_lret E hr hZ hM hS ⟨rfl, trivial⟩ hlocks dX12_one_175
    · refine lv_tableIn (tgt := 94) hx hb dX12_one_1 (by omega) (by omega) (by rw [c101]; rfl) (by decide) ?_
      refine lv_lload_n hx hb dX12_one_94 rfl (lv_at hl 2 rfl) ?_
      refine lv_lconst (v := 0) hx hb dX12_one_95 (by decide +kernel) ?_
      refine zq_lcmp hx hb dX12_one_96 (fun x122 hx122 => ?_)
      rw [show (0 : Int64).toInt = 0 from by decide +kernel] at hx122
      refine lv_if_ne (tgt := 104) hx hb dX12_one_97 (by decide) (fun b123 => ?_) (fun b123 => ?_)
      · have b123 := zi_ne b123 (rfl : x122.toInt = x122.toInt) (zl_0 : (0 : Int32).toInt = 0)
        refine lv_lload_n hx hb dX12_one_104 rfl (lv_at hl 1 rfl) ?_
        refine lv_lload_n hx hb dX12_one_105 rfl (lv_at hl 2 rfl) ?_
        refine lv_lrem hx hb dX12_one_106 (fun q => by have hz := congrArg Int64.toInt q; rw [show (0 : Int64).toInt = 0 from by decide +kernel] at hz; omega) ?_
        refine lv_topl (fun y124 ey124 => ?_)
        subst hQ
        exact zq_lret E hr hZ hM hS ⟨rfl, trivial⟩ hlocks dX12_one_107
      · have b123 := zi_eq b123 (rfl : x122.toInt = x122.toInt) (zl_0 : (0 : Int32).toInt = 0)
        refine lv_lconst (v := 0) hx hb dX12_one_100 (by decide +kernel) ?_
        refine lv_goto (tgt := 107) hx hb dX12_one_101 (by decide) ?_
        subst hQ
        exact zq_lret E hr hZ hM hS ⟨rfl, trivial⟩ hlocks dX12_one_107
set_option maxHeartbeats 8000000 in
set_option maxRecDepth 100000 in
theorem c_X12_spot (l : Launch) (X : zq_X) (zk zn : Nat) (I : zq_M) (L : zq_L X)  (p1 : Int32) (p2 : Int32) (g_p1 : 0 ≤ p1.toInt ∧ p1.toInt ≤ 6) (g_p2 : 0 ≤ p2.toInt ∧ p2.toInt ≤ 60) : Met l yX12_spot (zt_w yX12_spot cX12_spot 2 (some .int)) (zq_rm (0)) (va_Pc [.int p1, .int p2] (zq_W X (zk, zn) I)) (va_Qi (fun (r : Int32) I2 => I2 = I ∧ (0 ≤ r.toInt ∧ r.toInt ≤ 426)) (zq_E X (zk, zn)) (zq_A X)) 0 0 (zq_A X) := by
  refine Met.ofW (cc := cX12_spot) (maxL := 2) (ret := (some .int)) (by decide) rfl ?_
  intro p e s m args below meth c s₁ B hml hv
  obtain ⟨hargs, hM, hZ⟩ := hv
  have hown : s.vm.findClass RX12 = some m.cls := findClass_of_methodNamed B.named
  have hts := atoms_spec (ws := zt_w yX12_spot cX12_spot 2 (some .int)) B.pre
  have E : CallFix p m c cX12_spot 2 s args (Cond.code yX12_spot cX12_spot 2 (some .int) :: zt) RX12 := ⟨B.exec, B.bytes, hml, hown, hts⟩
  have hx := B.exec
  have hb := B.bytes
  have hr := B.returns
  have hlocks := B.notSynchronized
  clear B
  have hS : va_S (zq_A X) s.heap s.heap [] := va_S.rf
  have hl := lv_entry ([.int p1, .int p2]) (n := 2) (by exact Nat.le_of_ble_eq_true rfl)
  have hg : entryFrame m args 2 = F0 m 0 ((lg_sl ([.int p1, .int p2]) ++ List.replicate (2 - (lg_sl ([.int p1, .int p2])).length) Slot.unset).toArray) [] := by rw [hargs]; exact lg_entry_eq m ([.int p1, .int p2]) 2
  rw [hg]
  clear hg hargs
  generalize (lg_sl ([.int p1, .int p2]) ++ List.replicate (2 - (lg_sl ([.int p1, .int p2])).length) Slot.unset).toArray = ls at hl ⊢
  have hl : lv_has ls 2 [(0, .int p1), (1, .int p2)] := by exact hl
  obtain ⟨R, hRm⟩ : ∃ R : Room, R = (headSpec (zt_w yX12_spot cX12_spot 2 (some .int)) (zq_rm (0))).room := ⟨_, rfl⟩
  rw [← hRm]
  generalize hQ : MQ below _ args s 0 0 (zq_A X) = Q
  obtain ⟨H, hH⟩ : ∃ H, H = s.heap := ⟨_, rfl⟩
  obtain ⟨locs, hlo⟩ : ∃ x : List Loc, x = [] := ⟨_, rfl⟩
  rw [show W p l e R s m args below meth c s.heap [] 0 0 Q = W p l e R s m args below meth c H locs 0 0 Q by rw [hH, hlo]]
  have hM : zq_hm X (zk, zn) I H := by rw [hH]; exact hM
  have hS : va_S (zq_A X) s.heap H locs := by rw [hH, hlo]; exact hS
  clear hH hlo
  refine lv_bipush (v := 61) hx hb dX12_spot_0 (by decide +kernel) ?_
  refine lv_iload_n hx hb dX12_spot_2 rfl (lv_at hl 0 rfl) ?_
  refine lv_imul hx hb dX12_spot_3 ?_
  refine lv_topi (fun x101 ex101 => ?_)
  have tx101 := zi_mul ex101 (zl_61 : (61 : Int32).toInt = 61) (rfl : p1.toInt = p1.toInt) ⟨by omega, by omega⟩
  refine lv_iload_n hx hb dX12_spot_4 rfl (lv_at hl 1 rfl) ?_
  refine lv_iadd hx hb dX12_spot_5 ?_
  refine lv_topi (fun x102 ex102 => ?_)
  have tx102 := zi_add ex102 (rfl : x101.toInt = x101.toInt) (rfl : p2.toInt = p2.toInt) ⟨by omega, by omega⟩
  subst hQ
  exact zq_iret E hr hZ hM hS ⟨rfl, (by omega)⟩ hlocks dX12_spot_6
set_option maxHeartbeats 8000000 in
set_option maxRecDepth 100000 in
theorem c_X12_melted (l : Launch) (X : zq_X) (zk zn : Nat) (I : zq_M) (L : zq_L X)  (p1 : Int32) (p2 : Int32)  : Met l yX12_melted (zt_w yX12_melted cX12_melted 2 (some .int)) (zq_rm (0)) (va_Pc [.int p1, .int p2] (zq_W X (zk, zn) I)) (va_Qi (fun (r : Int32) I2 => I2 = I ∧ ((0 ≤ p1.toInt ∧ p1.toInt ≤ 1000000 ∧ 0 ≤ p2.toInt ∧ p2.toInt ≤ 60) → (0 ≤ r.toInt ∧ r.toInt ≤ p1.toInt))) (zq_E X (zk, zn)) (zq_A X)) 0 0 (zq_A X) := by
  refine Met.ofW (cc := cX12_melted) (maxL := 2) (ret := (some .int)) (by decide) rfl ?_
  intro p e s m args below meth c s₁ B hml hv
  obtain ⟨hargs, hM, hZ⟩ := hv
  have hown : s.vm.findClass RX12 = some m.cls := findClass_of_methodNamed B.named
  have hts := atoms_spec (ws := zt_w yX12_melted cX12_melted 2 (some .int)) B.pre
  have E : CallFix p m c cX12_melted 2 s args (Cond.code yX12_melted cX12_melted 2 (some .int) :: zt) RX12 := ⟨B.exec, B.bytes, hml, hown, hts⟩
  have hx := B.exec
  have hb := B.bytes
  have hr := B.returns
  have hlocks := B.notSynchronized
  clear B
  have hS : va_S (zq_A X) s.heap s.heap [] := va_S.rf
  have hl := lv_entry ([.int p1, .int p2]) (n := 2) (by exact Nat.le_of_ble_eq_true rfl)
  have hg : entryFrame m args 2 = F0 m 0 ((lg_sl ([.int p1, .int p2]) ++ List.replicate (2 - (lg_sl ([.int p1, .int p2])).length) Slot.unset).toArray) [] := by rw [hargs]; exact lg_entry_eq m ([.int p1, .int p2]) 2
  rw [hg]
  clear hg hargs
  generalize (lg_sl ([.int p1, .int p2]) ++ List.replicate (2 - (lg_sl ([.int p1, .int p2])).length) Slot.unset).toArray = ls at hl ⊢
  have hl : lv_has ls 2 [(0, .int p1), (1, .int p2)] := by exact hl
  obtain ⟨R, hRm⟩ : ∃ R : Room, R = (headSpec (zt_w yX12_melted cX12_melted 2 (some .int)) (zq_rm (0))).room := ⟨_, rfl⟩
  rw [← hRm]
  generalize hQ : MQ below _ args s 0 0 (zq_A X) = Q
  obtain ⟨H, hH⟩ : ∃ H, H = s.heap := ⟨_, rfl⟩
  obtain ⟨locs, hlo⟩ : ∃ x : List Loc, x = [] := ⟨_, rfl⟩
  rw [show W p l e R s m args below meth c s.heap [] 0 0 Q = W p l e R s m args below meth c H locs 0 0 Q by rw [hH, hlo]]
  have hM : zq_hm X (zk, zn) I H := by rw [hH]; exact hM
  have hS : va_S (zq_A X) s.heap H locs := by rw [hH, hlo]; exact hS
  clear hH hlo
  refine lv_iload_n hx hb dX12_melted_0 rfl (lv_at hl 0 rfl) ?_
  refine lv_iload_n hx hb dX12_melted_1 rfl (lv_at hl 0 rfl) ?_
  refine lv_iload_n hx hb dX12_melted_2 rfl (lv_at hl 1 rfl) ?_
  refine lv_imul hx hb dX12_melted_3 ?_
  refine lv_topi (fun x101 ex101 => ?_)
  refine lv_bipush (v := 99) hx hb dX12_melted_4 (by decide +kernel) ?_
  refine lv_iadd hx hb dX12_melted_6 ?_
  refine lv_topi (fun x102 ex102 => ?_)
  refine lv_bipush (v := 100) hx hb dX12_melted_7 (by decide +kernel) ?_
  refine lv_idiv hx hb dX12_melted_9 (by decide +kernel) ?_
  refine lv_topi (fun x103 ex103 => ?_)
  have tx103 := (zi_divt ex103 (rfl : x102.toInt = x102.toInt) (zl_100 : (100 : Int32).toInt = 100) (by omega)).2
  have := zi_rng x102
  refine lv_isub hx hb dX12_melted_10 ?_
  refine lv_topi (fun x104 ex104 => ?_)
  refine W.eq (g2 := F0 m 11 ls [.int x104]) rfl ?_
  subst hQ
  exact zq_iret E hr hZ hM hS ⟨rfl, (fun hh => zx_melt ex101 ex102 ex103 ex104 hh)⟩ hlocks dX12_melted_11
set_option maxHeartbeats 8000000 in
set_option maxRecDepth 100000 in
theorem c_X12_isRule (l : Launch) (X : zq_X) (zk zn : Nat) (I : zq_M) (L : zq_L X)  (h0 : Nat) (k_h0 : zq_k X h0 = 10) (p1 : Int32) (q_0 : zk ≤ 4400 ∧ zn ≤ 4400) : Met l yX12_isRule (zt_w yX12_isRule cX12_isRule 2 (some .boolean)) (zq_rm (0)) (va_Pc [.ref h0, .int p1] (zq_W X (zk, zn) I)) (va_Qi (fun (r : Int32) I2 => I2 = I ∧ (0 ≤ r.toInt ∧ r.toInt ≤ 1) ∧ (r.toInt = 0 ∨ (0 ≤ p1.toInt ∧ p1.toInt ≤ 5))) (zq_E X (zk, zn)) (zq_A X)) 0 0 (zq_A X) := by
  refine Met.ofW (cc := cX12_isRule) (maxL := 2) (ret := (some .boolean)) (by decide) rfl ?_
  intro p e s m args below meth c s₁ B hml hv
  obtain ⟨hargs, hM, hZ⟩ := hv
  have hown : s.vm.findClass RX12 = some m.cls := findClass_of_methodNamed B.named
  have hts := atoms_spec (ws := zt_w yX12_isRule cX12_isRule 2 (some .boolean)) B.pre
  have E : CallFix p m c cX12_isRule 2 s args (Cond.code yX12_isRule cX12_isRule 2 (some .boolean) :: zt) RX12 := ⟨B.exec, B.bytes, hml, hown, hts⟩
  have hx := B.exec
  have hb := B.bytes
  have hr := B.returns
  have hlocks := B.notSynchronized
  clear B
  have hS : va_S (zq_A X) s.heap s.heap [] := va_S.rf
  have hl := lv_entry ([.ref h0, .int p1]) (n := 2) (by exact Nat.le_of_ble_eq_true rfl)
  have hg : entryFrame m args 2 = F0 m 0 ((lg_sl ([.ref h0, .int p1]) ++ List.replicate (2 - (lg_sl ([.ref h0, .int p1])).length) Slot.unset).toArray) [] := by rw [hargs]; exact lg_entry_eq m ([.ref h0, .int p1]) 2
  rw [hg]
  clear hg hargs
  generalize (lg_sl ([.ref h0, .int p1]) ++ List.replicate (2 - (lg_sl ([.ref h0, .int p1])).length) Slot.unset).toArray = ls at hl ⊢
  have hl : lv_has ls 2 [(0, .ref h0), (1, .int p1)] := by exact hl
  obtain ⟨R, hRm⟩ : ∃ R : Room, R = (headSpec (zt_w yX12_isRule cX12_isRule 2 (some .boolean)) (zq_rm (0))).room := ⟨_, rfl⟩
  rw [← hRm]
  generalize hQ : MQ below _ args s 0 0 (zq_A X) = Q
  obtain ⟨H, hH⟩ : ∃ H, H = s.heap := ⟨_, rfl⟩
  obtain ⟨locs, hlo⟩ : ∃ x : List Loc, x = [] := ⟨_, rfl⟩
  rw [show W p l e R s m args below meth c s.heap [] 0 0 Q = W p l e R s m args below meth c H locs 0 0 Q by rw [hH, hlo]]
  have hM : zq_hm X (zk, zn) I H := by rw [hH]; exact hM
  have hS : va_S (zq_A X) s.heap H locs := by rw [hH, hlo]; exact hS
  clear hH hlo
  refine lv_iload_n hx hb dX12_isRule_0 rfl (lv_at hl 1 rfl) ?_
  refine lv_if_lt (tgt := 16) hx hb dX12_isRule_1 (by decide) (fun b101 => ?_) (fun b101 => ?_)
  · have b101 := zi_lt b101 (rfl : p1.toInt = p1.toInt) (zl_0 : (0 : Int32).toInt = 0)
    refine lv_iconst (v := 0) hx hb dX12_isRule_16 (by decide +kernel) ?_
    subst hQ
    exact zq_zret E hr hZ hM hS (show 0 ≤ (0 : Int32).toInt ∧ (0 : Int32).toInt ≤ 1 by decide +kernel) ⟨rfl, (by have := zl_0; omega), (by have := zl_0; omega)⟩ hlocks dX12_isRule_17
  · have b101 := zi_nlt b101 (rfl : p1.toInt = p1.toInt) (zl_0 : (0 : Int32).toInt = 0)
    refine lv_iload_n hx hb dX12_isRule_4 rfl (lv_at hl 1 rfl) ?_
    refine lv_aload_n hx hb dX12_isRule_5 rfl (lv_at hl 0 rfl) ?_
    refine zq_gn E hM k_h0 (zFX12_254 E hZ) (Or.inl ⟨by decide, by decide, by decide, rfl⟩) dX12_isRule_6 (fun x102 ex102 gx102 => ?_)
    replace gx102 : 0 ≤ x102.toInt ∧ x102.toInt ≤ 6 := gx102
    refine lv_icmp_ge (tgt := 16) hx hb dX12_isRule_9 (by decide) (fun b103 => ?_) (fun b103 => ?_)
    · have b103 := zi_le b103 (rfl : x102.toInt = x102.toInt) (rfl : p1.toInt = p1.toInt)
      refine lv_iconst (v := 0) hx hb dX12_isRule_16 (by decide +kernel) ?_
      subst hQ
      exact zq_zret E hr hZ hM hS (show 0 ≤ (0 : Int32).toInt ∧ (0 : Int32).toInt ≤ 1 by decide +kernel) ⟨rfl, (by have := zl_0; omega), (by have := zl_0; omega)⟩ hlocks dX12_isRule_17
    · have b103 := zi_nle b103 (rfl : x102.toInt = x102.toInt) (rfl : p1.toInt = p1.toInt)
      refine lv_iconst (v := 1) hx hb dX12_isRule_12 (by decide +kernel) ?_
      refine lv_goto (tgt := 17) hx hb dX12_isRule_13 (by decide) ?_
      subst hQ
      exact zq_zret E hr hZ hM hS (show 0 ≤ (1 : Int32).toInt ∧ (1 : Int32).toInt ≤ 1 by decide +kernel) ⟨rfl, (by have := zl_1; omega), (by have := zl_1; omega)⟩ hlocks dX12_isRule_17
set_option maxHeartbeats 8000000 in
set_option maxRecDepth 100000 in
theorem c_X12_isTrade (l : Launch) (X : zq_X) (zk zn : Nat) (I : zq_M) (L : zq_L X)  (h0 : Nat) (k_h0 : zq_k X h0 = 10) (q_0 : zk ≤ 4400 ∧ zn ≤ 4400) : Met l yX12_isTrade (zt_w yX12_isTrade cX12_isTrade 1 (some .boolean)) (zq_rm (0)) (va_Pc [.ref h0] (zq_W X (zk, zn) I)) (va_Qi (fun (r : Int32) I2 => I2 = I ∧ (0 ≤ r.toInt ∧ r.toInt ≤ 1)) (zq_E X (zk, zn)) (zq_A X)) 0 0 (zq_A X) := by
  refine Met.ofW (cc := cX12_isTrade) (maxL := 1) (ret := (some .boolean)) (by decide) rfl ?_
  intro p e s m args below meth c s₁ B hml hv
  obtain ⟨hargs, hM, hZ⟩ := hv
  have hown : s.vm.findClass RX12 = some m.cls := findClass_of_methodNamed B.named
  have hts := atoms_spec (ws := zt_w yX12_isTrade cX12_isTrade 1 (some .boolean)) B.pre
  have E : CallFix p m c cX12_isTrade 1 s args (Cond.code yX12_isTrade cX12_isTrade 1 (some .boolean) :: zt) RX12 := ⟨B.exec, B.bytes, hml, hown, hts⟩
  have hx := B.exec
  have hb := B.bytes
  have hr := B.returns
  have hlocks := B.notSynchronized
  clear B
  have hS : va_S (zq_A X) s.heap s.heap [] := va_S.rf
  have hl := lv_entry ([.ref h0]) (n := 1) (by exact Nat.le_of_ble_eq_true rfl)
  have hg : entryFrame m args 1 = F0 m 0 ((lg_sl ([.ref h0]) ++ List.replicate (1 - (lg_sl ([.ref h0])).length) Slot.unset).toArray) [] := by rw [hargs]; exact lg_entry_eq m ([.ref h0]) 1
  rw [hg]
  clear hg hargs
  generalize (lg_sl ([.ref h0]) ++ List.replicate (1 - (lg_sl ([.ref h0])).length) Slot.unset).toArray = ls at hl ⊢
  have hl : lv_has ls 1 [(0, .ref h0)] := by exact hl
  obtain ⟨R, hRm⟩ : ∃ R : Room, R = (headSpec (zt_w yX12_isTrade cX12_isTrade 1 (some .boolean)) (zq_rm (0))).room := ⟨_, rfl⟩
  rw [← hRm]
  generalize hQ : MQ below _ args s 0 0 (zq_A X) = Q
  obtain ⟨H, hH⟩ : ∃ H, H = s.heap := ⟨_, rfl⟩
  obtain ⟨locs, hlo⟩ : ∃ x : List Loc, x = [] := ⟨_, rfl⟩
  rw [show W p l e R s m args below meth c s.heap [] 0 0 Q = W p l e R s m args below meth c H locs 0 0 Q by rw [hH, hlo]]
  have hM : zq_hm X (zk, zn) I H := by rw [hH]; exact hM
  have hS : va_S (zq_A X) s.heap H locs := by rw [hH, hlo]; exact hS
  clear hH hlo
  refine lv_aload_n hx hb dX12_isTrade_0 rfl (lv_at hl 0 rfl) ?_
  refine zq_getr E hM k_h0 (zFX12_39 E hZ) ⟨by decide, by decide, by decide, rfl⟩ dX12_isTrade_1 ?_
  have k101 : zq_k X (zq_r X h0 20) = 59 := zq_lk L.1 k_h0 rfl (by decide)
  refine lv_iconst (v := 0) hx hb dX12_isTrade_4 (by decide +kernel) ?_
  refine zq_ian (n := 106) (j := 0) E hZ hM k101 ⟨by decide, rfl⟩ (by rw [zl_0]; decide) (by decide +kernel) dX12_isTrade_5 (fun x102 ex102 gx102 => ?_)
  replace gx102 : 0 ≤ x102.toInt ∧ x102.toInt ≤ 1 := gx102
  refine lv_iconst (v := 1) hx hb dX12_isTrade_6 (by decide +kernel) ?_
  refine lv_icmp_ne (tgt := 14) hx hb dX12_isTrade_7 (by decide) (fun b103 => ?_) (fun b103 => ?_)
  · have b103 := zi_ne b103 (rfl : x102.toInt = x102.toInt) (zl_1 : (1 : Int32).toInt = 1)
    refine lv_iconst (v := 0) hx hb dX12_isTrade_14 (by decide +kernel) ?_
    subst hQ
    exact zq_zret E hr hZ hM hS (show 0 ≤ (0 : Int32).toInt ∧ (0 : Int32).toInt ≤ 1 by decide +kernel) ⟨rfl, (by have := zl_0; omega)⟩ hlocks dX12_isTrade_15
  · have b103 := zi_eq b103 (rfl : x102.toInt = x102.toInt) (zl_1 : (1 : Int32).toInt = 1)
    refine lv_iconst (v := 1) hx hb dX12_isTrade_10 (by decide +kernel) ?_
    refine lv_goto (tgt := 15) hx hb dX12_isTrade_11 (by decide) ?_
    subst hQ
    exact zq_zret E hr hZ hM hS (show 0 ≤ (1 : Int32).toInt ∧ (1 : Int32).toInt ≤ 1 by decide +kernel) ⟨rfl, (by have := zl_1; omega)⟩ hlocks dX12_isTrade_15
set_option maxHeartbeats 8000000 in
set_option maxRecDepth 100000 in
theorem c_X12_isShip (l : Launch) (X : zq_X) (zk zn : Nat) (I : zq_M) (L : zq_L X)  (h0 : Nat) (k_h0 : zq_k X h0 = 10) (p1 : Int32) (q_0 : zk ≤ 4400 ∧ zn ≤ 4400) : Met l yX12_isShip (zt_w yX12_isShip cX12_isShip 2 (some .boolean)) (zq_rm (0)) (va_Pc [.ref h0, .int p1] (zq_W X (zk, zn) I)) (va_Qi (fun (r : Int32) I2 => I2 = I ∧ (0 ≤ r.toInt ∧ r.toInt ≤ 1) ∧ (r.toInt = 0 ∨ (0 ≤ p1.toInt ∧ p1.toInt ≤ 2))) (zq_E X (zk, zn)) (zq_A X)) 0 0 (zq_A X) := by
  refine Met.ofW (cc := cX12_isShip) (maxL := 2) (ret := (some .boolean)) (by decide) rfl ?_
  intro p e s m args below meth c s₁ B hml hv
  obtain ⟨hargs, hM, hZ⟩ := hv
  have hown : s.vm.findClass RX12 = some m.cls := findClass_of_methodNamed B.named
  have hts := atoms_spec (ws := zt_w yX12_isShip cX12_isShip 2 (some .boolean)) B.pre
  have E : CallFix p m c cX12_isShip 2 s args (Cond.code yX12_isShip cX12_isShip 2 (some .boolean) :: zt) RX12 := ⟨B.exec, B.bytes, hml, hown, hts⟩
  have hx := B.exec
  have hb := B.bytes
  have hr := B.returns
  have hlocks := B.notSynchronized
  clear B
  have hS : va_S (zq_A X) s.heap s.heap [] := va_S.rf
  have hl := lv_entry ([.ref h0, .int p1]) (n := 2) (by exact Nat.le_of_ble_eq_true rfl)
  have hg : entryFrame m args 2 = F0 m 0 ((lg_sl ([.ref h0, .int p1]) ++ List.replicate (2 - (lg_sl ([.ref h0, .int p1])).length) Slot.unset).toArray) [] := by rw [hargs]; exact lg_entry_eq m ([.ref h0, .int p1]) 2
  rw [hg]
  clear hg hargs
  generalize (lg_sl ([.ref h0, .int p1]) ++ List.replicate (2 - (lg_sl ([.ref h0, .int p1])).length) Slot.unset).toArray = ls at hl ⊢
  have hl : lv_has ls 2 [(0, .ref h0), (1, .int p1)] := by exact hl
  obtain ⟨R, hRm⟩ : ∃ R : Room, R = (headSpec (zt_w yX12_isShip cX12_isShip 2 (some .boolean)) (zq_rm (0))).room := ⟨_, rfl⟩
  rw [← hRm]
  generalize hQ : MQ below _ args s 0 0 (zq_A X) = Q
  obtain ⟨H, hH⟩ : ∃ H, H = s.heap := ⟨_, rfl⟩
  obtain ⟨locs, hlo⟩ : ∃ x : List Loc, x = [] := ⟨_, rfl⟩
  rw [show W p l e R s m args below meth c s.heap [] 0 0 Q = W p l e R s m args below meth c H locs 0 0 Q by rw [hH, hlo]]
  have hM : zq_hm X (zk, zn) I H := by rw [hH]; exact hM
  have hS : va_S (zq_A X) s.heap H locs := by rw [hH, hlo]; exact hS
  clear hH hlo
  refine lv_iload_n hx hb dX12_isShip_0 rfl (lv_at hl 1 rfl) ?_
  refine lv_if_lt (tgt := 18) hx hb dX12_isShip_1 (by decide) (fun b101 => ?_) (fun b101 => ?_)
  · have b101 := zi_lt b101 (rfl : p1.toInt = p1.toInt) (zl_0 : (0 : Int32).toInt = 0)
    refine lv_iconst (v := 0) hx hb dX12_isShip_18 (by decide +kernel) ?_
    subst hQ
    exact zq_zret E hr hZ hM hS (show 0 ≤ (0 : Int32).toInt ∧ (0 : Int32).toInt ≤ 1 by decide +kernel) ⟨rfl, (by have := zl_0; omega), (by have := zl_0; omega)⟩ hlocks dX12_isShip_19
  · have b101 := zi_nlt b101 (rfl : p1.toInt = p1.toInt) (zl_0 : (0 : Int32).toInt = 0)
    refine lv_iload_n hx hb dX12_isShip_4 rfl (lv_at hl 1 rfl) ?_
    refine lv_aload_n hx hb dX12_isShip_5 rfl (lv_at hl 0 rfl) ?_
    refine zq_getr E hM k_h0 (zFX12_39 E hZ) ⟨by decide, by decide, by decide, rfl⟩ dX12_isShip_6 ?_
    have k102 : zq_k X (zq_r X h0 20) = 59 := zq_lk L.1 k_h0 rfl (by decide)
    refine lv_iconst (v := 2) hx hb dX12_isShip_9 (by decide +kernel) ?_
    refine zq_ian (n := 106) (j := 2) E hZ hM k102 ⟨by decide, rfl⟩ (by rw [zl_2]; decide) (by decide +kernel) dX12_isShip_10 (fun x103 ex103 gx103 => ?_)
    replace gx103 : 0 ≤ x103.toInt ∧ x103.toInt ≤ 3 := gx103
    refine lv_icmp_ge (tgt := 18) hx hb dX12_isShip_11 (by decide) (fun b104 => ?_) (fun b104 => ?_)
    · have b104 := zi_le b104 (rfl : x103.toInt = x103.toInt) (rfl : p1.toInt = p1.toInt)
      refine lv_iconst (v := 0) hx hb dX12_isShip_18 (by decide +kernel) ?_
      subst hQ
      exact zq_zret E hr hZ hM hS (show 0 ≤ (0 : Int32).toInt ∧ (0 : Int32).toInt ≤ 1 by decide +kernel) ⟨rfl, (by have := zl_0; omega), (by have := zl_0; omega)⟩ hlocks dX12_isShip_19
    · have b104 := zi_nle b104 (rfl : x103.toInt = x103.toInt) (rfl : p1.toInt = p1.toInt)
      refine lv_iconst (v := 1) hx hb dX12_isShip_14 (by decide +kernel) ?_
      refine lv_goto (tgt := 19) hx hb dX12_isShip_15 (by decide) ?_
      subst hQ
      exact zq_zret E hr hZ hM hS (show 0 ≤ (1 : Int32).toInt ∧ (1 : Int32).toInt ≤ 1 by decide +kernel) ⟨rfl, (by have := zl_1; omega), (by have := zl_1; omega)⟩ hlocks dX12_isShip_19
set_option maxHeartbeats 8000000 in
set_option maxRecDepth 100000 in
theorem c_X12_isTown (l : Launch) (X : zq_X) (zk zn : Nat) (I : zq_M) (L : zq_L X)  (h0 : Nat) (k_h0 : zq_k X h0 = 10) (p1 : Int32) (q_0 : zk ≤ 4400 ∧ zn ≤ 4400) : Met l yX12_isTown (zt_w yX12_isTown cX12_isTown 2 (some .boolean)) (zq_rm (0)) (va_Pc [.ref h0, .int p1] (zq_W X (zk, zn) I)) (va_Qi (fun (r : Int32) I2 => I2 = I ∧ (0 ≤ r.toInt ∧ r.toInt ≤ 1) ∧ (r.toInt = 0 ∨ (0 ≤ p1.toInt ∧ p1.toInt ≤ 3))) (zq_E X (zk, zn)) (zq_A X)) 0 0 (zq_A X) := by
  refine Met.ofW (cc := cX12_isTown) (maxL := 2) (ret := (some .boolean)) (by decide) rfl ?_
  intro p e s m args below meth c s₁ B hml hv
  obtain ⟨hargs, hM, hZ⟩ := hv
  have hown : s.vm.findClass RX12 = some m.cls := findClass_of_methodNamed B.named
  have hts := atoms_spec (ws := zt_w yX12_isTown cX12_isTown 2 (some .boolean)) B.pre
  have E : CallFix p m c cX12_isTown 2 s args (Cond.code yX12_isTown cX12_isTown 2 (some .boolean) :: zt) RX12 := ⟨B.exec, B.bytes, hml, hown, hts⟩
  have hx := B.exec
  have hb := B.bytes
  have hr := B.returns
  have hlocks := B.notSynchronized
  clear B
  have hS : va_S (zq_A X) s.heap s.heap [] := va_S.rf
  have hl := lv_entry ([.ref h0, .int p1]) (n := 2) (by exact Nat.le_of_ble_eq_true rfl)
  have hg : entryFrame m args 2 = F0 m 0 ((lg_sl ([.ref h0, .int p1]) ++ List.replicate (2 - (lg_sl ([.ref h0, .int p1])).length) Slot.unset).toArray) [] := by rw [hargs]; exact lg_entry_eq m ([.ref h0, .int p1]) 2
  rw [hg]
  clear hg hargs
  generalize (lg_sl ([.ref h0, .int p1]) ++ List.replicate (2 - (lg_sl ([.ref h0, .int p1])).length) Slot.unset).toArray = ls at hl ⊢
  have hl : lv_has ls 2 [(0, .ref h0), (1, .int p1)] := by exact hl
  obtain ⟨R, hRm⟩ : ∃ R : Room, R = (headSpec (zt_w yX12_isTown cX12_isTown 2 (some .boolean)) (zq_rm (0))).room := ⟨_, rfl⟩
  rw [← hRm]
  generalize hQ : MQ below _ args s 0 0 (zq_A X) = Q
  obtain ⟨H, hH⟩ : ∃ H, H = s.heap := ⟨_, rfl⟩
  obtain ⟨locs, hlo⟩ : ∃ x : List Loc, x = [] := ⟨_, rfl⟩
  rw [show W p l e R s m args below meth c s.heap [] 0 0 Q = W p l e R s m args below meth c H locs 0 0 Q by rw [hH, hlo]]
  have hM : zq_hm X (zk, zn) I H := by rw [hH]; exact hM
  have hS : va_S (zq_A X) s.heap H locs := by rw [hH, hlo]; exact hS
  clear hH hlo
  refine lv_iload_n hx hb dX12_isTown_0 rfl (lv_at hl 1 rfl) ?_
  refine lv_if_lt (tgt := 18) hx hb dX12_isTown_1 (by decide) (fun b101 => ?_) (fun b101 => ?_)
  · have b101 := zi_lt b101 (rfl : p1.toInt = p1.toInt) (zl_0 : (0 : Int32).toInt = 0)
    refine lv_iconst (v := 0) hx hb dX12_isTown_18 (by decide +kernel) ?_
    subst hQ
    exact zq_zret E hr hZ hM hS (show 0 ≤ (0 : Int32).toInt ∧ (0 : Int32).toInt ≤ 1 by decide +kernel) ⟨rfl, (by have := zl_0; omega), (by have := zl_0; omega)⟩ hlocks dX12_isTown_19
  · have b101 := zi_nlt b101 (rfl : p1.toInt = p1.toInt) (zl_0 : (0 : Int32).toInt = 0)
    refine lv_iload_n hx hb dX12_isTown_4 rfl (lv_at hl 1 rfl) ?_
    refine lv_aload_n hx hb dX12_isTown_5 rfl (lv_at hl 0 rfl) ?_
    refine zq_getr E hM k_h0 (zFX12_39 E hZ) ⟨by decide, by decide, by decide, rfl⟩ dX12_isTown_6 ?_
    have k102 : zq_k X (zq_r X h0 20) = 59 := zq_lk L.1 k_h0 rfl (by decide)
    refine lv_iconst (v := 3) hx hb dX12_isTown_9 (by decide +kernel) ?_
    refine zq_ian (n := 106) (j := 3) E hZ hM k102 ⟨by decide, rfl⟩ (by rw [zl_3]; decide) (by decide +kernel) dX12_isTown_10 (fun x103 ex103 gx103 => ?_)
    replace gx103 : 0 ≤ x103.toInt ∧ x103.toInt ≤ 4 := gx103
    refine lv_icmp_ge (tgt := 18) hx hb dX12_isTown_11 (by decide) (fun b104 => ?_) (fun b104 => ?_)
    · have b104 := zi_le b104 (rfl : x103.toInt = x103.toInt) (rfl : p1.toInt = p1.toInt)
      refine lv_iconst (v := 0) hx hb dX12_isTown_18 (by decide +kernel) ?_
      subst hQ
      exact zq_zret E hr hZ hM hS (show 0 ≤ (0 : Int32).toInt ∧ (0 : Int32).toInt ≤ 1 by decide +kernel) ⟨rfl, (by have := zl_0; omega), (by have := zl_0; omega)⟩ hlocks dX12_isTown_19
    · have b104 := zi_nle b104 (rfl : x103.toInt = x103.toInt) (rfl : p1.toInt = p1.toInt)
      refine lv_iconst (v := 1) hx hb dX12_isTown_14 (by decide +kernel) ?_
      refine lv_goto (tgt := 19) hx hb dX12_isTown_15 (by decide) ?_
      subst hQ
      exact zq_zret E hr hZ hM hS (show 0 ≤ (1 : Int32).toInt ∧ (1 : Int32).toInt ≤ 1 by decide +kernel) ⟨rfl, (by have := zl_1; omega), (by have := zl_1; omega)⟩ hlocks dX12_isTown_19
set_option maxHeartbeats 8000000 in
set_option maxRecDepth 100000 in
theorem c_X12_shipOf (l : Launch) (X : zq_X) (zk zn : Nat) (I : zq_M) (L : zq_L X)  (h0 : Nat) (k_h0 : zq_k X h0 = 10) (p1 : Int32) (p2 : Int32) (g_p1 : 0 ≤ p1.toInt ∧ p1.toInt ≤ 2) (g_p2 : 0 ≤ p2.toInt ∧ p2.toInt ≤ 3) (q_0 : zk ≤ 4400 ∧ zn ≤ 4400) : Met l yX12_shipOf (zt_w yX12_shipOf cX12_shipOf 3 (some .int)) (zq_rm (0)) (va_Pc [.ref h0, .int p1, .int p2] (zq_W X (zk, zn) I)) (va_Qi (fun (r : Int32) I2 => I2 = I ∧ (p2.toInt = 0 → (-1 ≤ r.toInt ∧ r.toInt ≤ 3)) ∧ (p2.toInt = 2 → (0 ≤ r.toInt ∧ r.toInt ≤ 99))) (zq_E X (zk, zn)) (zq_A X)) 0 0 (zq_A X) := by
  refine Met.ofW (cc := cX12_shipOf) (maxL := 3) (ret := (some .int)) (by decide) rfl ?_
  intro p e s m args below meth c s₁ B hml hv
  obtain ⟨hargs, hM, hZ⟩ := hv
  have hown : s.vm.findClass RX12 = some m.cls := findClass_of_methodNamed B.named
  have hts := atoms_spec (ws := zt_w yX12_shipOf cX12_shipOf 3 (some .int)) B.pre
  have E : CallFix p m c cX12_shipOf 3 s args (Cond.code yX12_shipOf cX12_shipOf 3 (some .int) :: zt) RX12 := ⟨B.exec, B.bytes, hml, hown, hts⟩
  have hx := B.exec
  have hb := B.bytes
  have hr := B.returns
  have hlocks := B.notSynchronized
  clear B
  have hS : va_S (zq_A X) s.heap s.heap [] := va_S.rf
  have hl := lv_entry ([.ref h0, .int p1, .int p2]) (n := 3) (by exact Nat.le_of_ble_eq_true rfl)
  have hg : entryFrame m args 3 = F0 m 0 ((lg_sl ([.ref h0, .int p1, .int p2]) ++ List.replicate (3 - (lg_sl ([.ref h0, .int p1, .int p2])).length) Slot.unset).toArray) [] := by rw [hargs]; exact lg_entry_eq m ([.ref h0, .int p1, .int p2]) 3
  rw [hg]
  clear hg hargs
  generalize (lg_sl ([.ref h0, .int p1, .int p2]) ++ List.replicate (3 - (lg_sl ([.ref h0, .int p1, .int p2])).length) Slot.unset).toArray = ls at hl ⊢
  have hl : lv_has ls 3 [(0, .ref h0), (1, .int p1), (2, .int p2)] := by exact hl
  obtain ⟨R, hRm⟩ : ∃ R : Room, R = (headSpec (zt_w yX12_shipOf cX12_shipOf 3 (some .int)) (zq_rm (0))).room := ⟨_, rfl⟩
  rw [← hRm]
  generalize hQ : MQ below _ args s 0 0 (zq_A X) = Q
  obtain ⟨H, hH⟩ : ∃ H, H = s.heap := ⟨_, rfl⟩
  obtain ⟨locs, hlo⟩ : ∃ x : List Loc, x = [] := ⟨_, rfl⟩
  rw [show W p l e R s m args below meth c s.heap [] 0 0 Q = W p l e R s m args below meth c H locs 0 0 Q by rw [hH, hlo]]
  have hM : zq_hm X (zk, zn) I H := by rw [hH]; exact hM
  have hS : va_S (zq_A X) s.heap H locs := by rw [hH, hlo]; exact hS
  clear hH hlo
  refine lv_aload_n hx hb dX12_shipOf_0 rfl (lv_at hl 0 rfl) ?_
  refine zq_getr E hM k_h0 (zFX12_39 E hZ) ⟨by decide, by decide, by decide, rfl⟩ dX12_shipOf_1 ?_
  have k101 : zq_k X (zq_r X h0 20) = 59 := zq_lk L.1 k_h0 rfl (by decide)
  refine lv_bipush (v := 13) hx hb dX12_shipOf_4 (by decide +kernel) ?_
  refine lv_iconst (v := 4) hx hb dX12_shipOf_6 (by decide +kernel) ?_
  refine lv_iload_n hx hb dX12_shipOf_7 rfl (lv_at hl 1 rfl) ?_
  refine lv_imul hx hb dX12_shipOf_8 ?_
  refine lv_topi (fun x102 ex102 => ?_)
  have tx102 := zi_mul ex102 (zl_4 : (4 : Int32).toInt = 4) (rfl : p1.toInt = p1.toInt) ⟨by omega, by omega⟩
  refine lv_iadd hx hb dX12_shipOf_9 ?_
  refine lv_topi (fun x103 ex103 => ?_)
  have tx103 := zi_add ex103 (zl_13 : (13 : Int32).toInt = 13) (rfl : x102.toInt = x102.toInt) ⟨by omega, by omega⟩
  refine lv_iload_n hx hb dX12_shipOf_10 rfl (lv_at hl 2 rfl) ?_
  refine lv_iadd hx hb dX12_shipOf_11 ?_
  refine lv_topi (fun x104 ex104 => ?_)
  have tx104 := zi_add ex104 (rfl : x103.toInt = x103.toInt) (rfl : p2.toInt = p2.toInt) ⟨by omega, by omega⟩
  refine W.eq (g2 := F0 m 12 ls [.int x104, .ref (zq_r X h0 20)]) rfl ?_
  refine zq_ian (n := 106) (j := (x104.toNatClampNeg)) E hZ hM k101 ⟨by decide, rfl⟩ ⟨by omega, by omega⟩ rfl dX12_shipOf_12 (fun x105 ex105 gx105 => ?_)
  have hclx104 := zq_cl (i := x104) (by omega)
  subst hQ
  exact zq_iret E hr hZ hM hS ⟨rfl, (fun hh => by
      rcases (show x104.toNatClampNeg = 13 ∨ x104.toNatClampNeg = 17 ∨ x104.toNatClampNeg = 21 by omega) with q9 | q9 | q9
      · rw [q9] at gx105; exact gx105
      · rw [q9] at gx105; exact gx105
      · rw [q9] at gx105; exact gx105), (fun hh => by
      rcases (show x104.toNatClampNeg = 15 ∨ x104.toNatClampNeg = 19 ∨ x104.toNatClampNeg = 23 by omega) with q9 | q9 | q9
      · rw [q9] at gx105; exact gx105
      · rw [q9] at gx105; exact gx105
      · rw [q9] at gx105; exact gx105)⟩ hlocks dX12_shipOf_13
set_option maxHeartbeats 8000000 in
set_option maxRecDepth 100000 in
theorem c_X12_townOf (l : Launch) (X : zq_X) (zk zn : Nat) (I : zq_M) (L : zq_L X)  (h0 : Nat) (k_h0 : zq_k X h0 = 10) (p1 : Int32) (p2 : Int32) (g_p1 : 0 ≤ p1.toInt ∧ p1.toInt ≤ 3) (g_p2 : 0 ≤ p2.toInt ∧ p2.toInt ≤ 4) (q_0 : zk ≤ 4400 ∧ zn ≤ 4400) : Met l yX12_townOf (zt_w yX12_townOf cX12_townOf 3 (some .int)) (zq_rm (0)) (va_Pc [.ref h0, .int p1, .int p2] (zq_W X (zk, zn) I)) (va_Qi (fun (r : Int32) I2 => I2 = I ∧ (p2.toInt = 0 → (0 ≤ r.toInt ∧ r.toInt ≤ 99)) ∧ (p2.toInt = 1 → (0 ≤ r.toInt ∧ r.toInt ≤ 99)) ∧ (p2.toInt = 2 → (0 ≤ r.toInt ∧ r.toInt ≤ 99 * ((zn : Nat) : Int))) ∧ (r = I (zq_r X h0 20) (25 + 5 * p1.toNatClampNeg + p2.toNatClampNeg))) (zq_E X (zk, zn)) (zq_A X)) 0 0 (zq_A X) := by
  refine Met.ofW (cc := cX12_townOf) (maxL := 3) (ret := (some .int)) (by decide) rfl ?_
  intro p e s m args below meth c s₁ B hml hv
  obtain ⟨hargs, hM, hZ⟩ := hv
  have hown : s.vm.findClass RX12 = some m.cls := findClass_of_methodNamed B.named
  have hts := atoms_spec (ws := zt_w yX12_townOf cX12_townOf 3 (some .int)) B.pre
  have E : CallFix p m c cX12_townOf 3 s args (Cond.code yX12_townOf cX12_townOf 3 (some .int) :: zt) RX12 := ⟨B.exec, B.bytes, hml, hown, hts⟩
  have hx := B.exec
  have hb := B.bytes
  have hr := B.returns
  have hlocks := B.notSynchronized
  clear B
  have hS : va_S (zq_A X) s.heap s.heap [] := va_S.rf
  have hl := lv_entry ([.ref h0, .int p1, .int p2]) (n := 3) (by exact Nat.le_of_ble_eq_true rfl)
  have hg : entryFrame m args 3 = F0 m 0 ((lg_sl ([.ref h0, .int p1, .int p2]) ++ List.replicate (3 - (lg_sl ([.ref h0, .int p1, .int p2])).length) Slot.unset).toArray) [] := by rw [hargs]; exact lg_entry_eq m ([.ref h0, .int p1, .int p2]) 3
  rw [hg]
  clear hg hargs
  generalize (lg_sl ([.ref h0, .int p1, .int p2]) ++ List.replicate (3 - (lg_sl ([.ref h0, .int p1, .int p2])).length) Slot.unset).toArray = ls at hl ⊢
  have hl : lv_has ls 3 [(0, .ref h0), (1, .int p1), (2, .int p2)] := by exact hl
  obtain ⟨R, hRm⟩ : ∃ R : Room, R = (headSpec (zt_w yX12_townOf cX12_townOf 3 (some .int)) (zq_rm (0))).room := ⟨_, rfl⟩
  rw [← hRm]
  generalize hQ : MQ below _ args s 0 0 (zq_A X) = Q
  obtain ⟨H, hH⟩ : ∃ H, H = s.heap := ⟨_, rfl⟩
  obtain ⟨locs, hlo⟩ : ∃ x : List Loc, x = [] := ⟨_, rfl⟩
  rw [show W p l e R s m args below meth c s.heap [] 0 0 Q = W p l e R s m args below meth c H locs 0 0 Q by rw [hH, hlo]]
  have hM : zq_hm X (zk, zn) I H := by rw [hH]; exact hM
  have hS : va_S (zq_A X) s.heap H locs := by rw [hH, hlo]; exact hS
  clear hH hlo
  refine lv_aload_n hx hb dX12_townOf_0 rfl (lv_at hl 0 rfl) ?_
  refine zq_getr E hM k_h0 (zFX12_39 E hZ) ⟨by decide, by decide, by decide, rfl⟩ dX12_townOf_1 ?_
  have k101 : zq_k X (zq_r X h0 20) = 59 := zq_lk L.1 k_h0 rfl (by decide)
  refine lv_bipush (v := 25) hx hb dX12_townOf_4 (by decide +kernel) ?_
  refine lv_iconst (v := 5) hx hb dX12_townOf_6 (by decide +kernel) ?_
  refine lv_iload_n hx hb dX12_townOf_7 rfl (lv_at hl 1 rfl) ?_
  refine lv_imul hx hb dX12_townOf_8 ?_
  refine lv_topi (fun x102 ex102 => ?_)
  have tx102 := zi_mul ex102 (zl_5 : (5 : Int32).toInt = 5) (rfl : p1.toInt = p1.toInt) ⟨by omega, by omega⟩
  refine lv_iadd hx hb dX12_townOf_9 ?_
  refine lv_topi (fun x103 ex103 => ?_)
  have tx103 := zi_add ex103 (zl_25 : (25 : Int32).toInt = 25) (rfl : x102.toInt = x102.toInt) ⟨by omega, by omega⟩
  refine lv_iload_n hx hb dX12_townOf_10 rfl (lv_at hl 2 rfl) ?_
  refine lv_iadd hx hb dX12_townOf_11 ?_
  refine lv_topi (fun x104 ex104 => ?_)
  have tx104 := zi_add ex104 (rfl : x103.toInt = x103.toInt) (rfl : p2.toInt = p2.toInt) ⟨by omega, by omega⟩
  refine W.eq (g2 := F0 m 12 ls [.int x104, .ref (zq_r X h0 20)]) rfl ?_
  refine zq_ian (n := 106) (j := (x104.toNatClampNeg)) E hZ hM k101 ⟨by decide, rfl⟩ ⟨by omega, by omega⟩ rfl dX12_townOf_12 (fun x105 ex105 gx105 => ?_)
  have hclx104 := zq_cl (i := x104) (by omega)
  subst hQ
  exact zq_iret E hr hZ hM hS ⟨rfl, (fun hh => by
      rcases (show x104.toNatClampNeg = 25 ∨ x104.toNatClampNeg = 30 ∨ x104.toNatClampNeg = 35 ∨ x104.toNatClampNeg = 40 by omega) with q9 | q9 | q9 | q9
      · rw [q9] at gx105; exact gx105
      · rw [q9] at gx105; exact gx105
      · rw [q9] at gx105; exact gx105
      · rw [q9] at gx105; exact gx105), (fun hh => by
      rcases (show x104.toNatClampNeg = 26 ∨ x104.toNatClampNeg = 31 ∨ x104.toNatClampNeg = 36 ∨ x104.toNatClampNeg = 41 by omega) with q9 | q9 | q9 | q9
      · rw [q9] at gx105; exact gx105
      · rw [q9] at gx105; exact gx105
      · rw [q9] at gx105; exact gx105
      · rw [q9] at gx105; exact gx105), (fun hh => by
      rcases (show x104.toNatClampNeg = 27 ∨ x104.toNatClampNeg = 32 ∨ x104.toNatClampNeg = 37 ∨ x104.toNatClampNeg = 42 by omega) with q9 | q9 | q9 | q9
      · rw [q9] at gx105; exact gx105
      · rw [q9] at gx105; exact gx105
      · rw [q9] at gx105; exact gx105
      · rw [q9] at gx105; exact gx105), (by have h1 := zq_cl (i := p1) (by omega); have h2 := zq_cl (i := p2) (by omega); rw [← ex105, show 25 + 5 * p1.toNatClampNeg + p2.toNatClampNeg = x104.toNatClampNeg by omega])⟩ hlocks dX12_townOf_13
set_option maxHeartbeats 8000000 in
set_option maxRecDepth 100000 in
theorem c_X12_holdOf (l : Launch) (X : zq_X) (zk zn : Nat) (I : zq_M) (L : zq_L X)  (h0 : Nat) (k_h0 : zq_k X h0 = 10) (p1 : Int32) (g_p1 : 0 ≤ p1.toInt ∧ p1.toInt ≤ 2) (q_0 : zk ≤ 4400 ∧ zn ≤ 4400) : Met l yX12_holdOf (zt_w yX12_holdOf cX12_holdOf 2 (some .int)) (zq_rm (0)) (va_Pc [.ref h0, .int p1] (zq_W X (zk, zn) I)) (va_Qi (fun (r : Int32) I2 => I2 = I ∧ (0 ≤ r.toInt ∧ r.toInt ≤ 99)) (zq_E X (zk, zn)) (zq_A X)) 0 0 (zq_A X) := by
  refine Met.ofW (cc := cX12_holdOf) (maxL := 2) (ret := (some .int)) (by decide) rfl ?_
  intro p e s m args below meth c s₁ B hml hv
  obtain ⟨hargs, hM, hZ⟩ := hv
  have hown : s.vm.findClass RX12 = some m.cls := findClass_of_methodNamed B.named
  have hts := atoms_spec (ws := zt_w yX12_holdOf cX12_holdOf 2 (some .int)) B.pre
  have E : CallFix p m c cX12_holdOf 2 s args (Cond.code yX12_holdOf cX12_holdOf 2 (some .int) :: zt) RX12 := ⟨B.exec, B.bytes, hml, hown, hts⟩
  have hx := B.exec
  have hb := B.bytes
  have hr := B.returns
  have hlocks := B.notSynchronized
  clear B
  have hS : va_S (zq_A X) s.heap s.heap [] := va_S.rf
  have hl := lv_entry ([.ref h0, .int p1]) (n := 2) (by exact Nat.le_of_ble_eq_true rfl)
  have hg : entryFrame m args 2 = F0 m 0 ((lg_sl ([.ref h0, .int p1]) ++ List.replicate (2 - (lg_sl ([.ref h0, .int p1])).length) Slot.unset).toArray) [] := by rw [hargs]; exact lg_entry_eq m ([.ref h0, .int p1]) 2
  rw [hg]
  clear hg hargs
  generalize (lg_sl ([.ref h0, .int p1]) ++ List.replicate (2 - (lg_sl ([.ref h0, .int p1])).length) Slot.unset).toArray = ls at hl ⊢
  have hl : lv_has ls 2 [(0, .ref h0), (1, .int p1)] := by exact hl
  obtain ⟨R, hRm⟩ : ∃ R : Room, R = (headSpec (zt_w yX12_holdOf cX12_holdOf 2 (some .int)) (zq_rm (0))).room := ⟨_, rfl⟩
  rw [← hRm]
  generalize hQ : MQ below _ args s 0 0 (zq_A X) = Q
  obtain ⟨H, hH⟩ : ∃ H, H = s.heap := ⟨_, rfl⟩
  obtain ⟨locs, hlo⟩ : ∃ x : List Loc, x = [] := ⟨_, rfl⟩
  rw [show W p l e R s m args below meth c s.heap [] 0 0 Q = W p l e R s m args below meth c H locs 0 0 Q by rw [hH, hlo]]
  have hM : zq_hm X (zk, zn) I H := by rw [hH]; exact hM
  have hS : va_S (zq_A X) s.heap H locs := by rw [hH, hlo]; exact hS
  clear hH hlo
  refine lv_aload_n hx hb dX12_holdOf_0 rfl (lv_at hl 0 rfl) ?_
  refine zq_getr E hM k_h0 (zFX12_39 E hZ) ⟨by decide, by decide, by decide, rfl⟩ dX12_holdOf_1 ?_
  have k101 : zq_k X (zq_r X h0 20) = 59 := zq_lk L.1 k_h0 rfl (by decide)
  refine lv_bipush (v := 57) hx hb dX12_holdOf_4 (by decide +kernel) ?_
  refine lv_iconst (v := 2) hx hb dX12_holdOf_6 (by decide +kernel) ?_
  refine lv_iload_n hx hb dX12_holdOf_7 rfl (lv_at hl 1 rfl) ?_
  refine lv_imul hx hb dX12_holdOf_8 ?_
  refine lv_topi (fun x102 ex102 => ?_)
  have tx102 := zi_mul ex102 (zl_2 : (2 : Int32).toInt = 2) (rfl : p1.toInt = p1.toInt) ⟨by omega, by omega⟩
  refine lv_iadd hx hb dX12_holdOf_9 ?_
  refine lv_topi (fun x103 ex103 => ?_)
  have tx103 := zi_add ex103 (zl_57 : (57 : Int32).toInt = 57) (rfl : x102.toInt = x102.toInt) ⟨by omega, by omega⟩
  refine zq_ian (n := 106) (j := (x103.toNatClampNeg)) E hZ hM k101 ⟨by decide, rfl⟩ ⟨by omega, by omega⟩ rfl dX12_holdOf_10 (fun x104 ex104 gx104 => ?_)
  have hclx103 := zq_cl (i := x103) (by omega)
  have hc105 : x103.toNatClampNeg = 57 ∨ x103.toNatClampNeg = 59 ∨ x103.toNatClampNeg = 61 := by omega
  replace gx104 : 0 ≤ x104.toInt ∧ x104.toInt ≤ 99 := by
    rcases hc105 with q9 | q9 | q9
    · rw [q9] at gx104; exact gx104
    · rw [q9] at gx104; exact gx104
    · rw [q9] at gx104; exact gx104
  subst hQ
  exact zq_iret E hr hZ hM hS ⟨rfl, (by omega)⟩ hlocks dX12_holdOf_11
set_option maxHeartbeats 8000000 in
set_option maxRecDepth 100000 in
theorem c_X12_costOf (l : Launch) (X : zq_X) (zk zn : Nat) (I : zq_M) (L : zq_L X)  (h0 : Nat) (k_h0 : zq_k X h0 = 10) (p1 : Int32) (g_p1 : 0 ≤ p1.toInt ∧ p1.toInt ≤ 2) (q_0 : zk ≤ 4400 ∧ zn ≤ 4400) : Met l yX12_costOf (zt_w yX12_costOf cX12_costOf 2 (some .int)) (zq_rm (0)) (va_Pc [.ref h0, .int p1] (zq_W X (zk, zn) I)) (va_Qi (fun (r : Int32) I2 => I2 = I ∧ True) (zq_E X (zk, zn)) (zq_A X)) 0 0 (zq_A X) := by
  refine Met.ofW (cc := cX12_costOf) (maxL := 2) (ret := (some .int)) (by decide) rfl ?_
  intro p e s m args below meth c s₁ B hml hv
  obtain ⟨hargs, hM, hZ⟩ := hv
  have hown : s.vm.findClass RX12 = some m.cls := findClass_of_methodNamed B.named
  have hts := atoms_spec (ws := zt_w yX12_costOf cX12_costOf 2 (some .int)) B.pre
  have E : CallFix p m c cX12_costOf 2 s args (Cond.code yX12_costOf cX12_costOf 2 (some .int) :: zt) RX12 := ⟨B.exec, B.bytes, hml, hown, hts⟩
  have hx := B.exec
  have hb := B.bytes
  have hr := B.returns
  have hlocks := B.notSynchronized
  clear B
  have hS : va_S (zq_A X) s.heap s.heap [] := va_S.rf
  have hl := lv_entry ([.ref h0, .int p1]) (n := 2) (by exact Nat.le_of_ble_eq_true rfl)
  have hg : entryFrame m args 2 = F0 m 0 ((lg_sl ([.ref h0, .int p1]) ++ List.replicate (2 - (lg_sl ([.ref h0, .int p1])).length) Slot.unset).toArray) [] := by rw [hargs]; exact lg_entry_eq m ([.ref h0, .int p1]) 2
  rw [hg]
  clear hg hargs
  generalize (lg_sl ([.ref h0, .int p1]) ++ List.replicate (2 - (lg_sl ([.ref h0, .int p1])).length) Slot.unset).toArray = ls at hl ⊢
  have hl : lv_has ls 2 [(0, .ref h0), (1, .int p1)] := by exact hl
  obtain ⟨R, hRm⟩ : ∃ R : Room, R = (headSpec (zt_w yX12_costOf cX12_costOf 2 (some .int)) (zq_rm (0))).room := ⟨_, rfl⟩
  rw [← hRm]
  generalize hQ : MQ below _ args s 0 0 (zq_A X) = Q
  obtain ⟨H, hH⟩ : ∃ H, H = s.heap := ⟨_, rfl⟩
  obtain ⟨locs, hlo⟩ : ∃ x : List Loc, x = [] := ⟨_, rfl⟩
  rw [show W p l e R s m args below meth c s.heap [] 0 0 Q = W p l e R s m args below meth c H locs 0 0 Q by rw [hH, hlo]]
  have hM : zq_hm X (zk, zn) I H := by rw [hH]; exact hM
  have hS : va_S (zq_A X) s.heap H locs := by rw [hH, hlo]; exact hS
  clear hH hlo
  refine lv_aload_n hx hb dX12_costOf_0 rfl (lv_at hl 0 rfl) ?_
  refine zq_getr E hM k_h0 (zFX12_39 E hZ) ⟨by decide, by decide, by decide, rfl⟩ dX12_costOf_1 ?_
  have k101 : zq_k X (zq_r X h0 20) = 59 := zq_lk L.1 k_h0 rfl (by decide)
  refine lv_bipush (v := 57) hx hb dX12_costOf_4 (by decide +kernel) ?_
  refine lv_iconst (v := 2) hx hb dX12_costOf_6 (by decide +kernel) ?_
  refine lv_iload_n hx hb dX12_costOf_7 rfl (lv_at hl 1 rfl) ?_
  refine lv_imul hx hb dX12_costOf_8 ?_
  refine lv_topi (fun x102 ex102 => ?_)
  have tx102 := zi_mul ex102 (zl_2 : (2 : Int32).toInt = 2) (rfl : p1.toInt = p1.toInt) ⟨by omega, by omega⟩
  refine lv_iadd hx hb dX12_costOf_9 ?_
  refine lv_topi (fun x103 ex103 => ?_)
  have tx103 := zi_add ex103 (zl_57 : (57 : Int32).toInt = 57) (rfl : x102.toInt = x102.toInt) ⟨by omega, by omega⟩
  refine lv_iconst (v := 1) hx hb dX12_costOf_10 (by decide +kernel) ?_
  refine lv_iadd hx hb dX12_costOf_11 ?_
  refine lv_topi (fun x104 ex104 => ?_)
  have tx104 := zi_add ex104 (rfl : x103.toInt = x103.toInt) (zl_1 : (1 : Int32).toInt = 1) ⟨by omega, by omega⟩
  refine W.eq (g2 := F0 m 12 ls [.int x104, .ref (zq_r X h0 20)]) rfl ?_
  refine zq_ian (n := 106) (j := (x104.toNatClampNeg)) E hZ hM k101 ⟨by decide, rfl⟩ ⟨by omega, by omega⟩ rfl dX12_costOf_12 (fun x105 ex105 gx105 => ?_)
  clear gx105
  subst hQ
  exact zq_iret E hr hZ hM hS ⟨rfl, trivial⟩ hlocks dX12_costOf_13
set_option maxHeartbeats 8000000 in
set_option maxRecDepth 100000 in
theorem c_X12_monthsTo (l : Launch) (X : zq_X) (zk zn : Nat) (I : zq_M) (L : zq_L X)  (h0 : Nat) (k_h0 : zq_k X h0 = 10) (p1 : Int32) (g_p1 : 0 ≤ p1.toInt ∧ p1.toInt ≤ 3) (q_0 : zk ≤ 4400 ∧ zn ≤ 4400) : Met l yX12_monthsTo (zt_w yX12_monthsTo cX12_monthsTo 2 (some .int)) (zq_rm (0)) (va_Pc [.ref h0, .int p1] (zq_W X (zk, zn) I)) (va_Qi (fun (r : Int32) I2 => I2 = I ∧ (0 ≤ r.toInt ∧ r.toInt ≤ 6)) (zq_E X (zk, zn)) (zq_A X)) 0 0 (zq_A X) := by
  refine Met.ofW (cc := cX12_monthsTo) (maxL := 2) (ret := (some .int)) (by decide) rfl ?_
  intro p e s m args below meth c s₁ B hml hv
  obtain ⟨hargs, hM, hZ⟩ := hv
  have hown : s.vm.findClass RX12 = some m.cls := findClass_of_methodNamed B.named
  have hts := atoms_spec (ws := zt_w yX12_monthsTo cX12_monthsTo 2 (some .int)) B.pre
  have E : CallFix p m c cX12_monthsTo 2 s args (Cond.code yX12_monthsTo cX12_monthsTo 2 (some .int) :: zt) RX12 := ⟨B.exec, B.bytes, hml, hown, hts⟩
  have hx := B.exec
  have hb := B.bytes
  have hr := B.returns
  have hlocks := B.notSynchronized
  clear B
  have hS : va_S (zq_A X) s.heap s.heap [] := va_S.rf
  have hl := lv_entry ([.ref h0, .int p1]) (n := 2) (by exact Nat.le_of_ble_eq_true rfl)
  have hg : entryFrame m args 2 = F0 m 0 ((lg_sl ([.ref h0, .int p1]) ++ List.replicate (2 - (lg_sl ([.ref h0, .int p1])).length) Slot.unset).toArray) [] := by rw [hargs]; exact lg_entry_eq m ([.ref h0, .int p1]) 2
  rw [hg]
  clear hg hargs
  generalize (lg_sl ([.ref h0, .int p1]) ++ List.replicate (2 - (lg_sl ([.ref h0, .int p1])).length) Slot.unset).toArray = ls at hl ⊢
  have hl : lv_has ls 2 [(0, .ref h0), (1, .int p1)] := by exact hl
  obtain ⟨R, hRm⟩ : ∃ R : Room, R = (headSpec (zt_w yX12_monthsTo cX12_monthsTo 2 (some .int)) (zq_rm (0))).room := ⟨_, rfl⟩
  rw [← hRm]
  generalize hQ : MQ below _ args s 0 0 (zq_A X) = Q
  obtain ⟨H, hH⟩ : ∃ H, H = s.heap := ⟨_, rfl⟩
  obtain ⟨locs, hlo⟩ : ∃ x : List Loc, x = [] := ⟨_, rfl⟩
  rw [show W p l e R s m args below meth c s.heap [] 0 0 Q = W p l e R s m args below meth c H locs 0 0 Q by rw [hH, hlo]]
  have hM : zq_hm X (zk, zn) I H := by rw [hH]; exact hM
  have hS : va_S (zq_A X) s.heap H locs := by rw [hH, hlo]; exact hS
  clear hH hlo
  refine lv_aload_n hx hb dX12_monthsTo_0 rfl (lv_at hl 0 rfl) ?_
  refine zq_getr E hM k_h0 (zFX12_39 E hZ) ⟨by decide, by decide, by decide, rfl⟩ dX12_monthsTo_1 ?_
  have k101 : zq_k X (zq_r X h0 20) = 59 := zq_lk L.1 k_h0 rfl (by decide)
  refine lv_bipush (v := 63) hx hb dX12_monthsTo_4 (by decide +kernel) ?_
  refine lv_iconst (v := 2) hx hb dX12_monthsTo_6 (by decide +kernel) ?_
  refine lv_iload_n hx hb dX12_monthsTo_7 rfl (lv_at hl 1 rfl) ?_
  refine lv_imul hx hb dX12_monthsTo_8 ?_
  refine lv_topi (fun x102 ex102 => ?_)
  have tx102 := zi_mul ex102 (zl_2 : (2 : Int32).toInt = 2) (rfl : p1.toInt = p1.toInt) ⟨by omega, by omega⟩
  refine lv_iadd hx hb dX12_monthsTo_9 ?_
  refine lv_topi (fun x103 ex103 => ?_)
  have tx103 := zi_add ex103 (zl_63 : (63 : Int32).toInt = 63) (rfl : x102.toInt = x102.toInt) ⟨by omega, by omega⟩
  refine zq_ian (n := 106) (j := (x103.toNatClampNeg)) E hZ hM k101 ⟨by decide, rfl⟩ ⟨by omega, by omega⟩ rfl dX12_monthsTo_10 (fun x104 ex104 gx104 => ?_)
  have hclx103 := zq_cl (i := x103) (by omega)
  have hc105 : x103.toNatClampNeg = 63 ∨ x103.toNatClampNeg = 65 ∨ x103.toNatClampNeg = 67 ∨ x103.toNatClampNeg = 69 := by omega
  replace gx104 : 0 ≤ x104.toInt ∧ x104.toInt ≤ 6 := by
    rcases hc105 with q9 | q9 | q9 | q9
    · rw [q9] at gx104; exact gx104
    · rw [q9] at gx104; exact gx104
    · rw [q9] at gx104; exact gx104
    · rw [q9] at gx104; exact gx104
  subst hQ
  exact zq_iret E hr hZ hM hS ⟨rfl, (by omega)⟩ hlocks dX12_monthsTo_11
set_option maxHeartbeats 8000000 in
set_option maxRecDepth 100000 in
theorem c_X12_heatOf (l : Launch) (X : zq_X) (zk zn : Nat) (I : zq_M) (L : zq_L X)  (h0 : Nat) (k_h0 : zq_k X h0 = 10) (p1 : Int32) (g_p1 : 0 ≤ p1.toInt ∧ p1.toInt ≤ 3) (q_0 : zk ≤ 4400 ∧ zn ≤ 4400) : Met l yX12_heatOf (zt_w yX12_heatOf cX12_heatOf 2 (some .int)) (zq_rm (0)) (va_Pc [.ref h0, .int p1] (zq_W X (zk, zn) I)) (va_Qi (fun (r : Int32) I2 => I2 = I ∧ (0 ≤ r.toInt ∧ r.toInt ≤ 60)) (zq_E X (zk, zn)) (zq_A X)) 0 0 (zq_A X) := by
  refine Met.ofW (cc := cX12_heatOf) (maxL := 2) (ret := (some .int)) (by decide) rfl ?_
  intro p e s m args below meth c s₁ B hml hv
  obtain ⟨hargs, hM, hZ⟩ := hv
  have hown : s.vm.findClass RX12 = some m.cls := findClass_of_methodNamed B.named
  have hts := atoms_spec (ws := zt_w yX12_heatOf cX12_heatOf 2 (some .int)) B.pre
  have E : CallFix p m c cX12_heatOf 2 s args (Cond.code yX12_heatOf cX12_heatOf 2 (some .int) :: zt) RX12 := ⟨B.exec, B.bytes, hml, hown, hts⟩
  have hx := B.exec
  have hb := B.bytes
  have hr := B.returns
  have hlocks := B.notSynchronized
  clear B
  have hS : va_S (zq_A X) s.heap s.heap [] := va_S.rf
  have hl := lv_entry ([.ref h0, .int p1]) (n := 2) (by exact Nat.le_of_ble_eq_true rfl)
  have hg : entryFrame m args 2 = F0 m 0 ((lg_sl ([.ref h0, .int p1]) ++ List.replicate (2 - (lg_sl ([.ref h0, .int p1])).length) Slot.unset).toArray) [] := by rw [hargs]; exact lg_entry_eq m ([.ref h0, .int p1]) 2
  rw [hg]
  clear hg hargs
  generalize (lg_sl ([.ref h0, .int p1]) ++ List.replicate (2 - (lg_sl ([.ref h0, .int p1])).length) Slot.unset).toArray = ls at hl ⊢
  have hl : lv_has ls 2 [(0, .ref h0), (1, .int p1)] := by exact hl
  obtain ⟨R, hRm⟩ : ∃ R : Room, R = (headSpec (zt_w yX12_heatOf cX12_heatOf 2 (some .int)) (zq_rm (0))).room := ⟨_, rfl⟩
  rw [← hRm]
  generalize hQ : MQ below _ args s 0 0 (zq_A X) = Q
  obtain ⟨H, hH⟩ : ∃ H, H = s.heap := ⟨_, rfl⟩
  obtain ⟨locs, hlo⟩ : ∃ x : List Loc, x = [] := ⟨_, rfl⟩
  rw [show W p l e R s m args below meth c s.heap [] 0 0 Q = W p l e R s m args below meth c H locs 0 0 Q by rw [hH, hlo]]
  have hM : zq_hm X (zk, zn) I H := by rw [hH]; exact hM
  have hS : va_S (zq_A X) s.heap H locs := by rw [hH, hlo]; exact hS
  clear hH hlo
  refine lv_aload_n hx hb dX12_heatOf_0 rfl (lv_at hl 0 rfl) ?_
  refine zq_getr E hM k_h0 (zFX12_39 E hZ) ⟨by decide, by decide, by decide, rfl⟩ dX12_heatOf_1 ?_
  have k101 : zq_k X (zq_r X h0 20) = 59 := zq_lk L.1 k_h0 rfl (by decide)
  refine lv_bipush (v := 63) hx hb dX12_heatOf_4 (by decide +kernel) ?_
  refine lv_iconst (v := 2) hx hb dX12_heatOf_6 (by decide +kernel) ?_
  refine lv_iload_n hx hb dX12_heatOf_7 rfl (lv_at hl 1 rfl) ?_
  refine lv_imul hx hb dX12_heatOf_8 ?_
  refine lv_topi (fun x102 ex102 => ?_)
  have tx102 := zi_mul ex102 (zl_2 : (2 : Int32).toInt = 2) (rfl : p1.toInt = p1.toInt) ⟨by omega, by omega⟩
  refine lv_iadd hx hb dX12_heatOf_9 ?_
  refine lv_topi (fun x103 ex103 => ?_)
  have tx103 := zi_add ex103 (zl_63 : (63 : Int32).toInt = 63) (rfl : x102.toInt = x102.toInt) ⟨by omega, by omega⟩
  refine lv_iconst (v := 1) hx hb dX12_heatOf_10 (by decide +kernel) ?_
  refine lv_iadd hx hb dX12_heatOf_11 ?_
  refine lv_topi (fun x104 ex104 => ?_)
  have tx104 := zi_add ex104 (rfl : x103.toInt = x103.toInt) (zl_1 : (1 : Int32).toInt = 1) ⟨by omega, by omega⟩
  refine W.eq (g2 := F0 m 12 ls [.int x104, .ref (zq_r X h0 20)]) rfl ?_
  refine zq_ian (n := 106) (j := (x104.toNatClampNeg)) E hZ hM k101 ⟨by decide, rfl⟩ ⟨by omega, by omega⟩ rfl dX12_heatOf_12 (fun x105 ex105 gx105 => ?_)
  have hclx104 := zq_cl (i := x104) (by omega)
  have hc106 : x104.toNatClampNeg = 64 ∨ x104.toNatClampNeg = 66 ∨ x104.toNatClampNeg = 68 ∨ x104.toNatClampNeg = 70 := by omega
  replace gx105 : 0 ≤ x105.toInt ∧ x105.toInt ≤ 60 := by
    rcases hc106 with q9 | q9 | q9 | q9
    · rw [q9] at gx105; exact gx105
    · rw [q9] at gx105; exact gx105
    · rw [q9] at gx105; exact gx105
    · rw [q9] at gx105; exact gx105
  subst hQ
  exact zq_iret E hr hZ hM hS ⟨rfl, (by omega)⟩ hlocks dX12_heatOf_13
set_option maxHeartbeats 8000000 in
set_option maxRecDepth 100000 in
theorem c_X12_isHome (l : Launch) (X : zq_X) (zk zn : Nat) (I : zq_M) (L : zq_L X)  (h0 : Nat) (k_h0 : zq_k X h0 = 10) (p1 : Int32) (g_p1 : 0 ≤ p1.toInt ∧ p1.toInt ≤ 2) (q_0 : zk ≤ 4400 ∧ zn ≤ 4400) : Met l yX12_isHome (zt_w yX12_isHome cX12_isHome 2 (some .boolean)) (zq_rm (1)) (va_Pc [.ref h0, .int p1] (zq_W X (zk, zn) I)) (va_Qi (fun (r : Int32) I2 => I2 = I ∧ (0 ≤ r.toInt ∧ r.toInt ≤ 1)) (zq_E X (zk, zn)) (zq_A X)) 0 0 (zq_A X) := by
  refine Met.ofW (cc := cX12_isHome) (maxL := 2) (ret := (some .boolean)) (by decide) rfl ?_
  intro p e s m args below meth c s₁ B hml hv
  obtain ⟨hargs, hM, hZ⟩ := hv
  have hown : s.vm.findClass RX12 = some m.cls := findClass_of_methodNamed B.named
  have hts := atoms_spec (ws := zt_w yX12_isHome cX12_isHome 2 (some .boolean)) B.pre
  have E : CallFix p m c cX12_isHome 2 s args (Cond.code yX12_isHome cX12_isHome 2 (some .boolean) :: zt) RX12 := ⟨B.exec, B.bytes, hml, hown, hts⟩
  have hx := B.exec
  have hb := B.bytes
  have hr := B.returns
  have hlocks := B.notSynchronized
  clear B
  have hS : va_S (zq_A X) s.heap s.heap [] := va_S.rf
  have hl := lv_entry ([.ref h0, .int p1]) (n := 2) (by exact Nat.le_of_ble_eq_true rfl)
  have hg : entryFrame m args 2 = F0 m 0 ((lg_sl ([.ref h0, .int p1]) ++ List.replicate (2 - (lg_sl ([.ref h0, .int p1])).length) Slot.unset).toArray) [] := by rw [hargs]; exact lg_entry_eq m ([.ref h0, .int p1]) 2
  rw [hg]
  clear hg hargs
  generalize (lg_sl ([.ref h0, .int p1]) ++ List.replicate (2 - (lg_sl ([.ref h0, .int p1])).length) Slot.unset).toArray = ls at hl ⊢
  have hl : lv_has ls 2 [(0, .ref h0), (1, .int p1)] := by exact hl
  obtain ⟨R, hRm⟩ : ∃ R : Room, R = (headSpec (zt_w yX12_isHome cX12_isHome 2 (some .boolean)) (zq_rm (1))).room := ⟨_, rfl⟩
  rw [← hRm]
  have hro : ∀ d q : Nat, d + 1 ≤ 1 → q ≤ 45 → zq_rok d q R := fun d q h1 h2 => by rw [hRm]; exact zq_rokI h1 h2
  generalize hQ : MQ below _ args s 0 0 (zq_A X) = Q
  obtain ⟨H, hH⟩ : ∃ H, H = s.heap := ⟨_, rfl⟩
  obtain ⟨locs, hlo⟩ : ∃ x : List Loc, x = [] := ⟨_, rfl⟩
  rw [show W p l e R s m args below meth c s.heap [] 0 0 Q = W p l e R s m args below meth c H locs 0 0 Q by rw [hH, hlo]]
  have hM : zq_hm X (zk, zn) I H := by rw [hH]; exact hM
  have hS : va_S (zq_A X) s.heap H locs := by rw [hH, hlo]; exact hS
  clear hH hlo
  refine lv_aload_n hx hb dX12_isHome_0 rfl (lv_at hl 0 rfl) ?_
  refine lv_iload_n hx hb dX12_isHome_1 rfl (lv_at hl 1 rfl) ?_
  refine lv_iconst (v := 0) hx hb dX12_isHome_2 (by decide +kernel) ?_
  refine zq_pcalli (zq_rV (As := [.int p1, .int (0 : Int32)]) (rest := []) E hZ hM k_h0 (c_X12_shipOf l X zk (zn) I L h0 k_h0 p1 (0 : Int32) ⟨by omega, by omega⟩ (by rw [zl_0]; decide) (by have := zl_0; omega)) zmX12_281 zM_X12_shipOf (hro (0) 3 (by first | decide | omega) (by decide)) ⟨by decide, by decide⟩ rfl hl.1 rfl rfl (Nat.le_of_ble_eq_true rfl) dX12_isHome_3) hS (fun x102 H locs h101 hM hS => ?_)
  obtain ⟨p103, p104⟩ := h101
  have := zl_0
  refine lv_if_ge (tgt := 22) hx hb dX12_isHome_6 (by decide) (fun b105 => ?_) (fun b105 => ?_)
  · have b105 := zi_le b105 (zl_0 : (0 : Int32).toInt = 0) (rfl : x102.toInt = x102.toInt)
    refine lv_iconst (v := 0) hx hb dX12_isHome_22 (by decide +kernel) ?_
    subst hQ
    exact zq_zret E hr hZ hM hS (show 0 ≤ (0 : Int32).toInt ∧ (0 : Int32).toInt ≤ 1 by decide +kernel) ⟨rfl, (by have := zl_0; omega)⟩ hlocks dX12_isHome_23
  · have b105 := zi_nle b105 (zl_0 : (0 : Int32).toInt = 0) (rfl : x102.toInt = x102.toInt)
    refine lv_aload_n hx hb dX12_isHome_9 rfl (lv_at hl 0 rfl) ?_
    refine lv_iload_n hx hb dX12_isHome_10 rfl (lv_at hl 1 rfl) ?_
    refine lv_iconst (v := 1) hx hb dX12_isHome_11 (by decide +kernel) ?_
    refine zq_pcalli (zq_rV (As := [.int p1, .int (1 : Int32)]) (rest := []) E hZ hM k_h0 (c_X12_shipOf l X zk (zn) I L h0 k_h0 p1 (1 : Int32) ⟨by omega, by omega⟩ (by rw [zl_1]; decide) (by have := zl_1; omega)) zmX12_281 zM_X12_shipOf (hro (0) 3 (by first | decide | omega) (by decide)) ⟨by decide, by decide⟩ rfl hl.1 rfl rfl (Nat.le_of_ble_eq_true rfl) dX12_isHome_12) hS (fun x107 H locs h106 hM hS => ?_)
    obtain ⟨p108, p109⟩ := h106
    have := zl_1
    refine lv_if_ne (tgt := 22) hx hb dX12_isHome_15 (by decide) (fun b110 => ?_) (fun b110 => ?_)
    · have b110 := zi_ne b110 (rfl : x107.toInt = x107.toInt) (zl_0 : (0 : Int32).toInt = 0)
      refine lv_iconst (v := 0) hx hb dX12_isHome_22 (by decide +kernel) ?_
      subst hQ
      exact zq_zret E hr hZ hM hS (show 0 ≤ (0 : Int32).toInt ∧ (0 : Int32).toInt ≤ 1 by decide +kernel) ⟨rfl, (by have := zl_0; omega)⟩ hlocks dX12_isHome_23
    · have b110 := zi_eq b110 (rfl : x107.toInt = x107.toInt) (zl_0 : (0 : Int32).toInt = 0)
      refine lv_iconst (v := 1) hx hb dX12_isHome_18 (by decide +kernel) ?_
      refine lv_goto (tgt := 23) hx hb dX12_isHome_19 (by decide) ?_
      subst hQ
      exact zq_zret E hr hZ hM hS (show 0 ≤ (1 : Int32).toInt ∧ (1 : Int32).toInt ≤ 1 by decide +kernel) ⟨rfl, (by have := zl_1; omega)⟩ hlocks dX12_isHome_23
set_option maxHeartbeats 8000000 in
set_option maxRecDepth 100000 in
theorem c_X12_coming (l : Launch) (X : zq_X) (zk zn : Nat) (I : zq_M) (L : zq_L X)  (h0 : Nat) (k_h0 : zq_k X h0 = 10) (p1 : Int32) (q_0 : zk ≤ 4400 ∧ zn ≤ 4400) : Met l yX12_coming (zt_w yX12_coming cX12_coming 4 (some .int)) (zq_rm (1)) (va_Pc [.ref h0, .int p1] (zq_W X (zk, zn) I)) (va_Qi (fun (r : Int32) I2 => I2 = I ∧ True) (zq_E X (zk, zn)) (zq_A X)) 0 0 (zq_A X) := by
  refine Met.ofW (cc := cX12_coming) (maxL := 4) (ret := (some .int)) (by decide) rfl ?_
  intro p e s m args below meth c s₁ B hml hv
  obtain ⟨hargs, hM, hZ⟩ := hv
  have hown : s.vm.findClass RX12 = some m.cls := findClass_of_methodNamed B.named
  have hts := atoms_spec (ws := zt_w yX12_coming cX12_coming 4 (some .int)) B.pre
  have E : CallFix p m c cX12_coming 4 s args (Cond.code yX12_coming cX12_coming 4 (some .int) :: zt) RX12 := ⟨B.exec, B.bytes, hml, hown, hts⟩
  have hx := B.exec
  have hb := B.bytes
  have hr := B.returns
  have hlocks := B.notSynchronized
  clear B
  have hS : va_S (zq_A X) s.heap s.heap [] := va_S.rf
  have hl := lv_entry ([.ref h0, .int p1]) (n := 4) (by exact Nat.le_of_ble_eq_true rfl)
  have hg : entryFrame m args 4 = F0 m 0 ((lg_sl ([.ref h0, .int p1]) ++ List.replicate (4 - (lg_sl ([.ref h0, .int p1])).length) Slot.unset).toArray) [] := by rw [hargs]; exact lg_entry_eq m ([.ref h0, .int p1]) 4
  rw [hg]
  clear hg hargs
  generalize (lg_sl ([.ref h0, .int p1]) ++ List.replicate (4 - (lg_sl ([.ref h0, .int p1])).length) Slot.unset).toArray = ls at hl ⊢
  have hl : lv_has ls 4 [(0, .ref h0), (1, .int p1)] := by exact hl
  obtain ⟨R, hRm⟩ : ∃ R : Room, R = (headSpec (zt_w yX12_coming cX12_coming 4 (some .int)) (zq_rm (1))).room := ⟨_, rfl⟩
  rw [← hRm]
  have hro : ∀ d q : Nat, d + 1 ≤ 1 → q ≤ 45 → zq_rok d q R := fun d q h1 h2 => by rw [hRm]; exact zq_rokI h1 h2
  generalize hQ : MQ below _ args s 0 0 (zq_A X) = Q
  obtain ⟨H, hH⟩ : ∃ H, H = s.heap := ⟨_, rfl⟩
  obtain ⟨locs, hlo⟩ : ∃ x : List Loc, x = [] := ⟨_, rfl⟩
  rw [show W p l e R s m args below meth c s.heap [] 0 0 Q = W p l e R s m args below meth c H locs 0 0 Q by rw [hH, hlo]]
  have hM : zq_hm X (zk, zn) I H := by rw [hH]; exact hM
  have hS : va_S (zq_A X) s.heap H locs := by rw [hH, hlo]; exact hS
  clear hH hlo
  refine lv_iconst (v := 0) hx hb dX12_coming_0 (by decide +kernel) ?_
  refine lv_istore_n (lv' := [(2, .int (0 : Int32)), (0, .ref h0), (1, .int p1)]) hx hb dX12_coming_1 rfl hl (by decide) rfl (fun ls hl => ?_)
  refine lv_iconst (v := 0) hx hb dX12_coming_2 (by decide +kernel) ?_
  refine lv_istore_n (lv' := [(3, .int (0 : Int32)), (2, .int (0 : Int32)), (0, .ref h0), (1, .int p1)]) hx hb dX12_coming_3 rfl hl (by decide) rfl (fun ls hl => ?_)
  have J4 : ∀ (n208 : Nat) (H : Heap) (locs : List Loc) (ls : Array Slot) (j206 : Int32) (j207 : Int32), 3 + 1 - j206.toInt ≤ ((n208 : Nat) : Int) → (zq_hm X (zk, zn) I H) → (va_S (zq_A X) s.heap H locs) → (0 ≤ j206.toInt ∧ j206.toInt ≤ 3) → (lv_has ls 4 [(3, .int j206), (2, .int j207), (0, .ref h0), (1, .int p1)]) → W p l e R s m args below meth c H locs 0 0 Q (F0 m 4 ls []) := by
    intro n208
    induction n208 with
    | zero => intro H locs ls j206 j207 mu209 hM hS gj206 hl; exfalso; have := zi_rng j206; omega
    | succ n208 ih4 =>
      intro H locs ls j206 j207 mu209 hM hS gj206 hl
      refine lv_iload_n hx hb dX12_coming_4 rfl (lv_at hl 0 rfl) ?_
      refine lv_aload_n hx hb dX12_coming_5 rfl (lv_at hl 2 rfl) ?_
      refine zq_getr E hM k_h0 (zFX12_39 E hZ) ⟨by decide, by decide, by decide, rfl⟩ dX12_coming_6 ?_
      have k210 : zq_k X (zq_r X h0 20) = 59 := zq_lk L.1 k_h0 rfl (by decide)
      refine lv_iconst (v := 2) hx hb dX12_coming_9 (by decide +kernel) ?_
      refine zq_ian (n := 106) (j := 2) E hZ hM k210 ⟨by decide, rfl⟩ (by rw [zl_2]; decide) (by decide +kernel) dX12_coming_10 (fun x211 ex211 gx211 => ?_)
      replace gx211 : 0 ≤ x211.toInt ∧ x211.toInt ≤ 3 := gx211
      refine lv_icmp_ge (tgt := 43) hx hb dX12_coming_11 (by decide) (fun b212 => ?_) (fun b212 => ?_)
      · have b212 := zi_le b212 (rfl : x211.toInt = x211.toInt) (rfl : j206.toInt = j206.toInt)
        refine lv_iload_n hx hb dX12_coming_43 rfl (lv_at hl 1 rfl) ?_
        subst hQ
        exact zq_iret E hr hZ hM hS ⟨rfl, trivial⟩ hlocks dX12_coming_44
      · have b212 := zi_nle b212 (rfl : x211.toInt = x211.toInt) (rfl : j206.toInt = j206.toInt)
        refine lv_iload_n hx hb dX12_coming_14 rfl (lv_at hl 1 rfl) ?_
        refine lv_aload_n hx hb dX12_coming_15 rfl (lv_at hl 2 rfl) ?_
        refine lv_iload_n hx hb dX12_coming_16 rfl (lv_at hl 0 rfl) ?_
        refine lv_iconst (v := 0) hx hb dX12_coming_17 (by decide +kernel) ?_
        refine zq_pcalli (zq_rV (As := [.int j206, .int (0 : Int32)]) (rest := [.int j207]) E hZ hM k_h0 (c_X12_shipOf l X zk (zn) I L h0 k_h0 j206 (0 : Int32) ⟨by omega, by omega⟩ (by rw [zl_0]; decide) (by have := zl_0; omega)) zmX12_281 zM_X12_shipOf (hro (0) 3 (by first | decide | omega) (by decide)) ⟨by decide, by decide⟩ rfl hl.1 rfl rfl (Nat.le_of_ble_eq_true rfl) dX12_coming_18) hS (fun x214 H locs h213 hM hS => ?_)
        obtain ⟨p215, p216⟩ := h213
        have := zl_0
        refine lv_iload_n hx hb dX12_coming_21 rfl (lv_at hl 3 rfl) ?_
        have J35 : ∀ (H : Heap) (locs : List Loc) (ls : Array Slot) (j221 : Int32), (zq_hm X (zk, zn) I H) → (va_S (zq_A X) s.heap H locs) → (0 ≤ j221.toInt ∧ j221.toInt ≤ 99) → (lv_has ls 4 [(3, .int j206), (2, .int j207), (0, .ref h0), (1, .int p1)]) → W p l e R s m args below meth c H locs 0 0 Q (F0 m 35 ls [.int j221, .int j207]) := by
          intro H locs ls j221 hM hS gj221 hl
          refine lv_iadd hx hb dX12_coming_35 ?_
          refine lv_topi (fun x224 ex224 => ?_)
          refine lv_istore_n (lv' := [(2, .int x224), (3, .int j206), (0, .ref h0), (1, .int p1)]) hx hb dX12_coming_36 rfl hl (by decide) rfl (fun ls hl => ?_)
          obtain ⟨x225, ex225⟩ : ∃ y : Int32, y = j206 + 1 := ⟨_, rfl⟩
          have tx225 := zi_add ex225 (rfl : j206.toInt = j206.toInt) zl_1 ⟨by omega, by omega⟩
          refine lv_iinc (v := x225) (lv' := [(3, .int x225), (2, .int x224), (0, .ref h0), (1, .int p1)]) hx hb dX12_coming_37 hl (k := 1) rfl (by rw [ex225]; rfl) (by decide) rfl (fun ls hl => ?_)
          refine lv_goto (tgt := 4) hx hb dX12_coming_40 (by decide) ?_
          exact ih4 H locs ls x225 x224 (by omega) hM hS (⟨by omega, by omega⟩) (lv_sub hl [0, 1, 2, 3] rfl)
        refine lv_icmp_ne (tgt := 34) hx hb dX12_coming_22 (by decide) (fun b226 => ?_) (fun b226 => ?_)
        · have b226 := zi_ne b226 (rfl : x214.toInt = x214.toInt) (rfl : p1.toInt = p1.toInt)
          refine lv_iconst (v := 0) hx hb dX12_coming_34 (by decide +kernel) ?_
          exact J35 H locs ls (0 : Int32) hM hS (by rw [zl_0]; decide) (lv_sub hl [0, 1, 2, 3] rfl)
        · have b226 := zi_eq b226 (rfl : x214.toInt = x214.toInt) (rfl : p1.toInt = p1.toInt)
          refine lv_aload_n hx hb dX12_coming_25 rfl (lv_at hl 2 rfl) ?_
          refine lv_iload_n hx hb dX12_coming_26 rfl (lv_at hl 0 rfl) ?_
          refine lv_iconst (v := 2) hx hb dX12_coming_27 (by decide +kernel) ?_
          refine zq_pcalli (zq_rV (As := [.int j206, .int (2 : Int32)]) (rest := [.int j207]) E hZ hM k_h0 (c_X12_shipOf l X zk (zn) I L h0 k_h0 j206 (2 : Int32) ⟨by omega, by omega⟩ (by rw [zl_2]; decide) (by have := zl_2; omega)) zmX12_281 zM_X12_shipOf (hro (0) 3 (by first | decide | omega) (by decide)) ⟨by decide, by decide⟩ rfl hl.1 rfl rfl (Nat.le_of_ble_eq_true rfl) dX12_coming_28) hS (fun x228 H locs h227 hM hS => ?_)
          obtain ⟨p229, p230⟩ := h227
          have := zl_2
          refine lv_goto (tgt := 35) hx hb dX12_coming_31 (by decide) ?_
          exact J35 H locs ls x228 hM hS (⟨by omega, by omega⟩) (lv_sub hl [0, 1, 2, 3] rfl)
  exact J4 (3 + 1 - (0 : Int32).toInt).toNat H locs ls (0 : Int32) (0 : Int32) (by omega) hM hS (by rw [zl_0]; decide) (lv_sub hl [0, 1, 2, 3] rfl)
def zw_X12_force : List (Nat × Nat) := [(10, 21)]
set_option maxHeartbeats 8000000 in
set_option maxRecDepth 100000 in
theorem c_X12_force (l : Launch) (X : zq_X) (zk zn : Nat) (I : zq_M) (L : zq_L X)  (h0 : Nat) (k_h0 : zq_k X h0 = 10) (p1 : Int32) (q_0 : zk ≤ 4400 ∧ zn ≤ 4400) : Met l yX12_force (zt_w yX12_force cX12_force 3 (some .int)) (zq_rm (1)) (va_Pc [.ref h0, .int p1] (zq_W X (zk, zn) I)) (va_Qi (fun (r : Int32) I2 => zq_fr (zf X zw_X12_force (fun _ => False)) I I2 ∧ ((-2) ≤ r.toInt ∧ r.toInt ≤ 5)) (zq_E X (zk, zn)) (zq_A X)) 0 0 (zq_A X) := by
  refine Met.ofW (cc := cX12_force) (maxL := 3) (ret := (some .int)) (by decide) rfl ?_
  intro p e s m args below meth c s₁ B hml hv
  obtain ⟨hargs, hM, hZ⟩ := hv
  have hown : s.vm.findClass RX12 = some m.cls := findClass_of_methodNamed B.named
  have hts := atoms_spec (ws := zt_w yX12_force cX12_force 3 (some .int)) B.pre
  have E : CallFix p m c cX12_force 3 s args (Cond.code yX12_force cX12_force 3 (some .int) :: zt) RX12 := ⟨B.exec, B.bytes, hml, hown, hts⟩
  have hx := B.exec
  have hb := B.bytes
  have hr := B.returns
  have hlocks := B.notSynchronized
  clear B
  have hS : va_S (zq_A X) s.heap s.heap [] := va_S.rf
  have hR : zq_fr (zf X zw_X12_force (fun _ => False)) I I := zq_fr.rf
  have hl := lv_entry ([.ref h0, .int p1]) (n := 3) (by exact Nat.le_of_ble_eq_true rfl)
  have hg : entryFrame m args 3 = F0 m 0 ((lg_sl ([.ref h0, .int p1]) ++ List.replicate (3 - (lg_sl ([.ref h0, .int p1])).length) Slot.unset).toArray) [] := by rw [hargs]; exact lg_entry_eq m ([.ref h0, .int p1]) 3
  rw [hg]
  clear hg hargs
  generalize (lg_sl ([.ref h0, .int p1]) ++ List.replicate (3 - (lg_sl ([.ref h0, .int p1])).length) Slot.unset).toArray = ls at hl ⊢
  have hl : lv_has ls 3 [(0, .ref h0), (1, .int p1)] := by exact hl
  obtain ⟨R, hRm⟩ : ∃ R : Room, R = (headSpec (zt_w yX12_force cX12_force 3 (some .int)) (zq_rm (1))).room := ⟨_, rfl⟩
  rw [← hRm]
  have hro : ∀ d q : Nat, d + 1 ≤ 1 → q ≤ 45 → zq_rok d q R := fun d q h1 h2 => by rw [hRm]; exact zq_rokI h1 h2
  generalize hQ : MQ below _ args s 0 0 (zq_A X) = Q
  obtain ⟨H, hH⟩ : ∃ H, H = s.heap := ⟨_, rfl⟩
  obtain ⟨locs, hlo⟩ : ∃ x : List Loc, x = [] := ⟨_, rfl⟩
  rw [show W p l e R s m args below meth c s.heap [] 0 0 Q = W p l e R s m args below meth c H locs 0 0 Q by rw [hH, hlo]]
  have hM : zq_hm X (zk, zn) I H := by rw [hH]; exact hM
  have hS : va_S (zq_A X) s.heap H locs := by rw [hH, hlo]; exact hS
  clear hH hlo
  refine lv_iload_n hx hb dX12_force_0 rfl (lv_at hl 1 rfl) ?_
  refine lv_iconst (v := (-1)) hx hb dX12_force_1 (by decide +kernel) ?_
  have J16 : ∀ (H : Heap) (locs : List Loc) (ls : Array Slot), (zq_hm X (zk, zn) I H) → (va_S (zq_A X) s.heap H locs) → ((-1) ≤ p1.toInt ∧ p1.toInt ≤ 5) → (lv_has ls 3 [(0, .ref h0), (1, .int p1)]) → W p l e R s m args below meth c H locs 0 0 Q (F0 m 16 ls []) := by
    intro H locs ls hM hS gm107 hl
    refine lv_aload_n hx hb dX12_force_16 rfl (lv_at hl 0 rfl) ?_
    refine zq_gn E hM k_h0 (zFX12_42 E hZ) (Or.inl ⟨by decide, by decide, by decide, rfl⟩) dX12_force_17 (fun x108 ex108 gx108 => ?_)
    replace gx108 : (-1) ≤ x108.toInt ∧ x108.toInt ≤ 5 := gx108
    refine lv_istore_n (lv' := [(2, .int x108), (0, .ref h0), (1, .int p1)]) hx hb dX12_force_20 rfl hl (by decide) rfl (fun ls hl => ?_)
    refine lv_aload_n hx hb dX12_force_21 rfl (lv_at hl 1 rfl) ?_
    refine lv_iload_n hx hb dX12_force_22 rfl (lv_at hl 2 rfl) ?_
    refine zq_pn E hM hS k_h0 (zGX12_42 E hZ) ⟨by decide, by decide, by decide, rfl⟩ (show (-1) ≤ p1.toInt ∧ p1.toInt ≤ 5 from ⟨by omega, by omega⟩) dX12_force_23 (fun I109 H locs eI109 hM hS => ?_)
    have hR := zq_fr.putE hR eI109 (zf_i k_h0 rfl rfl)
    refine lv_iload_n hx hb dX12_force_26 rfl (lv_at hl 0 rfl) ?_
    subst hQ
    exact zq_iret E hr hZ hM hS ⟨hR, (by omega)⟩ hlocks dX12_force_27
  refine lv_icmp_eq (tgt := 16) hx hb dX12_force_2 (by decide) (fun b110 => ?_) (fun b110 => ?_)
  · have b110 := zi_eq b110 (rfl : p1.toInt = p1.toInt) (zl_m1 : (-1 : Int32).toInt = (-1))
    exact J16 H locs ls hM hS (⟨by omega, by omega⟩) (lv_sub hl [0, 1] rfl)
  · have b110 := zi_ne b110 (rfl : p1.toInt = p1.toInt) (zl_m1 : (-1 : Int32).toInt = (-1))
    refine lv_aload_n hx hb dX12_force_5 rfl (lv_at hl 0 rfl) ?_
    refine lv_iload_n hx hb dX12_force_6 rfl (lv_at hl 1 rfl) ?_
    refine zq_pcalli (zq_rV (As := [.int p1]) (rest := []) E hZ hM k_h0 (c_X12_isRule l X zk (zn) I L h0 k_h0 p1 (by have := zi_rng p1; omega)) zmX12_285 zM_X12_isRule (hro (0) 2 (by first | decide | omega) (by decide)) ⟨by decide, by decide⟩ rfl hl.1 rfl rfl (Nat.le_of_ble_eq_true rfl) dX12_force_7) hS (fun x112 H locs h111 hM hS => ?_)
    obtain ⟨p113, p114⟩ := h111
    refine lv_if_ne (tgt := 16) hx hb dX12_force_10 (by decide) (fun b115 => ?_) (fun b115 => ?_)
    · have b115 := zi_ne b115 (rfl : x112.toInt = x112.toInt) (zl_0 : (0 : Int32).toInt = 0)
      exact J16 H locs ls hM hS (⟨by omega, by omega⟩) (lv_sub hl [0, 1] rfl)
    · have b115 := zi_eq b115 (rfl : x112.toInt = x112.toInt) (zl_0 : (0 : Int32).toInt = 0)
      refine lv_bipush (v := (-2)) hx hb dX12_force_13 (by decide +kernel) ?_
      subst hQ
      exact zq_iret E hr hZ hM hS ⟨hR, (by have := zl_m2; omega)⟩ hlocks dX12_force_15
set_option maxHeartbeats 8000000 in
set_option maxRecDepth 100000 in
theorem c_X12_ship (l : Launch) (X : zq_X) (zk zn : Nat) (I : zq_M) (L : zq_L X)  (h0 : Nat) (k_h0 : zq_k X h0 = 10) (p1 : Int32) (p2 : Int32) (q_0 : zk ≤ 4400 ∧ zn ≤ 4400) : Met l yX12_ship (zt_w yX12_ship cX12_ship 3 (some .int)) (zq_rm (1)) (va_Pc [.ref h0, .int p1, .int p2] (zq_W X (zk, zn) I)) (va_Qi (fun (r : Int32) I2 => I2 = I ∧ True) (zq_E X (zk, zn)) (zq_A X)) 0 0 (zq_A X) := by
  refine Met.ofW (cc := cX12_ship) (maxL := 3) (ret := (some .int)) (by decide) rfl ?_
  intro p e s m args below meth c s₁ B hml hv
  obtain ⟨hargs, hM, hZ⟩ := hv
  have hown : s.vm.findClass RX12 = some m.cls := findClass_of_methodNamed B.named
  have hts := atoms_spec (ws := zt_w yX12_ship cX12_ship 3 (some .int)) B.pre
  have E : CallFix p m c cX12_ship 3 s args (Cond.code yX12_ship cX12_ship 3 (some .int) :: zt) RX12 := ⟨B.exec, B.bytes, hml, hown, hts⟩
  have hx := B.exec
  have hb := B.bytes
  have hr := B.returns
  have hlocks := B.notSynchronized
  clear B
  have hS : va_S (zq_A X) s.heap s.heap [] := va_S.rf
  have hl := lv_entry ([.ref h0, .int p1, .int p2]) (n := 3) (by exact Nat.le_of_ble_eq_true rfl)
  have hg : entryFrame m args 3 = F0 m 0 ((lg_sl ([.ref h0, .int p1, .int p2]) ++ List.replicate (3 - (lg_sl ([.ref h0, .int p1, .int p2])).length) Slot.unset).toArray) [] := by rw [hargs]; exact lg_entry_eq m ([.ref h0, .int p1, .int p2]) 3
  rw [hg]
  clear hg hargs
  generalize (lg_sl ([.ref h0, .int p1, .int p2]) ++ List.replicate (3 - (lg_sl ([.ref h0, .int p1, .int p2])).length) Slot.unset).toArray = ls at hl ⊢
  have hl : lv_has ls 3 [(0, .ref h0), (1, .int p1), (2, .int p2)] := by exact hl
  obtain ⟨R, hRm⟩ : ∃ R : Room, R = (headSpec (zt_w yX12_ship cX12_ship 3 (some .int)) (zq_rm (1))).room := ⟨_, rfl⟩
  rw [← hRm]
  have hro : ∀ d q : Nat, d + 1 ≤ 1 → q ≤ 45 → zq_rok d q R := fun d q h1 h2 => by rw [hRm]; exact zq_rokI h1 h2
  generalize hQ : MQ below _ args s 0 0 (zq_A X) = Q
  obtain ⟨H, hH⟩ : ∃ H, H = s.heap := ⟨_, rfl⟩
  obtain ⟨locs, hlo⟩ : ∃ x : List Loc, x = [] := ⟨_, rfl⟩
  rw [show W p l e R s m args below meth c s.heap [] 0 0 Q = W p l e R s m args below meth c H locs 0 0 Q by rw [hH, hlo]]
  have hM : zq_hm X (zk, zn) I H := by rw [hH]; exact hM
  have hS : va_S (zq_A X) s.heap H locs := by rw [hH, hlo]; exact hS
  clear hH hlo
  refine lv_aload_n hx hb dX12_ship_0 rfl (lv_at hl 0 rfl) ?_
  refine lv_iload_n hx hb dX12_ship_1 rfl (lv_at hl 1 rfl) ?_
  refine zq_pcalli (zq_rV (As := [.int p1]) (rest := []) E hZ hM k_h0 (c_X12_isShip l X zk (zn) I L h0 k_h0 p1 (by have := zi_rng p1; omega)) zmX12_288 zM_X12_isShip (hro (0) 2 (by first | decide | omega) (by decide)) ⟨by decide, by decide⟩ rfl hl.1 rfl rfl (Nat.le_of_ble_eq_true rfl) dX12_ship_2) hS (fun x102 H locs h101 hM hS => ?_)
  obtain ⟨p103, p104⟩ := h101
  refine lv_if_eq (tgt := 20) hx hb dX12_ship_5 (by decide) (fun b105 => ?_) (fun b105 => ?_)
  · have b105 := zi_eq b105 (rfl : x102.toInt = x102.toInt) (zl_0 : (0 : Int32).toInt = 0)
    refine lv_bipush (v := (-2)) hx hb dX12_ship_20 (by decide +kernel) ?_
    subst hQ
    exact zq_iret E hr hZ hM hS ⟨rfl, trivial⟩ hlocks dX12_ship_22
  · have b105 := zi_ne b105 (rfl : x102.toInt = x102.toInt) (zl_0 : (0 : Int32).toInt = 0)
    refine lv_iload_n hx hb dX12_ship_8 rfl (lv_at hl 2 rfl) ?_
    refine lv_i2l hx hb dX12_ship_9 rfl ?_
    refine lv_topl (fun y106 ey106 => ?_)
    have ty106 := zi_i2l ey106
    have := zi_rng p2
    refine lv_lconst (v := 0) hx hb dX12_ship_10 (by decide +kernel) ?_
    refine W.ldc2 (v := 5) hx hb hown (hts _ (List.mem_cons_of_mem _ zCX12_291)) rfl dX12_ship_11 ?_
    refine W.eq (g2 := F0 m 14 ls [.long (5 : Int64), .long (0 : Int64), .long y106]) rfl ?_
    refine zq_pcalli (zq_rS (As := [.long y106, .long (0 : Int64), .long (5 : Int64)]) (rest := []) E hZ hM (c_X12_in l X zk (zn) I L y106 (0 : Int64) (5 : Int64)) zmX12_112 zM_X12_in (hro (0) 6 (by first | decide | omega) (by decide)) hl.1 rfl rfl (Nat.le_of_ble_eq_true rfl) dX12_ship_14) hS (fun x108 H locs h107 hM hS => ?_)
    obtain ⟨p109, p110⟩ := h107
    have : (0 : Int64).toInt = 0 := by decide +kernel
    have : (5 : Int64).toInt = 5 := by decide +kernel
    refine lv_if_ne (tgt := 23) hx hb dX12_ship_17 (by decide) (fun b111 => ?_) (fun b111 => ?_)
    · have b111 := zi_ne b111 (rfl : x108.toInt = x108.toInt) (zl_0 : (0 : Int32).toInt = 0)
      refine lv_iload_n hx hb dX12_ship_23 rfl (lv_at hl 2 rfl) ?_
      refine lv_if_ne (tgt := 35) hx hb dX12_ship_24 (by decide) (fun b112 => ?_) (fun b112 => ?_)
      · have b112 := zi_ne b112 (rfl : p2.toInt = p2.toInt) (zl_0 : (0 : Int32).toInt = 0)
        refine lv_iload_n hx hb dX12_ship_35 rfl (lv_at hl 2 rfl) ?_
        refine lv_iconst (v := 1) hx hb dX12_ship_36 (by decide +kernel) ?_
        refine lv_icmp_ne (tgt := 48) hx hb dX12_ship_37 (by decide) (fun b113 => ?_) (fun b113 => ?_)
        · have b113 := zi_ne b113 (rfl : p2.toInt = p2.toInt) (zl_1 : (1 : Int32).toInt = 1)
          refine lv_aload_n hx hb dX12_ship_48 rfl (lv_at hl 0 rfl) ?_
          refine lv_iload_n hx hb dX12_ship_49 rfl (lv_at hl 1 rfl) ?_
          refine lv_iload_n hx hb dX12_ship_50 rfl (lv_at hl 2 rfl) ?_
          refine lv_iconst (v := 2) hx hb dX12_ship_51 (by decide +kernel) ?_
          refine lv_isub hx hb dX12_ship_52 ?_
          refine lv_topi (fun x114 ex114 => ?_)
          have tx114 := zi_sub ex114 (rfl : p2.toInt = p2.toInt) (zl_2 : (2 : Int32).toInt = 2) ⟨by omega, by omega⟩
          refine zq_pcalli (zq_rV (As := [.int p1, .int x114]) (rest := []) E hZ hM k_h0 (c_X12_shipOf l X zk (zn) I L h0 k_h0 p1 x114 ⟨by omega, by omega⟩ ⟨by omega, by omega⟩ (by omega)) zmX12_281 zM_X12_shipOf (hro (0) 3 (by first | decide | omega) (by decide)) ⟨by decide, by decide⟩ rfl hl.1 rfl rfl (Nat.le_of_ble_eq_true rfl) dX12_ship_53) hS (fun x116 H locs h115 hM hS => ?_)
          obtain ⟨p117, p118⟩ := h115
          subst hQ
          exact zq_iret E hr hZ hM hS ⟨rfl, trivial⟩ hlocks dX12_ship_56
        · have b113 := zi_eq b113 (rfl : p2.toInt = p2.toInt) (zl_1 : (1 : Int32).toInt = 1)
          refine lv_aload_n hx hb dX12_ship_40 rfl (lv_at hl 0 rfl) ?_
          refine lv_iload_n hx hb dX12_ship_41 rfl (lv_at hl 1 rfl) ?_
          refine zq_pcalli (zq_rV (As := [.int p1]) (rest := []) E hZ hM k_h0 (c_X12_costOf l X zk (zn) I L h0 k_h0 p1 ⟨by omega, by omega⟩ (by omega)) zmX12_296 zM_X12_costOf (hro (0) 2 (by first | decide | omega) (by decide)) ⟨by decide, by decide⟩ rfl hl.1 rfl rfl (Nat.le_of_ble_eq_true rfl) dX12_ship_42) hS (fun x120 H locs h119 hM hS => ?_)
          clear h119
          refine lv_goto (tgt := 56) hx hb dX12_ship_45 (by decide) ?_
          subst hQ
          exact zq_iret E hr hZ hM hS ⟨rfl, trivial⟩ hlocks dX12_ship_56
      · have b112 := zi_eq b112 (rfl : p2.toInt = p2.toInt) (zl_0 : (0 : Int32).toInt = 0)
        refine lv_aload_n hx hb dX12_ship_27 rfl (lv_at hl 0 rfl) ?_
        refine lv_iload_n hx hb dX12_ship_28 rfl (lv_at hl 1 rfl) ?_
        refine zq_pcalli (zq_rV (As := [.int p1]) (rest := []) E hZ hM k_h0 (c_X12_holdOf l X zk (zn) I L h0 k_h0 p1 ⟨by omega, by omega⟩ (by omega)) zmX12_293 zM_X12_holdOf (hro (0) 2 (by first | decide | omega) (by decide)) ⟨by decide, by decide⟩ rfl hl.1 rfl rfl (Nat.le_of_ble_eq_true rfl) dX12_ship_29) hS (fun x122 H locs h121 hM hS => ?_)
        have p123 := h121
        refine lv_goto (tgt := 56) hx hb dX12_ship_32 (by decide) ?_
        subst hQ
        exact zq_iret E hr hZ hM hS ⟨rfl, trivial⟩ hlocks dX12_ship_56
    · have b111 := zi_eq b111 (rfl : x108.toInt = x108.toInt) (zl_0 : (0 : Int32).toInt = 0)
      refine lv_bipush (v := (-2)) hx hb dX12_ship_20 (by decide +kernel) ?_
      subst hQ
      exact zq_iret E hr hZ hM hS ⟨rfl, trivial⟩ hlocks dX12_ship_22
set_option maxHeartbeats 8000000 in
set_option maxRecDepth 100000 in
theorem c_X12_town (l : Launch) (X : zq_X) (zk zn : Nat) (I : zq_M) (L : zq_L X)  (h0 : Nat) (k_h0 : zq_k X h0 = 10) (p1 : Int32) (p2 : Int32) (q_0 : zk ≤ 4400 ∧ zn ≤ 4400) : Met l yX12_town (zt_w yX12_town cX12_town 3 (some .int)) (zq_rm (2)) (va_Pc [.ref h0, .int p1, .int p2] (zq_W X (zk, zn) I)) (va_Qi (fun (r : Int32) I2 => I2 = I ∧ True) (zq_E X (zk, zn)) (zq_A X)) 0 0 (zq_A X) := by
  refine Met.ofW (cc := cX12_town) (maxL := 3) (ret := (some .int)) (by decide) rfl ?_
  intro p e s m args below meth c s₁ B hml hv
  obtain ⟨hargs, hM, hZ⟩ := hv
  have hown : s.vm.findClass RX12 = some m.cls := findClass_of_methodNamed B.named
  have hts := atoms_spec (ws := zt_w yX12_town cX12_town 3 (some .int)) B.pre
  have E : CallFix p m c cX12_town 3 s args (Cond.code yX12_town cX12_town 3 (some .int) :: zt) RX12 := ⟨B.exec, B.bytes, hml, hown, hts⟩
  have hx := B.exec
  have hb := B.bytes
  have hr := B.returns
  have hlocks := B.notSynchronized
  clear B
  have hS : va_S (zq_A X) s.heap s.heap [] := va_S.rf
  have hl := lv_entry ([.ref h0, .int p1, .int p2]) (n := 3) (by exact Nat.le_of_ble_eq_true rfl)
  have hg : entryFrame m args 3 = F0 m 0 ((lg_sl ([.ref h0, .int p1, .int p2]) ++ List.replicate (3 - (lg_sl ([.ref h0, .int p1, .int p2])).length) Slot.unset).toArray) [] := by rw [hargs]; exact lg_entry_eq m ([.ref h0, .int p1, .int p2]) 3
  rw [hg]
  clear hg hargs
  generalize (lg_sl ([.ref h0, .int p1, .int p2]) ++ List.replicate (3 - (lg_sl ([.ref h0, .int p1, .int p2])).length) Slot.unset).toArray = ls at hl ⊢
  have hl : lv_has ls 3 [(0, .ref h0), (1, .int p1), (2, .int p2)] := by exact hl
  obtain ⟨R, hRm⟩ : ∃ R : Room, R = (headSpec (zt_w yX12_town cX12_town 3 (some .int)) (zq_rm (2))).room := ⟨_, rfl⟩
  rw [← hRm]
  have hro : ∀ d q : Nat, d + 1 ≤ 2 → q ≤ 45 → zq_rok d q R := fun d q h1 h2 => by rw [hRm]; exact zq_rokI h1 h2
  generalize hQ : MQ below _ args s 0 0 (zq_A X) = Q
  obtain ⟨H, hH⟩ : ∃ H, H = s.heap := ⟨_, rfl⟩
  obtain ⟨locs, hlo⟩ : ∃ x : List Loc, x = [] := ⟨_, rfl⟩
  rw [show W p l e R s m args below meth c s.heap [] 0 0 Q = W p l e R s m args below meth c H locs 0 0 Q by rw [hH, hlo]]
  have hM : zq_hm X (zk, zn) I H := by rw [hH]; exact hM
  have hS : va_S (zq_A X) s.heap H locs := by rw [hH, hlo]; exact hS
  clear hH hlo
  refine lv_aload_n hx hb dX12_town_0 rfl (lv_at hl 0 rfl) ?_
  refine lv_iload_n hx hb dX12_town_1 rfl (lv_at hl 1 rfl) ?_
  refine zq_pcalli (zq_rV (As := [.int p1]) (rest := []) E hZ hM k_h0 (c_X12_isTown l X zk (zn) I L h0 k_h0 p1 (by have := zi_rng p1; omega)) zmX12_299 zM_X12_isTown (hro (0) 2 (by first | decide | omega) (by decide)) ⟨by decide, by decide⟩ rfl hl.1 rfl rfl (Nat.le_of_ble_eq_true rfl) dX12_town_2) hS (fun x102 H locs h101 hM hS => ?_)
  obtain ⟨p103, p104⟩ := h101
  refine lv_if_ne (tgt := 10) hx hb dX12_town_5 (by decide) (fun b105 => ?_) (fun b105 => ?_)
  · have b105 := zi_ne b105 (rfl : x102.toInt = x102.toInt) (zl_0 : (0 : Int32).toInt = 0)
    refine lv_iload_n hx hb dX12_town_10 rfl (lv_at hl 2 rfl) ?_
    by_cases c106 : p2.toInt < 0 ∨ 7 < p2.toInt
    · refine lv_tableOut (tgt := 90) hx hb dX12_town_11 c106 (by decide) ?_
      refine lv_iconst (v := (-1)) hx hb dX12_town_90 (by decide +kernel) ?_
      subst hQ
      exact zq_iret E hr hZ hM hS ⟨rfl, trivial⟩ hlocks dX12_town_91
    · have c106 : p2.toInt = 0 ∨ p2.toInt = 1 ∨ p2.toInt = 2 ∨ p2.toInt = 3 ∨ p2.toInt = 4 ∨ p2.toInt = 5 ∨ p2.toInt = 6 ∨ p2.toInt = 7 := by omega
      rcases c106 with c106 | c106 | c106 | c106 | c106 | c106 | c106 | c106
      · refine lv_tableIn (tgt := 56) hx hb dX12_town_11 (by omega) (by omega) (by rw [c106]; rfl) (by decide) ?_
        refine lv_aload_n hx hb dX12_town_56 rfl (lv_at hl 0 rfl) ?_
        refine lv_iload_n hx hb dX12_town_57 rfl (lv_at hl 1 rfl) ?_
        refine zq_pcalli (zq_rV (As := [.int p1]) (rest := []) E hZ hM k_h0 (c_X12_monthsTo l X zk (zn) I L h0 k_h0 p1 ⟨by omega, by omega⟩ (by omega)) zmX12_302 zM_X12_monthsTo (hro (0) 2 (by first | decide | omega) (by decide)) ⟨by decide, by decide⟩ rfl hl.1 rfl rfl (Nat.le_of_ble_eq_true rfl) dX12_town_58) hS (fun x108 H locs h107 hM hS => ?_)
        have p109 := h107
        subst hQ
        exact zq_iret E hr hZ hM hS ⟨rfl, trivial⟩ hlocks dX12_town_61
      · refine lv_tableIn (tgt := 62) hx hb dX12_town_11 (by omega) (by omega) (by rw [c106]; rfl) (by decide) ?_
        refine lv_aload_n hx hb dX12_town_62 rfl (lv_at hl 0 rfl) ?_
        refine lv_iload_n hx hb dX12_town_63 rfl (lv_at hl 1 rfl) ?_
        refine zq_pcalli (zq_rV (As := [.int p1]) (rest := []) E hZ hM k_h0 (c_X12_heatOf l X zk (zn) I L h0 k_h0 p1 ⟨by omega, by omega⟩ (by omega)) zmX12_305 zM_X12_heatOf (hro (0) 2 (by first | decide | omega) (by decide)) ⟨by decide, by decide⟩ rfl hl.1 rfl rfl (Nat.le_of_ble_eq_true rfl) dX12_town_64) hS (fun x111 H locs h110 hM hS => ?_)
        have p112 := h110
        subst hQ
        exact zq_iret E hr hZ hM hS ⟨rfl, trivial⟩ hlocks dX12_town_67
      · refine lv_tableIn (tgt := 68) hx hb dX12_town_11 (by omega) (by omega) (by rw [c106]; rfl) (by decide) ?_
        refine lv_aload_n hx hb dX12_town_68 rfl (lv_at hl 0 rfl) ?_
        refine lv_iload_n hx hb dX12_town_69 rfl (lv_at hl 1 rfl) ?_
        refine lv_iload_n hx hb dX12_town_70 rfl (lv_at hl 2 rfl) ?_
        refine lv_iconst (v := 2) hx hb dX12_town_71 (by decide +kernel) ?_
        refine lv_isub hx hb dX12_town_72 ?_
        refine lv_topi (fun x113 ex113 => ?_)
        have tx113 := zi_sub ex113 (rfl : p2.toInt = p2.toInt) (zl_2 : (2 : Int32).toInt = 2) ⟨by omega, by omega⟩
        refine zq_pcalli (zq_rV (As := [.int p1, .int x113]) (rest := []) E hZ hM k_h0 (c_X12_townOf l X zk (zn) I L h0 k_h0 p1 x113 ⟨by omega, by omega⟩ ⟨by omega, by omega⟩ (by omega)) zmX12_308 zM_X12_townOf (hro (0) 3 (by first | decide | omega) (by decide)) ⟨by decide, by decide⟩ rfl hl.1 rfl rfl (Nat.le_of_ble_eq_true rfl) dX12_town_73) hS (fun x115 H locs h114 hM hS => ?_)
        obtain ⟨p116, p117, p118, p119⟩ := h114
        subst hQ
        exact zq_iret E hr hZ hM hS ⟨rfl, trivial⟩ hlocks dX12_town_76
      · refine lv_tableIn (tgt := 68) hx hb dX12_town_11 (by omega) (by omega) (by rw [c106]; rfl) (by decide) ?_
        refine lv_aload_n hx hb dX12_town_68 rfl (lv_at hl 0 rfl) ?_
        refine lv_iload_n hx hb dX12_town_69 rfl (lv_at hl 1 rfl) ?_
        refine lv_iload_n hx hb dX12_town_70 rfl (lv_at hl 2 rfl) ?_
        refine lv_iconst (v := 2) hx hb dX12_town_71 (by decide +kernel) ?_
        refine lv_isub hx hb dX12_town_72 ?_
        refine lv_topi (fun x120 ex120 => ?_)
        have tx120 := zi_sub ex120 (rfl : p2.toInt = p2.toInt) (zl_2 : (2 : Int32).toInt = 2) ⟨by omega, by omega⟩
        refine zq_pcalli (zq_rV (As := [.int p1, .int x120]) (rest := []) E hZ hM k_h0 (c_X12_townOf l X zk (zn) I L h0 k_h0 p1 x120 ⟨by omega, by omega⟩ ⟨by omega, by omega⟩ (by omega)) zmX12_308 zM_X12_townOf (hro (0) 3 (by first | decide | omega) (by decide)) ⟨by decide, by decide⟩ rfl hl.1 rfl rfl (Nat.le_of_ble_eq_true rfl) dX12_town_73) hS (fun x122 H locs h121 hM hS => ?_)
        obtain ⟨p123, p124, p125, p126⟩ := h121
        subst hQ
        exact zq_iret E hr hZ hM hS ⟨rfl, trivial⟩ hlocks dX12_town_76
      · refine lv_tableIn (tgt := 68) hx hb dX12_town_11 (by omega) (by omega) (by rw [c106]; rfl) (by decide) ?_
        refine lv_aload_n hx hb dX12_town_68 rfl (lv_at hl 0 rfl) ?_
        refine lv_iload_n hx hb dX12_town_69 rfl (lv_at hl 1 rfl) ?_
        refine lv_iload_n hx hb dX12_town_70 rfl (lv_at hl 2 rfl) ?_
        refine lv_iconst (v := 2) hx hb dX12_town_71 (by decide +kernel) ?_
        refine lv_isub hx hb dX12_town_72 ?_
        refine lv_topi (fun x127 ex127 => ?_)
        have tx127 := zi_sub ex127 (rfl : p2.toInt = p2.toInt) (zl_2 : (2 : Int32).toInt = 2) ⟨by omega, by omega⟩
        refine zq_pcalli (zq_rV (As := [.int p1, .int x127]) (rest := []) E hZ hM k_h0 (c_X12_townOf l X zk (zn) I L h0 k_h0 p1 x127 ⟨by omega, by omega⟩ ⟨by omega, by omega⟩ (by omega)) zmX12_308 zM_X12_townOf (hro (0) 3 (by first | decide | omega) (by decide)) ⟨by decide, by decide⟩ rfl hl.1 rfl rfl (Nat.le_of_ble_eq_true rfl) dX12_town_73) hS (fun x129 H locs h128 hM hS => ?_)
        obtain ⟨p130, p131, p132, p133⟩ := h128
        subst hQ
        exact zq_iret E hr hZ hM hS ⟨rfl, trivial⟩ hlocks dX12_town_76
      · refine lv_tableIn (tgt := 68) hx hb dX12_town_11 (by omega) (by omega) (by rw [c106]; rfl) (by decide) ?_
        refine lv_aload_n hx hb dX12_town_68 rfl (lv_at hl 0 rfl) ?_
        refine lv_iload_n hx hb dX12_town_69 rfl (lv_at hl 1 rfl) ?_
        refine lv_iload_n hx hb dX12_town_70 rfl (lv_at hl 2 rfl) ?_
        refine lv_iconst (v := 2) hx hb dX12_town_71 (by decide +kernel) ?_
        refine lv_isub hx hb dX12_town_72 ?_
        refine lv_topi (fun x134 ex134 => ?_)
        have tx134 := zi_sub ex134 (rfl : p2.toInt = p2.toInt) (zl_2 : (2 : Int32).toInt = 2) ⟨by omega, by omega⟩
        refine zq_pcalli (zq_rV (As := [.int p1, .int x134]) (rest := []) E hZ hM k_h0 (c_X12_townOf l X zk (zn) I L h0 k_h0 p1 x134 ⟨by omega, by omega⟩ ⟨by omega, by omega⟩ (by omega)) zmX12_308 zM_X12_townOf (hro (0) 3 (by first | decide | omega) (by decide)) ⟨by decide, by decide⟩ rfl hl.1 rfl rfl (Nat.le_of_ble_eq_true rfl) dX12_town_73) hS (fun x136 H locs h135 hM hS => ?_)
        obtain ⟨p137, p138, p139, p140⟩ := h135
        subst hQ
        exact zq_iret E hr hZ hM hS ⟨rfl, trivial⟩ hlocks dX12_town_76
      · refine lv_tableIn (tgt := 77) hx hb dX12_town_11 (by omega) (by omega) (by rw [c106]; rfl) (by decide) ?_
        refine lv_aload_n hx hb dX12_town_77 rfl (lv_at hl 0 rfl) ?_
        refine lv_iload_n hx hb dX12_town_78 rfl (lv_at hl 1 rfl) ?_
        refine zq_pcalli (zq_rV (As := [.int p1]) (rest := []) E hZ hM k_h0 (c_X12_coming l X zk (zn) I L h0 k_h0 p1 (by omega)) zmX12_311 zM_X12_coming (hro (1) 4 (by first | decide | omega) (by decide)) ⟨by decide, by decide⟩ rfl hl.1 rfl rfl (Nat.le_of_ble_eq_true rfl) dX12_town_79) hS (fun x142 H locs h141 hM hS => ?_)
        clear h141
        subst hQ
        exact zq_iret E hr hZ hM hS ⟨rfl, trivial⟩ hlocks dX12_town_82
      · refine lv_tableIn (tgt := 83) hx hb dX12_town_11 (by omega) (by omega) (by rw [c106]; rfl) (by decide) ?_
        refine lv_aload_n hx hb dX12_town_83 rfl (lv_at hl 0 rfl) ?_
        refine lv_iload_n hx hb dX12_town_84 rfl (lv_at hl 1 rfl) ?_
        refine lv_iconst (v := 4) hx hb dX12_town_85 (by decide +kernel) ?_
        refine zq_pcalli (zq_rV (As := [.int p1, .int (4 : Int32)]) (rest := []) E hZ hM k_h0 (c_X12_townOf l X zk (zn) I L h0 k_h0 p1 (4 : Int32) ⟨by omega, by omega⟩ (by rw [zl_4]; decide) (by have := zl_4; omega)) zmX12_308 zM_X12_townOf (hro (0) 3 (by first | decide | omega) (by decide)) ⟨by decide, by decide⟩ rfl hl.1 rfl rfl (Nat.le_of_ble_eq_true rfl) dX12_town_86) hS (fun x144 H locs h143 hM hS => ?_)
        obtain ⟨p145, p146, p147, p148⟩ := h143
        have := zl_4
        subst hQ
        exact zq_iret E hr hZ hM hS ⟨rfl, trivial⟩ hlocks dX12_town_89
  · have b105 := zi_eq b105 (rfl : x102.toInt = x102.toInt) (zl_0 : (0 : Int32).toInt = 0)
    refine lv_iconst (v := (-1)) hx hb dX12_town_8 (by decide +kernel) ?_
    subst hQ
    exact zq_iret E hr hZ hM hS ⟨rfl, trivial⟩ hlocks dX12_town_9
set_option maxHeartbeats 8000000 in
set_option maxRecDepth 100000 in
theorem c_X12_atSea (l : Launch) (X : zq_X) (zk zn : Nat) (I : zq_M) (L : zq_L X)  (h0 : Nat) (k_h0 : zq_k X h0 = 10) (p1 : Int32) (p2 : Int32) (p3 : Int32) (g_p1 : 0 ≤ p1.toInt ∧ p1.toInt ≤ 1000000) (g_p2 : 0 ≤ p2.toInt ∧ p2.toInt ≤ 3) (g_p3 : 0 ≤ p3.toInt ∧ p3.toInt ≤ 1) (q_0 : zk ≤ 4400 ∧ zn ≤ 4400) : Met l yX12_atSea (zt_w yX12_atSea cX12_atSea 4 (some .int)) (zq_rm (1)) (va_Pc [.ref h0, .int p1, .int p2, .int p3] (zq_W X (zk, zn) I)) (va_Qi (fun (r : Int32) I2 => I2 = I ∧ (0 ≤ r.toInt ∧ r.toInt ≤ p1.toInt) ∧ (0 ≤ r.toInt ∧ r.toInt ≤ 1000000)) (zq_E X (zk, zn)) (zq_A X)) 0 0 (zq_A X) := by
  refine Met.ofW (cc := cX12_atSea) (maxL := 4) (ret := (some .int)) (by decide) rfl ?_
  intro p e s m args below meth c s₁ B hml hv
  obtain ⟨hargs, hM, hZ⟩ := hv
  have hown : s.vm.findClass RX12 = some m.cls := findClass_of_methodNamed B.named
  have hts := atoms_spec (ws := zt_w yX12_atSea cX12_atSea 4 (some .int)) B.pre
  have E : CallFix p m c cX12_atSea 4 s args (Cond.code yX12_atSea cX12_atSea 4 (some .int) :: zt) RX12 := ⟨B.exec, B.bytes, hml, hown, hts⟩
  have hx := B.exec
  have hb := B.bytes
  have hr := B.returns
  have hlocks := B.notSynchronized
  clear B
  have hS : va_S (zq_A X) s.heap s.heap [] := va_S.rf
  have hl := lv_entry ([.ref h0, .int p1, .int p2, .int p3]) (n := 4) (by exact Nat.le_of_ble_eq_true rfl)
  have hg : entryFrame m args 4 = F0 m 0 ((lg_sl ([.ref h0, .int p1, .int p2, .int p3]) ++ List.replicate (4 - (lg_sl ([.ref h0, .int p1, .int p2, .int p3])).length) Slot.unset).toArray) [] := by rw [hargs]; exact lg_entry_eq m ([.ref h0, .int p1, .int p2, .int p3]) 4
  rw [hg]
  clear hg hargs
  generalize (lg_sl ([.ref h0, .int p1, .int p2, .int p3]) ++ List.replicate (4 - (lg_sl ([.ref h0, .int p1, .int p2, .int p3])).length) Slot.unset).toArray = ls at hl ⊢
  have hl : lv_has ls 4 [(0, .ref h0), (1, .int p1), (2, .int p2), (3, .int p3)] := by exact hl
  obtain ⟨R, hRm⟩ : ∃ R : Room, R = (headSpec (zt_w yX12_atSea cX12_atSea 4 (some .int)) (zq_rm (1))).room := ⟨_, rfl⟩
  rw [← hRm]
  have hro : ∀ d q : Nat, d + 1 ≤ 1 → q ≤ 45 → zq_rok d q R := fun d q h1 h2 => by rw [hRm]; exact zq_rokI h1 h2
  generalize hQ : MQ below _ args s 0 0 (zq_A X) = Q
  obtain ⟨H, hH⟩ : ∃ H, H = s.heap := ⟨_, rfl⟩
  obtain ⟨locs, hlo⟩ : ∃ x : List Loc, x = [] := ⟨_, rfl⟩
  rw [show W p l e R s m args below meth c s.heap [] 0 0 Q = W p l e R s m args below meth c H locs 0 0 Q by rw [hH, hlo]]
  have hM : zq_hm X (zk, zn) I H := by rw [hH]; exact hM
  have hS : va_S (zq_A X) s.heap H locs := by rw [hH, hlo]; exact hS
  clear hH hlo
  refine lv_iload_n hx hb dX12_atSea_0 rfl (lv_at hl 1 rfl) ?_
  refine lv_iload_n hx hb dX12_atSea_1 rfl (lv_at hl 3 rfl) ?_
  have J20 : ∀ (H : Heap) (locs : List Loc) (ls : Array Slot) (j108 : Int32), (zq_hm X (zk, zn) I H) → (va_S (zq_A X) s.heap H locs) → (0 ≤ j108.toInt ∧ j108.toInt ≤ 60) → (lv_has ls 4 [(0, .ref h0), (1, .int p1), (2, .int p2), (3, .int p3)]) → W p l e R s m args below meth c H locs 0 0 Q (F0 m 20 ls [.int j108, .int p1]) := by
    intro H locs ls j108 hM hS gj108 hl
    refine zq_pcalli (zq_rS (As := [.int p1, .int j108]) (rest := []) E hZ hM (c_X12_melted l X zk (zn) I L p1 j108) zmX12_314 zM_X12_melted (hro (0) 2 (by first | decide | omega) (by decide)) hl.1 rfl rfl (Nat.le_of_ble_eq_true rfl) dX12_atSea_20) hS (fun x113 H locs h112 hM hS => ?_)
    have p114 := h112
    subst hQ
    exact zq_iret E hr hZ hM hS ⟨rfl, (by omega), (by omega)⟩ hlocks dX12_atSea_23
  refine lv_if_eq (tgt := 15) hx hb dX12_atSea_2 (by decide) (fun b115 => ?_) (fun b115 => ?_)
  · have b115 := zi_eq b115 (rfl : p3.toInt = p3.toInt) (zl_0 : (0 : Int32).toInt = 0)
    refine lv_aload_n hx hb dX12_atSea_15 rfl (lv_at hl 0 rfl) ?_
    refine lv_iload_n hx hb dX12_atSea_16 rfl (lv_at hl 2 rfl) ?_
    refine zq_pcalli (zq_rV (As := [.int p2]) (rest := [.int p1]) E hZ hM k_h0 (c_X12_heatOf l X zk (zn) I L h0 k_h0 p2 ⟨by omega, by omega⟩ (by omega)) zmX12_305 zM_X12_heatOf (hro (0) 2 (by first | decide | omega) (by decide)) ⟨by decide, by decide⟩ rfl hl.1 rfl rfl (Nat.le_of_ble_eq_true rfl) dX12_atSea_17) hS (fun x117 H locs h116 hM hS => ?_)
    have p118 := h116
    exact J20 H locs ls x117 hM hS (⟨by omega, by omega⟩) (lv_sub hl [0, 1, 2, 3] rfl)
  · have b115 := zi_ne b115 (rfl : p3.toInt = p3.toInt) (zl_0 : (0 : Int32).toInt = 0)
    refine lv_aload_n hx hb dX12_atSea_5 rfl (lv_at hl 0 rfl) ?_
    refine lv_iload_n hx hb dX12_atSea_6 rfl (lv_at hl 2 rfl) ?_
    refine zq_pcalli (zq_rV (As := [.int p2]) (rest := [.int p1]) E hZ hM k_h0 (c_X12_heatOf l X zk (zn) I L h0 k_h0 p2 ⟨by omega, by omega⟩ (by omega)) zmX12_305 zM_X12_heatOf (hro (0) 2 (by first | decide | omega) (by decide)) ⟨by decide, by decide⟩ rfl hl.1 rfl rfl (Nat.le_of_ble_eq_true rfl) dX12_atSea_7) hS (fun x120 H locs h119 hM hS => ?_)
    have p121 := h119
    refine lv_iconst (v := 4) hx hb dX12_atSea_10 (by decide +kernel) ?_
    refine lv_idiv hx hb dX12_atSea_11 (by decide +kernel) ?_
    refine lv_topi (fun x122 ex122 => ?_)
    have tx122 := zi_divn ex122 (rfl : x120.toInt = x120.toInt) (zl_4 : (4 : Int32).toInt = 4) (by omega) (by omega)
    refine lv_goto (tgt := 20) hx hb dX12_atSea_12 (by decide) ?_
    exact J20 H locs ls x122 hM hS (⟨by omega, by omega⟩) (lv_sub hl [0, 1, 2, 3] rfl)
set_option maxHeartbeats 8000000 in
set_option maxRecDepth 100000 in
theorem c_X12_words (l : Launch) (X : zq_X) (zk zn : Nat) (I : zq_M) (L : zq_L X)  (h0 : Nat) (k_h0 : zq_k X h0 = 10) (p1 : Int32) (p2 : Int32) (g_p1 : 0 ≤ p1.toInt ∧ p1.toInt ≤ 2) (g_p2 : 0 ≤ p2.toInt ∧ p2.toInt ≤ 3) (q_0 : zk ≤ 4400 ∧ zn ≤ 4400) : Met l yX12_words (zt_w yX12_words cX12_words 3 none) (zq_rm (2)) (va_Pc [.ref h0, .int p1, .int p2] (zq_W X (zk, zn) I)) (va_Qv (fun I2 => I2 = I ∧ True) (zq_E X (zk, zn)) (zq_A X)) 0 0 (zq_A X) := by
  refine Met.ofW (cc := cX12_words) (maxL := 3) (ret := none) (by decide) rfl ?_
  intro p e s m args below meth c s₁ B hml hv
  obtain ⟨hargs, hM, hZ⟩ := hv
  have hown : s.vm.findClass RX12 = some m.cls := findClass_of_methodNamed B.named
  have hts := atoms_spec (ws := zt_w yX12_words cX12_words 3 none) B.pre
  have E : CallFix p m c cX12_words 3 s args (Cond.code yX12_words cX12_words 3 none :: zt) RX12 := ⟨B.exec, B.bytes, hml, hown, hts⟩
  have hx := B.exec
  have hb := B.bytes
  have hr := B.returns
  have hlocks := B.notSynchronized
  clear B
  have hS : va_S (zq_A X) s.heap s.heap [] := va_S.rf
  have hl := lv_entry ([.ref h0, .int p1, .int p2]) (n := 3) (by exact Nat.le_of_ble_eq_true rfl)
  have hg : entryFrame m args 3 = F0 m 0 ((lg_sl ([.ref h0, .int p1, .int p2]) ++ List.replicate (3 - (lg_sl ([.ref h0, .int p1, .int p2])).length) Slot.unset).toArray) [] := by rw [hargs]; exact lg_entry_eq m ([.ref h0, .int p1, .int p2]) 3
  rw [hg]
  clear hg hargs
  generalize (lg_sl ([.ref h0, .int p1, .int p2]) ++ List.replicate (3 - (lg_sl ([.ref h0, .int p1, .int p2])).length) Slot.unset).toArray = ls at hl ⊢
  have hl : lv_has ls 3 [(0, .ref h0), (1, .int p1), (2, .int p2)] := by exact hl
  obtain ⟨R, hRm⟩ : ∃ R : Room, R = (headSpec (zt_w yX12_words cX12_words 3 none) (zq_rm (2))).room := ⟨_, rfl⟩
  rw [← hRm]
  have hro : ∀ d q : Nat, d + 1 ≤ 2 → q ≤ 45 → zq_rok d q R := fun d q h1 h2 => by rw [hRm]; exact zq_rokI h1 h2
  generalize hQ : MQ below _ args s 0 0 (zq_A X) = Q
  obtain ⟨H, hH⟩ : ∃ H, H = s.heap := ⟨_, rfl⟩
  obtain ⟨locs, hlo⟩ : ∃ x : List Loc, x = [] := ⟨_, rfl⟩
  rw [show W p l e R s m args below meth c s.heap [] 0 0 Q = W p l e R s m args below meth c H locs 0 0 Q by rw [hH, hlo]]
  have hM : zq_hm X (zk, zn) I H := by rw [hH]; exact hM
  have hS : va_S (zq_A X) s.heap H locs := by rw [hH, hlo]; exact hS
  clear hH hlo
  refine lv_aload_n hx hb dX12_words_0 rfl (lv_at hl 0 rfl) ?_
  refine zq_getr E hM k_h0 (zFX12_36 E hZ) ⟨by decide, by decide, by decide, rfl⟩ dX12_words_1 ?_
  have k101 : zq_k X (zq_r X h0 19) = 58 := zq_lk L.1 k_h0 rfl (by decide)
  refine lv_iconst (v := 0) hx hb dX12_words_4 (by decide +kernel) ?_
  refine lv_iload_n hx hb dX12_words_5 rfl (lv_at hl 1 rfl) ?_
  refine lv_i2l hx hb dX12_words_6 rfl ?_
  refine lv_topl (fun y102 ey102 => ?_)
  have ty102 := zi_i2l ey102
  refine zq_last (n := 13) E hZ hM hS k101 ⟨by decide, rfl⟩ (by rw [zl_0]; decide) dX12_words_7 (fun H locs hM hS => ?_)
  refine lv_aload_n hx hb dX12_words_8 rfl (lv_at hl 0 rfl) ?_
  refine zq_getr E hM k_h0 (zFX12_36 E hZ) ⟨by decide, by decide, by decide, rfl⟩ dX12_words_9 ?_
  have k103 : zq_k X (zq_r X h0 19) = 58 := zq_lk L.1 k_h0 rfl (by decide)
  refine lv_iconst (v := 1) hx hb dX12_words_12 (by decide +kernel) ?_
  refine W.eq (g2 := F0 m 13 ls [.int (1 : Int32), .ref (zq_r X h0 19)]) rfl ?_
  refine lv_iload_n hx hb dX12_words_13 rfl (lv_at hl 2 rfl) ?_
  refine lv_i2l hx hb dX12_words_14 rfl ?_
  refine lv_topl (fun y104 ey104 => ?_)
  have ty104 := zi_i2l ey104
  refine zq_last (n := 13) E hZ hM hS k103 ⟨by decide, rfl⟩ (by rw [zl_1]; decide) dX12_words_15 (fun H locs hM hS => ?_)
  refine lv_aload_n hx hb dX12_words_16 rfl (lv_at hl 0 rfl) ?_
  refine zq_getr E hM k_h0 (zFX12_36 E hZ) ⟨by decide, by decide, by decide, rfl⟩ dX12_words_17 ?_
  have k105 : zq_k X (zq_r X h0 19) = 58 := zq_lk L.1 k_h0 rfl (by decide)
  refine lv_iconst (v := 2) hx hb dX12_words_20 (by decide +kernel) ?_
  refine lv_aload_n hx hb dX12_words_21 rfl (lv_at hl 0 rfl) ?_
  refine lv_iload_n hx hb dX12_words_22 rfl (lv_at hl 2 rfl) ?_
  refine zq_pcalli (zq_rV (As := [.int p2]) (rest := [.int (2 : Int32), .ref (zq_r X h0 19)]) E hZ hM k_h0 (c_X12_monthsTo l X zk (zn) I L h0 k_h0 p2 ⟨by omega, by omega⟩ (by omega)) zmX12_302 zM_X12_monthsTo (hro (0) 2 (by first | decide | omega) (by decide)) ⟨by decide, by decide⟩ rfl hl.1 rfl rfl (Nat.le_of_ble_eq_true rfl) dX12_words_23) hS (fun x107 H locs h106 hM hS => ?_)
  have p108 := h106
  refine lv_i2l hx hb dX12_words_26 rfl ?_
  refine lv_topl (fun y109 ey109 => ?_)
  have ty109 := zi_i2l ey109
  refine W.eq (g2 := F0 m 27 ls [.long y109, .int (2 : Int32), .ref (zq_r X h0 19)]) rfl ?_
  refine zq_last (n := 13) E hZ hM hS k105 ⟨by decide, rfl⟩ (by rw [zl_2]; decide) dX12_words_27 (fun H locs hM hS => ?_)
  refine lv_aload_n hx hb dX12_words_28 rfl (lv_at hl 0 rfl) ?_
  refine zq_getr E hM k_h0 (zFX12_36 E hZ) ⟨by decide, by decide, by decide, rfl⟩ dX12_words_29 ?_
  have k110 : zq_k X (zq_r X h0 19) = 58 := zq_lk L.1 k_h0 rfl (by decide)
  refine lv_iconst (v := 3) hx hb dX12_words_32 (by decide +kernel) ?_
  refine lv_aload_n hx hb dX12_words_33 rfl (lv_at hl 0 rfl) ?_
  refine lv_iload_n hx hb dX12_words_34 rfl (lv_at hl 2 rfl) ?_
  refine zq_pcalli (zq_rV (As := [.int p2]) (rest := [.int (3 : Int32), .ref (zq_r X h0 19)]) E hZ hM k_h0 (c_X12_heatOf l X zk (zn) I L h0 k_h0 p2 ⟨by omega, by omega⟩ (by omega)) zmX12_305 zM_X12_heatOf (hro (0) 2 (by first | decide | omega) (by decide)) ⟨by decide, by decide⟩ rfl hl.1 rfl rfl (Nat.le_of_ble_eq_true rfl) dX12_words_35) hS (fun x112 H locs h111 hM hS => ?_)
  have p113 := h111
  refine lv_i2l hx hb dX12_words_38 rfl ?_
  refine lv_topl (fun y114 ey114 => ?_)
  have ty114 := zi_i2l ey114
  refine zq_last (n := 13) E hZ hM hS k110 ⟨by decide, rfl⟩ (by rw [zl_3]; decide) dX12_words_39 (fun H locs hM hS => ?_)
  refine lv_aload_n hx hb dX12_words_40 rfl (lv_at hl 0 rfl) ?_
  refine W.eq (g2 := F0 m 41 ls [.ref h0]) rfl ?_
  refine zq_getr E hM k_h0 (zFX12_36 E hZ) ⟨by decide, by decide, by decide, rfl⟩ dX12_words_41 ?_
  have k115 : zq_k X (zq_r X h0 19) = 58 := zq_lk L.1 k_h0 rfl (by decide)
  refine lv_iconst (v := 4) hx hb dX12_words_44 (by decide +kernel) ?_
  refine lv_aload_n hx hb dX12_words_45 rfl (lv_at hl 0 rfl) ?_
  refine lv_iload_n hx hb dX12_words_46 rfl (lv_at hl 2 rfl) ?_
  refine lv_iconst (v := 0) hx hb dX12_words_47 (by decide +kernel) ?_
  refine zq_pcalli (zq_rV (As := [.int p2, .int (0 : Int32)]) (rest := [.int (4 : Int32), .ref (zq_r X h0 19)]) E hZ hM k_h0 (c_X12_townOf l X zk (zn) I L h0 k_h0 p2 (0 : Int32) ⟨by omega, by omega⟩ (by rw [zl_0]; decide) (by have := zl_0; omega)) zmX12_308 zM_X12_townOf (hro (0) 3 (by first | decide | omega) (by decide)) ⟨by decide, by decide⟩ rfl hl.1 rfl rfl (Nat.le_of_ble_eq_true rfl) dX12_words_48) hS (fun x117 H locs h116 hM hS => ?_)
  obtain ⟨p118, p119, p120, p121⟩ := h116
  have := zl_0
  refine lv_i2l hx hb dX12_words_51 rfl ?_
  refine lv_topl (fun y122 ey122 => ?_)
  have ty122 := zi_i2l ey122
  refine zq_last (n := 13) E hZ hM hS k115 ⟨by decide, rfl⟩ (by rw [zl_4]; decide) dX12_words_52 (fun H locs hM hS => ?_)
  refine lv_aload_n hx hb dX12_words_53 rfl (lv_at hl 0 rfl) ?_
  refine zq_getr E hM k_h0 (zFX12_36 E hZ) ⟨by decide, by decide, by decide, rfl⟩ dX12_words_54 ?_
  have k123 : zq_k X (zq_r X h0 19) = 58 := zq_lk L.1 k_h0 rfl (by decide)
  refine W.eq (g2 := F0 m 57 ls [.ref (zq_r X h0 19)]) rfl ?_
  refine lv_iconst (v := 5) hx hb dX12_words_57 (by decide +kernel) ?_
  refine lv_aload_n hx hb dX12_words_58 rfl (lv_at hl 0 rfl) ?_
  refine lv_iload_n hx hb dX12_words_59 rfl (lv_at hl 2 rfl) ?_
  refine lv_iconst (v := 1) hx hb dX12_words_60 (by decide +kernel) ?_
  refine zq_pcalli (zq_rV (As := [.int p2, .int (1 : Int32)]) (rest := [.int (5 : Int32), .ref (zq_r X h0 19)]) E hZ hM k_h0 (c_X12_townOf l X zk (zn) I L h0 k_h0 p2 (1 : Int32) ⟨by omega, by omega⟩ (by rw [zl_1]; decide) (by have := zl_1; omega)) zmX12_308 zM_X12_townOf (hro (0) 3 (by first | decide | omega) (by decide)) ⟨by decide, by decide⟩ rfl hl.1 rfl rfl (Nat.le_of_ble_eq_true rfl) dX12_words_61) hS (fun x125 H locs h124 hM hS => ?_)
  obtain ⟨p126, p127, p128, p129⟩ := h124
  have := zl_1
  refine lv_i2l hx hb dX12_words_64 rfl ?_
  refine lv_topl (fun y130 ey130 => ?_)
  have ty130 := zi_i2l ey130
  refine zq_last (n := 13) E hZ hM hS k123 ⟨by decide, rfl⟩ (by rw [zl_5]; decide) dX12_words_65 (fun H locs hM hS => ?_)
  refine lv_aload_n hx hb dX12_words_66 rfl (lv_at hl 0 rfl) ?_
  refine zq_getr E hM k_h0 (zFX12_36 E hZ) ⟨by decide, by decide, by decide, rfl⟩ dX12_words_67 ?_
  have k131 : zq_k X (zq_r X h0 19) = 58 := zq_lk L.1 k_h0 rfl (by decide)
  refine lv_bipush (v := 6) hx hb dX12_words_70 (by decide +kernel) ?_
  refine W.eq (g2 := F0 m 72 ls [.int (6 : Int32), .ref (zq_r X h0 19)]) rfl ?_
  refine lv_aload_n hx hb dX12_words_72 rfl (lv_at hl 0 rfl) ?_
  refine lv_iload_n hx hb dX12_words_73 rfl (lv_at hl 2 rfl) ?_
  refine lv_iconst (v := 2) hx hb dX12_words_74 (by decide +kernel) ?_
  refine zq_pcalli (zq_rV (As := [.int p2, .int (2 : Int32)]) (rest := [.int (6 : Int32), .ref (zq_r X h0 19)]) E hZ hM k_h0 (c_X12_townOf l X zk (zn) I L h0 k_h0 p2 (2 : Int32) ⟨by omega, by omega⟩ (by rw [zl_2]; decide) (by have := zl_2; omega)) zmX12_308 zM_X12_townOf (hro (0) 3 (by first | decide | omega) (by decide)) ⟨by decide, by decide⟩ rfl hl.1 rfl rfl (Nat.le_of_ble_eq_true rfl) dX12_words_75) hS (fun x133 H locs h132 hM hS => ?_)
  obtain ⟨p134, p135, p136, p137⟩ := h132
  have := zl_2
  refine lv_i2l hx hb dX12_words_78 rfl ?_
  refine lv_topl (fun y138 ey138 => ?_)
  have ty138 := zi_i2l ey138
  refine zq_last (n := 13) E hZ hM hS k131 ⟨by decide, rfl⟩ (by rw [zl_6]; decide) dX12_words_79 (fun H locs hM hS => ?_)
  refine lv_aload_n hx hb dX12_words_80 rfl (lv_at hl 0 rfl) ?_
  refine zq_getr E hM k_h0 (zFX12_36 E hZ) ⟨by decide, by decide, by decide, rfl⟩ dX12_words_81 ?_
  have k139 : zq_k X (zq_r X h0 19) = 58 := zq_lk L.1 k_h0 rfl (by decide)
  refine lv_bipush (v := 7) hx hb dX12_words_84 (by decide +kernel) ?_
  refine lv_aload_n hx hb dX12_words_86 rfl (lv_at hl 0 rfl) ?_
  refine W.eq (g2 := F0 m 87 ls [.ref h0, .int (7 : Int32), .ref (zq_r X h0 19)]) rfl ?_
  refine lv_iload_n hx hb dX12_words_87 rfl (lv_at hl 2 rfl) ?_
  refine zq_pcalli (zq_rV (As := [.int p2]) (rest := [.int (7 : Int32), .ref (zq_r X h0 19)]) E hZ hM k_h0 (c_X12_coming l X zk (zn) I L h0 k_h0 p2 (by omega)) zmX12_311 zM_X12_coming (hro (1) 4 (by first | decide | omega) (by decide)) ⟨by decide, by decide⟩ rfl hl.1 rfl rfl (Nat.le_of_ble_eq_true rfl) dX12_words_88) hS (fun x141 H locs h140 hM hS => ?_)
  clear h140
  refine lv_i2l hx hb dX12_words_91 rfl ?_
  refine lv_topl (fun y142 ey142 => ?_)
  have ty142 := zi_i2l ey142
  have := zi_rng x141
  refine zq_last (n := 13) E hZ hM hS k139 ⟨by decide, rfl⟩ (by rw [zl_7]; decide) dX12_words_92 (fun H locs hM hS => ?_)
  refine lv_aload_n hx hb dX12_words_93 rfl (lv_at hl 0 rfl) ?_
  refine zq_getr E hM k_h0 (zFX12_36 E hZ) ⟨by decide, by decide, by decide, rfl⟩ dX12_words_94 ?_
  have k143 : zq_k X (zq_r X h0 19) = 58 := zq_lk L.1 k_h0 rfl (by decide)
  refine lv_bipush (v := 8) hx hb dX12_words_97 (by decide +kernel) ?_
  refine lv_aload_n hx hb dX12_words_99 rfl (lv_at hl 0 rfl) ?_
  refine zq_getr E hM k_h0 (zFX12_39 E hZ) ⟨by decide, by decide, by decide, rfl⟩ dX12_words_100 ?_
  have k144 : zq_k X (zq_r X h0 20) = 59 := zq_lk L.1 k_h0 rfl (by decide)
  refine lv_bipush (v := 11) hx hb dX12_words_103 (by decide +kernel) ?_
  refine W.eq (g2 := F0 m 105 ls [.int (11 : Int32), .ref (zq_r X h0 20), .int (8 : Int32), .ref (zq_r X h0 19)]) rfl ?_
  refine zq_ian (n := 106) (j := 11) E hZ hM k144 ⟨by decide, rfl⟩ (by rw [zl_11]; decide) (by decide +kernel) dX12_words_105 (fun x145 ex145 gx145 => ?_)
  clear gx145
  refine lv_i2l hx hb dX12_words_106 rfl ?_
  refine lv_topl (fun y146 ey146 => ?_)
  have ty146 := zi_i2l ey146
  have := zi_rng x145
  refine zq_last (n := 13) E hZ hM hS k143 ⟨by decide, rfl⟩ (by rw [zl_8]; decide) dX12_words_107 (fun H locs hM hS => ?_)
  refine lv_aload_n hx hb dX12_words_108 rfl (lv_at hl 0 rfl) ?_
  refine zq_getr E hM k_h0 (zFX12_36 E hZ) ⟨by decide, by decide, by decide, rfl⟩ dX12_words_109 ?_
  have k147 : zq_k X (zq_r X h0 19) = 58 := zq_lk L.1 k_h0 rfl (by decide)
  refine lv_bipush (v := 9) hx hb dX12_words_112 (by decide +kernel) ?_
  refine lv_aload_n hx hb dX12_words_114 rfl (lv_at hl 0 rfl) ?_
  refine lv_iload_n hx hb dX12_words_115 rfl (lv_at hl 1 rfl) ?_
  refine zq_pcalli (zq_rV (As := [.int p1]) (rest := [.int (9 : Int32), .ref (zq_r X h0 19)]) E hZ hM k_h0 (c_X12_holdOf l X zk (zn) I L h0 k_h0 p1 ⟨by omega, by omega⟩ (by omega)) zmX12_293 zM_X12_holdOf (hro (0) 2 (by first | decide | omega) (by decide)) ⟨by decide, by decide⟩ rfl hl.1 rfl rfl (Nat.le_of_ble_eq_true rfl) dX12_words_116) hS (fun x149 H locs h148 hM hS => ?_)
  have p150 := h148
  refine lv_i2l hx hb dX12_words_119 rfl ?_
  refine lv_topl (fun y151 ey151 => ?_)
  have ty151 := zi_i2l ey151
  refine W.eq (g2 := F0 m 120 ls [.long y151, .int (9 : Int32), .ref (zq_r X h0 19)]) rfl ?_
  refine zq_last (n := 13) E hZ hM hS k147 ⟨by decide, rfl⟩ (by rw [zl_9]; decide) dX12_words_120 (fun H locs hM hS => ?_)
  refine lv_aload_n hx hb dX12_words_121 rfl (lv_at hl 0 rfl) ?_
  refine zq_getr E hM k_h0 (zFX12_36 E hZ) ⟨by decide, by decide, by decide, rfl⟩ dX12_words_122 ?_
  have k152 : zq_k X (zq_r X h0 19) = 58 := zq_lk L.1 k_h0 rfl (by decide)
  refine lv_bipush (v := 10) hx hb dX12_words_125 (by decide +kernel) ?_
  refine lv_aload_n hx hb dX12_words_127 rfl (lv_at hl 0 rfl) ?_
  refine zq_getr E hM k_h0 (zFX12_39 E hZ) ⟨by decide, by decide, by decide, rfl⟩ dX12_words_128 ?_
  have k153 : zq_k X (zq_r X h0 20) = 59 := zq_lk L.1 k_h0 rfl (by decide)
  refine lv_bipush (v := 10) hx hb dX12_words_131 (by decide +kernel) ?_
  refine zq_ian (n := 106) (j := 10) E hZ hM k153 ⟨by decide, rfl⟩ (by rw [zl_10]; decide) (by decide +kernel) dX12_words_133 (fun x154 ex154 gx154 => ?_)
  clear gx154
  refine lv_i2l hx hb dX12_words_134 rfl ?_
  refine lv_topl (fun y155 ey155 => ?_)
  have ty155 := zi_i2l ey155
  have := zi_rng x154
  refine zq_last (n := 13) E hZ hM hS k152 ⟨by decide, rfl⟩ (by rw [zl_10]; decide) dX12_words_135 (fun H locs hM hS => ?_)
  refine W.eq (g2 := F0 m 136 ls []) rfl ?_
  refine lv_aload_n hx hb dX12_words_136 rfl (lv_at hl 0 rfl) ?_
  refine zq_getr E hM k_h0 (zFX12_36 E hZ) ⟨by decide, by decide, by decide, rfl⟩ dX12_words_137 ?_
  have k156 : zq_k X (zq_r X h0 19) = 58 := zq_lk L.1 k_h0 rfl (by decide)
  refine lv_bipush (v := 11) hx hb dX12_words_140 (by decide +kernel) ?_
  refine lv_aload_n hx hb dX12_words_142 rfl (lv_at hl 0 rfl) ?_
  refine zq_getr E hM k_h0 (zFX12_39 E hZ) ⟨by decide, by decide, by decide, rfl⟩ dX12_words_143 ?_
  have k157 : zq_k X (zq_r X h0 20) = 59 := zq_lk L.1 k_h0 rfl (by decide)
  refine lv_bipush (v := 12) hx hb dX12_words_146 (by decide +kernel) ?_
  refine zq_ian (n := 106) (j := 12) E hZ hM k157 ⟨by decide, rfl⟩ (by rw [zl_12]; decide) (by decide +kernel) dX12_words_148 (fun x158 ex158 gx158 => ?_)
  replace gx158 : 0 ≤ x158.toInt ∧ x158.toInt ≤ ((zn : Nat) : Int) := gx158
  refine lv_i2l hx hb dX12_words_149 rfl ?_
  refine lv_topl (fun y159 ey159 => ?_)
  have ty159 := zi_i2l ey159
  refine zq_last (n := 13) E hZ hM hS k156 ⟨by decide, rfl⟩ (by rw [zl_11]; decide) dX12_words_150 (fun H locs hM hS => ?_)
  refine lv_aload_n hx hb dX12_words_151 rfl (lv_at hl 0 rfl) ?_
  refine W.eq (g2 := F0 m 152 ls [.ref h0]) rfl ?_
  refine zq_getr E hM k_h0 (zFX12_36 E hZ) ⟨by decide, by decide, by decide, rfl⟩ dX12_words_152 ?_
  have k160 : zq_k X (zq_r X h0 19) = 58 := zq_lk L.1 k_h0 rfl (by decide)
  refine lv_bipush (v := 12) hx hb dX12_words_155 (by decide +kernel) ?_
  refine lv_aload_n hx hb dX12_words_157 rfl (lv_at hl 0 rfl) ?_
  refine lv_iload_n hx hb dX12_words_158 rfl (lv_at hl 2 rfl) ?_
  refine lv_iconst (v := 3) hx hb dX12_words_159 (by decide +kernel) ?_
  refine zq_pcalli (zq_rV (As := [.int p2, .int (3 : Int32)]) (rest := [.int (12 : Int32), .ref (zq_r X h0 19)]) E hZ hM k_h0 (c_X12_townOf l X zk (zn) I L h0 k_h0 p2 (3 : Int32) ⟨by omega, by omega⟩ (by rw [zl_3]; decide) (by have := zl_3; omega)) zmX12_308 zM_X12_townOf (hro (0) 3 (by first | decide | omega) (by decide)) ⟨by decide, by decide⟩ rfl hl.1 rfl rfl (Nat.le_of_ble_eq_true rfl) dX12_words_160) hS (fun x162 H locs h161 hM hS => ?_)
  obtain ⟨p163, p164, p165, p166⟩ := h161
  have := zl_3
  refine lv_i2l hx hb dX12_words_163 rfl ?_
  refine lv_topl (fun y167 ey167 => ?_)
  have ty167 := zi_i2l ey167
  have := zi_rng x162
  refine zq_last (n := 13) E hZ hM hS k160 ⟨by decide, rfl⟩ (by rw [zl_12]; decide) dX12_words_164 (fun H locs hM hS => ?_)
  subst hQ
  exact zq_vret E hr hZ hM hS ⟨rfl, trivial⟩ hlocks dX12_words_165
set_option maxHeartbeats 8000000 in
set_option maxRecDepth 100000 in
theorem c_X12_mostFor (l : Launch) (X : zq_X) (zk zn : Nat) (I : zq_M) (L : zq_L X)  (h0 : Nat) (k_h0 : zq_k X h0 = 10) (p1 : Int32) (g_p1 : 0 ≤ p1.toInt ∧ p1.toInt ≤ 2) (q_0 : zk ≤ 4400 ∧ zn ≤ 4400) : Met l yX12_mostFor (zt_w yX12_mostFor cX12_mostFor 4 (some .int)) (zq_rm (1)) (va_Pc [.ref h0, .int p1] (zq_W X (zk, zn) I)) (va_Qi (fun (r : Int32) I2 => I2 = I ∧ (r.toInt ≤ 0 ∨ 1 ≤ (I (zq_r X h0 20) 11).toInt) ∧ (0 ≤ (I (zq_r X h0 20) 11).toInt → 0 ≤ r.toInt) ∧ (r.toInt ≤ 99)) (zq_E X (zk, zn)) (zq_A X)) 0 0 (zq_A X) := by
  refine Met.ofW (cc := cX12_mostFor) (maxL := 4) (ret := (some .int)) (by decide) rfl ?_
  intro p e s m args below meth c s₁ B hml hv
  obtain ⟨hargs, hM, hZ⟩ := hv
  have hown : s.vm.findClass RX12 = some m.cls := findClass_of_methodNamed B.named
  have hts := atoms_spec (ws := zt_w yX12_mostFor cX12_mostFor 4 (some .int)) B.pre
  have E : CallFix p m c cX12_mostFor 4 s args (Cond.code yX12_mostFor cX12_mostFor 4 (some .int) :: zt) RX12 := ⟨B.exec, B.bytes, hml, hown, hts⟩
  have hx := B.exec
  have hb := B.bytes
  have hr := B.returns
  have hlocks := B.notSynchronized
  clear B
  have hS : va_S (zq_A X) s.heap s.heap [] := va_S.rf
  have hl := lv_entry ([.ref h0, .int p1]) (n := 4) (by exact Nat.le_of_ble_eq_true rfl)
  have hg : entryFrame m args 4 = F0 m 0 ((lg_sl ([.ref h0, .int p1]) ++ List.replicate (4 - (lg_sl ([.ref h0, .int p1])).length) Slot.unset).toArray) [] := by rw [hargs]; exact lg_entry_eq m ([.ref h0, .int p1]) 4
  rw [hg]
  clear hg hargs
  generalize (lg_sl ([.ref h0, .int p1]) ++ List.replicate (4 - (lg_sl ([.ref h0, .int p1])).length) Slot.unset).toArray = ls at hl ⊢
  have hl : lv_has ls 4 [(0, .ref h0), (1, .int p1)] := by exact hl
  obtain ⟨R, hRm⟩ : ∃ R : Room, R = (headSpec (zt_w yX12_mostFor cX12_mostFor 4 (some .int)) (zq_rm (1))).room := ⟨_, rfl⟩
  rw [← hRm]
  have hro : ∀ d q : Nat, d + 1 ≤ 1 → q ≤ 45 → zq_rok d q R := fun d q h1 h2 => by rw [hRm]; exact zq_rokI h1 h2
  generalize hQ : MQ below _ args s 0 0 (zq_A X) = Q
  obtain ⟨H, hH⟩ : ∃ H, H = s.heap := ⟨_, rfl⟩
  obtain ⟨locs, hlo⟩ : ∃ x : List Loc, x = [] := ⟨_, rfl⟩
  rw [show W p l e R s m args below meth c s.heap [] 0 0 Q = W p l e R s m args below meth c H locs 0 0 Q by rw [hH, hlo]]
  have hM : zq_hm X (zk, zn) I H := by rw [hH]; exact hM
  have hS : va_S (zq_A X) s.heap H locs := by rw [hH, hlo]; exact hS
  clear hH hlo
  refine lv_aload_n hx hb dX12_mostFor_0 rfl (lv_at hl 0 rfl) ?_
  refine lv_iload_n hx hb dX12_mostFor_1 rfl (lv_at hl 1 rfl) ?_
  refine zq_pcalli (zq_rV (As := [.int p1]) (rest := []) E hZ hM k_h0 (c_X12_holdOf l X zk (zn) I L h0 k_h0 p1 ⟨by omega, by omega⟩ (by omega)) zmX12_293 zM_X12_holdOf (hro (0) 2 (by first | decide | omega) (by decide)) ⟨by decide, by decide⟩ rfl hl.1 rfl rfl (Nat.le_of_ble_eq_true rfl) dX12_mostFor_2) hS (fun x102 H locs h101 hM hS => ?_)
  have p103 := h101
  refine lv_aload_n hx hb dX12_mostFor_5 rfl (lv_at hl 0 rfl) ?_
  refine zq_getr E hM k_h0 (zFX12_39 E hZ) ⟨by decide, by decide, by decide, rfl⟩ dX12_mostFor_6 ?_
  have k104 : zq_k X (zq_r X h0 20) = 59 := zq_lk L.1 k_h0 rfl (by decide)
  refine lv_bipush (v := 11) hx hb dX12_mostFor_9 (by decide +kernel) ?_
  refine zq_ian (n := 106) (j := 11) E hZ hM k104 ⟨by decide, rfl⟩ (by rw [zl_11]; decide) (by decide +kernel) dX12_mostFor_11 (fun x105 ex105 gx105 => ?_)
  clear gx105
  have := congrArg Int32.toInt ex105
  refine zq_pcalli (zq_rS (As := [.int x102, .int x105]) (rest := []) E hZ hM (c_X12_atMost l X zk (zn) I L x102 x105) zmX12_321 zM_X12_atMost (hro (0) 2 (by first | decide | omega) (by decide)) hl.1 rfl rfl (Nat.le_of_ble_eq_true rfl) dX12_mostFor_12) hS (fun x107 H locs h106 hM hS => ?_)
  have p108 := h106
  refine lv_istore_n (lv' := [(2, .int x107), (0, .ref h0), (1, .int p1)]) hx hb dX12_mostFor_15 rfl hl (by decide) rfl (fun ls hl => ?_)
  refine W.eq (g2 := F0 m 16 ls []) rfl ?_
  refine lv_aload_n hx hb dX12_mostFor_16 rfl (lv_at hl 1 rfl) ?_
  refine zq_getr E hM k_h0 (zFX12_39 E hZ) ⟨by decide, by decide, by decide, rfl⟩ dX12_mostFor_17 ?_
  have k109 : zq_k X (zq_r X h0 20) = 59 := zq_lk L.1 k_h0 rfl (by decide)
  refine lv_bipush (v := 10) hx hb dX12_mostFor_20 (by decide +kernel) ?_
  refine zq_ian (n := 106) (j := 10) E hZ hM k109 ⟨by decide, rfl⟩ (by rw [zl_10]; decide) (by decide +kernel) dX12_mostFor_22 (fun x110 ex110 gx110 => ?_)
  clear gx110
  refine lv_aload_n hx hb dX12_mostFor_23 rfl (lv_at hl 1 rfl) ?_
  refine lv_iload_n hx hb dX12_mostFor_24 rfl (lv_at hl 2 rfl) ?_
  refine zq_pcalli (zq_rV (As := [.int p1]) (rest := [.int x110]) E hZ hM k_h0 (c_X12_costOf l X zk (zn) I L h0 k_h0 p1 ⟨by omega, by omega⟩ (by omega)) zmX12_296 zM_X12_costOf (hro (0) 2 (by first | decide | omega) (by decide)) ⟨by decide, by decide⟩ rfl hl.1 rfl rfl (Nat.le_of_ble_eq_true rfl) dX12_mostFor_25) hS (fun x112 H locs h111 hM hS => ?_)
  clear h111
  refine lv_isub hx hb dX12_mostFor_28 ?_
  refine lv_topi (fun x113 ex113 => ?_)
  refine lv_istore_n (lv' := [(3, .int x113), (2, .int x107), (0, .ref h0), (1, .int p1)]) hx hb dX12_mostFor_29 rfl hl (by decide) rfl (fun ls hl => ?_)
  refine lv_iload_n hx hb dX12_mostFor_30 rfl (lv_at hl 0 rfl) ?_
  refine W.eq (g2 := F0 m 31 ls [.int x113]) rfl ?_
  refine lv_if_ge (tgt := 38) hx hb dX12_mostFor_31 (by decide) (fun b114 => ?_) (fun b114 => ?_)
  · have b114 := zi_le b114 (zl_0 : (0 : Int32).toInt = 0) (rfl : x113.toInt = x113.toInt)
    refine lv_aload_n hx hb dX12_mostFor_38 rfl (lv_at hl 2 rfl) ?_
    refine zq_getr E hM k_h0 (zFX12_39 E hZ) ⟨by decide, by decide, by decide, rfl⟩ dX12_mostFor_39 ?_
    have k115 : zq_k X (zq_r X h0 20) = 59 := zq_lk L.1 k_h0 rfl (by decide)
    refine lv_iconst (v := 1) hx hb dX12_mostFor_42 (by decide +kernel) ?_
    refine zq_ian (n := 106) (j := 1) E hZ hM k115 ⟨by decide, rfl⟩ (by rw [zl_1]; decide) (by decide +kernel) dX12_mostFor_43 (fun x116 ex116 gx116 => ?_)
    replace gx116 : 0 ≤ x116.toInt ∧ x116.toInt ≤ 20 := gx116
    refine lv_if_ne (tgt := 51) hx hb dX12_mostFor_44 (by decide) (fun b117 => ?_) (fun b117 => ?_)
    · have b117 := zi_ne b117 (rfl : x116.toInt = x116.toInt) (zl_0 : (0 : Int32).toInt = 0)
      refine lv_iload_n hx hb dX12_mostFor_51 rfl (lv_at hl 1 rfl) ?_
      refine lv_iload_n hx hb dX12_mostFor_52 rfl (lv_at hl 0 rfl) ?_
      refine lv_aload_n hx hb dX12_mostFor_53 rfl (lv_at hl 2 rfl) ?_
      refine zq_getr E hM k_h0 (zFX12_39 E hZ) ⟨by decide, by decide, by decide, rfl⟩ dX12_mostFor_54 ?_
      have k118 : zq_k X (zq_r X h0 20) = 59 := zq_lk L.1 k_h0 rfl (by decide)
      refine lv_iconst (v := 1) hx hb dX12_mostFor_57 (by decide +kernel) ?_
      refine zq_iald (n := 106) (j := 1) (v := x116) E hZ hM k118 ⟨by decide, rfl⟩ (by rw [zl_1]; decide) (by decide +kernel) ex116 dX12_mostFor_58 ?_
      refine lv_idiv hx hb dX12_mostFor_59 (fun q => by have := zi_eq q rfl zl_0; omega) ?_
      refine lv_topi (fun x120 ex120 => ?_)
      have tx120 := zi_divn ex120 (rfl : x113.toInt = x113.toInt) (rfl : x116.toInt = x116.toInt) (by omega) (by omega)
      have tx120 := zi_divb tx120 (by omega) (by omega)
      refine zq_pcalli (zq_rS (As := [.int x107, .int x120]) (rest := []) E hZ hM (c_X12_atMost l X zk (zn) I L x107 x120) zmX12_321 zM_X12_atMost (hro (0) 2 (by first | decide | omega) (by decide)) hl.1 rfl rfl (Nat.le_of_ble_eq_true rfl) dX12_mostFor_60) hS (fun x122 H locs h121 hM hS => ?_)
      have p123 := h121
      subst hQ
      exact zq_iret E hr hZ hM hS ⟨rfl, (by have := zl_0; omega), (by have := zl_0; omega), (by have := zi_rng x122; omega)⟩ hlocks dX12_mostFor_63
    · have b117 := zi_eq b117 (rfl : x116.toInt = x116.toInt) (zl_0 : (0 : Int32).toInt = 0)
      refine lv_iload_n hx hb dX12_mostFor_47 rfl (lv_at hl 1 rfl) ?_
      refine lv_goto (tgt := 63) hx hb dX12_mostFor_48 (by decide) ?_
      subst hQ
      exact zq_iret E hr hZ hM hS ⟨rfl, (by have := zl_0; omega), (by have := zl_0; omega), (by have := zi_rng x107; omega)⟩ hlocks dX12_mostFor_63
  · have b114 := zi_nle b114 (zl_0 : (0 : Int32).toInt = 0) (rfl : x113.toInt = x113.toInt)
    refine lv_iconst (v := 0) hx hb dX12_mostFor_34 (by decide +kernel) ?_
    refine lv_goto (tgt := 63) hx hb dX12_mostFor_35 (by decide) ?_
    subst hQ
    exact zq_iret E hr hZ hM hS ⟨rfl, (by have := zl_0; omega), (by have := zl_0; omega), (by have := zl_0; omega)⟩ hlocks dX12_mostFor_63
def zw_X12_sails : List (Nat × Nat) := [(59, 999)]
set_option maxHeartbeats 8000000 in
set_option maxRecDepth 100000 in
theorem c_X12_sails (l : Launch) (X : zq_X) (zk zn : Nat) (I : zq_M) (L : zq_L X)  (h0 : Nat) (k_h0 : zq_k X h0 = 10) (p1 : Int32) (p2 : Int32) (p3 : Int32) (p4 : Int32) (g_p1 : 0 ≤ p1.toInt ∧ p1.toInt ≤ 2) (g_p2 : 0 ≤ p2.toInt ∧ p2.toInt ≤ 3) (g_p3 : 0 ≤ p3.toInt ∧ p3.toInt ≤ 99) (g_p4 : 0 ≤ p4.toInt ∧ p4.toInt ≤ 1) (q_0 : zk ≤ 4400 ∧ zn ≤ 4400) : Met l yX12_sails (zt_w yX12_sails cX12_sails 6 none) (zq_rm (1)) (va_Pc [.ref h0, .int p1, .int p2, .int p3, .int p4] (zq_W X (zk, zn) I)) (va_Qv (fun I2 => zq_fr (zf X zw_X12_sails (fun _ => False)) I I2) (zq_E X (zk, zn)) (zq_A X)) 0 0 (zq_A X) := by
  refine Met.ofW (cc := cX12_sails) (maxL := 6) (ret := none) (by decide) rfl ?_
  intro p e s m args below meth c s₁ B hml hv
  obtain ⟨hargs, hM, hZ⟩ := hv
  have hown : s.vm.findClass RX12 = some m.cls := findClass_of_methodNamed B.named
  have hts := atoms_spec (ws := zt_w yX12_sails cX12_sails 6 none) B.pre
  have E : CallFix p m c cX12_sails 6 s args (Cond.code yX12_sails cX12_sails 6 none :: zt) RX12 := ⟨B.exec, B.bytes, hml, hown, hts⟩
  have hx := B.exec
  have hb := B.bytes
  have hr := B.returns
  have hlocks := B.notSynchronized
  clear B
  have hS : va_S (zq_A X) s.heap s.heap [] := va_S.rf
  have hR : zq_fr (zf X zw_X12_sails (fun _ => False)) I I := zq_fr.rf
  have hl := lv_entry ([.ref h0, .int p1, .int p2, .int p3, .int p4]) (n := 6) (by exact Nat.le_of_ble_eq_true rfl)
  have hg : entryFrame m args 6 = F0 m 0 ((lg_sl ([.ref h0, .int p1, .int p2, .int p3, .int p4]) ++ List.replicate (6 - (lg_sl ([.ref h0, .int p1, .int p2, .int p3, .int p4])).length) Slot.unset).toArray) [] := by rw [hargs]; exact lg_entry_eq m ([.ref h0, .int p1, .int p2, .int p3, .int p4]) 6
  rw [hg]
  clear hg hargs
  generalize (lg_sl ([.ref h0, .int p1, .int p2, .int p3, .int p4]) ++ List.replicate (6 - (lg_sl ([.ref h0, .int p1, .int p2, .int p3, .int p4])).length) Slot.unset).toArray = ls at hl ⊢
  have hl : lv_has ls 6 [(0, .ref h0), (1, .int p1), (2, .int p2), (3, .int p3), (4, .int p4)] := by exact hl
  obtain ⟨R, hRm⟩ : ∃ R : Room, R = (headSpec (zt_w yX12_sails cX12_sails 6 none) (zq_rm (1))).room := ⟨_, rfl⟩
  rw [← hRm]
  have hro : ∀ d q : Nat, d + 1 ≤ 1 → q ≤ 45 → zq_rok d q R := fun d q h1 h2 => by rw [hRm]; exact zq_rokI h1 h2
  generalize hQ : MQ below _ args s 0 0 (zq_A X) = Q
  obtain ⟨H, hH⟩ : ∃ H, H = s.heap := ⟨_, rfl⟩
  obtain ⟨locs, hlo⟩ : ∃ x : List Loc, x = [] := ⟨_, rfl⟩
  rw [show W p l e R s m args below meth c s.heap [] 0 0 Q = W p l e R s m args below meth c H locs 0 0 Q by rw [hH, hlo]]
  have hM : zq_hm X (zk, zn) I H := by rw [hH]; exact hM
  have hS : va_S (zq_A X) s.heap H locs := by rw [hH, hlo]; exact hS
  clear hH hlo
  refine lv_bipush (v := 13) hx hb dX12_sails_0 (by decide +kernel) ?_
  refine lv_iconst (v := 4) hx hb dX12_sails_2 (by decide +kernel) ?_
  refine lv_iload_n hx hb dX12_sails_3 rfl (lv_at hl 1 rfl) ?_
  refine lv_imul hx hb dX12_sails_4 ?_
  refine lv_topi (fun x101 ex101 => ?_)
  have tx101 := zi_mul ex101 (zl_4 : (4 : Int32).toInt = 4) (rfl : p1.toInt = p1.toInt) ⟨by omega, by omega⟩
  refine lv_iadd hx hb dX12_sails_5 ?_
  refine lv_topi (fun x102 ex102 => ?_)
  have tx102 := zi_add ex102 (zl_13 : (13 : Int32).toInt = 13) (rfl : x101.toInt = x101.toInt) ⟨by omega, by omega⟩
  refine lv_istore (lv' := [(5, .int x102), (0, .ref h0), (1, .int p1), (2, .int p2), (3, .int p3), (4, .int p4)]) hx hb dX12_sails_6 hl (by decide) rfl (fun ls hl => ?_)
  refine lv_aload_n hx hb dX12_sails_8 rfl (lv_at hl 1 rfl) ?_
  refine zq_getr E hM k_h0 (zFX12_39 E hZ) ⟨by decide, by decide, by decide, rfl⟩ dX12_sails_9 ?_
  have k103 : zq_k X (zq_r X h0 20) = 59 := zq_lk L.1 k_h0 rfl (by decide)
  refine lv_bipush (v := 10) hx hb dX12_sails_12 (by decide +kernel) ?_
  refine W.eq (g2 := F0 m 14 ls [.int (10 : Int32), .ref (zq_r X h0 20)]) rfl ?_
  refine lv_dup2_11 hx hb dX12_sails_14 rfl rfl ?_
  refine zq_ian (n := 106) (j := 10) E hZ hM k103 ⟨by decide, rfl⟩ (by rw [zl_10]; decide) (by decide +kernel) dX12_sails_15 (fun x104 ex104 gx104 => ?_)
  clear gx104
  refine lv_aload_n hx hb dX12_sails_16 rfl (lv_at hl 1 rfl) ?_
  refine lv_iload_n hx hb dX12_sails_17 rfl (lv_at hl 2 rfl) ?_
  refine zq_pcalli (zq_rV (As := [.int p1]) (rest := [.int x104, .int (10 : Int32), .ref (zq_r X h0 20)]) E hZ hM k_h0 (c_X12_costOf l X zk (zn) I L h0 k_h0 p1 ⟨by omega, by omega⟩ (by omega)) zmX12_296 zM_X12_costOf (hro (0) 2 (by first | decide | omega) (by decide)) ⟨by decide, by decide⟩ rfl hl.1 rfl rfl (Nat.le_of_ble_eq_true rfl) dX12_sails_18) hS (fun x106 H locs h105 hM hS => ?_)
  clear h105
  refine lv_aload_n hx hb dX12_sails_21 rfl (lv_at hl 1 rfl) ?_
  refine zq_getr E hM k_h0 (zFX12_39 E hZ) ⟨by decide, by decide, by decide, rfl⟩ dX12_sails_22 ?_
  have k107 : zq_k X (zq_r X h0 20) = 59 := zq_lk L.1 k_h0 rfl (by decide)
  refine lv_iconst (v := 1) hx hb dX12_sails_25 (by decide +kernel) ?_
  refine zq_ian (n := 106) (j := 1) E hZ hM k107 ⟨by decide, rfl⟩ (by rw [zl_1]; decide) (by decide +kernel) dX12_sails_26 (fun x108 ex108 gx108 => ?_)
  replace gx108 : 0 ≤ x108.toInt ∧ x108.toInt ≤ 20 := gx108
  refine lv_iload_n hx hb dX12_sails_27 rfl (lv_at hl 4 rfl) ?_
  refine W.eq (g2 := F0 m 28 ls [.int p3, .int x108, .int x106, .int x104, .int (10 : Int32), .ref (zq_r X h0 20)]) rfl ?_
  refine lv_imul hx hb dX12_sails_28 ?_
  refine lv_topi (fun x109 ex109 => ?_)
  have tx109 := zi_mulb ex109 0 20 0 99 ⟨by omega, by omega⟩ ⟨by omega, by omega⟩ (by decide)
  have tx109 : 0 ≤ x109.toInt ∧ x109.toInt ≤ 1980 := ⟨tx109.2.1, tx109.2.2⟩
  refine lv_iadd hx hb dX12_sails_29 ?_
  refine lv_topi (fun x110 ex110 => ?_)
  refine lv_iload hx hb dX12_sails_30 (lv_at hl 5 rfl) ?_
  have J40 : ∀ (ls : Array Slot) (j111 : Int32), (0 ≤ j111.toInt ∧ j111.toInt ≤ 99) → (lv_has ls 6 [(5, .int x102), (0, .ref h0), (1, .int p1), (2, .int p2), (3, .int p3), (4, .int p4)]) → W p l e R s m args below meth c H locs 0 0 Q (F0 m 40 ls [.int j111, .int x110, .int x104, .int (10 : Int32), .ref (zq_r X h0 20)]) := by
    intro ls j111 gj111 hl
    refine lv_iadd hx hb dX12_sails_40 ?_
    refine lv_topi (fun x142 ex142 => ?_)
    refine lv_isub hx hb dX12_sails_41 ?_
    refine lv_topi (fun x143 ex143 => ?_)
    refine zq_isn (n := 106) (j := 10) E hZ hM hS k103 ⟨by decide, rfl⟩ (by rw [zl_10]; decide) (by decide +kernel) (zq_any _) dX12_sails_42 (fun I144 H locs eI144 hM hS => ?_)
    have hR := zq_fr.putE hR eI144 (zf_ia k103 (by decide) rfl)
    refine lv_aload_n hx hb dX12_sails_43 rfl (lv_at hl 1 rfl) ?_
    refine zq_getr E hM k_h0 (zFX12_39 E hZ) ⟨by decide, by decide, by decide, rfl⟩ dX12_sails_44 ?_
    have k145 : zq_k X (zq_r X h0 20) = 59 := zq_lk L.1 k_h0 rfl (by decide)
    refine lv_bipush (v := 11) hx hb dX12_sails_47 (by decide +kernel) ?_
    refine lv_dup2_11 hx hb dX12_sails_49 rfl rfl ?_
    refine zq_ian (n := 106) (j := 11) E hZ hM k145 ⟨by decide, rfl⟩ (by rw [zl_11]; decide) (by decide +kernel) dX12_sails_50 (fun x146 ex146 gx146 => ?_)
    clear gx146
    refine lv_iload_n hx hb dX12_sails_51 rfl (lv_at hl 4 rfl) ?_
    refine W.eq (g2 := F0 m 52 ls [.int p3, .int x146, .int (11 : Int32), .ref (zq_r X h0 20)]) rfl ?_
    refine lv_isub hx hb dX12_sails_52 ?_
    refine lv_topi (fun x147 ex147 => ?_)
    refine zq_isn (n := 106) (j := 11) E hZ hM hS k145 ⟨by decide, rfl⟩ (by rw [zl_11]; decide) (by decide +kernel) (zq_any _) dX12_sails_53 (fun I148 H locs eI148 hM hS => ?_)
    have hR := zq_fr.putE hR eI148 (zf_ia k145 (by decide) rfl)
    refine lv_aload_n hx hb dX12_sails_54 rfl (lv_at hl 1 rfl) ?_
    refine zq_getr E hM k_h0 (zFX12_39 E hZ) ⟨by decide, by decide, by decide, rfl⟩ dX12_sails_55 ?_
    have k149 : zq_k X (zq_r X h0 20) = 59 := zq_lk L.1 k_h0 rfl (by decide)
    refine lv_iload hx hb dX12_sails_58 (lv_at hl 0 rfl) ?_
    refine lv_iload_n hx hb dX12_sails_60 rfl (lv_at hl 3 rfl) ?_
    have hclx102 := zq_cl (i := x102) (by omega)
    have hc151 : x102.toNatClampNeg = 13 ∨ x102.toNatClampNeg = 17 ∨ x102.toNatClampNeg = 21 := by omega
    have hp152 : (zq_rg (zk, zn) 59 x102.toNatClampNeg).1 ≤ p2.toInt ∧ p2.toInt ≤ (zq_rg (zk, zn) 59 x102.toNatClampNeg).2 := by
      rcases hc151 with q9 | q9 | q9
      · rw [q9]; exact (show (-1) ≤ p2.toInt ∧ p2.toInt ≤ 3 from ⟨by omega, by omega⟩)
      · rw [q9]; exact (show (-1) ≤ p2.toInt ∧ p2.toInt ≤ 3 from ⟨by omega, by omega⟩)
      · rw [q9]; exact (show (-1) ≤ p2.toInt ∧ p2.toInt ≤ 3 from ⟨by omega, by omega⟩)
    refine zq_isn (n := 106) (j := (x102.toNatClampNeg)) E hZ hM hS k149 ⟨by decide, rfl⟩ ⟨by omega, by omega⟩ rfl hp152 dX12_sails_61 (fun I150 H locs eI150 hM hS => ?_)
    have hR := zq_fr.putE hR eI150 (zf_ia k149 (by decide) rfl)
    refine lv_aload_n hx hb dX12_sails_62 rfl (lv_at hl 1 rfl) ?_
    refine zq_getr E hM k_h0 (zFX12_39 E hZ) ⟨by decide, by decide, by decide, rfl⟩ dX12_sails_63 ?_
    have k153 : zq_k X (zq_r X h0 20) = 59 := zq_lk L.1 k_h0 rfl (by decide)
    refine lv_iload hx hb dX12_sails_66 (lv_at hl 0 rfl) ?_
    refine W.eq (g2 := F0 m 68 ls [.int x102, .ref (zq_r X h0 20)]) rfl ?_
    refine lv_iconst (v := 1) hx hb dX12_sails_68 (by decide +kernel) ?_
    refine lv_iadd hx hb dX12_sails_69 ?_
    refine lv_topi (fun x154 ex154 => ?_)
    have tx154 := zi_add ex154 (rfl : x102.toInt = x102.toInt) (zl_1 : (1 : Int32).toInt = 1) ⟨by omega, by omega⟩
    refine lv_aload_n hx hb dX12_sails_70 rfl (lv_at hl 1 rfl) ?_
    refine lv_iload_n hx hb dX12_sails_71 rfl (lv_at hl 3 rfl) ?_
    refine zq_pcalli (zq_rV (As := [.int p2]) (rest := [.int x154, .ref (zq_r X h0 20)]) E hZ hM k_h0 (c_X12_monthsTo l X zk (zn) I150 L h0 k_h0 p2 ⟨by omega, by omega⟩ (by omega)) zmX12_302 zM_X12_monthsTo (hro (0) 2 (by first | decide | omega) (by decide)) ⟨by decide, by decide⟩ rfl hl.1 rfl rfl (Nat.le_of_ble_eq_true rfl) dX12_sails_72) hS (fun x156 H locs h155 hM hS => ?_)
    have p157 := h155
    have hclx154 := zq_cl (i := x154) (by omega)
    have hc159 : x154.toNatClampNeg = 14 ∨ x154.toNatClampNeg = 18 ∨ x154.toNatClampNeg = 22 := by omega
    have hp160 : (zq_rg (zk, zn) 59 x154.toNatClampNeg).1 ≤ x156.toInt ∧ x156.toInt ≤ (zq_rg (zk, zn) 59 x154.toNatClampNeg).2 := by
      rcases hc159 with q9 | q9 | q9
      · rw [q9]; exact zq_any _
      · rw [q9]; exact zq_any _
      · rw [q9]; exact zq_any _
    refine zq_isn (n := 106) (j := (x154.toNatClampNeg)) E hZ hM hS k153 ⟨by decide, rfl⟩ ⟨by omega, by omega⟩ rfl hp160 dX12_sails_75 (fun I158 H locs eI158 hM hS => ?_)
    have hR := zq_fr.putE hR eI158 (zf_ia k153 (by decide) rfl)
    refine lv_aload_n hx hb dX12_sails_76 rfl (lv_at hl 1 rfl) ?_
    refine zq_getr E hM k_h0 (zFX12_39 E hZ) ⟨by decide, by decide, by decide, rfl⟩ dX12_sails_77 ?_
    have k161 : zq_k X (zq_r X h0 20) = 59 := zq_lk L.1 k_h0 rfl (by decide)
    refine lv_iload hx hb dX12_sails_80 (lv_at hl 0 rfl) ?_
    refine lv_iconst (v := 2) hx hb dX12_sails_82 (by decide +kernel) ?_
    refine W.eq (g2 := F0 m 83 ls [.int (2 : Int32), .int x102, .ref (zq_r X h0 20)]) rfl ?_
    refine lv_iadd hx hb dX12_sails_83 ?_
    refine lv_topi (fun x162 ex162 => ?_)
    have tx162 := zi_add ex162 (rfl : x102.toInt = x102.toInt) (zl_2 : (2 : Int32).toInt = 2) ⟨by omega, by omega⟩
    refine lv_iload_n hx hb dX12_sails_84 rfl (lv_at hl 4 rfl) ?_
    have hclx162 := zq_cl (i := x162) (by omega)
    have hc164 : x162.toNatClampNeg = 15 ∨ x162.toNatClampNeg = 19 ∨ x162.toNatClampNeg = 23 := by omega
    have hp165 : (zq_rg (zk, zn) 59 x162.toNatClampNeg).1 ≤ p3.toInt ∧ p3.toInt ≤ (zq_rg (zk, zn) 59 x162.toNatClampNeg).2 := by
      rcases hc164 with q9 | q9 | q9
      · rw [q9]; exact (show 0 ≤ p3.toInt ∧ p3.toInt ≤ 99 from ⟨by omega, by omega⟩)
      · rw [q9]; exact (show 0 ≤ p3.toInt ∧ p3.toInt ≤ 99 from ⟨by omega, by omega⟩)
      · rw [q9]; exact (show 0 ≤ p3.toInt ∧ p3.toInt ≤ 99 from ⟨by omega, by omega⟩)
    refine zq_isn (n := 106) (j := (x162.toNatClampNeg)) E hZ hM hS k161 ⟨by decide, rfl⟩ ⟨by omega, by omega⟩ rfl hp165 dX12_sails_85 (fun I163 H locs eI163 hM hS => ?_)
    have hR := zq_fr.putE hR eI163 (zf_ia k161 (by decide) rfl)
    refine lv_aload_n hx hb dX12_sails_86 rfl (lv_at hl 1 rfl) ?_
    refine zq_getr E hM k_h0 (zFX12_39 E hZ) ⟨by decide, by decide, by decide, rfl⟩ dX12_sails_87 ?_
    have k166 : zq_k X (zq_r X h0 20) = 59 := zq_lk L.1 k_h0 rfl (by decide)
    refine lv_iload hx hb dX12_sails_90 (lv_at hl 0 rfl) ?_
    refine lv_iconst (v := 3) hx hb dX12_sails_92 (by decide +kernel) ?_
    refine lv_iadd hx hb dX12_sails_93 ?_
    refine lv_topi (fun x167 ex167 => ?_)
    have tx167 := zi_add ex167 (rfl : x102.toInt = x102.toInt) (zl_3 : (3 : Int32).toInt = 3) ⟨by omega, by omega⟩
    refine lv_iload hx hb dX12_sails_94 (lv_at hl 5 rfl) ?_
    have J104 : ∀ (ls : Array Slot) (j168 : Int32), (0 ≤ j168.toInt ∧ j168.toInt ≤ 1) → (lv_has ls 6 [(5, .int x102), (0, .ref h0), (1, .int p1), (2, .int p2), (3, .int p3), (4, .int p4)]) → W p l e R s m args below meth c H locs 0 0 Q (F0 m 104 ls [.int j168, .int x167, .ref (zq_r X h0 20)]) := by
      intro ls j168 gj168 hl
      have hclx167 := zq_cl (i := x167) (by omega)
      have hc173 : x167.toNatClampNeg = 16 ∨ x167.toNatClampNeg = 20 ∨ x167.toNatClampNeg = 24 := by omega
      have hp174 : (zq_rg (zk, zn) 59 x167.toNatClampNeg).1 ≤ j168.toInt ∧ j168.toInt ≤ (zq_rg (zk, zn) 59 x167.toNatClampNeg).2 := by
        rcases hc173 with q9 | q9 | q9
        · rw [q9]; exact zq_any _
        · rw [q9]; exact zq_any _
        · rw [q9]; exact zq_any _
      refine zq_isn (n := 106) (j := (x167.toNatClampNeg)) E hZ hM hS k166 ⟨by decide, rfl⟩ ⟨by omega, by omega⟩ rfl hp174 dX12_sails_104 (fun I172 H locs eI172 hM hS => ?_)
      have hR := zq_fr.putE hR eI172 (zf_ia k166 (by decide) rfl)
      subst hQ
      exact zq_vret E hr hZ hM hS hR hlocks dX12_sails_105
    refine lv_if_eq (tgt := 103) hx hb dX12_sails_96 (by decide) (fun b175 => ?_) (fun b175 => ?_)
    · have b175 := zi_eq b175 (rfl : p4.toInt = p4.toInt) (zl_0 : (0 : Int32).toInt = 0)
      refine lv_iconst (v := 0) hx hb dX12_sails_103 (by decide +kernel) ?_
      exact J104 ls (0 : Int32) (by rw [zl_0]; decide) (lv_sub hl [0, 1, 2, 3, 4, 5] rfl)
    · have b175 := zi_ne b175 (rfl : p4.toInt = p4.toInt) (zl_0 : (0 : Int32).toInt = 0)
      refine lv_iconst (v := 1) hx hb dX12_sails_99 (by decide +kernel) ?_
      refine lv_goto (tgt := 104) hx hb dX12_sails_100 (by decide) ?_
      exact J104 ls (1 : Int32) (by rw [zl_1]; decide) (lv_sub hl [0, 1, 2, 3, 4, 5] rfl)
  refine lv_if_eq (tgt := 39) hx hb dX12_sails_32 (by decide) (fun b176 => ?_) (fun b176 => ?_)
  · have b176 := zi_eq b176 (rfl : p4.toInt = p4.toInt) (zl_0 : (0 : Int32).toInt = 0)
    refine lv_iconst (v := 0) hx hb dX12_sails_39 (by decide +kernel) ?_
    exact J40 ls (0 : Int32) (by rw [zl_0]; decide) (lv_sub hl [0, 1, 2, 3, 4, 5] rfl)
  · have b176 := zi_ne b176 (rfl : p4.toInt = p4.toInt) (zl_0 : (0 : Int32).toInt = 0)
    refine lv_iload_n hx hb dX12_sails_35 rfl (lv_at hl 4 rfl) ?_
    refine lv_goto (tgt := 40) hx hb dX12_sails_36 (by decide) ?_
    exact J40 ls p3 (⟨by omega, by omega⟩) (lv_sub hl [0, 1, 2, 3, 4, 5] rfl)
def zw_X12_grows : List (Nat × Nat) := [(59, 999)]
set_option maxHeartbeats 8000000 in
set_option maxRecDepth 100000 in
theorem c_X12_grows (l : Launch) (X : zq_X) (zk zn : Nat) (I : zq_M) (L : zq_L X)  (h0 : Nat) (k_h0 : zq_k X h0 = 10) (q_0 : zk ≤ 4400 ∧ zn ≤ 4400) : Met l yX12_grows (zt_w yX12_grows cX12_grows 2 none) (zq_rm (1)) (va_Pc [.ref h0] (zq_W X (zk, zn) I)) (va_Qv (fun I2 => zq_fr (zf X zw_X12_grows (fun _ => False)) I I2) (zq_E X (zk, zn)) (zq_A X)) 0 0 (zq_A X) := by
  refine Met.ofW (cc := cX12_grows) (maxL := 2) (ret := none) (by decide) rfl ?_
  intro p e s m args below meth c s₁ B hml hv
  obtain ⟨hargs, hM, hZ⟩ := hv
  have hown : s.vm.findClass RX12 = some m.cls := findClass_of_methodNamed B.named
  have hts := atoms_spec (ws := zt_w yX12_grows cX12_grows 2 none) B.pre
  have E : CallFix p m c cX12_grows 2 s args (Cond.code yX12_grows cX12_grows 2 none :: zt) RX12 := ⟨B.exec, B.bytes, hml, hown, hts⟩
  have hx := B.exec
  have hb := B.bytes
  have hr := B.returns
  have hlocks := B.notSynchronized
  clear B
  have hS : va_S (zq_A X) s.heap s.heap [] := va_S.rf
  have hR : zq_fr (zf X zw_X12_grows (fun _ => False)) I I := zq_fr.rf
  have hl := lv_entry ([.ref h0]) (n := 2) (by exact Nat.le_of_ble_eq_true rfl)
  have hg : entryFrame m args 2 = F0 m 0 ((lg_sl ([.ref h0]) ++ List.replicate (2 - (lg_sl ([.ref h0])).length) Slot.unset).toArray) [] := by rw [hargs]; exact lg_entry_eq m ([.ref h0]) 2
  rw [hg]
  clear hg hargs
  generalize (lg_sl ([.ref h0]) ++ List.replicate (2 - (lg_sl ([.ref h0])).length) Slot.unset).toArray = ls at hl ⊢
  have hl : lv_has ls 2 [(0, .ref h0)] := by exact hl
  obtain ⟨R, hRm⟩ : ∃ R : Room, R = (headSpec (zt_w yX12_grows cX12_grows 2 none) (zq_rm (1))).room := ⟨_, rfl⟩
  rw [← hRm]
  have hro : ∀ d q : Nat, d + 1 ≤ 1 → q ≤ 45 → zq_rok d q R := fun d q h1 h2 => by rw [hRm]; exact zq_rokI h1 h2
  generalize hQ : MQ below _ args s 0 0 (zq_A X) = Q
  obtain ⟨H, hH⟩ : ∃ H, H = s.heap := ⟨_, rfl⟩
  obtain ⟨locs, hlo⟩ : ∃ x : List Loc, x = [] := ⟨_, rfl⟩
  rw [show W p l e R s m args below meth c s.heap [] 0 0 Q = W p l e R s m args below meth c H locs 0 0 Q by rw [hH, hlo]]
  have hM : zq_hm X (zk, zn) I H := by rw [hH]; exact hM
  have hS : va_S (zq_A X) s.heap H locs := by rw [hH, hlo]; exact hS
  clear hH hlo
  refine lv_aload_n hx hb dX12_grows_0 rfl (lv_at hl 0 rfl) ?_
  refine zq_getr E hM k_h0 (zFX12_39 E hZ) ⟨by decide, by decide, by decide, rfl⟩ dX12_grows_1 ?_
  have k101 : zq_k X (zq_r X h0 20) = 59 := zq_lk L.1 k_h0 rfl (by decide)
  refine lv_bipush (v := 45) hx hb dX12_grows_4 (by decide +kernel) ?_
  refine lv_aload_n hx hb dX12_grows_6 rfl (lv_at hl 0 rfl) ?_
  refine zq_getr E hM k_h0 (zFX12_39 E hZ) ⟨by decide, by decide, by decide, rfl⟩ dX12_grows_7 ?_
  have k102 : zq_k X (zq_r X h0 20) = 59 := zq_lk L.1 k_h0 rfl (by decide)
  refine lv_bipush (v := 12) hx hb dX12_grows_10 (by decide +kernel) ?_
  refine zq_ian (n := 106) (j := 12) E hZ hM k102 ⟨by decide, rfl⟩ (by rw [zl_12]; decide) (by decide +kernel) dX12_grows_12 (fun x103 ex103 gx103 => ?_)
  replace gx103 : 0 ≤ x103.toInt ∧ x103.toInt ≤ ((zn : Nat) : Int) := gx103
  refine lv_bipush (v := 12) hx hb dX12_grows_13 (by decide +kernel) ?_
  refine lv_irem hx hb dX12_grows_15 (by decide +kernel) ?_
  refine lv_topi (fun x104 ex104 => ?_)
  have tx104 := zi_rem ex104 (rfl : x103.toInt = x103.toInt) (zl_12 : (12 : Int32).toInt = 12) (by omega) (by omega)
  refine W.eq (g2 := F0 m 16 ls [.int x104, .int (45 : Int32), .ref (zq_r X h0 20)]) rfl ?_
  refine lv_iadd hx hb dX12_grows_16 ?_
  refine lv_topi (fun x105 ex105 => ?_)
  have tx105 := zi_add ex105 (zl_45 : (45 : Int32).toInt = 45) (rfl : x104.toInt = x104.toInt) ⟨by omega, by omega⟩
  refine zq_ian (n := 106) (j := (x105.toNatClampNeg)) E hZ hM k101 ⟨by decide, rfl⟩ ⟨by omega, by omega⟩ rfl dX12_grows_17 (fun x106 ex106 gx106 => ?_)
  clear gx106
  refine lv_aload_n hx hb dX12_grows_18 rfl (lv_at hl 0 rfl) ?_
  refine zq_gn E hM k_h0 (zFX12_46 E hZ) (Or.inl ⟨by decide, by decide, by decide, rfl⟩) dX12_grows_19 (fun x107 ex107 gx107 => ?_)
  clear gx107
  refine lv_imul hx hb dX12_grows_22 ?_
  refine lv_topi (fun x108 ex108 => ?_)
  refine lv_bipush (v := 100) hx hb dX12_grows_23 (by decide +kernel) ?_
  refine lv_idiv hx hb dX12_grows_25 (by decide +kernel) ?_
  refine lv_topi (fun x109 ex109 => ?_)
  have tx109 := (zi_divt ex109 (rfl : x108.toInt = x108.toInt) (zl_100 : (100 : Int32).toInt = 100) (by omega)).2
  have := zi_rng x108
  refine lv_istore_n (lv' := [(1, .int x109), (0, .ref h0)]) hx hb dX12_grows_26 rfl hl (by decide) rfl (fun ls hl => ?_)
  refine lv_aload_n hx hb dX12_grows_27 rfl (lv_at hl 1 rfl) ?_
  refine zq_getr E hM k_h0 (zFX12_39 E hZ) ⟨by decide, by decide, by decide, rfl⟩ dX12_grows_28 ?_
  have k110 : zq_k X (zq_r X h0 20) = 59 := zq_lk L.1 k_h0 rfl (by decide)
  refine W.eq (g2 := F0 m 31 ls [.ref (zq_r X h0 20)]) rfl ?_
  refine lv_bipush (v := 11) hx hb dX12_grows_31 (by decide +kernel) ?_
  refine lv_iload_n hx hb dX12_grows_33 rfl (lv_at hl 0 rfl) ?_
  have J67 : ∀ (H : Heap) (locs : List Loc) (ls : Array Slot) (j122 : Int32), (zq_hm X (zk, zn) I H) → (va_S (zq_A X) s.heap H locs) → (lv_has ls 2 [(1, .int x109), (0, .ref h0)]) → W p l e R s m args below meth c H locs 0 0 Q (F0 m 67 ls [.int j122, .int (11 : Int32), .ref (zq_r X h0 20)]) := by
    intro H locs ls j122 hM hS hl
    refine zq_isn (n := 106) (j := 11) E hZ hM hS k110 ⟨by decide, rfl⟩ (by rw [zl_11]; decide) (by decide +kernel) (zq_any _) dX12_grows_67 (fun I124 H locs eI124 hM hS => ?_)
    have hR := zq_fr.putE hR eI124 (zf_ia k110 (by decide) rfl)
    subst hQ
    exact zq_vret E hr hZ hM hS hR hlocks dX12_grows_68
  refine lv_if_le (tgt := 55) hx hb dX12_grows_34 (by decide) (fun b125 => ?_) (fun b125 => ?_)
  · have b125 := zi_le b125 (rfl : x109.toInt = x109.toInt) (zl_0 : (0 : Int32).toInt = 0)
    refine lv_aload_n hx hb dX12_grows_55 rfl (lv_at hl 1 rfl) ?_
    refine zq_getr E hM k_h0 (zFX12_39 E hZ) ⟨by decide, by decide, by decide, rfl⟩ dX12_grows_56 ?_
    have k126 : zq_k X (zq_r X h0 20) = 59 := zq_lk L.1 k_h0 rfl (by decide)
    refine lv_bipush (v := 11) hx hb dX12_grows_59 (by decide +kernel) ?_
    refine zq_ian (n := 106) (j := 11) E hZ hM k126 ⟨by decide, rfl⟩ (by rw [zl_11]; decide) (by decide +kernel) dX12_grows_61 (fun x127 ex127 gx127 => ?_)
    clear gx127
    refine lv_bipush (v := 10) hx hb dX12_grows_62 (by decide +kernel) ?_
    refine zq_pcalli (zq_rS (As := [.int x127, .int (10 : Int32)]) (rest := [.int (11 : Int32), .ref (zq_r X h0 20)]) E hZ hM (c_X12_melted l X zk (zn) I L x127 (10 : Int32)) zmX12_314 zM_X12_melted (hro (0) 2 (by first | decide | omega) (by decide)) hl.1 rfl rfl (Nat.le_of_ble_eq_true rfl) dX12_grows_64) hS (fun x129 H locs h128 hM hS => ?_)
    have p130 := h128
    have := zl_10
    exact J67 H locs ls x129 hM hS (lv_sub hl [0, 1] rfl)
  · have b125 := zi_nle b125 (rfl : x109.toInt = x109.toInt) (zl_0 : (0 : Int32).toInt = 0)
    refine lv_aload_n hx hb dX12_grows_37 rfl (lv_at hl 1 rfl) ?_
    refine zq_getr E hM k_h0 (zFX12_39 E hZ) ⟨by decide, by decide, by decide, rfl⟩ dX12_grows_38 ?_
    have k131 : zq_k X (zq_r X h0 20) = 59 := zq_lk L.1 k_h0 rfl (by decide)
    refine lv_bipush (v := 11) hx hb dX12_grows_41 (by decide +kernel) ?_
    refine zq_ian (n := 106) (j := 11) E hZ hM k131 ⟨by decide, rfl⟩ (by rw [zl_11]; decide) (by decide +kernel) dX12_grows_43 (fun x132 ex132 gx132 => ?_)
    clear gx132
    refine lv_iload_n hx hb dX12_grows_44 rfl (lv_at hl 0 rfl) ?_
    refine lv_iadd hx hb dX12_grows_45 ?_
    refine lv_topi (fun x133 ex133 => ?_)
    refine lv_sipush (v := 999) hx hb dX12_grows_46 (by decide +kernel) ?_
    refine zq_pcalli (zq_rS (As := [.int x133, .int (999 : Int32)]) (rest := [.int (11 : Int32), .ref (zq_r X h0 20)]) E hZ hM (c_X12_atMost l X zk (zn) I L x133 (999 : Int32)) zmX12_321 zM_X12_atMost (hro (0) 2 (by first | decide | omega) (by decide)) hl.1 rfl rfl (Nat.le_of_ble_eq_true rfl) dX12_grows_49) hS (fun x135 H locs h134 hM hS => ?_)
    have p136 := h134
    have := zl_999
    refine lv_goto (tgt := 67) hx hb dX12_grows_52 (by decide) ?_
    exact J67 H locs ls x135 hM hS (lv_sub hl [0, 1] rfl)
def zw_X12_sells : List (Nat × Nat) := [(59, 999)]
set_option maxHeartbeats 8000000 in
set_option maxRecDepth 100000 in
theorem c_X12_sells (l : Launch) (X : zq_X) (zk zn : Nat) (I : zq_M) (L : zq_L X)  (h0 : Nat) (k_h0 : zq_k X h0 = 10) (p1 : Int32) (g_p1 : 0 ≤ p1.toInt ∧ p1.toInt ≤ 3) (q_0 : zk ≤ 4400 ∧ zn ≤ 4400) : Met l yX12_sells (zt_w yX12_sells cX12_sells 6 (some .int)) (zq_rm (1)) (va_Pc [.ref h0, .int p1] (zq_W X (zk, zn) I)) (va_Qi (fun (r : Int32) I2 => zq_fr (zf X zw_X12_sells (fun _ => False)) I I2 ∧ (0 ≤ r.toInt ∧ r.toInt ≤ 99)) (zq_E X (zk, zn)) (zq_A X)) 0 0 (zq_A X) := by
  refine Met.ofW (cc := cX12_sells) (maxL := 6) (ret := (some .int)) (by decide) rfl ?_
  intro p e s m args below meth c s₁ B hml hv
  obtain ⟨hargs, hM, hZ⟩ := hv
  have hown : s.vm.findClass RX12 = some m.cls := findClass_of_methodNamed B.named
  have hts := atoms_spec (ws := zt_w yX12_sells cX12_sells 6 (some .int)) B.pre
  have E : CallFix p m c cX12_sells 6 s args (Cond.code yX12_sells cX12_sells 6 (some .int) :: zt) RX12 := ⟨B.exec, B.bytes, hml, hown, hts⟩
  have hx := B.exec
  have hb := B.bytes
  have hr := B.returns
  have hlocks := B.notSynchronized
  clear B
  have hS : va_S (zq_A X) s.heap s.heap [] := va_S.rf
  have hR : zq_fr (zf X zw_X12_sells (fun _ => False)) I I := zq_fr.rf
  have hl := lv_entry ([.ref h0, .int p1]) (n := 6) (by exact Nat.le_of_ble_eq_true rfl)
  have hg : entryFrame m args 6 = F0 m 0 ((lg_sl ([.ref h0, .int p1]) ++ List.replicate (6 - (lg_sl ([.ref h0, .int p1])).length) Slot.unset).toArray) [] := by rw [hargs]; exact lg_entry_eq m ([.ref h0, .int p1]) 6
  rw [hg]
  clear hg hargs
  generalize (lg_sl ([.ref h0, .int p1]) ++ List.replicate (6 - (lg_sl ([.ref h0, .int p1])).length) Slot.unset).toArray = ls at hl ⊢
  have hl : lv_has ls 6 [(0, .ref h0), (1, .int p1)] := by exact hl
  obtain ⟨R, hRm⟩ : ∃ R : Room, R = (headSpec (zt_w yX12_sells cX12_sells 6 (some .int)) (zq_rm (1))).room := ⟨_, rfl⟩
  rw [← hRm]
  have hro : ∀ d q : Nat, d + 1 ≤ 1 → q ≤ 45 → zq_rok d q R := fun d q h1 h2 => by rw [hRm]; exact zq_rokI h1 h2
  generalize hQ : MQ below _ args s 0 0 (zq_A X) = Q
  obtain ⟨H, hH⟩ : ∃ H, H = s.heap := ⟨_, rfl⟩
  obtain ⟨locs, hlo⟩ : ∃ x : List Loc, x = [] := ⟨_, rfl⟩
  rw [show W p l e R s m args below meth c s.heap [] 0 0 Q = W p l e R s m args below meth c H locs 0 0 Q by rw [hH, hlo]]
  have hM : zq_hm X (zk, zn) I H := by rw [hH]; exact hM
  have hS : va_S (zq_A X) s.heap H locs := by rw [hH, hlo]; exact hS
  clear hH hlo
  refine lv_bipush (v := 25) hx hb dX12_sells_0 (by decide +kernel) ?_
  refine lv_iconst (v := 5) hx hb dX12_sells_2 (by decide +kernel) ?_
  refine lv_iload_n hx hb dX12_sells_3 rfl (lv_at hl 1 rfl) ?_
  refine lv_imul hx hb dX12_sells_4 ?_
  refine lv_topi (fun x101 ex101 => ?_)
  have tx101 := zi_mul ex101 (zl_5 : (5 : Int32).toInt = 5) (rfl : p1.toInt = p1.toInt) ⟨by omega, by omega⟩
  refine lv_iadd hx hb dX12_sells_5 ?_
  refine lv_topi (fun x102 ex102 => ?_)
  have tx102 := zi_add ex102 (zl_25 : (25 : Int32).toInt = 25) (rfl : x101.toInt = x101.toInt) ⟨by omega, by omega⟩
  refine lv_istore_n (lv' := [(2, .int x102), (0, .ref h0), (1, .int p1)]) hx hb dX12_sells_6 rfl hl (by decide) rfl (fun ls hl => ?_)
  refine lv_aload_n hx hb dX12_sells_7 rfl (lv_at hl 1 rfl) ?_
  refine zq_getr E hM k_h0 (zFX12_39 E hZ) ⟨by decide, by decide, by decide, rfl⟩ dX12_sells_8 ?_
  have k103 : zq_k X (zq_r X h0 20) = 59 := zq_lk L.1 k_h0 rfl (by decide)
  refine lv_iload_n hx hb dX12_sells_11 rfl (lv_at hl 0 rfl) ?_
  refine W.eq (g2 := F0 m 12 ls [.int x102, .ref (zq_r X h0 20)]) rfl ?_
  refine lv_iconst (v := 2) hx hb dX12_sells_12 (by decide +kernel) ?_
  refine lv_iadd hx hb dX12_sells_13 ?_
  refine lv_topi (fun x104 ex104 => ?_)
  have tx104 := zi_add ex104 (rfl : x102.toInt = x102.toInt) (zl_2 : (2 : Int32).toInt = 2) ⟨by omega, by omega⟩
  refine zq_ian (n := 106) (j := (x104.toNatClampNeg)) E hZ hM k103 ⟨by decide, rfl⟩ ⟨by omega, by omega⟩ rfl dX12_sells_14 (fun x105 ex105 gx105 => ?_)
  have hclx104 := zq_cl (i := x104) (by omega)
  have hc106 : x104.toNatClampNeg = 27 ∨ x104.toNatClampNeg = 32 ∨ x104.toNatClampNeg = 37 ∨ x104.toNatClampNeg = 42 := by omega
  replace gx105 : 0 ≤ x105.toInt ∧ x105.toInt ≤ 99 * ((zn : Nat) : Int) := by
    rcases hc106 with q9 | q9 | q9 | q9
    · rw [q9] at gx105; exact gx105
    · rw [q9] at gx105; exact gx105
    · rw [q9] at gx105; exact gx105
    · rw [q9] at gx105; exact gx105
  have := congrArg Int32.toInt ex105
  refine lv_istore_n (lv' := [(3, .int x105), (2, .int x102), (0, .ref h0), (1, .int p1)]) hx hb dX12_sells_15 rfl hl (by decide) rfl (fun ls hl => ?_)
  refine lv_aload_n hx hb dX12_sells_16 rfl (lv_at hl 2 rfl) ?_
  refine zq_getr E hM k_h0 (zFX12_39 E hZ) ⟨by decide, by decide, by decide, rfl⟩ dX12_sells_17 ?_
  have k107 : zq_k X (zq_r X h0 20) = 59 := zq_lk L.1 k_h0 rfl (by decide)
  refine lv_iload_n hx hb dX12_sells_20 rfl (lv_at hl 1 rfl) ?_
  refine zq_ian (n := 106) (j := (x102.toNatClampNeg)) E hZ hM k107 ⟨by decide, rfl⟩ ⟨by omega, by omega⟩ rfl dX12_sells_21 (fun x108 ex108 gx108 => ?_)
  have hclx102 := zq_cl (i := x102) (by omega)
  have hc109 : x102.toNatClampNeg = 25 ∨ x102.toNatClampNeg = 30 ∨ x102.toNatClampNeg = 35 ∨ x102.toNatClampNeg = 40 := by omega
  replace gx108 : 0 ≤ x108.toInt ∧ x108.toInt ≤ 99 := by
    rcases hc109 with q9 | q9 | q9 | q9
    · rw [q9] at gx108; exact gx108
    · rw [q9] at gx108; exact gx108
    · rw [q9] at gx108; exact gx108
    · rw [q9] at gx108; exact gx108
  have := congrArg Int32.toInt ex108
  refine lv_istore (lv' := [(4, .int x108), (3, .int x105), (2, .int x102), (0, .ref h0), (1, .int p1)]) hx hb dX12_sells_22 hl (by decide) rfl (fun ls hl => ?_)
  refine lv_iload_n hx hb dX12_sells_24 rfl (lv_at hl 1 rfl) ?_
  refine W.eq (g2 := F0 m 25 ls [.int x105]) rfl ?_
  refine lv_iload hx hb dX12_sells_25 (lv_at hl 0 rfl) ?_
  have J36 : ∀ (ls : Array Slot) (j110 : Int32), (0 ≤ j110.toInt ∧ j110.toInt ≤ 99) → (j110.toInt ≤ x105.toInt) → (lv_has ls 6 [(4, .int x108), (3, .int x105), (2, .int x102), (0, .ref h0), (1, .int p1)]) → W p l e R s m args below meth c H locs 0 0 Q (F0 m 36 ls [.int j110]) := by
    intro ls j110 gj110 iv36_0 hl
    refine lv_istore (lv' := [(5, .int j110), (4, .int x108), (3, .int x105), (2, .int x102), (0, .ref h0), (1, .int p1)]) hx hb dX12_sells_36 hl (by decide) rfl (fun ls hl => ?_)
    refine lv_aload_n hx hb dX12_sells_38 rfl (lv_at hl 4 rfl) ?_
    refine zq_getr E hM k_h0 (zFX12_39 E hZ) ⟨by decide, by decide, by decide, rfl⟩ dX12_sells_39 ?_
    have k167 : zq_k X (zq_r X h0 20) = 59 := zq_lk L.1 k_h0 rfl (by decide)
    refine lv_bipush (v := 10) hx hb dX12_sells_42 (by decide +kernel) ?_
    refine lv_aload_n hx hb dX12_sells_44 rfl (lv_at hl 4 rfl) ?_
    refine zq_getr E hM k_h0 (zFX12_39 E hZ) ⟨by decide, by decide, by decide, rfl⟩ dX12_sells_45 ?_
    have k168 : zq_k X (zq_r X h0 20) = 59 := zq_lk L.1 k_h0 rfl (by decide)
    refine lv_bipush (v := 10) hx hb dX12_sells_48 (by decide +kernel) ?_
    refine zq_ian (n := 106) (j := 10) E hZ hM k168 ⟨by decide, rfl⟩ (by rw [zl_10]; decide) (by decide +kernel) dX12_sells_50 (fun x169 ex169 gx169 => ?_)
    clear gx169
    have := congrArg Int32.toInt ex169
    refine lv_iload hx hb dX12_sells_51 (lv_at hl 0 rfl) ?_
    refine W.eq (g2 := F0 m 53 ls [.int j110, .int x169, .int (10 : Int32), .ref (zq_r X h0 20)]) rfl ?_
    refine lv_aload_n hx hb dX12_sells_53 rfl (lv_at hl 4 rfl) ?_
    refine zq_getr E hM k_h0 (zFX12_39 E hZ) ⟨by decide, by decide, by decide, rfl⟩ dX12_sells_54 ?_
    have k170 : zq_k X (zq_r X h0 20) = 59 := zq_lk L.1 k_h0 rfl (by decide)
    refine lv_iload_n hx hb dX12_sells_57 rfl (lv_at hl 3 rfl) ?_
    refine lv_iconst (v := 1) hx hb dX12_sells_58 (by decide +kernel) ?_
    refine lv_iadd hx hb dX12_sells_59 ?_
    refine lv_topi (fun x171 ex171 => ?_)
    have tx171 := zi_add ex171 (rfl : x102.toInt = x102.toInt) (zl_1 : (1 : Int32).toInt = 1) ⟨by omega, by omega⟩
    refine zq_ian (n := 106) (j := (x171.toNatClampNeg)) E hZ hM k170 ⟨by decide, rfl⟩ ⟨by omega, by omega⟩ rfl dX12_sells_60 (fun x172 ex172 gx172 => ?_)
    have hclx171 := zq_cl (i := x171) (by omega)
    have hc173 : x171.toNatClampNeg = 26 ∨ x171.toNatClampNeg = 31 ∨ x171.toNatClampNeg = 36 ∨ x171.toNatClampNeg = 41 := by omega
    replace gx172 : 0 ≤ x172.toInt ∧ x172.toInt ≤ 99 := by
      rcases hc173 with q9 | q9 | q9 | q9
      · rw [q9] at gx172; exact gx172
      · rw [q9] at gx172; exact gx172
      · rw [q9] at gx172; exact gx172
      · rw [q9] at gx172; exact gx172
    have := congrArg Int32.toInt ex172
    refine lv_imul hx hb dX12_sells_61 ?_
    refine lv_topi (fun x174 ex174 => ?_)
    have tx174 := zi_mulb ex174 0 99 0 99 ⟨by omega, by omega⟩ ⟨by omega, by omega⟩ (by decide)
    have tx174 : 0 ≤ x174.toInt ∧ x174.toInt ≤ 9801 := ⟨tx174.2.1, tx174.2.2⟩
    refine lv_iadd hx hb dX12_sells_62 ?_
    refine lv_topi (fun x175 ex175 => ?_)
    refine W.ldc (v := 99999) hx hb hown (hts _ (List.mem_cons_of_mem _ zCX12_162)) rfl dX12_sells_63 ?_
    refine W.eq (g2 := F0 m 65 ls [.int (99999 : Int32), .int x175, .int (10 : Int32), .ref (zq_r X h0 20)]) rfl ?_
    refine zq_pcalli (zq_rS (As := [.int x175, .int (99999 : Int32)]) (rest := [.int (10 : Int32), .ref (zq_r X h0 20)]) E hZ hM (c_X12_atMost l X zk (zn) I L x175 (99999 : Int32)) zmX12_321 zM_X12_atMost (hro (0) 2 (by first | decide | omega) (by decide)) hl.1 rfl rfl (Nat.le_of_ble_eq_true rfl) dX12_sells_65) hS (fun x177 H locs h176 hM hS => ?_)
    have p178 := h176
    have := zl_99999
    refine W.eq (g2 := F0 m 68 ls [.int x177, .int (10 : Int32), .ref (zq_r X h0 20)]) rfl ?_
    refine zq_isn (n := 106) (j := 10) E hZ hM hS k167 ⟨by decide, rfl⟩ (by rw [zl_10]; decide) (by decide +kernel) (zq_any _) dX12_sells_68 (fun I179 H locs eI179 hM hS => ?_)
    have hR := zq_fr.putE hR eI179 (zf_ia k167 (by decide) rfl)
    refine lv_aload_n hx hb dX12_sells_69 rfl (lv_at hl 4 rfl) ?_
    refine zq_getr E hM k_h0 (zFX12_39 E hZ) ⟨by decide, by decide, by decide, rfl⟩ dX12_sells_70 ?_
    have k180 : zq_k X (zq_r X h0 20) = 59 := zq_lk L.1 k_h0 rfl (by decide)
    refine lv_iload_n hx hb dX12_sells_73 rfl (lv_at hl 3 rfl) ?_
    refine lv_iconst (v := 4) hx hb dX12_sells_74 (by decide +kernel) ?_
    refine lv_iadd hx hb dX12_sells_75 ?_
    refine lv_topi (fun x181 ex181 => ?_)
    have tx181 := zi_add ex181 (rfl : x102.toInt = x102.toInt) (zl_4 : (4 : Int32).toInt = 4) ⟨by omega, by omega⟩
    refine lv_dup2_11 hx hb dX12_sells_76 rfl rfl ?_
    refine zq_ian (n := 106) (j := (x181.toNatClampNeg)) E hZ hM k180 ⟨by decide, rfl⟩ ⟨by omega, by omega⟩ rfl dX12_sells_77 (fun x182 ex182 gx182 => ?_)
    clear gx182
    have := congrArg Int32.toInt ex182
    refine lv_iload hx hb dX12_sells_78 (lv_at hl 0 rfl) ?_
    refine lv_iadd hx hb dX12_sells_80 ?_
    refine lv_topi (fun x183 ex183 => ?_)
    refine W.eq (g2 := F0 m 81 ls [.int x183, .int x181, .ref (zq_r X h0 20)]) rfl ?_
    have hclx181 := zq_cl (i := x181) (by omega)
    have hc185 : x181.toNatClampNeg = 29 ∨ x181.toNatClampNeg = 34 ∨ x181.toNatClampNeg = 39 ∨ x181.toNatClampNeg = 44 := by omega
    have hp186 : (zq_rg (zk, zn) 59 x181.toNatClampNeg).1 ≤ x183.toInt ∧ x183.toInt ≤ (zq_rg (zk, zn) 59 x181.toNatClampNeg).2 := by
      rcases hc185 with q9 | q9 | q9 | q9
      · rw [q9]; exact zq_any _
      · rw [q9]; exact zq_any _
      · rw [q9]; exact zq_any _
      · rw [q9]; exact zq_any _
    refine zq_isn (n := 106) (j := (x181.toNatClampNeg)) E hZ hM hS k180 ⟨by decide, rfl⟩ ⟨by omega, by omega⟩ rfl hp186 dX12_sells_81 (fun I184 H locs eI184 hM hS => ?_)
    have hR := zq_fr.putE hR eI184 (zf_ia k180 (by decide) rfl)
    refine lv_aload_n hx hb dX12_sells_82 rfl (lv_at hl 4 rfl) ?_
    refine zq_getr E hM k_h0 (zFX12_39 E hZ) ⟨by decide, by decide, by decide, rfl⟩ dX12_sells_83 ?_
    have k187 : zq_k X (zq_r X h0 20) = 59 := zq_lk L.1 k_h0 rfl (by decide)
    refine lv_iload_n hx hb dX12_sells_86 rfl (lv_at hl 3 rfl) ?_
    refine lv_iconst (v := 2) hx hb dX12_sells_87 (by decide +kernel) ?_
    refine lv_iadd hx hb dX12_sells_88 ?_
    refine lv_topi (fun x188 ex188 => ?_)
    have tx188 := zi_add ex188 (rfl : x102.toInt = x102.toInt) (zl_2 : (2 : Int32).toInt = 2) ⟨by omega, by omega⟩
    refine lv_iload_n hx hb dX12_sells_89 rfl (lv_at hl 2 rfl) ?_
    refine lv_iload hx hb dX12_sells_90 (lv_at hl 0 rfl) ?_
    refine lv_isub hx hb dX12_sells_92 ?_
    refine lv_topi (fun x189 ex189 => ?_)
    have tx189 := zi_sub ex189 (rfl : x105.toInt = x105.toInt) (rfl : j110.toInt = j110.toInt) ⟨by omega, by omega⟩
    refine lv_aload_n hx hb dX12_sells_93 rfl (lv_at hl 4 rfl) ?_
    refine W.eq (g2 := F0 m 94 ls [.ref h0, .int x189, .int x188, .ref (zq_r X h0 20)]) rfl ?_
    refine zq_getr E hM k_h0 (zFX12_39 E hZ) ⟨by decide, by decide, by decide, rfl⟩ dX12_sells_94 ?_
    have k190 : zq_k X (zq_r X h0 20) = 59 := zq_lk L.1 k_h0 rfl (by decide)
    refine lv_iload_n hx hb dX12_sells_97 rfl (lv_at hl 3 rfl) ?_
    refine lv_iconst (v := 3) hx hb dX12_sells_98 (by decide +kernel) ?_
    refine lv_iadd hx hb dX12_sells_99 ?_
    refine lv_topi (fun x191 ex191 => ?_)
    have tx191 := zi_add ex191 (rfl : x102.toInt = x102.toInt) (zl_3 : (3 : Int32).toInt = 3) ⟨by omega, by omega⟩
    refine zq_ian (n := 106) (j := (x191.toNatClampNeg)) E hZ hM k190 ⟨by decide, rfl⟩ ⟨by omega, by omega⟩ rfl dX12_sells_100 (fun x192 ex192 gx192 => ?_)
    clear gx192
    have := congrArg Int32.toInt ex192
    refine lv_iconst (v := 1) hx hb dX12_sells_101 (by decide +kernel) ?_
    have J120 : ∀ (H : Heap) (locs : List Loc) (ls : Array Slot) (j200 : Int32), (zq_hm X (zk, zn) I184 H) → (va_S (zq_A X) s.heap H locs) → (0 ≤ j200.toInt ∧ j200.toInt ≤ 60) → (lv_has ls 6 [(5, .int j110), (4, .int x108), (3, .int x105), (2, .int x102), (0, .ref h0), (1, .int p1)]) → W p l e R s m args below meth c H locs 0 0 Q (F0 m 120 ls [.int j200, .int x189, .int x188, .ref (zq_r X h0 20)]) := by
      intro H locs ls j200 hM hS gj200 hl
      refine zq_pcalli (zq_rS (As := [.int x189, .int j200]) (rest := [.int x188, .ref (zq_r X h0 20)]) E hZ hM (c_X12_melted l X zk (zn) I184 L x189 j200) zmX12_314 zM_X12_melted (hro (0) 2 (by first | decide | omega) (by decide)) hl.1 rfl rfl (Nat.le_of_ble_eq_true rfl) dX12_sells_120) hS (fun x224 H locs h223 hM hS => ?_)
      have p225 := h223
      have hclx188 := zq_cl (i := x188) (by omega)
      have hc227 : x188.toNatClampNeg = 27 ∨ x188.toNatClampNeg = 32 ∨ x188.toNatClampNeg = 37 ∨ x188.toNatClampNeg = 42 := by omega
      have hp228 : (zq_rg (zk, zn) 59 x188.toNatClampNeg).1 ≤ x224.toInt ∧ x224.toInt ≤ (zq_rg (zk, zn) 59 x188.toNatClampNeg).2 := by
        rcases hc227 with q9 | q9 | q9 | q9
        · rw [q9]; exact (show 0 ≤ x224.toInt ∧ x224.toInt ≤ 99 * ((zn : Nat) : Int) from ⟨by omega, by omega⟩)
        · rw [q9]; exact (show 0 ≤ x224.toInt ∧ x224.toInt ≤ 99 * ((zn : Nat) : Int) from ⟨by omega, by omega⟩)
        · rw [q9]; exact (show 0 ≤ x224.toInt ∧ x224.toInt ≤ 99 * ((zn : Nat) : Int) from ⟨by omega, by omega⟩)
        · rw [q9]; exact (show 0 ≤ x224.toInt ∧ x224.toInt ≤ 99 * ((zn : Nat) : Int) from ⟨by omega, by omega⟩)
      refine zq_isn (n := 106) (j := (x188.toNatClampNeg)) E hZ hM hS k187 ⟨by decide, rfl⟩ ⟨by omega, by omega⟩ rfl hp228 dX12_sells_123 (fun I226 H locs eI226 hM hS => ?_)
      have hR := zq_fr.putE hR eI226 (zf_ia k187 (by decide) rfl)
      refine lv_iload_n hx hb dX12_sells_124 rfl (lv_at hl 2 rfl) ?_
      refine lv_iload hx hb dX12_sells_125 (lv_at hl 1 rfl) ?_
      have J150 : ∀ (I237 : zq_M) (H : Heap) (locs : List Loc) (ls : Array Slot), (zq_hm X (zk, zn) I237 H) → (va_S (zq_A X) s.heap H locs) → (zq_fr (zf X zw_X12_sells (fun _ => False)) I I237) → ((x108.toInt ≤ x105.toInt ∧ 1 ≤ x108.toInt) ∨ I237 (zq_r X h0 20) x102.toNatClampNeg = x108) → (lv_has ls 6 [(5, .int j110), (4, .int x108), (3, .int x105), (2, .int x102), (0, .ref h0), (1, .int p1)]) → W p l e R s m args below meth c H locs 0 0 Q (F0 m 150 ls []) := by
        intro I237 H locs ls hM hS hR hs8 hl
        refine lv_iload_n hx hb dX12_sells_150 rfl (lv_at hl 2 rfl) ?_
        refine lv_if_ne (tgt := 169) hx hb dX12_sells_151 (by decide) (fun b245 => ?_) (fun b245 => ?_)
        · have b245 := zi_ne b245 (rfl : x105.toInt = x105.toInt) (zl_0 : (0 : Int32).toInt = 0)
          refine lv_iload hx hb dX12_sells_169 (lv_at hl 0 rfl) ?_
          subst hQ
          exact zq_iret E hr hZ hM hS ⟨hR, (by omega)⟩ hlocks dX12_sells_171
        · have b245 := zi_eq b245 (rfl : x105.toInt = x105.toInt) (zl_0 : (0 : Int32).toInt = 0)
          refine lv_iload hx hb dX12_sells_154 (lv_at hl 1 rfl) ?_
          refine lv_if_le (tgt := 169) hx hb dX12_sells_156 (by decide) (fun b246 => ?_) (fun b246 => ?_)
          · have b246 := zi_le b246 (rfl : x108.toInt = x108.toInt) (zl_0 : (0 : Int32).toInt = 0)
            refine lv_iload hx hb dX12_sells_169 (lv_at hl 0 rfl) ?_
            subst hQ
            exact zq_iret E hr hZ hM hS ⟨hR, (by omega)⟩ hlocks dX12_sells_171
          · have b246 := zi_nle b246 (rfl : x108.toInt = x108.toInt) (zl_0 : (0 : Int32).toInt = 0)
            refine lv_aload_n hx hb dX12_sells_159 rfl (lv_at hl 4 rfl) ?_
            refine zq_getr E hM k_h0 (zFX12_39 E hZ) ⟨by decide, by decide, by decide, rfl⟩ dX12_sells_160 ?_
            have k247 : zq_k X (zq_r X h0 20) = 59 := zq_lk L.1 k_h0 rfl (by decide)
            refine lv_iload_n hx hb dX12_sells_163 rfl (lv_at hl 3 rfl) ?_
            refine lv_dup2_11 hx hb dX12_sells_164 rfl rfl ?_
            refine zq_ian (n := 106) (j := (x102.toNatClampNeg)) E hZ hM k247 ⟨by decide, rfl⟩ ⟨by omega, by omega⟩ rfl dX12_sells_165 (fun x248 ex248 gx248 => ?_)
            have hclx102 := zq_cl (i := x102) (by omega)
            have hc249 : x102.toNatClampNeg = 25 ∨ x102.toNatClampNeg = 30 ∨ x102.toNatClampNeg = 35 ∨ x102.toNatClampNeg = 40 := by omega
            replace gx248 : 0 ≤ x248.toInt ∧ x248.toInt ≤ 99 := by
              rcases hc249 with q9 | q9 | q9 | q9
              · rw [q9] at gx248; exact gx248
              · rw [q9] at gx248; exact gx248
              · rw [q9] at gx248; exact gx248
              · rw [q9] at gx248; exact gx248
            have := congrArg Int32.toInt ex248
            have hs9 : 1 ≤ x248.toInt := by rcases hs8 with q | q; omega; have q2 := congrArg Int32.toInt q; omega
            refine lv_iconst (v := 1) hx hb dX12_sells_166 (by decide +kernel) ?_
            refine lv_isub hx hb dX12_sells_167 ?_
            refine lv_topi (fun x250 ex250 => ?_)
            have tx250 := zi_sub ex250 (rfl : x248.toInt = x248.toInt) (zl_1 : (1 : Int32).toInt = 1) ⟨by omega, by omega⟩
            have hclx102 := zq_cl (i := x102) (by omega)
            have hc252 : x102.toNatClampNeg = 25 ∨ x102.toNatClampNeg = 30 ∨ x102.toNatClampNeg = 35 ∨ x102.toNatClampNeg = 40 := by omega
            have hp253 : (zq_rg (zk, zn) 59 x102.toNatClampNeg).1 ≤ x250.toInt ∧ x250.toInt ≤ (zq_rg (zk, zn) 59 x102.toNatClampNeg).2 := by
              rcases hc252 with q9 | q9 | q9 | q9
              · rw [q9]; exact (show 0 ≤ x250.toInt ∧ x250.toInt ≤ 99 from ⟨by omega, by omega⟩)
              · rw [q9]; exact (show 0 ≤ x250.toInt ∧ x250.toInt ≤ 99 from ⟨by omega, by omega⟩)
              · rw [q9]; exact (show 0 ≤ x250.toInt ∧ x250.toInt ≤ 99 from ⟨by omega, by omega⟩)
              · rw [q9]; exact (show 0 ≤ x250.toInt ∧ x250.toInt ≤ 99 from ⟨by omega, by omega⟩)
            refine zq_isn (n := 106) (j := (x102.toNatClampNeg)) E hZ hM hS k247 ⟨by decide, rfl⟩ ⟨by omega, by omega⟩ rfl hp253 dX12_sells_168 (fun I251 H locs eI251 hM hS => ?_)
            have hR := zq_fr.putE hR eI251 (zf_ia k247 (by decide) rfl)
            refine lv_iload hx hb dX12_sells_169 (lv_at hl 0 rfl) ?_
            refine W.eq (g2 := F0 m 171 ls [.int j110]) rfl ?_
            subst hQ
            exact zq_iret E hr hZ hM hS ⟨hR, (by omega)⟩ hlocks dX12_sells_171
      refine lv_icmp_lt (tgt := 150) hx hb dX12_sells_127 (by decide) (fun b254 => ?_) (fun b254 => ?_)
      · have b254 := zi_lt b254 (rfl : x105.toInt = x105.toInt) (rfl : x108.toInt = x108.toInt)
        exact J150 I226 H locs ls hM hS hR (Or.inr (zq_kp eI226 (Or.inr (by have := zq_cl (i := x102) (by omega); have := zq_cl (i := x188) (by omega); omega)) (zq_kp eI184 (Or.inr (by have := zq_cl (i := x102) (by omega); have := zq_cl (i := x181) (by omega); omega)) (zq_kp eI179 (Or.inr (by have := zq_cl (i := x102) (by omega); omega)) ex108)))) (lv_sub hl [0, 1, 2, 3, 4, 5] rfl)
      · have b254 := zi_nlt b254 (rfl : x105.toInt = x105.toInt) (rfl : x108.toInt = x108.toInt)
        refine lv_iload hx hb dX12_sells_130 (lv_at hl 1 rfl) ?_
        refine lv_if_le (tgt := 150) hx hb dX12_sells_132 (by decide) (fun b255 => ?_) (fun b255 => ?_)
        · have b255 := zi_le b255 (rfl : x108.toInt = x108.toInt) (zl_0 : (0 : Int32).toInt = 0)
          exact J150 I226 H locs ls hM hS hR (Or.inr (zq_kp eI226 (Or.inr (by have := zq_cl (i := x102) (by omega); have := zq_cl (i := x188) (by omega); omega)) (zq_kp eI184 (Or.inr (by have := zq_cl (i := x102) (by omega); have := zq_cl (i := x181) (by omega); omega)) (zq_kp eI179 (Or.inr (by have := zq_cl (i := x102) (by omega); omega)) ex108)))) (lv_sub hl [0, 1, 2, 3, 4, 5] rfl)
        · have b255 := zi_nle b255 (rfl : x108.toInt = x108.toInt) (zl_0 : (0 : Int32).toInt = 0)
          refine lv_aload_n hx hb dX12_sells_135 rfl (lv_at hl 4 rfl) ?_
          refine zq_getr E hM k_h0 (zFX12_39 E hZ) ⟨by decide, by decide, by decide, rfl⟩ dX12_sells_136 ?_
          have k256 : zq_k X (zq_r X h0 20) = 59 := zq_lk L.1 k_h0 rfl (by decide)
          refine lv_iload_n hx hb dX12_sells_139 rfl (lv_at hl 3 rfl) ?_
          refine lv_iload hx hb dX12_sells_140 (lv_at hl 1 rfl) ?_
          refine lv_iconst (v := 1) hx hb dX12_sells_142 (by decide +kernel) ?_
          refine lv_iadd hx hb dX12_sells_143 ?_
          refine lv_topi (fun x257 ex257 => ?_)
          have tx257 := zi_add ex257 (rfl : x108.toInt = x108.toInt) (zl_1 : (1 : Int32).toInt = 1) ⟨by omega, by omega⟩
          refine lv_bipush (v := 99) hx hb dX12_sells_144 (by decide +kernel) ?_
          refine zq_pcalli (zq_rS (As := [.int x257, .int (99 : Int32)]) (rest := [.int x102, .ref (zq_r X h0 20)]) E hZ hM (c_X12_atMost l X zk (zn) I226 L x257 (99 : Int32)) zmX12_321 zM_X12_atMost (hro (0) 2 (by first | decide | omega) (by decide)) hl.1 rfl rfl (Nat.le_of_ble_eq_true rfl) dX12_sells_146) hS (fun x259 H locs h258 hM hS => ?_)
          have p260 := h258
          have := zl_99
          have hclx102 := zq_cl (i := x102) (by omega)
          have hc262 : x102.toNatClampNeg = 25 ∨ x102.toNatClampNeg = 30 ∨ x102.toNatClampNeg = 35 ∨ x102.toNatClampNeg = 40 := by omega
          have hp263 : (zq_rg (zk, zn) 59 x102.toNatClampNeg).1 ≤ x259.toInt ∧ x259.toInt ≤ (zq_rg (zk, zn) 59 x102.toNatClampNeg).2 := by
            rcases hc262 with q9 | q9 | q9 | q9
            · rw [q9]; exact (show 0 ≤ x259.toInt ∧ x259.toInt ≤ 99 from ⟨by omega, by omega⟩)
            · rw [q9]; exact (show 0 ≤ x259.toInt ∧ x259.toInt ≤ 99 from ⟨by omega, by omega⟩)
            · rw [q9]; exact (show 0 ≤ x259.toInt ∧ x259.toInt ≤ 99 from ⟨by omega, by omega⟩)
            · rw [q9]; exact (show 0 ≤ x259.toInt ∧ x259.toInt ≤ 99 from ⟨by omega, by omega⟩)
          refine zq_isn (n := 106) (j := (x102.toNatClampNeg)) E hZ hM hS k256 ⟨by decide, rfl⟩ ⟨by omega, by omega⟩ rfl hp263 dX12_sells_149 (fun I261 H locs eI261 hM hS => ?_)
          have hR := zq_fr.putE hR eI261 (zf_ia k256 (by decide) rfl)
          exact J150 I261 H locs ls hM hS hR (Or.inl ⟨by omega, by omega⟩) (lv_sub hl [0, 1, 2, 3, 4, 5] rfl)
    refine lv_icmp_ne (tgt := 115) hx hb dX12_sells_102 (by decide) (fun b264 => ?_) (fun b264 => ?_)
    · have b264 := zi_ne b264 (rfl : x192.toInt = x192.toInt) (zl_1 : (1 : Int32).toInt = 1)
      refine lv_aload_n hx hb dX12_sells_115 rfl (lv_at hl 4 rfl) ?_
      refine lv_iload_n hx hb dX12_sells_116 rfl (lv_at hl 5 rfl) ?_
      refine zq_pcalli (zq_rV (As := [.int p1]) (rest := [.int x189, .int x188, .ref (zq_r X h0 20)]) E hZ hM k_h0 (c_X12_heatOf l X zk (zn) I184 L h0 k_h0 p1 ⟨by omega, by omega⟩ (by omega)) zmX12_305 zM_X12_heatOf (hro (0) 2 (by first | decide | omega) (by decide)) ⟨by decide, by decide⟩ rfl hl.1 rfl rfl (Nat.le_of_ble_eq_true rfl) dX12_sells_117) hS (fun x266 H locs h265 hM hS => ?_)
      have p267 := h265
      exact J120 H locs ls x266 hM hS (⟨by omega, by omega⟩) (lv_sub hl [0, 1, 2, 3, 4, 5] rfl)
    · have b264 := zi_eq b264 (rfl : x192.toInt = x192.toInt) (zl_1 : (1 : Int32).toInt = 1)
      refine lv_aload_n hx hb dX12_sells_105 rfl (lv_at hl 4 rfl) ?_
      refine lv_iload_n hx hb dX12_sells_106 rfl (lv_at hl 5 rfl) ?_
      refine zq_pcalli (zq_rV (As := [.int p1]) (rest := [.int x189, .int x188, .ref (zq_r X h0 20)]) E hZ hM k_h0 (c_X12_heatOf l X zk (zn) I184 L h0 k_h0 p1 ⟨by omega, by omega⟩ (by omega)) zmX12_305 zM_X12_heatOf (hro (0) 2 (by first | decide | omega) (by decide)) ⟨by decide, by decide⟩ rfl hl.1 rfl rfl (Nat.le_of_ble_eq_true rfl) dX12_sells_107) hS (fun x269 H locs h268 hM hS => ?_)
      have p270 := h268
      refine lv_iconst (v := 4) hx hb dX12_sells_110 (by decide +kernel) ?_
      refine lv_idiv hx hb dX12_sells_111 (by decide +kernel) ?_
      refine lv_topi (fun x271 ex271 => ?_)
      have tx271 := zi_divn ex271 (rfl : x269.toInt = x269.toInt) (zl_4 : (4 : Int32).toInt = 4) (by omega) (by omega)
      refine lv_goto (tgt := 120) hx hb dX12_sells_112 (by decide) ?_
      exact J120 H locs ls x271 hM hS (⟨by omega, by omega⟩) (lv_sub hl [0, 1, 2, 3, 4, 5] rfl)
  refine lv_icmp_ge (tgt := 34) hx hb dX12_sells_27 (by decide) (fun b272 => ?_) (fun b272 => ?_)
  · have b272 := zi_le b272 (rfl : x108.toInt = x108.toInt) (rfl : x105.toInt = x105.toInt)
    refine lv_iload hx hb dX12_sells_34 (lv_at hl 0 rfl) ?_
    exact J36 ls x108 (⟨by omega, by omega⟩) (by omega) (lv_sub hl [0, 1, 2, 3, 4] rfl)
  · have b272 := zi_nle b272 (rfl : x108.toInt = x108.toInt) (rfl : x105.toInt = x105.toInt)
    refine lv_iload_n hx hb dX12_sells_30 rfl (lv_at hl 1 rfl) ?_
    refine lv_goto (tgt := 36) hx hb dX12_sells_31 (by decide) ?_
    exact J36 ls x105 (⟨by omega, by omega⟩) (by omega) (lv_sub hl [0, 1, 2, 3, 4] rfl)
set_option maxHeartbeats 8000000 in
set_option maxRecDepth 100000 in
theorem c_X12_canSail (l : Launch) (X : zq_X) (zk zn : Nat) (I : zq_M) (L : zq_L X)  (h0 : Nat) (k_h0 : zq_k X h0 = 10) (p1 : Int32) (p2 : Int32) (p3 : Int32) (g_p1 : 0 ≤ p1.toInt ∧ p1.toInt ≤ 2) (g_p3 : 0 ≤ p3.toInt ∧ p3.toInt ≤ 1) (q_0 : zk ≤ 4400 ∧ zn ≤ 4400) : Met l yX12_canSail (zt_w yX12_canSail cX12_canSail 5 (some .boolean)) (zq_rm (2)) (va_Pc [.ref h0, .int p1, .int p2, .int p3] (zq_W X (zk, zn) I)) (va_Qi (fun (r : Int32) I2 => I2 = I ∧ (0 ≤ r.toInt ∧ r.toInt ≤ 1) ∧ (r.toInt = 0 ∨ (1 ≤ p2.toInt ∧ p2.toInt ≤ 99))) (zq_E X (zk, zn)) (zq_A X)) 0 0 (zq_A X) := by
  refine Met.ofW (cc := cX12_canSail) (maxL := 5) (ret := (some .boolean)) (by decide) rfl ?_
  intro p e s m args below meth c s₁ B hml hv
  obtain ⟨hargs, hM, hZ⟩ := hv
  have hown : s.vm.findClass RX12 = some m.cls := findClass_of_methodNamed B.named
  have hts := atoms_spec (ws := zt_w yX12_canSail cX12_canSail 5 (some .boolean)) B.pre
  have E : CallFix p m c cX12_canSail 5 s args (Cond.code yX12_canSail cX12_canSail 5 (some .boolean) :: zt) RX12 := ⟨B.exec, B.bytes, hml, hown, hts⟩
  have hx := B.exec
  have hb := B.bytes
  have hr := B.returns
  have hlocks := B.notSynchronized
  clear B
  have hS : va_S (zq_A X) s.heap s.heap [] := va_S.rf
  have hl := lv_entry ([.ref h0, .int p1, .int p2, .int p3]) (n := 5) (by exact Nat.le_of_ble_eq_true rfl)
  have hg : entryFrame m args 5 = F0 m 0 ((lg_sl ([.ref h0, .int p1, .int p2, .int p3]) ++ List.replicate (5 - (lg_sl ([.ref h0, .int p1, .int p2, .int p3])).length) Slot.unset).toArray) [] := by rw [hargs]; exact lg_entry_eq m ([.ref h0, .int p1, .int p2, .int p3]) 5
  rw [hg]
  clear hg hargs
  generalize (lg_sl ([.ref h0, .int p1, .int p2, .int p3]) ++ List.replicate (5 - (lg_sl ([.ref h0, .int p1, .int p2, .int p3])).length) Slot.unset).toArray = ls at hl ⊢
  have hl : lv_has ls 5 [(0, .ref h0), (1, .int p1), (2, .int p2), (3, .int p3)] := by exact hl
  obtain ⟨R, hRm⟩ : ∃ R : Room, R = (headSpec (zt_w yX12_canSail cX12_canSail 5 (some .boolean)) (zq_rm (2))).room := ⟨_, rfl⟩
  rw [← hRm]
  have hro : ∀ d q : Nat, d + 1 ≤ 2 → q ≤ 45 → zq_rok d q R := fun d q h1 h2 => by rw [hRm]; exact zq_rokI h1 h2
  generalize hQ : MQ below _ args s 0 0 (zq_A X) = Q
  obtain ⟨H, hH⟩ : ∃ H, H = s.heap := ⟨_, rfl⟩
  obtain ⟨locs, hlo⟩ : ∃ x : List Loc, x = [] := ⟨_, rfl⟩
  rw [show W p l e R s m args below meth c s.heap [] 0 0 Q = W p l e R s m args below meth c H locs 0 0 Q by rw [hH, hlo]]
  have hM : zq_hm X (zk, zn) I H := by rw [hH]; exact hM
  have hS : va_S (zq_A X) s.heap H locs := by rw [hH, hlo]; exact hS
  clear hH hlo
  refine lv_aload_n hx hb dX12_canSail_0 rfl (lv_at hl 0 rfl) ?_
  refine lv_iload_n hx hb dX12_canSail_1 rfl (lv_at hl 1 rfl) ?_
  refine zq_pcalli (zq_rV (As := [.int p1]) (rest := []) E hZ hM k_h0 (c_X12_costOf l X zk (zn) I L h0 k_h0 p1 ⟨by omega, by omega⟩ (by omega)) zmX12_296 zM_X12_costOf (hro (0) 2 (by first | decide | omega) (by decide)) ⟨by decide, by decide⟩ rfl hl.1 rfl rfl (Nat.le_of_ble_eq_true rfl) dX12_canSail_2) hS (fun x102 H locs h101 hM hS => ?_)
  clear h101
  refine lv_aload_n hx hb dX12_canSail_5 rfl (lv_at hl 0 rfl) ?_
  refine zq_getr E hM k_h0 (zFX12_39 E hZ) ⟨by decide, by decide, by decide, rfl⟩ dX12_canSail_6 ?_
  have k103 : zq_k X (zq_r X h0 20) = 59 := zq_lk L.1 k_h0 rfl (by decide)
  refine lv_iconst (v := 1) hx hb dX12_canSail_9 (by decide +kernel) ?_
  refine zq_ian (n := 106) (j := 1) E hZ hM k103 ⟨by decide, rfl⟩ (by rw [zl_1]; decide) (by decide +kernel) dX12_canSail_10 (fun x104 ex104 gx104 => ?_)
  replace gx104 : 0 ≤ x104.toInt ∧ x104.toInt ≤ 20 := gx104
  refine lv_iload_n hx hb dX12_canSail_11 rfl (lv_at hl 2 rfl) ?_
  refine lv_imul hx hb dX12_canSail_12 ?_
  refine lv_topi (fun x105 ex105 => ?_)
  refine W.eq (g2 := F0 m 13 ls [.int x105, .int x102]) rfl ?_
  refine lv_iadd hx hb dX12_canSail_13 ?_
  refine lv_topi (fun x106 ex106 => ?_)
  refine lv_iload_n hx hb dX12_canSail_14 rfl (lv_at hl 3 rfl) ?_
  have J23 : ∀ (ls : Array Slot) (j107 : Int32), (lv_has ls 5 [(0, .ref h0), (1, .int p1), (2, .int p2), (3, .int p3)]) → W p l e R s m args below meth c H locs 0 0 Q (F0 m 23 ls [.int j107, .int x106]) := by
    intro ls j107 hl
    refine lv_iadd hx hb dX12_canSail_23 ?_
    refine lv_topi (fun x125 ex125 => ?_)
    refine lv_istore (lv' := [(4, .int x125), (0, .ref h0), (1, .int p1), (2, .int p2), (3, .int p3)]) hx hb dX12_canSail_24 hl (by decide) rfl (fun ls hl => ?_)
    refine lv_aload_n hx hb dX12_canSail_26 rfl (lv_at hl 1 rfl) ?_
    refine lv_iload_n hx hb dX12_canSail_27 rfl (lv_at hl 2 rfl) ?_
    refine zq_pcalli (zq_rV (As := [.int p1]) (rest := []) E hZ hM k_h0 (c_X12_isHome l X zk (zn) I L h0 k_h0 p1 ⟨by omega, by omega⟩ (by omega)) zmX12_342 zM_X12_isHome (hro (1) 2 (by first | decide | omega) (by decide)) ⟨by decide, by decide⟩ rfl hl.1 rfl rfl (Nat.le_of_ble_eq_true rfl) dX12_canSail_28) hS (fun x127 H locs h126 hM hS => ?_)
    have p128 := h126
    refine lv_if_eq (tgt := 76) hx hb dX12_canSail_31 (by decide) (fun b129 => ?_) (fun b129 => ?_)
    · have b129 := zi_eq b129 (rfl : x127.toInt = x127.toInt) (zl_0 : (0 : Int32).toInt = 0)
      refine lv_iconst (v := 0) hx hb dX12_canSail_76 (by decide +kernel) ?_
      subst hQ
      exact zq_zret E hr hZ hM hS (show 0 ≤ (0 : Int32).toInt ∧ (0 : Int32).toInt ≤ 1 by decide +kernel) ⟨rfl, (by have := zl_0; omega), (by have := zl_0; omega)⟩ hlocks dX12_canSail_77
    · have b129 := zi_ne b129 (rfl : x127.toInt = x127.toInt) (zl_0 : (0 : Int32).toInt = 0)
      refine lv_iload_n hx hb dX12_canSail_34 rfl (lv_at hl 3 rfl) ?_
      refine lv_i2l hx hb dX12_canSail_35 rfl ?_
      refine lv_topl (fun y130 ey130 => ?_)
      have ty130 := zi_i2l ey130
      have := zi_rng p2
      refine lv_lconst (v := 1) hx hb dX12_canSail_36 (by decide +kernel) ?_
      refine lv_aload_n hx hb dX12_canSail_37 rfl (lv_at hl 1 rfl) ?_
      refine lv_iload_n hx hb dX12_canSail_38 rfl (lv_at hl 2 rfl) ?_
      refine zq_pcalli (zq_rV (As := [.int p1]) (rest := [.long (1 : Int64), .long y130]) E hZ hM k_h0 (c_X12_holdOf l X zk (zn) I L h0 k_h0 p1 ⟨by omega, by omega⟩ (by omega)) zmX12_293 zM_X12_holdOf (hro (0) 2 (by first | decide | omega) (by decide)) ⟨by decide, by decide⟩ rfl hl.1 rfl rfl (Nat.le_of_ble_eq_true rfl) dX12_canSail_39) hS (fun x132 H locs h131 hM hS => ?_)
      have p133 := h131
      refine lv_i2l hx hb dX12_canSail_42 rfl ?_
      refine lv_topl (fun y134 ey134 => ?_)
      have ty134 := zi_i2l ey134
      refine zq_pcalli (zq_rS (As := [.long y130, .long (1 : Int64), .long y134]) (rest := []) E hZ hM (c_X12_in l X zk (zn) I L y130 (1 : Int64) y134) zmX12_112 zM_X12_in (hro (0) 6 (by first | decide | omega) (by decide)) hl.1 rfl rfl (Nat.le_of_ble_eq_true rfl) dX12_canSail_43) hS (fun x136 H locs h135 hM hS => ?_)
      obtain ⟨p137, p138⟩ := h135
      have : (1 : Int64).toInt = 1 := by decide +kernel
      refine lv_if_eq (tgt := 76) hx hb dX12_canSail_46 (by decide) (fun b139 => ?_) (fun b139 => ?_)
      · have b139 := zi_eq b139 (rfl : x136.toInt = x136.toInt) (zl_0 : (0 : Int32).toInt = 0)
        refine lv_iconst (v := 0) hx hb dX12_canSail_76 (by decide +kernel) ?_
        subst hQ
        exact zq_zret E hr hZ hM hS (show 0 ≤ (0 : Int32).toInt ∧ (0 : Int32).toInt ≤ 1 by decide +kernel) ⟨rfl, (by have := zl_0; omega), (by have := zl_0; omega)⟩ hlocks dX12_canSail_77
      · have b139 := zi_ne b139 (rfl : x136.toInt = x136.toInt) (zl_0 : (0 : Int32).toInt = 0)
        refine lv_iload_n hx hb dX12_canSail_49 rfl (lv_at hl 3 rfl) ?_
        refine lv_aload_n hx hb dX12_canSail_50 rfl (lv_at hl 1 rfl) ?_
        refine zq_getr E hM k_h0 (zFX12_39 E hZ) ⟨by decide, by decide, by decide, rfl⟩ dX12_canSail_51 ?_
        have k140 : zq_k X (zq_r X h0 20) = 59 := zq_lk L.1 k_h0 rfl (by decide)
        refine lv_bipush (v := 11) hx hb dX12_canSail_54 (by decide +kernel) ?_
        refine zq_ian (n := 106) (j := 11) E hZ hM k140 ⟨by decide, rfl⟩ (by rw [zl_11]; decide) (by decide +kernel) dX12_canSail_56 (fun x141 ex141 gx141 => ?_)
        clear gx141
        refine lv_icmp_gt (tgt := 76) hx hb dX12_canSail_57 (by decide) (fun b142 => ?_) (fun b142 => ?_)
        · have b142 := zi_lt b142 (rfl : x141.toInt = x141.toInt) (rfl : p2.toInt = p2.toInt)
          refine lv_iconst (v := 0) hx hb dX12_canSail_76 (by decide +kernel) ?_
          subst hQ
          exact zq_zret E hr hZ hM hS (show 0 ≤ (0 : Int32).toInt ∧ (0 : Int32).toInt ≤ 1 by decide +kernel) ⟨rfl, (by have := zl_0; omega), (by have := zl_0; omega)⟩ hlocks dX12_canSail_77
        · have b142 := zi_nlt b142 (rfl : x141.toInt = x141.toInt) (rfl : p2.toInt = p2.toInt)
          refine lv_iload hx hb dX12_canSail_60 (lv_at hl 0 rfl) ?_
          refine lv_aload_n hx hb dX12_canSail_62 rfl (lv_at hl 1 rfl) ?_
          refine zq_getr E hM k_h0 (zFX12_39 E hZ) ⟨by decide, by decide, by decide, rfl⟩ dX12_canSail_63 ?_
          have k143 : zq_k X (zq_r X h0 20) = 59 := zq_lk L.1 k_h0 rfl (by decide)
          refine lv_bipush (v := 10) hx hb dX12_canSail_66 (by decide +kernel) ?_
          refine zq_ian (n := 106) (j := 10) E hZ hM k143 ⟨by decide, rfl⟩ (by rw [zl_10]; decide) (by decide +kernel) dX12_canSail_68 (fun x144 ex144 gx144 => ?_)
          clear gx144
          refine lv_icmp_gt (tgt := 76) hx hb dX12_canSail_69 (by decide) (fun b145 => ?_) (fun b145 => ?_)
          · have b145 := zi_lt b145 (rfl : x144.toInt = x144.toInt) (rfl : x125.toInt = x125.toInt)
            refine lv_iconst (v := 0) hx hb dX12_canSail_76 (by decide +kernel) ?_
            subst hQ
            exact zq_zret E hr hZ hM hS (show 0 ≤ (0 : Int32).toInt ∧ (0 : Int32).toInt ≤ 1 by decide +kernel) ⟨rfl, (by have := zl_0; omega), (by have := zl_0; omega)⟩ hlocks dX12_canSail_77
          · have b145 := zi_nlt b145 (rfl : x144.toInt = x144.toInt) (rfl : x125.toInt = x125.toInt)
            refine lv_iconst (v := 1) hx hb dX12_canSail_72 (by decide +kernel) ?_
            refine lv_goto (tgt := 77) hx hb dX12_canSail_73 (by decide) ?_
            subst hQ
            exact zq_zret E hr hZ hM hS (show 0 ≤ (1 : Int32).toInt ∧ (1 : Int32).toInt ≤ 1 by decide +kernel) ⟨rfl, (by have := zl_1; omega), (by have := zl_1; omega)⟩ hlocks dX12_canSail_77
  refine lv_if_eq (tgt := 22) hx hb dX12_canSail_15 (by decide) (fun b146 => ?_) (fun b146 => ?_)
  · have b146 := zi_eq b146 (rfl : p3.toInt = p3.toInt) (zl_0 : (0 : Int32).toInt = 0)
    refine lv_iconst (v := 0) hx hb dX12_canSail_22 (by decide +kernel) ?_
    exact J23 ls (0 : Int32) (lv_sub hl [0, 1, 2, 3] rfl)
  · have b146 := zi_ne b146 (rfl : p3.toInt = p3.toInt) (zl_0 : (0 : Int32).toInt = 0)
    refine lv_iload_n hx hb dX12_canSail_18 rfl (lv_at hl 2 rfl) ?_
    refine lv_goto (tgt := 23) hx hb dX12_canSail_19 (by decide) ?_
    exact J23 ls p2 (lv_sub hl [0, 1, 2, 3] rfl)
set_option maxHeartbeats 8000000 in
set_option maxRecDepth 100000 in
theorem c_X12_canBuild (l : Launch) (X : zq_X) (zk zn : Nat) (I : zq_M) (L : zq_L X)  (h0 : Nat) (k_h0 : zq_k X h0 = 10) (p1 : Int32) (g_p1 : 0 ≤ p1.toInt ∧ p1.toInt ≤ 3) (q_0 : zk ≤ 4400 ∧ zn ≤ 4400) : Met l yX12_canBuild (zt_w yX12_canBuild cX12_canBuild 2 (some .boolean)) (zq_rm (1)) (va_Pc [.ref h0, .int p1] (zq_W X (zk, zn) I)) (va_Qi (fun (r : Int32) I2 => I2 = I ∧ (0 ≤ r.toInt ∧ r.toInt ≤ 1)) (zq_E X (zk, zn)) (zq_A X)) 0 0 (zq_A X) := by
  refine Met.ofW (cc := cX12_canBuild) (maxL := 2) (ret := (some .boolean)) (by decide) rfl ?_
  intro p e s m args below meth c s₁ B hml hv
  obtain ⟨hargs, hM, hZ⟩ := hv
  have hown : s.vm.findClass RX12 = some m.cls := findClass_of_methodNamed B.named
  have hts := atoms_spec (ws := zt_w yX12_canBuild cX12_canBuild 2 (some .boolean)) B.pre
  have E : CallFix p m c cX12_canBuild 2 s args (Cond.code yX12_canBuild cX12_canBuild 2 (some .boolean) :: zt) RX12 := ⟨B.exec, B.bytes, hml, hown, hts⟩
  have hx := B.exec
  have hb := B.bytes
  have hr := B.returns
  have hlocks := B.notSynchronized
  clear B
  have hS : va_S (zq_A X) s.heap s.heap [] := va_S.rf
  have hl := lv_entry ([.ref h0, .int p1]) (n := 2) (by exact Nat.le_of_ble_eq_true rfl)
  have hg : entryFrame m args 2 = F0 m 0 ((lg_sl ([.ref h0, .int p1]) ++ List.replicate (2 - (lg_sl ([.ref h0, .int p1])).length) Slot.unset).toArray) [] := by rw [hargs]; exact lg_entry_eq m ([.ref h0, .int p1]) 2
  rw [hg]
  clear hg hargs
  generalize (lg_sl ([.ref h0, .int p1]) ++ List.replicate (2 - (lg_sl ([.ref h0, .int p1])).length) Slot.unset).toArray = ls at hl ⊢
  have hl : lv_has ls 2 [(0, .ref h0), (1, .int p1)] := by exact hl
  obtain ⟨R, hRm⟩ : ∃ R : Room, R = (headSpec (zt_w yX12_canBuild cX12_canBuild 2 (some .boolean)) (zq_rm (1))).room := ⟨_, rfl⟩
  rw [← hRm]
  have hro : ∀ d q : Nat, d + 1 ≤ 1 → q ≤ 45 → zq_rok d q R := fun d q h1 h2 => by rw [hRm]; exact zq_rokI h1 h2
  generalize hQ : MQ below _ args s 0 0 (zq_A X) = Q
  obtain ⟨H, hH⟩ : ∃ H, H = s.heap := ⟨_, rfl⟩
  obtain ⟨locs, hlo⟩ : ∃ x : List Loc, x = [] := ⟨_, rfl⟩
  rw [show W p l e R s m args below meth c s.heap [] 0 0 Q = W p l e R s m args below meth c H locs 0 0 Q by rw [hH, hlo]]
  have hM : zq_hm X (zk, zn) I H := by rw [hH]; exact hM
  have hS : va_S (zq_A X) s.heap H locs := by rw [hH, hlo]; exact hS
  clear hH hlo
  refine lv_aload_n hx hb dX12_canBuild_0 rfl (lv_at hl 0 rfl) ?_
  refine lv_iload_n hx hb dX12_canBuild_1 rfl (lv_at hl 1 rfl) ?_
  refine lv_iconst (v := 3) hx hb dX12_canBuild_2 (by decide +kernel) ?_
  refine zq_pcalli (zq_rV (As := [.int p1, .int (3 : Int32)]) (rest := []) E hZ hM k_h0 (c_X12_townOf l X zk (zn) I L h0 k_h0 p1 (3 : Int32) ⟨by omega, by omega⟩ (by rw [zl_3]; decide) (by have := zl_3; omega)) zmX12_308 zM_X12_townOf (hro (0) 3 (by first | decide | omega) (by decide)) ⟨by decide, by decide⟩ rfl hl.1 rfl rfl (Nat.le_of_ble_eq_true rfl) dX12_canBuild_3) hS (fun x102 H locs h101 hM hS => ?_)
  obtain ⟨p103, p104, p105, p106⟩ := h101
  have := zl_3
  refine lv_if_ne (tgt := 25) hx hb dX12_canBuild_6 (by decide) (fun b107 => ?_) (fun b107 => ?_)
  · have b107 := zi_ne b107 (rfl : x102.toInt = x102.toInt) (zl_0 : (0 : Int32).toInt = 0)
    refine lv_iconst (v := 0) hx hb dX12_canBuild_25 (by decide +kernel) ?_
    subst hQ
    exact zq_zret E hr hZ hM hS (show 0 ≤ (0 : Int32).toInt ∧ (0 : Int32).toInt ≤ 1 by decide +kernel) ⟨rfl, (by have := zl_0; omega)⟩ hlocks dX12_canBuild_26
  · have b107 := zi_eq b107 (rfl : x102.toInt = x102.toInt) (zl_0 : (0 : Int32).toInt = 0)
    refine lv_aload_n hx hb dX12_canBuild_9 rfl (lv_at hl 0 rfl) ?_
    refine zq_getr E hM k_h0 (zFX12_39 E hZ) ⟨by decide, by decide, by decide, rfl⟩ dX12_canBuild_10 ?_
    have k108 : zq_k X (zq_r X h0 20) = 59 := zq_lk L.1 k_h0 rfl (by decide)
    refine lv_bipush (v := 10) hx hb dX12_canBuild_13 (by decide +kernel) ?_
    refine zq_ian (n := 106) (j := 10) E hZ hM k108 ⟨by decide, rfl⟩ (by rw [zl_10]; decide) (by decide +kernel) dX12_canBuild_15 (fun x109 ex109 gx109 => ?_)
    clear gx109
    refine lv_bipush (v := 100) hx hb dX12_canBuild_16 (by decide +kernel) ?_
    refine lv_icmp_lt (tgt := 25) hx hb dX12_canBuild_18 (by decide) (fun b110 => ?_) (fun b110 => ?_)
    · have b110 := zi_lt b110 (rfl : x109.toInt = x109.toInt) (zl_100 : (100 : Int32).toInt = 100)
      refine lv_iconst (v := 0) hx hb dX12_canBuild_25 (by decide +kernel) ?_
      subst hQ
      exact zq_zret E hr hZ hM hS (show 0 ≤ (0 : Int32).toInt ∧ (0 : Int32).toInt ≤ 1 by decide +kernel) ⟨rfl, (by have := zl_0; omega)⟩ hlocks dX12_canBuild_26
    · have b110 := zi_nlt b110 (rfl : x109.toInt = x109.toInt) (zl_100 : (100 : Int32).toInt = 100)
      refine lv_iconst (v := 1) hx hb dX12_canBuild_21 (by decide +kernel) ?_
      refine lv_goto (tgt := 26) hx hb dX12_canBuild_22 (by decide) ?_
      subst hQ
      exact zq_zret E hr hZ hM hS (show 0 ≤ (1 : Int32).toInt ∧ (1 : Int32).toInt ≤ 1 by decide +kernel) ⟨rfl, (by have := zl_1; omega)⟩ hlocks dX12_canBuild_26
def zw_X12_builds : List (Nat × Nat) := [(59, 999)]
set_option maxHeartbeats 8000000 in
set_option maxRecDepth 100000 in
theorem c_X12_builds (l : Launch) (X : zq_X) (zk zn : Nat) (I : zq_M) (L : zq_L X)  (h0 : Nat) (k_h0 : zq_k X h0 = 10) (p1 : Int32) (g_p1 : 0 ≤ p1.toInt ∧ p1.toInt ≤ 3) (q_0 : zk ≤ 4400 ∧ zn ≤ 4400) : Met l yX12_builds (zt_w yX12_builds cX12_builds 2 none) (zq_rm (0)) (va_Pc [.ref h0, .int p1] (zq_W X (zk, zn) I)) (va_Qv (fun I2 => zq_fr (zf X zw_X12_builds (fun _ => False)) I I2) (zq_E X (zk, zn)) (zq_A X)) 0 0 (zq_A X) := by
  refine Met.ofW (cc := cX12_builds) (maxL := 2) (ret := none) (by decide) rfl ?_
  intro p e s m args below meth c s₁ B hml hv
  obtain ⟨hargs, hM, hZ⟩ := hv
  have hown : s.vm.findClass RX12 = some m.cls := findClass_of_methodNamed B.named
  have hts := atoms_spec (ws := zt_w yX12_builds cX12_builds 2 none) B.pre
  have E : CallFix p m c cX12_builds 2 s args (Cond.code yX12_builds cX12_builds 2 none :: zt) RX12 := ⟨B.exec, B.bytes, hml, hown, hts⟩
  have hx := B.exec
  have hb := B.bytes
  have hr := B.returns
  have hlocks := B.notSynchronized
  clear B
  have hS : va_S (zq_A X) s.heap s.heap [] := va_S.rf
  have hR : zq_fr (zf X zw_X12_builds (fun _ => False)) I I := zq_fr.rf
  have hl := lv_entry ([.ref h0, .int p1]) (n := 2) (by exact Nat.le_of_ble_eq_true rfl)
  have hg : entryFrame m args 2 = F0 m 0 ((lg_sl ([.ref h0, .int p1]) ++ List.replicate (2 - (lg_sl ([.ref h0, .int p1])).length) Slot.unset).toArray) [] := by rw [hargs]; exact lg_entry_eq m ([.ref h0, .int p1]) 2
  rw [hg]
  clear hg hargs
  generalize (lg_sl ([.ref h0, .int p1]) ++ List.replicate (2 - (lg_sl ([.ref h0, .int p1])).length) Slot.unset).toArray = ls at hl ⊢
  have hl : lv_has ls 2 [(0, .ref h0), (1, .int p1)] := by exact hl
  obtain ⟨R, hRm⟩ : ∃ R : Room, R = (headSpec (zt_w yX12_builds cX12_builds 2 none) (zq_rm (0))).room := ⟨_, rfl⟩
  rw [← hRm]
  generalize hQ : MQ below _ args s 0 0 (zq_A X) = Q
  obtain ⟨H, hH⟩ : ∃ H, H = s.heap := ⟨_, rfl⟩
  obtain ⟨locs, hlo⟩ : ∃ x : List Loc, x = [] := ⟨_, rfl⟩
  rw [show W p l e R s m args below meth c s.heap [] 0 0 Q = W p l e R s m args below meth c H locs 0 0 Q by rw [hH, hlo]]
  have hM : zq_hm X (zk, zn) I H := by rw [hH]; exact hM
  have hS : va_S (zq_A X) s.heap H locs := by rw [hH, hlo]; exact hS
  clear hH hlo
  refine lv_aload_n hx hb dX12_builds_0 rfl (lv_at hl 0 rfl) ?_
  refine zq_getr E hM k_h0 (zFX12_39 E hZ) ⟨by decide, by decide, by decide, rfl⟩ dX12_builds_1 ?_
  have k101 : zq_k X (zq_r X h0 20) = 59 := zq_lk L.1 k_h0 rfl (by decide)
  refine lv_bipush (v := 10) hx hb dX12_builds_4 (by decide +kernel) ?_
  refine lv_dup2_11 hx hb dX12_builds_6 rfl rfl ?_
  refine zq_ian (n := 106) (j := 10) E hZ hM k101 ⟨by decide, rfl⟩ (by rw [zl_10]; decide) (by decide +kernel) dX12_builds_7 (fun x102 ex102 gx102 => ?_)
  clear gx102
  refine lv_bipush (v := 100) hx hb dX12_builds_8 (by decide +kernel) ?_
  refine lv_isub hx hb dX12_builds_10 ?_
  refine lv_topi (fun x103 ex103 => ?_)
  refine zq_isn (n := 106) (j := 10) E hZ hM hS k101 ⟨by decide, rfl⟩ (by rw [zl_10]; decide) (by decide +kernel) (zq_any _) dX12_builds_11 (fun I104 H locs eI104 hM hS => ?_)
  have hR := zq_fr.putE hR eI104 (zf_ia k101 (by decide) rfl)
  refine lv_aload_n hx hb dX12_builds_12 rfl (lv_at hl 0 rfl) ?_
  refine W.eq (g2 := F0 m 13 ls [.ref h0]) rfl ?_
  refine zq_getr E hM k_h0 (zFX12_39 E hZ) ⟨by decide, by decide, by decide, rfl⟩ dX12_builds_13 ?_
  have k105 : zq_k X (zq_r X h0 20) = 59 := zq_lk L.1 k_h0 rfl (by decide)
  refine lv_bipush (v := 25) hx hb dX12_builds_16 (by decide +kernel) ?_
  refine lv_iconst (v := 5) hx hb dX12_builds_18 (by decide +kernel) ?_
  refine lv_iload_n hx hb dX12_builds_19 rfl (lv_at hl 1 rfl) ?_
  refine lv_imul hx hb dX12_builds_20 ?_
  refine lv_topi (fun x106 ex106 => ?_)
  have tx106 := zi_mul ex106 (zl_5 : (5 : Int32).toInt = 5) (rfl : p1.toInt = p1.toInt) ⟨by omega, by omega⟩
  refine lv_iadd hx hb dX12_builds_21 ?_
  refine lv_topi (fun x107 ex107 => ?_)
  have tx107 := zi_add ex107 (zl_25 : (25 : Int32).toInt = 25) (rfl : x106.toInt = x106.toInt) ⟨by omega, by omega⟩
  refine lv_iconst (v := 3) hx hb dX12_builds_22 (by decide +kernel) ?_
  refine lv_iadd hx hb dX12_builds_23 ?_
  refine lv_topi (fun x108 ex108 => ?_)
  have tx108 := zi_add ex108 (rfl : x107.toInt = x107.toInt) (zl_3 : (3 : Int32).toInt = 3) ⟨by omega, by omega⟩
  refine lv_iconst (v := 1) hx hb dX12_builds_24 (by decide +kernel) ?_
  have hclx108 := zq_cl (i := x108) (by omega)
  have hc110 : x108.toNatClampNeg = 28 ∨ x108.toNatClampNeg = 33 ∨ x108.toNatClampNeg = 38 ∨ x108.toNatClampNeg = 43 := by omega
  have hp111 : (zq_rg (zk, zn) 59 x108.toNatClampNeg).1 ≤ (1 : Int32).toInt ∧ (1 : Int32).toInt ≤ (zq_rg (zk, zn) 59 x108.toNatClampNeg).2 := by
    rcases hc110 with q9 | q9 | q9 | q9
    · rw [q9]; exact zq_any _
    · rw [q9]; exact zq_any _
    · rw [q9]; exact zq_any _
    · rw [q9]; exact zq_any _
  refine zq_isn (n := 106) (j := (x108.toNatClampNeg)) E hZ hM hS k105 ⟨by decide, rfl⟩ ⟨by omega, by omega⟩ rfl hp111 dX12_builds_25 (fun I109 H locs eI109 hM hS => ?_)
  have hR := zq_fr.putE hR eI109 (zf_ia k105 (by decide) rfl)
  refine W.eq (g2 := F0 m 26 ls []) rfl ?_
  subst hQ
  exact zq_vret E hr hZ hM hS hR hlocks dX12_builds_26
def zw_X12_asks : List (Nat × Nat) := [(59, 999)]
set_option maxHeartbeats 8000000 in
set_option maxRecDepth 100000 in
theorem c_X12_asks (l : Launch) (X : zq_X) (zk zn : Nat) (I : zq_M) (L : zq_L X)  (h0 : Nat) (k_h0 : zq_k X h0 = 10) (p1 : Int32) (p2 : Int32) (g_p1 : 0 ≤ p1.toInt ∧ p1.toInt ≤ 3) (g_p2 : 1 ≤ p2.toInt ∧ p2.toInt ≤ 99) (q_0 : zk ≤ 4400 ∧ zn ≤ 4400) : Met l yX12_asks (zt_w yX12_asks cX12_asks 3 none) (zq_rm (1)) (va_Pc [.ref h0, .int p1, .int p2] (zq_W X (zk, zn) I)) (va_Qv (fun I2 => zq_fr (zf X zw_X12_asks (fun _ => False)) I I2) (zq_E X (zk, zn)) (zq_A X)) 0 0 (zq_A X) := by
  refine Met.ofW (cc := cX12_asks) (maxL := 3) (ret := none) (by decide) rfl ?_
  intro p e s m args below meth c s₁ B hml hv
  obtain ⟨hargs, hM, hZ⟩ := hv
  have hown : s.vm.findClass RX12 = some m.cls := findClass_of_methodNamed B.named
  have hts := atoms_spec (ws := zt_w yX12_asks cX12_asks 3 none) B.pre
  have E : CallFix p m c cX12_asks 3 s args (Cond.code yX12_asks cX12_asks 3 none :: zt) RX12 := ⟨B.exec, B.bytes, hml, hown, hts⟩
  have hx := B.exec
  have hb := B.bytes
  have hr := B.returns
  have hlocks := B.notSynchronized
  clear B
  have hS : va_S (zq_A X) s.heap s.heap [] := va_S.rf
  have hR : zq_fr (zf X zw_X12_asks (fun _ => False)) I I := zq_fr.rf
  have hl := lv_entry ([.ref h0, .int p1, .int p2]) (n := 3) (by exact Nat.le_of_ble_eq_true rfl)
  have hg : entryFrame m args 3 = F0 m 0 ((lg_sl ([.ref h0, .int p1, .int p2]) ++ List.replicate (3 - (lg_sl ([.ref h0, .int p1, .int p2])).length) Slot.unset).toArray) [] := by rw [hargs]; exact lg_entry_eq m ([.ref h0, .int p1, .int p2]) 3
  rw [hg]
  clear hg hargs
  generalize (lg_sl ([.ref h0, .int p1, .int p2]) ++ List.replicate (3 - (lg_sl ([.ref h0, .int p1, .int p2])).length) Slot.unset).toArray = ls at hl ⊢
  have hl : lv_has ls 3 [(0, .ref h0), (1, .int p1), (2, .int p2)] := by exact hl
  obtain ⟨R, hRm⟩ : ∃ R : Room, R = (headSpec (zt_w yX12_asks cX12_asks 3 none) (zq_rm (1))).room := ⟨_, rfl⟩
  rw [← hRm]
  have hro : ∀ d q : Nat, d + 1 ≤ 1 → q ≤ 45 → zq_rok d q R := fun d q h1 h2 => by rw [hRm]; exact zq_rokI h1 h2
  generalize hQ : MQ below _ args s 0 0 (zq_A X) = Q
  obtain ⟨H, hH⟩ : ∃ H, H = s.heap := ⟨_, rfl⟩
  obtain ⟨locs, hlo⟩ : ∃ x : List Loc, x = [] := ⟨_, rfl⟩
  rw [show W p l e R s m args below meth c s.heap [] 0 0 Q = W p l e R s m args below meth c H locs 0 0 Q by rw [hH, hlo]]
  have hM : zq_hm X (zk, zn) I H := by rw [hH]; exact hM
  have hS : va_S (zq_A X) s.heap H locs := by rw [hH, hlo]; exact hS
  clear hH hlo
  refine lv_aload_n hx hb dX12_asks_0 rfl (lv_at hl 0 rfl) ?_
  refine zq_getr E hM k_h0 (zFX12_39 E hZ) ⟨by decide, by decide, by decide, rfl⟩ dX12_asks_1 ?_
  have k101 : zq_k X (zq_r X h0 20) = 59 := zq_lk L.1 k_h0 rfl (by decide)
  refine lv_bipush (v := 25) hx hb dX12_asks_4 (by decide +kernel) ?_
  refine lv_iconst (v := 5) hx hb dX12_asks_6 (by decide +kernel) ?_
  refine lv_iload_n hx hb dX12_asks_7 rfl (lv_at hl 1 rfl) ?_
  refine lv_imul hx hb dX12_asks_8 ?_
  refine lv_topi (fun x102 ex102 => ?_)
  have tx102 := zi_mul ex102 (zl_5 : (5 : Int32).toInt = 5) (rfl : p1.toInt = p1.toInt) ⟨by omega, by omega⟩
  refine lv_iadd hx hb dX12_asks_9 ?_
  refine lv_topi (fun x103 ex103 => ?_)
  have tx103 := zi_add ex103 (zl_25 : (25 : Int32).toInt = 25) (rfl : x102.toInt = x102.toInt) ⟨by omega, by omega⟩
  refine lv_aload_n hx hb dX12_asks_10 rfl (lv_at hl 0 rfl) ?_
  refine lv_iload_n hx hb dX12_asks_11 rfl (lv_at hl 1 rfl) ?_
  refine W.eq (g2 := F0 m 12 ls [.int p1, .ref h0, .int x103, .ref (zq_r X h0 20)]) rfl ?_
  refine lv_iconst (v := 0) hx hb dX12_asks_12 (by decide +kernel) ?_
  refine zq_pcalli (zq_rV (As := [.int p1, .int (0 : Int32)]) (rest := [.int x103, .ref (zq_r X h0 20)]) E hZ hM k_h0 (c_X12_townOf l X zk (zn) I L h0 k_h0 p1 (0 : Int32) ⟨by omega, by omega⟩ (by rw [zl_0]; decide) (by have := zl_0; omega)) zmX12_308 zM_X12_townOf (hro (0) 3 (by first | decide | omega) (by decide)) ⟨by decide, by decide⟩ rfl hl.1 rfl rfl (Nat.le_of_ble_eq_true rfl) dX12_asks_13) hS (fun x105 H locs h104 hM hS => ?_)
  obtain ⟨p106, p107, p108, p109⟩ := h104
  have := zl_0
  refine lv_aload_n hx hb dX12_asks_16 rfl (lv_at hl 0 rfl) ?_
  refine lv_iload_n hx hb dX12_asks_17 rfl (lv_at hl 1 rfl) ?_
  refine lv_iconst (v := 1) hx hb dX12_asks_18 (by decide +kernel) ?_
  refine zq_pcalli (zq_rV (As := [.int p1, .int (1 : Int32)]) (rest := [.int x105, .int x103, .ref (zq_r X h0 20)]) E hZ hM k_h0 (c_X12_townOf l X zk (zn) I L h0 k_h0 p1 (1 : Int32) ⟨by omega, by omega⟩ (by rw [zl_1]; decide) (by have := zl_1; omega)) zmX12_308 zM_X12_townOf (hro (0) 3 (by first | decide | omega) (by decide)) ⟨by decide, by decide⟩ rfl hl.1 rfl rfl (Nat.le_of_ble_eq_true rfl) dX12_asks_19) hS (fun x111 H locs h110 hM hS => ?_)
  obtain ⟨p112, p113, p114, p115⟩ := h110
  have := zl_1
  refine lv_imul hx hb dX12_asks_22 ?_
  refine lv_topi (fun x116 ex116 => ?_)
  have tx116 := zi_mulb ex116 0 99 0 99 ⟨by omega, by omega⟩ ⟨by omega, by omega⟩ (by decide)
  have tx116 : 0 ≤ x116.toInt ∧ x116.toInt ≤ 9801 := ⟨tx116.2.1, tx116.2.2⟩
  refine lv_iload_n hx hb dX12_asks_23 rfl (lv_at hl 2 rfl) ?_
  refine lv_idiv hx hb dX12_asks_24 (fun q => by have := zi_eq q rfl zl_0; omega) ?_
  refine lv_topi (fun x117 ex117 => ?_)
  have tx117 := zi_divn ex117 (rfl : x116.toInt = x116.toInt) (rfl : p2.toInt = p2.toInt) (by omega) (by omega)
  have tx117 := zi_divb tx117 (by omega) (by omega)
  refine lv_bipush (v := 99) hx hb dX12_asks_25 (by decide +kernel) ?_
  refine W.eq (g2 := F0 m 27 ls [.int (99 : Int32), .int x117, .int x103, .ref (zq_r X h0 20)]) rfl ?_
  refine zq_pcalli (zq_rS (As := [.int x117, .int (99 : Int32)]) (rest := [.int x103, .ref (zq_r X h0 20)]) E hZ hM (c_X12_atMost l X zk (zn) I L x117 (99 : Int32)) zmX12_321 zM_X12_atMost (hro (0) 2 (by first | decide | omega) (by decide)) hl.1 rfl rfl (Nat.le_of_ble_eq_true rfl) dX12_asks_27) hS (fun x119 H locs h118 hM hS => ?_)
  have p120 := h118
  have := zl_99
  have hclx103 := zq_cl (i := x103) (by omega)
  have hc122 : x103.toNatClampNeg = 25 ∨ x103.toNatClampNeg = 30 ∨ x103.toNatClampNeg = 35 ∨ x103.toNatClampNeg = 40 := by omega
  have hp123 : (zq_rg (zk, zn) 59 x103.toNatClampNeg).1 ≤ x119.toInt ∧ x119.toInt ≤ (zq_rg (zk, zn) 59 x103.toNatClampNeg).2 := by
    rcases hc122 with q9 | q9 | q9 | q9
    · rw [q9]; exact (show 0 ≤ x119.toInt ∧ x119.toInt ≤ 99 from ⟨by omega, by omega⟩)
    · rw [q9]; exact (show 0 ≤ x119.toInt ∧ x119.toInt ≤ 99 from ⟨by omega, by omega⟩)
    · rw [q9]; exact (show 0 ≤ x119.toInt ∧ x119.toInt ≤ 99 from ⟨by omega, by omega⟩)
    · rw [q9]; exact (show 0 ≤ x119.toInt ∧ x119.toInt ≤ 99 from ⟨by omega, by omega⟩)
  refine zq_isn (n := 106) (j := (x103.toNatClampNeg)) E hZ hM hS k101 ⟨by decide, rfl⟩ ⟨by omega, by omega⟩ rfl hp123 dX12_asks_30 (fun I121 H locs eI121 hM hS => ?_)
  have hR := zq_fr.putE hR eI121 (zf_ia k101 (by decide) rfl)
  refine lv_aload_n hx hb dX12_asks_31 rfl (lv_at hl 0 rfl) ?_
  refine zq_getr E hM k_h0 (zFX12_39 E hZ) ⟨by decide, by decide, by decide, rfl⟩ dX12_asks_32 ?_
  have k124 : zq_k X (zq_r X h0 20) = 59 := zq_lk L.1 k_h0 rfl (by decide)
  refine lv_bipush (v := 25) hx hb dX12_asks_35 (by decide +kernel) ?_
  refine lv_iconst (v := 5) hx hb dX12_asks_37 (by decide +kernel) ?_
  refine lv_iload_n hx hb dX12_asks_38 rfl (lv_at hl 1 rfl) ?_
  refine lv_imul hx hb dX12_asks_39 ?_
  refine lv_topi (fun x125 ex125 => ?_)
  have tx125 := zi_mul ex125 (zl_5 : (5 : Int32).toInt = 5) (rfl : p1.toInt = p1.toInt) ⟨by omega, by omega⟩
  refine lv_iadd hx hb dX12_asks_40 ?_
  refine lv_topi (fun x126 ex126 => ?_)
  have tx126 := zi_add ex126 (zl_25 : (25 : Int32).toInt = 25) (rfl : x125.toInt = x125.toInt) ⟨by omega, by omega⟩
  refine lv_iconst (v := 1) hx hb dX12_asks_41 (by decide +kernel) ?_
  refine W.eq (g2 := F0 m 42 ls [.int (1 : Int32), .int x126, .ref (zq_r X h0 20)]) rfl ?_
  refine lv_iadd hx hb dX12_asks_42 ?_
  refine lv_topi (fun x127 ex127 => ?_)
  have tx127 := zi_add ex127 (rfl : x126.toInt = x126.toInt) (zl_1 : (1 : Int32).toInt = 1) ⟨by omega, by omega⟩
  refine lv_iload_n hx hb dX12_asks_43 rfl (lv_at hl 2 rfl) ?_
  have hclx127 := zq_cl (i := x127) (by omega)
  have hc129 : x127.toNatClampNeg = 26 ∨ x127.toNatClampNeg = 31 ∨ x127.toNatClampNeg = 36 ∨ x127.toNatClampNeg = 41 := by omega
  have hp130 : (zq_rg (zk, zn) 59 x127.toNatClampNeg).1 ≤ p2.toInt ∧ p2.toInt ≤ (zq_rg (zk, zn) 59 x127.toNatClampNeg).2 := by
    rcases hc129 with q9 | q9 | q9 | q9
    · rw [q9]; exact (show 0 ≤ p2.toInt ∧ p2.toInt ≤ 99 from ⟨by omega, by omega⟩)
    · rw [q9]; exact (show 0 ≤ p2.toInt ∧ p2.toInt ≤ 99 from ⟨by omega, by omega⟩)
    · rw [q9]; exact (show 0 ≤ p2.toInt ∧ p2.toInt ≤ 99 from ⟨by omega, by omega⟩)
    · rw [q9]; exact (show 0 ≤ p2.toInt ∧ p2.toInt ≤ 99 from ⟨by omega, by omega⟩)
  refine zq_isn (n := 106) (j := (x127.toNatClampNeg)) E hZ hM hS k124 ⟨by decide, rfl⟩ ⟨by omega, by omega⟩ rfl hp130 dX12_asks_44 (fun I128 H locs eI128 hM hS => ?_)
  have hR := zq_fr.putE hR eI128 (zf_ia k124 (by decide) rfl)
  subst hQ
  exact zq_vret E hr hZ hM hS hR hlocks dX12_asks_45
set_option maxHeartbeats 8000000 in
set_option maxRecDepth 100000 in
theorem c_X12_comesOf (l : Launch) (X : zq_X) (zk zn : Nat) (I : zq_M) (L : zq_L X)  (h0 : Nat) (k_h0 : zq_k X h0 = 10) (p1 : Int32) (p2 : Int32) (p3 : Int32) (g_p1 : 0 ≤ p1.toInt ∧ p1.toInt ≤ 3) (g_p2 : 0 ≤ p2.toInt ∧ p2.toInt ≤ 1000000) (g_p3 : 0 ≤ p3.toInt ∧ p3.toInt ≤ 1) (q_0 : zk ≤ 4400 ∧ zn ≤ 4400) : Met l yX12_comesOf (zt_w yX12_comesOf cX12_comesOf 6 (some .int)) (zq_rm (2)) (va_Pc [.ref h0, .int p1, .int p2, .int p3] (zq_W X (zk, zn) I)) (va_Qi (fun (r : Int32) I2 => I2 = I ∧ (0 ≤ r.toInt ∧ r.toInt ≤ 1000000)) (zq_E X (zk, zn)) (zq_A X)) 0 0 (zq_A X) := by
  refine Met.ofW (cc := cX12_comesOf) (maxL := 6) (ret := (some .int)) (by decide) rfl ?_
  intro p e s m args below meth c s₁ B hml hv
  obtain ⟨hargs, hM, hZ⟩ := hv
  have hown : s.vm.findClass RX12 = some m.cls := findClass_of_methodNamed B.named
  have hts := atoms_spec (ws := zt_w yX12_comesOf cX12_comesOf 6 (some .int)) B.pre
  have E : CallFix p m c cX12_comesOf 6 s args (Cond.code yX12_comesOf cX12_comesOf 6 (some .int) :: zt) RX12 := ⟨B.exec, B.bytes, hml, hown, hts⟩
  have hx := B.exec
  have hb := B.bytes
  have hr := B.returns
  have hlocks := B.notSynchronized
  clear B
  have hS : va_S (zq_A X) s.heap s.heap [] := va_S.rf
  have hl := lv_entry ([.ref h0, .int p1, .int p2, .int p3]) (n := 6) (by exact Nat.le_of_ble_eq_true rfl)
  have hg : entryFrame m args 6 = F0 m 0 ((lg_sl ([.ref h0, .int p1, .int p2, .int p3]) ++ List.replicate (6 - (lg_sl ([.ref h0, .int p1, .int p2, .int p3])).length) Slot.unset).toArray) [] := by rw [hargs]; exact lg_entry_eq m ([.ref h0, .int p1, .int p2, .int p3]) 6
  rw [hg]
  clear hg hargs
  generalize (lg_sl ([.ref h0, .int p1, .int p2, .int p3]) ++ List.replicate (6 - (lg_sl ([.ref h0, .int p1, .int p2, .int p3])).length) Slot.unset).toArray = ls at hl ⊢
  have hl : lv_has ls 6 [(0, .ref h0), (1, .int p1), (2, .int p2), (3, .int p3)] := by exact hl
  obtain ⟨R, hRm⟩ : ∃ R : Room, R = (headSpec (zt_w yX12_comesOf cX12_comesOf 6 (some .int)) (zq_rm (2))).room := ⟨_, rfl⟩
  rw [← hRm]
  have hro : ∀ d q : Nat, d + 1 ≤ 2 → q ≤ 45 → zq_rok d q R := fun d q h1 h2 => by rw [hRm]; exact zq_rokI h1 h2
  generalize hQ : MQ below _ args s 0 0 (zq_A X) = Q
  obtain ⟨H, hH⟩ : ∃ H, H = s.heap := ⟨_, rfl⟩
  obtain ⟨locs, hlo⟩ : ∃ x : List Loc, x = [] := ⟨_, rfl⟩
  rw [show W p l e R s m args below meth c s.heap [] 0 0 Q = W p l e R s m args below meth c H locs 0 0 Q by rw [hH, hlo]]
  have hM : zq_hm X (zk, zn) I H := by rw [hH]; exact hM
  have hS : va_S (zq_A X) s.heap H locs := by rw [hH, hlo]; exact hS
  clear hH hlo
  refine lv_iload_n hx hb dX12_comesOf_0 rfl (lv_at hl 2 rfl) ?_
  refine lv_istore (lv' := [(4, .int p2), (0, .ref h0), (1, .int p1), (2, .int p2), (3, .int p3)]) hx hb dX12_comesOf_1 hl (by decide) rfl (fun ls hl => ?_)
  refine lv_iconst (v := 0) hx hb dX12_comesOf_3 (by decide +kernel) ?_
  refine lv_istore (lv' := [(5, .int (0 : Int32)), (4, .int p2), (0, .ref h0), (1, .int p1), (2, .int p2), (3, .int p3)]) hx hb dX12_comesOf_4 hl (by decide) rfl (fun ls hl => ?_)
  have J6 : ∀ (n143 : Nat) (H : Heap) (locs : List Loc) (ls : Array Slot) (j141 : Int32) (j142 : Int32), 6 + 1 - j141.toInt ≤ ((n143 : Nat) : Int) → (zq_hm X (zk, zn) I H) → (va_S (zq_A X) s.heap H locs) → (0 ≤ j141.toInt ∧ j141.toInt ≤ 6) → (0 ≤ j142.toInt ∧ j142.toInt ≤ 1000000) → (lv_has ls 6 [(5, .int j141), (4, .int j142), (0, .ref h0), (1, .int p1), (2, .int p2), (3, .int p3)]) → W p l e R s m args below meth c H locs 0 0 Q (F0 m 6 ls []) := by
    intro n143
    induction n143 with
    | zero => intro H locs ls j141 j142 mu144 hM hS gj141 gj142 hl; exfalso; have := zi_rng j141; omega
    | succ n143 ih6 =>
      intro H locs ls j141 j142 mu144 hM hS gj141 gj142 hl
      refine lv_iload hx hb dX12_comesOf_6 (lv_at hl 0 rfl) ?_
      refine lv_aload_n hx hb dX12_comesOf_8 rfl (lv_at hl 2 rfl) ?_
      refine lv_iload_n hx hb dX12_comesOf_9 rfl (lv_at hl 3 rfl) ?_
      refine zq_pcalli (zq_rV (As := [.int p1]) (rest := [.int j141]) E hZ hM k_h0 (c_X12_monthsTo l X zk (zn) I L h0 k_h0 p1 ⟨by omega, by omega⟩ (by omega)) zmX12_302 zM_X12_monthsTo (hro (0) 2 (by first | decide | omega) (by decide)) ⟨by decide, by decide⟩ rfl hl.1 rfl rfl (Nat.le_of_ble_eq_true rfl) dX12_comesOf_10) hS (fun x146 H locs h145 hM hS => ?_)
      have p147 := h145
      refine lv_icmp_ge (tgt := 32) hx hb dX12_comesOf_13 (by decide) (fun b148 => ?_) (fun b148 => ?_)
      · have b148 := zi_le b148 (rfl : x146.toInt = x146.toInt) (rfl : j141.toInt = j141.toInt)
        refine lv_iload hx hb dX12_comesOf_32 (lv_at hl 1 rfl) ?_
        subst hQ
        exact zq_iret E hr hZ hM hS ⟨rfl, (by omega)⟩ hlocks dX12_comesOf_34
      · have b148 := zi_nle b148 (rfl : x146.toInt = x146.toInt) (rfl : j141.toInt = j141.toInt)
        refine lv_aload_n hx hb dX12_comesOf_16 rfl (lv_at hl 2 rfl) ?_
        refine lv_iload hx hb dX12_comesOf_17 (lv_at hl 1 rfl) ?_
        refine lv_iload_n hx hb dX12_comesOf_19 rfl (lv_at hl 3 rfl) ?_
        refine lv_iload_n hx hb dX12_comesOf_20 rfl (lv_at hl 5 rfl) ?_
        refine zq_pcalli (zq_rV (As := [.int j142, .int p1, .int p3]) (rest := []) E hZ hM k_h0 (c_X12_atSea l X zk (zn) I L h0 k_h0 j142 p1 p3 ⟨by omega, by omega⟩ ⟨by omega, by omega⟩ ⟨by omega, by omega⟩ (by omega)) zmX12_338 zM_X12_atSea (hro (1) 4 (by first | decide | omega) (by decide)) ⟨by decide, by decide⟩ rfl hl.1 rfl rfl (Nat.le_of_ble_eq_true rfl) dX12_comesOf_21) hS (fun x150 H locs h149 hM hS => ?_)
        obtain ⟨p151, p152⟩ := h149
        refine lv_istore (lv' := [(4, .int x150), (5, .int j141), (0, .ref h0), (1, .int p1), (2, .int p2), (3, .int p3)]) hx hb dX12_comesOf_24 hl (by decide) rfl (fun ls hl => ?_)
        obtain ⟨x153, ex153⟩ : ∃ y : Int32, y = j141 + 1 := ⟨_, rfl⟩
        have tx153 := zi_add ex153 (rfl : j141.toInt = j141.toInt) zl_1 ⟨by omega, by omega⟩
        refine lv_iinc (v := x153) (lv' := [(5, .int x153), (4, .int x150), (0, .ref h0), (1, .int p1), (2, .int p2), (3, .int p3)]) hx hb dX12_comesOf_26 hl (k := 1) rfl (by rw [ex153]; rfl) (by decide) rfl (fun ls hl => ?_)
        refine lv_goto (tgt := 6) hx hb dX12_comesOf_29 (by decide) ?_
        exact ih6 H locs ls x153 x150 (by omega) hM hS (⟨by omega, by omega⟩) (⟨by omega, by omega⟩) (lv_sub hl [0, 1, 2, 3, 4, 5] rfl)
  exact J6 (6 + 1 - (0 : Int32).toInt).toNat H locs ls (0 : Int32) p2 (by omega) hM hS (by rw [zl_0]; decide) (⟨by omega, by omega⟩) (lv_sub hl [0, 1, 2, 3, 4, 5] rfl)
set_option maxHeartbeats 8000000 in
set_option maxRecDepth 100000 in
theorem c_X12_comes (l : Launch) (X : zq_X) (zk zn : Nat) (I : zq_M) (L : zq_L X)  (h0 : Nat) (k_h0 : zq_k X h0 = 10) (p1 : Int32) (p2 : Int32) (p3 : Int32) (g_p3 : 0 ≤ p3.toInt ∧ p3.toInt ≤ 1) (q_0 : zk ≤ 4400 ∧ zn ≤ 4400) : Met l yX12_comes (zt_w yX12_comes cX12_comes 4 (some .int)) (zq_rm (3)) (va_Pc [.ref h0, .int p1, .int p2, .int p3] (zq_W X (zk, zn) I)) (va_Qi (fun (r : Int32) I2 => I2 = I ∧ ((-1) ≤ r.toInt ∧ r.toInt ≤ 1000000)) (zq_E X (zk, zn)) (zq_A X)) 0 0 (zq_A X) := by
  refine Met.ofW (cc := cX12_comes) (maxL := 4) (ret := (some .int)) (by decide) rfl ?_
  intro p e s m args below meth c s₁ B hml hv
  obtain ⟨hargs, hM, hZ⟩ := hv
  have hown : s.vm.findClass RX12 = some m.cls := findClass_of_methodNamed B.named
  have hts := atoms_spec (ws := zt_w yX12_comes cX12_comes 4 (some .int)) B.pre
  have E : CallFix p m c cX12_comes 4 s args (Cond.code yX12_comes cX12_comes 4 (some .int) :: zt) RX12 := ⟨B.exec, B.bytes, hml, hown, hts⟩
  have hx := B.exec
  have hb := B.bytes
  have hr := B.returns
  have hlocks := B.notSynchronized
  clear B
  have hS : va_S (zq_A X) s.heap s.heap [] := va_S.rf
  have hl := lv_entry ([.ref h0, .int p1, .int p2, .int p3]) (n := 4) (by exact Nat.le_of_ble_eq_true rfl)
  have hg : entryFrame m args 4 = F0 m 0 ((lg_sl ([.ref h0, .int p1, .int p2, .int p3]) ++ List.replicate (4 - (lg_sl ([.ref h0, .int p1, .int p2, .int p3])).length) Slot.unset).toArray) [] := by rw [hargs]; exact lg_entry_eq m ([.ref h0, .int p1, .int p2, .int p3]) 4
  rw [hg]
  clear hg hargs
  generalize (lg_sl ([.ref h0, .int p1, .int p2, .int p3]) ++ List.replicate (4 - (lg_sl ([.ref h0, .int p1, .int p2, .int p3])).length) Slot.unset).toArray = ls at hl ⊢
  have hl : lv_has ls 4 [(0, .ref h0), (1, .int p1), (2, .int p2), (3, .int p3)] := by exact hl
  obtain ⟨R, hRm⟩ : ∃ R : Room, R = (headSpec (zt_w yX12_comes cX12_comes 4 (some .int)) (zq_rm (3))).room := ⟨_, rfl⟩
  rw [← hRm]
  have hro : ∀ d q : Nat, d + 1 ≤ 3 → q ≤ 45 → zq_rok d q R := fun d q h1 h2 => by rw [hRm]; exact zq_rokI h1 h2
  generalize hQ : MQ below _ args s 0 0 (zq_A X) = Q
  obtain ⟨H, hH⟩ : ∃ H, H = s.heap := ⟨_, rfl⟩
  obtain ⟨locs, hlo⟩ : ∃ x : List Loc, x = [] := ⟨_, rfl⟩
  rw [show W p l e R s m args below meth c s.heap [] 0 0 Q = W p l e R s m args below meth c H locs 0 0 Q by rw [hH, hlo]]
  have hM : zq_hm X (zk, zn) I H := by rw [hH]; exact hM
  have hS : va_S (zq_A X) s.heap H locs := by rw [hH, hlo]; exact hS
  clear hH hlo
  refine lv_aload_n hx hb dX12_comes_0 rfl (lv_at hl 0 rfl) ?_
  refine lv_iload_n hx hb dX12_comes_1 rfl (lv_at hl 1 rfl) ?_
  refine zq_pcalli (zq_rV (As := [.int p1]) (rest := []) E hZ hM k_h0 (c_X12_isTown l X zk (zn) I L h0 k_h0 p1 (by have := zi_rng p1; omega)) zmX12_299 zM_X12_isTown (hro (0) 2 (by first | decide | omega) (by decide)) ⟨by decide, by decide⟩ rfl hl.1 rfl rfl (Nat.le_of_ble_eq_true rfl) dX12_comes_2) hS (fun x102 H locs h101 hM hS => ?_)
  obtain ⟨p103, p104⟩ := h101
  refine lv_if_eq (tgt := 30) hx hb dX12_comes_5 (by decide) (fun b105 => ?_) (fun b105 => ?_)
  · have b105 := zi_eq b105 (rfl : x102.toInt = x102.toInt) (zl_0 : (0 : Int32).toInt = 0)
    refine lv_iconst (v := (-1)) hx hb dX12_comes_30 (by decide +kernel) ?_
    subst hQ
    exact zq_iret E hr hZ hM hS ⟨rfl, (by have := zl_m1; omega)⟩ hlocks dX12_comes_31
  · have b105 := zi_ne b105 (rfl : x102.toInt = x102.toInt) (zl_0 : (0 : Int32).toInt = 0)
    refine lv_iload_n hx hb dX12_comes_8 rfl (lv_at hl 2 rfl) ?_
    refine lv_i2l hx hb dX12_comes_9 rfl ?_
    refine lv_topl (fun y106 ey106 => ?_)
    have ty106 := zi_i2l ey106
    have := zi_rng p2
    refine lv_lconst (v := 0) hx hb dX12_comes_10 (by decide +kernel) ?_
    refine W.ldc2 (v := 999) hx hb hown (hts _ (List.mem_cons_of_mem _ zCX12_394)) rfl dX12_comes_11 ?_
    refine W.eq (g2 := F0 m 14 ls [.long (999 : Int64), .long (0 : Int64), .long y106]) rfl ?_
    refine zq_pcalli (zq_rS (As := [.long y106, .long (0 : Int64), .long (999 : Int64)]) (rest := []) E hZ hM (c_X12_in l X zk (zn) I L y106 (0 : Int64) (999 : Int64)) zmX12_112 zM_X12_in (hro (0) 6 (by first | decide | omega) (by decide)) hl.1 rfl rfl (Nat.le_of_ble_eq_true rfl) dX12_comes_14) hS (fun x108 H locs h107 hM hS => ?_)
    obtain ⟨p109, p110⟩ := h107
    have : (0 : Int64).toInt = 0 := by decide +kernel
    have : (999 : Int64).toInt = 999 := by decide +kernel
    refine lv_if_eq (tgt := 30) hx hb dX12_comes_17 (by decide) (fun b111 => ?_) (fun b111 => ?_)
    · have b111 := zi_eq b111 (rfl : x108.toInt = x108.toInt) (zl_0 : (0 : Int32).toInt = 0)
      refine lv_iconst (v := (-1)) hx hb dX12_comes_30 (by decide +kernel) ?_
      subst hQ
      exact zq_iret E hr hZ hM hS ⟨rfl, (by have := zl_m1; omega)⟩ hlocks dX12_comes_31
    · have b111 := zi_ne b111 (rfl : x108.toInt = x108.toInt) (zl_0 : (0 : Int32).toInt = 0)
      refine lv_aload_n hx hb dX12_comes_20 rfl (lv_at hl 0 rfl) ?_
      refine lv_iload_n hx hb dX12_comes_21 rfl (lv_at hl 1 rfl) ?_
      refine lv_iload_n hx hb dX12_comes_22 rfl (lv_at hl 2 rfl) ?_
      refine lv_iload_n hx hb dX12_comes_23 rfl (lv_at hl 3 rfl) ?_
      refine zq_pcalli (zq_rV (As := [.int p1, .int p2, .int p3]) (rest := []) E hZ hM k_h0 (c_X12_comesOf l X zk (zn) I L h0 k_h0 p1 p2 p3 ⟨by omega, by omega⟩ ⟨by omega, by omega⟩ ⟨by omega, by omega⟩ (by omega)) zmX12_396 zM_X12_comesOf (hro (2) 6 (by first | decide | omega) (by decide)) ⟨by decide, by decide⟩ rfl hl.1 rfl rfl (Nat.le_of_ble_eq_true rfl) dX12_comes_24) hS (fun x113 H locs h112 hM hS => ?_)
      have p114 := h112
      refine lv_goto (tgt := 31) hx hb dX12_comes_27 (by decide) ?_
      subst hQ
      exact zq_iret E hr hZ hM hS ⟨rfl, (by omega)⟩ hlocks dX12_comes_31
set_option maxHeartbeats 8000000 in
set_option maxRecDepth 100000 in
theorem c_X12_load (l : Launch) (X : zq_X) (zk zn : Nat) (I : zq_M) (L : zq_L X)  (h0 : Nat) (k_h0 : zq_k X h0 = 10) (p1 : Int32) (p2 : Int32) (p3 : Int32) (g_p3 : 0 ≤ p3.toInt ∧ p3.toInt ≤ 1) (q_0 : zk ≤ 4400 ∧ zn ≤ 4400) : Met l yX12_load (zt_w yX12_load cX12_load 5 (some .int)) (zq_rm (3)) (va_Pc [.ref h0, .int p1, .int p2, .int p3] (zq_W X (zk, zn) I)) (va_Qi (fun (r : Int32) I2 => I2 = I ∧ ((-2) ≤ r.toInt ∧ r.toInt ≤ 999)) (zq_E X (zk, zn)) (zq_A X)) 0 0 (zq_A X) := by
  refine Met.ofW (cc := cX12_load) (maxL := 5) (ret := (some .int)) (by decide) rfl ?_
  intro p e s m args below meth c s₁ B hml hv
  obtain ⟨hargs, hM, hZ⟩ := hv
  have hown : s.vm.findClass RX12 = some m.cls := findClass_of_methodNamed B.named
  have hts := atoms_spec (ws := zt_w yX12_load cX12_load 5 (some .int)) B.pre
  have E : CallFix p m c cX12_load 5 s args (Cond.code yX12_load cX12_load 5 (some .int) :: zt) RX12 := ⟨B.exec, B.bytes, hml, hown, hts⟩
  have hx := B.exec
  have hb := B.bytes
  have hr := B.returns
  have hlocks := B.notSynchronized
  clear B
  have hS : va_S (zq_A X) s.heap s.heap [] := va_S.rf
  have hl := lv_entry ([.ref h0, .int p1, .int p2, .int p3]) (n := 5) (by exact Nat.le_of_ble_eq_true rfl)
  have hg : entryFrame m args 5 = F0 m 0 ((lg_sl ([.ref h0, .int p1, .int p2, .int p3]) ++ List.replicate (5 - (lg_sl ([.ref h0, .int p1, .int p2, .int p3])).length) Slot.unset).toArray) [] := by rw [hargs]; exact lg_entry_eq m ([.ref h0, .int p1, .int p2, .int p3]) 5
  rw [hg]
  clear hg hargs
  generalize (lg_sl ([.ref h0, .int p1, .int p2, .int p3]) ++ List.replicate (5 - (lg_sl ([.ref h0, .int p1, .int p2, .int p3])).length) Slot.unset).toArray = ls at hl ⊢
  have hl : lv_has ls 5 [(0, .ref h0), (1, .int p1), (2, .int p2), (3, .int p3)] := by exact hl
  obtain ⟨R, hRm⟩ : ∃ R : Room, R = (headSpec (zt_w yX12_load cX12_load 5 (some .int)) (zq_rm (3))).room := ⟨_, rfl⟩
  rw [← hRm]
  have hro : ∀ d q : Nat, d + 1 ≤ 3 → q ≤ 45 → zq_rok d q R := fun d q h1 h2 => by rw [hRm]; exact zq_rokI h1 h2
  generalize hQ : MQ below _ args s 0 0 (zq_A X) = Q
  obtain ⟨H, hH⟩ : ∃ H, H = s.heap := ⟨_, rfl⟩
  obtain ⟨locs, hlo⟩ : ∃ x : List Loc, x = [] := ⟨_, rfl⟩
  rw [show W p l e R s m args below meth c s.heap [] 0 0 Q = W p l e R s m args below meth c H locs 0 0 Q by rw [hH, hlo]]
  have hM : zq_hm X (zk, zn) I H := by rw [hH]; exact hM
  have hS : va_S (zq_A X) s.heap H locs := by rw [hH, hlo]; exact hS
  clear hH hlo
  refine lv_aload_n hx hb dX12_load_0 rfl (lv_at hl 0 rfl) ?_
  refine lv_iload_n hx hb dX12_load_1 rfl (lv_at hl 1 rfl) ?_
  refine zq_pcalli (zq_rV (As := [.int p1]) (rest := []) E hZ hM k_h0 (c_X12_isTown l X zk (zn) I L h0 k_h0 p1 (by have := zi_rng p1; omega)) zmX12_299 zM_X12_isTown (hro (0) 2 (by first | decide | omega) (by decide)) ⟨by decide, by decide⟩ rfl hl.1 rfl rfl (Nat.le_of_ble_eq_true rfl) dX12_load_2) hS (fun x102 H locs h101 hM hS => ?_)
  obtain ⟨p103, p104⟩ := h101
  refine lv_if_eq (tgt := 20) hx hb dX12_load_5 (by decide) (fun b105 => ?_) (fun b105 => ?_)
  · have b105 := zi_eq b105 (rfl : x102.toInt = x102.toInt) (zl_0 : (0 : Int32).toInt = 0)
    refine lv_iconst (v := (-1)) hx hb dX12_load_20 (by decide +kernel) ?_
    subst hQ
    exact zq_iret E hr hZ hM hS ⟨rfl, (by have := zl_m1; omega)⟩ hlocks dX12_load_21
  · have b105 := zi_ne b105 (rfl : x102.toInt = x102.toInt) (zl_0 : (0 : Int32).toInt = 0)
    refine lv_iload_n hx hb dX12_load_8 rfl (lv_at hl 2 rfl) ?_
    refine lv_i2l hx hb dX12_load_9 rfl ?_
    refine lv_topl (fun y106 ey106 => ?_)
    have ty106 := zi_i2l ey106
    have := zi_rng p2
    refine lv_lconst (v := 1) hx hb dX12_load_10 (by decide +kernel) ?_
    refine W.ldc2 (v := 99) hx hb hown (hts _ (List.mem_cons_of_mem _ zCX12_366)) rfl dX12_load_11 ?_
    refine W.eq (g2 := F0 m 14 ls [.long (99 : Int64), .long (1 : Int64), .long y106]) rfl ?_
    refine zq_pcalli (zq_rS (As := [.long y106, .long (1 : Int64), .long (99 : Int64)]) (rest := []) E hZ hM (c_X12_in l X zk (zn) I L y106 (1 : Int64) (99 : Int64)) zmX12_112 zM_X12_in (hro (0) 6 (by first | decide | omega) (by decide)) hl.1 rfl rfl (Nat.le_of_ble_eq_true rfl) dX12_load_14) hS (fun x108 H locs h107 hM hS => ?_)
    obtain ⟨p109, p110⟩ := h107
    have : (1 : Int64).toInt = 1 := by decide +kernel
    have : (99 : Int64).toInt = 99 := by decide +kernel
    refine lv_if_ne (tgt := 22) hx hb dX12_load_17 (by decide) (fun b111 => ?_) (fun b111 => ?_)
    · have b111 := zi_ne b111 (rfl : x108.toInt = x108.toInt) (zl_0 : (0 : Int32).toInt = 0)
      refine lv_iconst (v := 1) hx hb dX12_load_22 (by decide +kernel) ?_
      refine lv_istore (lv' := [(4, .int (1 : Int32)), (0, .ref h0), (1, .int p1), (2, .int p2), (3, .int p3)]) hx hb dX12_load_23 hl (by decide) rfl (fun ls hl => ?_)
      have J25 : ∀ (n133 : Nat) (H : Heap) (locs : List Loc) (ls : Array Slot) (j132 : Int32), 1000 + 1 - j132.toInt ≤ ((n133 : Nat) : Int) → (zq_hm X (zk, zn) I H) → (va_S (zq_A X) s.heap H locs) → (1 ≤ j132.toInt ∧ j132.toInt ≤ 1000) → (lv_has ls 5 [(4, .int j132), (0, .ref h0), (1, .int p1), (2, .int p2), (3, .int p3)]) → W p l e R s m args below meth c H locs 0 0 Q (F0 m 25 ls []) := by
        intro n133
        induction n133 with
        | zero => intro H locs ls j132 mu134 hM hS gj132 hl; exfalso; have := zi_rng j132; omega
        | succ n133 ih25 =>
          intro H locs ls j132 mu134 hM hS gj132 hl
          refine lv_iload hx hb dX12_load_25 (lv_at hl 0 rfl) ?_
          refine lv_sipush (v := 999) hx hb dX12_load_27 (by decide +kernel) ?_
          refine lv_icmp_gt (tgt := 54) hx hb dX12_load_30 (by decide) (fun b135 => ?_) (fun b135 => ?_)
          · have b135 := zi_lt b135 (zl_999 : (999 : Int32).toInt = 999) (rfl : j132.toInt = j132.toInt)
            refine lv_bipush (v := (-2)) hx hb dX12_load_54 (by decide +kernel) ?_
            subst hQ
            exact zq_iret E hr hZ hM hS ⟨rfl, (by have := zl_m2; omega)⟩ hlocks dX12_load_56
          · have b135 := zi_nlt b135 (zl_999 : (999 : Int32).toInt = 999) (rfl : j132.toInt = j132.toInt)
            refine lv_aload_n hx hb dX12_load_33 rfl (lv_at hl 1 rfl) ?_
            refine lv_iload_n hx hb dX12_load_34 rfl (lv_at hl 2 rfl) ?_
            refine lv_iload hx hb dX12_load_35 (lv_at hl 0 rfl) ?_
            refine lv_iload_n hx hb dX12_load_37 rfl (lv_at hl 4 rfl) ?_
            refine zq_pcalli (zq_rV (As := [.int p1, .int j132, .int p3]) (rest := []) E hZ hM k_h0 (c_X12_comesOf l X zk (zn) I L h0 k_h0 p1 j132 p3 ⟨by omega, by omega⟩ ⟨by omega, by omega⟩ ⟨by omega, by omega⟩ (by omega)) zmX12_396 zM_X12_comesOf (hro (2) 6 (by first | decide | omega) (by decide)) ⟨by decide, by decide⟩ rfl hl.1 rfl rfl (Nat.le_of_ble_eq_true rfl) dX12_load_38) hS (fun x137 H locs h136 hM hS => ?_)
            have p138 := h136
            refine lv_iload_n hx hb dX12_load_41 rfl (lv_at hl 3 rfl) ?_
            refine lv_icmp_lt (tgt := 48) hx hb dX12_load_42 (by decide) (fun b139 => ?_) (fun b139 => ?_)
            · have b139 := zi_lt b139 (rfl : x137.toInt = x137.toInt) (rfl : p2.toInt = p2.toInt)
              obtain ⟨x140, ex140⟩ : ∃ y : Int32, y = j132 + 1 := ⟨_, rfl⟩
              have tx140 := zi_add ex140 (rfl : j132.toInt = j132.toInt) zl_1 ⟨by omega, by omega⟩
              refine lv_iinc (v := x140) (lv' := [(4, .int x140), (0, .ref h0), (1, .int p1), (2, .int p2), (3, .int p3)]) hx hb dX12_load_48 hl (k := 0) rfl (by rw [ex140]; rfl) (by decide) rfl (fun ls hl => ?_)
              refine lv_goto (tgt := 25) hx hb dX12_load_51 (by decide) ?_
              exact ih25 H locs ls x140 (by omega) hM hS (⟨by omega, by omega⟩) (lv_sub hl [0, 1, 2, 3, 4] rfl)
            · have b139 := zi_nlt b139 (rfl : x137.toInt = x137.toInt) (rfl : p2.toInt = p2.toInt)
              refine lv_iload hx hb dX12_load_45 (lv_at hl 0 rfl) ?_
              subst hQ
              exact zq_iret E hr hZ hM hS ⟨rfl, (by omega)⟩ hlocks dX12_load_47
      exact J25 (1000 + 1 - (1 : Int32).toInt).toNat H locs ls (1 : Int32) (by omega) hM hS (by rw [zl_1]; decide) (lv_sub hl [0, 1, 2, 3, 4] rfl)
    · have b111 := zi_eq b111 (rfl : x108.toInt = x108.toInt) (zl_0 : (0 : Int32).toInt = 0)
      refine lv_iconst (v := (-1)) hx hb dX12_load_20 (by decide +kernel) ?_
      subst hQ
      exact zq_iret E hr hZ hM hS ⟨rfl, (by have := zl_m1; omega)⟩ hlocks dX12_load_21
set_option maxHeartbeats 8000000 in
set_option maxRecDepth 100000 in
theorem c_X12_priceBy (l : Launch) (X : zq_X) (zk zn : Nat) (I : zq_M) (L : zq_L X)  (h0 : Nat) (k_h0 : zq_k X h0 = 10) (p1 : Int32) (p2 : Int32) (g_p1 : 0 ≤ p1.toInt ∧ p1.toInt ≤ 3) (g_p2 : 1 ≤ p2.toInt ∧ p2.toInt ≤ 10) (q_0 : zk ≤ 4400 ∧ zn ≤ 4400) : Met l yX12_priceBy (zt_w yX12_priceBy cX12_priceBy 4 (some .int)) (zq_rm (1)) (va_Pc [.ref h0, .int p1, .int p2] (zq_W X (zk, zn) I)) (va_Qi (fun (r : Int32) I2 => I2 = I ∧ (1 ≤ r.toInt ∧ r.toInt ≤ 99)) (zq_E X (zk, zn)) (zq_A X)) 0 0 (zq_A X) := by
  refine Met.ofW (cc := cX12_priceBy) (maxL := 4) (ret := (some .int)) (by decide) rfl ?_
  intro p e s m args below meth c s₁ B hml hv
  obtain ⟨hargs, hM, hZ⟩ := hv
  have hown : s.vm.findClass RX12 = some m.cls := findClass_of_methodNamed B.named
  have hts := atoms_spec (ws := zt_w yX12_priceBy cX12_priceBy 4 (some .int)) B.pre
  have E : CallFix p m c cX12_priceBy 4 s args (Cond.code yX12_priceBy cX12_priceBy 4 (some .int) :: zt) RX12 := ⟨B.exec, B.bytes, hml, hown, hts⟩
  have hx := B.exec
  have hb := B.bytes
  have hr := B.returns
  have hlocks := B.notSynchronized
  clear B
  have hS : va_S (zq_A X) s.heap s.heap [] := va_S.rf
  have hl := lv_entry ([.ref h0, .int p1, .int p2]) (n := 4) (by exact Nat.le_of_ble_eq_true rfl)
  have hg : entryFrame m args 4 = F0 m 0 ((lg_sl ([.ref h0, .int p1, .int p2]) ++ List.replicate (4 - (lg_sl ([.ref h0, .int p1, .int p2])).length) Slot.unset).toArray) [] := by rw [hargs]; exact lg_entry_eq m ([.ref h0, .int p1, .int p2]) 4
  rw [hg]
  clear hg hargs
  generalize (lg_sl ([.ref h0, .int p1, .int p2]) ++ List.replicate (4 - (lg_sl ([.ref h0, .int p1, .int p2])).length) Slot.unset).toArray = ls at hl ⊢
  have hl : lv_has ls 4 [(0, .ref h0), (1, .int p1), (2, .int p2)] := by exact hl
  obtain ⟨R, hRm⟩ : ∃ R : Room, R = (headSpec (zt_w yX12_priceBy cX12_priceBy 4 (some .int)) (zq_rm (1))).room := ⟨_, rfl⟩
  rw [← hRm]
  have hro : ∀ d q : Nat, d + 1 ≤ 1 → q ≤ 45 → zq_rok d q R := fun d q h1 h2 => by rw [hRm]; exact zq_rokI h1 h2
  generalize hQ : MQ below _ args s 0 0 (zq_A X) = Q
  obtain ⟨H, hH⟩ : ∃ H, H = s.heap := ⟨_, rfl⟩
  obtain ⟨locs, hlo⟩ : ∃ x : List Loc, x = [] := ⟨_, rfl⟩
  rw [show W p l e R s m args below meth c s.heap [] 0 0 Q = W p l e R s m args below meth c H locs 0 0 Q by rw [hH, hlo]]
  have hM : zq_hm X (zk, zn) I H := by rw [hH]; exact hM
  have hS : va_S (zq_A X) s.heap H locs := by rw [hH, hlo]; exact hS
  clear hH hlo
  refine lv_aload_n hx hb dX12_priceBy_0 rfl (lv_at hl 0 rfl) ?_
  refine lv_iload_n hx hb dX12_priceBy_1 rfl (lv_at hl 1 rfl) ?_
  refine lv_iconst (v := 1) hx hb dX12_priceBy_2 (by decide +kernel) ?_
  refine zq_pcalli (zq_rV (As := [.int p1, .int (1 : Int32)]) (rest := []) E hZ hM k_h0 (c_X12_townOf l X zk (zn) I L h0 k_h0 p1 (1 : Int32) ⟨by omega, by omega⟩ (by rw [zl_1]; decide) (by have := zl_1; omega)) zmX12_308 zM_X12_townOf (hro (0) 3 (by first | decide | omega) (by decide)) ⟨by decide, by decide⟩ rfl hl.1 rfl rfl (Nat.le_of_ble_eq_true rfl) dX12_priceBy_3) hS (fun x102 H locs h101 hM hS => ?_)
  obtain ⟨p103, p104, p105, p106⟩ := h101
  have := zl_1
  refine lv_iload_n hx hb dX12_priceBy_6 rfl (lv_at hl 2 rfl) ?_
  refine lv_imul hx hb dX12_priceBy_7 ?_
  refine lv_topi (fun x107 ex107 => ?_)
  have tx107 := zi_mulb ex107 0 99 1 10 ⟨by omega, by omega⟩ ⟨by omega, by omega⟩ (by decide)
  have tx107 : 0 ≤ x107.toInt ∧ x107.toInt ≤ 990 := ⟨tx107.2.1, tx107.2.2⟩
  refine lv_bipush (v := 10) hx hb dX12_priceBy_8 (by decide +kernel) ?_
  refine lv_idiv hx hb dX12_priceBy_10 (by decide +kernel) ?_
  refine lv_topi (fun x108 ex108 => ?_)
  have tx108 := zi_divn ex108 (rfl : x107.toInt = x107.toInt) (zl_10 : (10 : Int32).toInt = 10) (by omega) (by omega)
  refine lv_istore_n (lv' := [(3, .int x108), (0, .ref h0), (1, .int p1), (2, .int p2)]) hx hb dX12_priceBy_11 rfl hl (by decide) rfl (fun ls hl => ?_)
  refine W.eq (g2 := F0 m 12 ls []) rfl ?_
  refine lv_iload_n hx hb dX12_priceBy_12 rfl (lv_at hl 0 rfl) ?_
  refine lv_iconst (v := 1) hx hb dX12_priceBy_13 (by decide +kernel) ?_
  refine lv_icmp_ge (tgt := 21) hx hb dX12_priceBy_14 (by decide) (fun b109 => ?_) (fun b109 => ?_)
  · have b109 := zi_le b109 (zl_1 : (1 : Int32).toInt = 1) (rfl : x108.toInt = x108.toInt)
    refine lv_iload_n hx hb dX12_priceBy_21 rfl (lv_at hl 0 rfl) ?_
    subst hQ
    exact zq_iret E hr hZ hM hS ⟨rfl, (by omega)⟩ hlocks dX12_priceBy_22
  · have b109 := zi_nle b109 (zl_1 : (1 : Int32).toInt = 1) (rfl : x108.toInt = x108.toInt)
    refine lv_iconst (v := 1) hx hb dX12_priceBy_17 (by decide +kernel) ?_
    refine lv_goto (tgt := 22) hx hb dX12_priceBy_18 (by decide) ?_
    subst hQ
    exact zq_iret E hr hZ hM hS ⟨rfl, (by have := zl_1; omega)⟩ hlocks dX12_priceBy_22
set_option maxHeartbeats 8000000 in
set_option maxRecDepth 100000 in
theorem c_X12_earns (l : Launch) (X : zq_X) (zk zn : Nat) (I : zq_M) (L : zq_L X)  (h0 : Nat) (k_h0 : zq_k X h0 = 10) (p1 : Int32) (p2 : Int32) (p3 : Int32) (g_p1 : 0 ≤ p1.toInt ∧ p1.toInt ≤ 3) (g_p2 : 1 ≤ p2.toInt ∧ p2.toInt ≤ 10) (g_p3 : 1 ≤ p3.toInt ∧ p3.toInt ≤ 10) (q_0 : zk ≤ 4400 ∧ zn ≤ 4400) : Met l yX12_earns (zt_w yX12_earns cX12_earns 7 (some .int)) (zq_rm (2)) (va_Pc [.ref h0, .int p1, .int p2, .int p3] (zq_W X (zk, zn) I)) (va_Qi (fun (r : Int32) I2 => I2 = I ∧ (0 ≤ r.toInt ∧ r.toInt ≤ 9702)) (zq_E X (zk, zn)) (zq_A X)) 0 0 (zq_A X) := by
  refine Met.ofW (cc := cX12_earns) (maxL := 7) (ret := (some .int)) (by decide) rfl ?_
  intro p e s m args below meth c s₁ B hml hv
  obtain ⟨hargs, hM, hZ⟩ := hv
  have hown : s.vm.findClass RX12 = some m.cls := findClass_of_methodNamed B.named
  have hts := atoms_spec (ws := zt_w yX12_earns cX12_earns 7 (some .int)) B.pre
  have E : CallFix p m c cX12_earns 7 s args (Cond.code yX12_earns cX12_earns 7 (some .int) :: zt) RX12 := ⟨B.exec, B.bytes, hml, hown, hts⟩
  have hx := B.exec
  have hb := B.bytes
  have hr := B.returns
  have hlocks := B.notSynchronized
  clear B
  have hS : va_S (zq_A X) s.heap s.heap [] := va_S.rf
  have hl := lv_entry ([.ref h0, .int p1, .int p2, .int p3]) (n := 7) (by exact Nat.le_of_ble_eq_true rfl)
  have hg : entryFrame m args 7 = F0 m 0 ((lg_sl ([.ref h0, .int p1, .int p2, .int p3]) ++ List.replicate (7 - (lg_sl ([.ref h0, .int p1, .int p2, .int p3])).length) Slot.unset).toArray) [] := by rw [hargs]; exact lg_entry_eq m ([.ref h0, .int p1, .int p2, .int p3]) 7
  rw [hg]
  clear hg hargs
  generalize (lg_sl ([.ref h0, .int p1, .int p2, .int p3]) ++ List.replicate (7 - (lg_sl ([.ref h0, .int p1, .int p2, .int p3])).length) Slot.unset).toArray = ls at hl ⊢
  have hl : lv_has ls 7 [(0, .ref h0), (1, .int p1), (2, .int p2), (3, .int p3)] := by exact hl
  obtain ⟨R, hRm⟩ : ∃ R : Room, R = (headSpec (zt_w yX12_earns cX12_earns 7 (some .int)) (zq_rm (2))).room := ⟨_, rfl⟩
  rw [← hRm]
  have hro : ∀ d q : Nat, d + 1 ≤ 2 → q ≤ 45 → zq_rok d q R := fun d q h1 h2 => by rw [hRm]; exact zq_rokI h1 h2
  generalize hQ : MQ below _ args s 0 0 (zq_A X) = Q
  obtain ⟨H, hH⟩ : ∃ H, H = s.heap := ⟨_, rfl⟩
  obtain ⟨locs, hlo⟩ : ∃ x : List Loc, x = [] := ⟨_, rfl⟩
  rw [show W p l e R s m args below meth c s.heap [] 0 0 Q = W p l e R s m args below meth c H locs 0 0 Q by rw [hH, hlo]]
  have hM : zq_hm X (zk, zn) I H := by rw [hH]; exact hM
  have hS : va_S (zq_A X) s.heap H locs := by rw [hH, hlo]; exact hS
  clear hH hlo
  refine lv_aload_n hx hb dX12_earns_0 rfl (lv_at hl 0 rfl) ?_
  refine lv_iload_n hx hb dX12_earns_1 rfl (lv_at hl 1 rfl) ?_
  refine lv_iload_n hx hb dX12_earns_2 rfl (lv_at hl 2 rfl) ?_
  refine zq_pcalli (zq_rV (As := [.int p1, .int p2]) (rest := []) E hZ hM k_h0 (c_X12_priceBy l X zk (zn) I L h0 k_h0 p1 p2 ⟨by omega, by omega⟩ ⟨by omega, by omega⟩ (by omega)) zmX12_410 zM_X12_priceBy (hro (1) 4 (by first | decide | omega) (by decide)) ⟨by decide, by decide⟩ rfl hl.1 rfl rfl (Nat.le_of_ble_eq_true rfl) dX12_earns_3) hS (fun x102 H locs h101 hM hS => ?_)
  have p103 := h101
  refine lv_istore (lv' := [(4, .int x102), (0, .ref h0), (1, .int p1), (2, .int p2), (3, .int p3)]) hx hb dX12_earns_6 hl (by decide) rfl (fun ls hl => ?_)
  refine lv_aload_n hx hb dX12_earns_8 rfl (lv_at hl 1 rfl) ?_
  refine lv_iload_n hx hb dX12_earns_9 rfl (lv_at hl 2 rfl) ?_
  refine lv_iload_n hx hb dX12_earns_10 rfl (lv_at hl 4 rfl) ?_
  refine zq_pcalli (zq_rV (As := [.int p1, .int p3]) (rest := []) E hZ hM k_h0 (c_X12_priceBy l X zk (zn) I L h0 k_h0 p1 p3 ⟨by omega, by omega⟩ ⟨by omega, by omega⟩ (by omega)) zmX12_410 zM_X12_priceBy (hro (1) 4 (by first | decide | omega) (by decide)) ⟨by decide, by decide⟩ rfl hl.1 rfl rfl (Nat.le_of_ble_eq_true rfl) dX12_earns_11) hS (fun x105 H locs h104 hM hS => ?_)
  have p106 := h104
  refine W.eq (g2 := F0 m 14 ls [.int x105]) rfl ?_
  refine lv_istore (lv' := [(5, .int x105), (4, .int x102), (0, .ref h0), (1, .int p1), (2, .int p2), (3, .int p3)]) hx hb dX12_earns_14 hl (by decide) rfl (fun ls hl => ?_)
  refine lv_aload_n hx hb dX12_earns_16 rfl (lv_at hl 2 rfl) ?_
  refine lv_iload_n hx hb dX12_earns_17 rfl (lv_at hl 3 rfl) ?_
  refine lv_iconst (v := 0) hx hb dX12_earns_18 (by decide +kernel) ?_
  refine zq_pcalli (zq_rV (As := [.int p1, .int (0 : Int32)]) (rest := []) E hZ hM k_h0 (c_X12_townOf l X zk (zn) I L h0 k_h0 p1 (0 : Int32) ⟨by omega, by omega⟩ (by rw [zl_0]; decide) (by have := zl_0; omega)) zmX12_308 zM_X12_townOf (hro (0) 3 (by first | decide | omega) (by decide)) ⟨by decide, by decide⟩ rfl hl.1 rfl rfl (Nat.le_of_ble_eq_true rfl) dX12_earns_19) hS (fun x108 H locs h107 hM hS => ?_)
  obtain ⟨p109, p110, p111, p112⟩ := h107
  have := zl_0
  refine lv_istore (lv' := [(6, .int x108), (5, .int x105), (4, .int x102), (0, .ref h0), (1, .int p1), (2, .int p2), (3, .int p3)]) hx hb dX12_earns_22 hl (by decide) rfl (fun ls hl => ?_)
  refine lv_iload hx hb dX12_earns_24 (lv_at hl 2 rfl) ?_
  refine lv_iload hx hb dX12_earns_26 (lv_at hl 1 rfl) ?_
  refine lv_icmp_ge (tgt := 39) hx hb dX12_earns_28 (by decide) (fun b113 => ?_) (fun b113 => ?_)
  · have b113 := zi_le b113 (rfl : x105.toInt = x105.toInt) (rfl : x102.toInt = x102.toInt)
    refine lv_iload hx hb dX12_earns_39 (lv_at hl 2 rfl) ?_
    refine lv_iload hx hb dX12_earns_41 (lv_at hl 1 rfl) ?_
    refine lv_icmp_ne (tgt := 56) hx hb dX12_earns_43 (by decide) (fun b114 => ?_) (fun b114 => ?_)
    · have b114 := zi_ne b114 (rfl : x102.toInt = x102.toInt) (rfl : x105.toInt = x105.toInt)
      refine lv_iconst (v := 0) hx hb dX12_earns_56 (by decide +kernel) ?_
      subst hQ
      exact zq_iret E hr hZ hM hS ⟨rfl, (by have := zl_0; omega)⟩ hlocks dX12_earns_57
    · have b114 := zi_eq b114 (rfl : x102.toInt = x102.toInt) (rfl : x105.toInt = x105.toInt)
      refine lv_iload hx hb dX12_earns_46 (lv_at hl 0 rfl) ?_
      refine lv_iconst (v := 2) hx hb dX12_earns_48 (by decide +kernel) ?_
      refine lv_idiv hx hb dX12_earns_49 (by decide +kernel) ?_
      refine lv_topi (fun x115 ex115 => ?_)
      have tx115 := zi_divn ex115 (rfl : x108.toInt = x108.toInt) (zl_2 : (2 : Int32).toInt = 2) (by omega) (by omega)
      refine lv_iload hx hb dX12_earns_50 (lv_at hl 2 rfl) ?_
      refine lv_imul hx hb dX12_earns_52 ?_
      refine lv_topi (fun x116 ex116 => ?_)
      have tx116 := zi_mulb ex116 0 49 1 99 ⟨by omega, by omega⟩ ⟨by omega, by omega⟩ (by decide)
      have tx116 : 0 ≤ x116.toInt ∧ x116.toInt ≤ 4851 := ⟨tx116.2.1, tx116.2.2⟩
      refine lv_goto (tgt := 57) hx hb dX12_earns_53 (by decide) ?_
      subst hQ
      exact zq_iret E hr hZ hM hS ⟨rfl, (by omega)⟩ hlocks dX12_earns_57
  · have b113 := zi_nle b113 (rfl : x105.toInt = x105.toInt) (rfl : x102.toInt = x102.toInt)
    refine lv_iload hx hb dX12_earns_31 (lv_at hl 0 rfl) ?_
    refine lv_iload hx hb dX12_earns_33 (lv_at hl 2 rfl) ?_
    refine lv_imul hx hb dX12_earns_35 ?_
    refine lv_topi (fun x117 ex117 => ?_)
    have tx117 := zi_mulb ex117 0 99 1 98 ⟨by omega, by omega⟩ ⟨by omega, by omega⟩ (by decide)
    have tx117 : 0 ≤ x117.toInt ∧ x117.toInt ≤ 9702 := ⟨tx117.2.1, tx117.2.2⟩
    refine lv_goto (tgt := 57) hx hb dX12_earns_36 (by decide) ?_
    subst hQ
    exact zq_iret E hr hZ hM hS ⟨rfl, (by omega)⟩ hlocks dX12_earns_57
set_option maxHeartbeats 8000000 in
set_option maxRecDepth 100000 in
theorem c_X12_isRest (l : Launch) (X : zq_X) (zk zn : Nat) (I : zq_M) (L : zq_L X)  (h0 : Nat) (k_h0 : zq_k X h0 = 10) (p1 : Int32) (p2 : Int32) (p3 : Int32) (g_p1 : 0 ≤ p1.toInt ∧ p1.toInt ≤ 3) (g_p2 : 1 ≤ p2.toInt ∧ p2.toInt ≤ 10) (g_p3 : 1 ≤ p3.toInt ∧ p3.toInt ≤ 10) (q_0 : zk ≤ 4400 ∧ zn ≤ 4400) : Met l yX12_isRest (zt_w yX12_isRest cX12_isRest 5 (some .boolean)) (zq_rm (3)) (va_Pc [.ref h0, .int p1, .int p2, .int p3] (zq_W X (zk, zn) I)) (va_Qi (fun (r : Int32) I2 => I2 = I ∧ (0 ≤ r.toInt ∧ r.toInt ≤ 1)) (zq_E X (zk, zn)) (zq_A X)) 0 0 (zq_A X) := by
  refine Met.ofW (cc := cX12_isRest) (maxL := 5) (ret := (some .boolean)) (by decide) rfl ?_
  intro p e s m args below meth c s₁ B hml hv
  obtain ⟨hargs, hM, hZ⟩ := hv
  have hown : s.vm.findClass RX12 = some m.cls := findClass_of_methodNamed B.named
  have hts := atoms_spec (ws := zt_w yX12_isRest cX12_isRest 5 (some .boolean)) B.pre
  have E : CallFix p m c cX12_isRest 5 s args (Cond.code yX12_isRest cX12_isRest 5 (some .boolean) :: zt) RX12 := ⟨B.exec, B.bytes, hml, hown, hts⟩
  have hx := B.exec
  have hb := B.bytes
  have hr := B.returns
  have hlocks := B.notSynchronized
  clear B
  have hS : va_S (zq_A X) s.heap s.heap [] := va_S.rf
  have hl := lv_entry ([.ref h0, .int p1, .int p2, .int p3]) (n := 5) (by exact Nat.le_of_ble_eq_true rfl)
  have hg : entryFrame m args 5 = F0 m 0 ((lg_sl ([.ref h0, .int p1, .int p2, .int p3]) ++ List.replicate (5 - (lg_sl ([.ref h0, .int p1, .int p2, .int p3])).length) Slot.unset).toArray) [] := by rw [hargs]; exact lg_entry_eq m ([.ref h0, .int p1, .int p2, .int p3]) 5
  rw [hg]
  clear hg hargs
  generalize (lg_sl ([.ref h0, .int p1, .int p2, .int p3]) ++ List.replicate (5 - (lg_sl ([.ref h0, .int p1, .int p2, .int p3])).length) Slot.unset).toArray = ls at hl ⊢
  have hl : lv_has ls 5 [(0, .ref h0), (1, .int p1), (2, .int p2), (3, .int p3)] := by exact hl
  obtain ⟨R, hRm⟩ : ∃ R : Room, R = (headSpec (zt_w yX12_isRest cX12_isRest 5 (some .boolean)) (zq_rm (3))).room := ⟨_, rfl⟩
  rw [← hRm]
  have hro : ∀ d q : Nat, d + 1 ≤ 3 → q ≤ 45 → zq_rok d q R := fun d q h1 h2 => by rw [hRm]; exact zq_rokI h1 h2
  generalize hQ : MQ below _ args s 0 0 (zq_A X) = Q
  obtain ⟨H, hH⟩ : ∃ H, H = s.heap := ⟨_, rfl⟩
  obtain ⟨locs, hlo⟩ : ∃ x : List Loc, x = [] := ⟨_, rfl⟩
  rw [show W p l e R s m args below meth c s.heap [] 0 0 Q = W p l e R s m args below meth c H locs 0 0 Q by rw [hH, hlo]]
  have hM : zq_hm X (zk, zn) I H := by rw [hH]; exact hM
  have hS : va_S (zq_A X) s.heap H locs := by rw [hH, hlo]; exact hS
  clear hH hlo
  refine lv_iconst (v := 1) hx hb dX12_isRest_0 (by decide +kernel) ?_
  refine lv_istore (lv' := [(4, .int (1 : Int32)), (0, .ref h0), (1, .int p1), (2, .int p2), (3, .int p3)]) hx hb dX12_isRest_1 hl (by decide) rfl (fun ls hl => ?_)
  have J3 : ∀ (n158 : Nat) (H : Heap) (locs : List Loc) (ls : Array Slot) (j157 : Int32), 11 + 1 - j157.toInt ≤ ((n158 : Nat) : Int) → (zq_hm X (zk, zn) I H) → (va_S (zq_A X) s.heap H locs) → (1 ≤ j157.toInt ∧ j157.toInt ≤ 11) → (lv_has ls 5 [(4, .int j157), (0, .ref h0), (1, .int p1), (2, .int p2), (3, .int p3)]) → W p l e R s m args below meth c H locs 0 0 Q (F0 m 3 ls []) := by
    intro n158
    induction n158 with
    | zero => intro H locs ls j157 mu159 hM hS gj157 hl; exfalso; have := zi_rng j157; omega
    | succ n158 ih3 =>
      intro H locs ls j157 mu159 hM hS gj157 hl
      refine lv_iload hx hb dX12_isRest_3 (lv_at hl 0 rfl) ?_
      refine lv_bipush (v := 10) hx hb dX12_isRest_5 (by decide +kernel) ?_
      refine lv_icmp_gt (tgt := 54) hx hb dX12_isRest_7 (by decide) (fun b160 => ?_) (fun b160 => ?_)
      · have b160 := zi_lt b160 (zl_10 : (10 : Int32).toInt = 10) (rfl : j157.toInt = j157.toInt)
        refine lv_iconst (v := 1) hx hb dX12_isRest_54 (by decide +kernel) ?_
        subst hQ
        exact zq_zret E hr hZ hM hS (show 0 ≤ (1 : Int32).toInt ∧ (1 : Int32).toInt ≤ 1 by decide +kernel) ⟨rfl, (by have := zl_1; omega)⟩ hlocks dX12_isRest_55
      · have b160 := zi_nlt b160 (zl_10 : (10 : Int32).toInt = 10) (rfl : j157.toInt = j157.toInt)
        refine lv_aload_n hx hb dX12_isRest_10 rfl (lv_at hl 1 rfl) ?_
        refine lv_iload_n hx hb dX12_isRest_11 rfl (lv_at hl 2 rfl) ?_
        refine lv_iload hx hb dX12_isRest_12 (lv_at hl 0 rfl) ?_
        refine lv_iload_n hx hb dX12_isRest_14 rfl (lv_at hl 4 rfl) ?_
        refine zq_pcalli (zq_rV (As := [.int p1, .int j157, .int p3]) (rest := []) E hZ hM k_h0 (c_X12_earns l X zk (zn) I L h0 k_h0 p1 j157 p3 ⟨by omega, by omega⟩ ⟨by omega, by omega⟩ ⟨by omega, by omega⟩ (by omega)) zmX12_413 zM_X12_earns (hro (2) 7 (by first | decide | omega) (by decide)) ⟨by decide, by decide⟩ rfl hl.1 rfl rfl (Nat.le_of_ble_eq_true rfl) dX12_isRest_15) hS (fun x162 H locs h161 hM hS => ?_)
        have p163 := h161
        refine lv_aload_n hx hb dX12_isRest_18 rfl (lv_at hl 1 rfl) ?_
        refine lv_iload_n hx hb dX12_isRest_19 rfl (lv_at hl 2 rfl) ?_
        refine lv_iload_n hx hb dX12_isRest_20 rfl (lv_at hl 3 rfl) ?_
        refine lv_iload_n hx hb dX12_isRest_21 rfl (lv_at hl 4 rfl) ?_
        refine W.eq (g2 := F0 m 22 ls [.int p3, .int p2, .int p1, .ref h0, .int x162]) rfl ?_
        refine zq_pcalli (zq_rV (As := [.int p1, .int p2, .int p3]) (rest := [.int x162]) E hZ hM k_h0 (c_X12_earns l X zk (zn) I L h0 k_h0 p1 p2 p3 ⟨by omega, by omega⟩ ⟨by omega, by omega⟩ ⟨by omega, by omega⟩ (by omega)) zmX12_413 zM_X12_earns (hro (2) 7 (by first | decide | omega) (by decide)) ⟨by decide, by decide⟩ rfl hl.1 rfl rfl (Nat.le_of_ble_eq_true rfl) dX12_isRest_22) hS (fun x165 H locs h164 hM hS => ?_)
        have p166 := h164
        refine lv_icmp_gt (tgt := 46) hx hb dX12_isRest_25 (by decide) (fun b167 => ?_) (fun b167 => ?_)
        · have b167 := zi_lt b167 (rfl : x165.toInt = x165.toInt) (rfl : x162.toInt = x162.toInt)
          refine lv_iconst (v := 0) hx hb dX12_isRest_46 (by decide +kernel) ?_
          subst hQ
          exact zq_zret E hr hZ hM hS (show 0 ≤ (0 : Int32).toInt ∧ (0 : Int32).toInt ≤ 1 by decide +kernel) ⟨rfl, (by have := zl_0; omega)⟩ hlocks dX12_isRest_47
        · have b167 := zi_nlt b167 (rfl : x165.toInt = x165.toInt) (rfl : x162.toInt = x162.toInt)
          refine lv_aload_n hx hb dX12_isRest_28 rfl (lv_at hl 1 rfl) ?_
          refine lv_iload_n hx hb dX12_isRest_29 rfl (lv_at hl 2 rfl) ?_
          refine lv_iload hx hb dX12_isRest_30 (lv_at hl 0 rfl) ?_
          refine lv_iload_n hx hb dX12_isRest_32 rfl (lv_at hl 3 rfl) ?_
          refine zq_pcalli (zq_rV (As := [.int p1, .int j157, .int p2]) (rest := []) E hZ hM k_h0 (c_X12_earns l X zk (zn) I L h0 k_h0 p1 j157 p2 ⟨by omega, by omega⟩ ⟨by omega, by omega⟩ ⟨by omega, by omega⟩ (by omega)) zmX12_413 zM_X12_earns (hro (2) 7 (by first | decide | omega) (by decide)) ⟨by decide, by decide⟩ rfl hl.1 rfl rfl (Nat.le_of_ble_eq_true rfl) dX12_isRest_33) hS (fun x169 H locs h168 hM hS => ?_)
          have p170 := h168
          refine lv_aload_n hx hb dX12_isRest_36 rfl (lv_at hl 1 rfl) ?_
          refine lv_iload_n hx hb dX12_isRest_37 rfl (lv_at hl 2 rfl) ?_
          refine lv_iload_n hx hb dX12_isRest_38 rfl (lv_at hl 4 rfl) ?_
          refine lv_iload_n hx hb dX12_isRest_39 rfl (lv_at hl 3 rfl) ?_
          refine W.eq (g2 := F0 m 40 ls [.int p2, .int p3, .int p1, .ref h0, .int x169]) rfl ?_
          refine zq_pcalli (zq_rV (As := [.int p1, .int p3, .int p2]) (rest := [.int x169]) E hZ hM k_h0 (c_X12_earns l X zk (zn) I L h0 k_h0 p1 p3 p2 ⟨by omega, by omega⟩ ⟨by omega, by omega⟩ ⟨by omega, by omega⟩ (by omega)) zmX12_413 zM_X12_earns (hro (2) 7 (by first | decide | omega) (by decide)) ⟨by decide, by decide⟩ rfl hl.1 rfl rfl (Nat.le_of_ble_eq_true rfl) dX12_isRest_40) hS (fun x172 H locs h171 hM hS => ?_)
          have p173 := h171
          refine lv_icmp_le (tgt := 48) hx hb dX12_isRest_43 (by decide) (fun b174 => ?_) (fun b174 => ?_)
          · have b174 := zi_le b174 (rfl : x169.toInt = x169.toInt) (rfl : x172.toInt = x172.toInt)
            obtain ⟨x175, ex175⟩ : ∃ y : Int32, y = j157 + 1 := ⟨_, rfl⟩
            have tx175 := zi_add ex175 (rfl : j157.toInt = j157.toInt) zl_1 ⟨by omega, by omega⟩
            refine lv_iinc (v := x175) (lv' := [(4, .int x175), (0, .ref h0), (1, .int p1), (2, .int p2), (3, .int p3)]) hx hb dX12_isRest_48 hl (k := 0) rfl (by rw [ex175]; rfl) (by decide) rfl (fun ls hl => ?_)
            refine lv_goto (tgt := 3) hx hb dX12_isRest_51 (by decide) ?_
            exact ih3 H locs ls x175 (by omega) hM hS (⟨by omega, by omega⟩) (lv_sub hl [0, 1, 2, 3, 4] rfl)
          · have b174 := zi_nle b174 (rfl : x169.toInt = x169.toInt) (rfl : x172.toInt = x172.toInt)
            refine lv_iconst (v := 0) hx hb dX12_isRest_46 (by decide +kernel) ?_
            subst hQ
            exact zq_zret E hr hZ hM hS (show 0 ≤ (0 : Int32).toInt ∧ (0 : Int32).toInt ≤ 1 by decide +kernel) ⟨rfl, (by have := zl_0; omega)⟩ hlocks dX12_isRest_47
  exact J3 (11 + 1 - (1 : Int32).toInt).toNat H locs ls (1 : Int32) (by omega) hM hS (by rw [zl_1]; decide) (lv_sub hl [0, 1, 2, 3, 4] rfl)
set_option maxHeartbeats 8000000 in
set_option maxRecDepth 100000 in
theorem c_X12_war (l : Launch) (X : zq_X) (zk zn : Nat) (I : zq_M) (L : zq_L X)  (h0 : Nat) (k_h0 : zq_k X h0 = 10) (p1 : Int32) (p2 : Int32) (q_0 : zk ≤ 4400 ∧ zn ≤ 4400) : Met l yX12_war (zt_w yX12_war cX12_war 6 (some .int)) (zq_rm (4)) (va_Pc [.ref h0, .int p1, .int p2] (zq_W X (zk, zn) I)) (va_Qi (fun (r : Int32) I2 => I2 = I ∧ True) (zq_E X (zk, zn)) (zq_A X)) 0 0 (zq_A X) := by
  refine Met.ofW (cc := cX12_war) (maxL := 6) (ret := (some .int)) (by decide) rfl ?_
  intro p e s m args below meth c s₁ B hml hv
  obtain ⟨hargs, hM, hZ⟩ := hv
  have hown : s.vm.findClass RX12 = some m.cls := findClass_of_methodNamed B.named
  have hts := atoms_spec (ws := zt_w yX12_war cX12_war 6 (some .int)) B.pre
  have E : CallFix p m c cX12_war 6 s args (Cond.code yX12_war cX12_war 6 (some .int) :: zt) RX12 := ⟨B.exec, B.bytes, hml, hown, hts⟩
  have hx := B.exec
  have hb := B.bytes
  have hr := B.returns
  have hlocks := B.notSynchronized
  clear B
  have hS : va_S (zq_A X) s.heap s.heap [] := va_S.rf
  have hl := lv_entry ([.ref h0, .int p1, .int p2]) (n := 6) (by exact Nat.le_of_ble_eq_true rfl)
  have hg : entryFrame m args 6 = F0 m 0 ((lg_sl ([.ref h0, .int p1, .int p2]) ++ List.replicate (6 - (lg_sl ([.ref h0, .int p1, .int p2])).length) Slot.unset).toArray) [] := by rw [hargs]; exact lg_entry_eq m ([.ref h0, .int p1, .int p2]) 6
  rw [hg]
  clear hg hargs
  generalize (lg_sl ([.ref h0, .int p1, .int p2]) ++ List.replicate (6 - (lg_sl ([.ref h0, .int p1, .int p2])).length) Slot.unset).toArray = ls at hl ⊢
  have hl : lv_has ls 6 [(0, .ref h0), (1, .int p1), (2, .int p2)] := by exact hl
  obtain ⟨R, hRm⟩ : ∃ R : Room, R = (headSpec (zt_w yX12_war cX12_war 6 (some .int)) (zq_rm (4))).room := ⟨_, rfl⟩
  rw [← hRm]
  have hro : ∀ d q : Nat, d + 1 ≤ 4 → q ≤ 45 → zq_rok d q R := fun d q h1 h2 => by rw [hRm]; exact zq_rokI h1 h2
  generalize hQ : MQ below _ args s 0 0 (zq_A X) = Q
  obtain ⟨H, hH⟩ : ∃ H, H = s.heap := ⟨_, rfl⟩
  obtain ⟨locs, hlo⟩ : ∃ x : List Loc, x = [] := ⟨_, rfl⟩
  rw [show W p l e R s m args below meth c s.heap [] 0 0 Q = W p l e R s m args below meth c H locs 0 0 Q by rw [hH, hlo]]
  have hM : zq_hm X (zk, zn) I H := by rw [hH]; exact hM
  have hS : va_S (zq_A X) s.heap H locs := by rw [hH, hlo]; exact hS
  clear hH hlo
  refine lv_aload_n hx hb dX12_war_0 rfl (lv_at hl 0 rfl) ?_
  refine lv_iload_n hx hb dX12_war_1 rfl (lv_at hl 1 rfl) ?_
  refine zq_pcalli (zq_rV (As := [.int p1]) (rest := []) E hZ hM k_h0 (c_X12_isTown l X zk (zn) I L h0 k_h0 p1 (by have := zi_rng p1; omega)) zmX12_299 zM_X12_isTown (hro (0) 2 (by first | decide | omega) (by decide)) ⟨by decide, by decide⟩ rfl hl.1 rfl rfl (Nat.le_of_ble_eq_true rfl) dX12_war_2) hS (fun x102 H locs h101 hM hS => ?_)
  obtain ⟨p103, p104⟩ := h101
  refine lv_if_eq (tgt := 20) hx hb dX12_war_5 (by decide) (fun b105 => ?_) (fun b105 => ?_)
  · have b105 := zi_eq b105 (rfl : x102.toInt = x102.toInt) (zl_0 : (0 : Int32).toInt = 0)
    refine lv_iconst (v := (-1)) hx hb dX12_war_20 (by decide +kernel) ?_
    subst hQ
    exact zq_iret E hr hZ hM hS ⟨rfl, trivial⟩ hlocks dX12_war_21
  · have b105 := zi_ne b105 (rfl : x102.toInt = x102.toInt) (zl_0 : (0 : Int32).toInt = 0)
    refine lv_iload_n hx hb dX12_war_8 rfl (lv_at hl 2 rfl) ?_
    refine lv_i2l hx hb dX12_war_9 rfl ?_
    refine lv_topl (fun y106 ey106 => ?_)
    have ty106 := zi_i2l ey106
    have := zi_rng p2
    refine lv_lconst (v := 0) hx hb dX12_war_10 (by decide +kernel) ?_
    refine W.ldc2 (v := 2) hx hb hown (hts _ (List.mem_cons_of_mem _ zCX12_417)) rfl dX12_war_11 ?_
    refine W.eq (g2 := F0 m 14 ls [.long (2 : Int64), .long (0 : Int64), .long y106]) rfl ?_
    refine zq_pcalli (zq_rS (As := [.long y106, .long (0 : Int64), .long (2 : Int64)]) (rest := []) E hZ hM (c_X12_in l X zk (zn) I L y106 (0 : Int64) (2 : Int64)) zmX12_112 zM_X12_in (hro (0) 6 (by first | decide | omega) (by decide)) hl.1 rfl rfl (Nat.le_of_ble_eq_true rfl) dX12_war_14) hS (fun x108 H locs h107 hM hS => ?_)
    obtain ⟨p109, p110⟩ := h107
    have : (0 : Int64).toInt = 0 := by decide +kernel
    have : (2 : Int64).toInt = 2 := by decide +kernel
    refine lv_if_ne (tgt := 22) hx hb dX12_war_17 (by decide) (fun b111 => ?_) (fun b111 => ?_)
    · have b111 := zi_ne b111 (rfl : x108.toInt = x108.toInt) (zl_0 : (0 : Int32).toInt = 0)
      refine lv_iconst (v := 0) hx hb dX12_war_22 (by decide +kernel) ?_
      refine lv_istore_n (lv' := [(3, .int (0 : Int32)), (0, .ref h0), (1, .int p1), (2, .int p2)]) hx hb dX12_war_23 rfl hl (by decide) rfl (fun ls hl => ?_)
      refine lv_iconst (v := (-1)) hx hb dX12_war_24 (by decide +kernel) ?_
      refine lv_istore (lv' := [(4, .int (-1 : Int32)), (3, .int (0 : Int32)), (0, .ref h0), (1, .int p1), (2, .int p2)]) hx hb dX12_war_25 hl (by decide) rfl (fun ls hl => ?_)
      refine lv_iconst (v := 0) hx hb dX12_war_27 (by decide +kernel) ?_
      refine lv_istore (lv' := [(5, .int (0 : Int32)), (4, .int (-1 : Int32)), (3, .int (0 : Int32)), (0, .ref h0), (1, .int p1), (2, .int p2)]) hx hb dX12_war_28 hl (by decide) rfl (fun ls hl => ?_)
      have J30 : ∀ (n182 : Nat) (H : Heap) (locs : List Loc) (ls : Array Slot) (j179 : Int32) (j180 : Int32) (j181 : Int32), 100 + 1 - j179.toInt ≤ ((n182 : Nat) : Int) → (zq_hm X (zk, zn) I H) → (va_S (zq_A X) s.heap H locs) → (0 ≤ j179.toInt ∧ j179.toInt ≤ 100) → ((-1) ≤ j180.toInt ∧ j180.toInt ≤ 99) → (lv_has ls 6 [(5, .int j179), (4, .int j180), (3, .int j181), (0, .ref h0), (1, .int p1), (2, .int p2)]) → W p l e R s m args below meth c H locs 0 0 Q (F0 m 30 ls []) := by
        intro n182
        induction n182 with
        | zero => intro H locs ls j179 j180 j181 mu183 hM hS gj179 gj180 hl; exfalso; have := zi_rng j179; omega
        | succ n182 ih30 =>
          intro H locs ls j179 j180 j181 mu183 hM hS gj179 gj180 hl
          refine lv_iload hx hb dX12_war_30 (lv_at hl 0 rfl) ?_
          refine lv_bipush (v := 100) hx hb dX12_war_32 (by decide +kernel) ?_
          refine lv_icmp_ge (tgt := 79) hx hb dX12_war_34 (by decide) (fun b184 => ?_) (fun b184 => ?_)
          · have b184 := zi_le b184 (zl_100 : (100 : Int32).toInt = 100) (rfl : j179.toInt = j179.toInt)
            refine lv_iload_n hx hb dX12_war_79 rfl (lv_at hl 5 rfl) ?_
            refine lv_if_ne (tgt := 85) hx hb dX12_war_80 (by decide) (fun b185 => ?_) (fun b185 => ?_)
            · have b185 := zi_ne b185 (rfl : p2.toInt = p2.toInt) (zl_0 : (0 : Int32).toInt = 0)
              refine lv_iload hx hb dX12_war_85 (lv_at hl 1 rfl) ?_
              refine lv_if_ge (tgt := 95) hx hb dX12_war_87 (by decide) (fun b186 => ?_) (fun b186 => ?_)
              · have b186 := zi_le b186 (zl_0 : (0 : Int32).toInt = 0) (rfl : j180.toInt = j180.toInt)
                refine lv_iload_n hx hb dX12_war_95 rfl (lv_at hl 5 rfl) ?_
                refine lv_iconst (v := 1) hx hb dX12_war_96 (by decide +kernel) ?_
                refine lv_icmp_ne (tgt := 110) hx hb dX12_war_97 (by decide) (fun b187 => ?_) (fun b187 => ?_)
                · have b187 := zi_ne b187 (rfl : p2.toInt = p2.toInt) (zl_1 : (1 : Int32).toInt = 1)
                  refine lv_iload hx hb dX12_war_110 (lv_at hl 1 rfl) ?_
                  refine lv_bipush (v := 10) hx hb dX12_war_112 (by decide +kernel) ?_
                  refine lv_irem hx hb dX12_war_114 (by decide +kernel) ?_
                  refine lv_topi (fun x188 ex188 => ?_)
                  have tx188 := zi_rem ex188 (rfl : j180.toInt = j180.toInt) (zl_10 : (10 : Int32).toInt = 10) (by omega) (by omega)
                  refine lv_iconst (v := 1) hx hb dX12_war_115 (by decide +kernel) ?_
                  refine lv_iadd hx hb dX12_war_116 ?_
                  refine lv_topi (fun x189 ex189 => ?_)
                  have tx189 := zi_add ex189 (rfl : x188.toInt = x188.toInt) (zl_1 : (1 : Int32).toInt = 1) ⟨by omega, by omega⟩
                  subst hQ
                  exact zq_iret E hr hZ hM hS ⟨rfl, trivial⟩ hlocks dX12_war_117
                · have b187 := zi_eq b187 (rfl : p2.toInt = p2.toInt) (zl_1 : (1 : Int32).toInt = 1)
                  refine lv_iload hx hb dX12_war_100 (lv_at hl 1 rfl) ?_
                  refine lv_bipush (v := 10) hx hb dX12_war_102 (by decide +kernel) ?_
                  refine lv_idiv hx hb dX12_war_104 (by decide +kernel) ?_
                  refine lv_topi (fun x190 ex190 => ?_)
                  have tx190 := zi_divn ex190 (rfl : j180.toInt = j180.toInt) (zl_10 : (10 : Int32).toInt = 10) (by omega) (by omega)
                  refine lv_iconst (v := 1) hx hb dX12_war_105 (by decide +kernel) ?_
                  refine lv_iadd hx hb dX12_war_106 ?_
                  refine lv_topi (fun x191 ex191 => ?_)
                  have tx191 := zi_add ex191 (rfl : x190.toInt = x190.toInt) (zl_1 : (1 : Int32).toInt = 1) ⟨by omega, by omega⟩
                  refine lv_goto (tgt := 117) hx hb dX12_war_107 (by decide) ?_
                  subst hQ
                  exact zq_iret E hr hZ hM hS ⟨rfl, trivial⟩ hlocks dX12_war_117
              · have b186 := zi_nle b186 (zl_0 : (0 : Int32).toInt = 0) (rfl : j180.toInt = j180.toInt)
                refine lv_bipush (v := (-2)) hx hb dX12_war_90 (by decide +kernel) ?_
                refine lv_goto (tgt := 117) hx hb dX12_war_92 (by decide) ?_
                subst hQ
                exact zq_iret E hr hZ hM hS ⟨rfl, trivial⟩ hlocks dX12_war_117
            · have b185 := zi_eq b185 (rfl : p2.toInt = p2.toInt) (zl_0 : (0 : Int32).toInt = 0)
              refine lv_iload_n hx hb dX12_war_83 rfl (lv_at hl 2 rfl) ?_
              subst hQ
              exact zq_iret E hr hZ hM hS ⟨rfl, trivial⟩ hlocks dX12_war_84
          · have b184 := zi_nle b184 (zl_100 : (100 : Int32).toInt = 100) (rfl : j179.toInt = j179.toInt)
            refine lv_aload_n hx hb dX12_war_37 rfl (lv_at hl 3 rfl) ?_
            refine lv_iload_n hx hb dX12_war_38 rfl (lv_at hl 4 rfl) ?_
            refine lv_iload hx hb dX12_war_39 (lv_at hl 0 rfl) ?_
            refine lv_bipush (v := 10) hx hb dX12_war_41 (by decide +kernel) ?_
            refine lv_idiv hx hb dX12_war_43 (by decide +kernel) ?_
            refine lv_topi (fun x192 ex192 => ?_)
            have tx192 := zi_divn ex192 (rfl : j179.toInt = j179.toInt) (zl_10 : (10 : Int32).toInt = 10) (by omega) (by omega)
            refine lv_iconst (v := 1) hx hb dX12_war_44 (by decide +kernel) ?_
            refine lv_iadd hx hb dX12_war_45 ?_
            refine lv_topi (fun x193 ex193 => ?_)
            have tx193 := zi_add ex193 (rfl : x192.toInt = x192.toInt) (zl_1 : (1 : Int32).toInt = 1) ⟨by omega, by omega⟩
            refine lv_iload hx hb dX12_war_46 (lv_at hl 0 rfl) ?_
            refine lv_bipush (v := 10) hx hb dX12_war_48 (by decide +kernel) ?_
            refine W.eq (g2 := F0 m 50 ls [.int (10 : Int32), .int j179, .int x193, .int p1, .ref h0]) rfl ?_
            refine lv_irem hx hb dX12_war_50 (by decide +kernel) ?_
            refine lv_topi (fun x194 ex194 => ?_)
            have tx194 := zi_rem ex194 (rfl : j179.toInt = j179.toInt) (zl_10 : (10 : Int32).toInt = 10) (by omega) (by omega)
            refine lv_iconst (v := 1) hx hb dX12_war_51 (by decide +kernel) ?_
            refine lv_iadd hx hb dX12_war_52 ?_
            refine lv_topi (fun x195 ex195 => ?_)
            have tx195 := zi_add ex195 (rfl : x194.toInt = x194.toInt) (zl_1 : (1 : Int32).toInt = 1) ⟨by omega, by omega⟩
            refine zq_pcalli (zq_rV (As := [.int p1, .int x193, .int x195]) (rest := []) E hZ hM k_h0 (c_X12_isRest l X zk (zn) I L h0 k_h0 p1 x193 x195 ⟨by omega, by omega⟩ ⟨by omega, by omega⟩ ⟨by omega, by omega⟩ (by omega)) zmX12_419 zM_X12_isRest (hro (3) 5 (by first | decide | omega) (by decide)) ⟨by decide, by decide⟩ rfl hl.1 rfl rfl (Nat.le_of_ble_eq_true rfl) dX12_war_53) hS (fun x197 H locs h196 hM hS => ?_)
            have p198 := h196
            have J73 : ∀ (ls : Array Slot) (j201 : Int32) (j202 : Int32), ((-1) ≤ j202.toInt ∧ j202.toInt ≤ 99) → (lv_has ls 6 [(3, .int j201), (5, .int j179), (4, .int j202), (0, .ref h0), (1, .int p1), (2, .int p2)]) → W p l e R s m args below meth c H locs 0 0 Q (F0 m 73 ls []) := by
              intro ls j201 j202 gj202 hl
              obtain ⟨x204, ex204⟩ : ∃ y : Int32, y = j179 + 1 := ⟨_, rfl⟩
              have tx204 := zi_add ex204 (rfl : j179.toInt = j179.toInt) zl_1 ⟨by omega, by omega⟩
              refine lv_iinc (v := x204) (lv' := [(5, .int x204), (3, .int j201), (4, .int j202), (0, .ref h0), (1, .int p1), (2, .int p2)]) hx hb dX12_war_73 hl (k := 1) rfl (by rw [ex204]; rfl) (by decide) rfl (fun ls hl => ?_)
              refine lv_goto (tgt := 30) hx hb dX12_war_76 (by decide) ?_
              exact ih30 H locs ls x204 j202 j201 (by omega) hM hS (⟨by omega, by omega⟩) (⟨by omega, by omega⟩) (lv_sub hl [0, 2, 1, 3, 4, 5] rfl)
            refine lv_if_ne (tgt := 62) hx hb dX12_war_56 (by decide) (fun b205 => ?_) (fun b205 => ?_)
            · have b205 := zi_ne b205 (rfl : x197.toInt = x197.toInt) (zl_0 : (0 : Int32).toInt = 0)
              refine lv_iload_n hx hb dX12_war_62 rfl (lv_at hl 2 rfl) ?_
              have J70 : ∀ (ls : Array Slot) (j206 : Int32), ((-1) ≤ j206.toInt ∧ j206.toInt ≤ 99) → (lv_has ls 6 [(5, .int j179), (4, .int j206), (3, .int j181), (0, .ref h0), (1, .int p1), (2, .int p2)]) → W p l e R s m args below meth c H locs 0 0 Q (F0 m 70 ls []) := by
                intro ls j206 gj206 hl
                obtain ⟨x208, ex208⟩ : ∃ y : Int32, y = j181 + 1 := ⟨_, rfl⟩
                refine lv_iinc (v := x208) (lv' := [(3, .int x208), (5, .int j179), (4, .int j206), (0, .ref h0), (1, .int p1), (2, .int p2)]) hx hb dX12_war_70 hl (k := 2) rfl (by rw [ex208]; rfl) (by decide) rfl (fun ls hl => ?_)
                exact J73 ls x208 j206 (⟨by omega, by omega⟩) (lv_sub hl [0, 1, 2, 3, 4, 5] rfl)
              refine lv_if_ne (tgt := 70) hx hb dX12_war_63 (by decide) (fun b209 => ?_) (fun b209 => ?_)
              · have b209 := zi_ne b209 (rfl : j181.toInt = j181.toInt) (zl_0 : (0 : Int32).toInt = 0)
                exact J70 ls j180 (⟨by omega, by omega⟩) (lv_sub hl [0, 1, 2, 3, 4, 5] rfl)
              · have b209 := zi_eq b209 (rfl : j181.toInt = j181.toInt) (zl_0 : (0 : Int32).toInt = 0)
                refine lv_iload hx hb dX12_war_66 (lv_at hl 0 rfl) ?_
                refine lv_istore (lv' := [(4, .int j179), (5, .int j179), (3, .int j181), (0, .ref h0), (1, .int p1), (2, .int p2)]) hx hb dX12_war_68 hl (by decide) rfl (fun ls hl => ?_)
                exact J70 ls j179 (⟨by omega, by omega⟩) (lv_sub hl [1, 0, 2, 3, 4, 5] rfl)
            · have b205 := zi_eq b205 (rfl : x197.toInt = x197.toInt) (zl_0 : (0 : Int32).toInt = 0)
              refine lv_goto (tgt := 73) hx hb dX12_war_59 (by decide) ?_
              exact J73 ls j181 j180 (⟨by omega, by omega⟩) (lv_sub hl [2, 0, 1, 3, 4, 5] rfl)
      exact J30 (100 + 1 - (0 : Int32).toInt).toNat H locs ls (0 : Int32) (-1 : Int32) (0 : Int32) (by omega) hM hS (by rw [zl_0]; decide) (by rw [zl_m1]; decide) (lv_sub hl [0, 1, 2, 3, 4, 5] rfl)
    · have b111 := zi_eq b111 (rfl : x108.toInt = x108.toInt) (zl_0 : (0 : Int32).toInt = 0)
      refine lv_iconst (v := (-1)) hx hb dX12_war_20 (by decide +kernel) ?_
      subst hQ
      exact zq_iret E hr hZ hM hS ⟨rfl, trivial⟩ hlocks dX12_war_21
set_option maxHeartbeats 8000000 in
set_option maxRecDepth 100000 in
theorem c_X12_blocksAtSea (l : Launch) (X : zq_X) (zk zn : Nat) (I : zq_M) (L : zq_L X)  (h0 : Nat) (k_h0 : zq_k X h0 = 10) (q_0 : zk ≤ 4400 ∧ zn ≤ 4400) : Met l yX12_blocksAtSea (zt_w yX12_blocksAtSea cX12_blocksAtSea 3 (some .int)) (zq_rm (2)) (va_Pc [.ref h0] (zq_W X (zk, zn) I)) (va_Qi (fun (r : Int32) I2 => I2 = I ∧ True) (zq_E X (zk, zn)) (zq_A X)) 0 0 (zq_A X) := by
  refine Met.ofW (cc := cX12_blocksAtSea) (maxL := 3) (ret := (some .int)) (by decide) rfl ?_
  intro p e s m args below meth c s₁ B hml hv
  obtain ⟨hargs, hM, hZ⟩ := hv
  have hown : s.vm.findClass RX12 = some m.cls := findClass_of_methodNamed B.named
  have hts := atoms_spec (ws := zt_w yX12_blocksAtSea cX12_blocksAtSea 3 (some .int)) B.pre
  have E : CallFix p m c cX12_blocksAtSea 3 s args (Cond.code yX12_blocksAtSea cX12_blocksAtSea 3 (some .int) :: zt) RX12 := ⟨B.exec, B.bytes, hml, hown, hts⟩
  have hx := B.exec
  have hb := B.bytes
  have hr := B.returns
  have hlocks := B.notSynchronized
  clear B
  have hS : va_S (zq_A X) s.heap s.heap [] := va_S.rf
  have hl := lv_entry ([.ref h0]) (n := 3) (by exact Nat.le_of_ble_eq_true rfl)
  have hg : entryFrame m args 3 = F0 m 0 ((lg_sl ([.ref h0]) ++ List.replicate (3 - (lg_sl ([.ref h0])).length) Slot.unset).toArray) [] := by rw [hargs]; exact lg_entry_eq m ([.ref h0]) 3
  rw [hg]
  clear hg hargs
  generalize (lg_sl ([.ref h0]) ++ List.replicate (3 - (lg_sl ([.ref h0])).length) Slot.unset).toArray = ls at hl ⊢
  have hl : lv_has ls 3 [(0, .ref h0)] := by exact hl
  obtain ⟨R, hRm⟩ : ∃ R : Room, R = (headSpec (zt_w yX12_blocksAtSea cX12_blocksAtSea 3 (some .int)) (zq_rm (2))).room := ⟨_, rfl⟩
  rw [← hRm]
  have hro : ∀ d q : Nat, d + 1 ≤ 2 → q ≤ 45 → zq_rok d q R := fun d q h1 h2 => by rw [hRm]; exact zq_rokI h1 h2
  generalize hQ : MQ below _ args s 0 0 (zq_A X) = Q
  obtain ⟨H, hH⟩ : ∃ H, H = s.heap := ⟨_, rfl⟩
  obtain ⟨locs, hlo⟩ : ∃ x : List Loc, x = [] := ⟨_, rfl⟩
  rw [show W p l e R s m args below meth c s.heap [] 0 0 Q = W p l e R s m args below meth c H locs 0 0 Q by rw [hH, hlo]]
  have hM : zq_hm X (zk, zn) I H := by rw [hH]; exact hM
  have hS : va_S (zq_A X) s.heap H locs := by rw [hH, hlo]; exact hS
  clear hH hlo
  refine lv_iconst (v := 0) hx hb dX12_blocksAtSea_0 (by decide +kernel) ?_
  refine lv_istore_n (lv' := [(1, .int (0 : Int32)), (0, .ref h0)]) hx hb dX12_blocksAtSea_1 rfl hl (by decide) rfl (fun ls hl => ?_)
  refine lv_iconst (v := 0) hx hb dX12_blocksAtSea_2 (by decide +kernel) ?_
  refine lv_istore_n (lv' := [(2, .int (0 : Int32)), (1, .int (0 : Int32)), (0, .ref h0)]) hx hb dX12_blocksAtSea_3 rfl hl (by decide) rfl (fun ls hl => ?_)
  have J4 : ∀ (n135 : Nat) (H : Heap) (locs : List Loc) (ls : Array Slot) (j133 : Int32) (j134 : Int32), 4 + 1 - j133.toInt ≤ ((n135 : Nat) : Int) → (zq_hm X (zk, zn) I H) → (va_S (zq_A X) s.heap H locs) → (0 ≤ j133.toInt ∧ j133.toInt ≤ 4) → (lv_has ls 3 [(2, .int j133), (1, .int j134), (0, .ref h0)]) → W p l e R s m args below meth c H locs 0 0 Q (F0 m 4 ls []) := by
    intro n135
    induction n135 with
    | zero => intro H locs ls j133 j134 mu136 hM hS gj133 hl; exfalso; have := zi_rng j133; omega
    | succ n135 ih4 =>
      intro H locs ls j133 j134 mu136 hM hS gj133 hl
      refine lv_iload_n hx hb dX12_blocksAtSea_4 rfl (lv_at hl 0 rfl) ?_
      refine lv_aload_n hx hb dX12_blocksAtSea_5 rfl (lv_at hl 2 rfl) ?_
      refine zq_getr E hM k_h0 (zFX12_39 E hZ) ⟨by decide, by decide, by decide, rfl⟩ dX12_blocksAtSea_6 ?_
      have k137 : zq_k X (zq_r X h0 20) = 59 := zq_lk L.1 k_h0 rfl (by decide)
      refine lv_iconst (v := 3) hx hb dX12_blocksAtSea_9 (by decide +kernel) ?_
      refine zq_ian (n := 106) (j := 3) E hZ hM k137 ⟨by decide, rfl⟩ (by rw [zl_3]; decide) (by decide +kernel) dX12_blocksAtSea_10 (fun x138 ex138 gx138 => ?_)
      replace gx138 : 0 ≤ x138.toInt ∧ x138.toInt ≤ 4 := gx138
      refine lv_icmp_ge (tgt := 28) hx hb dX12_blocksAtSea_11 (by decide) (fun b139 => ?_) (fun b139 => ?_)
      · have b139 := zi_le b139 (rfl : x138.toInt = x138.toInt) (rfl : j133.toInt = j133.toInt)
        refine lv_iload_n hx hb dX12_blocksAtSea_28 rfl (lv_at hl 1 rfl) ?_
        subst hQ
        exact zq_iret E hr hZ hM hS ⟨rfl, trivial⟩ hlocks dX12_blocksAtSea_29
      · have b139 := zi_nle b139 (rfl : x138.toInt = x138.toInt) (rfl : j133.toInt = j133.toInt)
        refine lv_iload_n hx hb dX12_blocksAtSea_14 rfl (lv_at hl 1 rfl) ?_
        refine lv_aload_n hx hb dX12_blocksAtSea_15 rfl (lv_at hl 2 rfl) ?_
        refine lv_iload_n hx hb dX12_blocksAtSea_16 rfl (lv_at hl 0 rfl) ?_
        refine zq_pcalli (zq_rV (As := [.int j133]) (rest := [.int j134]) E hZ hM k_h0 (c_X12_coming l X zk (zn) I L h0 k_h0 j133 (by omega)) zmX12_311 zM_X12_coming (hro (1) 4 (by first | decide | omega) (by decide)) ⟨by decide, by decide⟩ rfl hl.1 rfl rfl (Nat.le_of_ble_eq_true rfl) dX12_blocksAtSea_17) hS (fun x141 H locs h140 hM hS => ?_)
        clear h140
        refine lv_iadd hx hb dX12_blocksAtSea_20 ?_
        refine lv_topi (fun x142 ex142 => ?_)
        refine lv_istore_n (lv' := [(1, .int x142), (2, .int j133), (0, .ref h0)]) hx hb dX12_blocksAtSea_21 rfl hl (by decide) rfl (fun ls hl => ?_)
        obtain ⟨x143, ex143⟩ : ∃ y : Int32, y = j133 + 1 := ⟨_, rfl⟩
        have tx143 := zi_add ex143 (rfl : j133.toInt = j133.toInt) zl_1 ⟨by omega, by omega⟩
        refine lv_iinc (v := x143) (lv' := [(2, .int x143), (1, .int x142), (0, .ref h0)]) hx hb dX12_blocksAtSea_22 hl (k := 1) rfl (by rw [ex143]; rfl) (by decide) rfl (fun ls hl => ?_)
        refine lv_goto (tgt := 4) hx hb dX12_blocksAtSea_25 (by decide) ?_
        exact ih4 H locs ls x143 x142 (by omega) hM hS (⟨by omega, by omega⟩) (lv_sub hl [0, 1, 2] rfl)
  exact J4 (4 + 1 - (0 : Int32).toInt).toNat H locs ls (0 : Int32) (0 : Int32) (by omega) hM hS (by rw [zl_0]; decide) (lv_sub hl [0, 1, 2] rfl)
set_option maxHeartbeats 8000000 in
set_option maxRecDepth 100000 in
theorem c_X12_isOut (l : Launch) (X : zq_X) (zk zn : Nat) (I : zq_M) (L : zq_L X)  (h0 : Nat) (k_h0 : zq_k X h0 = 10) (q_0 : zk ≤ 4400 ∧ zn ≤ 4400) : Met l yX12_isOut (zt_w yX12_isOut cX12_isOut 2 (some .boolean)) (zq_rm (3)) (va_Pc [.ref h0] (zq_W X (zk, zn) I)) (va_Qi (fun (r : Int32) I2 => I2 = I ∧ (0 ≤ r.toInt ∧ r.toInt ≤ 1)) (zq_E X (zk, zn)) (zq_A X)) 0 0 (zq_A X) := by
  refine Met.ofW (cc := cX12_isOut) (maxL := 2) (ret := (some .boolean)) (by decide) rfl ?_
  intro p e s m args below meth c s₁ B hml hv
  obtain ⟨hargs, hM, hZ⟩ := hv
  have hown : s.vm.findClass RX12 = some m.cls := findClass_of_methodNamed B.named
  have hts := atoms_spec (ws := zt_w yX12_isOut cX12_isOut 2 (some .boolean)) B.pre
  have E : CallFix p m c cX12_isOut 2 s args (Cond.code yX12_isOut cX12_isOut 2 (some .boolean) :: zt) RX12 := ⟨B.exec, B.bytes, hml, hown, hts⟩
  have hx := B.exec
  have hb := B.bytes
  have hr := B.returns
  have hlocks := B.notSynchronized
  clear B
  have hS : va_S (zq_A X) s.heap s.heap [] := va_S.rf
  have hl := lv_entry ([.ref h0]) (n := 2) (by exact Nat.le_of_ble_eq_true rfl)
  have hg : entryFrame m args 2 = F0 m 0 ((lg_sl ([.ref h0]) ++ List.replicate (2 - (lg_sl ([.ref h0])).length) Slot.unset).toArray) [] := by rw [hargs]; exact lg_entry_eq m ([.ref h0]) 2
  rw [hg]
  clear hg hargs
  generalize (lg_sl ([.ref h0]) ++ List.replicate (2 - (lg_sl ([.ref h0])).length) Slot.unset).toArray = ls at hl ⊢
  have hl : lv_has ls 2 [(0, .ref h0)] := by exact hl
  obtain ⟨R, hRm⟩ : ∃ R : Room, R = (headSpec (zt_w yX12_isOut cX12_isOut 2 (some .boolean)) (zq_rm (3))).room := ⟨_, rfl⟩
  rw [← hRm]
  have hro : ∀ d q : Nat, d + 1 ≤ 3 → q ≤ 45 → zq_rok d q R := fun d q h1 h2 => by rw [hRm]; exact zq_rokI h1 h2
  generalize hQ : MQ below _ args s 0 0 (zq_A X) = Q
  obtain ⟨H, hH⟩ : ∃ H, H = s.heap := ⟨_, rfl⟩
  obtain ⟨locs, hlo⟩ : ∃ x : List Loc, x = [] := ⟨_, rfl⟩
  rw [show W p l e R s m args below meth c s.heap [] 0 0 Q = W p l e R s m args below meth c H locs 0 0 Q by rw [hH, hlo]]
  have hM : zq_hm X (zk, zn) I H := by rw [hH]; exact hM
  have hS : va_S (zq_A X) s.heap H locs := by rw [hH, hlo]; exact hS
  clear hH hlo
  refine lv_aload_n hx hb dX12_isOut_0 rfl (lv_at hl 0 rfl) ?_
  refine zq_pcalli (zq_rV (As := []) (rest := []) E hZ hM k_h0 (c_X12_blocksAtSea l X zk (zn) I L h0 k_h0 (by omega)) zmX12_422 zM_X12_blocksAtSea (hro (2) 3 (by first | decide | omega) (by decide)) ⟨by decide, by decide⟩ rfl hl.1 rfl rfl (Nat.le_of_ble_eq_true rfl) dX12_isOut_1) hS (fun x102 H locs h101 hM hS => ?_)
  clear h101
  refine lv_if_le (tgt := 9) hx hb dX12_isOut_4 (by decide) (fun b103 => ?_) (fun b103 => ?_)
  · have b103 := zi_le b103 (rfl : x102.toInt = x102.toInt) (zl_0 : (0 : Int32).toInt = 0)
    refine lv_iconst (v := 0) hx hb dX12_isOut_9 (by decide +kernel) ?_
    refine lv_istore_n (lv' := [(1, .int (0 : Int32)), (0, .ref h0)]) hx hb dX12_isOut_10 rfl hl (by decide) rfl (fun ls hl => ?_)
    have J11 : ∀ (n325 : Nat) (H : Heap) (locs : List Loc) (ls : Array Slot) (j324 : Int32), 4 + 1 - j324.toInt ≤ ((n325 : Nat) : Int) → (zq_hm X (zk, zn) I H) → (va_S (zq_A X) s.heap H locs) → (0 ≤ j324.toInt ∧ j324.toInt ≤ 4) → (lv_has ls 2 [(1, .int j324), (0, .ref h0)]) → W p l e R s m args below meth c H locs 0 0 Q (F0 m 11 ls []) := by
      intro n325
      induction n325 with
      | zero => intro H locs ls j324 mu326 hM hS gj324 hl; exfalso; have := zi_rng j324; omega
      | succ n325 ih11 =>
        intro H locs ls j324 mu326 hM hS gj324 hl
        refine lv_iload_n hx hb dX12_isOut_11 rfl (lv_at hl 0 rfl) ?_
        refine lv_aload_n hx hb dX12_isOut_12 rfl (lv_at hl 1 rfl) ?_
        refine zq_getr E hM k_h0 (zFX12_39 E hZ) ⟨by decide, by decide, by decide, rfl⟩ dX12_isOut_13 ?_
        have k327 : zq_k X (zq_r X h0 20) = 59 := zq_lk L.1 k_h0 rfl (by decide)
        refine lv_iconst (v := 3) hx hb dX12_isOut_16 (by decide +kernel) ?_
        refine zq_ian (n := 106) (j := 3) E hZ hM k327 ⟨by decide, rfl⟩ (by rw [zl_3]; decide) (by decide +kernel) dX12_isOut_17 (fun x328 ex328 gx328 => ?_)
        replace gx328 : 0 ≤ x328.toInt ∧ x328.toInt ≤ 4 := gx328
        refine lv_icmp_ge (tgt := 38) hx hb dX12_isOut_18 (by decide) (fun b329 => ?_) (fun b329 => ?_)
        · have b329 := zi_le b329 (rfl : x328.toInt = x328.toInt) (rfl : j324.toInt = j324.toInt)
          refine lv_iconst (v := 0) hx hb dX12_isOut_38 (by decide +kernel) ?_
          refine lv_istore_n (lv' := [(1, .int (0 : Int32)), (0, .ref h0)]) hx hb dX12_isOut_39 rfl hl (by decide) rfl (fun ls hl => ?_)
          have J40 : ∀ (n371 : Nat) (H : Heap) (locs : List Loc) (ls : Array Slot) (j370 : Int32), 3 + 1 - j370.toInt ≤ ((n371 : Nat) : Int) → (zq_hm X (zk, zn) I H) → (va_S (zq_A X) s.heap H locs) → (0 ≤ j370.toInt ∧ j370.toInt ≤ 3) → (lv_has ls 2 [(1, .int j370), (0, .ref h0)]) → W p l e R s m args below meth c H locs 0 0 Q (F0 m 40 ls []) := by
            intro n371
            induction n371 with
            | zero => intro H locs ls j370 mu372 hM hS gj370 hl; exfalso; have := zi_rng j370; omega
            | succ n371 ih40 =>
              intro H locs ls j370 mu372 hM hS gj370 hl
              refine lv_iload_n hx hb dX12_isOut_40 rfl (lv_at hl 0 rfl) ?_
              refine lv_aload_n hx hb dX12_isOut_41 rfl (lv_at hl 1 rfl) ?_
              refine zq_getr E hM k_h0 (zFX12_39 E hZ) ⟨by decide, by decide, by decide, rfl⟩ dX12_isOut_42 ?_
              have k373 : zq_k X (zq_r X h0 20) = 59 := zq_lk L.1 k_h0 rfl (by decide)
              refine lv_iconst (v := 2) hx hb dX12_isOut_45 (by decide +kernel) ?_
              refine zq_ian (n := 106) (j := 2) E hZ hM k373 ⟨by decide, rfl⟩ (by rw [zl_2]; decide) (by decide +kernel) dX12_isOut_46 (fun x374 ex374 gx374 => ?_)
              replace gx374 : 0 ≤ x374.toInt ∧ x374.toInt ≤ 3 := gx374
              refine lv_icmp_ge (tgt := 77) hx hb dX12_isOut_47 (by decide) (fun b375 => ?_) (fun b375 => ?_)
              · have b375 := zi_le b375 (rfl : x374.toInt = x374.toInt) (rfl : j370.toInt = j370.toInt)
                refine lv_iconst (v := 1) hx hb dX12_isOut_77 (by decide +kernel) ?_
                subst hQ
                exact zq_zret E hr hZ hM hS (show 0 ≤ (1 : Int32).toInt ∧ (1 : Int32).toInt ≤ 1 by decide +kernel) ⟨rfl, (by have := zl_1; omega)⟩ hlocks dX12_isOut_78
              · have b375 := zi_nle b375 (rfl : x374.toInt = x374.toInt) (rfl : j370.toInt = j370.toInt)
                refine lv_aload_n hx hb dX12_isOut_50 rfl (lv_at hl 1 rfl) ?_
                refine zq_getr E hM k_h0 (zFX12_39 E hZ) ⟨by decide, by decide, by decide, rfl⟩ dX12_isOut_51 ?_
                have k376 : zq_k X (zq_r X h0 20) = 59 := zq_lk L.1 k_h0 rfl (by decide)
                refine lv_iconst (v := 3) hx hb dX12_isOut_54 (by decide +kernel) ?_
                refine zq_iald (n := 106) (j := 3) (v := x328) E hZ hM k376 ⟨by decide, rfl⟩ (by rw [zl_3]; decide) (by decide +kernel) ex328 dX12_isOut_55 ?_
                have J71 : ∀ (H : Heap) (locs : List Loc) (ls : Array Slot), (zq_hm X (zk, zn) I H) → (va_S (zq_A X) s.heap H locs) → (lv_has ls 2 [(1, .int j370), (0, .ref h0)]) → W p l e R s m args below meth c H locs 0 0 Q (F0 m 71 ls []) := by
                  intro H locs ls hM hS hl
                  obtain ⟨x383, ex383⟩ : ∃ y : Int32, y = j370 + 1 := ⟨_, rfl⟩
                  have tx383 := zi_add ex383 (rfl : j370.toInt = j370.toInt) zl_1 ⟨by omega, by omega⟩
                  refine lv_iinc (v := x383) (lv' := [(1, .int x383), (0, .ref h0)]) hx hb dX12_isOut_71 hl (k := 0) rfl (by rw [ex383]; rfl) (by decide) rfl (fun ls hl => ?_)
                  refine lv_goto (tgt := 40) hx hb dX12_isOut_74 (by decide) ?_
                  exact ih40 H locs ls x383 (by omega) hM hS (⟨by omega, by omega⟩) (lv_sub hl [0, 1] rfl)
                refine lv_if_le (tgt := 71) hx hb dX12_isOut_56 (by decide) (fun b384 => ?_) (fun b384 => ?_)
                · have b384 := zi_le b384 (rfl : x328.toInt = x328.toInt) (zl_0 : (0 : Int32).toInt = 0)
                  exact J71 H locs ls hM hS (lv_sub hl [0, 1] rfl)
                · have b384 := zi_nle b384 (rfl : x328.toInt = x328.toInt) (zl_0 : (0 : Int32).toInt = 0)
                  refine lv_aload_n hx hb dX12_isOut_59 rfl (lv_at hl 1 rfl) ?_
                  refine lv_iload_n hx hb dX12_isOut_60 rfl (lv_at hl 0 rfl) ?_
                  refine lv_iconst (v := 1) hx hb dX12_isOut_61 (by decide +kernel) ?_
                  refine lv_iconst (v := 0) hx hb dX12_isOut_62 (by decide +kernel) ?_
                  refine zq_pcalli (zq_rV (As := [.int j370, .int (1 : Int32), .int (0 : Int32)]) (rest := []) E hZ hM k_h0 (c_X12_canSail l X zk (zn) I L h0 k_h0 j370 (1 : Int32) (0 : Int32) ⟨by omega, by omega⟩ (by rw [zl_0]; decide) (by have := zl_0; have := zl_1; omega)) zmX12_368 zM_X12_canSail (hro (2) 5 (by first | decide | omega) (by decide)) ⟨by decide, by decide⟩ rfl hl.1 rfl rfl (Nat.le_of_ble_eq_true rfl) dX12_isOut_63) hS (fun x386 H locs h385 hM hS => ?_)
                  obtain ⟨p387, p388⟩ := h385
                  have := zl_0
                  have := zl_1
                  refine lv_if_eq (tgt := 71) hx hb dX12_isOut_66 (by decide) (fun b389 => ?_) (fun b389 => ?_)
                  · have b389 := zi_eq b389 (rfl : x386.toInt = x386.toInt) (zl_0 : (0 : Int32).toInt = 0)
                    exact J71 H locs ls hM hS (lv_sub hl [0, 1] rfl)
                  · have b389 := zi_ne b389 (rfl : x386.toInt = x386.toInt) (zl_0 : (0 : Int32).toInt = 0)
                    refine lv_iconst (v := 0) hx hb dX12_isOut_69 (by decide +kernel) ?_
                    subst hQ
                    exact zq_zret E hr hZ hM hS (show 0 ≤ (0 : Int32).toInt ∧ (0 : Int32).toInt ≤ 1 by decide +kernel) ⟨rfl, (by have := zl_0; omega)⟩ hlocks dX12_isOut_70
          exact J40 (3 + 1 - (0 : Int32).toInt).toNat H locs ls (0 : Int32) (by omega) hM hS (by rw [zl_0]; decide) (lv_sub hl [0, 1] rfl)
        · have b329 := zi_nle b329 (rfl : x328.toInt = x328.toInt) (rfl : j324.toInt = j324.toInt)
          refine lv_aload_n hx hb dX12_isOut_21 rfl (lv_at hl 1 rfl) ?_
          refine lv_iload_n hx hb dX12_isOut_22 rfl (lv_at hl 0 rfl) ?_
          refine lv_iconst (v := 2) hx hb dX12_isOut_23 (by decide +kernel) ?_
          refine zq_pcalli (zq_rV (As := [.int j324, .int (2 : Int32)]) (rest := []) E hZ hM k_h0 (c_X12_townOf l X zk (zn) I L h0 k_h0 j324 (2 : Int32) ⟨by omega, by omega⟩ (by rw [zl_2]; decide) (by have := zl_2; omega)) zmX12_308 zM_X12_townOf (hro (0) 3 (by first | decide | omega) (by decide)) ⟨by decide, by decide⟩ rfl hl.1 rfl rfl (Nat.le_of_ble_eq_true rfl) dX12_isOut_24) hS (fun x391 H locs h390 hM hS => ?_)
          obtain ⟨p392, p393, p394, p395⟩ := h390
          have := zl_2
          refine lv_if_le (tgt := 32) hx hb dX12_isOut_27 (by decide) (fun b396 => ?_) (fun b396 => ?_)
          · have b396 := zi_le b396 (rfl : x391.toInt = x391.toInt) (zl_0 : (0 : Int32).toInt = 0)
            obtain ⟨x397, ex397⟩ : ∃ y : Int32, y = j324 + 1 := ⟨_, rfl⟩
            have tx397 := zi_add ex397 (rfl : j324.toInt = j324.toInt) zl_1 ⟨by omega, by omega⟩
            refine lv_iinc (v := x397) (lv' := [(1, .int x397), (0, .ref h0)]) hx hb dX12_isOut_32 hl (k := 0) rfl (by rw [ex397]; rfl) (by decide) rfl (fun ls hl => ?_)
            refine lv_goto (tgt := 11) hx hb dX12_isOut_35 (by decide) ?_
            exact ih11 H locs ls x397 (by omega) hM hS (⟨by omega, by omega⟩) (lv_sub hl [0, 1] rfl)
          · have b396 := zi_nle b396 (rfl : x391.toInt = x391.toInt) (zl_0 : (0 : Int32).toInt = 0)
            refine lv_iconst (v := 0) hx hb dX12_isOut_30 (by decide +kernel) ?_
            subst hQ
            exact zq_zret E hr hZ hM hS (show 0 ≤ (0 : Int32).toInt ∧ (0 : Int32).toInt ≤ 1 by decide +kernel) ⟨rfl, (by have := zl_0; omega)⟩ hlocks dX12_isOut_31
    exact J11 (4 + 1 - (0 : Int32).toInt).toNat H locs ls (0 : Int32) (by omega) hM hS (by rw [zl_0]; decide) (lv_sub hl [0, 1] rfl)
  · have b103 := zi_nle b103 (rfl : x102.toInt = x102.toInt) (zl_0 : (0 : Int32).toInt = 0)
    refine lv_iconst (v := 0) hx hb dX12_isOut_7 (by decide +kernel) ?_
    subst hQ
    exact zq_zret E hr hZ hM hS (show 0 ≤ (0 : Int32).toInt ∧ (0 : Int32).toInt ≤ 1 by decide +kernel) ⟨rfl, (by have := zl_0; omega)⟩ hlocks dX12_isOut_8
set_option maxHeartbeats 8000000 in
set_option maxRecDepth 100000 in
theorem c_X12_hatch (l : Launch) (X : zq_X) (zk zn : Nat) (I : zq_M) (L : zq_L X)  (h0 : Nat) (k_h0 : zq_k X h0 = 10) (p1 : Int32) (p2 : Int32) (p3 : Int32) (p4 : Int32) (g_p3 : 0 ≤ p3.toInt ∧ p3.toInt ≤ 1) (q_0 : zk ≤ 4400 ∧ zn ≤ 4400) : Met l yX12_hatch (zt_w yX12_hatch cX12_hatch 9 (some .int)) (zq_rm (3)) (va_Pc [.ref h0, .int p1, .int p2, .int p3, .int p4] (zq_W X (zk, zn) I)) (va_Qi (fun (r : Int32) I2 => I2 = I ∧ True) (zq_E X (zk, zn)) (zq_A X)) 0 0 (zq_A X) := by
  refine Met.ofW (cc := cX12_hatch) (maxL := 9) (ret := (some .int)) (by decide) rfl ?_
  intro p e s m args below meth c s₁ B hml hv
  obtain ⟨hargs, hM, hZ⟩ := hv
  have hown : s.vm.findClass RX12 = some m.cls := findClass_of_methodNamed B.named
  have hts := atoms_spec (ws := zt_w yX12_hatch cX12_hatch 9 (some .int)) B.pre
  have E : CallFix p m c cX12_hatch 9 s args (Cond.code yX12_hatch cX12_hatch 9 (some .int) :: zt) RX12 := ⟨B.exec, B.bytes, hml, hown, hts⟩
  have hx := B.exec
  have hb := B.bytes
  have hr := B.returns
  have hlocks := B.notSynchronized
  clear B
  have hS : va_S (zq_A X) s.heap s.heap [] := va_S.rf
  have hl := lv_entry ([.ref h0, .int p1, .int p2, .int p3, .int p4]) (n := 9) (by exact Nat.le_of_ble_eq_true rfl)
  have hg : entryFrame m args 9 = F0 m 0 ((lg_sl ([.ref h0, .int p1, .int p2, .int p3, .int p4]) ++ List.replicate (9 - (lg_sl ([.ref h0, .int p1, .int p2, .int p3, .int p4])).length) Slot.unset).toArray) [] := by rw [hargs]; exact lg_entry_eq m ([.ref h0, .int p1, .int p2, .int p3, .int p4]) 9
  rw [hg]
  clear hg hargs
  generalize (lg_sl ([.ref h0, .int p1, .int p2, .int p3, .int p4]) ++ List.replicate (9 - (lg_sl ([.ref h0, .int p1, .int p2, .int p3, .int p4])).length) Slot.unset).toArray = ls at hl ⊢
  have hl : lv_has ls 9 [(0, .ref h0), (1, .int p1), (2, .int p2), (3, .int p3), (4, .int p4)] := by exact hl
  obtain ⟨R, hRm⟩ : ∃ R : Room, R = (headSpec (zt_w yX12_hatch cX12_hatch 9 (some .int)) (zq_rm (3))).room := ⟨_, rfl⟩
  rw [← hRm]
  have hro : ∀ d q : Nat, d + 1 ≤ 3 → q ≤ 45 → zq_rok d q R := fun d q h1 h2 => by rw [hRm]; exact zq_rokI h1 h2
  generalize hQ : MQ below _ args s 0 0 (zq_A X) = Q
  obtain ⟨H, hH⟩ : ∃ H, H = s.heap := ⟨_, rfl⟩
  obtain ⟨locs, hlo⟩ : ∃ x : List Loc, x = [] := ⟨_, rfl⟩
  rw [show W p l e R s m args below meth c s.heap [] 0 0 Q = W p l e R s m args below meth c H locs 0 0 Q by rw [hH, hlo]]
  have hM : zq_hm X (zk, zn) I H := by rw [hH]; exact hM
  have hS : va_S (zq_A X) s.heap H locs := by rw [hH, hlo]; exact hS
  clear hH hlo
  refine lv_aload_n hx hb dX12_hatch_0 rfl (lv_at hl 0 rfl) ?_
  refine lv_iload_n hx hb dX12_hatch_1 rfl (lv_at hl 1 rfl) ?_
  refine zq_pcalli (zq_rV (As := [.int p1]) (rest := []) E hZ hM k_h0 (c_X12_isTown l X zk (zn) I L h0 k_h0 p1 (by have := zi_rng p1; omega)) zmX12_299 zM_X12_isTown (hro (0) 2 (by first | decide | omega) (by decide)) ⟨by decide, by decide⟩ rfl hl.1 rfl rfl (Nat.le_of_ble_eq_true rfl) dX12_hatch_2) hS (fun x102 H locs h101 hM hS => ?_)
  obtain ⟨p103, p104⟩ := h101
  refine lv_if_eq (tgt := 33) hx hb dX12_hatch_5 (by decide) (fun b105 => ?_) (fun b105 => ?_)
  · have b105 := zi_eq b105 (rfl : x102.toInt = x102.toInt) (zl_0 : (0 : Int32).toInt = 0)
    refine lv_iconst (v := (-1)) hx hb dX12_hatch_33 (by decide +kernel) ?_
    subst hQ
    exact zq_iret E hr hZ hM hS ⟨rfl, trivial⟩ hlocks dX12_hatch_34
  · have b105 := zi_ne b105 (rfl : x102.toInt = x102.toInt) (zl_0 : (0 : Int32).toInt = 0)
    refine lv_iload_n hx hb dX12_hatch_8 rfl (lv_at hl 2 rfl) ?_
    refine lv_i2l hx hb dX12_hatch_9 rfl ?_
    refine lv_topl (fun y106 ey106 => ?_)
    have ty106 := zi_i2l ey106
    have := zi_rng p2
    refine lv_lconst (v := 0) hx hb dX12_hatch_10 (by decide +kernel) ?_
    refine W.ldc2 (v := 99) hx hb hown (hts _ (List.mem_cons_of_mem _ zCX12_366)) rfl dX12_hatch_11 ?_
    refine W.eq (g2 := F0 m 14 ls [.long (99 : Int64), .long (0 : Int64), .long y106]) rfl ?_
    refine zq_pcalli (zq_rS (As := [.long y106, .long (0 : Int64), .long (99 : Int64)]) (rest := []) E hZ hM (c_X12_in l X zk (zn) I L y106 (0 : Int64) (99 : Int64)) zmX12_112 zM_X12_in (hro (0) 6 (by first | decide | omega) (by decide)) hl.1 rfl rfl (Nat.le_of_ble_eq_true rfl) dX12_hatch_14) hS (fun x108 H locs h107 hM hS => ?_)
    obtain ⟨p109, p110⟩ := h107
    have : (0 : Int64).toInt = 0 := by decide +kernel
    have : (99 : Int64).toInt = 99 := by decide +kernel
    refine lv_if_eq (tgt := 33) hx hb dX12_hatch_17 (by decide) (fun b111 => ?_) (fun b111 => ?_)
    · have b111 := zi_eq b111 (rfl : x108.toInt = x108.toInt) (zl_0 : (0 : Int32).toInt = 0)
      refine lv_iconst (v := (-1)) hx hb dX12_hatch_33 (by decide +kernel) ?_
      subst hQ
      exact zq_iret E hr hZ hM hS ⟨rfl, trivial⟩ hlocks dX12_hatch_34
    · have b111 := zi_ne b111 (rfl : x108.toInt = x108.toInt) (zl_0 : (0 : Int32).toInt = 0)
      refine lv_iload hx hb dX12_hatch_20 (lv_at hl 4 rfl) ?_
      refine lv_i2l hx hb dX12_hatch_22 rfl ?_
      refine lv_topl (fun y112 ey112 => ?_)
      have ty112 := zi_i2l ey112
      have := zi_rng p4
      refine lv_lconst (v := 0) hx hb dX12_hatch_23 (by decide +kernel) ?_
      refine W.ldc2 (v := 2) hx hb hown (hts _ (List.mem_cons_of_mem _ zCX12_417)) rfl dX12_hatch_24 ?_
      refine W.eq (g2 := F0 m 27 ls [.long (2 : Int64), .long (0 : Int64), .long y112]) rfl ?_
      refine zq_pcalli (zq_rS (As := [.long y112, .long (0 : Int64), .long (2 : Int64)]) (rest := []) E hZ hM (c_X12_in l X zk (zn) I L y112 (0 : Int64) (2 : Int64)) zmX12_112 zM_X12_in (hro (0) 6 (by first | decide | omega) (by decide)) hl.1 rfl rfl (Nat.le_of_ble_eq_true rfl) dX12_hatch_27) hS (fun x114 H locs h113 hM hS => ?_)
      obtain ⟨p115, p116⟩ := h113
      have : (0 : Int64).toInt = 0 := by decide +kernel
      have : (2 : Int64).toInt = 2 := by decide +kernel
      refine lv_if_ne (tgt := 35) hx hb dX12_hatch_30 (by decide) (fun b117 => ?_) (fun b117 => ?_)
      · have b117 := zi_ne b117 (rfl : x114.toInt = x114.toInt) (zl_0 : (0 : Int32).toInt = 0)
        refine lv_iconst (v := 0) hx hb dX12_hatch_35 (by decide +kernel) ?_
        refine lv_istore (lv' := [(5, .int (0 : Int32)), (0, .ref h0), (1, .int p1), (2, .int p2), (3, .int p3), (4, .int p4)]) hx hb dX12_hatch_36 hl (by decide) rfl (fun ls hl => ?_)
        refine lv_bipush (v := (-2)) hx hb dX12_hatch_38 (by decide +kernel) ?_
        refine lv_istore (lv' := [(6, .int (-2 : Int32)), (5, .int (0 : Int32)), (0, .ref h0), (1, .int p1), (2, .int p2), (3, .int p3), (4, .int p4)]) hx hb dX12_hatch_40 hl (by decide) rfl (fun ls hl => ?_)
        refine lv_bipush (v := (-2)) hx hb dX12_hatch_42 (by decide +kernel) ?_
        refine lv_istore (lv' := [(7, .int (-2 : Int32)), (6, .int (-2 : Int32)), (5, .int (0 : Int32)), (0, .ref h0), (1, .int p1), (2, .int p2), (3, .int p3), (4, .int p4)]) hx hb dX12_hatch_44 hl (by decide) rfl (fun ls hl => ?_)
        refine lv_iconst (v := 0) hx hb dX12_hatch_46 (by decide +kernel) ?_
        refine lv_istore (lv' := [(8, .int (0 : Int32)), (7, .int (-2 : Int32)), (6, .int (-2 : Int32)), (5, .int (0 : Int32)), (0, .ref h0), (1, .int p1), (2, .int p2), (3, .int p3), (4, .int p4)]) hx hb dX12_hatch_47 hl (by decide) rfl (fun ls hl => ?_)
        have J49 : ∀ (n173 : Nat) (H : Heap) (locs : List Loc) (ls : Array Slot) (j169 : Int32) (j170 : Int32) (j171 : Int32) (j172 : Int32), 1000 + 1 - j169.toInt ≤ ((n173 : Nat) : Int) → (zq_hm X (zk, zn) I H) → (va_S (zq_A X) s.heap H locs) → (0 ≤ j169.toInt ∧ j169.toInt ≤ 1000) → ((-2) ≤ j170.toInt ∧ j170.toInt ≤ 999) → ((-2) ≤ j171.toInt ∧ j171.toInt ≤ 999) → (lv_has ls 9 [(8, .int j169), (7, .int j170), (6, .int j171), (5, .int j172), (0, .ref h0), (1, .int p1), (2, .int p2), (3, .int p3), (4, .int p4)]) → W p l e R s m args below meth c H locs 0 0 Q (F0 m 49 ls []) := by
          intro n173
          induction n173 with
          | zero => intro H locs ls j169 j170 j171 j172 mu174 hM hS gj169 gj170 gj171 hl; exfalso; have := zi_rng j169; omega
          | succ n173 ih49 =>
            intro H locs ls j169 j170 j171 j172 mu174 hM hS gj169 gj170 gj171 hl
            refine lv_iload hx hb dX12_hatch_49 (lv_at hl 0 rfl) ?_
            refine lv_sipush (v := 999) hx hb dX12_hatch_51 (by decide +kernel) ?_
            refine lv_icmp_gt (tgt := 94) hx hb dX12_hatch_54 (by decide) (fun b175 => ?_) (fun b175 => ?_)
            · have b175 := zi_lt b175 (zl_999 : (999 : Int32).toInt = 999) (rfl : j169.toInt = j169.toInt)
              refine lv_iload hx hb dX12_hatch_94 (lv_at hl 8 rfl) ?_
              refine lv_if_ne (tgt := 104) hx hb dX12_hatch_96 (by decide) (fun b176 => ?_) (fun b176 => ?_)
              · have b176 := zi_ne b176 (rfl : p4.toInt = p4.toInt) (zl_0 : (0 : Int32).toInt = 0)
                refine lv_iload hx hb dX12_hatch_104 (lv_at hl 8 rfl) ?_
                refine lv_iconst (v := 1) hx hb dX12_hatch_106 (by decide +kernel) ?_
                refine lv_icmp_ne (tgt := 115) hx hb dX12_hatch_107 (by decide) (fun b177 => ?_) (fun b177 => ?_)
                · have b177 := zi_ne b177 (rfl : p4.toInt = p4.toInt) (zl_1 : (1 : Int32).toInt = 1)
                  refine lv_iload hx hb dX12_hatch_115 (lv_at hl 1 rfl) ?_
                  subst hQ
                  exact zq_iret E hr hZ hM hS ⟨rfl, trivial⟩ hlocks dX12_hatch_117
                · have b177 := zi_eq b177 (rfl : p4.toInt = p4.toInt) (zl_1 : (1 : Int32).toInt = 1)
                  refine lv_iload hx hb dX12_hatch_110 (lv_at hl 2 rfl) ?_
                  refine lv_goto (tgt := 117) hx hb dX12_hatch_112 (by decide) ?_
                  subst hQ
                  exact zq_iret E hr hZ hM hS ⟨rfl, trivial⟩ hlocks dX12_hatch_117
              · have b176 := zi_eq b176 (rfl : p4.toInt = p4.toInt) (zl_0 : (0 : Int32).toInt = 0)
                refine lv_iload hx hb dX12_hatch_99 (lv_at hl 3 rfl) ?_
                refine lv_goto (tgt := 117) hx hb dX12_hatch_101 (by decide) ?_
                subst hQ
                exact zq_iret E hr hZ hM hS ⟨rfl, trivial⟩ hlocks dX12_hatch_117
            · have b175 := zi_nlt b175 (zl_999 : (999 : Int32).toInt = 999) (rfl : j169.toInt = j169.toInt)
              refine lv_aload_n hx hb dX12_hatch_57 rfl (lv_at hl 4 rfl) ?_
              refine lv_iload_n hx hb dX12_hatch_58 rfl (lv_at hl 5 rfl) ?_
              refine lv_iload hx hb dX12_hatch_59 (lv_at hl 0 rfl) ?_
              refine lv_iload_n hx hb dX12_hatch_61 rfl (lv_at hl 7 rfl) ?_
              refine zq_pcalli (zq_rV (As := [.int p1, .int j169, .int p3]) (rest := []) E hZ hM k_h0 (c_X12_comesOf l X zk (zn) I L h0 k_h0 p1 j169 p3 ⟨by omega, by omega⟩ ⟨by omega, by omega⟩ ⟨by omega, by omega⟩ (by omega)) zmX12_396 zM_X12_comesOf (hro (2) 6 (by first | decide | omega) (by decide)) ⟨by decide, by decide⟩ rfl hl.1 rfl rfl (Nat.le_of_ble_eq_true rfl) dX12_hatch_62) hS (fun x179 H locs h178 hM hS => ?_)
              have p180 := h178
              refine lv_iload_n hx hb dX12_hatch_65 rfl (lv_at hl 6 rfl) ?_
              have J88 : ∀ (ls : Array Slot) (j183 : Int32) (j184 : Int32) (j185 : Int32), ((-2) ≤ j184.toInt ∧ j184.toInt ≤ 999) → ((-2) ≤ j185.toInt ∧ j185.toInt ≤ 999) → (lv_has ls 9 [(5, .int j183), (7, .int j184), (8, .int j169), (6, .int j185), (0, .ref h0), (1, .int p1), (2, .int p2), (3, .int p3), (4, .int p4)]) → W p l e R s m args below meth c H locs 0 0 Q (F0 m 88 ls []) := by
                intro ls j183 j184 j185 gj184 gj185 hl
                obtain ⟨x187, ex187⟩ : ∃ y : Int32, y = j169 + 1 := ⟨_, rfl⟩
                have tx187 := zi_add ex187 (rfl : j169.toInt = j169.toInt) zl_1 ⟨by omega, by omega⟩
                refine lv_iinc (v := x187) (lv' := [(8, .int x187), (5, .int j183), (7, .int j184), (6, .int j185), (0, .ref h0), (1, .int p1), (2, .int p2), (3, .int p3), (4, .int p4)]) hx hb dX12_hatch_88 hl (k := 2) rfl (by rw [ex187]; rfl) (by decide) rfl (fun ls hl => ?_)
                refine lv_goto (tgt := 49) hx hb dX12_hatch_91 (by decide) ?_
                exact ih49 H locs ls x187 j184 j185 j183 (by omega) hM hS (⟨by omega, by omega⟩) (⟨by omega, by omega⟩) (⟨by omega, by omega⟩) (lv_sub hl [0, 2, 3, 1, 4, 5, 6, 7, 8] rfl)
              refine lv_icmp_eq (tgt := 72) hx hb dX12_hatch_66 (by decide) (fun b188 => ?_) (fun b188 => ?_)
              · have b188 := zi_eq b188 (rfl : x179.toInt = x179.toInt) (rfl : p2.toInt = p2.toInt)
                refine lv_iload hx hb dX12_hatch_72 (lv_at hl 3 rfl) ?_
                have J81 : ∀ (ls : Array Slot) (j189 : Int32), ((-2) ≤ j189.toInt ∧ j189.toInt ≤ 999) → (lv_has ls 9 [(8, .int j169), (7, .int j170), (6, .int j189), (5, .int j172), (0, .ref h0), (1, .int p1), (2, .int p2), (3, .int p3), (4, .int p4)]) → W p l e R s m args below meth c H locs 0 0 Q (F0 m 81 ls []) := by
                  intro ls j189 gj189 hl
                  refine lv_iload hx hb dX12_hatch_81 (lv_at hl 0 rfl) ?_
                  refine lv_istore (lv' := [(7, .int j169), (8, .int j169), (6, .int j189), (5, .int j172), (0, .ref h0), (1, .int p1), (2, .int p2), (3, .int p3), (4, .int p4)]) hx hb dX12_hatch_83 hl (by decide) rfl (fun ls hl => ?_)
                  obtain ⟨x191, ex191⟩ : ∃ y : Int32, y = j172 + 1 := ⟨_, rfl⟩
                  refine lv_iinc (v := x191) (lv' := [(5, .int x191), (7, .int j169), (8, .int j169), (6, .int j189), (0, .ref h0), (1, .int p1), (2, .int p2), (3, .int p3), (4, .int p4)]) hx hb dX12_hatch_85 hl (k := 3) rfl (by rw [ex191]; rfl) (by decide) rfl (fun ls hl => ?_)
                  exact J88 ls x191 j169 j189 (⟨by omega, by omega⟩) (⟨by omega, by omega⟩) (lv_sub hl [0, 1, 2, 3, 4, 5, 6, 7, 8] rfl)
                refine lv_if_ne (tgt := 81) hx hb dX12_hatch_74 (by decide) (fun b192 => ?_) (fun b192 => ?_)
                · have b192 := zi_ne b192 (rfl : j172.toInt = j172.toInt) (zl_0 : (0 : Int32).toInt = 0)
                  exact J81 ls j171 (⟨by omega, by omega⟩) (lv_sub hl [0, 1, 2, 3, 4, 5, 6, 7, 8] rfl)
                · have b192 := zi_eq b192 (rfl : j172.toInt = j172.toInt) (zl_0 : (0 : Int32).toInt = 0)
                  refine lv_iload hx hb dX12_hatch_77 (lv_at hl 0 rfl) ?_
                  refine lv_istore (lv' := [(6, .int j169), (8, .int j169), (7, .int j170), (5, .int j172), (0, .ref h0), (1, .int p1), (2, .int p2), (3, .int p3), (4, .int p4)]) hx hb dX12_hatch_79 hl (by decide) rfl (fun ls hl => ?_)
                  exact J81 ls j169 (⟨by omega, by omega⟩) (lv_sub hl [1, 2, 0, 3, 4, 5, 6, 7, 8] rfl)
              · have b188 := zi_ne b188 (rfl : x179.toInt = x179.toInt) (rfl : p2.toInt = p2.toInt)
                refine lv_goto (tgt := 88) hx hb dX12_hatch_69 (by decide) ?_
                exact J88 ls j172 j170 j171 (⟨by omega, by omega⟩) (⟨by omega, by omega⟩) (lv_sub hl [3, 1, 0, 2, 4, 5, 6, 7, 8] rfl)
        exact J49 (1000 + 1 - (0 : Int32).toInt).toNat H locs ls (0 : Int32) (-2 : Int32) (-2 : Int32) (0 : Int32) (by omega) hM hS (by rw [zl_0]; decide) (by rw [zl_m2]; decide) (by rw [zl_m2]; decide) (lv_sub hl [0, 1, 2, 3, 4, 5, 6, 7, 8] rfl)
      · have b117 := zi_eq b117 (rfl : x114.toInt = x114.toInt) (zl_0 : (0 : Int32).toInt = 0)
        refine lv_iconst (v := (-1)) hx hb dX12_hatch_33 (by decide +kernel) ?_
        subst hQ
        exact zq_iret E hr hZ hM hS ⟨rfl, trivial⟩ hlocks dX12_hatch_34
def zw_X12_note : List (Nat × Nat) := [(59, 999)]
set_option maxHeartbeats 8000000 in
set_option maxRecDepth 100000 in
theorem c_X12_note (l : Launch) (X : zq_X) (zk zn : Nat) (I : zq_M) (L : zq_L X)  (h0 : Nat) (k_h0 : zq_k X h0 = 10) (p1 : Int32) (p2 : Int32) (q_0 : zk ≤ 4400 ∧ zn ≤ 4400) : Met l yX12_note (zt_w yX12_note cX12_note 3 (some .int)) (zq_rm (1)) (va_Pc [.ref h0, .int p1, .int p2] (zq_W X (zk, zn) I)) (va_Qi (fun (r : Int32) I2 => zq_fr (zf X zw_X12_note (fun _ => False)) I I2 ∧ ((-2) ≤ r.toInt ∧ r.toInt ≤ 10)) (zq_E X (zk, zn)) (zq_A X)) 0 0 (zq_A X) := by
  refine Met.ofW (cc := cX12_note) (maxL := 3) (ret := (some .int)) (by decide) rfl ?_
  intro p e s m args below meth c s₁ B hml hv
  obtain ⟨hargs, hM, hZ⟩ := hv
  have hown : s.vm.findClass RX12 = some m.cls := findClass_of_methodNamed B.named
  have hts := atoms_spec (ws := zt_w yX12_note cX12_note 3 (some .int)) B.pre
  have E : CallFix p m c cX12_note 3 s args (Cond.code yX12_note cX12_note 3 (some .int) :: zt) RX12 := ⟨B.exec, B.bytes, hml, hown, hts⟩
  have hx := B.exec
  have hb := B.bytes
  have hr := B.returns
  have hlocks := B.notSynchronized
  clear B
  have hS : va_S (zq_A X) s.heap s.heap [] := va_S.rf
  have hR : zq_fr (zf X zw_X12_note (fun _ => False)) I I := zq_fr.rf
  have hl := lv_entry ([.ref h0, .int p1, .int p2]) (n := 3) (by exact Nat.le_of_ble_eq_true rfl)
  have hg : entryFrame m args 3 = F0 m 0 ((lg_sl ([.ref h0, .int p1, .int p2]) ++ List.replicate (3 - (lg_sl ([.ref h0, .int p1, .int p2])).length) Slot.unset).toArray) [] := by rw [hargs]; exact lg_entry_eq m ([.ref h0, .int p1, .int p2]) 3
  rw [hg]
  clear hg hargs
  generalize (lg_sl ([.ref h0, .int p1, .int p2]) ++ List.replicate (3 - (lg_sl ([.ref h0, .int p1, .int p2])).length) Slot.unset).toArray = ls at hl ⊢
  have hl : lv_has ls 3 [(0, .ref h0), (1, .int p1), (2, .int p2)] := by exact hl
  obtain ⟨R, hRm⟩ : ∃ R : Room, R = (headSpec (zt_w yX12_note cX12_note 3 (some .int)) (zq_rm (1))).room := ⟨_, rfl⟩
  rw [← hRm]
  have hro : ∀ d q : Nat, d + 1 ≤ 1 → q ≤ 45 → zq_rok d q R := fun d q h1 h2 => by rw [hRm]; exact zq_rokI h1 h2
  generalize hQ : MQ below _ args s 0 0 (zq_A X) = Q
  obtain ⟨H, hH⟩ : ∃ H, H = s.heap := ⟨_, rfl⟩
  obtain ⟨locs, hlo⟩ : ∃ x : List Loc, x = [] := ⟨_, rfl⟩
  rw [show W p l e R s m args below meth c s.heap [] 0 0 Q = W p l e R s m args below meth c H locs 0 0 Q by rw [hH, hlo]]
  have hM : zq_hm X (zk, zn) I H := by rw [hH]; exact hM
  have hS : va_S (zq_A X) s.heap H locs := by rw [hH, hlo]; exact hS
  clear hH hlo
  refine lv_iload_n hx hb dX12_note_0 rfl (lv_at hl 1 rfl) ?_
  refine lv_iconst (v := (-1)) hx hb dX12_note_1 (by decide +kernel) ?_
  refine lv_icmp_ne (tgt := 15) hx hb dX12_note_2 (by decide) (fun b101 => ?_) (fun b101 => ?_)
  · have b101 := zi_ne b101 (rfl : p1.toInt = p1.toInt) (zl_m1 : (-1 : Int32).toInt = (-1))
    refine lv_aload_n hx hb dX12_note_15 rfl (lv_at hl 0 rfl) ?_
    refine zq_pcalli (zq_rV (As := []) (rest := []) E hZ hM k_h0 (c_X12_isTrade l X zk (zn) I L h0 k_h0 (by omega)) zmX12_357 zM_X12_isTrade (hro (0) 1 (by first | decide | omega) (by decide)) ⟨by decide, by decide⟩ rfl hl.1 rfl rfl (Nat.le_of_ble_eq_true rfl) dX12_note_16) hS (fun x103 H locs h102 hM hS => ?_)
    have p104 := h102
    refine lv_if_eq (tgt := 58) hx hb dX12_note_19 (by decide) (fun b105 => ?_) (fun b105 => ?_)
    · have b105 := zi_eq b105 (rfl : x103.toInt = x103.toInt) (zl_0 : (0 : Int32).toInt = 0)
      refine lv_bipush (v := (-2)) hx hb dX12_note_58 (by decide +kernel) ?_
      subst hQ
      exact zq_iret E hr hZ hM hS ⟨hR, (by have := zl_m2; omega)⟩ hlocks dX12_note_60
    · have b105 := zi_ne b105 (rfl : x103.toInt = x103.toInt) (zl_0 : (0 : Int32).toInt = 0)
      refine lv_iload_n hx hb dX12_note_22 rfl (lv_at hl 1 rfl) ?_
      refine lv_i2l hx hb dX12_note_23 rfl ?_
      refine lv_topl (fun y106 ey106 => ?_)
      have ty106 := zi_i2l ey106
      have := zi_rng p1
      refine lv_lconst (v := 0) hx hb dX12_note_24 (by decide +kernel) ?_
      refine W.ldc2 (v := 60) hx hb hown (hts _ (List.mem_cons_of_mem _ zCX12_384)) rfl dX12_note_25 ?_
      refine W.eq (g2 := F0 m 28 ls [.long (60 : Int64), .long (0 : Int64), .long y106]) rfl ?_
      refine zq_pcalli (zq_rS (As := [.long y106, .long (0 : Int64), .long (60 : Int64)]) (rest := []) E hZ hM (c_X12_in l X zk (zn) I L y106 (0 : Int64) (60 : Int64)) zmX12_112 zM_X12_in (hro (0) 6 (by first | decide | omega) (by decide)) hl.1 rfl rfl (Nat.le_of_ble_eq_true rfl) dX12_note_28) hS (fun x108 H locs h107 hM hS => ?_)
      obtain ⟨p109, p110⟩ := h107
      have : (0 : Int64).toInt = 0 := by decide +kernel
      have : (60 : Int64).toInt = 60 := by decide +kernel
      refine lv_if_eq (tgt := 58) hx hb dX12_note_31 (by decide) (fun b111 => ?_) (fun b111 => ?_)
      · have b111 := zi_eq b111 (rfl : x108.toInt = x108.toInt) (zl_0 : (0 : Int32).toInt = 0)
        refine lv_bipush (v := (-2)) hx hb dX12_note_58 (by decide +kernel) ?_
        subst hQ
        exact zq_iret E hr hZ hM hS ⟨hR, (by have := zl_m2; omega)⟩ hlocks dX12_note_60
      · have b111 := zi_ne b111 (rfl : x108.toInt = x108.toInt) (zl_0 : (0 : Int32).toInt = 0)
        refine lv_iload_n hx hb dX12_note_34 rfl (lv_at hl 2 rfl) ?_
        refine lv_i2l hx hb dX12_note_35 rfl ?_
        refine lv_topl (fun y112 ey112 => ?_)
        have ty112 := zi_i2l ey112
        have := zi_rng p2
        refine lv_lconst (v := 0) hx hb dX12_note_36 (by decide +kernel) ?_
        refine W.ldc2 (v := 99999) hx hb hown (hts _ (List.mem_cons_of_mem _ zCX12_428)) rfl dX12_note_37 ?_
        refine W.eq (g2 := F0 m 40 ls [.long (99999 : Int64), .long (0 : Int64), .long y112]) rfl ?_
        refine zq_pcalli (zq_rS (As := [.long y112, .long (0 : Int64), .long (99999 : Int64)]) (rest := []) E hZ hM (c_X12_in l X zk (zn) I L y112 (0 : Int64) (99999 : Int64)) zmX12_112 zM_X12_in (hro (0) 6 (by first | decide | omega) (by decide)) hl.1 rfl rfl (Nat.le_of_ble_eq_true rfl) dX12_note_40) hS (fun x114 H locs h113 hM hS => ?_)
        obtain ⟨p115, p116⟩ := h113
        have : (0 : Int64).toInt = 0 := by decide +kernel
        have : (99999 : Int64).toInt = 99999 := by decide +kernel
        refine lv_if_eq (tgt := 58) hx hb dX12_note_43 (by decide) (fun b117 => ?_) (fun b117 => ?_)
        · have b117 := zi_eq b117 (rfl : x114.toInt = x114.toInt) (zl_0 : (0 : Int32).toInt = 0)
          refine lv_bipush (v := (-2)) hx hb dX12_note_58 (by decide +kernel) ?_
          subst hQ
          exact zq_iret E hr hZ hM hS ⟨hR, (by have := zl_m2; omega)⟩ hlocks dX12_note_60
        · have b117 := zi_ne b117 (rfl : x114.toInt = x114.toInt) (zl_0 : (0 : Int32).toInt = 0)
          refine lv_aload_n hx hb dX12_note_46 rfl (lv_at hl 0 rfl) ?_
          refine zq_getr E hM k_h0 (zFX12_39 E hZ) ⟨by decide, by decide, by decide, rfl⟩ dX12_note_47 ?_
          have k118 : zq_k X (zq_r X h0 20) = 59 := zq_lk L.1 k_h0 rfl (by decide)
          refine lv_bipush (v := 105) hx hb dX12_note_50 (by decide +kernel) ?_
          refine zq_ian (n := 106) (j := 105) E hZ hM k118 ⟨by decide, rfl⟩ (by rw [zl_105]; decide) (by decide +kernel) dX12_note_52 (fun x119 ex119 gx119 => ?_)
          replace gx119 : 0 ≤ x119.toInt ∧ x119.toInt ≤ 10 := gx119
          refine lv_bipush (v := 10) hx hb dX12_note_53 (by decide +kernel) ?_
          refine lv_icmp_ne (tgt := 61) hx hb dX12_note_55 (by decide) (fun b120 => ?_) (fun b120 => ?_)
          · have b120 := zi_ne b120 (rfl : x119.toInt = x119.toInt) (zl_10 : (10 : Int32).toInt = 10)
            refine lv_aload_n hx hb dX12_note_61 rfl (lv_at hl 0 rfl) ?_
            refine zq_getr E hM k_h0 (zFX12_39 E hZ) ⟨by decide, by decide, by decide, rfl⟩ dX12_note_62 ?_
            have k121 : zq_k X (zq_r X h0 20) = 59 := zq_lk L.1 k_h0 rfl (by decide)
            refine lv_bipush (v := 85) hx hb dX12_note_65 (by decide +kernel) ?_
            refine lv_iconst (v := 2) hx hb dX12_note_67 (by decide +kernel) ?_
            refine lv_aload_n hx hb dX12_note_68 rfl (lv_at hl 0 rfl) ?_
            refine zq_getr E hM k_h0 (zFX12_39 E hZ) ⟨by decide, by decide, by decide, rfl⟩ dX12_note_69 ?_
            have k122 : zq_k X (zq_r X h0 20) = 59 := zq_lk L.1 k_h0 rfl (by decide)
            refine lv_bipush (v := 105) hx hb dX12_note_72 (by decide +kernel) ?_
            refine zq_iald (n := 106) (j := 105) (v := x119) E hZ hM k122 ⟨by decide, rfl⟩ (by rw [zl_105]; decide) (by decide +kernel) ex119 dX12_note_74 ?_
            refine lv_imul hx hb dX12_note_75 ?_
            refine lv_topi (fun x124 ex124 => ?_)
            have tx124 := zi_mul ex124 (zl_2 : (2 : Int32).toInt = 2) (rfl : x119.toInt = x119.toInt) ⟨by omega, by omega⟩
            refine W.eq (g2 := F0 m 76 ls [.int x124, .int (85 : Int32), .ref (zq_r X h0 20)]) rfl ?_
            refine lv_iadd hx hb dX12_note_76 ?_
            refine lv_topi (fun x125 ex125 => ?_)
            have tx125 := zi_add ex125 (zl_85 : (85 : Int32).toInt = 85) (rfl : x124.toInt = x124.toInt) ⟨by omega, by omega⟩
            refine lv_iload_n hx hb dX12_note_77 rfl (lv_at hl 1 rfl) ?_
            have hclx125 := zq_cl (i := x125) (by omega)
            have hc127 : x125.toNatClampNeg = 85 ∨ x125.toNatClampNeg = 87 ∨ x125.toNatClampNeg = 89 ∨ x125.toNatClampNeg = 91 ∨ x125.toNatClampNeg = 93 ∨ x125.toNatClampNeg = 95 ∨ x125.toNatClampNeg = 97 ∨ x125.toNatClampNeg = 99 ∨ x125.toNatClampNeg = 101 ∨ x125.toNatClampNeg = 103 := by omega
            have hp128 : (zq_rg (zk, zn) 59 x125.toNatClampNeg).1 ≤ p1.toInt ∧ p1.toInt ≤ (zq_rg (zk, zn) 59 x125.toNatClampNeg).2 := by
              rcases hc127 with q9 | q9 | q9 | q9 | q9 | q9 | q9 | q9 | q9 | q9
              · rw [q9]; exact (show 0 ≤ p1.toInt ∧ p1.toInt ≤ 60 from ⟨by omega, by omega⟩)
              · rw [q9]; exact (show 0 ≤ p1.toInt ∧ p1.toInt ≤ 60 from ⟨by omega, by omega⟩)
              · rw [q9]; exact (show 0 ≤ p1.toInt ∧ p1.toInt ≤ 60 from ⟨by omega, by omega⟩)
              · rw [q9]; exact (show 0 ≤ p1.toInt ∧ p1.toInt ≤ 60 from ⟨by omega, by omega⟩)
              · rw [q9]; exact (show 0 ≤ p1.toInt ∧ p1.toInt ≤ 60 from ⟨by omega, by omega⟩)
              · rw [q9]; exact (show 0 ≤ p1.toInt ∧ p1.toInt ≤ 60 from ⟨by omega, by omega⟩)
              · rw [q9]; exact (show 0 ≤ p1.toInt ∧ p1.toInt ≤ 60 from ⟨by omega, by omega⟩)
              · rw [q9]; exact (show 0 ≤ p1.toInt ∧ p1.toInt ≤ 60 from ⟨by omega, by omega⟩)
              · rw [q9]; exact (show 0 ≤ p1.toInt ∧ p1.toInt ≤ 60 from ⟨by omega, by omega⟩)
              · rw [q9]; exact (show 0 ≤ p1.toInt ∧ p1.toInt ≤ 60 from ⟨by omega, by omega⟩)
            refine zq_isn (n := 106) (j := (x125.toNatClampNeg)) E hZ hM hS k121 ⟨by decide, rfl⟩ ⟨by omega, by omega⟩ rfl hp128 dX12_note_78 (fun I126 H locs eI126 hM hS => ?_)
            have hR := zq_fr.putE hR eI126 (zf_ia k121 (by decide) rfl)
            refine lv_aload_n hx hb dX12_note_79 rfl (lv_at hl 0 rfl) ?_
            refine zq_getr E hM k_h0 (zFX12_39 E hZ) ⟨by decide, by decide, by decide, rfl⟩ dX12_note_80 ?_
            have k129 : zq_k X (zq_r X h0 20) = 59 := zq_lk L.1 k_h0 rfl (by decide)
            refine lv_bipush (v := 85) hx hb dX12_note_83 (by decide +kernel) ?_
            refine lv_iconst (v := 2) hx hb dX12_note_85 (by decide +kernel) ?_
            refine lv_aload_n hx hb dX12_note_86 rfl (lv_at hl 0 rfl) ?_
            refine zq_getr E hM k_h0 (zFX12_39 E hZ) ⟨by decide, by decide, by decide, rfl⟩ dX12_note_87 ?_
            have k130 : zq_k X (zq_r X h0 20) = 59 := zq_lk L.1 k_h0 rfl (by decide)
            refine lv_bipush (v := 105) hx hb dX12_note_90 (by decide +kernel) ?_
            refine W.eq (g2 := F0 m 92 ls [.int (105 : Int32), .ref (zq_r X h0 20), .int (2 : Int32), .int (85 : Int32), .ref (zq_r X h0 20)]) rfl ?_
            refine zq_iald (n := 106) (j := 105) (v := x119) E hZ hM k130 ⟨by decide, rfl⟩ (by rw [zl_105]; decide) (by decide +kernel) (zq_kp eI126 (Or.inr (by have := zq_cl (i := x125) (by omega); omega)) ex119) dX12_note_92 ?_
            refine lv_imul hx hb dX12_note_93 ?_
            refine lv_topi (fun x132 ex132 => ?_)
            have tx132 := zi_mul ex132 (zl_2 : (2 : Int32).toInt = 2) (rfl : x119.toInt = x119.toInt) ⟨by omega, by omega⟩
            refine lv_iadd hx hb dX12_note_94 ?_
            refine lv_topi (fun x133 ex133 => ?_)
            have tx133 := zi_add ex133 (zl_85 : (85 : Int32).toInt = 85) (rfl : x132.toInt = x132.toInt) ⟨by omega, by omega⟩
            refine lv_iconst (v := 1) hx hb dX12_note_95 (by decide +kernel) ?_
            refine lv_iadd hx hb dX12_note_96 ?_
            refine lv_topi (fun x134 ex134 => ?_)
            have tx134 := zi_add ex134 (rfl : x133.toInt = x133.toInt) (zl_1 : (1 : Int32).toInt = 1) ⟨by omega, by omega⟩
            refine lv_iload_n hx hb dX12_note_97 rfl (lv_at hl 2 rfl) ?_
            have hclx134 := zq_cl (i := x134) (by omega)
            have hc136 : x134.toNatClampNeg = 86 ∨ x134.toNatClampNeg = 88 ∨ x134.toNatClampNeg = 90 ∨ x134.toNatClampNeg = 92 ∨ x134.toNatClampNeg = 94 ∨ x134.toNatClampNeg = 96 ∨ x134.toNatClampNeg = 98 ∨ x134.toNatClampNeg = 100 ∨ x134.toNatClampNeg = 102 ∨ x134.toNatClampNeg = 104 := by omega
            have hp137 : (zq_rg (zk, zn) 59 x134.toNatClampNeg).1 ≤ p2.toInt ∧ p2.toInt ≤ (zq_rg (zk, zn) 59 x134.toNatClampNeg).2 := by
              rcases hc136 with q9 | q9 | q9 | q9 | q9 | q9 | q9 | q9 | q9 | q9
              · rw [q9]; exact zq_any _
              · rw [q9]; exact zq_any _
              · rw [q9]; exact zq_any _
              · rw [q9]; exact zq_any _
              · rw [q9]; exact zq_any _
              · rw [q9]; exact zq_any _
              · rw [q9]; exact zq_any _
              · rw [q9]; exact zq_any _
              · rw [q9]; exact zq_any _
              · rw [q9]; exact zq_any _
            refine zq_isn (n := 106) (j := (x134.toNatClampNeg)) E hZ hM hS k129 ⟨by decide, rfl⟩ ⟨by omega, by omega⟩ rfl hp137 dX12_note_98 (fun I135 H locs eI135 hM hS => ?_)
            have hR := zq_fr.putE hR eI135 (zf_ia k129 (by decide) rfl)
            refine lv_aload_n hx hb dX12_note_99 rfl (lv_at hl 0 rfl) ?_
            refine zq_getr E hM k_h0 (zFX12_39 E hZ) ⟨by decide, by decide, by decide, rfl⟩ dX12_note_100 ?_
            have k138 : zq_k X (zq_r X h0 20) = 59 := zq_lk L.1 k_h0 rfl (by decide)
            refine lv_bipush (v := 105) hx hb dX12_note_103 (by decide +kernel) ?_
            refine W.eq (g2 := F0 m 105 ls [.int (105 : Int32), .ref (zq_r X h0 20)]) rfl ?_
            refine lv_dup2_11 hx hb dX12_note_105 rfl rfl ?_
            refine zq_iald (n := 106) (j := 105) (v := x119) E hZ hM k138 ⟨by decide, rfl⟩ (by rw [zl_105]; decide) (by decide +kernel) (zq_kp eI135 (Or.inr (by have := zq_cl (i := x134) (by omega); omega)) (zq_kp eI126 (Or.inr (by have := zq_cl (i := x125) (by omega); omega)) ex119)) dX12_note_106 ?_
            refine lv_iconst (v := 1) hx hb dX12_note_107 (by decide +kernel) ?_
            refine lv_iadd hx hb dX12_note_108 ?_
            refine lv_topi (fun x140 ex140 => ?_)
            have tx140 := zi_add ex140 (rfl : x119.toInt = x119.toInt) (zl_1 : (1 : Int32).toInt = 1) ⟨by omega, by omega⟩
            refine zq_isn (n := 106) (j := 105) E hZ hM hS k138 ⟨by decide, rfl⟩ (by rw [zl_105]; decide) (by decide +kernel) (by exact (show 0 ≤ x140.toInt ∧ x140.toInt ≤ 10 from ⟨by omega, by omega⟩)) dX12_note_109 (fun I141 H locs eI141 hM hS => ?_)
            have hR := zq_fr.putE hR eI141 (zf_ia k138 (by decide) rfl)
            refine lv_aload_n hx hb dX12_note_110 rfl (lv_at hl 0 rfl) ?_
            refine zq_getr E hM k_h0 (zFX12_39 E hZ) ⟨by decide, by decide, by decide, rfl⟩ dX12_note_111 ?_
            have k142 : zq_k X (zq_r X h0 20) = 59 := zq_lk L.1 k_h0 rfl (by decide)
            refine lv_bipush (v := 105) hx hb dX12_note_114 (by decide +kernel) ?_
            refine zq_iald (n := 106) (j := 105) (v := x140) E hZ hM k142 ⟨by decide, rfl⟩ (by rw [zl_105]; decide) (by decide +kernel) (zq_kv eI141) dX12_note_116 ?_
            subst hQ
            exact zq_iret E hr hZ hM hS ⟨hR, (by omega)⟩ hlocks dX12_note_117
          · have b120 := zi_eq b120 (rfl : x119.toInt = x119.toInt) (zl_10 : (10 : Int32).toInt = 10)
            refine lv_bipush (v := (-2)) hx hb dX12_note_58 (by decide +kernel) ?_
            subst hQ
            exact zq_iret E hr hZ hM hS ⟨hR, (by have := zl_m2; omega)⟩ hlocks dX12_note_60
  · have b101 := zi_eq b101 (rfl : p1.toInt = p1.toInt) (zl_m1 : (-1 : Int32).toInt = (-1))
    refine lv_aload_n hx hb dX12_note_5 rfl (lv_at hl 0 rfl) ?_
    refine zq_getr E hM k_h0 (zFX12_39 E hZ) ⟨by decide, by decide, by decide, rfl⟩ dX12_note_6 ?_
    have k144 : zq_k X (zq_r X h0 20) = 59 := zq_lk L.1 k_h0 rfl (by decide)
    refine lv_bipush (v := 105) hx hb dX12_note_9 (by decide +kernel) ?_
    refine lv_iconst (v := 0) hx hb dX12_note_11 (by decide +kernel) ?_
    refine zq_isn (n := 106) (j := 105) E hZ hM hS k144 ⟨by decide, rfl⟩ (by rw [zl_105]; decide) (by decide +kernel) (by exact (show 0 ≤ (0 : Int32).toInt ∧ (0 : Int32).toInt ≤ 10 by decide +kernel)) dX12_note_12 (fun I145 H locs eI145 hM hS => ?_)
    have hR := zq_fr.putE hR eI145 (zf_ia k144 (by decide) rfl)
    refine lv_iconst (v := 0) hx hb dX12_note_13 (by decide +kernel) ?_
    subst hQ
    exact zq_iret E hr hZ hM hS ⟨hR, (by have := zl_0; omega)⟩ hlocks dX12_note_14
set_option maxHeartbeats 8000000 in
set_option maxRecDepth 100000 in
theorem c_X12_count (l : Launch) (X : zq_X) (zk zn : Nat) (I : zq_M) (L : zq_L X)  (h0 : Nat) (k_h0 : zq_k X h0 = 10) (p1 : Int32) (q_0 : zk ≤ 4400 ∧ zn ≤ 4400) : Met l yX12_count (zt_w yX12_count cX12_count 4 (some .int)) (zq_rm (3)) (va_Pc [.ref h0, .int p1] (zq_W X (zk, zn) I)) (va_Qi (fun (r : Int32) I2 => I2 = I ∧ True) (zq_E X (zk, zn)) (zq_A X)) 0 0 (zq_A X) := by
  refine Met.ofW (cc := cX12_count) (maxL := 4) (ret := (some .int)) (by decide) rfl ?_
  intro p e s m args below meth c s₁ B hml hv
  obtain ⟨hargs, hM, hZ⟩ := hv
  have hown : s.vm.findClass RX12 = some m.cls := findClass_of_methodNamed B.named
  have hts := atoms_spec (ws := zt_w yX12_count cX12_count 4 (some .int)) B.pre
  have E : CallFix p m c cX12_count 4 s args (Cond.code yX12_count cX12_count 4 (some .int) :: zt) RX12 := ⟨B.exec, B.bytes, hml, hown, hts⟩
  have hx := B.exec
  have hb := B.bytes
  have hr := B.returns
  have hlocks := B.notSynchronized
  clear B
  have hS : va_S (zq_A X) s.heap s.heap [] := va_S.rf
  have hl := lv_entry ([.ref h0, .int p1]) (n := 4) (by exact Nat.le_of_ble_eq_true rfl)
  have hg : entryFrame m args 4 = F0 m 0 ((lg_sl ([.ref h0, .int p1]) ++ List.replicate (4 - (lg_sl ([.ref h0, .int p1])).length) Slot.unset).toArray) [] := by rw [hargs]; exact lg_entry_eq m ([.ref h0, .int p1]) 4
  rw [hg]
  clear hg hargs
  generalize (lg_sl ([.ref h0, .int p1]) ++ List.replicate (4 - (lg_sl ([.ref h0, .int p1])).length) Slot.unset).toArray = ls at hl ⊢
  have hl : lv_has ls 4 [(0, .ref h0), (1, .int p1)] := by exact hl
  obtain ⟨R, hRm⟩ : ∃ R : Room, R = (headSpec (zt_w yX12_count cX12_count 4 (some .int)) (zq_rm (3))).room := ⟨_, rfl⟩
  rw [← hRm]
  have hro : ∀ d q : Nat, d + 1 ≤ 3 → q ≤ 45 → zq_rok d q R := fun d q h1 h2 => by rw [hRm]; exact zq_rokI h1 h2
  generalize hQ : MQ below _ args s 0 0 (zq_A X) = Q
  obtain ⟨H, hH⟩ : ∃ H, H = s.heap := ⟨_, rfl⟩
  obtain ⟨locs, hlo⟩ : ∃ x : List Loc, x = [] := ⟨_, rfl⟩
  rw [show W p l e R s m args below meth c s.heap [] 0 0 Q = W p l e R s m args below meth c H locs 0 0 Q by rw [hH, hlo]]
  have hM : zq_hm X (zk, zn) I H := by rw [hH]; exact hM
  have hS : va_S (zq_A X) s.heap H locs := by rw [hH, hlo]; exact hS
  clear hH hlo
  refine lv_iconst (v := 0) hx hb dX12_count_0 (by decide +kernel) ?_
  refine lv_istore_n (lv' := [(2, .int (0 : Int32)), (0, .ref h0), (1, .int p1)]) hx hb dX12_count_1 rfl hl (by decide) rfl (fun ls hl => ?_)
  refine lv_iload_n hx hb dX12_count_2 rfl (lv_at hl 2 rfl) ?_
  by_cases c101 : p1.toInt < 0 ∨ 15 < p1.toInt
  · refine lv_tableOut (tgt := 270) hx hb dX12_count_3 c101 (by decide) ?_
    refine lv_iconst (v := (-1)) hx hb dX12_count_270 (by decide +kernel) ?_
    subst hQ
    exact zq_iret E hr hZ hM hS ⟨rfl, trivial⟩ hlocks dX12_count_271
  · have c101 : p1.toInt = 0 ∨ p1.toInt = 1 ∨ p1.toInt = 2 ∨ p1.toInt = 3 ∨ p1.toInt = 4 ∨ p1.toInt = 5 ∨ p1.toInt = 6 ∨ p1.toInt = 7 ∨ p1.toInt = 8 ∨ p1.toInt = 9 ∨ p1.toInt = 10 ∨ p1.toInt = 11 ∨ p1.toInt = 12 ∨ p1.toInt = 13 ∨ p1.toInt = 14 ∨ p1.toInt = 15 := by omega
    rcases c101 with c101 | c101 | c101 | c101 | c101 | c101 | c101 | c101 | c101 | c101 | c101 | c101 | c101 | c101 | c101 | c101
    · refine lv_tableIn (tgt := 80) hx hb dX12_count_3 (by omega) (by omega) (by rw [c101]; rfl) (by decide) ?_
      refine lv_aload_n hx hb dX12_count_80 rfl (lv_at hl 1 rfl) ?_
      refine zq_getr E hM k_h0 (zFX12_39 E hZ) ⟨by decide, by decide, by decide, rfl⟩ dX12_count_81 ?_
      have k102 : zq_k X (zq_r X h0 20) = 59 := zq_lk L.1 k_h0 rfl (by decide)
      refine lv_bipush (v := 10) hx hb dX12_count_84 (by decide +kernel) ?_
      refine zq_ian (n := 106) (j := 10) E hZ hM k102 ⟨by decide, rfl⟩ (by rw [zl_10]; decide) (by decide +kernel) dX12_count_86 (fun x103 ex103 gx103 => ?_)
      clear gx103
      subst hQ
      exact zq_iret E hr hZ hM hS ⟨rfl, trivial⟩ hlocks dX12_count_87
    · refine lv_tableIn (tgt := 88) hx hb dX12_count_3 (by omega) (by omega) (by rw [c101]; rfl) (by decide) ?_
      refine lv_aload_n hx hb dX12_count_88 rfl (lv_at hl 1 rfl) ?_
      refine zq_getr E hM k_h0 (zFX12_39 E hZ) ⟨by decide, by decide, by decide, rfl⟩ dX12_count_89 ?_
      have k104 : zq_k X (zq_r X h0 20) = 59 := zq_lk L.1 k_h0 rfl (by decide)
      refine lv_iconst (v := 1) hx hb dX12_count_92 (by decide +kernel) ?_
      refine zq_ian (n := 106) (j := 1) E hZ hM k104 ⟨by decide, rfl⟩ (by rw [zl_1]; decide) (by decide +kernel) dX12_count_93 (fun x105 ex105 gx105 => ?_)
      replace gx105 : 0 ≤ x105.toInt ∧ x105.toInt ≤ 20 := gx105
      subst hQ
      exact zq_iret E hr hZ hM hS ⟨rfl, trivial⟩ hlocks dX12_count_94
    · refine lv_tableIn (tgt := 95) hx hb dX12_count_3 (by omega) (by omega) (by rw [c101]; rfl) (by decide) ?_
      refine lv_aload_n hx hb dX12_count_95 rfl (lv_at hl 1 rfl) ?_
      refine zq_getr E hM k_h0 (zFX12_39 E hZ) ⟨by decide, by decide, by decide, rfl⟩ dX12_count_96 ?_
      have k106 : zq_k X (zq_r X h0 20) = 59 := zq_lk L.1 k_h0 rfl (by decide)
      refine lv_bipush (v := 11) hx hb dX12_count_99 (by decide +kernel) ?_
      refine zq_ian (n := 106) (j := 11) E hZ hM k106 ⟨by decide, rfl⟩ (by rw [zl_11]; decide) (by decide +kernel) dX12_count_101 (fun x107 ex107 gx107 => ?_)
      clear gx107
      subst hQ
      exact zq_iret E hr hZ hM hS ⟨rfl, trivial⟩ hlocks dX12_count_102
    · refine lv_tableIn (tgt := 103) hx hb dX12_count_3 (by omega) (by omega) (by rw [c101]; rfl) (by decide) ?_
      refine lv_aload_n hx hb dX12_count_103 rfl (lv_at hl 1 rfl) ?_
      refine zq_getr E hM k_h0 (zFX12_39 E hZ) ⟨by decide, by decide, by decide, rfl⟩ dX12_count_104 ?_
      have k108 : zq_k X (zq_r X h0 20) = 59 := zq_lk L.1 k_h0 rfl (by decide)
      refine lv_iconst (v := 2) hx hb dX12_count_107 (by decide +kernel) ?_
      refine zq_ian (n := 106) (j := 2) E hZ hM k108 ⟨by decide, rfl⟩ (by rw [zl_2]; decide) (by decide +kernel) dX12_count_108 (fun x109 ex109 gx109 => ?_)
      replace gx109 : 0 ≤ x109.toInt ∧ x109.toInt ≤ 3 := gx109
      subst hQ
      exact zq_iret E hr hZ hM hS ⟨rfl, trivial⟩ hlocks dX12_count_109
    · refine lv_tableIn (tgt := 110) hx hb dX12_count_3 (by omega) (by omega) (by rw [c101]; rfl) (by decide) ?_
      refine lv_aload_n hx hb dX12_count_110 rfl (lv_at hl 1 rfl) ?_
      refine zq_getr E hM k_h0 (zFX12_39 E hZ) ⟨by decide, by decide, by decide, rfl⟩ dX12_count_111 ?_
      have k110 : zq_k X (zq_r X h0 20) = 59 := zq_lk L.1 k_h0 rfl (by decide)
      refine lv_iconst (v := 3) hx hb dX12_count_114 (by decide +kernel) ?_
      refine zq_ian (n := 106) (j := 3) E hZ hM k110 ⟨by decide, rfl⟩ (by rw [zl_3]; decide) (by decide +kernel) dX12_count_115 (fun x111 ex111 gx111 => ?_)
      replace gx111 : 0 ≤ x111.toInt ∧ x111.toInt ≤ 4 := gx111
      subst hQ
      exact zq_iret E hr hZ hM hS ⟨rfl, trivial⟩ hlocks dX12_count_116
    · refine lv_tableIn (tgt := 117) hx hb dX12_count_3 (by omega) (by omega) (by rw [c101]; rfl) (by decide) ?_
      refine lv_aload_n hx hb dX12_count_117 rfl (lv_at hl 1 rfl) ?_
      refine zq_gn E hM k_h0 (zFX12_254 E hZ) (Or.inl ⟨by decide, by decide, by decide, rfl⟩) dX12_count_118 (fun x112 ex112 gx112 => ?_)
      replace gx112 : 0 ≤ x112.toInt ∧ x112.toInt ≤ 6 := gx112
      subst hQ
      exact zq_iret E hr hZ hM hS ⟨rfl, trivial⟩ hlocks dX12_count_121
    · refine lv_tableIn (tgt := 122) hx hb dX12_count_3 (by omega) (by omega) (by rw [c101]; rfl) (by decide) ?_
      refine lv_aload_n hx hb dX12_count_122 rfl (lv_at hl 1 rfl) ?_
      refine zq_gn E hM k_h0 (zFX12_42 E hZ) (Or.inl ⟨by decide, by decide, by decide, rfl⟩) dX12_count_123 (fun x113 ex113 gx113 => ?_)
      replace gx113 : (-1) ≤ x113.toInt ∧ x113.toInt ≤ 5 := gx113
      subst hQ
      exact zq_iret E hr hZ hM hS ⟨rfl, trivial⟩ hlocks dX12_count_126
    · refine lv_tableIn (tgt := 127) hx hb dX12_count_3 (by omega) (by omega) (by rw [c101]; rfl) (by decide) ?_
      refine lv_aload_n hx hb dX12_count_127 rfl (lv_at hl 1 rfl) ?_
      refine zq_getr E hM k_h0 (zFX12_39 E hZ) ⟨by decide, by decide, by decide, rfl⟩ dX12_count_128 ?_
      have k114 : zq_k X (zq_r X h0 20) = 59 := zq_lk L.1 k_h0 rfl (by decide)
      refine lv_bipush (v := 12) hx hb dX12_count_131 (by decide +kernel) ?_
      refine zq_ian (n := 106) (j := 12) E hZ hM k114 ⟨by decide, rfl⟩ (by rw [zl_12]; decide) (by decide +kernel) dX12_count_133 (fun x115 ex115 gx115 => ?_)
      replace gx115 : 0 ≤ x115.toInt ∧ x115.toInt ≤ ((zn : Nat) : Int) := gx115
      subst hQ
      exact zq_iret E hr hZ hM hS ⟨rfl, trivial⟩ hlocks dX12_count_134
    · refine lv_tableIn (tgt := 135) hx hb dX12_count_3 (by omega) (by omega) (by rw [c101]; rfl) (by decide) ?_
      refine lv_iconst (v := 0) hx hb dX12_count_135 (by decide +kernel) ?_
      refine lv_istore_n (lv' := [(3, .int (0 : Int32)), (2, .int (0 : Int32)), (0, .ref h0), (1, .int p1)]) hx hb dX12_count_136 rfl hl (by decide) rfl (fun ls hl => ?_)
      have J137 : ∀ (n162 : Nat) (H : Heap) (locs : List Loc) (ls : Array Slot) (j160 : Int32) (j161 : Int32), 3 + 1 - j160.toInt ≤ ((n162 : Nat) : Int) → (zq_hm X (zk, zn) I H) → (va_S (zq_A X) s.heap H locs) → (0 ≤ j160.toInt ∧ j160.toInt ≤ 3) → (lv_has ls 4 [(3, .int j160), (2, .int j161), (0, .ref h0), (1, .int p1)]) → W p l e R s m args below meth c H locs 0 0 Q (F0 m 137 ls []) := by
        intro n162
        induction n162 with
        | zero => intro H locs ls j160 j161 mu163 hM hS gj160 hl; exfalso; have := zi_rng j160; omega
        | succ n162 ih137 =>
          intro H locs ls j160 j161 mu163 hM hS gj160 hl
          refine lv_iload_n hx hb dX12_count_137 rfl (lv_at hl 0 rfl) ?_
          refine lv_aload_n hx hb dX12_count_138 rfl (lv_at hl 2 rfl) ?_
          refine zq_getr E hM k_h0 (zFX12_39 E hZ) ⟨by decide, by decide, by decide, rfl⟩ dX12_count_139 ?_
          have k164 : zq_k X (zq_r X h0 20) = 59 := zq_lk L.1 k_h0 rfl (by decide)
          refine lv_iconst (v := 2) hx hb dX12_count_142 (by decide +kernel) ?_
          refine zq_ian (n := 106) (j := 2) E hZ hM k164 ⟨by decide, rfl⟩ (by rw [zl_2]; decide) (by decide +kernel) dX12_count_143 (fun x165 ex165 gx165 => ?_)
          replace gx165 : 0 ≤ x165.toInt ∧ x165.toInt ≤ 3 := gx165
          refine lv_icmp_ge (tgt := 171) hx hb dX12_count_144 (by decide) (fun b166 => ?_) (fun b166 => ?_)
          · have b166 := zi_le b166 (rfl : x165.toInt = x165.toInt) (rfl : j160.toInt = j160.toInt)
            refine lv_iload_n hx hb dX12_count_171 rfl (lv_at hl 1 rfl) ?_
            subst hQ
            exact zq_iret E hr hZ hM hS ⟨rfl, trivial⟩ hlocks dX12_count_172
          · have b166 := zi_nle b166 (rfl : x165.toInt = x165.toInt) (rfl : j160.toInt = j160.toInt)
            refine lv_iload_n hx hb dX12_count_147 rfl (lv_at hl 1 rfl) ?_
            refine lv_aload_n hx hb dX12_count_148 rfl (lv_at hl 2 rfl) ?_
            refine lv_iload_n hx hb dX12_count_149 rfl (lv_at hl 0 rfl) ?_
            refine zq_pcalli (zq_rV (As := [.int j160]) (rest := [.int j161]) E hZ hM k_h0 (c_X12_isHome l X zk (zn) I L h0 k_h0 j160 ⟨by omega, by omega⟩ (by omega)) zmX12_342 zM_X12_isHome (hro (1) 2 (by first | decide | omega) (by decide)) ⟨by decide, by decide⟩ rfl hl.1 rfl rfl (Nat.le_of_ble_eq_true rfl) dX12_count_150) hS (fun x168 H locs h167 hM hS => ?_)
            have p169 := h167
            have J163 : ∀ (ls : Array Slot) (j171 : Int32), (lv_has ls 4 [(3, .int j160), (2, .int j161), (0, .ref h0), (1, .int p1)]) → W p l e R s m args below meth c H locs 0 0 Q (F0 m 163 ls [.int j171, .int j161]) := by
              intro ls j171 hl
              refine lv_ior hx hb dX12_count_163 ?_
              refine lv_topi (fun x174 ex174 => ?_)
              refine lv_istore_n (lv' := [(2, .int x174), (3, .int j160), (0, .ref h0), (1, .int p1)]) hx hb dX12_count_164 rfl hl (by decide) rfl (fun ls hl => ?_)
              obtain ⟨x175, ex175⟩ : ∃ y : Int32, y = j160 + 1 := ⟨_, rfl⟩
              have tx175 := zi_add ex175 (rfl : j160.toInt = j160.toInt) zl_1 ⟨by omega, by omega⟩
              refine lv_iinc (v := x175) (lv' := [(3, .int x175), (2, .int x174), (0, .ref h0), (1, .int p1)]) hx hb dX12_count_165 hl (k := 1) rfl (by rw [ex175]; rfl) (by decide) rfl (fun ls hl => ?_)
              refine lv_goto (tgt := 137) hx hb dX12_count_168 (by decide) ?_
              exact ih137 H locs ls x175 x174 (by omega) hM hS (⟨by omega, by omega⟩) (lv_sub hl [0, 1, 2, 3] rfl)
            refine lv_if_eq (tgt := 162) hx hb dX12_count_153 (by decide) (fun b176 => ?_) (fun b176 => ?_)
            · have b176 := zi_eq b176 (rfl : x168.toInt = x168.toInt) (zl_0 : (0 : Int32).toInt = 0)
              refine lv_iconst (v := 0) hx hb dX12_count_162 (by decide +kernel) ?_
              exact J163 ls (0 : Int32) (lv_sub hl [0, 1, 2, 3] rfl)
            · have b176 := zi_ne b176 (rfl : x168.toInt = x168.toInt) (zl_0 : (0 : Int32).toInt = 0)
              refine lv_iconst (v := 1) hx hb dX12_count_156 (by decide +kernel) ?_
              refine lv_iload_n hx hb dX12_count_157 rfl (lv_at hl 0 rfl) ?_
              refine lv_ishl hx hb dX12_count_158 ?_
              refine lv_topi (fun x177 ex177 => ?_)
              refine lv_goto (tgt := 163) hx hb dX12_count_159 (by decide) ?_
              exact J163 ls x177 (lv_sub hl [0, 1, 2, 3] rfl)
      exact J137 (3 + 1 - (0 : Int32).toInt).toNat H locs ls (0 : Int32) (0 : Int32) (by omega) hM hS (by rw [zl_0]; decide) (lv_sub hl [0, 1, 2, 3] rfl)
    · refine lv_tableIn (tgt := 173) hx hb dX12_count_3 (by omega) (by omega) (by rw [c101]; rfl) (by decide) ?_
      refine lv_aload_n hx hb dX12_count_173 rfl (lv_at hl 1 rfl) ?_
      refine zq_pcalli (zq_rV (As := []) (rest := []) E hZ hM k_h0 (c_X12_blocksAtSea l X zk (zn) I L h0 k_h0 (by omega)) zmX12_422 zM_X12_blocksAtSea (hro (2) 3 (by first | decide | omega) (by decide)) ⟨by decide, by decide⟩ rfl hl.1 rfl rfl (Nat.le_of_ble_eq_true rfl) dX12_count_174) hS (fun x179 H locs h178 hM hS => ?_)
      clear h178
      subst hQ
      exact zq_iret E hr hZ hM hS ⟨rfl, trivial⟩ hlocks dX12_count_177
    · refine lv_tableIn (tgt := 178) hx hb dX12_count_3 (by omega) (by omega) (by rw [c101]; rfl) (by decide) ?_
      refine lv_iconst (v := 0) hx hb dX12_count_178 (by decide +kernel) ?_
      refine lv_istore_n (lv' := [(3, .int (0 : Int32)), (2, .int (0 : Int32)), (0, .ref h0), (1, .int p1)]) hx hb dX12_count_179 rfl hl (by decide) rfl (fun ls hl => ?_)
      have J180 : ∀ (n230 : Nat) (H : Heap) (locs : List Loc) (ls : Array Slot) (j228 : Int32) (j229 : Int32), 4 + 1 - j228.toInt ≤ ((n230 : Nat) : Int) → (zq_hm X (zk, zn) I H) → (va_S (zq_A X) s.heap H locs) → (0 ≤ j228.toInt ∧ j228.toInt ≤ 4) → (lv_has ls 4 [(3, .int j228), (2, .int j229), (0, .ref h0), (1, .int p1)]) → W p l e R s m args below meth c H locs 0 0 Q (F0 m 180 ls []) := by
        intro n230
        induction n230 with
        | zero => intro H locs ls j228 j229 mu231 hM hS gj228 hl; exfalso; have := zi_rng j228; omega
        | succ n230 ih180 =>
          intro H locs ls j228 j229 mu231 hM hS gj228 hl
          refine lv_iload_n hx hb dX12_count_180 rfl (lv_at hl 0 rfl) ?_
          refine lv_aload_n hx hb dX12_count_181 rfl (lv_at hl 2 rfl) ?_
          refine zq_getr E hM k_h0 (zFX12_39 E hZ) ⟨by decide, by decide, by decide, rfl⟩ dX12_count_182 ?_
          have k232 : zq_k X (zq_r X h0 20) = 59 := zq_lk L.1 k_h0 rfl (by decide)
          refine lv_iconst (v := 3) hx hb dX12_count_185 (by decide +kernel) ?_
          refine zq_ian (n := 106) (j := 3) E hZ hM k232 ⟨by decide, rfl⟩ (by rw [zl_3]; decide) (by decide +kernel) dX12_count_186 (fun x233 ex233 gx233 => ?_)
          replace gx233 : 0 ≤ x233.toInt ∧ x233.toInt ≤ 4 := gx233
          refine lv_icmp_ge (tgt := 205) hx hb dX12_count_187 (by decide) (fun b234 => ?_) (fun b234 => ?_)
          · have b234 := zi_le b234 (rfl : x233.toInt = x233.toInt) (rfl : j228.toInt = j228.toInt)
            refine lv_iload_n hx hb dX12_count_205 rfl (lv_at hl 1 rfl) ?_
            subst hQ
            exact zq_iret E hr hZ hM hS ⟨rfl, trivial⟩ hlocks dX12_count_206
          · have b234 := zi_nle b234 (rfl : x233.toInt = x233.toInt) (rfl : j228.toInt = j228.toInt)
            refine lv_iload_n hx hb dX12_count_190 rfl (lv_at hl 1 rfl) ?_
            refine lv_aload_n hx hb dX12_count_191 rfl (lv_at hl 2 rfl) ?_
            refine lv_iload_n hx hb dX12_count_192 rfl (lv_at hl 0 rfl) ?_
            refine lv_iconst (v := 4) hx hb dX12_count_193 (by decide +kernel) ?_
            refine zq_pcalli (zq_rV (As := [.int j228, .int (4 : Int32)]) (rest := [.int j229]) E hZ hM k_h0 (c_X12_townOf l X zk (zn) I L h0 k_h0 j228 (4 : Int32) ⟨by omega, by omega⟩ (by rw [zl_4]; decide) (by have := zl_4; omega)) zmX12_308 zM_X12_townOf (hro (0) 3 (by first | decide | omega) (by decide)) ⟨by decide, by decide⟩ rfl hl.1 rfl rfl (Nat.le_of_ble_eq_true rfl) dX12_count_194) hS (fun x236 H locs h235 hM hS => ?_)
            obtain ⟨p237, p238, p239, p240⟩ := h235
            have := zl_4
            refine lv_iadd hx hb dX12_count_197 ?_
            refine lv_topi (fun x241 ex241 => ?_)
            refine lv_istore_n (lv' := [(2, .int x241), (3, .int j228), (0, .ref h0), (1, .int p1)]) hx hb dX12_count_198 rfl hl (by decide) rfl (fun ls hl => ?_)
            obtain ⟨x242, ex242⟩ : ∃ y : Int32, y = j228 + 1 := ⟨_, rfl⟩
            have tx242 := zi_add ex242 (rfl : j228.toInt = j228.toInt) zl_1 ⟨by omega, by omega⟩
            refine lv_iinc (v := x242) (lv' := [(3, .int x242), (2, .int x241), (0, .ref h0), (1, .int p1)]) hx hb dX12_count_199 hl (k := 1) rfl (by rw [ex242]; rfl) (by decide) rfl (fun ls hl => ?_)
            refine lv_goto (tgt := 180) hx hb dX12_count_202 (by decide) ?_
            exact ih180 H locs ls x242 x241 (by omega) hM hS (⟨by omega, by omega⟩) (lv_sub hl [0, 1, 2, 3] rfl)
      exact J180 (4 + 1 - (0 : Int32).toInt).toNat H locs ls (0 : Int32) (0 : Int32) (by omega) hM hS (by rw [zl_0]; decide) (lv_sub hl [0, 1, 2, 3] rfl)
    · refine lv_tableIn (tgt := 207) hx hb dX12_count_3 (by omega) (by omega) (by rw [c101]; rfl) (by decide) ?_
      refine lv_iconst (v := 0) hx hb dX12_count_207 (by decide +kernel) ?_
      refine lv_istore_n (lv' := [(3, .int (0 : Int32)), (2, .int (0 : Int32)), (0, .ref h0), (1, .int p1)]) hx hb dX12_count_208 rfl hl (by decide) rfl (fun ls hl => ?_)
      have J209 : ∀ (n301 : Nat) (H : Heap) (locs : List Loc) (ls : Array Slot) (j299 : Int32) (j300 : Int32), 4 + 1 - j299.toInt ≤ ((n301 : Nat) : Int) → (zq_hm X (zk, zn) I H) → (va_S (zq_A X) s.heap H locs) → (0 ≤ j299.toInt ∧ j299.toInt ≤ 4) → (lv_has ls 4 [(3, .int j299), (2, .int j300), (0, .ref h0), (1, .int p1)]) → W p l e R s m args below meth c H locs 0 0 Q (F0 m 209 ls []) := by
        intro n301
        induction n301 with
        | zero => intro H locs ls j299 j300 mu302 hM hS gj299 hl; exfalso; have := zi_rng j299; omega
        | succ n301 ih209 =>
          intro H locs ls j299 j300 mu302 hM hS gj299 hl
          refine lv_iload_n hx hb dX12_count_209 rfl (lv_at hl 0 rfl) ?_
          refine lv_aload_n hx hb dX12_count_210 rfl (lv_at hl 2 rfl) ?_
          refine zq_getr E hM k_h0 (zFX12_39 E hZ) ⟨by decide, by decide, by decide, rfl⟩ dX12_count_211 ?_
          have k303 : zq_k X (zq_r X h0 20) = 59 := zq_lk L.1 k_h0 rfl (by decide)
          refine lv_iconst (v := 3) hx hb dX12_count_214 (by decide +kernel) ?_
          refine zq_ian (n := 106) (j := 3) E hZ hM k303 ⟨by decide, rfl⟩ (by rw [zl_3]; decide) (by decide +kernel) dX12_count_215 (fun x304 ex304 gx304 => ?_)
          replace gx304 : 0 ≤ x304.toInt ∧ x304.toInt ≤ 4 := gx304
          refine lv_icmp_ge (tgt := 245) hx hb dX12_count_216 (by decide) (fun b305 => ?_) (fun b305 => ?_)
          · have b305 := zi_le b305 (rfl : x304.toInt = x304.toInt) (rfl : j299.toInt = j299.toInt)
            refine lv_iload_n hx hb dX12_count_245 rfl (lv_at hl 1 rfl) ?_
            subst hQ
            exact zq_iret E hr hZ hM hS ⟨rfl, trivial⟩ hlocks dX12_count_246
          · have b305 := zi_nle b305 (rfl : x304.toInt = x304.toInt) (rfl : j299.toInt = j299.toInt)
            refine lv_iload_n hx hb dX12_count_219 rfl (lv_at hl 1 rfl) ?_
            refine lv_aload_n hx hb dX12_count_220 rfl (lv_at hl 2 rfl) ?_
            refine lv_iload_n hx hb dX12_count_221 rfl (lv_at hl 0 rfl) ?_
            refine lv_iconst (v := 3) hx hb dX12_count_222 (by decide +kernel) ?_
            refine zq_pcalli (zq_rV (As := [.int j299, .int (3 : Int32)]) (rest := [.int j300]) E hZ hM k_h0 (c_X12_townOf l X zk (zn) I L h0 k_h0 j299 (3 : Int32) ⟨by omega, by omega⟩ (by rw [zl_3]; decide) (by have := zl_3; omega)) zmX12_308 zM_X12_townOf (hro (0) 3 (by first | decide | omega) (by decide)) ⟨by decide, by decide⟩ rfl hl.1 rfl rfl (Nat.le_of_ble_eq_true rfl) dX12_count_223) hS (fun x307 H locs h306 hM hS => ?_)
            obtain ⟨p308, p309, p310, p311⟩ := h306
            have := zl_3
            refine lv_iconst (v := 1) hx hb dX12_count_226 (by decide +kernel) ?_
            have J237 : ∀ (ls : Array Slot) (j313 : Int32), (lv_has ls 4 [(3, .int j299), (2, .int j300), (0, .ref h0), (1, .int p1)]) → W p l e R s m args below meth c H locs 0 0 Q (F0 m 237 ls [.int j313, .int j300]) := by
              intro ls j313 hl
              refine lv_ior hx hb dX12_count_237 ?_
              refine lv_topi (fun x316 ex316 => ?_)
              refine lv_istore_n (lv' := [(2, .int x316), (3, .int j299), (0, .ref h0), (1, .int p1)]) hx hb dX12_count_238 rfl hl (by decide) rfl (fun ls hl => ?_)
              obtain ⟨x317, ex317⟩ : ∃ y : Int32, y = j299 + 1 := ⟨_, rfl⟩
              have tx317 := zi_add ex317 (rfl : j299.toInt = j299.toInt) zl_1 ⟨by omega, by omega⟩
              refine lv_iinc (v := x317) (lv' := [(3, .int x317), (2, .int x316), (0, .ref h0), (1, .int p1)]) hx hb dX12_count_239 hl (k := 1) rfl (by rw [ex317]; rfl) (by decide) rfl (fun ls hl => ?_)
              refine lv_goto (tgt := 209) hx hb dX12_count_242 (by decide) ?_
              exact ih209 H locs ls x317 x316 (by omega) hM hS (⟨by omega, by omega⟩) (lv_sub hl [0, 1, 2, 3] rfl)
            refine lv_icmp_ne (tgt := 236) hx hb dX12_count_227 (by decide) (fun b318 => ?_) (fun b318 => ?_)
            · have b318 := zi_ne b318 (rfl : x307.toInt = x307.toInt) (zl_1 : (1 : Int32).toInt = 1)
              refine lv_iconst (v := 0) hx hb dX12_count_236 (by decide +kernel) ?_
              exact J237 ls (0 : Int32) (lv_sub hl [0, 1, 2, 3] rfl)
            · have b318 := zi_eq b318 (rfl : x307.toInt = x307.toInt) (zl_1 : (1 : Int32).toInt = 1)
              refine lv_iconst (v := 1) hx hb dX12_count_230 (by decide +kernel) ?_
              refine lv_iload_n hx hb dX12_count_231 rfl (lv_at hl 0 rfl) ?_
              refine lv_ishl hx hb dX12_count_232 ?_
              refine lv_topi (fun x319 ex319 => ?_)
              refine lv_goto (tgt := 237) hx hb dX12_count_233 (by decide) ?_
              exact J237 ls x319 (lv_sub hl [0, 1, 2, 3] rfl)
      exact J209 (4 + 1 - (0 : Int32).toInt).toNat H locs ls (0 : Int32) (0 : Int32) (by omega) hM hS (by rw [zl_0]; decide) (lv_sub hl [0, 1, 2, 3] rfl)
    · refine lv_tableIn (tgt := 247) hx hb dX12_count_3 (by omega) (by omega) (by rw [c101]; rfl) (by decide) ?_
      refine lv_aload_n hx hb dX12_count_247 rfl (lv_at hl 1 rfl) ?_
      refine zq_getr E hM k_h0 (zFX12_39 E hZ) ⟨by decide, by decide, by decide, rfl⟩ dX12_count_248 ?_
      have k320 : zq_k X (zq_r X h0 20) = 59 := zq_lk L.1 k_h0 rfl (by decide)
      refine lv_bipush (v := 105) hx hb dX12_count_251 (by decide +kernel) ?_
      refine zq_ian (n := 106) (j := 105) E hZ hM k320 ⟨by decide, rfl⟩ (by rw [zl_105]; decide) (by decide +kernel) dX12_count_253 (fun x321 ex321 gx321 => ?_)
      replace gx321 : 0 ≤ x321.toInt ∧ x321.toInt ≤ 10 := gx321
      subst hQ
      exact zq_iret E hr hZ hM hS ⟨rfl, trivial⟩ hlocks dX12_count_254
    · refine lv_tableIn (tgt := 255) hx hb dX12_count_3 (by omega) (by omega) (by rw [c101]; rfl) (by decide) ?_
      refine lv_aload_n hx hb dX12_count_255 rfl (lv_at hl 1 rfl) ?_
      refine zq_gn E hM k_h0 (zFX12_263 E hZ) (Or.inl ⟨by decide, by decide, by decide, rfl⟩) dX12_count_256 (fun x322 ex322 gx322 => ?_)
      replace gx322 : 0 ≤ x322.toInt ∧ x322.toInt ≤ 20 := gx322
      subst hQ
      exact zq_iret E hr hZ hM hS ⟨rfl, trivial⟩ hlocks dX12_count_259
    · refine lv_tableIn (tgt := 260) hx hb dX12_count_3 (by omega) (by omega) (by rw [c101]; rfl) (by decide) ?_
      refine lv_aload_n hx hb dX12_count_260 rfl (lv_at hl 1 rfl) ?_
      refine zq_gn E hM k_h0 (zFX12_439 E hZ) (Or.inl ⟨by decide, by decide, by decide, rfl⟩) dX12_count_261 (fun x323 ex323 gx323 => ?_)
      clear gx323
      subst hQ
      exact zq_iret E hr hZ hM hS ⟨rfl, trivial⟩ hlocks dX12_count_264
    · refine lv_tableIn (tgt := 265) hx hb dX12_count_3 (by omega) (by omega) (by rw [c101]; rfl) (by decide) ?_
      refine lv_aload_n hx hb dX12_count_265 rfl (lv_at hl 1 rfl) ?_
      refine zq_gn E hM k_h0 (zFX12_74 E hZ) (Or.inl ⟨by decide, by decide, by decide, rfl⟩) dX12_count_266 (fun x324 ex324 gx324 => ?_)
      replace gx324 : 0 ≤ x324.toInt ∧ x324.toInt ≤ 400 := gx324
      subst hQ
      exact zq_iret E hr hZ hM hS ⟨rfl, trivial⟩ hlocks dX12_count_269
def zw_X12_end : List (Nat × Nat) := [(10, 1)]
set_option maxHeartbeats 8000000 in
set_option maxRecDepth 100000 in
theorem c_X12_end (l : Launch) (X : zq_X) (zk zn : Nat) (I : zq_M) (L : zq_L X)  (h0 : Nat) (k_h0 : zq_k X h0 = 10) (p1 : Int32) (q_0 : zk ≤ 4400 ∧ zn ≤ 4400) : Met l yX12_end (zt_w yX12_end cX12_end 2 (some .int)) (zq_rm (0)) (va_Pc [.ref h0, .int p1] (zq_W X (zk, zn) I)) (va_Qi (fun (r : Int32) I2 => zq_fr (zf X zw_X12_end (fun _ => False)) I I2 ∧ ((-1) ≤ r.toInt ∧ r.toInt ≤ 400)) (zq_E X (zk, zn)) (zq_A X)) 0 0 (zq_A X) := by
  refine Met.ofW (cc := cX12_end) (maxL := 2) (ret := (some .int)) (by decide) rfl ?_
  intro p e s m args below meth c s₁ B hml hv
  obtain ⟨hargs, hM, hZ⟩ := hv
  have hown : s.vm.findClass RX12 = some m.cls := findClass_of_methodNamed B.named
  have hts := atoms_spec (ws := zt_w yX12_end cX12_end 2 (some .int)) B.pre
  have E : CallFix p m c cX12_end 2 s args (Cond.code yX12_end cX12_end 2 (some .int) :: zt) RX12 := ⟨B.exec, B.bytes, hml, hown, hts⟩
  have hx := B.exec
  have hb := B.bytes
  have hr := B.returns
  have hlocks := B.notSynchronized
  clear B
  have hS : va_S (zq_A X) s.heap s.heap [] := va_S.rf
  have hR : zq_fr (zf X zw_X12_end (fun _ => False)) I I := zq_fr.rf
  have hl := lv_entry ([.ref h0, .int p1]) (n := 2) (by exact Nat.le_of_ble_eq_true rfl)
  have hg : entryFrame m args 2 = F0 m 0 ((lg_sl ([.ref h0, .int p1]) ++ List.replicate (2 - (lg_sl ([.ref h0, .int p1])).length) Slot.unset).toArray) [] := by rw [hargs]; exact lg_entry_eq m ([.ref h0, .int p1]) 2
  rw [hg]
  clear hg hargs
  generalize (lg_sl ([.ref h0, .int p1]) ++ List.replicate (2 - (lg_sl ([.ref h0, .int p1])).length) Slot.unset).toArray = ls at hl ⊢
  have hl : lv_has ls 2 [(0, .ref h0), (1, .int p1)] := by exact hl
  obtain ⟨R, hRm⟩ : ∃ R : Room, R = (headSpec (zt_w yX12_end cX12_end 2 (some .int)) (zq_rm (0))).room := ⟨_, rfl⟩
  rw [← hRm]
  generalize hQ : MQ below _ args s 0 0 (zq_A X) = Q
  obtain ⟨H, hH⟩ : ∃ H, H = s.heap := ⟨_, rfl⟩
  obtain ⟨locs, hlo⟩ : ∃ x : List Loc, x = [] := ⟨_, rfl⟩
  rw [show W p l e R s m args below meth c s.heap [] 0 0 Q = W p l e R s m args below meth c H locs 0 0 Q by rw [hH, hlo]]
  have hM : zq_hm X (zk, zn) I H := by rw [hH]; exact hM
  have hS : va_S (zq_A X) s.heap H locs := by rw [hH, hlo]; exact hS
  clear hH hlo
  refine lv_iload_n hx hb dX12_end_0 rfl (lv_at hl 1 rfl) ?_
  refine lv_if_lt (tgt := 12) hx hb dX12_end_1 (by decide) (fun b101 => ?_) (fun b101 => ?_)
  · have b101 := zi_lt b101 (rfl : p1.toInt = p1.toInt) (zl_0 : (0 : Int32).toInt = 0)
    refine lv_iconst (v := (-1)) hx hb dX12_end_12 (by decide +kernel) ?_
    subst hQ
    exact zq_iret E hr hZ hM hS ⟨hR, (by have := zl_m1; omega)⟩ hlocks dX12_end_13
  · have b101 := zi_nlt b101 (rfl : p1.toInt = p1.toInt) (zl_0 : (0 : Int32).toInt = 0)
    refine lv_iload_n hx hb dX12_end_4 rfl (lv_at hl 1 rfl) ?_
    refine lv_aload_n hx hb dX12_end_5 rfl (lv_at hl 0 rfl) ?_
    refine zq_gn E hM k_h0 (zFX12_74 E hZ) (Or.inl ⟨by decide, by decide, by decide, rfl⟩) dX12_end_6 (fun x102 ex102 gx102 => ?_)
    replace gx102 : 0 ≤ x102.toInt ∧ x102.toInt ≤ 400 := gx102
    refine lv_icmp_le (tgt := 14) hx hb dX12_end_9 (by decide) (fun b103 => ?_) (fun b103 => ?_)
    · have b103 := zi_le b103 (rfl : p1.toInt = p1.toInt) (rfl : x102.toInt = x102.toInt)
      refine lv_aload_n hx hb dX12_end_14 rfl (lv_at hl 0 rfl) ?_
      refine lv_iload_n hx hb dX12_end_15 rfl (lv_at hl 1 rfl) ?_
      refine zq_pn E hM hS k_h0 (zGX12_74 E hZ) ⟨by decide, by decide, by decide, rfl⟩ (show 0 ≤ p1.toInt ∧ p1.toInt ≤ 400 from ⟨by omega, by omega⟩) dX12_end_16 (fun I104 H locs eI104 hM hS => ?_)
      have hR := zq_fr.putE hR eI104 (zf_i k_h0 rfl rfl)
      refine lv_iload_n hx hb dX12_end_19 rfl (lv_at hl 1 rfl) ?_
      subst hQ
      exact zq_iret E hr hZ hM hS ⟨hR, (by omega)⟩ hlocks dX12_end_20
    · have b103 := zi_nle b103 (rfl : p1.toInt = p1.toInt) (rfl : x102.toInt = x102.toInt)
      refine lv_iconst (v := (-1)) hx hb dX12_end_12 (by decide +kernel) ?_
      subst hQ
      exact zq_iret E hr hZ hM hS ⟨hR, (by have := zl_m1; omega)⟩ hlocks dX12_end_13
set_option maxHeartbeats 8000000 in
set_option maxRecDepth 100000 in
theorem c_X12_alikeAt (l : Launch) (X : zq_X) (zk zn : Nat) (I : zq_M) (L : zq_L X)  (h0 : Nat) (k_h0 : zq_k X h0 = 10) (p1 : Int32) (g_p1 : 0 ≤ p1.toInt ∧ p1.toInt ≤ 60) (q_0 : zk ≤ 4400 ∧ zn ≤ 4400) : Met l yX12_alikeAt (zt_w yX12_alikeAt cX12_alikeAt 6 (some .int)) (zq_rm (1)) (va_Pc [.ref h0, .int p1] (zq_W X (zk, zn) I)) (va_Qi (fun (r : Int32) I2 => I2 = I ∧ (0 ≤ r.toInt)) (zq_E X (zk, zn)) (zq_A X)) 0 0 (zq_A X) := by
  refine Met.ofW (cc := cX12_alikeAt) (maxL := 6) (ret := (some .int)) (by decide) rfl ?_
  intro p e s m args below meth c s₁ B hml hv
  obtain ⟨hargs, hM, hZ⟩ := hv
  have hown : s.vm.findClass RX12 = some m.cls := findClass_of_methodNamed B.named
  have hts := atoms_spec (ws := zt_w yX12_alikeAt cX12_alikeAt 6 (some .int)) B.pre
  have E : CallFix p m c cX12_alikeAt 6 s args (Cond.code yX12_alikeAt cX12_alikeAt 6 (some .int) :: zt) RX12 := ⟨B.exec, B.bytes, hml, hown, hts⟩
  have hx := B.exec
  have hb := B.bytes
  have hr := B.returns
  have hlocks := B.notSynchronized
  clear B
  have hS : va_S (zq_A X) s.heap s.heap [] := va_S.rf
  have hl := lv_entry ([.ref h0, .int p1]) (n := 6) (by exact Nat.le_of_ble_eq_true rfl)
  have hg : entryFrame m args 6 = F0 m 0 ((lg_sl ([.ref h0, .int p1]) ++ List.replicate (6 - (lg_sl ([.ref h0, .int p1])).length) Slot.unset).toArray) [] := by rw [hargs]; exact lg_entry_eq m ([.ref h0, .int p1]) 6
  rw [hg]
  clear hg hargs
  generalize (lg_sl ([.ref h0, .int p1]) ++ List.replicate (6 - (lg_sl ([.ref h0, .int p1])).length) Slot.unset).toArray = ls at hl ⊢
  have hl : lv_has ls 6 [(0, .ref h0), (1, .int p1)] := by exact hl
  obtain ⟨R, hRm⟩ : ∃ R : Room, R = (headSpec (zt_w yX12_alikeAt cX12_alikeAt 6 (some .int)) (zq_rm (1))).room := ⟨_, rfl⟩
  rw [← hRm]
  have hro : ∀ d q : Nat, d + 1 ≤ 1 → q ≤ 45 → zq_rok d q R := fun d q h1 h2 => by rw [hRm]; exact zq_rokI h1 h2
  generalize hQ : MQ below _ args s 0 0 (zq_A X) = Q
  obtain ⟨H, hH⟩ : ∃ H, H = s.heap := ⟨_, rfl⟩
  obtain ⟨locs, hlo⟩ : ∃ x : List Loc, x = [] := ⟨_, rfl⟩
  rw [show W p l e R s m args below meth c s.heap [] 0 0 Q = W p l e R s m args below meth c H locs 0 0 Q by rw [hH, hlo]]
  have hM : zq_hm X (zk, zn) I H := by rw [hH]; exact hM
  have hS : va_S (zq_A X) s.heap H locs := by rw [hH, hlo]; exact hS
  clear hH hlo
  refine lv_iconst (v := 0) hx hb dX12_alikeAt_0 (by decide +kernel) ?_
  refine lv_istore_n (lv' := [(2, .int (0 : Int32)), (0, .ref h0), (1, .int p1)]) hx hb dX12_alikeAt_1 rfl hl (by decide) rfl (fun ls hl => ?_)
  refine lv_iconst (v := 0) hx hb dX12_alikeAt_2 (by decide +kernel) ?_
  refine lv_istore_n (lv' := [(3, .int (0 : Int32)), (2, .int (0 : Int32)), (0, .ref h0), (1, .int p1)]) hx hb dX12_alikeAt_3 rfl hl (by decide) rfl (fun ls hl => ?_)
  have J4 : ∀ (n783 : Nat) (H : Heap) (locs : List Loc) (ls : Array Slot) (j781 : Int32) (j782 : Int32), 7 + 1 - j781.toInt ≤ ((n783 : Nat) : Int) → (zq_hm X (zk, zn) I H) → (va_S (zq_A X) s.heap H locs) → (0 ≤ j781.toInt ∧ j781.toInt ≤ 7) → (0 ≤ j782.toInt) → (lv_has ls 6 [(3, .int j781), (2, .int j782), (0, .ref h0), (1, .int p1)]) → W p l e R s m args below meth c H locs 0 0 Q (F0 m 4 ls []) := by
    intro n783
    induction n783 with
    | zero => intro H locs ls j781 j782 mu784 hM hS gj781 gj782 hl; exfalso; have := zi_rng j781; omega
    | succ n783 ih4 =>
      intro H locs ls j781 j782 mu784 hM hS gj781 gj782 hl
      have := zi_rng j782
      refine lv_iload_n hx hb dX12_alikeAt_4 rfl (lv_at hl 0 rfl) ?_
      refine lv_aload_n hx hb dX12_alikeAt_5 rfl (lv_at hl 2 rfl) ?_
      refine zq_gn E hM k_h0 (zFX12_254 E hZ) (Or.inl ⟨by decide, by decide, by decide, rfl⟩) dX12_alikeAt_6 (fun x785 ex785 gx785 => ?_)
      replace gx785 : 0 ≤ x785.toInt ∧ x785.toInt ≤ 6 := gx785
      refine lv_icmp_gt (tgt := 105) hx hb dX12_alikeAt_9 (by decide) (fun b786 => ?_) (fun b786 => ?_)
      · have b786 := zi_lt b786 (rfl : x785.toInt = x785.toInt) (rfl : j781.toInt = j781.toInt)
        refine lv_iload_n hx hb dX12_alikeAt_105 rfl (lv_at hl 1 rfl) ?_
        subst hQ
        exact zq_iret E hr hZ hM hS ⟨rfl, (by have := zi_rng j782; omega)⟩ hlocks dX12_alikeAt_106
      · have b786 := zi_nlt b786 (rfl : x785.toInt = x785.toInt) (rfl : j781.toInt = j781.toInt)
        refine lv_iconst (v := 0) hx hb dX12_alikeAt_12 (by decide +kernel) ?_
        refine lv_istore (lv' := [(4, .int (0 : Int32)), (3, .int j781), (2, .int j782), (0, .ref h0), (1, .int p1)]) hx hb dX12_alikeAt_13 hl (by decide) rfl (fun ls hl => ?_)
        refine lv_iconst (v := 0) hx hb dX12_alikeAt_15 (by decide +kernel) ?_
        refine lv_istore (lv' := [(5, .int (0 : Int32)), (4, .int (0 : Int32)), (3, .int j781), (2, .int j782), (0, .ref h0), (1, .int p1)]) hx hb dX12_alikeAt_16 hl (by decide) rfl (fun ls hl => ?_)
        have J18 : ∀ (n935 : Nat) (H : Heap) (locs : List Loc) (ls : Array Slot) (j933 : Int32) (j934 : Int32), 7 + 1 - j933.toInt ≤ ((n935 : Nat) : Int) → (zq_hm X (zk, zn) I H) → (va_S (zq_A X) s.heap H locs) → (0 ≤ j933.toInt ∧ j933.toInt ≤ 7) → (lv_has ls 6 [(5, .int j933), (4, .int j934), (3, .int j781), (2, .int j782), (0, .ref h0), (1, .int p1)]) → W p l e R s m args below meth c H locs 0 0 Q (F0 m 18 ls []) := by
          intro n935
          induction n935 with
          | zero => intro H locs ls j933 j934 mu936 hM hS gj933 hl; exfalso; have := zi_rng j933; omega
          | succ n935 ih18 =>
            intro H locs ls j933 j934 mu936 hM hS gj933 hl
            refine lv_iload hx hb dX12_alikeAt_18 (lv_at hl 0 rfl) ?_
            refine lv_aload_n hx hb dX12_alikeAt_20 rfl (lv_at hl 4 rfl) ?_
            refine zq_gk (v := x785) E hM k_h0 (zFX12_254 E hZ) (Or.inl ⟨by decide, by decide, by decide, rfl⟩) ex785 dX12_alikeAt_21 ?_
            have J86 : ∀ (ls : Array Slot), (lv_has ls 6 [(5, .int j933), (4, .int j934), (3, .int j781), (2, .int j782), (0, .ref h0), (1, .int p1)]) → W p l e R s m args below meth c H locs 0 0 Q (F0 m 86 ls []) := by
              intro ls hl
              refine lv_iload hx hb dX12_alikeAt_86 (lv_at hl 1 rfl) ?_
              refine lv_iload_n hx hb dX12_alikeAt_88 rfl (lv_at hl 3 rfl) ?_
              have J98 : ∀ (ls : Array Slot) (j956 : Int32), (0 ≤ j956.toInt) → (lv_has ls 6 [(5, .int j933), (4, .int j934), (3, .int j781), (2, .int j782), (0, .ref h0), (1, .int p1)]) → W p l e R s m args below meth c H locs 0 0 Q (F0 m 98 ls [.int j956]) := by
                intro ls j956 gj956 hl
                have := zi_rng j956
                refine lv_istore_n (lv' := [(2, .int j956), (5, .int j933), (4, .int j934), (3, .int j781), (0, .ref h0), (1, .int p1)]) hx hb dX12_alikeAt_98 rfl hl (by decide) rfl (fun ls hl => ?_)
                obtain ⟨x958, ex958⟩ : ∃ y : Int32, y = j781 + 1 := ⟨_, rfl⟩
                have tx958 := zi_add ex958 (rfl : j781.toInt = j781.toInt) zl_1 ⟨by omega, by omega⟩
                refine lv_iinc (v := x958) (lv' := [(3, .int x958), (2, .int j956), (5, .int j933), (4, .int j934), (0, .ref h0), (1, .int p1)]) hx hb dX12_alikeAt_99 hl (k := 3) rfl (by rw [ex958]; rfl) (by decide) rfl (fun ls hl => ?_)
                refine lv_goto (tgt := 4) hx hb dX12_alikeAt_102 (by decide) ?_
                exact ih4 H locs ls x958 j956 (by omega) hM hS (⟨by omega, by omega⟩) (by have := zi_rng j956; omega) (lv_sub hl [0, 1, 4, 5] rfl)
              refine lv_icmp_le (tgt := 97) hx hb dX12_alikeAt_89 (by decide) (fun b959 => ?_) (fun b959 => ?_)
              · have b959 := zi_le b959 (rfl : j934.toInt = j934.toInt) (rfl : j782.toInt = j782.toInt)
                refine lv_iload_n hx hb dX12_alikeAt_97 rfl (lv_at hl 3 rfl) ?_
                exact J98 ls j782 (by have := zi_rng j782; omega) (lv_sub hl [0, 1, 2, 3, 4, 5] rfl)
              · have b959 := zi_nle b959 (rfl : j934.toInt = j934.toInt) (rfl : j782.toInt = j782.toInt)
                refine lv_iload hx hb dX12_alikeAt_92 (lv_at hl 1 rfl) ?_
                refine lv_goto (tgt := 98) hx hb dX12_alikeAt_94 (by decide) ?_
                exact J98 ls j934 (by have := zi_rng j934; omega) (lv_sub hl [0, 1, 2, 3, 4, 5] rfl)
            refine lv_icmp_gt (tgt := 86) hx hb dX12_alikeAt_24 (by decide) (fun b960 => ?_) (fun b960 => ?_)
            · have b960 := zi_lt b960 (rfl : x785.toInt = x785.toInt) (rfl : j933.toInt = j933.toInt)
              exact J86 ls (lv_sub hl [0, 1, 2, 3, 4, 5] rfl)
            · have b960 := zi_nlt b960 (rfl : x785.toInt = x785.toInt) (rfl : j933.toInt = j933.toInt)
              refine lv_aload_n hx hb dX12_alikeAt_27 rfl (lv_at hl 4 rfl) ?_
              refine zq_getr E hM k_h0 (zFX12_55 E hZ) ⟨by decide, by decide, by decide, rfl⟩ dX12_alikeAt_28 ?_
              have k961 : zq_k X (zq_r X h0 27) = 62 := zq_lk L.1 k_h0 rfl (by decide)
              refine lv_iload_n hx hb dX12_alikeAt_31 rfl (lv_at hl 2 rfl) ?_
              refine zq_zan (n := 7) (j := (j781.toNatClampNeg)) E hZ hM k961 ⟨by decide, rfl⟩ ⟨by omega, by omega⟩ rfl dX12_alikeAt_32 (fun x962 ex962 gx962 => ?_)
              replace gx962 : 0 ≤ x962.toInt ∧ x962.toInt ≤ 1 := gx962
              refine lv_if_eq (tgt := 86) hx hb dX12_alikeAt_33 (by decide) (fun b963 => ?_) (fun b963 => ?_)
              · have b963 := zi_eq b963 (rfl : x962.toInt = x962.toInt) (zl_0 : (0 : Int32).toInt = 0)
                exact J86 ls (lv_sub hl [0, 1, 2, 3, 4, 5] rfl)
              · have b963 := zi_ne b963 (rfl : x962.toInt = x962.toInt) (zl_0 : (0 : Int32).toInt = 0)
                refine lv_iload hx hb dX12_alikeAt_36 (lv_at hl 1 rfl) ?_
                refine lv_aload_n hx hb dX12_alikeAt_38 rfl (lv_at hl 4 rfl) ?_
                refine zq_getr E hM k_h0 (zFX12_55 E hZ) ⟨by decide, by decide, by decide, rfl⟩ dX12_alikeAt_39 ?_
                have k964 : zq_k X (zq_r X h0 27) = 62 := zq_lk L.1 k_h0 rfl (by decide)
                refine lv_iload hx hb dX12_alikeAt_42 (lv_at hl 0 rfl) ?_
                refine zq_zan (n := 7) (j := (j933.toNatClampNeg)) E hZ hM k964 ⟨by decide, rfl⟩ ⟨by omega, by omega⟩ rfl dX12_alikeAt_44 (fun x965 ex965 gx965 => ?_)
                replace gx965 : 0 ≤ x965.toInt ∧ x965.toInt ≤ 1 := gx965
                have J77 : ∀ (H : Heap) (locs : List Loc) (ls : Array Slot) (j976 : Int32), (zq_hm X (zk, zn) I H) → (va_S (zq_A X) s.heap H locs) → (0 ≤ j976.toInt ∧ j976.toInt ≤ 1) → (lv_has ls 6 [(5, .int j933), (4, .int j934), (3, .int j781), (2, .int j782), (0, .ref h0), (1, .int p1)]) → W p l e R s m args below meth c H locs 0 0 Q (F0 m 77 ls [.int j976, .int j934]) := by
                  intro H locs ls j976 hM hS gj976 hl
                  refine lv_iadd hx hb dX12_alikeAt_77 ?_
                  refine lv_topi (fun x979 ex979 => ?_)
                  refine lv_istore (lv' := [(4, .int x979), (5, .int j933), (3, .int j781), (2, .int j782), (0, .ref h0), (1, .int p1)]) hx hb dX12_alikeAt_78 hl (by decide) rfl (fun ls hl => ?_)
                  obtain ⟨x980, ex980⟩ : ∃ y : Int32, y = j933 + 1 := ⟨_, rfl⟩
                  have tx980 := zi_add ex980 (rfl : j933.toInt = j933.toInt) zl_1 ⟨by omega, by omega⟩
                  refine lv_iinc (v := x980) (lv' := [(5, .int x980), (4, .int x979), (3, .int j781), (2, .int j782), (0, .ref h0), (1, .int p1)]) hx hb dX12_alikeAt_80 hl (k := 1) rfl (by rw [ex980]; rfl) (by decide) rfl (fun ls hl => ?_)
                  refine lv_goto (tgt := 18) hx hb dX12_alikeAt_83 (by decide) ?_
                  exact ih18 H locs ls x980 x979 (by omega) hM hS (⟨by omega, by omega⟩) (lv_sub hl [0, 1, 2, 3, 4, 5] rfl)
                have J76 : ∀ (H : Heap) (locs : List Loc) (ls : Array Slot), (zq_hm X (zk, zn) I H) → (va_S (zq_A X) s.heap H locs) → (lv_has ls 6 [(5, .int j933), (4, .int j934), (3, .int j781), (2, .int j782), (0, .ref h0), (1, .int p1)]) → W p l e R s m args below meth c H locs 0 0 Q (F0 m 76 ls [.int j934]) := by
                  intro H locs ls hM hS hl
                  refine lv_iconst (v := 0) hx hb dX12_alikeAt_76 (by decide +kernel) ?_
                  exact J77 H locs ls (0 : Int32) hM hS (by rw [zl_0]; decide) (lv_sub hl [0, 1, 2, 3, 4, 5] rfl)
                refine lv_if_eq (tgt := 76) hx hb dX12_alikeAt_45 (by decide) (fun b981 => ?_) (fun b981 => ?_)
                · have b981 := zi_eq b981 (rfl : x965.toInt = x965.toInt) (zl_0 : (0 : Int32).toInt = 0)
                  exact J76 H locs ls hM hS (lv_sub hl [0, 1, 2, 3, 4, 5] rfl)
                · have b981 := zi_ne b981 (rfl : x965.toInt = x965.toInt) (zl_0 : (0 : Int32).toInt = 0)
                  refine lv_aload_n hx hb dX12_alikeAt_48 rfl (lv_at hl 4 rfl) ?_
                  refine zq_getr E hM k_h0 (zFX12_59 E hZ) ⟨by decide, by decide, by decide, rfl⟩ dX12_alikeAt_49 ?_
                  have k982 : zq_k X (zq_r X h0 28) = 63 := zq_lk L.1 k_h0 rfl (by decide)
                  refine lv_iload_n hx hb dX12_alikeAt_52 rfl (lv_at hl 2 rfl) ?_
                  refine lv_iload_n hx hb dX12_alikeAt_53 rfl (lv_at hl 5 rfl) ?_
                  refine zq_pcalli (zq_rS (As := [.int j781, .int p1]) (rest := [.ref (zq_r X h0 28), .int j934]) E hZ hM (c_X12_spot l X zk (zn) I L j781 p1 ⟨by omega, by omega⟩ ⟨by omega, by omega⟩) zmX12_430 zM_X12_spot (hro (0) 2 (by first | decide | omega) (by decide)) hl.1 rfl rfl (Nat.le_of_ble_eq_true rfl) dX12_alikeAt_54) hS (fun x984 H locs h983 hM hS => ?_)
                  have p985 := h983
                  refine zq_ian (n := 427) (j := (x984.toNatClampNeg)) E hZ hM k982 ⟨by decide, rfl⟩ ⟨by omega, by omega⟩ rfl dX12_alikeAt_57 (fun x986 ex986 gx986 => ?_)
                  clear gx986
                  refine lv_aload_n hx hb dX12_alikeAt_58 rfl (lv_at hl 4 rfl) ?_
                  refine zq_getr E hM k_h0 (zFX12_59 E hZ) ⟨by decide, by decide, by decide, rfl⟩ dX12_alikeAt_59 ?_
                  have k987 : zq_k X (zq_r X h0 28) = 63 := zq_lk L.1 k_h0 rfl (by decide)
                  refine lv_iload hx hb dX12_alikeAt_62 (lv_at hl 0 rfl) ?_
                  refine W.eq (g2 := F0 m 64 ls [.int j933, .ref (zq_r X h0 28), .int x986, .int j934]) rfl ?_
                  refine lv_iload_n hx hb dX12_alikeAt_64 rfl (lv_at hl 5 rfl) ?_
                  refine zq_pcalli (zq_rS (As := [.int j933, .int p1]) (rest := [.ref (zq_r X h0 28), .int x986, .int j934]) E hZ hM (c_X12_spot l X zk (zn) I L j933 p1 ⟨by omega, by omega⟩ ⟨by omega, by omega⟩) zmX12_430 zM_X12_spot (hro (0) 2 (by first | decide | omega) (by decide)) hl.1 rfl rfl (Nat.le_of_ble_eq_true rfl) dX12_alikeAt_65) hS (fun x989 H locs h988 hM hS => ?_)
                  have p990 := h988
                  refine zq_ian (n := 427) (j := (x989.toNatClampNeg)) E hZ hM k987 ⟨by decide, rfl⟩ ⟨by omega, by omega⟩ rfl dX12_alikeAt_68 (fun x991 ex991 gx991 => ?_)
                  clear gx991
                  refine lv_icmp_ne (tgt := 76) hx hb dX12_alikeAt_69 (by decide) (fun b992 => ?_) (fun b992 => ?_)
                  · have b992 := zi_ne b992 (rfl : x986.toInt = x986.toInt) (rfl : x991.toInt = x991.toInt)
                    exact J76 H locs ls hM hS (lv_sub hl [0, 1, 2, 3, 4, 5] rfl)
                  · have b992 := zi_eq b992 (rfl : x986.toInt = x986.toInt) (rfl : x991.toInt = x991.toInt)
                    refine lv_iconst (v := 1) hx hb dX12_alikeAt_72 (by decide +kernel) ?_
                    refine lv_goto (tgt := 77) hx hb dX12_alikeAt_73 (by decide) ?_
                    exact J77 H locs ls (1 : Int32) hM hS (by rw [zl_1]; decide) (lv_sub hl [0, 1, 2, 3, 4, 5] rfl)
        exact J18 (7 + 1 - (0 : Int32).toInt).toNat H locs ls (0 : Int32) (0 : Int32) (by omega) hM hS (by rw [zl_0]; decide) (lv_sub hl [0, 1, 2, 3, 4, 5] rfl)
  exact J4 (7 + 1 - (0 : Int32).toInt).toNat H locs ls (0 : Int32) (0 : Int32) (by omega) hM hS (by rw [zl_0]; decide) (by rw [zl_0]; decide) (lv_sub hl [0, 1, 2, 3] rfl)
