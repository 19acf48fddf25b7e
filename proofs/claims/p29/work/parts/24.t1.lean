set_option maxHeartbeats 8000000 in
set_option maxRecDepth 100000 in
theorem c_J9_max_7cf53 (l : Launch) (X : zq_X) (zk zn : Nat) (I : zq_M) (L : zq_L X)  (p1 : Int32) (p2 : Int32)  : Met l yJ9_max_7cf53 (zt_w yJ9_max_7cf53 cJ9_max_7cf53 2 (some .int)) (zq_rm (0)) (va_Pc [.int p1, .int p2] (zq_W X (zk, zn) I)) (va_Qi (fun (r : Int32) I2 => I2 = I ∧ ((r.toInt = p1.toInt ∧ p2.toInt ≤ p1.toInt) ∨ (r.toInt = p2.toInt ∧ p1.toInt ≤ p2.toInt))) (zq_E X (zk, zn)) (zq_A X)) 0 0 (zq_A X) := by
  refine zq_ofW (cc := cJ9_max_7cf53) (maxL := 2) (ret := (some .int)) (by decide +kernel) rfl ?_
  intro p e s m args below meth c s₁ B hml hv
  obtain ⟨hargs, hM, hZ⟩ := hv
  have hown : s.vm.findClass RJ9 = some m.cls := findClass_of_methodNamed B.named
  have hts := atoms_spec (ws := zt_w yJ9_max_7cf53 cJ9_max_7cf53 2 (some .int)) B.pre
  have E : CallFix p m c cJ9_max_7cf53 2 s args (Cond.code yJ9_max_7cf53 cJ9_max_7cf53 2 (some .int) :: zt) RJ9 := ⟨B.exec, B.bytes, hml, hown, hts⟩
  have hx := B.exec
  have hb := B.bytes
  have hr := B.returns
  have hlocks := B.notSynchronized
  clear B
  have hS : va_S (zq_A X) s.heap s.heap [] := va_S.rf
  have hl := lv_entry ([.int p1, .int p2]) (n := 2) (by exact Nat.le_of_ble_eq_true rfl)
  have hg : entryFrame m args 2 = F0 m 0 ((lg_sl ([.int p1, .int p2]) ++ List.replicate (2 - (lg_sl ([.int p1, .int p2])).length) Slot.unset).toArray) [] := by rw [hargs]; exact lg_entry_eq m ([.int p1, .int p2]) 2
  rw [hg]
  clear hg hargs
  generalize (lg_sl ([.int p1, .int p2]) ++ List.replicate (2 - (lg_sl ([.int p1, .int p2])).length) Slot.unset).toArray = ls at hl ⊢
  have hl : lv_has ls 2 [(0, .int p1), (1, .int p2)] := by exact hl
  obtain ⟨R, hRm⟩ : ∃ R : Room, R = (headSpec (zt_w yJ9_max_7cf53 cJ9_max_7cf53 2 (some .int)) (zq_rm (0))).room := ⟨_, rfl⟩
  rw [← hRm]
  generalize hQ : MQ below _ args s 0 0 (zq_A X) = Q
  obtain ⟨H, hH⟩ : ∃ H, H = s.heap := ⟨_, rfl⟩
  obtain ⟨locs, hlo⟩ : ∃ x : List Loc, x = [] := ⟨_, rfl⟩
  rw [show W p l e R s m args below meth c s.heap [] 0 0 Q = W p l e R s m args below meth c H locs 0 0 Q by rw [hH, hlo]]
  have hM : zq_hm X (zk, zn) I H := by rw [hH]; exact hM
  have hS : va_S (zq_A X) s.heap H locs := by rw [hH, hlo]; exact hS
  clear hH hlo
  refine lv_iload_n hx hb dJ9_max_7cf53_0 rfl (lv_at hl 0 rfl) ?_
  refine lv_iload_n hx hb dJ9_max_7cf53_1 rfl (lv_at hl 1 rfl) ?_
  refine lv_icmp_lt (tgt := 9) hx hb dJ9_max_7cf53_2 (by decide) (fun b101 => ?_) (fun b101 => ?_)
  · have b101 := zi_lt b101 (rfl : p1.toInt = p1.toInt) (rfl : p2.toInt = p2.toInt)
    refine lv_iload_n hx hb dJ9_max_7cf53_9 rfl (lv_at hl 1 rfl) ?_
    subst hQ
    exact zq_iret E hr hZ hM hS ⟨rfl, (by have := zi_rng p2; omega)⟩ hlocks dJ9_max_7cf53_10
  · have b101 := zi_nlt b101 (rfl : p1.toInt = p1.toInt) (rfl : p2.toInt = p2.toInt)
    refine lv_iload_n hx hb dJ9_max_7cf53_5 rfl (lv_at hl 0 rfl) ?_
    refine lv_goto (tgt := 10) hx hb dJ9_max_7cf53_6 (by decide) ?_
    subst hQ
    exact zq_iret E hr hZ hM hS ⟨rfl, (by have := zi_rng p1; omega)⟩ hlocks dJ9_max_7cf53_10
set_option maxHeartbeats 8000000 in
set_option maxRecDepth 100000 in
theorem c_J9_min_7cf53 (l : Launch) (X : zq_X) (zk zn : Nat) (I : zq_M) (L : zq_L X)  (p1 : Int32) (p2 : Int32)  : Met l yJ9_min_7cf53 (zt_w yJ9_min_7cf53 cJ9_min_7cf53 2 (some .int)) (zq_rm (0)) (va_Pc [.int p1, .int p2] (zq_W X (zk, zn) I)) (va_Qi (fun (r : Int32) I2 => I2 = I ∧ ((r.toInt = p1.toInt ∧ p1.toInt ≤ p2.toInt) ∨ (r.toInt = p2.toInt ∧ p2.toInt ≤ p1.toInt))) (zq_E X (zk, zn)) (zq_A X)) 0 0 (zq_A X) := by
  refine zq_ofW (cc := cJ9_min_7cf53) (maxL := 2) (ret := (some .int)) (by decide +kernel) rfl ?_
  intro p e s m args below meth c s₁ B hml hv
  obtain ⟨hargs, hM, hZ⟩ := hv
  have hown : s.vm.findClass RJ9 = some m.cls := findClass_of_methodNamed B.named
  have hts := atoms_spec (ws := zt_w yJ9_min_7cf53 cJ9_min_7cf53 2 (some .int)) B.pre
  have E : CallFix p m c cJ9_min_7cf53 2 s args (Cond.code yJ9_min_7cf53 cJ9_min_7cf53 2 (some .int) :: zt) RJ9 := ⟨B.exec, B.bytes, hml, hown, hts⟩
  have hx := B.exec
  have hb := B.bytes
  have hr := B.returns
  have hlocks := B.notSynchronized
  clear B
  have hS : va_S (zq_A X) s.heap s.heap [] := va_S.rf
  have hl := lv_entry ([.int p1, .int p2]) (n := 2) (by exact Nat.le_of_ble_eq_true rfl)
  have hg : entryFrame m args 2 = F0 m 0 ((lg_sl ([.int p1, .int p2]) ++ List.replicate (2 - (lg_sl ([.int p1, .int p2])).length) Slot.unset).toArray) [] := by rw [hargs]; exact lg_entry_eq m ([.int p1, .int p2]) 2
  rw [hg]
  clear hg hargs
  generalize (lg_sl ([.int p1, .int p2]) ++ List.replicate (2 - (lg_sl ([.int p1, .int p2])).length) Slot.unset).toArray = ls at hl ⊢
  have hl : lv_has ls 2 [(0, .int p1), (1, .int p2)] := by exact hl
  obtain ⟨R, hRm⟩ : ∃ R : Room, R = (headSpec (zt_w yJ9_min_7cf53 cJ9_min_7cf53 2 (some .int)) (zq_rm (0))).room := ⟨_, rfl⟩
  rw [← hRm]
  generalize hQ : MQ below _ args s 0 0 (zq_A X) = Q
  obtain ⟨H, hH⟩ : ∃ H, H = s.heap := ⟨_, rfl⟩
  obtain ⟨locs, hlo⟩ : ∃ x : List Loc, x = [] := ⟨_, rfl⟩
  rw [show W p l e R s m args below meth c s.heap [] 0 0 Q = W p l e R s m args below meth c H locs 0 0 Q by rw [hH, hlo]]
  have hM : zq_hm X (zk, zn) I H := by rw [hH]; exact hM
  have hS : va_S (zq_A X) s.heap H locs := by rw [hH, hlo]; exact hS
  clear hH hlo
  refine lv_iload_n hx hb dJ9_min_7cf53_0 rfl (lv_at hl 0 rfl) ?_
  refine lv_iload_n hx hb dJ9_min_7cf53_1 rfl (lv_at hl 1 rfl) ?_
  refine lv_icmp_gt (tgt := 9) hx hb dJ9_min_7cf53_2 (by decide) (fun b101 => ?_) (fun b101 => ?_)
  · have b101 := zi_lt b101 (rfl : p2.toInt = p2.toInt) (rfl : p1.toInt = p1.toInt)
    refine lv_iload_n hx hb dJ9_min_7cf53_9 rfl (lv_at hl 1 rfl) ?_
    subst hQ
    exact zq_iret E hr hZ hM hS ⟨rfl, (by have := zi_rng p2; omega)⟩ hlocks dJ9_min_7cf53_10
  · have b101 := zi_nlt b101 (rfl : p2.toInt = p2.toInt) (rfl : p1.toInt = p1.toInt)
    refine lv_iload_n hx hb dJ9_min_7cf53_5 rfl (lv_at hl 0 rfl) ?_
    refine lv_goto (tgt := 10) hx hb dJ9_min_7cf53_6 (by decide) ?_
    subst hQ
    exact zq_iret E hr hZ hM hS ⟨rfl, (by have := zi_rng p1; omega)⟩ hlocks dJ9_min_7cf53_10
set_option maxHeartbeats 8000000 in
set_option maxRecDepth 100000 in
theorem c_X11_isWithin (l : Launch) (X : zq_X) (zk zn : Nat) (I : zq_M) (L : zq_L X)  (p1 : Int32) (p2 : Int32) (p3 : Int32)  : Met l yX11_isWithin (zt_w yX11_isWithin cX11_isWithin 3 (some .boolean)) (zq_rm (0)) (va_Pc [.int p1, .int p2, .int p3] (zq_W X (zk, zn) I)) (va_Qi (fun (r : Int32) I2 => I2 = I ∧ ((r.toInt = 1 ∧ p2.toInt ≤ p1.toInt ∧ p1.toInt ≤ p3.toInt) ∨ (r.toInt = 0 ∧ (p1.toInt < p2.toInt ∨ p3.toInt < p1.toInt))) ∧ (0 ≤ r.toInt ∧ r.toInt ≤ 1)) (zq_E X (zk, zn)) (zq_A X)) 0 0 (zq_A X) := by
  refine Met.ofW (cc := cX11_isWithin) (maxL := 3) (ret := (some .boolean)) (by decide) rfl ?_
  intro p e s m args below meth c s₁ B hml hv
  obtain ⟨hargs, hM, hZ⟩ := hv
  have hown : s.vm.findClass RX11 = some m.cls := findClass_of_methodNamed B.named
  have hts := atoms_spec (ws := zt_w yX11_isWithin cX11_isWithin 3 (some .boolean)) B.pre
  have E : CallFix p m c cX11_isWithin 3 s args (Cond.code yX11_isWithin cX11_isWithin 3 (some .boolean) :: zt) RX11 := ⟨B.exec, B.bytes, hml, hown, hts⟩
  have hx := B.exec
  have hb := B.bytes
  have hr := B.returns
  have hlocks := B.notSynchronized
  clear B
  have hS : va_S (zq_A X) s.heap s.heap [] := va_S.rf
  have hl := lv_entry ([.int p1, .int p2, .int p3]) (n := 3) (by exact Nat.le_of_ble_eq_true rfl)
  have hg : entryFrame m args 3 = F0 m 0 ((lg_sl ([.int p1, .int p2, .int p3]) ++ List.replicate (3 - (lg_sl ([.int p1, .int p2, .int p3])).length) Slot.unset).toArray) [] := by rw [hargs]; exact lg_entry_eq m ([.int p1, .int p2, .int p3]) 3
  rw [hg]
  clear hg hargs
  generalize (lg_sl ([.int p1, .int p2, .int p3]) ++ List.replicate (3 - (lg_sl ([.int p1, .int p2, .int p3])).length) Slot.unset).toArray = ls at hl ⊢
  have hl : lv_has ls 3 [(0, .int p1), (1, .int p2), (2, .int p3)] := by exact hl
  obtain ⟨R, hRm⟩ : ∃ R : Room, R = (headSpec (zt_w yX11_isWithin cX11_isWithin 3 (some .boolean)) (zq_rm (0))).room := ⟨_, rfl⟩
  rw [← hRm]
  generalize hQ : MQ below _ args s 0 0 (zq_A X) = Q
  obtain ⟨H, hH⟩ : ∃ H, H = s.heap := ⟨_, rfl⟩
  obtain ⟨locs, hlo⟩ : ∃ x : List Loc, x = [] := ⟨_, rfl⟩
  rw [show W p l e R s m args below meth c s.heap [] 0 0 Q = W p l e R s m args below meth c H locs 0 0 Q by rw [hH, hlo]]
  have hM : zq_hm X (zk, zn) I H := by rw [hH]; exact hM
  have hS : va_S (zq_A X) s.heap H locs := by rw [hH, hlo]; exact hS
  clear hH hlo
  refine lv_iload_n hx hb dX11_isWithin_0 rfl (lv_at hl 0 rfl) ?_
  refine lv_iload_n hx hb dX11_isWithin_1 rfl (lv_at hl 1 rfl) ?_
  refine lv_icmp_lt (tgt := 14) hx hb dX11_isWithin_2 (by decide) (fun b101 => ?_) (fun b101 => ?_)
  · have b101 := zi_lt b101 (rfl : p1.toInt = p1.toInt) (rfl : p2.toInt = p2.toInt)
    refine lv_iconst (v := 0) hx hb dX11_isWithin_14 (by decide +kernel) ?_
    subst hQ
    exact zq_zret E hr hZ hM hS (show 0 ≤ (0 : Int32).toInt ∧ (0 : Int32).toInt ≤ 1 by decide +kernel) ⟨rfl, (by have := zl_0; omega), (by have := zl_0; omega)⟩ hlocks dX11_isWithin_15
  · have b101 := zi_nlt b101 (rfl : p1.toInt = p1.toInt) (rfl : p2.toInt = p2.toInt)
    refine lv_iload_n hx hb dX11_isWithin_5 rfl (lv_at hl 0 rfl) ?_
    refine lv_iload_n hx hb dX11_isWithin_6 rfl (lv_at hl 2 rfl) ?_
    refine lv_icmp_gt (tgt := 14) hx hb dX11_isWithin_7 (by decide) (fun b102 => ?_) (fun b102 => ?_)
    · have b102 := zi_lt b102 (rfl : p3.toInt = p3.toInt) (rfl : p1.toInt = p1.toInt)
      refine lv_iconst (v := 0) hx hb dX11_isWithin_14 (by decide +kernel) ?_
      subst hQ
      exact zq_zret E hr hZ hM hS (show 0 ≤ (0 : Int32).toInt ∧ (0 : Int32).toInt ≤ 1 by decide +kernel) ⟨rfl, (by have := zl_0; omega), (by have := zl_0; omega)⟩ hlocks dX11_isWithin_15
    · have b102 := zi_nlt b102 (rfl : p3.toInt = p3.toInt) (rfl : p1.toInt = p1.toInt)
      refine lv_iconst (v := 1) hx hb dX11_isWithin_10 (by decide +kernel) ?_
      refine lv_goto (tgt := 15) hx hb dX11_isWithin_11 (by decide) ?_
      subst hQ
      exact zq_zret E hr hZ hM hS (show 0 ≤ (1 : Int32).toInt ∧ (1 : Int32).toInt ≤ 1 by decide +kernel) ⟨rfl, (by have := zl_1; omega), (by have := zl_1; omega)⟩ hlocks dX11_isWithin_15
